set_option maxHeartbeats 4000000 in
set_option maxRecDepth 100000 in
theorem s_FW_isHold (l : Launch) (D : va_G) (cs : CS) (kf : KF) (T : TF) (O : List Nat) (X : va_W) (a0 w hw gw ch gq : Nat) (x1 : Int32) (t_a0 : T a0 = some (21, w, ch)) (t_w : isW T w hw gw) (t_ch : T ch = some (10, gq, 0)) (hO : okO T O [19, 21]) : TK l D cs kf yX11_isHold cX11_isHold 2 (some (.boolean)) { frames := 0, cells := 0, slots := 0, locals := 0 } [.ref a0, .int x1] T O X (Ti D cs (fun r u => u = (T, O, X) ∧ 0 ≤ r.toInt ∧ r.toInt ≤ 1 ∧ (r.toInt = 0 ∨ (0 ≤ x1.toInt ∧ x1.toInt < hw)))) := by
  refine tk_of (by decide) (Nat.le_of_ble_eq_true rfl) (fun p e s m below meth c ls A H locs hx hb hr hml hown hts hlocks hnm hkb hH hS hA hOX hks hE hl => ?_)
  have hown : s.vm.findClass RX11 = some m.cls := hown
  have hl : lv_has ls 2 [(0, .ref a0), (1, .int x1)] := hl
  have b1_w := t_w.2.1
  have b2_w := t_w.2.2
  refine lv_iload_n hx hb dX11_isHold_0 rfl (lv_at hl 1 rfl) ?_
  have J20 : ∀ (k20_0 : Int32) (H : Heap) (locs : List Loc) (ls : Array Slot), (0 ≤ k20_0.toInt) → (k20_0.toInt ≤ 1) → (k20_0.toInt = 0 ∨ (0 ≤ x1.toInt ∧ x1.toInt < hw)) → HT D cs A T O X H → va_S A s.heap H locs → lv_has ls 2 [] → W p l e { frames := 0, cells := 0, slots := 0, locals := 0 } s m [.ref a0, .int x1].toArray below meth c H locs 0 0 (MQ below (Ti D cs (fun r u => u = (T, O, X) ∧ 0 ≤ r.toInt ∧ r.toInt ≤ 1 ∧ (r.toInt = 0 ∨ (0 ≤ x1.toInt ∧ x1.toInt < hw))) A) [.ref a0, .int x1].toArray s 0 0 A) (F0 m 20 ls [.int k20_0]) := by
    intro k20_0 H locs ls l_k20_0 u_k20_0 ix20_0 hH hS hl
    exact te_z hx hb hr hlocks (nar01 (by omega) (by omega)) hH hS (⟨rfl, by omega, by omega, by omega⟩) dX11_isHold_20
  have J19 : ∀  (H : Heap) (locs : List Loc) (ls : Array Slot), HT D cs A T O X H → va_S A s.heap H locs → lv_has ls 2 [] → W p l e { frames := 0, cells := 0, slots := 0, locals := 0 } s m [.ref a0, .int x1].toArray below meth c H locs 0 0 (MQ below (Ti D cs (fun r u => u = (T, O, X) ∧ 0 ≤ r.toInt ∧ r.toInt ≤ 1 ∧ (r.toInt = 0 ∨ (0 ≤ x1.toInt ∧ x1.toInt < hw))) A) [.ref a0, .int x1].toArray s 0 0 A) (F0 m 19 ls []) := by
    intro  H locs ls  hH hS hl
    refine lv_iconst (v := 0) hx hb dX11_isHold_19 (by decide) ?_
    have z_0 : (0 : Int32).toInt = 0 := by decide
    exact J20 0 _ _ _ (by decide) (by decide) (by omega) hH hS (lv_sub hl [] rfl)
  refine lv_if_lt (tgt := 19) hx hb dX11_isHold_1 (by decide) (fun c1 => ?_) (fun c1 => ?_)
  · skip
    have tc1 := f_lt (k := 0) (by decide) c1
    exact J19  _ _ _  hH hS (lv_sub hl [] rfl)
  · skip
    have tc1 := f_nlt (k := 0) (by decide) c1
    refine lv_iload_n hx hb dX11_isHold_4 rfl (lv_at hl 1 rfl) ?_
    refine lv_aload_n hx hb dX11_isHold_5 rfl (lv_at hl 0 rfl) ?_
    refine t_get (ci := 11) (lst := ft11 w ch) (C := RX11) (F := TX11) (N := 20) hx hb hts uX11 hown hkb hH t_a0 (hO.no t_a0 (by decide)) (fun _ h9 => h9) rfl rfl 3 (by decide) rfl kw_363 (fun _ h9 => h9) dX11_isHold_6 (fun v9 h9 => ?_)
    have h9 : v9 = .ref w := h9
    subst h9
    refine t_get (ci := 9) (lst := ft9w hw gw) (C := RX9) (F := TX9) (N := 14) hx hb hts uX9 hown hkb hH t_w.1 (hO.no t_w.1 (by decide)) (fun fs => (ob9w t_w fs).mp) rfl rfl 0 (by decide) rfl kw_109 (fun _ h9 => h9) dX11_isHold_9 (fun v9 h9 => ?_)
    have h9 : v9 = .int (nI hw) := h9
    subst h9
    have e_hw : (nI hw).toInt = hw := nI_toInt (by have := t_w.2.1; omega)
    have b_hw := t_w.2.1
    refine lv_icmp_ge (tgt := 19) hx hb dX11_isHold_12 (by decide) (fun c12 => ?_) (fun c12 => ?_)
    · skip
      have fuc12 := full_i x1
      have fvc12 := full_i (nI hw)
      have tc12 := g_le c12
      exact J19  _ _ _  hH hS (lv_sub hl [] rfl)
    · skip
      have fuc12 := full_i x1
      have fvc12 := full_i (nI hw)
      have tc12 := g_nle c12
      refine lv_iconst (v := 1) hx hb dX11_isHold_15 (by decide) ?_
      refine lv_goto (tgt := 20) hx hb dX11_isHold_16 (by decide) ?_
      have z_1 : (1 : Int32).toInt = 1 := by decide
      exact J20 1 _ _ _ (by decide) (by decide) (by omega) hH hS (lv_sub hl [] rfl)
set_option maxHeartbeats 4000000 in
set_option maxRecDepth 100000 in
theorem s_FW_isGuide (l : Launch) (D : va_G) (cs : CS) (kf : KF) (T : TF) (O : List Nat) (X : va_W) (a0 w hw gw ch gq : Nat) (x1 : Int32) (t_a0 : T a0 = some (21, w, ch)) (t_w : isW T w hw gw) (t_ch : T ch = some (10, gq, 0)) (hO : okO T O [19, 21]) : TK l D cs kf yX11_isGuide cX11_isGuide 2 (some (.boolean)) { frames := 0, cells := 0, slots := 0, locals := 0 } [.ref a0, .int x1] T O X (Ti D cs (fun r u => u = (T, O, X) ∧ 0 ≤ r.toInt ∧ r.toInt ≤ 1 ∧ (r.toInt = 0 ∨ (0 ≤ x1.toInt ∧ x1.toInt < gw)))) := by
  refine tk_of (by decide) (Nat.le_of_ble_eq_true rfl) (fun p e s m below meth c ls A H locs hx hb hr hml hown hts hlocks hnm hkb hH hS hA hOX hks hE hl => ?_)
  have hown : s.vm.findClass RX11 = some m.cls := hown
  have hl : lv_has ls 2 [(0, .ref a0), (1, .int x1)] := hl
  have b1_w := t_w.2.1
  have b2_w := t_w.2.2
  refine lv_iload_n hx hb dX11_isGuide_0 rfl (lv_at hl 1 rfl) ?_
  have J20 : ∀ (k20_0 : Int32) (H : Heap) (locs : List Loc) (ls : Array Slot), (0 ≤ k20_0.toInt) → (k20_0.toInt ≤ 1) → (k20_0.toInt = 0 ∨ (0 ≤ x1.toInt ∧ x1.toInt < gw)) → HT D cs A T O X H → va_S A s.heap H locs → lv_has ls 2 [] → W p l e { frames := 0, cells := 0, slots := 0, locals := 0 } s m [.ref a0, .int x1].toArray below meth c H locs 0 0 (MQ below (Ti D cs (fun r u => u = (T, O, X) ∧ 0 ≤ r.toInt ∧ r.toInt ≤ 1 ∧ (r.toInt = 0 ∨ (0 ≤ x1.toInt ∧ x1.toInt < gw))) A) [.ref a0, .int x1].toArray s 0 0 A) (F0 m 20 ls [.int k20_0]) := by
    intro k20_0 H locs ls l_k20_0 u_k20_0 ix20_0 hH hS hl
    exact te_z hx hb hr hlocks (nar01 (by omega) (by omega)) hH hS (⟨rfl, by omega, by omega, by omega⟩) dX11_isGuide_20
  have J19 : ∀  (H : Heap) (locs : List Loc) (ls : Array Slot), HT D cs A T O X H → va_S A s.heap H locs → lv_has ls 2 [] → W p l e { frames := 0, cells := 0, slots := 0, locals := 0 } s m [.ref a0, .int x1].toArray below meth c H locs 0 0 (MQ below (Ti D cs (fun r u => u = (T, O, X) ∧ 0 ≤ r.toInt ∧ r.toInt ≤ 1 ∧ (r.toInt = 0 ∨ (0 ≤ x1.toInt ∧ x1.toInt < gw))) A) [.ref a0, .int x1].toArray s 0 0 A) (F0 m 19 ls []) := by
    intro  H locs ls  hH hS hl
    refine lv_iconst (v := 0) hx hb dX11_isGuide_19 (by decide) ?_
    have z_0 : (0 : Int32).toInt = 0 := by decide
    exact J20 0 _ _ _ (by decide) (by decide) (by omega) hH hS (lv_sub hl [] rfl)
  refine lv_if_lt (tgt := 19) hx hb dX11_isGuide_1 (by decide) (fun c1 => ?_) (fun c1 => ?_)
  · skip
    have tc1 := f_lt (k := 0) (by decide) c1
    exact J19  _ _ _  hH hS (lv_sub hl [] rfl)
  · skip
    have tc1 := f_nlt (k := 0) (by decide) c1
    refine lv_iload_n hx hb dX11_isGuide_4 rfl (lv_at hl 1 rfl) ?_
    refine lv_aload_n hx hb dX11_isGuide_5 rfl (lv_at hl 0 rfl) ?_
    refine t_get (ci := 11) (lst := ft11 w ch) (C := RX11) (F := TX11) (N := 20) hx hb hts uX11 hown hkb hH t_a0 (hO.no t_a0 (by decide)) (fun _ h9 => h9) rfl rfl 3 (by decide) rfl kw_363 (fun _ h9 => h9) dX11_isGuide_6 (fun v9 h9 => ?_)
    have h9 : v9 = .ref w := h9
    subst h9
    refine t_get (ci := 9) (lst := ft9w hw gw) (C := RX9) (F := TX9) (N := 14) hx hb hts uX9 hown hkb hH t_w.1 (hO.no t_w.1 (by decide)) (fun fs => (ob9w t_w fs).mp) rfl rfl 1 (by decide) rfl kw_112 (fun _ h9 => h9) dX11_isGuide_9 (fun v9 h9 => ?_)
    have h9 : v9 = .int (nI gw) := h9
    subst h9
    have e_gw : (nI gw).toInt = gw := nI_toInt (by have := t_w.2.2; omega)
    have b_gw := t_w.2.2
    refine lv_icmp_ge (tgt := 19) hx hb dX11_isGuide_12 (by decide) (fun c12 => ?_) (fun c12 => ?_)
    · skip
      have fuc12 := full_i x1
      have fvc12 := full_i (nI gw)
      have tc12 := g_le c12
      exact J19  _ _ _  hH hS (lv_sub hl [] rfl)
    · skip
      have fuc12 := full_i x1
      have fvc12 := full_i (nI gw)
      have tc12 := g_nle c12
      refine lv_iconst (v := 1) hx hb dX11_isGuide_15 (by decide) ?_
      refine lv_goto (tgt := 20) hx hb dX11_isGuide_16 (by decide) ?_
      have z_1 : (1 : Int32).toInt = 1 := by decide
      exact J20 1 _ _ _ (by decide) (by decide) (by omega) hH hS (lv_sub hl [] rfl)
set_option maxHeartbeats 4000000 in
set_option maxRecDepth 100000 in
theorem s_FW_isTray (l : Launch) (D : va_G) (cs : CS) (kf : KF) (T : TF) (O : List Nat) (X : va_W) (x0 : Int32)  (hO : okO T O []) : TK l D cs kf yX11_isTray cX11_isTray 1 (some (.boolean)) { frames := 0, cells := 0, slots := 0, locals := 0 } [.int x0] T O X (Ti D cs (fun r u => u = (T, O, X) ∧ 0 ≤ r.toInt ∧ r.toInt ≤ 1 ∧ (r.toInt = 0 ∨ (0 ≤ x0.toInt ∧ x0.toInt ≤ 3)))) := by
  refine tk_of (by decide) (Nat.le_of_ble_eq_true rfl) (fun p e s m below meth c ls A H locs hx hb hr hml hown hts hlocks hnm hkb hH hS hA hOX hks hE hl => ?_)
  have hown : s.vm.findClass RX11 = some m.cls := hown
  have hl : lv_has ls 1 [(0, .int x0)] := hl
  refine lv_iload_n hx hb dX11_isTray_0 rfl (lv_at hl 0 rfl) ?_
  have J14 : ∀ (k14_0 : Int32) (H : Heap) (locs : List Loc) (ls : Array Slot), (0 ≤ k14_0.toInt) → (k14_0.toInt ≤ 1) → (k14_0.toInt = 0 ∨ (0 ≤ x0.toInt ∧ x0.toInt ≤ 3)) → HT D cs A T O X H → va_S A s.heap H locs → lv_has ls 1 [] → W p l e { frames := 0, cells := 0, slots := 0, locals := 0 } s m [.int x0].toArray below meth c H locs 0 0 (MQ below (Ti D cs (fun r u => u = (T, O, X) ∧ 0 ≤ r.toInt ∧ r.toInt ≤ 1 ∧ (r.toInt = 0 ∨ (0 ≤ x0.toInt ∧ x0.toInt ≤ 3))) A) [.int x0].toArray s 0 0 A) (F0 m 14 ls [.int k14_0]) := by
    intro k14_0 H locs ls l_k14_0 u_k14_0 ix14_0 hH hS hl
    exact te_z hx hb hr hlocks (nar01 (by omega) (by omega)) hH hS (⟨rfl, by omega, by omega, by omega⟩) dX11_isTray_14
  have J13 : ∀  (H : Heap) (locs : List Loc) (ls : Array Slot), HT D cs A T O X H → va_S A s.heap H locs → lv_has ls 1 [] → W p l e { frames := 0, cells := 0, slots := 0, locals := 0 } s m [.int x0].toArray below meth c H locs 0 0 (MQ below (Ti D cs (fun r u => u = (T, O, X) ∧ 0 ≤ r.toInt ∧ r.toInt ≤ 1 ∧ (r.toInt = 0 ∨ (0 ≤ x0.toInt ∧ x0.toInt ≤ 3))) A) [.int x0].toArray s 0 0 A) (F0 m 13 ls []) := by
    intro  H locs ls  hH hS hl
    refine lv_iconst (v := 0) hx hb dX11_isTray_13 (by decide) ?_
    have z_0 : (0 : Int32).toInt = 0 := by decide
    exact J14 0 _ _ _ (by decide) (by decide) (by omega) hH hS (lv_sub hl [] rfl)
  refine lv_if_lt (tgt := 13) hx hb dX11_isTray_1 (by decide) (fun c1 => ?_) (fun c1 => ?_)
  · skip
    have tc1 := f_lt (k := 0) (by decide) c1
    exact J13  _ _ _  hH hS (lv_sub hl [] rfl)
  · skip
    have tc1 := f_nlt (k := 0) (by decide) c1
    refine lv_iload_n hx hb dX11_isTray_4 rfl (lv_at hl 0 rfl) ?_
    refine lv_iconst (v := 4) hx hb dX11_isTray_5 (by decide) ?_
    refine lv_icmp_ge (tgt := 13) hx hb dX11_isTray_6 (by decide) (fun c6 => ?_) (fun c6 => ?_)
    · skip
      have tc6 := f_ge (k := 4) (by decide) c6
      exact J13  _ _ _  hH hS (lv_sub hl [] rfl)
    · skip
      have tc6 := f_nge (k := 4) (by decide) c6
      refine lv_iconst (v := 1) hx hb dX11_isTray_9 (by decide) ?_
      refine lv_goto (tgt := 14) hx hb dX11_isTray_10 (by decide) ?_
      have z_1 : (1 : Int32).toInt = 1 := by decide
      exact J14 1 _ _ _ (by decide) (by decide) (by omega) hH hS (lv_sub hl [] rfl)
set_option maxHeartbeats 4000000 in
set_option maxRecDepth 100000 in
theorem s_FW_isImage (l : Launch) (D : va_G) (cs : CS) (kf : KF) (T : TF) (O : List Nat) (X : va_W) (x0 : Int32)  (hO : okO T O []) : TK l D cs kf yX11_isImage cX11_isImage 1 (some (.boolean)) { frames := 0, cells := 0, slots := 0, locals := 0 } [.int x0] T O X (Ti D cs (fun r u => u = (T, O, X) ∧ 0 ≤ r.toInt ∧ r.toInt ≤ 1 ∧ (r.toInt = 0 ∨ (0 ≤ x0.toInt ∧ x0.toInt ≤ 1)))) := by
  refine tk_of (by decide) (Nat.le_of_ble_eq_true rfl) (fun p e s m below meth c ls A H locs hx hb hr hml hown hts hlocks hnm hkb hH hS hA hOX hks hE hl => ?_)
  have hown : s.vm.findClass RX11 = some m.cls := hown
  have hl : lv_has ls 1 [(0, .int x0)] := hl
  refine lv_iload_n hx hb dX11_isImage_0 rfl (lv_at hl 0 rfl) ?_
  have J14 : ∀ (k14_0 : Int32) (H : Heap) (locs : List Loc) (ls : Array Slot), (0 ≤ k14_0.toInt) → (k14_0.toInt ≤ 1) → (k14_0.toInt = 0 ∨ (0 ≤ x0.toInt ∧ x0.toInt ≤ 1)) → HT D cs A T O X H → va_S A s.heap H locs → lv_has ls 1 [] → W p l e { frames := 0, cells := 0, slots := 0, locals := 0 } s m [.int x0].toArray below meth c H locs 0 0 (MQ below (Ti D cs (fun r u => u = (T, O, X) ∧ 0 ≤ r.toInt ∧ r.toInt ≤ 1 ∧ (r.toInt = 0 ∨ (0 ≤ x0.toInt ∧ x0.toInt ≤ 1))) A) [.int x0].toArray s 0 0 A) (F0 m 14 ls [.int k14_0]) := by
    intro k14_0 H locs ls l_k14_0 u_k14_0 ix14_0 hH hS hl
    exact te_z hx hb hr hlocks (nar01 (by omega) (by omega)) hH hS (⟨rfl, by omega, by omega, by omega⟩) dX11_isImage_14
  have J13 : ∀  (H : Heap) (locs : List Loc) (ls : Array Slot), HT D cs A T O X H → va_S A s.heap H locs → lv_has ls 1 [] → W p l e { frames := 0, cells := 0, slots := 0, locals := 0 } s m [.int x0].toArray below meth c H locs 0 0 (MQ below (Ti D cs (fun r u => u = (T, O, X) ∧ 0 ≤ r.toInt ∧ r.toInt ≤ 1 ∧ (r.toInt = 0 ∨ (0 ≤ x0.toInt ∧ x0.toInt ≤ 1))) A) [.int x0].toArray s 0 0 A) (F0 m 13 ls []) := by
    intro  H locs ls  hH hS hl
    refine lv_iconst (v := 0) hx hb dX11_isImage_13 (by decide) ?_
    have z_0 : (0 : Int32).toInt = 0 := by decide
    exact J14 0 _ _ _ (by decide) (by decide) (by omega) hH hS (lv_sub hl [] rfl)
  refine lv_if_lt (tgt := 13) hx hb dX11_isImage_1 (by decide) (fun c1 => ?_) (fun c1 => ?_)
  · skip
    have tc1 := f_lt (k := 0) (by decide) c1
    exact J13  _ _ _  hH hS (lv_sub hl [] rfl)
  · skip
    have tc1 := f_nlt (k := 0) (by decide) c1
    refine lv_iload_n hx hb dX11_isImage_4 rfl (lv_at hl 0 rfl) ?_
    refine lv_iconst (v := 2) hx hb dX11_isImage_5 (by decide) ?_
    refine lv_icmp_ge (tgt := 13) hx hb dX11_isImage_6 (by decide) (fun c6 => ?_) (fun c6 => ?_)
    · skip
      have tc6 := f_ge (k := 2) (by decide) c6
      exact J13  _ _ _  hH hS (lv_sub hl [] rfl)
    · skip
      have tc6 := f_nge (k := 2) (by decide) c6
      refine lv_iconst (v := 1) hx hb dX11_isImage_9 (by decide) ?_
      refine lv_goto (tgt := 14) hx hb dX11_isImage_10 (by decide) ?_
      have z_1 : (1 : Int32).toInt = 1 := by decide
      exact J14 1 _ _ _ (by decide) (by decide) (by omega) hH hS (lv_sub hl [] rfl)
set_option maxHeartbeats 4000000 in
set_option maxRecDepth 100000 in
theorem s_FW_asksRow (l : Launch) (D : va_G) (cs : CS) (kf : KF) (T : TF) (O : List Nat) (X : va_W) (x0 : Int32) (x1 : Int32) (l_x1 : 5 ≤ x1.toInt) (u_x1 : x1.toInt ≤ 14) (hO : okO T O []) : TK l D cs kf yX11_asksRow cX11_asksRow 2 (some (.boolean)) { frames := 0, cells := 0, slots := 0, locals := 0 } [.int x0, .int x1] T O X (Ti D cs (fun r u => u = (T, O, X) ∧ 0 ≤ r.toInt ∧ r.toInt ≤ 1)) := by
  refine tk_of (by decide) (Nat.le_of_ble_eq_true rfl) (fun p e s m below meth c ls A H locs hx hb hr hml hown hts hlocks hnm hkb hH hS hA hOX hks hE hl => ?_)
  have hown : s.vm.findClass RX11 = some m.cls := hown
  have hl : lv_has ls 2 [(0, .int x0), (1, .int x1)] := hl
  refine lv_iload_n hx hb dX11_asksRow_0 rfl (lv_at hl 0 rfl) ?_
  have J23 : ∀ (k23_0 : Int32) (H : Heap) (locs : List Loc) (ls : Array Slot), (0 ≤ k23_0.toInt) → (k23_0.toInt ≤ 1) → HT D cs A T O X H → va_S A s.heap H locs → lv_has ls 2 [] → W p l e { frames := 0, cells := 0, slots := 0, locals := 0 } s m [.int x0, .int x1].toArray below meth c H locs 0 0 (MQ below (Ti D cs (fun r u => u = (T, O, X) ∧ 0 ≤ r.toInt ∧ r.toInt ≤ 1) A) [.int x0, .int x1].toArray s 0 0 A) (F0 m 23 ls [.int k23_0]) := by
    intro k23_0 H locs ls l_k23_0 u_k23_0 hH hS hl
    exact te_z hx hb hr hlocks (nar01 (by omega) (by omega)) hH hS (⟨rfl, by omega, by omega⟩) dX11_asksRow_23
  have J18 : ∀  (H : Heap) (locs : List Loc) (ls : Array Slot), HT D cs A T O X H → va_S A s.heap H locs → lv_has ls 2 [] → W p l e { frames := 0, cells := 0, slots := 0, locals := 0 } s m [.int x0, .int x1].toArray below meth c H locs 0 0 (MQ below (Ti D cs (fun r u => u = (T, O, X) ∧ 0 ≤ r.toInt ∧ r.toInt ≤ 1) A) [.int x0, .int x1].toArray s 0 0 A) (F0 m 18 ls []) := by
    intro  H locs ls  hH hS hl
    refine lv_iconst (v := 1) hx hb dX11_asksRow_18 (by decide) ?_
    refine lv_goto (tgt := 23) hx hb dX11_asksRow_19 (by decide) ?_
    exact J23 1 _ _ _ (by decide) (by decide) hH hS (lv_sub hl [] rfl)
  refine lv_if_eq (tgt := 18) hx hb dX11_asksRow_1 (by decide) (fun c1 => ?_) (fun c1 => ?_)
  · skip
    have tc1 := f_eq (k := 0) (by decide) c1
    exact J18  _ _ _  hH hS (lv_sub hl [] rfl)
  · skip
    have tc1 := f_ne (k := 0) (by decide) c1
    refine lv_iload_n hx hb dX11_asksRow_4 rfl (lv_at hl 0 rfl) ?_
    refine lv_bipush (v := 10) hx hb dX11_asksRow_5 (by decide) ?_
    have J22 : ∀  (H : Heap) (locs : List Loc) (ls : Array Slot), HT D cs A T O X H → va_S A s.heap H locs → lv_has ls 2 [] → W p l e { frames := 0, cells := 0, slots := 0, locals := 0 } s m [.int x0, .int x1].toArray below meth c H locs 0 0 (MQ below (Ti D cs (fun r u => u = (T, O, X) ∧ 0 ≤ r.toInt ∧ r.toInt ≤ 1) A) [.int x0, .int x1].toArray s 0 0 A) (F0 m 22 ls []) := by
      intro  H locs ls  hH hS hl
      refine lv_iconst (v := 0) hx hb dX11_asksRow_22 (by decide) ?_
      exact J23 0 _ _ _ (by decide) (by decide) hH hS (lv_sub hl [] rfl)
    refine lv_icmp_lt (tgt := 22) hx hb dX11_asksRow_7 (by decide) (fun c7 => ?_) (fun c7 => ?_)
    · skip
      have tc7 := f_lt (k := 10) (by decide) c7
      exact J22  _ _ _  hH hS (lv_sub hl [] rfl)
    · skip
      have tc7 := f_nlt (k := 10) (by decide) c7
      refine lv_iload_n hx hb dX11_asksRow_10 rfl (lv_at hl 0 rfl) ?_
      refine lv_bipush (v := 10) hx hb dX11_asksRow_11 (by decide) ?_
      refine lv_iload_n hx hb dX11_asksRow_13 rfl (lv_at hl 1 rfl) ?_
      refine lv_iadd hx hb dX11_asksRow_14 ?_
      refine lv_topi (fun v14 ev14 => ?_)
      have tv14 : v14.toInt = (10) + x1.toInt := by rw [ev14]; exact add_i (by decide : (10 : Int32).toInt = 10) rfl (by omega) (by omega)
      refine lv_icmp_ge (tgt := 22) hx hb dX11_asksRow_15 (by decide) (fun c15 => ?_) (fun c15 => ?_)
      · skip
        have fuc15 := full_i x0
        have fvc15 := full_i v14
        have tc15 := g_le c15
        exact J22  _ _ _  hH hS (lv_sub hl [] rfl)
      · skip
        have fuc15 := full_i x0
        have fvc15 := full_i v14
        have tc15 := g_nle c15
        exact J18  _ _ _  hH hS (lv_sub hl [] rfl)
set_option maxHeartbeats 4000000 in
set_option maxRecDepth 100000 in
theorem s_FW_ofRow14 (l : Launch) (D : va_G) (cs : CS) (kf : KF) (T : TF) (O : List Nat) (X : va_W) (a0 : Nat) (x1 : Int32) (x2 : Int32) (t_a0 : T a0 = some (1, 14, 0)) (l_x1 : 0 ≤ x1.toInt) (u_x1 : x1.toInt ≤ 14) (hO : okO T O [1]) : TK l D cs kf yX11_ofRow cX11_ofRow 4 (some (.int)) { frames := 0, cells := 0, slots := 0, locals := 0 } [.ref a0, .int x1, .int x2] T O X (Ti D cs (fun r u => u = (T, O, X))) := by
  refine tk_of (by decide) (Nat.le_of_ble_eq_true rfl) (fun p e s m below meth c ls A H locs hx hb hr hml hown hts hlocks hnm hkb hH hS hA hOX hks hE hl => ?_)
  have hown : s.vm.findClass RX11 = some m.cls := hown
  have hl : lv_has ls 4 [(0, .ref a0), (1, .int x1), (2, .int x2)] := hl
  refine lv_iload_n hx hb dX11_ofRow_0 rfl (lv_at hl 1 rfl) ?_
  refine lv_if_ne (tgt := 6) hx hb dX11_ofRow_1 (by decide) (fun c1 => ?_) (fun c1 => ?_)
  · skip
    have tc1 := f_ne (k := 0) (by decide) c1
    refine lv_iload_n hx hb dX11_ofRow_6 rfl (lv_at hl 2 rfl) ?_
    refine lv_if_ne (tgt := 12) hx hb dX11_ofRow_7 (by decide) (fun c7 => ?_) (fun c7 => ?_)
    · skip
      have tc7 := f_ne (k := 0) (by decide) c7
      refine lv_iload_n hx hb dX11_ofRow_12 rfl (lv_at hl 2 rfl) ?_
      refine lv_bipush (v := 10) hx hb dX11_ofRow_13 (by decide) ?_
      refine lv_isub hx hb dX11_ofRow_15 ?_
      refine lv_topi (fun v15 ev15 => ?_)
      refine lv_istore_n (lv' := [(3, .int v15), (0, .ref a0), (1, .int x1), (2, .int x2)]) hx hb dX11_ofRow_16 rfl hl (by decide) rfl (fun ls hl => ?_)
      refine lv_iload_n hx hb dX11_ofRow_17 rfl (lv_at hl 0 rfl) ?_
      have J39 : ∀ (k39_0 : Int32) (H : Heap) (locs : List Loc) (ls : Array Slot), HT D cs A T O X H → va_S A s.heap H locs → lv_has ls 4 [] → W p l e { frames := 0, cells := 0, slots := 0, locals := 0 } s m [.ref a0, .int x1, .int x2].toArray below meth c H locs 0 0 (MQ below (Ti D cs (fun r u => u = (T, O, X)) A) [.ref a0, .int x1, .int x2].toArray s 0 0 A) (F0 m 39 ls [.int k39_0]) := by
        intro k39_0 H locs ls  hH hS hl
        exact te_i hx hb hr hlocks hH hS (rfl) dX11_ofRow_39
      have J38 : ∀  (H : Heap) (locs : List Loc) (ls : Array Slot), HT D cs A T O X H → va_S A s.heap H locs → lv_has ls 4 [] → W p l e { frames := 0, cells := 0, slots := 0, locals := 0 } s m [.ref a0, .int x1, .int x2].toArray below meth c H locs 0 0 (MQ below (Ti D cs (fun r u => u = (T, O, X)) A) [.ref a0, .int x1, .int x2].toArray s 0 0 A) (F0 m 38 ls []) := by
        intro  H locs ls  hH hS hl
        refine lv_iconst (v := (-1)) hx hb dX11_ofRow_38 (by decide) ?_
        exact J39 (-1) _ _ _  hH hS (lv_sub hl [] rfl)
      refine lv_if_lt (tgt := 38) hx hb dX11_ofRow_18 (by decide) (fun c18 => ?_) (fun c18 => ?_)
      · skip
        have tc18 := f_lt (k := 0) (by decide) c18
        exact J38  _ _ _  hH hS (lv_sub hl [] rfl)
      · skip
        have tc18 := f_nlt (k := 0) (by decide) c18
        refine lv_iload_n hx hb dX11_ofRow_21 rfl (lv_at hl 0 rfl) ?_
        refine lv_iload_n hx hb dX11_ofRow_22 rfl (lv_at hl 2 rfl) ?_
        refine lv_icmp_ge (tgt := 38) hx hb dX11_ofRow_23 (by decide) (fun c23 => ?_) (fun c23 => ?_)
        · skip
          have fuc23 := full_i v15
          have fvc23 := full_i x1
          have tc23 := g_le c23
          exact J38  _ _ _  hH hS (lv_sub hl [] rfl)
        · skip
          have fuc23 := full_i v15
          have fvc23 := full_i x1
          have tc23 := g_nle c23
          refine lv_iload_n hx hb dX11_ofRow_26 rfl (lv_at hl 0 rfl) ?_
          refine lv_aload_n hx hb dX11_ofRow_27 rfl (lv_at hl 1 rfl) ?_
          refine t_len1 hx hb hkb hH t_a0 (hO.no t_a0 (by decide)) dX11_ofRow_28 ?_
          refine lv_topc (y := 14) (by rfl) ?_
          refine lv_icmp_ge (tgt := 38) hx hb dX11_ofRow_29 (by decide) (fun c29 => ?_) (fun c29 => ?_)
          · skip
            have tc29 := f_ge (k := 14) (by decide) c29
            exfalso; omega
          · skip
            have tc29 := f_nge (k := 14) (by decide) c29
            refine lv_aload_n hx hb dX11_ofRow_32 rfl (lv_at hl 1 rfl) ?_
            refine lv_iload_n hx hb dX11_ofRow_33 rfl (lv_at hl 0 rfl) ?_
            refine t_ild hx hb hkb hH t_a0 (hO.no t_a0 (by decide)) (by omega) (by omega) dX11_ofRow_34 (fun v34 h9 => ?_)
            refine lv_goto (tgt := 39) hx hb dX11_ofRow_35 (by decide) ?_
            exact J39 v34 _ _ _  hH hS (lv_sub hl [] rfl)
    · skip
      have tc7 := f_eq (k := 0) (by decide) c7
      refine lv_iload_n hx hb dX11_ofRow_10 rfl (lv_at hl 1 rfl) ?_
      exact te_i hx hb hr hlocks hH hS (rfl) dX11_ofRow_11
  · skip
    have tc1 := f_eq (k := 0) (by decide) c1
    refine lv_iconst (v := (-1)) hx hb dX11_ofRow_4 (by decide) ?_
    exact te_i hx hb hr hlocks hH hS (rfl) dX11_ofRow_5
set_option maxHeartbeats 4000000 in
set_option maxRecDepth 100000 in
theorem s_FW_ofRow5 (l : Launch) (D : va_G) (cs : CS) (kf : KF) (T : TF) (O : List Nat) (X : va_W) (a0 : Nat) (x1 : Int32) (x2 : Int32) (t_a0 : T a0 = some (1, 5, 0)) (hO : okO T O [1]) : TK l D cs kf yX11_ofRow cX11_ofRow 4 (some (.int)) { frames := 0, cells := 0, slots := 0, locals := 0 } [.ref a0, .int x1, .int x2] T O X (Ti D cs (fun r u => u = (T, O, X))) := by
  refine tk_of (by decide) (Nat.le_of_ble_eq_true rfl) (fun p e s m below meth c ls A H locs hx hb hr hml hown hts hlocks hnm hkb hH hS hA hOX hks hE hl => ?_)
  have hown : s.vm.findClass RX11 = some m.cls := hown
  have hl : lv_has ls 4 [(0, .ref a0), (1, .int x1), (2, .int x2)] := hl
  refine lv_iload_n hx hb dX11_ofRow_0 rfl (lv_at hl 1 rfl) ?_
  refine lv_if_ne (tgt := 6) hx hb dX11_ofRow_1 (by decide) (fun c1 => ?_) (fun c1 => ?_)
  · skip
    have tc1 := f_ne (k := 0) (by decide) c1
    refine lv_iload_n hx hb dX11_ofRow_6 rfl (lv_at hl 2 rfl) ?_
    refine lv_if_ne (tgt := 12) hx hb dX11_ofRow_7 (by decide) (fun c7 => ?_) (fun c7 => ?_)
    · skip
      have tc7 := f_ne (k := 0) (by decide) c7
      refine lv_iload_n hx hb dX11_ofRow_12 rfl (lv_at hl 2 rfl) ?_
      refine lv_bipush (v := 10) hx hb dX11_ofRow_13 (by decide) ?_
      refine lv_isub hx hb dX11_ofRow_15 ?_
      refine lv_topi (fun v15 ev15 => ?_)
      refine lv_istore_n (lv' := [(3, .int v15), (0, .ref a0), (1, .int x1), (2, .int x2)]) hx hb dX11_ofRow_16 rfl hl (by decide) rfl (fun ls hl => ?_)
      refine lv_iload_n hx hb dX11_ofRow_17 rfl (lv_at hl 0 rfl) ?_
      have J39 : ∀ (k39_0 : Int32) (H : Heap) (locs : List Loc) (ls : Array Slot), HT D cs A T O X H → va_S A s.heap H locs → lv_has ls 4 [] → W p l e { frames := 0, cells := 0, slots := 0, locals := 0 } s m [.ref a0, .int x1, .int x2].toArray below meth c H locs 0 0 (MQ below (Ti D cs (fun r u => u = (T, O, X)) A) [.ref a0, .int x1, .int x2].toArray s 0 0 A) (F0 m 39 ls [.int k39_0]) := by
        intro k39_0 H locs ls  hH hS hl
        exact te_i hx hb hr hlocks hH hS (rfl) dX11_ofRow_39
      have J38 : ∀  (H : Heap) (locs : List Loc) (ls : Array Slot), HT D cs A T O X H → va_S A s.heap H locs → lv_has ls 4 [] → W p l e { frames := 0, cells := 0, slots := 0, locals := 0 } s m [.ref a0, .int x1, .int x2].toArray below meth c H locs 0 0 (MQ below (Ti D cs (fun r u => u = (T, O, X)) A) [.ref a0, .int x1, .int x2].toArray s 0 0 A) (F0 m 38 ls []) := by
        intro  H locs ls  hH hS hl
        refine lv_iconst (v := (-1)) hx hb dX11_ofRow_38 (by decide) ?_
        exact J39 (-1) _ _ _  hH hS (lv_sub hl [] rfl)
      refine lv_if_lt (tgt := 38) hx hb dX11_ofRow_18 (by decide) (fun c18 => ?_) (fun c18 => ?_)
      · skip
        have tc18 := f_lt (k := 0) (by decide) c18
        exact J38  _ _ _  hH hS (lv_sub hl [] rfl)
      · skip
        have tc18 := f_nlt (k := 0) (by decide) c18
        refine lv_iload_n hx hb dX11_ofRow_21 rfl (lv_at hl 0 rfl) ?_
        refine lv_iload_n hx hb dX11_ofRow_22 rfl (lv_at hl 2 rfl) ?_
        refine lv_icmp_ge (tgt := 38) hx hb dX11_ofRow_23 (by decide) (fun c23 => ?_) (fun c23 => ?_)
        · skip
          have fuc23 := full_i v15
          have fvc23 := full_i x1
          have tc23 := g_le c23
          exact J38  _ _ _  hH hS (lv_sub hl [] rfl)
        · skip
          have fuc23 := full_i v15
          have fvc23 := full_i x1
          have tc23 := g_nle c23
          refine lv_iload_n hx hb dX11_ofRow_26 rfl (lv_at hl 0 rfl) ?_
          refine lv_aload_n hx hb dX11_ofRow_27 rfl (lv_at hl 1 rfl) ?_
          refine t_len1 hx hb hkb hH t_a0 (hO.no t_a0 (by decide)) dX11_ofRow_28 ?_
          refine lv_topc (y := 5) (by rfl) ?_
          refine lv_icmp_ge (tgt := 38) hx hb dX11_ofRow_29 (by decide) (fun c29 => ?_) (fun c29 => ?_)
          · skip
            have tc29 := f_ge (k := 5) (by decide) c29
            exact J38  _ _ _  hH hS (lv_sub hl [] rfl)
          · skip
            have tc29 := f_nge (k := 5) (by decide) c29
            refine lv_aload_n hx hb dX11_ofRow_32 rfl (lv_at hl 1 rfl) ?_
            refine lv_iload_n hx hb dX11_ofRow_33 rfl (lv_at hl 0 rfl) ?_
            refine t_ild hx hb hkb hH t_a0 (hO.no t_a0 (by decide)) (by omega) (by omega) dX11_ofRow_34 (fun v34 h9 => ?_)
            refine lv_goto (tgt := 39) hx hb dX11_ofRow_35 (by decide) ?_
            exact J39 v34 _ _ _  hH hS (lv_sub hl [] rfl)
    · skip
      have tc7 := f_eq (k := 0) (by decide) c7
      refine lv_iload_n hx hb dX11_ofRow_10 rfl (lv_at hl 1 rfl) ?_
      exact te_i hx hb hr hlocks hH hS (rfl) dX11_ofRow_11
  · skip
    have tc1 := f_eq (k := 0) (by decide) c1
    refine lv_iconst (v := (-1)) hx hb dX11_ofRow_4 (by decide) ?_
    exact te_i hx hb hr hlocks hH hS (rfl) dX11_ofRow_5
set_option maxHeartbeats 4000000 in
set_option maxRecDepth 100000 in
theorem s_FW_drawn (l : Launch) (D : va_G) (cs : CS) (kf : KF) (T : TF) (O : List Nat) (X : va_W) (x0 : Int32)  (hO : okO T O []) : TK l D cs kf yX11_drawn cX11_drawn 1 (some (.int)) { frames := 0, cells := 0, slots := 0, locals := 0 } [.int x0] T O X (Ti D cs (fun r u => u = (T, O, X))) := by
  refine tk_of (by decide) (Nat.le_of_ble_eq_true rfl) (fun p e s m below meth c ls A H locs hx hb hr hml hown hts hlocks hnm hkb hH hS hA hOX hks hE hl => ?_)
  have hown : s.vm.findClass RX11 = some m.cls := hown
  have hl : lv_has ls 1 [(0, .int x0)] := hl
  refine lv_ldcw hx hb hown (hts _ kw_965) dX11_drawn_0 ?_
  refine lv_iload_n hx hb dX11_drawn_3 rfl (lv_at hl 0 rfl) ?_
  refine lv_imul hx hb dX11_drawn_4 ?_
  refine lv_topi (fun v4 ev4 => ?_)
  refine lv_sipush (v := 12345) hx hb dX11_drawn_5 (by decide) ?_
  refine lv_iadd hx hb dX11_drawn_8 ?_
  refine lv_topi (fun v8 ev8 => ?_)
  exact te_i hx hb hr hlocks hH hS (rfl) dX11_drawn_9
set_option maxHeartbeats 4000000 in
set_option maxRecDepth 100000 in
theorem s_FW_thereOn (l : Launch) (D : va_G) (cs : CS) (kf : KF) (T : TF) (O : List Nat) (X : va_W) (a0 w hw gw ch gq : Nat) (x1 : Int32) (t_a0 : T a0 = some (21, w, ch)) (t_w : isW T w hw gw) (t_ch : T ch = some (10, gq, 0)) (hO : okO T O [1, 16, 19, 21]) : TK l D cs kf yX11_thereOn cX11_thereOn 2 (some (.int)) { frames := 1, cells := 0, slots := 0, locals := 23 } [.ref a0, .int x1] T O X (Ti D cs (fun r u => u = (T, O, X) ∧ 0 ≤ r.toInt ∧ r.toInt ≤ 16383)) := by
  refine tk_of (by decide) (Nat.le_of_ble_eq_true rfl) (fun p e s m below meth c ls A H locs hx hb hr hml hown hts hlocks hnm hkb hH hS hA hOX hks hE hl => ?_)
  have hown : s.vm.findClass RX11 = some m.cls := hown
  have hl : lv_has ls 2 [(0, .ref a0), (1, .int x1)] := hl
  have b1_w := t_w.2.1
  have b2_w := t_w.2.2
  refine lv_aload_n hx hb dX11_thereOn_0 rfl (lv_at hl 0 rfl) ?_
  refine t_get (ci := 11) (lst := ft11 w ch) (C := RX11) (F := TX11) (N := 20) hx hb hts uX11 hown hkb hH t_a0 (hO.no t_a0 (by decide)) (fun _ h9 => h9) rfl rfl 3 (by decide) rfl kw_363 (fun _ h9 => h9) dX11_thereOn_1 (fun v9 h9 => ?_)
  have h9 : v9 = .ref w := h9
  subst h9
  refine lv_iload_n hx hb dX11_thereOn_4 rfl (lv_at hl 1 rfl) ?_
  refine tk_i hH hS hA (tr_V (n := 1) (As := [.int x1]) hx hb hml hown hts hkb hH hOX hks hE hS hA (s_Wall_comeBy l D cs kf T O X w hw gw x1 t_w (hO.sub (by decide))) kw_778 kw_779 kw_780 kw_5 kw_781 (by decide +kernel) ⟨Nat.le_of_ble_eq_true rfl, Nat.le_of_ble_eq_true rfl⟩ (HT.recv (ci := 9) hkb hH t_w.1 (hO.no t_w.1 (by decide)) rfl) rfl rfl hl.1 (Nat.le_of_ble_eq_true rfl) dX11_thereOn_5 ⟨Nat.le_of_ble_eq_true rfl, Nat.le_of_ble_eq_true rfl⟩) (fun v5 u H locs hz9 hH hS => ?_)
  obtain ⟨rfl, l_v5, u_v5⟩ := hz9
  have hH : HT D cs A T O X H := hH
  refine W.widen (k := 0) (n := 0) (Nat.le_of_ble_eq_true rfl) (Nat.le_of_ble_eq_true rfl) ?_
  refine lv_aload_n hx hb dX11_thereOn_8 rfl (lv_at hl 0 rfl) ?_
  refine t_get (ci := 11) (lst := ft11 w ch) (C := RX11) (F := TX11) (N := 20) hx hb hts uX11 hown hkb hH t_a0 (hO.no t_a0 (by decide)) (fun _ h9 => h9) rfl rfl 4 (by decide) rfl kw_364 (fun _ h9 => h9) dX11_thereOn_9 (fun v9 h9 => ?_)
  obtain ⟨v9, rfl, t_v9⟩ := h9
  refine t_get (ci := 6) (lst := ft6 0 0) (C := RX6) (F := TX6) (N := 6) hx hb hts uX6 hown hkb hH t_v9 (hO.no t_v9 (by decide)) (fun _ h9 => h9) rfl rfl 1 (by decide) rfl kw_188 (fun _ h9 => h9) dX11_thereOn_12 (fun v9 h9 => ?_)
  obtain ⟨v12, rfl⟩ := h9
  refine lv_iconst (v := (-1)) hx hb dX11_thereOn_15 (by decide) ?_
  refine lv_ixor hx hb dX11_thereOn_16 ?_
  refine lv_topi (fun v16 ev16 => ?_)
  refine lv_iand hx hb dX11_thereOn_17 ?_
  refine lv_topi (fun v17 ev17 => ?_)
  have tv17 : 0 ≤ v17.toInt ∧ v17.toInt ≤ v5.toInt := by rw [ev17]; exact and_l (by omega)
  exact te_i hx hb hr hlocks hH hS (⟨rfl, by omega, by omega⟩) dX11_thereOn_18
set_option maxHeartbeats 4000000 in
set_option maxRecDepth 100000 in
theorem s_FW_openOn (l : Launch) (D : va_G) (cs : CS) (kf : KF) (T : TF) (O : List Nat) (X : va_W) (a0 w hw gw ch gq : Nat) (x1 : Int32) (t_a0 : T a0 = some (21, w, ch)) (t_w : isW T w hw gw) (t_ch : T ch = some (10, gq, 0)) (hO : okO T O [1, 16, 19, 21]) : TK l D cs kf yX11_openOn cX11_openOn 2 (some (.int)) { frames := 2, cells := 0, slots := 0, locals := 44 } [.ref a0, .int x1] T O X (Ti D cs (fun r u => u = (T, O, X) ∧ 0 ≤ r.toInt ∧ r.toInt ≤ 16383)) := by
  refine tk_of (by decide) (Nat.le_of_ble_eq_true rfl) (fun p e s m below meth c ls A H locs hx hb hr hml hown hts hlocks hnm hkb hH hS hA hOX hks hE hl => ?_)
  have hown : s.vm.findClass RX11 = some m.cls := hown
  have hl : lv_has ls 2 [(0, .ref a0), (1, .int x1)] := hl
  have b1_w := t_w.2.1
  have b2_w := t_w.2.2
  refine lv_aload_n hx hb dX11_openOn_0 rfl (lv_at hl 0 rfl) ?_
  refine lv_iload_n hx hb dX11_openOn_1 rfl (lv_at hl 1 rfl) ?_
  refine tk_i hH hS hA (tr_V (n := 1) (As := [.int x1]) hx hb hml hown hts hkb hH hOX hks hE hS hA (s_FW_thereOn l D cs kf T O X a0 w hw gw ch gq x1 t_a0 t_w t_ch (hO.sub (by decide))) kw_774 kw_776 ks_18 kw_1 kw_777 (by decide +kernel) ⟨Nat.le_of_ble_eq_true rfl, Nat.le_of_ble_eq_true rfl⟩ (HT.recv (ci := 11) hkb hH t_a0 (hO.no t_a0 (by decide)) rfl) rfl rfl hl.1 (Nat.le_of_ble_eq_true rfl) dX11_openOn_2 ⟨Nat.le_of_ble_eq_true rfl, Nat.le_of_ble_eq_true rfl⟩) (fun v2 u H locs hz9 hH hS => ?_)
  obtain ⟨rfl, l_v2, u_v2⟩ := hz9
  have hH : HT D cs A T O X H := hH
  refine W.widen (k := 0) (n := 0) (Nat.le_of_ble_eq_true rfl) (Nat.le_of_ble_eq_true rfl) ?_
  refine lv_aload_n hx hb dX11_openOn_5 rfl (lv_at hl 0 rfl) ?_
  refine t_get (ci := 11) (lst := ft11 w ch) (C := RX11) (F := TX11) (N := 20) hx hb hts uX11 hown hkb hH t_a0 (hO.no t_a0 (by decide)) (fun _ h9 => h9) rfl rfl 4 (by decide) rfl kw_364 (fun _ h9 => h9) dX11_openOn_6 (fun v9 h9 => ?_)
  obtain ⟨v6, rfl, t_v6⟩ := h9
  refine t_get (ci := 6) (lst := ft6 0 0) (C := RX6) (F := TX6) (N := 6) hx hb hts uX6 hown hkb hH t_v6 (hO.no t_v6 (by decide)) (fun _ h9 => h9) rfl rfl 0 (by decide) rfl kw_186 (fun _ h9 => h9) dX11_openOn_9 (fun v9 h9 => ?_)
  obtain ⟨v9, rfl⟩ := h9
  refine lv_iconst (v := (-1)) hx hb dX11_openOn_12 (by decide) ?_
  refine lv_ixor hx hb dX11_openOn_13 ?_
  refine lv_topi (fun v13 ev13 => ?_)
  refine lv_iand hx hb dX11_openOn_14 ?_
  refine lv_topi (fun v14 ev14 => ?_)
  have tv14 : 0 ≤ v14.toInt ∧ v14.toInt ≤ v2.toInt := by rw [ev14]; exact and_l (by omega)
  exact te_i hx hb hr hlocks hH hS (⟨rfl, by omega, by omega⟩) dX11_openOn_15
set_option maxHeartbeats 4000000 in
set_option maxRecDepth 100000 in
theorem s_FW_openNow (l : Launch) (D : va_G) (cs : CS) (kf : KF) (T : TF) (O : List Nat) (X : va_W) (a0 w hw gw ch gq : Nat) (t_a0 : T a0 = some (21, w, ch)) (t_w : isW T w hw gw) (t_ch : T ch = some (10, gq, 0)) (hO : okO T O [1, 16, 19, 21]) : TK l D cs kf yX11_openNow cX11_openNow 1 (some (.int)) { frames := 3, cells := 0, slots := 0, locals := 65 } [.ref a0] T O X (Ti D cs (fun r u => u = (T, O, X) ∧ 0 ≤ r.toInt ∧ r.toInt ≤ 16383)) := by
  refine tk_of (by decide) (Nat.le_of_ble_eq_true rfl) (fun p e s m below meth c ls A H locs hx hb hr hml hown hts hlocks hnm hkb hH hS hA hOX hks hE hl => ?_)
  have hown : s.vm.findClass RX11 = some m.cls := hown
  have hl : lv_has ls 1 [(0, .ref a0)] := hl
  have b1_w := t_w.2.1
  have b2_w := t_w.2.2
  refine lv_aload_n hx hb dX11_openNow_0 rfl (lv_at hl 0 rfl) ?_
  refine lv_aload_n hx hb dX11_openNow_1 rfl (lv_at hl 0 rfl) ?_
  refine t_get (ci := 11) (lst := ft11 w ch) (C := RX11) (F := TX11) (N := 20) hx hb hts uX11 hown hkb hH t_a0 (hO.no t_a0 (by decide)) (fun _ h9 => h9) rfl rfl 4 (by decide) rfl kw_364 (fun _ h9 => h9) dX11_openNow_2 (fun v9 h9 => ?_)
  obtain ⟨v2, rfl, t_v2⟩ := h9
  refine t_get (ci := 6) (lst := ft6 0 0) (C := RX6) (F := TX6) (N := 6) hx hb hts uX6 hown hkb hH t_v2 (hO.no t_v2 (by decide)) (fun _ h9 => h9) rfl rfl 2 (by decide) rfl kw_191 (fun _ h9 => h9) dX11_openNow_5 (fun v9 h9 => ?_)
  obtain ⟨v5, rfl⟩ := h9
  refine tk_i hH hS hA (tr_V (n := 1) (As := [.int v5]) hx hb hml hown hts hkb hH hOX hks hE hS hA (s_FW_openOn l D cs kf T O X a0 w hw gw ch gq v5 t_a0 t_w t_ch (hO.sub (by decide))) kw_782 kw_784 ks_19 kw_1 kw_785 (by decide +kernel) ⟨Nat.le_of_ble_eq_true rfl, Nat.le_of_ble_eq_true rfl⟩ (HT.recv (ci := 11) hkb hH t_a0 (hO.no t_a0 (by decide)) rfl) rfl rfl hl.1 (Nat.le_of_ble_eq_true rfl) dX11_openNow_8 ⟨Nat.le_of_ble_eq_true rfl, Nat.le_of_ble_eq_true rfl⟩) (fun v8 u H locs hz9 hH hS => ?_)
  obtain ⟨rfl, l_v8, u_v8⟩ := hz9
  have hH : HT D cs A T O X H := hH
  refine W.widen (k := 0) (n := 0) (Nat.le_of_ble_eq_true rfl) (Nat.le_of_ble_eq_true rfl) ?_
  exact te_i hx hb hr hlocks hH hS (⟨rfl, by omega, by omega⟩) dX11_openNow_11
set_option maxHeartbeats 4000000 in
set_option maxRecDepth 100000 in
theorem s_FW_rowsOf (l : Launch) (D : va_G) (cs : CS) (kf : KF) (T : TF) (O : List Nat) (X : va_W) (a0 w hw gw ch gq : Nat) (x1 : Int32) (t_a0 : T a0 = some (21, w, ch)) (t_w : isW T w hw gw) (t_ch : T ch = some (10, gq, 0)) (l_x1 : 0 ≤ x1.toInt) (u_x1 : x1.toInt < gw) (hO : okO T O [1, 7, 15, 16, 19, 21]) : TK l D cs kf yX11_rowsOf cX11_rowsOf 3 (some (.object "FootholdWall$Rows")) { frames := 2, cells := 0, slots := 0, locals := 46 } [.ref a0, .int x1] T O X (Tr D cs (fun u => u.1 = (T, O, X) ∧ T u.2 = some (15, 0, 0))) := by
  refine tk_of (by decide) (Nat.le_of_ble_eq_true rfl) (fun p e s m below meth c ls A H locs hx hb hr hml hown hts hlocks hnm hkb hH hS hA hOX hks hE hl => ?_)
  have hown : s.vm.findClass RX11 = some m.cls := hown
  have hl : lv_has ls 3 [(0, .ref a0), (1, .int x1)] := hl
  have b1_w := t_w.2.1
  have b2_w := t_w.2.2
  refine lv_aload_n hx hb dX11_rowsOf_0 rfl (lv_at hl 0 rfl) ?_
  refine t_get (ci := 11) (lst := ft11 w ch) (C := RX11) (F := TX11) (N := 20) hx hb hts uX11 hown hkb hH t_a0 (hO.no t_a0 (by decide)) (fun _ h9 => h9) rfl rfl 12 (by decide) rfl kw_372 (fun _ h9 => h9) dX11_rowsOf_1 (fun v9 h9 => ?_)
  obtain ⟨v1, rfl, t_v1⟩ := h9
  refine lv_iload_n hx hb dX11_rowsOf_4 rfl (lv_at hl 1 rfl) ?_
  refine t_qld7 hx hb hkb hH t_v1 (hO.no t_v1 (by decide)) (by omega) (by omega) dX11_rowsOf_5 (fun v5 t_v5 => ?_)
  refine lv_astore_n (lv' := [(2, .ref v5), (0, .ref a0), (1, .int x1)]) hx hb dX11_rowsOf_6 rfl hl (by decide) rfl (fun ls hl => ?_)
  refine lv_aload_n hx hb dX11_rowsOf_7 rfl (lv_at hl 0 rfl) ?_
  refine lv_aload_n hx hb dX11_rowsOf_8 rfl (lv_at hl 1 rfl) ?_
  refine t_get (ci := 11) (lst := ft11 w ch) (C := RX11) (F := TX11) (N := 20) hx hb hts uX11 hown hkb hH t_a0 (hO.no t_a0 (by decide)) (fun _ h9 => h9) rfl rfl 3 (by decide) rfl kw_363 (fun _ h9 => h9) dX11_rowsOf_9 (fun v9 h9 => ?_)
  have h9 : v9 = .ref w := h9
  subst h9
  refine lv_aload_n hx hb dX11_rowsOf_12 rfl (lv_at hl 1 rfl) ?_
  refine t_get (ci := 11) (lst := ft11 w ch) (C := RX11) (F := TX11) (N := 20) hx hb hts uX11 hown hkb hH t_a0 (hO.no t_a0 (by decide)) (fun _ h9 => h9) rfl rfl 3 (by decide) rfl kw_363 (fun _ h9 => h9) dX11_rowsOf_13 (fun v9 h9 => ?_)
  have h9 : v9 = .ref w := h9
  subst h9
  refine t_get (ci := 9) (lst := ft9w hw gw) (C := RX9) (F := TX9) (N := 14) hx hb hts uX9 hown hkb hH t_w.1 (hO.no t_w.1 (by decide)) (fun fs => (ob9w t_w fs).mp) rfl rfl 9 (by decide) rfl kw_142 (fun _ h9 => h9) dX11_rowsOf_16 (fun v9 h9 => ?_)
  obtain ⟨v16, rfl, t_v16⟩ := h9
  refine lv_iload_n hx hb dX11_rowsOf_19 rfl (lv_at hl 2 rfl) ?_
  refine t_ild hx hb hkb hH t_v16 (hO.no t_v16 (by decide)) (by omega) (by omega) dX11_rowsOf_20 (fun v20 h9 => ?_)
  refine lv_aload_n hx hb dX11_rowsOf_21 rfl (lv_at hl 1 rfl) ?_
  refine t_get (ci := 11) (lst := ft11 w ch) (C := RX11) (F := TX11) (N := 20) hx hb hts uX11 hown hkb hH t_a0 (hO.no t_a0 (by decide)) (fun _ h9 => h9) rfl rfl 3 (by decide) rfl kw_363 (fun _ h9 => h9) dX11_rowsOf_22 (fun v9 h9 => ?_)
  have h9 : v9 = .ref w := h9
  subst h9
  refine t_get (ci := 9) (lst := ft9w hw gw) (C := RX9) (F := TX9) (N := 14) hx hb hts uX9 hown hkb hH t_w.1 (hO.no t_w.1 (by decide)) (fun fs => (ob9w t_w fs).mp) rfl rfl 10 (by decide) rfl kw_145 (fun _ h9 => h9) dX11_rowsOf_25 (fun v9 h9 => ?_)
  obtain ⟨v25, rfl, t_v25⟩ := h9
  refine lv_iload_n hx hb dX11_rowsOf_28 rfl (lv_at hl 2 rfl) ?_
  refine t_ild hx hb hkb hH t_v25 (hO.no t_v25 (by decide)) (by omega) (by omega) dX11_rowsOf_29 (fun v29 h9 => ?_)
  refine lv_aload_n hx hb dX11_rowsOf_30 rfl (lv_at hl 1 rfl) ?_
  refine t_get (ci := 11) (lst := ft11 w ch) (C := RX11) (F := TX11) (N := 20) hx hb hts uX11 hown hkb hH t_a0 (hO.no t_a0 (by decide)) (fun _ h9 => h9) rfl rfl 4 (by decide) rfl kw_364 (fun _ h9 => h9) dX11_rowsOf_31 (fun v9 h9 => ?_)
  obtain ⟨v31, rfl, t_v31⟩ := h9
  refine t_get (ci := 6) (lst := ft6 0 0) (C := RX6) (F := TX6) (N := 6) hx hb hts uX6 hown hkb hH t_v31 (hO.no t_v31 (by decide)) (fun _ h9 => h9) rfl rfl 2 (by decide) rfl kw_191 (fun _ h9 => h9) dX11_rowsOf_34 (fun v9 h9 => ?_)
  obtain ⟨v34, rfl⟩ := h9
  refine tk_v hH hS hA (tr_V (n := 4) (As := [.ref w, .int v20, .int v29, .int v34]) hx hb hml hown hts hkb hH hOX hks hE hS hA (s_Rows_aim l D cs kf T O X v5 w hw gw v20 v29 v34 t_v5 t_w (hO.sub (by decide))) kw_834 kw_835 kw_836 kw_8 kw_837 (by decide +kernel) ⟨Nat.le_of_ble_eq_true rfl, Nat.le_of_ble_eq_true rfl⟩ (HT.recv (ci := 5) hkb hH t_v5 (hO.no t_v5 (by decide)) rfl) rfl rfl hl.1 (Nat.le_of_ble_eq_true rfl) dX11_rowsOf_37 ⟨Nat.le_of_ble_eq_true rfl, Nat.le_of_ble_eq_true rfl⟩) (fun u H locs hz9 hH hS => ?_)
  have hz9 : u = (T, O, X) := hz9
  subst hz9
  have hH : HT D cs A T O X H := hH
  refine W.widen (k := 0) (n := 0) (Nat.le_of_ble_eq_true rfl) (Nat.le_of_ble_eq_true rfl) ?_
  refine lv_aload_n hx hb dX11_rowsOf_40 rfl (lv_at hl 0 rfl) ?_
  exact te_r hx hb hr hlocks hH hS ⟨rfl, t_v5⟩ dX11_rowsOf_41
