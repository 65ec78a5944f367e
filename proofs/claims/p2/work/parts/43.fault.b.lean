set_option maxHeartbeats 4000000 in
set_option maxRecDepth 100000 in
theorem s_FW_fault (l : Launch) (D : va_G) (cs : CS) (kf : KF) (T : TF) (O : List Nat) (X : va_W) (a0 w hw gw ch gq : Nat) (x1 : Int32) (t_a0 : T a0 = some (21, w, ch)) (t_w : isW T w hw gw) (t_ch : T ch = some (10, gq, 0)) (hO : okO T O [14, 17, 21]) : TK l D cs kf yX11_fault cX11_fault 2 (some (.int)) { frames := 0, cells := 0, slots := 0, locals := 0 } [.ref a0, .int x1] T O X (Ti D cs (fun r u => u = (T, O, X))) := by
  refine tk_of (by decide) (Nat.le_of_ble_eq_true rfl) (fun p e s m below meth c ls A H locs hx hb hr hml hown hts hlocks hnm hkb hH hS hA hOX hks hE hl => ?_)
  have hown : s.vm.findClass RX11 = some m.cls := hown
  have hl : lv_has ls 2 [(0, .ref a0), (1, .int x1)] := hl
  have b1_w := t_w.2.1
  have b2_w := t_w.2.2
  refine lv_iload_n hx hb dX11_fault_0 rfl (lv_at hl 1 rfl) ?_
  refine lv_if_ne (tgt := 15) hx hb dX11_fault_1 (by decide) (fun c1 => ?_) (fun c1 => ?_)
  · skip
    have tc1 := f_ne (k := 0) (by decide) c1
    refine lv_iload_n hx hb dX11_fault_15 rfl (lv_at hl 1 rfl) ?_
    refine lv_iconst (v := 1) hx hb dX11_fault_16 (by decide) ?_
    have J34 : ∀ (k34_0 : Int32) (H : Heap) (locs : List Loc) (ls : Array Slot), HT D cs A T O X H → va_S A s.heap H locs → lv_has ls 2 [] → W p l e { frames := 0, cells := 0, slots := 0, locals := 0 } s m [.ref a0, .int x1].toArray below meth c H locs 0 0 (MQ below (Ti D cs (fun r u => u = (T, O, X)) A) [.ref a0, .int x1].toArray s 0 0 A) (F0 m 34 ls [.int k34_0]) := by
      intro k34_0 H locs ls  hH hS hl
      exact te_i hx hb hr hlocks hH hS (rfl) dX11_fault_34
    refine lv_icmp_ne (tgt := 33) hx hb dX11_fault_17 (by decide) (fun c17 => ?_) (fun c17 => ?_)
    · skip
      have tc17 := f_ne (k := 1) (by decide) c17
      refine lv_iconst (v := (-1)) hx hb dX11_fault_33 (by decide) ?_
      exact J34 (-1) _ _ _  hH hS (lv_sub hl [] rfl)
    · skip
      have tc17 := f_eq (k := 1) (by decide) c17
      refine lv_aload_n hx hb dX11_fault_20 rfl (lv_at hl 0 rfl) ?_
      refine t_get (ci := 11) (lst := ft11 w ch) (C := RX11) (F := TX11) (N := 20) hx hb hts uX11 hown hkb hH t_a0 (hO.no t_a0 (by decide)) (fun _ h9 => h9) rfl rfl 2 (by decide) rfl kw_362 (fun _ h9 => h9) dX11_fault_21 (fun v9 h9 => ?_)
      obtain ⟨v21, dv21, rfl, t_v21, t_dv21⟩ := h9
      refine t_get (ci := 4) (lst := ft4 dv21 0) (C := RX4) (F := TX4) (N := 5) hx hb hts uX4 hown hkb hH t_v21 (hO.no t_v21 (by decide)) (fun _ h9 => h9) rfl rfl 0 (by decide) rfl kw_212 (fun _ h9 => h9) dX11_fault_24 (fun v9 h9 => ?_)
      obtain ⟨v24, rfl, t_v24⟩ := h9
      refine t_get (ci := 7) (lst := ft7 0 0) (C := RX7) (F := TX7) (N := 8) hx hb hts uX7 hown hkb hH t_v24 (hO.no t_v24 (by decide)) (fun _ h9 => ob7_ok h9) rfl rfl 7 (by decide) rfl kw_57 (fun _ h9 => h9) dX11_fault_27 (fun v9 h9 => ?_)
      obtain ⟨v27, rfl⟩ := h9
      refine lv_goto (tgt := 34) hx hb dX11_fault_30 (by decide) ?_
      exact J34 v27 _ _ _  hH hS (lv_sub hl [] rfl)
  · skip
    have tc1 := f_eq (k := 0) (by decide) c1
    refine lv_aload_n hx hb dX11_fault_4 rfl (lv_at hl 0 rfl) ?_
    refine t_get (ci := 11) (lst := ft11 w ch) (C := RX11) (F := TX11) (N := 20) hx hb hts uX11 hown hkb hH t_a0 (hO.no t_a0 (by decide)) (fun _ h9 => h9) rfl rfl 2 (by decide) rfl kw_362 (fun _ h9 => h9) dX11_fault_5 (fun v9 h9 => ?_)
    obtain ⟨v5, dv5, rfl, t_v5, t_dv5⟩ := h9
    refine t_get (ci := 4) (lst := ft4 dv5 0) (C := RX4) (F := TX4) (N := 5) hx hb hts uX4 hown hkb hH t_v5 (hO.no t_v5 (by decide)) (fun _ h9 => h9) rfl rfl 0 (by decide) rfl kw_212 (fun _ h9 => h9) dX11_fault_8 (fun v9 h9 => ?_)
    obtain ⟨v8, rfl, t_v8⟩ := h9
    refine t_get (ci := 7) (lst := ft7 0 0) (C := RX7) (F := TX7) (N := 8) hx hb hts uX7 hown hkb hH t_v8 (hO.no t_v8 (by decide)) (fun _ h9 => ob7_ok h9) rfl rfl 6 (by decide) rfl kw_55 (fun _ h9 => h9) dX11_fault_11 (fun v9 h9 => ?_)
    obtain ⟨v11, rfl⟩ := h9
    exact te_i hx hb hr hlocks hH hS (rfl) dX11_fault_14
