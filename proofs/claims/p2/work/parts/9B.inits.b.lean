set_option maxHeartbeats 4000000 in
set_option maxRecDepth 100000 in
theorem c_State_init (l : Launch) (D : va_G) (cB cI cJ cZ cS cW cT cR : ClassId) (h0 : Nat) : Kon l D (tyl cB cI cJ cZ cS cW cT cR) yX6_init cX6_init 1 none { frames := 1, cells := 2, slots := 28, locals := 12 } [.ref h0] [(h0, .inr (6, [.int 0, .int 0, .int 0, .int 0, .null, .null]))] (Qv D (fun u => ∃ (q_1 : Nat), ∃ (q_2 : Nat), u = [(h0, .inr (6, [.int 0, .int 0, .int 0, .int 0, .ref q_1, .ref q_2])), (q_1, .inl (cI, 14, .inl (fun _ => 0))), (q_2, .inl (cI, 14, .inl (fun _ => 0)))])) := by
  refine kon_of (by decide) (Nat.le_of_ble_eq_true rfl) (fun p e s m below meth c ls A hx hb hr hml hown hts hlocks hnm hkb hP hD hS hA hl => ?_)
  have hown : s.vm.findClass RX6 = some m.cls := hown
  have hl : lv_has ls 1 [(0, .ref h0)] := hl
  have hP : va_P D cls [(h0, .inr (6, [.int 0, .int 0, .int 0, .int 0, .null, .null]))] s.heap := hP
  refine lv_aload_n hx hb dX6_init_0 rfl (lv_at hl 0 rfl) ?_
  refine W.objInit hx hb hown (hts _ kw_184) (hts _ kw_30) (hts _ kw_31) rfl (by rw [hml]; exact hl.1) rfl dX6_init_1 (Nat.le_of_ble_eq_true rfl) (Nat.le_of_ble_eq_true rfl) ?_
  refine W.eq (g2 := F0 m 4 ls []) rfl ?_
  refine lv_aload_n hx hb dX6_init_4 rfl (lv_at hl 0 rfl) ?_
  refine lv_iconst (v := 0) hx hb dX6_init_5 (by decide) ?_
  refine va_put (D := D) (ci := 6) (v := .int 0) (ty := tyX6 0) (C := RX6) (T := TX6) (N := 6) hx hb hts uX6 tyX6 tyX6_ok nmX6 hown hkb.1 hP hD hS 0 rfl rfl 0 (by decide) (hts _ kw_185) (fun _ h9 => h9) rfl (tyX6_ok 0 (by decide)) rfl rfl (Nat.le_of_ble_eq_true rfl) dX6_init_6 (fun H locs hP hD hS => ?_)
  have hP : va_P D cls [(h0, .inr (6, [.int 0, .int 0, .int 0, .int 0, .null, .null]))] H := hP
  have hD : va_D A [(h0, .inr (6, [.int 0, .int 0, .int 0, .int 0, .null, .null]))] := hD
  refine lv_aload_n hx hb dX6_init_9 rfl (lv_at hl 0 rfl) ?_
  refine lv_iconst (v := 0) hx hb dX6_init_10 (by decide) ?_
  refine va_put (D := D) (ci := 6) (v := .int 0) (ty := tyX6 1) (C := RX6) (T := TX6) (N := 6) hx hb hts uX6 tyX6 tyX6_ok nmX6 hown hkb.1 hP hD hS 0 rfl rfl 1 (by decide) (hts _ kw_187) (fun _ h9 => h9) rfl (tyX6_ok 1 (by decide)) rfl rfl (Nat.le_of_ble_eq_true rfl) dX6_init_11 (fun H locs hP hD hS => ?_)
  have hP : va_P D cls [(h0, .inr (6, [.int 0, .int 0, .int 0, .int 0, .null, .null]))] H := hP
  have hD : va_D A [(h0, .inr (6, [.int 0, .int 0, .int 0, .int 0, .null, .null]))] := hD
  refine lv_aload_n hx hb dX6_init_14 rfl (lv_at hl 0 rfl) ?_
  refine lv_iconst (v := 0) hx hb dX6_init_15 (by decide) ?_
  refine va_put (D := D) (ci := 6) (v := .int 0) (ty := tyX6 2) (C := RX6) (T := TX6) (N := 6) hx hb hts uX6 tyX6 tyX6_ok nmX6 hown hkb.1 hP hD hS 0 rfl rfl 2 (by decide) (hts _ kw_189) (fun _ h9 => h9) rfl (tyX6_ok 2 (by decide)) rfl rfl (Nat.le_of_ble_eq_true rfl) dX6_init_16 (fun H locs hP hD hS => ?_)
  have hP : va_P D cls [(h0, .inr (6, [.int 0, .int 0, .int 0, .int 0, .null, .null]))] H := hP
  have hD : va_D A [(h0, .inr (6, [.int 0, .int 0, .int 0, .int 0, .null, .null]))] := hD
  refine lv_aload_n hx hb dX6_init_19 rfl (lv_at hl 0 rfl) ?_
  refine lv_iconst (v := 0) hx hb dX6_init_20 (by decide) ?_
  refine va_put (D := D) (ci := 6) (v := .int 0) (ty := tyX6 3) (C := RX6) (T := TX6) (N := 6) hx hb hts uX6 tyX6 tyX6_ok nmX6 hown hkb.1 hP hD hS 0 rfl rfl 3 (by decide) (hts _ kw_192) (fun _ h9 => h9) rfl (tyX6_ok 3 (by decide)) rfl rfl (Nat.le_of_ble_eq_true rfl) dX6_init_21 (fun H locs hP hD hS => ?_)
  have hP : va_P D cls [(h0, .inr (6, [.int 0, .int 0, .int 0, .int 0, .null, .null]))] H := hP
  have hD : va_D A [(h0, .inr (6, [.int 0, .int 0, .int 0, .int 0, .null, .null]))] := hD
  refine lv_aload_n hx hb dX6_init_24 rfl (lv_at hl 0 rfl) ?_
  refine lv_bipush (v := 14) hx hb dX6_init_25 (by decide) ?_
  refine n_a (atype := .int) (t := .int) (a0 := (14, .inl (fun _ => 0))) 1 rfl (fun _ _ h => h) hx hb (hts _ kw_92) rfl hkb.1 hP hD hS hA (fun _ => rfl) (by decide) (by decide +kernel) (by decide) (Nat.le_of_ble_eq_true rfl) (Nat.le_of_ble_eq_true rfl) dX6_init_27 (fun q_1 H hP hD hS => ?_)
  have hP : va_P D cls [(h0, .inr (6, [.int 0, .int 0, .int 0, .int 0, .null, .null])), (q_1, .inl (cI, 14, .inl (fun _ => 0)))] H := hP
  have hD : va_D A [(h0, .inr (6, [.int 0, .int 0, .int 0, .int 0, .null, .null])), (q_1, .inl (cI, 14, .inl (fun _ => 0)))] := hD
  refine W.widen (k := 1) (n := 14) (Nat.le_of_ble_eq_true rfl) (Nat.le_of_ble_eq_true rfl) ?_
  refine va_putF (D := D) (ci := 6) (v := .ref q_1) (ty := tyX6 4) (C := RX6) (T := TX6) (N := 6) hx hb hts uX6 tyX6 tyX6_ok nmX6 hown hkb.1 hP hD hS 0 rfl rfl 4 (by decide) (hts _ kw_194) (fun _ h9 => h9) rfl hnm rfl (tyX6_ok 4 (by decide)) rfl rfl (Nat.le_of_ble_eq_true rfl) dX6_init_29 (fun H locs hP hD hS => ?_)
  have hP : va_P D cls [(h0, .inr (6, [.int 0, .int 0, .int 0, .int 0, .ref q_1, .null])), (q_1, .inl (cI, 14, .inl (fun _ => 0)))] H := hP
  have hD : va_D A [(h0, .inr (6, [.int 0, .int 0, .int 0, .int 0, .ref q_1, .null])), (q_1, .inl (cI, 14, .inl (fun _ => 0)))] := hD
  refine lv_aload_n hx hb dX6_init_32 rfl (lv_at hl 0 rfl) ?_
  refine lv_bipush (v := 14) hx hb dX6_init_33 (by decide) ?_
  refine n_a (atype := .int) (t := .int) (a0 := (14, .inl (fun _ => 0))) 1 rfl (fun _ _ h => h) hx hb (hts _ kw_92) rfl hkb.1 hP hD hS hA (fun _ => rfl) (by decide) (by decide +kernel) (by decide) (Nat.le_of_ble_eq_true rfl) (Nat.le_of_ble_eq_true rfl) dX6_init_35 (fun q_2 H hP hD hS => ?_)
  have hP : va_P D cls [(h0, .inr (6, [.int 0, .int 0, .int 0, .int 0, .ref q_1, .null])), (q_1, .inl (cI, 14, .inl (fun _ => 0))), (q_2, .inl (cI, 14, .inl (fun _ => 0)))] H := hP
  have hD : va_D A [(h0, .inr (6, [.int 0, .int 0, .int 0, .int 0, .ref q_1, .null])), (q_1, .inl (cI, 14, .inl (fun _ => 0))), (q_2, .inl (cI, 14, .inl (fun _ => 0)))] := hD
  refine W.widen (k := 2) (n := 28) (Nat.le_of_ble_eq_true rfl) (Nat.le_of_ble_eq_true rfl) ?_
  refine va_putF (D := D) (ci := 6) (v := .ref q_2) (ty := tyX6 5) (C := RX6) (T := TX6) (N := 6) hx hb hts uX6 tyX6 tyX6_ok nmX6 hown hkb.1 hP hD hS 0 rfl rfl 5 (by decide) (hts _ kw_196) (fun _ h9 => h9) rfl hnm rfl (tyX6_ok 5 (by decide)) rfl rfl (Nat.le_of_ble_eq_true rfl) dX6_init_37 (fun H locs hP hD hS => ?_)
  have hP : va_P D cls [(h0, .inr (6, [.int 0, .int 0, .int 0, .int 0, .ref q_1, .ref q_2])), (q_1, .inl (cI, 14, .inl (fun _ => 0))), (q_2, .inl (cI, 14, .inl (fun _ => 0)))] H := hP
  have hD : va_D A [(h0, .inr (6, [.int 0, .int 0, .int 0, .int 0, .ref q_1, .ref q_2])), (q_1, .inl (cI, 14, .inl (fun _ => 0))), (q_2, .inl (cI, 14, .inl (fun _ => 0)))] := hD
  refine W.widen (k := 2) (n := 28) (Nat.le_of_ble_eq_true rfl) (Nat.le_of_ble_eq_true rfl) ?_
  exact e_v (u := [(h0, .inr (6, [.int 0, .int 0, .int 0, .int 0, .ref q_1, .ref q_2])), (q_1, .inl (cI, 14, .inl (fun _ => 0))), (q_2, .inl (cI, 14, .inl (fun _ => 0)))]) hx hb hr hlocks (hP.sub (ws' := [(h0, .inr (6, [.int 0, .int 0, .int 0, .int 0, .ref q_1, .ref q_2])), (q_1, .inl (cI, 14, .inl (fun _ => 0))), (q_2, .inl (cI, 14, .inl (fun _ => 0)))]) [0, 1, 2] rfl) (hD.sub (ws' := [(h0, .inr (6, [.int 0, .int 0, .int 0, .int 0, .ref q_1, .ref q_2])), (q_1, .inl (cI, 14, .inl (fun _ => 0))), (q_2, .inl (cI, 14, .inl (fun _ => 0)))]) [0, 1, 2] (by decide) rfl) hS ⟨q_1, q_2, rfl⟩ dX6_init_40
set_option maxHeartbeats 4000000 in
set_option maxRecDepth 100000 in
theorem c_Tray_init (l : Launch) (D : va_G) (cB cI cJ cZ cS cW cT cR : ClassId) (h0 : Nat) : Kon l D (tyl cB cI cJ cZ cS cW cT cR) yX8_init cX8_init 1 none { frames := 1, cells := 1, slots := 40, locals := 12 } [.ref h0] [(h0, .inr (8, [.null, .int 0, .int 0]))] (Qv D (fun u => ∃ (q_1 : Nat), u = [(h0, .inr (8, [.ref q_1, .int 0, .int (-1)])), (q_1, .inl (cJ, 40, .inr (.inl (fun _ => 0))))])) := by
  refine kon_of (by decide) (Nat.le_of_ble_eq_true rfl) (fun p e s m below meth c ls A hx hb hr hml hown hts hlocks hnm hkb hP hD hS hA hl => ?_)
  have hown : s.vm.findClass RX8 = some m.cls := hown
  have hl : lv_has ls 1 [(0, .ref h0)] := hl
  have hP : va_P D cls [(h0, .inr (8, [.null, .int 0, .int 0]))] s.heap := hP
  refine lv_aload_n hx hb dX8_init_0 rfl (lv_at hl 0 rfl) ?_
  refine W.objInit hx hb hown (hts _ kw_348) (hts _ kw_30) (hts _ kw_31) rfl (by rw [hml]; exact hl.1) rfl dX8_init_1 (Nat.le_of_ble_eq_true rfl) (Nat.le_of_ble_eq_true rfl) ?_
  refine W.eq (g2 := F0 m 4 ls []) rfl ?_
  refine lv_aload_n hx hb dX8_init_4 rfl (lv_at hl 0 rfl) ?_
  refine lv_bipush (v := 40) hx hb dX8_init_5 (by decide) ?_
  refine n_a (atype := .long) (t := .long) (a0 := (40, .inr (.inl (fun _ => 0)))) 2 rfl (fun _ _ h => h) hx hb (hts _ kw_295) rfl hkb.1 hP hD hS hA (fun _ => rfl) (by decide) (by decide +kernel) (by decide) (Nat.le_of_ble_eq_true rfl) (Nat.le_of_ble_eq_true rfl) dX8_init_7 (fun q_1 H hP hD hS => ?_)
  have hP : va_P D cls [(h0, .inr (8, [.null, .int 0, .int 0])), (q_1, .inl (cJ, 40, .inr (.inl (fun _ => 0))))] H := hP
  have hD : va_D A [(h0, .inr (8, [.null, .int 0, .int 0])), (q_1, .inl (cJ, 40, .inr (.inl (fun _ => 0))))] := hD
  refine W.widen (k := 1) (n := 40) (Nat.le_of_ble_eq_true rfl) (Nat.le_of_ble_eq_true rfl) ?_
  refine va_putF (D := D) (ci := 8) (v := .ref q_1) (ty := tyX8 0) (C := RX8) (T := TX8) (N := 3) hx hb hts uX8 tyX8 tyX8_ok nmX8 hown hkb.1 hP hD hS 0 rfl rfl 0 (by decide) (hts _ kw_349) (fun _ h9 => h9) rfl hnm rfl (tyX8_ok 0 (by decide)) rfl rfl (Nat.le_of_ble_eq_true rfl) dX8_init_9 (fun H locs hP hD hS => ?_)
  have hP : va_P D cls [(h0, .inr (8, [.ref q_1, .int 0, .int 0])), (q_1, .inl (cJ, 40, .inr (.inl (fun _ => 0))))] H := hP
  have hD : va_D A [(h0, .inr (8, [.ref q_1, .int 0, .int 0])), (q_1, .inl (cJ, 40, .inr (.inl (fun _ => 0))))] := hD
  refine lv_aload_n hx hb dX8_init_12 rfl (lv_at hl 0 rfl) ?_
  refine lv_iconst (v := 0) hx hb dX8_init_13 (by decide) ?_
  refine va_put (D := D) (ci := 8) (v := .int 0) (ty := tyX8 1) (C := RX8) (T := TX8) (N := 3) hx hb hts uX8 tyX8 tyX8_ok nmX8 hown hkb.1 hP hD hS 0 rfl rfl 1 (by decide) (hts _ kw_350) (fun _ h9 => h9) rfl (tyX8_ok 1 (by decide)) rfl rfl (Nat.le_of_ble_eq_true rfl) dX8_init_14 (fun H locs hP hD hS => ?_)
  have hP : va_P D cls [(h0, .inr (8, [.ref q_1, .int 0, .int 0])), (q_1, .inl (cJ, 40, .inr (.inl (fun _ => 0))))] H := hP
  have hD : va_D A [(h0, .inr (8, [.ref q_1, .int 0, .int 0])), (q_1, .inl (cJ, 40, .inr (.inl (fun _ => 0))))] := hD
  refine lv_aload_n hx hb dX8_init_17 rfl (lv_at hl 0 rfl) ?_
  refine lv_iconst (v := (-1)) hx hb dX8_init_18 (by decide) ?_
  refine va_put (D := D) (ci := 8) (v := .int (-1)) (ty := tyX8 2) (C := RX8) (T := TX8) (N := 3) hx hb hts uX8 tyX8 tyX8_ok nmX8 hown hkb.1 hP hD hS 0 rfl rfl 2 (by decide) (hts _ kw_351) (fun _ h9 => h9) rfl (tyX8_ok 2 (by decide)) rfl rfl (Nat.le_of_ble_eq_true rfl) dX8_init_19 (fun H locs hP hD hS => ?_)
  have hP : va_P D cls [(h0, .inr (8, [.ref q_1, .int 0, .int (-1)])), (q_1, .inl (cJ, 40, .inr (.inl (fun _ => 0))))] H := hP
  have hD : va_D A [(h0, .inr (8, [.ref q_1, .int 0, .int (-1)])), (q_1, .inl (cJ, 40, .inr (.inl (fun _ => 0))))] := hD
  refine W.widen (k := 1) (n := 40) (Nat.le_of_ble_eq_true rfl) (Nat.le_of_ble_eq_true rfl) ?_
  exact e_v (u := [(h0, .inr (8, [.ref q_1, .int 0, .int (-1)])), (q_1, .inl (cJ, 40, .inr (.inl (fun _ => 0))))]) hx hb hr hlocks (hP.sub (ws' := [(h0, .inr (8, [.ref q_1, .int 0, .int (-1)])), (q_1, .inl (cJ, 40, .inr (.inl (fun _ => 0))))]) [0, 1] rfl) (hD.sub (ws' := [(h0, .inr (8, [.ref q_1, .int 0, .int (-1)])), (q_1, .inl (cJ, 40, .inr (.inl (fun _ => 0))))]) [0, 1] (by decide) rfl) hS ⟨q_1, rfl⟩ dX8_init_22
set_option maxHeartbeats 4000000 in
set_option maxRecDepth 100000 in
theorem c_Tokens_init (l : Launch) (D : va_G) (cB cI cJ cZ cS cW cT cR : ClassId) (h0 : Nat) : Kon l D (tyl cB cI cJ cZ cS cW cT cR) yX7_init cX7_init 1 none { frames := 1, cells := 1, slots := 0, locals := 12 } [.ref h0] [(h0, .inr (7, [.null, .int 0, .int 0, .int 0, .int 0, .int 0, .int 0, .int 0]))] (Qv D (fun u => ∃ (q_1 : Nat), u = [(h0, .inr (7, [.ref q_1, .int 0, .int 0, .int 0, .int 0, .int 0, .int 0, .int (-1)])), (q_1, .inl (cB, 0, .inl (fun _ => 0)))])) := by
  refine kon_of (by decide) (Nat.le_of_ble_eq_true rfl) (fun p e s m below meth c ls A hx hb hr hml hown hts hlocks hnm hkb hP hD hS hA hl => ?_)
  have hown : s.vm.findClass RX7 = some m.cls := hown
  have hl : lv_has ls 1 [(0, .ref h0)] := hl
  have hP : va_P D cls [(h0, .inr (7, [.null, .int 0, .int 0, .int 0, .int 0, .int 0, .int 0, .int 0]))] s.heap := hP
  refine lv_aload_n hx hb dX7_init_0 rfl (lv_at hl 0 rfl) ?_
  refine W.objInit hx hb hown (hts _ kw_43) (hts _ kw_30) (hts _ kw_31) rfl (by rw [hml]; exact hl.1) rfl dX7_init_1 (Nat.le_of_ble_eq_true rfl) (Nat.le_of_ble_eq_true rfl) ?_
  refine W.eq (g2 := F0 m 4 ls []) rfl ?_
  refine lv_aload_n hx hb dX7_init_4 rfl (lv_at hl 0 rfl) ?_
  refine lv_iconst (v := 0) hx hb dX7_init_5 (by decide) ?_
  refine n_a (atype := .byte) (t := .byte) (a0 := (0, .inl (fun _ => 0))) 0 rfl (fun _ _ h => h) hx hb (hts _ kw_75) rfl hkb.1 hP hD hS hA (fun _ => rfl) (by decide) (by decide +kernel) (by decide) (Nat.le_of_ble_eq_true rfl) (Nat.le_of_ble_eq_true rfl) dX7_init_6 (fun q_1 H hP hD hS => ?_)
  have hP : va_P D cls [(h0, .inr (7, [.null, .int 0, .int 0, .int 0, .int 0, .int 0, .int 0, .int 0])), (q_1, .inl (cB, 0, .inl (fun _ => 0)))] H := hP
  have hD : va_D A [(h0, .inr (7, [.null, .int 0, .int 0, .int 0, .int 0, .int 0, .int 0, .int 0])), (q_1, .inl (cB, 0, .inl (fun _ => 0)))] := hD
  refine W.widen (k := 1) (n := 0) (Nat.le_of_ble_eq_true rfl) (Nat.le_of_ble_eq_true rfl) ?_
  refine va_put (D := D) (ci := 7) (v := .ref q_1) (ty := tyX7 0) (C := RX7) (T := TX7) (N := 8) hx hb hts uX7 tyX7 tyX7_ok nmX7 hown hkb.1 hP hD hS 0 rfl rfl 0 (by decide) (hts _ kw_44) (fun _ h9 => h9) rfl (tyX7_ok 0 (by decide)) rfl rfl (Nat.le_of_ble_eq_true rfl) dX7_init_8 (fun H locs hP hD hS => ?_)
  have hP : va_P D cls [(h0, .inr (7, [.ref q_1, .int 0, .int 0, .int 0, .int 0, .int 0, .int 0, .int 0])), (q_1, .inl (cB, 0, .inl (fun _ => 0)))] H := hP
  have hD : va_D A [(h0, .inr (7, [.ref q_1, .int 0, .int 0, .int 0, .int 0, .int 0, .int 0, .int 0])), (q_1, .inl (cB, 0, .inl (fun _ => 0)))] := hD
  refine lv_aload_n hx hb dX7_init_11 rfl (lv_at hl 0 rfl) ?_
  refine lv_iconst (v := 0) hx hb dX7_init_12 (by decide) ?_
  refine va_put (D := D) (ci := 7) (v := .int 0) (ty := tyX7 1) (C := RX7) (T := TX7) (N := 8) hx hb hts uX7 tyX7 tyX7_ok nmX7 hown hkb.1 hP hD hS 0 rfl rfl 1 (by decide) (hts _ kw_45) (fun _ h9 => h9) rfl (tyX7_ok 1 (by decide)) rfl rfl (Nat.le_of_ble_eq_true rfl) dX7_init_13 (fun H locs hP hD hS => ?_)
  have hP : va_P D cls [(h0, .inr (7, [.ref q_1, .int 0, .int 0, .int 0, .int 0, .int 0, .int 0, .int 0])), (q_1, .inl (cB, 0, .inl (fun _ => 0)))] H := hP
  have hD : va_D A [(h0, .inr (7, [.ref q_1, .int 0, .int 0, .int 0, .int 0, .int 0, .int 0, .int 0])), (q_1, .inl (cB, 0, .inl (fun _ => 0)))] := hD
  refine lv_aload_n hx hb dX7_init_16 rfl (lv_at hl 0 rfl) ?_
  refine lv_iconst (v := 0) hx hb dX7_init_17 (by decide) ?_
  refine va_put (D := D) (ci := 7) (v := .int 0) (ty := tyX7 2) (C := RX7) (T := TX7) (N := 8) hx hb hts uX7 tyX7 tyX7_ok nmX7 hown hkb.1 hP hD hS 0 rfl rfl 2 (by decide) (hts _ kw_46) (fun _ h9 => h9) rfl (tyX7_ok 2 (by decide)) rfl rfl (Nat.le_of_ble_eq_true rfl) dX7_init_18 (fun H locs hP hD hS => ?_)
  have hP : va_P D cls [(h0, .inr (7, [.ref q_1, .int 0, .int 0, .int 0, .int 0, .int 0, .int 0, .int 0])), (q_1, .inl (cB, 0, .inl (fun _ => 0)))] H := hP
  have hD : va_D A [(h0, .inr (7, [.ref q_1, .int 0, .int 0, .int 0, .int 0, .int 0, .int 0, .int 0])), (q_1, .inl (cB, 0, .inl (fun _ => 0)))] := hD
  refine lv_aload_n hx hb dX7_init_21 rfl (lv_at hl 0 rfl) ?_
  refine lv_iconst (v := 0) hx hb dX7_init_22 (by decide) ?_
  refine va_put (D := D) (ci := 7) (v := .int 0) (ty := tyX7 3) (C := RX7) (T := TX7) (N := 8) hx hb hts uX7 tyX7 tyX7_ok nmX7 hown hkb.1 hP hD hS 0 rfl rfl 3 (by decide) (hts _ kw_47) (fun _ h9 => h9) rfl (tyX7_ok 3 (by decide)) rfl rfl (Nat.le_of_ble_eq_true rfl) dX7_init_23 (fun H locs hP hD hS => ?_)
  have hP : va_P D cls [(h0, .inr (7, [.ref q_1, .int 0, .int 0, .int 0, .int 0, .int 0, .int 0, .int 0])), (q_1, .inl (cB, 0, .inl (fun _ => 0)))] H := hP
  have hD : va_D A [(h0, .inr (7, [.ref q_1, .int 0, .int 0, .int 0, .int 0, .int 0, .int 0, .int 0])), (q_1, .inl (cB, 0, .inl (fun _ => 0)))] := hD
  refine lv_aload_n hx hb dX7_init_26 rfl (lv_at hl 0 rfl) ?_
  refine lv_iconst (v := 0) hx hb dX7_init_27 (by decide) ?_
  refine va_put (D := D) (ci := 7) (v := .int 0) (ty := tyX7 4) (C := RX7) (T := TX7) (N := 8) hx hb hts uX7 tyX7 tyX7_ok nmX7 hown hkb.1 hP hD hS 0 rfl rfl 4 (by decide) (hts _ kw_48) (fun _ h9 => h9) rfl (tyX7_ok 4 (by decide)) rfl rfl (Nat.le_of_ble_eq_true rfl) dX7_init_28 (fun H locs hP hD hS => ?_)
  have hP : va_P D cls [(h0, .inr (7, [.ref q_1, .int 0, .int 0, .int 0, .int 0, .int 0, .int 0, .int 0])), (q_1, .inl (cB, 0, .inl (fun _ => 0)))] H := hP
  have hD : va_D A [(h0, .inr (7, [.ref q_1, .int 0, .int 0, .int 0, .int 0, .int 0, .int 0, .int 0])), (q_1, .inl (cB, 0, .inl (fun _ => 0)))] := hD
  refine lv_aload_n hx hb dX7_init_31 rfl (lv_at hl 0 rfl) ?_
  refine lv_iconst (v := 0) hx hb dX7_init_32 (by decide) ?_
  refine va_put (D := D) (ci := 7) (v := .int 0) (ty := tyX7 5) (C := RX7) (T := TX7) (N := 8) hx hb hts uX7 tyX7 tyX7_ok nmX7 hown hkb.1 hP hD hS 0 rfl rfl 5 (by decide) (hts _ kw_51) (fun _ h9 => h9) rfl (tyX7_ok 5 (by decide)) rfl rfl (Nat.le_of_ble_eq_true rfl) dX7_init_33 (fun H locs hP hD hS => ?_)
  have hP : va_P D cls [(h0, .inr (7, [.ref q_1, .int 0, .int 0, .int 0, .int 0, .int 0, .int 0, .int 0])), (q_1, .inl (cB, 0, .inl (fun _ => 0)))] H := hP
  have hD : va_D A [(h0, .inr (7, [.ref q_1, .int 0, .int 0, .int 0, .int 0, .int 0, .int 0, .int 0])), (q_1, .inl (cB, 0, .inl (fun _ => 0)))] := hD
  refine lv_aload_n hx hb dX7_init_36 rfl (lv_at hl 0 rfl) ?_
  refine lv_iconst (v := 0) hx hb dX7_init_37 (by decide) ?_
  refine va_put (D := D) (ci := 7) (v := .int 0) (ty := tyX7 6) (C := RX7) (T := TX7) (N := 8) hx hb hts uX7 tyX7 tyX7_ok nmX7 hown hkb.1 hP hD hS 0 rfl rfl 6 (by decide) (hts _ kw_54) (fun _ h9 => h9) rfl (tyX7_ok 6 (by decide)) rfl rfl (Nat.le_of_ble_eq_true rfl) dX7_init_38 (fun H locs hP hD hS => ?_)
  have hP : va_P D cls [(h0, .inr (7, [.ref q_1, .int 0, .int 0, .int 0, .int 0, .int 0, .int 0, .int 0])), (q_1, .inl (cB, 0, .inl (fun _ => 0)))] H := hP
  have hD : va_D A [(h0, .inr (7, [.ref q_1, .int 0, .int 0, .int 0, .int 0, .int 0, .int 0, .int 0])), (q_1, .inl (cB, 0, .inl (fun _ => 0)))] := hD
  refine lv_aload_n hx hb dX7_init_41 rfl (lv_at hl 0 rfl) ?_
  refine lv_iconst (v := (-1)) hx hb dX7_init_42 (by decide) ?_
  refine va_put (D := D) (ci := 7) (v := .int (-1)) (ty := tyX7 7) (C := RX7) (T := TX7) (N := 8) hx hb hts uX7 tyX7 tyX7_ok nmX7 hown hkb.1 hP hD hS 0 rfl rfl 7 (by decide) (hts _ kw_56) (fun _ h9 => h9) rfl (tyX7_ok 7 (by decide)) rfl rfl (Nat.le_of_ble_eq_true rfl) dX7_init_43 (fun H locs hP hD hS => ?_)
  have hP : va_P D cls [(h0, .inr (7, [.ref q_1, .int 0, .int 0, .int 0, .int 0, .int 0, .int 0, .int (-1)])), (q_1, .inl (cB, 0, .inl (fun _ => 0)))] H := hP
  have hD : va_D A [(h0, .inr (7, [.ref q_1, .int 0, .int 0, .int 0, .int 0, .int 0, .int 0, .int (-1)])), (q_1, .inl (cB, 0, .inl (fun _ => 0)))] := hD
  refine W.widen (k := 1) (n := 0) (Nat.le_of_ble_eq_true rfl) (Nat.le_of_ble_eq_true rfl) ?_
  exact e_v (u := [(h0, .inr (7, [.ref q_1, .int 0, .int 0, .int 0, .int 0, .int 0, .int 0, .int (-1)])), (q_1, .inl (cB, 0, .inl (fun _ => 0)))]) hx hb hr hlocks (hP.sub (ws' := [(h0, .inr (7, [.ref q_1, .int 0, .int 0, .int 0, .int 0, .int 0, .int 0, .int (-1)])), (q_1, .inl (cB, 0, .inl (fun _ => 0)))]) [0, 1] rfl) (hD.sub (ws' := [(h0, .inr (7, [.ref q_1, .int 0, .int 0, .int 0, .int 0, .int 0, .int 0, .int (-1)])), (q_1, .inl (cB, 0, .inl (fun _ => 0)))]) [0, 1] (by decide) rfl) hS ⟨q_1, rfl⟩ dX7_init_46
set_option maxHeartbeats 4000000 in
set_option maxRecDepth 100000 in
theorem c_LawReader_init (l : Launch) (D : va_G) (cB cI cJ cZ cS cW cT cR : ClassId) (h0 : Nat) (tk : Nat) : Kon l D (tyl cB cI cJ cZ cS cW cT cR) yX3_init cX3_init 2 none { frames := 1, cells := 1, slots := 900, locals := 12 } [.ref h0, .ref tk] [(h0, .inr (3, [.null, .null, .int 0]))] (Qv D (fun u => ∃ (q_1 : Nat), u = [(h0, .inr (3, [.ref tk, .ref q_1, .int 0])), (q_1, .inl (cI, 900, .inl (fun _ => 0)))])) := by
  refine kon_of (by decide) (Nat.le_of_ble_eq_true rfl) (fun p e s m below meth c ls A hx hb hr hml hown hts hlocks hnm hkb hP hD hS hA hl => ?_)
  have hown : s.vm.findClass RX3 = some m.cls := hown
  have hl : lv_has ls 2 [(0, .ref h0), (1, .ref tk)] := hl
  have hP : va_P D cls [(h0, .inr (3, [.null, .null, .int 0]))] s.heap := hP
  refine lv_aload_n hx hb dX3_init_0 rfl (lv_at hl 0 rfl) ?_
  refine W.objInit hx hb hown (hts _ kw_81) (hts _ kw_30) (hts _ kw_31) rfl (by rw [hml]; exact hl.1) rfl dX3_init_1 (Nat.le_of_ble_eq_true rfl) (Nat.le_of_ble_eq_true rfl) ?_
  refine W.eq (g2 := F0 m 4 ls []) rfl ?_
  refine lv_aload_n hx hb dX3_init_4 rfl (lv_at hl 0 rfl) ?_
  refine lv_sipush (v := 900) hx hb dX3_init_5 (by decide) ?_
  refine n_a (atype := .int) (t := .int) (a0 := (900, .inl (fun _ => 0))) 1 rfl (fun _ _ h => h) hx hb (hts _ kw_92) rfl hkb.1 hP hD hS hA (fun _ => rfl) (by decide) (by decide +kernel) (by decide) (Nat.le_of_ble_eq_true rfl) (Nat.le_of_ble_eq_true rfl) dX3_init_8 (fun q_1 H hP hD hS => ?_)
  have hP : va_P D cls [(h0, .inr (3, [.null, .null, .int 0])), (q_1, .inl (cI, 900, .inl (fun _ => 0)))] H := hP
  have hD : va_D A [(h0, .inr (3, [.null, .null, .int 0])), (q_1, .inl (cI, 900, .inl (fun _ => 0)))] := hD
  refine W.widen (k := 1) (n := 900) (Nat.le_of_ble_eq_true rfl) (Nat.le_of_ble_eq_true rfl) ?_
  refine va_putF (D := D) (ci := 3) (v := .ref q_1) (ty := tyX3 1) (C := RX3) (T := TX3) (N := 3) hx hb hts uX3 tyX3 tyX3_ok nmX3 hown hkb.1 hP hD hS 0 rfl rfl 1 (by decide) (hts _ kw_83) (fun _ h9 => h9) rfl hnm rfl (tyX3_ok 1 (by decide)) rfl rfl (Nat.le_of_ble_eq_true rfl) dX3_init_10 (fun H locs hP hD hS => ?_)
  have hP : va_P D cls [(h0, .inr (3, [.null, .ref q_1, .int 0])), (q_1, .inl (cI, 900, .inl (fun _ => 0)))] H := hP
  have hD : va_D A [(h0, .inr (3, [.null, .ref q_1, .int 0])), (q_1, .inl (cI, 900, .inl (fun _ => 0)))] := hD
  refine lv_aload_n hx hb dX3_init_13 rfl (lv_at hl 0 rfl) ?_
  refine lv_iconst (v := 0) hx hb dX3_init_14 (by decide) ?_
  refine va_put (D := D) (ci := 3) (v := .int 0) (ty := tyX3 2) (C := RX3) (T := TX3) (N := 3) hx hb hts uX3 tyX3 tyX3_ok nmX3 hown hkb.1 hP hD hS 0 rfl rfl 2 (by decide) (hts _ kw_84) (fun _ h9 => h9) rfl (tyX3_ok 2 (by decide)) rfl rfl (Nat.le_of_ble_eq_true rfl) dX3_init_15 (fun H locs hP hD hS => ?_)
  have hP : va_P D cls [(h0, .inr (3, [.null, .ref q_1, .int 0])), (q_1, .inl (cI, 900, .inl (fun _ => 0)))] H := hP
  have hD : va_D A [(h0, .inr (3, [.null, .ref q_1, .int 0])), (q_1, .inl (cI, 900, .inl (fun _ => 0)))] := hD
  refine lv_aload_n hx hb dX3_init_18 rfl (lv_at hl 0 rfl) ?_
  refine lv_aload_n hx hb dX3_init_19 rfl (lv_at hl 1 rfl) ?_
  refine va_putF (D := D) (ci := 3) (v := .ref tk) (ty := tyX3 0) (C := RX3) (T := TX3) (N := 3) hx hb hts uX3 tyX3 tyX3_ok nmX3 hown hkb.1 hP hD hS 0 rfl rfl 0 (by decide) (hts _ kw_82) (fun _ h9 => h9) rfl hnm rfl (tyX3_ok 0 (by decide)) rfl rfl (Nat.le_of_ble_eq_true rfl) dX3_init_20 (fun H locs hP hD hS => ?_)
  have hP : va_P D cls [(h0, .inr (3, [.ref tk, .ref q_1, .int 0])), (q_1, .inl (cI, 900, .inl (fun _ => 0)))] H := hP
  have hD : va_D A [(h0, .inr (3, [.ref tk, .ref q_1, .int 0])), (q_1, .inl (cI, 900, .inl (fun _ => 0)))] := hD
  refine W.widen (k := 1) (n := 900) (Nat.le_of_ble_eq_true rfl) (Nat.le_of_ble_eq_true rfl) ?_
  exact e_v (u := [(h0, .inr (3, [.ref tk, .ref q_1, .int 0])), (q_1, .inl (cI, 900, .inl (fun _ => 0)))]) hx hb hr hlocks (hP.sub (ws' := [(h0, .inr (3, [.ref tk, .ref q_1, .int 0])), (q_1, .inl (cI, 900, .inl (fun _ => 0)))]) [0, 1] rfl) (hD.sub (ws' := [(h0, .inr (3, [.ref tk, .ref q_1, .int 0])), (q_1, .inl (cI, 900, .inl (fun _ => 0)))]) [0, 1] (by decide) rfl) hS ⟨q_1, rfl⟩ dX3_init_23
set_option maxHeartbeats 4000000 in
set_option maxRecDepth 100000 in
theorem c_Wall_init_14 (l : Launch) (D : va_G) (cB cI cJ cZ cS cW cT cR : ClassId) (h0 : Nat) : Kon l D (tyl cB cI cJ cZ cS cW cT cR) yX9_init cX9_init 4 none { frames := 1, cells := 5, slots := 52, locals := 14 } [.ref h0, .int 14, .int 5, .null] [(h0, .inr (9, [.int 0, .int 0, .int 0, .int 0, .int 0, .int 0, .null, .null, .null, .null, .null, .null, .int 0, .int 0]))] (Qv D (fun u => ∃ (q_1 : Nat), ∃ (q_2 : Nat), ∃ (q_3 : Nat), ∃ (q_4 : Nat), ∃ (q_5 : Nat), u = [(h0, .inr (9, [.int 14, .int 5, .int 0, .int 0, .int 0, .int 0, .ref q_1, .ref q_2, .ref q_3, .ref q_4, .ref q_5, .null, .int 0, .int 1])), (q_1, .inl (cI, 14, .inl (fun _ => 0))), (q_2, .inl (cI, 14, .inl (fun _ => 0))), (q_3, .inl (cI, 14, .inl (fun _ => 0))), (q_4, .inl (cI, 5, .inl (fun _ => 0))), (q_5, .inl (cI, 5, .inl (fun _ => 0)))])) := by
  refine kon_of (by decide) (Nat.le_of_ble_eq_true rfl) (fun p e s m below meth c ls A hx hb hr hml hown hts hlocks hnm hkb hP hD hS hA hl => ?_)
  have hown : s.vm.findClass RX9 = some m.cls := hown
  have hl : lv_has ls 4 [(0, .ref h0), (1, .int 14), (2, .int 5), (3, .null)] := hl
  have hP : va_P D cls [(h0, .inr (9, [.int 0, .int 0, .int 0, .int 0, .int 0, .int 0, .null, .null, .null, .null, .null, .null, .int 0, .int 0]))] s.heap := hP
  refine lv_aload_n hx hb dX9_init_0 rfl (lv_at hl 0 rfl) ?_
  refine W.objInit hx hb hown (hts _ kw_98) (hts _ kw_30) (hts _ kw_31) rfl (by rw [hml]; exact hl.1) rfl dX9_init_1 (Nat.le_of_ble_eq_true rfl) (Nat.le_of_ble_eq_true rfl) ?_
  refine W.eq (g2 := F0 m 4 ls []) rfl ?_
  refine lv_aload_n hx hb dX9_init_4 rfl (lv_at hl 0 rfl) ?_
  refine lv_iconst (v := 0) hx hb dX9_init_5 (by decide) ?_
  refine va_put (D := D) (ci := 9) (v := .int 0) (ty := tyX9 2) (C := RX9) (T := TX9) (N := 14) hx hb hts uX9 tyX9 tyX9_ok nmX9 hown hkb.1 hP hD hS 0 rfl rfl 2 (by decide) (hts _ kw_113) (fun _ h9 => h9) rfl (tyX9_ok 2 (by decide)) rfl rfl (Nat.le_of_ble_eq_true rfl) dX9_init_6 (fun H locs hP hD hS => ?_)
  have hP : va_P D cls [(h0, .inr (9, [.int 0, .int 0, .int 0, .int 0, .int 0, .int 0, .null, .null, .null, .null, .null, .null, .int 0, .int 0]))] H := hP
  have hD : va_D A [(h0, .inr (9, [.int 0, .int 0, .int 0, .int 0, .int 0, .int 0, .null, .null, .null, .null, .null, .null, .int 0, .int 0]))] := hD
  refine lv_aload_n hx hb dX9_init_9 rfl (lv_at hl 0 rfl) ?_
  refine lv_iconst (v := 0) hx hb dX9_init_10 (by decide) ?_
  refine va_put (D := D) (ci := 9) (v := .int 0) (ty := tyX9 3) (C := RX9) (T := TX9) (N := 14) hx hb hts uX9 tyX9 tyX9_ok nmX9 hown hkb.1 hP hD hS 0 rfl rfl 3 (by decide) (hts _ kw_116) (fun _ h9 => h9) rfl (tyX9_ok 3 (by decide)) rfl rfl (Nat.le_of_ble_eq_true rfl) dX9_init_11 (fun H locs hP hD hS => ?_)
  have hP : va_P D cls [(h0, .inr (9, [.int 0, .int 0, .int 0, .int 0, .int 0, .int 0, .null, .null, .null, .null, .null, .null, .int 0, .int 0]))] H := hP
  have hD : va_D A [(h0, .inr (9, [.int 0, .int 0, .int 0, .int 0, .int 0, .int 0, .null, .null, .null, .null, .null, .null, .int 0, .int 0]))] := hD
  refine lv_aload_n hx hb dX9_init_14 rfl (lv_at hl 0 rfl) ?_
  refine lv_iconst (v := 0) hx hb dX9_init_15 (by decide) ?_
  refine va_put (D := D) (ci := 9) (v := .int 0) (ty := tyX9 4) (C := RX9) (T := TX9) (N := 14) hx hb hts uX9 tyX9 tyX9_ok nmX9 hown hkb.1 hP hD hS 0 rfl rfl 4 (by decide) (hts _ kw_123) (fun _ h9 => h9) rfl (tyX9_ok 4 (by decide)) rfl rfl (Nat.le_of_ble_eq_true rfl) dX9_init_16 (fun H locs hP hD hS => ?_)
  have hP : va_P D cls [(h0, .inr (9, [.int 0, .int 0, .int 0, .int 0, .int 0, .int 0, .null, .null, .null, .null, .null, .null, .int 0, .int 0]))] H := hP
  have hD : va_D A [(h0, .inr (9, [.int 0, .int 0, .int 0, .int 0, .int 0, .int 0, .null, .null, .null, .null, .null, .null, .int 0, .int 0]))] := hD
  refine lv_aload_n hx hb dX9_init_19 rfl (lv_at hl 0 rfl) ?_
  refine lv_iconst (v := 0) hx hb dX9_init_20 (by decide) ?_
  refine va_put (D := D) (ci := 9) (v := .int 0) (ty := tyX9 5) (C := RX9) (T := TX9) (N := 14) hx hb hts uX9 tyX9 tyX9_ok nmX9 hown hkb.1 hP hD hS 0 rfl rfl 5 (by decide) (hts _ kw_130) (fun _ h9 => h9) rfl (tyX9_ok 5 (by decide)) rfl rfl (Nat.le_of_ble_eq_true rfl) dX9_init_21 (fun H locs hP hD hS => ?_)
  have hP : va_P D cls [(h0, .inr (9, [.int 0, .int 0, .int 0, .int 0, .int 0, .int 0, .null, .null, .null, .null, .null, .null, .int 0, .int 0]))] H := hP
  have hD : va_D A [(h0, .inr (9, [.int 0, .int 0, .int 0, .int 0, .int 0, .int 0, .null, .null, .null, .null, .null, .null, .int 0, .int 0]))] := hD
  refine lv_aload_n hx hb dX9_init_24 rfl (lv_at hl 0 rfl) ?_
  refine lv_iconst (v := 0) hx hb dX9_init_25 (by decide) ?_
  refine lv_iload_n hx hb dX9_init_26 rfl (lv_at hl 1 rfl) ?_
  refine va_mmax hx hb (by rw [hml]; exact hl.1.symm) hown (hts _ kw_99) (hts _ kw_100) (hts _ kw_6) (hts _ kw_101) (Nat.le_of_ble_eq_true rfl) (Nat.le_of_ble_eq_true rfl) (Nat.le_of_ble_eq_true rfl) (Nat.le_of_ble_eq_true rfl) dX9_init_27 ?_
  refine lv_topc (y := 14) (by decide +kernel) ?_
  refine va_put (D := D) (ci := 9) (v := .int 14) (ty := tyX9 0) (C := RX9) (T := TX9) (N := 14) hx hb hts uX9 tyX9 tyX9_ok nmX9 hown hkb.1 hP hD hS 0 rfl rfl 0 (by decide) (hts _ kw_106) (fun _ h9 => h9) rfl (tyX9_ok 0 (by decide)) rfl rfl (Nat.le_of_ble_eq_true rfl) dX9_init_30 (fun H locs hP hD hS => ?_)
  have hP : va_P D cls [(h0, .inr (9, [.int 14, .int 0, .int 0, .int 0, .int 0, .int 0, .null, .null, .null, .null, .null, .null, .int 0, .int 0]))] H := hP
  have hD : va_D A [(h0, .inr (9, [.int 14, .int 0, .int 0, .int 0, .int 0, .int 0, .null, .null, .null, .null, .null, .null, .int 0, .int 0]))] := hD
  refine lv_aload_n hx hb dX9_init_33 rfl (lv_at hl 0 rfl) ?_
  refine lv_iconst (v := 0) hx hb dX9_init_34 (by decide) ?_
  refine lv_iload_n hx hb dX9_init_35 rfl (lv_at hl 2 rfl) ?_
  refine va_mmax hx hb (by rw [hml]; exact hl.1.symm) hown (hts _ kw_99) (hts _ kw_100) (hts _ kw_6) (hts _ kw_101) (Nat.le_of_ble_eq_true rfl) (Nat.le_of_ble_eq_true rfl) (Nat.le_of_ble_eq_true rfl) (Nat.le_of_ble_eq_true rfl) dX9_init_36 ?_
  refine lv_topc (y := 5) (by decide +kernel) ?_
  refine va_put (D := D) (ci := 9) (v := .int 5) (ty := tyX9 1) (C := RX9) (T := TX9) (N := 14) hx hb hts uX9 tyX9 tyX9_ok nmX9 hown hkb.1 hP hD hS 0 rfl rfl 1 (by decide) (hts _ kw_110) (fun _ h9 => h9) rfl (tyX9_ok 1 (by decide)) rfl rfl (Nat.le_of_ble_eq_true rfl) dX9_init_39 (fun H locs hP hD hS => ?_)
  have hP : va_P D cls [(h0, .inr (9, [.int 14, .int 5, .int 0, .int 0, .int 0, .int 0, .null, .null, .null, .null, .null, .null, .int 0, .int 0]))] H := hP
  have hD : va_D A [(h0, .inr (9, [.int 14, .int 5, .int 0, .int 0, .int 0, .int 0, .null, .null, .null, .null, .null, .null, .int 0, .int 0]))] := hD
  refine lv_aload_n hx hb dX9_init_42 rfl (lv_at hl 0 rfl) ?_
  refine lv_aload_n hx hb dX9_init_43 rfl (lv_at hl 0 rfl) ?_
  refine va_get (D := D) (ci := 9) (v := .int 14) (C := RX9) (T := TX9) (N := 14) hx hb hts uX9 hown hkb.1 hP 0 rfl rfl 0 (by decide) (hts _ kw_106) (fun _ h9 => h9) rfl dX9_init_44 ?_
  refine n_a (atype := .int) (t := .int) (a0 := (14, .inl (fun _ => 0))) 1 rfl (fun _ _ h => h) hx hb (hts _ kw_92) rfl hkb.1 hP hD hS hA (fun _ => rfl) (by decide) (by decide +kernel) (by decide) (Nat.le_of_ble_eq_true rfl) (Nat.le_of_ble_eq_true rfl) dX9_init_47 (fun q_1 H hP hD hS => ?_)
  have hP : va_P D cls [(h0, .inr (9, [.int 14, .int 5, .int 0, .int 0, .int 0, .int 0, .null, .null, .null, .null, .null, .null, .int 0, .int 0])), (q_1, .inl (cI, 14, .inl (fun _ => 0)))] H := hP
  have hD : va_D A [(h0, .inr (9, [.int 14, .int 5, .int 0, .int 0, .int 0, .int 0, .null, .null, .null, .null, .null, .null, .int 0, .int 0])), (q_1, .inl (cI, 14, .inl (fun _ => 0)))] := hD
  refine W.widen (k := 1) (n := 14) (Nat.le_of_ble_eq_true rfl) (Nat.le_of_ble_eq_true rfl) ?_
  refine va_putF (D := D) (ci := 9) (v := .ref q_1) (ty := tyX9 6) (C := RX9) (T := TX9) (N := 14) hx hb hts uX9 tyX9 tyX9_ok nmX9 hown hkb.1 hP hD hS 0 rfl rfl 6 (by decide) (hts _ kw_132) (fun _ h9 => h9) rfl hnm rfl (tyX9_ok 6 (by decide)) rfl rfl (Nat.le_of_ble_eq_true rfl) dX9_init_49 (fun H locs hP hD hS => ?_)
  have hP : va_P D cls [(h0, .inr (9, [.int 14, .int 5, .int 0, .int 0, .int 0, .int 0, .ref q_1, .null, .null, .null, .null, .null, .int 0, .int 0])), (q_1, .inl (cI, 14, .inl (fun _ => 0)))] H := hP
  have hD : va_D A [(h0, .inr (9, [.int 14, .int 5, .int 0, .int 0, .int 0, .int 0, .ref q_1, .null, .null, .null, .null, .null, .int 0, .int 0])), (q_1, .inl (cI, 14, .inl (fun _ => 0)))] := hD
  refine lv_aload_n hx hb dX9_init_52 rfl (lv_at hl 0 rfl) ?_
  refine lv_aload_n hx hb dX9_init_53 rfl (lv_at hl 0 rfl) ?_
  refine va_get (D := D) (ci := 9) (v := .int 14) (C := RX9) (T := TX9) (N := 14) hx hb hts uX9 hown hkb.1 hP 0 rfl rfl 0 (by decide) (hts _ kw_106) (fun _ h9 => h9) rfl dX9_init_54 ?_
  refine n_a (atype := .int) (t := .int) (a0 := (14, .inl (fun _ => 0))) 1 rfl (fun _ _ h => h) hx hb (hts _ kw_92) rfl hkb.1 hP hD hS hA (fun _ => rfl) (by decide) (by decide +kernel) (by decide) (Nat.le_of_ble_eq_true rfl) (Nat.le_of_ble_eq_true rfl) dX9_init_57 (fun q_2 H hP hD hS => ?_)
  have hP : va_P D cls [(h0, .inr (9, [.int 14, .int 5, .int 0, .int 0, .int 0, .int 0, .ref q_1, .null, .null, .null, .null, .null, .int 0, .int 0])), (q_1, .inl (cI, 14, .inl (fun _ => 0))), (q_2, .inl (cI, 14, .inl (fun _ => 0)))] H := hP
  have hD : va_D A [(h0, .inr (9, [.int 14, .int 5, .int 0, .int 0, .int 0, .int 0, .ref q_1, .null, .null, .null, .null, .null, .int 0, .int 0])), (q_1, .inl (cI, 14, .inl (fun _ => 0))), (q_2, .inl (cI, 14, .inl (fun _ => 0)))] := hD
  refine W.widen (k := 2) (n := 28) (Nat.le_of_ble_eq_true rfl) (Nat.le_of_ble_eq_true rfl) ?_
  refine va_putF (D := D) (ci := 9) (v := .ref q_2) (ty := tyX9 7) (C := RX9) (T := TX9) (N := 14) hx hb hts uX9 tyX9 tyX9_ok nmX9 hown hkb.1 hP hD hS 0 rfl rfl 7 (by decide) (hts _ kw_135) (fun _ h9 => h9) rfl hnm rfl (tyX9_ok 7 (by decide)) rfl rfl (Nat.le_of_ble_eq_true rfl) dX9_init_59 (fun H locs hP hD hS => ?_)
  have hP : va_P D cls [(h0, .inr (9, [.int 14, .int 5, .int 0, .int 0, .int 0, .int 0, .ref q_1, .ref q_2, .null, .null, .null, .null, .int 0, .int 0])), (q_1, .inl (cI, 14, .inl (fun _ => 0))), (q_2, .inl (cI, 14, .inl (fun _ => 0)))] H := hP
  have hD : va_D A [(h0, .inr (9, [.int 14, .int 5, .int 0, .int 0, .int 0, .int 0, .ref q_1, .ref q_2, .null, .null, .null, .null, .int 0, .int 0])), (q_1, .inl (cI, 14, .inl (fun _ => 0))), (q_2, .inl (cI, 14, .inl (fun _ => 0)))] := hD
  refine lv_aload_n hx hb dX9_init_62 rfl (lv_at hl 0 rfl) ?_
  refine lv_aload_n hx hb dX9_init_63 rfl (lv_at hl 0 rfl) ?_
  refine va_get (D := D) (ci := 9) (v := .int 14) (C := RX9) (T := TX9) (N := 14) hx hb hts uX9 hown hkb.1 hP 0 rfl rfl 0 (by decide) (hts _ kw_106) (fun _ h9 => h9) rfl dX9_init_64 ?_
  refine n_a (atype := .int) (t := .int) (a0 := (14, .inl (fun _ => 0))) 1 rfl (fun _ _ h => h) hx hb (hts _ kw_92) rfl hkb.1 hP hD hS hA (fun _ => rfl) (by decide) (by decide +kernel) (by decide) (Nat.le_of_ble_eq_true rfl) (Nat.le_of_ble_eq_true rfl) dX9_init_67 (fun q_3 H hP hD hS => ?_)
  have hP : va_P D cls [(h0, .inr (9, [.int 14, .int 5, .int 0, .int 0, .int 0, .int 0, .ref q_1, .ref q_2, .null, .null, .null, .null, .int 0, .int 0])), (q_1, .inl (cI, 14, .inl (fun _ => 0))), (q_2, .inl (cI, 14, .inl (fun _ => 0))), (q_3, .inl (cI, 14, .inl (fun _ => 0)))] H := hP
  have hD : va_D A [(h0, .inr (9, [.int 14, .int 5, .int 0, .int 0, .int 0, .int 0, .ref q_1, .ref q_2, .null, .null, .null, .null, .int 0, .int 0])), (q_1, .inl (cI, 14, .inl (fun _ => 0))), (q_2, .inl (cI, 14, .inl (fun _ => 0))), (q_3, .inl (cI, 14, .inl (fun _ => 0)))] := hD
  refine W.widen (k := 3) (n := 42) (Nat.le_of_ble_eq_true rfl) (Nat.le_of_ble_eq_true rfl) ?_
  refine va_putF (D := D) (ci := 9) (v := .ref q_3) (ty := tyX9 8) (C := RX9) (T := TX9) (N := 14) hx hb hts uX9 tyX9 tyX9_ok nmX9 hown hkb.1 hP hD hS 0 rfl rfl 8 (by decide) (hts _ kw_138) (fun _ h9 => h9) rfl hnm rfl (tyX9_ok 8 (by decide)) rfl rfl (Nat.le_of_ble_eq_true rfl) dX9_init_69 (fun H locs hP hD hS => ?_)
  have hP : va_P D cls [(h0, .inr (9, [.int 14, .int 5, .int 0, .int 0, .int 0, .int 0, .ref q_1, .ref q_2, .ref q_3, .null, .null, .null, .int 0, .int 0])), (q_1, .inl (cI, 14, .inl (fun _ => 0))), (q_2, .inl (cI, 14, .inl (fun _ => 0))), (q_3, .inl (cI, 14, .inl (fun _ => 0)))] H := hP
  have hD : va_D A [(h0, .inr (9, [.int 14, .int 5, .int 0, .int 0, .int 0, .int 0, .ref q_1, .ref q_2, .ref q_3, .null, .null, .null, .int 0, .int 0])), (q_1, .inl (cI, 14, .inl (fun _ => 0))), (q_2, .inl (cI, 14, .inl (fun _ => 0))), (q_3, .inl (cI, 14, .inl (fun _ => 0)))] := hD
  refine lv_aload_n hx hb dX9_init_72 rfl (lv_at hl 0 rfl) ?_
  refine lv_aload_n hx hb dX9_init_73 rfl (lv_at hl 0 rfl) ?_
  refine va_get (D := D) (ci := 9) (v := .int 5) (C := RX9) (T := TX9) (N := 14) hx hb hts uX9 hown hkb.1 hP 0 rfl rfl 1 (by decide) (hts _ kw_110) (fun _ h9 => h9) rfl dX9_init_74 ?_
  refine n_a (atype := .int) (t := .int) (a0 := (5, .inl (fun _ => 0))) 1 rfl (fun _ _ h => h) hx hb (hts _ kw_92) rfl hkb.1 hP hD hS hA (fun _ => rfl) (by decide) (by decide +kernel) (by decide) (Nat.le_of_ble_eq_true rfl) (Nat.le_of_ble_eq_true rfl) dX9_init_77 (fun q_4 H hP hD hS => ?_)
  have hP : va_P D cls [(h0, .inr (9, [.int 14, .int 5, .int 0, .int 0, .int 0, .int 0, .ref q_1, .ref q_2, .ref q_3, .null, .null, .null, .int 0, .int 0])), (q_1, .inl (cI, 14, .inl (fun _ => 0))), (q_2, .inl (cI, 14, .inl (fun _ => 0))), (q_3, .inl (cI, 14, .inl (fun _ => 0))), (q_4, .inl (cI, 5, .inl (fun _ => 0)))] H := hP
  have hD : va_D A [(h0, .inr (9, [.int 14, .int 5, .int 0, .int 0, .int 0, .int 0, .ref q_1, .ref q_2, .ref q_3, .null, .null, .null, .int 0, .int 0])), (q_1, .inl (cI, 14, .inl (fun _ => 0))), (q_2, .inl (cI, 14, .inl (fun _ => 0))), (q_3, .inl (cI, 14, .inl (fun _ => 0))), (q_4, .inl (cI, 5, .inl (fun _ => 0)))] := hD
  refine W.widen (k := 4) (n := 47) (Nat.le_of_ble_eq_true rfl) (Nat.le_of_ble_eq_true rfl) ?_
  refine va_putF (D := D) (ci := 9) (v := .ref q_4) (ty := tyX9 9) (C := RX9) (T := TX9) (N := 14) hx hb hts uX9 tyX9 tyX9_ok nmX9 hown hkb.1 hP hD hS 0 rfl rfl 9 (by decide) (hts _ kw_141) (fun _ h9 => h9) rfl hnm rfl (tyX9_ok 9 (by decide)) rfl rfl (Nat.le_of_ble_eq_true rfl) dX9_init_79 (fun H locs hP hD hS => ?_)
  have hP : va_P D cls [(h0, .inr (9, [.int 14, .int 5, .int 0, .int 0, .int 0, .int 0, .ref q_1, .ref q_2, .ref q_3, .ref q_4, .null, .null, .int 0, .int 0])), (q_1, .inl (cI, 14, .inl (fun _ => 0))), (q_2, .inl (cI, 14, .inl (fun _ => 0))), (q_3, .inl (cI, 14, .inl (fun _ => 0))), (q_4, .inl (cI, 5, .inl (fun _ => 0)))] H := hP
  have hD : va_D A [(h0, .inr (9, [.int 14, .int 5, .int 0, .int 0, .int 0, .int 0, .ref q_1, .ref q_2, .ref q_3, .ref q_4, .null, .null, .int 0, .int 0])), (q_1, .inl (cI, 14, .inl (fun _ => 0))), (q_2, .inl (cI, 14, .inl (fun _ => 0))), (q_3, .inl (cI, 14, .inl (fun _ => 0))), (q_4, .inl (cI, 5, .inl (fun _ => 0)))] := hD
  refine lv_aload_n hx hb dX9_init_82 rfl (lv_at hl 0 rfl) ?_
  refine lv_aload_n hx hb dX9_init_83 rfl (lv_at hl 0 rfl) ?_
  refine va_get (D := D) (ci := 9) (v := .int 5) (C := RX9) (T := TX9) (N := 14) hx hb hts uX9 hown hkb.1 hP 0 rfl rfl 1 (by decide) (hts _ kw_110) (fun _ h9 => h9) rfl dX9_init_84 ?_
  refine n_a (atype := .int) (t := .int) (a0 := (5, .inl (fun _ => 0))) 1 rfl (fun _ _ h => h) hx hb (hts _ kw_92) rfl hkb.1 hP hD hS hA (fun _ => rfl) (by decide) (by decide +kernel) (by decide) (Nat.le_of_ble_eq_true rfl) (Nat.le_of_ble_eq_true rfl) dX9_init_87 (fun q_5 H hP hD hS => ?_)
  have hP : va_P D cls [(h0, .inr (9, [.int 14, .int 5, .int 0, .int 0, .int 0, .int 0, .ref q_1, .ref q_2, .ref q_3, .ref q_4, .null, .null, .int 0, .int 0])), (q_1, .inl (cI, 14, .inl (fun _ => 0))), (q_2, .inl (cI, 14, .inl (fun _ => 0))), (q_3, .inl (cI, 14, .inl (fun _ => 0))), (q_4, .inl (cI, 5, .inl (fun _ => 0))), (q_5, .inl (cI, 5, .inl (fun _ => 0)))] H := hP
  have hD : va_D A [(h0, .inr (9, [.int 14, .int 5, .int 0, .int 0, .int 0, .int 0, .ref q_1, .ref q_2, .ref q_3, .ref q_4, .null, .null, .int 0, .int 0])), (q_1, .inl (cI, 14, .inl (fun _ => 0))), (q_2, .inl (cI, 14, .inl (fun _ => 0))), (q_3, .inl (cI, 14, .inl (fun _ => 0))), (q_4, .inl (cI, 5, .inl (fun _ => 0))), (q_5, .inl (cI, 5, .inl (fun _ => 0)))] := hD
  refine W.widen (k := 5) (n := 52) (Nat.le_of_ble_eq_true rfl) (Nat.le_of_ble_eq_true rfl) ?_
  refine va_putF (D := D) (ci := 9) (v := .ref q_5) (ty := tyX9 10) (C := RX9) (T := TX9) (N := 14) hx hb hts uX9 tyX9 tyX9_ok nmX9 hown hkb.1 hP hD hS 0 rfl rfl 10 (by decide) (hts _ kw_144) (fun _ h9 => h9) rfl hnm rfl (tyX9_ok 10 (by decide)) rfl rfl (Nat.le_of_ble_eq_true rfl) dX9_init_89 (fun H locs hP hD hS => ?_)
  have hP : va_P D cls [(h0, .inr (9, [.int 14, .int 5, .int 0, .int 0, .int 0, .int 0, .ref q_1, .ref q_2, .ref q_3, .ref q_4, .ref q_5, .null, .int 0, .int 0])), (q_1, .inl (cI, 14, .inl (fun _ => 0))), (q_2, .inl (cI, 14, .inl (fun _ => 0))), (q_3, .inl (cI, 14, .inl (fun _ => 0))), (q_4, .inl (cI, 5, .inl (fun _ => 0))), (q_5, .inl (cI, 5, .inl (fun _ => 0)))] H := hP
  have hD : va_D A [(h0, .inr (9, [.int 14, .int 5, .int 0, .int 0, .int 0, .int 0, .ref q_1, .ref q_2, .ref q_3, .ref q_4, .ref q_5, .null, .int 0, .int 0])), (q_1, .inl (cI, 14, .inl (fun _ => 0))), (q_2, .inl (cI, 14, .inl (fun _ => 0))), (q_3, .inl (cI, 14, .inl (fun _ => 0))), (q_4, .inl (cI, 5, .inl (fun _ => 0))), (q_5, .inl (cI, 5, .inl (fun _ => 0)))] := hD
  refine lv_aload_n hx hb dX9_init_92 rfl (lv_at hl 0 rfl) ?_
  refine lv_aload_nN hx hb dX9_init_93 rfl (lv_at hl 3 rfl) ?_
  refine va_putF (D := D) (ci := 9) (v := .null) (ty := tyX9 11) (C := RX9) (T := TX9) (N := 14) hx hb hts uX9 tyX9 tyX9_ok nmX9 hown hkb.1 hP hD hS 0 rfl rfl 11 (by decide) (hts _ kw_147) (fun _ h9 => h9) rfl hnm rfl (tyX9_ok 11 (by decide)) rfl rfl (Nat.le_of_ble_eq_true rfl) dX9_init_94 (fun H locs hP hD hS => ?_)
  have hP : va_P D cls [(h0, .inr (9, [.int 14, .int 5, .int 0, .int 0, .int 0, .int 0, .ref q_1, .ref q_2, .ref q_3, .ref q_4, .ref q_5, .null, .int 0, .int 0])), (q_1, .inl (cI, 14, .inl (fun _ => 0))), (q_2, .inl (cI, 14, .inl (fun _ => 0))), (q_3, .inl (cI, 14, .inl (fun _ => 0))), (q_4, .inl (cI, 5, .inl (fun _ => 0))), (q_5, .inl (cI, 5, .inl (fun _ => 0)))] H := hP
  have hD : va_D A [(h0, .inr (9, [.int 14, .int 5, .int 0, .int 0, .int 0, .int 0, .ref q_1, .ref q_2, .ref q_3, .ref q_4, .ref q_5, .null, .int 0, .int 0])), (q_1, .inl (cI, 14, .inl (fun _ => 0))), (q_2, .inl (cI, 14, .inl (fun _ => 0))), (q_3, .inl (cI, 14, .inl (fun _ => 0))), (q_4, .inl (cI, 5, .inl (fun _ => 0))), (q_5, .inl (cI, 5, .inl (fun _ => 0)))] := hD
  refine lv_aload_n hx hb dX9_init_97 rfl (lv_at hl 0 rfl) ?_
  refine lv_aload_nN hx hb dX9_init_98 rfl (lv_at hl 3 rfl) ?_
  refine lv_ifnullN (tgt := 115) hx hb dX9_init_99 (by decide) ?_
  refine lv_iconst (v := 0) hx hb dX9_init_115 (by decide) ?_
  refine va_putF (D := D) (ci := 9) (v := .int 0) (ty := tyX9 12) (C := RX9) (T := TX9) (N := 14) hx hb hts uX9 tyX9 tyX9_ok nmX9 hown hkb.1 hP hD hS 0 rfl rfl 12 (by decide) (hts _ kw_148) (fun _ h9 => h9) rfl hnm rfl (tyX9_ok 12 (by decide)) rfl rfl (Nat.le_of_ble_eq_true rfl) dX9_init_116 (fun H locs hP hD hS => ?_)
  have hP : va_P D cls [(h0, .inr (9, [.int 14, .int 5, .int 0, .int 0, .int 0, .int 0, .ref q_1, .ref q_2, .ref q_3, .ref q_4, .ref q_5, .null, .int 0, .int 0])), (q_1, .inl (cI, 14, .inl (fun _ => 0))), (q_2, .inl (cI, 14, .inl (fun _ => 0))), (q_3, .inl (cI, 14, .inl (fun _ => 0))), (q_4, .inl (cI, 5, .inl (fun _ => 0))), (q_5, .inl (cI, 5, .inl (fun _ => 0)))] H := hP
  have hD : va_D A [(h0, .inr (9, [.int 14, .int 5, .int 0, .int 0, .int 0, .int 0, .ref q_1, .ref q_2, .ref q_3, .ref q_4, .ref q_5, .null, .int 0, .int 0])), (q_1, .inl (cI, 14, .inl (fun _ => 0))), (q_2, .inl (cI, 14, .inl (fun _ => 0))), (q_3, .inl (cI, 14, .inl (fun _ => 0))), (q_4, .inl (cI, 5, .inl (fun _ => 0))), (q_5, .inl (cI, 5, .inl (fun _ => 0)))] := hD
  refine lv_aload_n hx hb dX9_init_119 rfl (lv_at hl 0 rfl) ?_
  refine lv_aload_nN hx hb dX9_init_120 rfl (lv_at hl 3 rfl) ?_
  refine lv_ifnullN (tgt := 132) hx hb dX9_init_121 (by decide) ?_
  refine lv_iconst (v := 1) hx hb dX9_init_132 (by decide) ?_
  refine lv_goto (tgt := 137) hx hb dX9_init_133 (by decide) ?_
  refine va_putF (D := D) (ci := 9) (v := .int 1) (ty := tyX9 13) (C := RX9) (T := TX9) (N := 14) hx hb hts uX9 tyX9 tyX9_ok nmX9 hown hkb.1 hP hD hS 0 rfl rfl 13 (by decide) (hts _ kw_149) (fun _ h9 => h9) rfl hnm rfl (tyX9_ok 13 (by decide)) rfl rfl (Nat.le_of_ble_eq_true rfl) dX9_init_137 (fun H locs hP hD hS => ?_)
  have hP : va_P D cls [(h0, .inr (9, [.int 14, .int 5, .int 0, .int 0, .int 0, .int 0, .ref q_1, .ref q_2, .ref q_3, .ref q_4, .ref q_5, .null, .int 0, .int 1])), (q_1, .inl (cI, 14, .inl (fun _ => 0))), (q_2, .inl (cI, 14, .inl (fun _ => 0))), (q_3, .inl (cI, 14, .inl (fun _ => 0))), (q_4, .inl (cI, 5, .inl (fun _ => 0))), (q_5, .inl (cI, 5, .inl (fun _ => 0)))] H := hP
  have hD : va_D A [(h0, .inr (9, [.int 14, .int 5, .int 0, .int 0, .int 0, .int 0, .ref q_1, .ref q_2, .ref q_3, .ref q_4, .ref q_5, .null, .int 0, .int 1])), (q_1, .inl (cI, 14, .inl (fun _ => 0))), (q_2, .inl (cI, 14, .inl (fun _ => 0))), (q_3, .inl (cI, 14, .inl (fun _ => 0))), (q_4, .inl (cI, 5, .inl (fun _ => 0))), (q_5, .inl (cI, 5, .inl (fun _ => 0)))] := hD
  refine W.widen (k := 5) (n := 52) (Nat.le_of_ble_eq_true rfl) (Nat.le_of_ble_eq_true rfl) ?_
  exact e_v (u := [(h0, .inr (9, [.int 14, .int 5, .int 0, .int 0, .int 0, .int 0, .ref q_1, .ref q_2, .ref q_3, .ref q_4, .ref q_5, .null, .int 0, .int 1])), (q_1, .inl (cI, 14, .inl (fun _ => 0))), (q_2, .inl (cI, 14, .inl (fun _ => 0))), (q_3, .inl (cI, 14, .inl (fun _ => 0))), (q_4, .inl (cI, 5, .inl (fun _ => 0))), (q_5, .inl (cI, 5, .inl (fun _ => 0)))]) hx hb hr hlocks (hP.sub (ws' := [(h0, .inr (9, [.int 14, .int 5, .int 0, .int 0, .int 0, .int 0, .ref q_1, .ref q_2, .ref q_3, .ref q_4, .ref q_5, .null, .int 0, .int 1])), (q_1, .inl (cI, 14, .inl (fun _ => 0))), (q_2, .inl (cI, 14, .inl (fun _ => 0))), (q_3, .inl (cI, 14, .inl (fun _ => 0))), (q_4, .inl (cI, 5, .inl (fun _ => 0))), (q_5, .inl (cI, 5, .inl (fun _ => 0)))]) [0, 1, 2, 3, 4, 5] rfl) (hD.sub (ws' := [(h0, .inr (9, [.int 14, .int 5, .int 0, .int 0, .int 0, .int 0, .ref q_1, .ref q_2, .ref q_3, .ref q_4, .ref q_5, .null, .int 0, .int 1])), (q_1, .inl (cI, 14, .inl (fun _ => 0))), (q_2, .inl (cI, 14, .inl (fun _ => 0))), (q_3, .inl (cI, 14, .inl (fun _ => 0))), (q_4, .inl (cI, 5, .inl (fun _ => 0))), (q_5, .inl (cI, 5, .inl (fun _ => 0)))]) [0, 1, 2, 3, 4, 5] (by decide) rfl) hS ⟨q_1, q_2, q_3, q_4, q_5, rfl⟩ dX9_init_140
set_option maxHeartbeats 4000000 in
set_option maxRecDepth 100000 in
theorem c_Wall_init_0 (l : Launch) (D : va_G) (cB cI cJ cZ cS cW cT cR : ClassId) (h0 : Nat) : Kon l D (tyl cB cI cJ cZ cS cW cT cR) yX9_init cX9_init 4 none { frames := 1, cells := 5, slots := 0, locals := 14 } [.ref h0, .int 0, .int 0, .null] [(h0, .inr (9, [.int 0, .int 0, .int 0, .int 0, .int 0, .int 0, .null, .null, .null, .null, .null, .null, .int 0, .int 0]))] (Qv D (fun u => ∃ (q_1 : Nat), ∃ (q_2 : Nat), ∃ (q_3 : Nat), ∃ (q_4 : Nat), ∃ (q_5 : Nat), u = [(h0, .inr (9, [.int 0, .int 0, .int 0, .int 0, .int 0, .int 0, .ref q_1, .ref q_2, .ref q_3, .ref q_4, .ref q_5, .null, .int 0, .int 1])), (q_1, .inl (cI, 0, .inl (fun _ => 0))), (q_2, .inl (cI, 0, .inl (fun _ => 0))), (q_3, .inl (cI, 0, .inl (fun _ => 0))), (q_4, .inl (cI, 0, .inl (fun _ => 0))), (q_5, .inl (cI, 0, .inl (fun _ => 0)))])) := by
  refine kon_of (by decide) (Nat.le_of_ble_eq_true rfl) (fun p e s m below meth c ls A hx hb hr hml hown hts hlocks hnm hkb hP hD hS hA hl => ?_)
  have hown : s.vm.findClass RX9 = some m.cls := hown
  have hl : lv_has ls 4 [(0, .ref h0), (1, .int 0), (2, .int 0), (3, .null)] := hl
  have hP : va_P D cls [(h0, .inr (9, [.int 0, .int 0, .int 0, .int 0, .int 0, .int 0, .null, .null, .null, .null, .null, .null, .int 0, .int 0]))] s.heap := hP
  refine lv_aload_n hx hb dX9_init_0 rfl (lv_at hl 0 rfl) ?_
  refine W.objInit hx hb hown (hts _ kw_98) (hts _ kw_30) (hts _ kw_31) rfl (by rw [hml]; exact hl.1) rfl dX9_init_1 (Nat.le_of_ble_eq_true rfl) (Nat.le_of_ble_eq_true rfl) ?_
  refine W.eq (g2 := F0 m 4 ls []) rfl ?_
  refine lv_aload_n hx hb dX9_init_4 rfl (lv_at hl 0 rfl) ?_
  refine lv_iconst (v := 0) hx hb dX9_init_5 (by decide) ?_
  refine va_put (D := D) (ci := 9) (v := .int 0) (ty := tyX9 2) (C := RX9) (T := TX9) (N := 14) hx hb hts uX9 tyX9 tyX9_ok nmX9 hown hkb.1 hP hD hS 0 rfl rfl 2 (by decide) (hts _ kw_113) (fun _ h9 => h9) rfl (tyX9_ok 2 (by decide)) rfl rfl (Nat.le_of_ble_eq_true rfl) dX9_init_6 (fun H locs hP hD hS => ?_)
  have hP : va_P D cls [(h0, .inr (9, [.int 0, .int 0, .int 0, .int 0, .int 0, .int 0, .null, .null, .null, .null, .null, .null, .int 0, .int 0]))] H := hP
  have hD : va_D A [(h0, .inr (9, [.int 0, .int 0, .int 0, .int 0, .int 0, .int 0, .null, .null, .null, .null, .null, .null, .int 0, .int 0]))] := hD
  refine lv_aload_n hx hb dX9_init_9 rfl (lv_at hl 0 rfl) ?_
  refine lv_iconst (v := 0) hx hb dX9_init_10 (by decide) ?_
  refine va_put (D := D) (ci := 9) (v := .int 0) (ty := tyX9 3) (C := RX9) (T := TX9) (N := 14) hx hb hts uX9 tyX9 tyX9_ok nmX9 hown hkb.1 hP hD hS 0 rfl rfl 3 (by decide) (hts _ kw_116) (fun _ h9 => h9) rfl (tyX9_ok 3 (by decide)) rfl rfl (Nat.le_of_ble_eq_true rfl) dX9_init_11 (fun H locs hP hD hS => ?_)
  have hP : va_P D cls [(h0, .inr (9, [.int 0, .int 0, .int 0, .int 0, .int 0, .int 0, .null, .null, .null, .null, .null, .null, .int 0, .int 0]))] H := hP
  have hD : va_D A [(h0, .inr (9, [.int 0, .int 0, .int 0, .int 0, .int 0, .int 0, .null, .null, .null, .null, .null, .null, .int 0, .int 0]))] := hD
  refine lv_aload_n hx hb dX9_init_14 rfl (lv_at hl 0 rfl) ?_
  refine lv_iconst (v := 0) hx hb dX9_init_15 (by decide) ?_
  refine va_put (D := D) (ci := 9) (v := .int 0) (ty := tyX9 4) (C := RX9) (T := TX9) (N := 14) hx hb hts uX9 tyX9 tyX9_ok nmX9 hown hkb.1 hP hD hS 0 rfl rfl 4 (by decide) (hts _ kw_123) (fun _ h9 => h9) rfl (tyX9_ok 4 (by decide)) rfl rfl (Nat.le_of_ble_eq_true rfl) dX9_init_16 (fun H locs hP hD hS => ?_)
  have hP : va_P D cls [(h0, .inr (9, [.int 0, .int 0, .int 0, .int 0, .int 0, .int 0, .null, .null, .null, .null, .null, .null, .int 0, .int 0]))] H := hP
  have hD : va_D A [(h0, .inr (9, [.int 0, .int 0, .int 0, .int 0, .int 0, .int 0, .null, .null, .null, .null, .null, .null, .int 0, .int 0]))] := hD
  refine lv_aload_n hx hb dX9_init_19 rfl (lv_at hl 0 rfl) ?_
  refine lv_iconst (v := 0) hx hb dX9_init_20 (by decide) ?_
  refine va_put (D := D) (ci := 9) (v := .int 0) (ty := tyX9 5) (C := RX9) (T := TX9) (N := 14) hx hb hts uX9 tyX9 tyX9_ok nmX9 hown hkb.1 hP hD hS 0 rfl rfl 5 (by decide) (hts _ kw_130) (fun _ h9 => h9) rfl (tyX9_ok 5 (by decide)) rfl rfl (Nat.le_of_ble_eq_true rfl) dX9_init_21 (fun H locs hP hD hS => ?_)
  have hP : va_P D cls [(h0, .inr (9, [.int 0, .int 0, .int 0, .int 0, .int 0, .int 0, .null, .null, .null, .null, .null, .null, .int 0, .int 0]))] H := hP
  have hD : va_D A [(h0, .inr (9, [.int 0, .int 0, .int 0, .int 0, .int 0, .int 0, .null, .null, .null, .null, .null, .null, .int 0, .int 0]))] := hD
  refine lv_aload_n hx hb dX9_init_24 rfl (lv_at hl 0 rfl) ?_
  refine lv_iconst (v := 0) hx hb dX9_init_25 (by decide) ?_
  refine lv_iload_n hx hb dX9_init_26 rfl (lv_at hl 1 rfl) ?_
  refine va_mmax hx hb (by rw [hml]; exact hl.1.symm) hown (hts _ kw_99) (hts _ kw_100) (hts _ kw_6) (hts _ kw_101) (Nat.le_of_ble_eq_true rfl) (Nat.le_of_ble_eq_true rfl) (Nat.le_of_ble_eq_true rfl) (Nat.le_of_ble_eq_true rfl) dX9_init_27 ?_
  refine lv_topc (y := 0) (by decide +kernel) ?_
  refine va_put (D := D) (ci := 9) (v := .int 0) (ty := tyX9 0) (C := RX9) (T := TX9) (N := 14) hx hb hts uX9 tyX9 tyX9_ok nmX9 hown hkb.1 hP hD hS 0 rfl rfl 0 (by decide) (hts _ kw_106) (fun _ h9 => h9) rfl (tyX9_ok 0 (by decide)) rfl rfl (Nat.le_of_ble_eq_true rfl) dX9_init_30 (fun H locs hP hD hS => ?_)
  have hP : va_P D cls [(h0, .inr (9, [.int 0, .int 0, .int 0, .int 0, .int 0, .int 0, .null, .null, .null, .null, .null, .null, .int 0, .int 0]))] H := hP
  have hD : va_D A [(h0, .inr (9, [.int 0, .int 0, .int 0, .int 0, .int 0, .int 0, .null, .null, .null, .null, .null, .null, .int 0, .int 0]))] := hD
  refine lv_aload_n hx hb dX9_init_33 rfl (lv_at hl 0 rfl) ?_
  refine lv_iconst (v := 0) hx hb dX9_init_34 (by decide) ?_
  refine lv_iload_n hx hb dX9_init_35 rfl (lv_at hl 2 rfl) ?_
  refine va_mmax hx hb (by rw [hml]; exact hl.1.symm) hown (hts _ kw_99) (hts _ kw_100) (hts _ kw_6) (hts _ kw_101) (Nat.le_of_ble_eq_true rfl) (Nat.le_of_ble_eq_true rfl) (Nat.le_of_ble_eq_true rfl) (Nat.le_of_ble_eq_true rfl) dX9_init_36 ?_
  refine lv_topc (y := 0) (by decide +kernel) ?_
  refine va_put (D := D) (ci := 9) (v := .int 0) (ty := tyX9 1) (C := RX9) (T := TX9) (N := 14) hx hb hts uX9 tyX9 tyX9_ok nmX9 hown hkb.1 hP hD hS 0 rfl rfl 1 (by decide) (hts _ kw_110) (fun _ h9 => h9) rfl (tyX9_ok 1 (by decide)) rfl rfl (Nat.le_of_ble_eq_true rfl) dX9_init_39 (fun H locs hP hD hS => ?_)
  have hP : va_P D cls [(h0, .inr (9, [.int 0, .int 0, .int 0, .int 0, .int 0, .int 0, .null, .null, .null, .null, .null, .null, .int 0, .int 0]))] H := hP
  have hD : va_D A [(h0, .inr (9, [.int 0, .int 0, .int 0, .int 0, .int 0, .int 0, .null, .null, .null, .null, .null, .null, .int 0, .int 0]))] := hD
  refine lv_aload_n hx hb dX9_init_42 rfl (lv_at hl 0 rfl) ?_
  refine lv_aload_n hx hb dX9_init_43 rfl (lv_at hl 0 rfl) ?_
  refine va_get (D := D) (ci := 9) (v := .int 0) (C := RX9) (T := TX9) (N := 14) hx hb hts uX9 hown hkb.1 hP 0 rfl rfl 0 (by decide) (hts _ kw_106) (fun _ h9 => h9) rfl dX9_init_44 ?_
  refine n_a (atype := .int) (t := .int) (a0 := (0, .inl (fun _ => 0))) 1 rfl (fun _ _ h => h) hx hb (hts _ kw_92) rfl hkb.1 hP hD hS hA (fun _ => rfl) (by decide) (by decide +kernel) (by decide) (Nat.le_of_ble_eq_true rfl) (Nat.le_of_ble_eq_true rfl) dX9_init_47 (fun q_1 H hP hD hS => ?_)
  have hP : va_P D cls [(h0, .inr (9, [.int 0, .int 0, .int 0, .int 0, .int 0, .int 0, .null, .null, .null, .null, .null, .null, .int 0, .int 0])), (q_1, .inl (cI, 0, .inl (fun _ => 0)))] H := hP
  have hD : va_D A [(h0, .inr (9, [.int 0, .int 0, .int 0, .int 0, .int 0, .int 0, .null, .null, .null, .null, .null, .null, .int 0, .int 0])), (q_1, .inl (cI, 0, .inl (fun _ => 0)))] := hD
  refine W.widen (k := 1) (n := 0) (Nat.le_of_ble_eq_true rfl) (Nat.le_of_ble_eq_true rfl) ?_
  refine va_putF (D := D) (ci := 9) (v := .ref q_1) (ty := tyX9 6) (C := RX9) (T := TX9) (N := 14) hx hb hts uX9 tyX9 tyX9_ok nmX9 hown hkb.1 hP hD hS 0 rfl rfl 6 (by decide) (hts _ kw_132) (fun _ h9 => h9) rfl hnm rfl (tyX9_ok 6 (by decide)) rfl rfl (Nat.le_of_ble_eq_true rfl) dX9_init_49 (fun H locs hP hD hS => ?_)
  have hP : va_P D cls [(h0, .inr (9, [.int 0, .int 0, .int 0, .int 0, .int 0, .int 0, .ref q_1, .null, .null, .null, .null, .null, .int 0, .int 0])), (q_1, .inl (cI, 0, .inl (fun _ => 0)))] H := hP
  have hD : va_D A [(h0, .inr (9, [.int 0, .int 0, .int 0, .int 0, .int 0, .int 0, .ref q_1, .null, .null, .null, .null, .null, .int 0, .int 0])), (q_1, .inl (cI, 0, .inl (fun _ => 0)))] := hD
  refine lv_aload_n hx hb dX9_init_52 rfl (lv_at hl 0 rfl) ?_
  refine lv_aload_n hx hb dX9_init_53 rfl (lv_at hl 0 rfl) ?_
  refine va_get (D := D) (ci := 9) (v := .int 0) (C := RX9) (T := TX9) (N := 14) hx hb hts uX9 hown hkb.1 hP 0 rfl rfl 0 (by decide) (hts _ kw_106) (fun _ h9 => h9) rfl dX9_init_54 ?_
  refine n_a (atype := .int) (t := .int) (a0 := (0, .inl (fun _ => 0))) 1 rfl (fun _ _ h => h) hx hb (hts _ kw_92) rfl hkb.1 hP hD hS hA (fun _ => rfl) (by decide) (by decide +kernel) (by decide) (Nat.le_of_ble_eq_true rfl) (Nat.le_of_ble_eq_true rfl) dX9_init_57 (fun q_2 H hP hD hS => ?_)
  have hP : va_P D cls [(h0, .inr (9, [.int 0, .int 0, .int 0, .int 0, .int 0, .int 0, .ref q_1, .null, .null, .null, .null, .null, .int 0, .int 0])), (q_1, .inl (cI, 0, .inl (fun _ => 0))), (q_2, .inl (cI, 0, .inl (fun _ => 0)))] H := hP
  have hD : va_D A [(h0, .inr (9, [.int 0, .int 0, .int 0, .int 0, .int 0, .int 0, .ref q_1, .null, .null, .null, .null, .null, .int 0, .int 0])), (q_1, .inl (cI, 0, .inl (fun _ => 0))), (q_2, .inl (cI, 0, .inl (fun _ => 0)))] := hD
  refine W.widen (k := 2) (n := 0) (Nat.le_of_ble_eq_true rfl) (Nat.le_of_ble_eq_true rfl) ?_
  refine va_putF (D := D) (ci := 9) (v := .ref q_2) (ty := tyX9 7) (C := RX9) (T := TX9) (N := 14) hx hb hts uX9 tyX9 tyX9_ok nmX9 hown hkb.1 hP hD hS 0 rfl rfl 7 (by decide) (hts _ kw_135) (fun _ h9 => h9) rfl hnm rfl (tyX9_ok 7 (by decide)) rfl rfl (Nat.le_of_ble_eq_true rfl) dX9_init_59 (fun H locs hP hD hS => ?_)
  have hP : va_P D cls [(h0, .inr (9, [.int 0, .int 0, .int 0, .int 0, .int 0, .int 0, .ref q_1, .ref q_2, .null, .null, .null, .null, .int 0, .int 0])), (q_1, .inl (cI, 0, .inl (fun _ => 0))), (q_2, .inl (cI, 0, .inl (fun _ => 0)))] H := hP
  have hD : va_D A [(h0, .inr (9, [.int 0, .int 0, .int 0, .int 0, .int 0, .int 0, .ref q_1, .ref q_2, .null, .null, .null, .null, .int 0, .int 0])), (q_1, .inl (cI, 0, .inl (fun _ => 0))), (q_2, .inl (cI, 0, .inl (fun _ => 0)))] := hD
  refine lv_aload_n hx hb dX9_init_62 rfl (lv_at hl 0 rfl) ?_
  refine lv_aload_n hx hb dX9_init_63 rfl (lv_at hl 0 rfl) ?_
  refine va_get (D := D) (ci := 9) (v := .int 0) (C := RX9) (T := TX9) (N := 14) hx hb hts uX9 hown hkb.1 hP 0 rfl rfl 0 (by decide) (hts _ kw_106) (fun _ h9 => h9) rfl dX9_init_64 ?_
  refine n_a (atype := .int) (t := .int) (a0 := (0, .inl (fun _ => 0))) 1 rfl (fun _ _ h => h) hx hb (hts _ kw_92) rfl hkb.1 hP hD hS hA (fun _ => rfl) (by decide) (by decide +kernel) (by decide) (Nat.le_of_ble_eq_true rfl) (Nat.le_of_ble_eq_true rfl) dX9_init_67 (fun q_3 H hP hD hS => ?_)
  have hP : va_P D cls [(h0, .inr (9, [.int 0, .int 0, .int 0, .int 0, .int 0, .int 0, .ref q_1, .ref q_2, .null, .null, .null, .null, .int 0, .int 0])), (q_1, .inl (cI, 0, .inl (fun _ => 0))), (q_2, .inl (cI, 0, .inl (fun _ => 0))), (q_3, .inl (cI, 0, .inl (fun _ => 0)))] H := hP
  have hD : va_D A [(h0, .inr (9, [.int 0, .int 0, .int 0, .int 0, .int 0, .int 0, .ref q_1, .ref q_2, .null, .null, .null, .null, .int 0, .int 0])), (q_1, .inl (cI, 0, .inl (fun _ => 0))), (q_2, .inl (cI, 0, .inl (fun _ => 0))), (q_3, .inl (cI, 0, .inl (fun _ => 0)))] := hD
  refine W.widen (k := 3) (n := 0) (Nat.le_of_ble_eq_true rfl) (Nat.le_of_ble_eq_true rfl) ?_
  refine va_putF (D := D) (ci := 9) (v := .ref q_3) (ty := tyX9 8) (C := RX9) (T := TX9) (N := 14) hx hb hts uX9 tyX9 tyX9_ok nmX9 hown hkb.1 hP hD hS 0 rfl rfl 8 (by decide) (hts _ kw_138) (fun _ h9 => h9) rfl hnm rfl (tyX9_ok 8 (by decide)) rfl rfl (Nat.le_of_ble_eq_true rfl) dX9_init_69 (fun H locs hP hD hS => ?_)
  have hP : va_P D cls [(h0, .inr (9, [.int 0, .int 0, .int 0, .int 0, .int 0, .int 0, .ref q_1, .ref q_2, .ref q_3, .null, .null, .null, .int 0, .int 0])), (q_1, .inl (cI, 0, .inl (fun _ => 0))), (q_2, .inl (cI, 0, .inl (fun _ => 0))), (q_3, .inl (cI, 0, .inl (fun _ => 0)))] H := hP
  have hD : va_D A [(h0, .inr (9, [.int 0, .int 0, .int 0, .int 0, .int 0, .int 0, .ref q_1, .ref q_2, .ref q_3, .null, .null, .null, .int 0, .int 0])), (q_1, .inl (cI, 0, .inl (fun _ => 0))), (q_2, .inl (cI, 0, .inl (fun _ => 0))), (q_3, .inl (cI, 0, .inl (fun _ => 0)))] := hD
  refine lv_aload_n hx hb dX9_init_72 rfl (lv_at hl 0 rfl) ?_
  refine lv_aload_n hx hb dX9_init_73 rfl (lv_at hl 0 rfl) ?_
  refine va_get (D := D) (ci := 9) (v := .int 0) (C := RX9) (T := TX9) (N := 14) hx hb hts uX9 hown hkb.1 hP 0 rfl rfl 1 (by decide) (hts _ kw_110) (fun _ h9 => h9) rfl dX9_init_74 ?_
  refine n_a (atype := .int) (t := .int) (a0 := (0, .inl (fun _ => 0))) 1 rfl (fun _ _ h => h) hx hb (hts _ kw_92) rfl hkb.1 hP hD hS hA (fun _ => rfl) (by decide) (by decide +kernel) (by decide) (Nat.le_of_ble_eq_true rfl) (Nat.le_of_ble_eq_true rfl) dX9_init_77 (fun q_4 H hP hD hS => ?_)
  have hP : va_P D cls [(h0, .inr (9, [.int 0, .int 0, .int 0, .int 0, .int 0, .int 0, .ref q_1, .ref q_2, .ref q_3, .null, .null, .null, .int 0, .int 0])), (q_1, .inl (cI, 0, .inl (fun _ => 0))), (q_2, .inl (cI, 0, .inl (fun _ => 0))), (q_3, .inl (cI, 0, .inl (fun _ => 0))), (q_4, .inl (cI, 0, .inl (fun _ => 0)))] H := hP
  have hD : va_D A [(h0, .inr (9, [.int 0, .int 0, .int 0, .int 0, .int 0, .int 0, .ref q_1, .ref q_2, .ref q_3, .null, .null, .null, .int 0, .int 0])), (q_1, .inl (cI, 0, .inl (fun _ => 0))), (q_2, .inl (cI, 0, .inl (fun _ => 0))), (q_3, .inl (cI, 0, .inl (fun _ => 0))), (q_4, .inl (cI, 0, .inl (fun _ => 0)))] := hD
  refine W.widen (k := 4) (n := 0) (Nat.le_of_ble_eq_true rfl) (Nat.le_of_ble_eq_true rfl) ?_
  refine va_putF (D := D) (ci := 9) (v := .ref q_4) (ty := tyX9 9) (C := RX9) (T := TX9) (N := 14) hx hb hts uX9 tyX9 tyX9_ok nmX9 hown hkb.1 hP hD hS 0 rfl rfl 9 (by decide) (hts _ kw_141) (fun _ h9 => h9) rfl hnm rfl (tyX9_ok 9 (by decide)) rfl rfl (Nat.le_of_ble_eq_true rfl) dX9_init_79 (fun H locs hP hD hS => ?_)
  have hP : va_P D cls [(h0, .inr (9, [.int 0, .int 0, .int 0, .int 0, .int 0, .int 0, .ref q_1, .ref q_2, .ref q_3, .ref q_4, .null, .null, .int 0, .int 0])), (q_1, .inl (cI, 0, .inl (fun _ => 0))), (q_2, .inl (cI, 0, .inl (fun _ => 0))), (q_3, .inl (cI, 0, .inl (fun _ => 0))), (q_4, .inl (cI, 0, .inl (fun _ => 0)))] H := hP
  have hD : va_D A [(h0, .inr (9, [.int 0, .int 0, .int 0, .int 0, .int 0, .int 0, .ref q_1, .ref q_2, .ref q_3, .ref q_4, .null, .null, .int 0, .int 0])), (q_1, .inl (cI, 0, .inl (fun _ => 0))), (q_2, .inl (cI, 0, .inl (fun _ => 0))), (q_3, .inl (cI, 0, .inl (fun _ => 0))), (q_4, .inl (cI, 0, .inl (fun _ => 0)))] := hD
  refine lv_aload_n hx hb dX9_init_82 rfl (lv_at hl 0 rfl) ?_
  refine lv_aload_n hx hb dX9_init_83 rfl (lv_at hl 0 rfl) ?_
  refine va_get (D := D) (ci := 9) (v := .int 0) (C := RX9) (T := TX9) (N := 14) hx hb hts uX9 hown hkb.1 hP 0 rfl rfl 1 (by decide) (hts _ kw_110) (fun _ h9 => h9) rfl dX9_init_84 ?_
  refine n_a (atype := .int) (t := .int) (a0 := (0, .inl (fun _ => 0))) 1 rfl (fun _ _ h => h) hx hb (hts _ kw_92) rfl hkb.1 hP hD hS hA (fun _ => rfl) (by decide) (by decide +kernel) (by decide) (Nat.le_of_ble_eq_true rfl) (Nat.le_of_ble_eq_true rfl) dX9_init_87 (fun q_5 H hP hD hS => ?_)
  have hP : va_P D cls [(h0, .inr (9, [.int 0, .int 0, .int 0, .int 0, .int 0, .int 0, .ref q_1, .ref q_2, .ref q_3, .ref q_4, .null, .null, .int 0, .int 0])), (q_1, .inl (cI, 0, .inl (fun _ => 0))), (q_2, .inl (cI, 0, .inl (fun _ => 0))), (q_3, .inl (cI, 0, .inl (fun _ => 0))), (q_4, .inl (cI, 0, .inl (fun _ => 0))), (q_5, .inl (cI, 0, .inl (fun _ => 0)))] H := hP
  have hD : va_D A [(h0, .inr (9, [.int 0, .int 0, .int 0, .int 0, .int 0, .int 0, .ref q_1, .ref q_2, .ref q_3, .ref q_4, .null, .null, .int 0, .int 0])), (q_1, .inl (cI, 0, .inl (fun _ => 0))), (q_2, .inl (cI, 0, .inl (fun _ => 0))), (q_3, .inl (cI, 0, .inl (fun _ => 0))), (q_4, .inl (cI, 0, .inl (fun _ => 0))), (q_5, .inl (cI, 0, .inl (fun _ => 0)))] := hD
  refine W.widen (k := 5) (n := 0) (Nat.le_of_ble_eq_true rfl) (Nat.le_of_ble_eq_true rfl) ?_
  refine va_putF (D := D) (ci := 9) (v := .ref q_5) (ty := tyX9 10) (C := RX9) (T := TX9) (N := 14) hx hb hts uX9 tyX9 tyX9_ok nmX9 hown hkb.1 hP hD hS 0 rfl rfl 10 (by decide) (hts _ kw_144) (fun _ h9 => h9) rfl hnm rfl (tyX9_ok 10 (by decide)) rfl rfl (Nat.le_of_ble_eq_true rfl) dX9_init_89 (fun H locs hP hD hS => ?_)
  have hP : va_P D cls [(h0, .inr (9, [.int 0, .int 0, .int 0, .int 0, .int 0, .int 0, .ref q_1, .ref q_2, .ref q_3, .ref q_4, .ref q_5, .null, .int 0, .int 0])), (q_1, .inl (cI, 0, .inl (fun _ => 0))), (q_2, .inl (cI, 0, .inl (fun _ => 0))), (q_3, .inl (cI, 0, .inl (fun _ => 0))), (q_4, .inl (cI, 0, .inl (fun _ => 0))), (q_5, .inl (cI, 0, .inl (fun _ => 0)))] H := hP
  have hD : va_D A [(h0, .inr (9, [.int 0, .int 0, .int 0, .int 0, .int 0, .int 0, .ref q_1, .ref q_2, .ref q_3, .ref q_4, .ref q_5, .null, .int 0, .int 0])), (q_1, .inl (cI, 0, .inl (fun _ => 0))), (q_2, .inl (cI, 0, .inl (fun _ => 0))), (q_3, .inl (cI, 0, .inl (fun _ => 0))), (q_4, .inl (cI, 0, .inl (fun _ => 0))), (q_5, .inl (cI, 0, .inl (fun _ => 0)))] := hD
  refine lv_aload_n hx hb dX9_init_92 rfl (lv_at hl 0 rfl) ?_
  refine lv_aload_nN hx hb dX9_init_93 rfl (lv_at hl 3 rfl) ?_
  refine va_putF (D := D) (ci := 9) (v := .null) (ty := tyX9 11) (C := RX9) (T := TX9) (N := 14) hx hb hts uX9 tyX9 tyX9_ok nmX9 hown hkb.1 hP hD hS 0 rfl rfl 11 (by decide) (hts _ kw_147) (fun _ h9 => h9) rfl hnm rfl (tyX9_ok 11 (by decide)) rfl rfl (Nat.le_of_ble_eq_true rfl) dX9_init_94 (fun H locs hP hD hS => ?_)
  have hP : va_P D cls [(h0, .inr (9, [.int 0, .int 0, .int 0, .int 0, .int 0, .int 0, .ref q_1, .ref q_2, .ref q_3, .ref q_4, .ref q_5, .null, .int 0, .int 0])), (q_1, .inl (cI, 0, .inl (fun _ => 0))), (q_2, .inl (cI, 0, .inl (fun _ => 0))), (q_3, .inl (cI, 0, .inl (fun _ => 0))), (q_4, .inl (cI, 0, .inl (fun _ => 0))), (q_5, .inl (cI, 0, .inl (fun _ => 0)))] H := hP
  have hD : va_D A [(h0, .inr (9, [.int 0, .int 0, .int 0, .int 0, .int 0, .int 0, .ref q_1, .ref q_2, .ref q_3, .ref q_4, .ref q_5, .null, .int 0, .int 0])), (q_1, .inl (cI, 0, .inl (fun _ => 0))), (q_2, .inl (cI, 0, .inl (fun _ => 0))), (q_3, .inl (cI, 0, .inl (fun _ => 0))), (q_4, .inl (cI, 0, .inl (fun _ => 0))), (q_5, .inl (cI, 0, .inl (fun _ => 0)))] := hD
  refine lv_aload_n hx hb dX9_init_97 rfl (lv_at hl 0 rfl) ?_
  refine lv_aload_nN hx hb dX9_init_98 rfl (lv_at hl 3 rfl) ?_
  refine lv_ifnullN (tgt := 115) hx hb dX9_init_99 (by decide) ?_
  refine lv_iconst (v := 0) hx hb dX9_init_115 (by decide) ?_
  refine va_putF (D := D) (ci := 9) (v := .int 0) (ty := tyX9 12) (C := RX9) (T := TX9) (N := 14) hx hb hts uX9 tyX9 tyX9_ok nmX9 hown hkb.1 hP hD hS 0 rfl rfl 12 (by decide) (hts _ kw_148) (fun _ h9 => h9) rfl hnm rfl (tyX9_ok 12 (by decide)) rfl rfl (Nat.le_of_ble_eq_true rfl) dX9_init_116 (fun H locs hP hD hS => ?_)
  have hP : va_P D cls [(h0, .inr (9, [.int 0, .int 0, .int 0, .int 0, .int 0, .int 0, .ref q_1, .ref q_2, .ref q_3, .ref q_4, .ref q_5, .null, .int 0, .int 0])), (q_1, .inl (cI, 0, .inl (fun _ => 0))), (q_2, .inl (cI, 0, .inl (fun _ => 0))), (q_3, .inl (cI, 0, .inl (fun _ => 0))), (q_4, .inl (cI, 0, .inl (fun _ => 0))), (q_5, .inl (cI, 0, .inl (fun _ => 0)))] H := hP
  have hD : va_D A [(h0, .inr (9, [.int 0, .int 0, .int 0, .int 0, .int 0, .int 0, .ref q_1, .ref q_2, .ref q_3, .ref q_4, .ref q_5, .null, .int 0, .int 0])), (q_1, .inl (cI, 0, .inl (fun _ => 0))), (q_2, .inl (cI, 0, .inl (fun _ => 0))), (q_3, .inl (cI, 0, .inl (fun _ => 0))), (q_4, .inl (cI, 0, .inl (fun _ => 0))), (q_5, .inl (cI, 0, .inl (fun _ => 0)))] := hD
  refine lv_aload_n hx hb dX9_init_119 rfl (lv_at hl 0 rfl) ?_
  refine lv_aload_nN hx hb dX9_init_120 rfl (lv_at hl 3 rfl) ?_
  refine lv_ifnullN (tgt := 132) hx hb dX9_init_121 (by decide) ?_
  refine lv_iconst (v := 1) hx hb dX9_init_132 (by decide) ?_
  refine lv_goto (tgt := 137) hx hb dX9_init_133 (by decide) ?_
  refine va_putF (D := D) (ci := 9) (v := .int 1) (ty := tyX9 13) (C := RX9) (T := TX9) (N := 14) hx hb hts uX9 tyX9 tyX9_ok nmX9 hown hkb.1 hP hD hS 0 rfl rfl 13 (by decide) (hts _ kw_149) (fun _ h9 => h9) rfl hnm rfl (tyX9_ok 13 (by decide)) rfl rfl (Nat.le_of_ble_eq_true rfl) dX9_init_137 (fun H locs hP hD hS => ?_)
  have hP : va_P D cls [(h0, .inr (9, [.int 0, .int 0, .int 0, .int 0, .int 0, .int 0, .ref q_1, .ref q_2, .ref q_3, .ref q_4, .ref q_5, .null, .int 0, .int 1])), (q_1, .inl (cI, 0, .inl (fun _ => 0))), (q_2, .inl (cI, 0, .inl (fun _ => 0))), (q_3, .inl (cI, 0, .inl (fun _ => 0))), (q_4, .inl (cI, 0, .inl (fun _ => 0))), (q_5, .inl (cI, 0, .inl (fun _ => 0)))] H := hP
  have hD : va_D A [(h0, .inr (9, [.int 0, .int 0, .int 0, .int 0, .int 0, .int 0, .ref q_1, .ref q_2, .ref q_3, .ref q_4, .ref q_5, .null, .int 0, .int 1])), (q_1, .inl (cI, 0, .inl (fun _ => 0))), (q_2, .inl (cI, 0, .inl (fun _ => 0))), (q_3, .inl (cI, 0, .inl (fun _ => 0))), (q_4, .inl (cI, 0, .inl (fun _ => 0))), (q_5, .inl (cI, 0, .inl (fun _ => 0)))] := hD
  refine W.widen (k := 5) (n := 0) (Nat.le_of_ble_eq_true rfl) (Nat.le_of_ble_eq_true rfl) ?_
  exact e_v (u := [(h0, .inr (9, [.int 0, .int 0, .int 0, .int 0, .int 0, .int 0, .ref q_1, .ref q_2, .ref q_3, .ref q_4, .ref q_5, .null, .int 0, .int 1])), (q_1, .inl (cI, 0, .inl (fun _ => 0))), (q_2, .inl (cI, 0, .inl (fun _ => 0))), (q_3, .inl (cI, 0, .inl (fun _ => 0))), (q_4, .inl (cI, 0, .inl (fun _ => 0))), (q_5, .inl (cI, 0, .inl (fun _ => 0)))]) hx hb hr hlocks (hP.sub (ws' := [(h0, .inr (9, [.int 0, .int 0, .int 0, .int 0, .int 0, .int 0, .ref q_1, .ref q_2, .ref q_3, .ref q_4, .ref q_5, .null, .int 0, .int 1])), (q_1, .inl (cI, 0, .inl (fun _ => 0))), (q_2, .inl (cI, 0, .inl (fun _ => 0))), (q_3, .inl (cI, 0, .inl (fun _ => 0))), (q_4, .inl (cI, 0, .inl (fun _ => 0))), (q_5, .inl (cI, 0, .inl (fun _ => 0)))]) [0, 1, 2, 3, 4, 5] rfl) (hD.sub (ws' := [(h0, .inr (9, [.int 0, .int 0, .int 0, .int 0, .int 0, .int 0, .ref q_1, .ref q_2, .ref q_3, .ref q_4, .ref q_5, .null, .int 0, .int 1])), (q_1, .inl (cI, 0, .inl (fun _ => 0))), (q_2, .inl (cI, 0, .inl (fun _ => 0))), (q_3, .inl (cI, 0, .inl (fun _ => 0))), (q_4, .inl (cI, 0, .inl (fun _ => 0))), (q_5, .inl (cI, 0, .inl (fun _ => 0)))]) [0, 1, 2, 3, 4, 5] (by decide) rfl) hS ⟨q_1, q_2, q_3, q_4, q_5, rfl⟩ dX9_init_140
set_option maxHeartbeats 4000000 in
set_option maxRecDepth 100000 in
theorem c_Rows_init (l : Launch) (D : va_G) (cB cI cJ cZ cS cW cT cR : ClassId) (h0 : Nat) (wl : Nat) : Kon l D (tyl cB cI cJ cZ cS cW cT cR) yX5_init cX5_init 2 none { frames := 1, cells := 2, slots := 28, locals := 12 } [.ref h0, .ref wl] [(h0, .inr (5, [.null, .int 0, .int 0, .int 0, .null, .null]))] (Qv D (fun u => ∃ (q_1 : Nat), ∃ (q_2 : Nat), u = [(h0, .inr (5, [.ref wl, .int 0, .int 0, .int 0, .ref q_1, .ref q_2])), (q_1, .inl (cI, 14, .inl (fun _ => 0))), (q_2, .inl (cI, 14, .inl (fun _ => 0)))])) := by
  refine kon_of (by decide) (Nat.le_of_ble_eq_true rfl) (fun p e s m below meth c ls A hx hb hr hml hown hts hlocks hnm hkb hP hD hS hA hl => ?_)
  have hown : s.vm.findClass RX5 = some m.cls := hown
  have hl : lv_has ls 2 [(0, .ref h0), (1, .ref wl)] := hl
  have hP : va_P D cls [(h0, .inr (5, [.null, .int 0, .int 0, .int 0, .null, .null]))] s.heap := hP
  refine lv_aload_n hx hb dX5_init_0 rfl (lv_at hl 0 rfl) ?_
  refine W.objInit hx hb hown (hts _ kw_243) (hts _ kw_30) (hts _ kw_31) rfl (by rw [hml]; exact hl.1) rfl dX5_init_1 (Nat.le_of_ble_eq_true rfl) (Nat.le_of_ble_eq_true rfl) ?_
  refine W.eq (g2 := F0 m 4 ls []) rfl ?_
  refine lv_aload_n hx hb dX5_init_4 rfl (lv_at hl 0 rfl) ?_
  refine lv_iconst (v := 0) hx hb dX5_init_5 (by decide) ?_
  refine va_put (D := D) (ci := 5) (v := .int 0) (ty := tyX5 1) (C := RX5) (T := TX5) (N := 6) hx hb hts uX5 tyX5 tyX5_ok nmX5 hown hkb.1 hP hD hS 0 rfl rfl 1 (by decide) (hts _ kw_248) (fun _ h9 => h9) rfl (tyX5_ok 1 (by decide)) rfl rfl (Nat.le_of_ble_eq_true rfl) dX5_init_6 (fun H locs hP hD hS => ?_)
  have hP : va_P D cls [(h0, .inr (5, [.null, .int 0, .int 0, .int 0, .null, .null]))] H := hP
  have hD : va_D A [(h0, .inr (5, [.null, .int 0, .int 0, .int 0, .null, .null]))] := hD
  refine lv_aload_n hx hb dX5_init_9 rfl (lv_at hl 0 rfl) ?_
  refine lv_iconst (v := 0) hx hb dX5_init_10 (by decide) ?_
  refine va_put (D := D) (ci := 5) (v := .int 0) (ty := tyX5 2) (C := RX5) (T := TX5) (N := 6) hx hb hts uX5 tyX5 tyX5_ok nmX5 hown hkb.1 hP hD hS 0 rfl rfl 2 (by decide) (hts _ kw_249) (fun _ h9 => h9) rfl (tyX5_ok 2 (by decide)) rfl rfl (Nat.le_of_ble_eq_true rfl) dX5_init_11 (fun H locs hP hD hS => ?_)
  have hP : va_P D cls [(h0, .inr (5, [.null, .int 0, .int 0, .int 0, .null, .null]))] H := hP
  have hD : va_D A [(h0, .inr (5, [.null, .int 0, .int 0, .int 0, .null, .null]))] := hD
  refine lv_aload_n hx hb dX5_init_14 rfl (lv_at hl 0 rfl) ?_
  refine lv_iconst (v := 0) hx hb dX5_init_15 (by decide) ?_
  refine va_put (D := D) (ci := 5) (v := .int 0) (ty := tyX5 3) (C := RX5) (T := TX5) (N := 6) hx hb hts uX5 tyX5 tyX5_ok nmX5 hown hkb.1 hP hD hS 0 rfl rfl 3 (by decide) (hts _ kw_250) (fun _ h9 => h9) rfl (tyX5_ok 3 (by decide)) rfl rfl (Nat.le_of_ble_eq_true rfl) dX5_init_16 (fun H locs hP hD hS => ?_)
  have hP : va_P D cls [(h0, .inr (5, [.null, .int 0, .int 0, .int 0, .null, .null]))] H := hP
  have hD : va_D A [(h0, .inr (5, [.null, .int 0, .int 0, .int 0, .null, .null]))] := hD
  refine lv_aload_n hx hb dX5_init_19 rfl (lv_at hl 0 rfl) ?_
  refine lv_bipush (v := 14) hx hb dX5_init_20 (by decide) ?_
  refine n_a (atype := .int) (t := .int) (a0 := (14, .inl (fun _ => 0))) 1 rfl (fun _ _ h => h) hx hb (hts _ kw_92) rfl hkb.1 hP hD hS hA (fun _ => rfl) (by decide) (by decide +kernel) (by decide) (Nat.le_of_ble_eq_true rfl) (Nat.le_of_ble_eq_true rfl) dX5_init_22 (fun q_1 H hP hD hS => ?_)
  have hP : va_P D cls [(h0, .inr (5, [.null, .int 0, .int 0, .int 0, .null, .null])), (q_1, .inl (cI, 14, .inl (fun _ => 0)))] H := hP
  have hD : va_D A [(h0, .inr (5, [.null, .int 0, .int 0, .int 0, .null, .null])), (q_1, .inl (cI, 14, .inl (fun _ => 0)))] := hD
  refine W.widen (k := 1) (n := 14) (Nat.le_of_ble_eq_true rfl) (Nat.le_of_ble_eq_true rfl) ?_
  refine va_putF (D := D) (ci := 5) (v := .ref q_1) (ty := tyX5 4) (C := RX5) (T := TX5) (N := 6) hx hb hts uX5 tyX5 tyX5_ok nmX5 hown hkb.1 hP hD hS 0 rfl rfl 4 (by decide) (hts _ kw_251) (fun _ h9 => h9) rfl hnm rfl (tyX5_ok 4 (by decide)) rfl rfl (Nat.le_of_ble_eq_true rfl) dX5_init_24 (fun H locs hP hD hS => ?_)
  have hP : va_P D cls [(h0, .inr (5, [.null, .int 0, .int 0, .int 0, .ref q_1, .null])), (q_1, .inl (cI, 14, .inl (fun _ => 0)))] H := hP
  have hD : va_D A [(h0, .inr (5, [.null, .int 0, .int 0, .int 0, .ref q_1, .null])), (q_1, .inl (cI, 14, .inl (fun _ => 0)))] := hD
  refine lv_aload_n hx hb dX5_init_27 rfl (lv_at hl 0 rfl) ?_
  refine lv_bipush (v := 14) hx hb dX5_init_28 (by decide) ?_
  refine n_a (atype := .int) (t := .int) (a0 := (14, .inl (fun _ => 0))) 1 rfl (fun _ _ h => h) hx hb (hts _ kw_92) rfl hkb.1 hP hD hS hA (fun _ => rfl) (by decide) (by decide +kernel) (by decide) (Nat.le_of_ble_eq_true rfl) (Nat.le_of_ble_eq_true rfl) dX5_init_30 (fun q_2 H hP hD hS => ?_)
  have hP : va_P D cls [(h0, .inr (5, [.null, .int 0, .int 0, .int 0, .ref q_1, .null])), (q_1, .inl (cI, 14, .inl (fun _ => 0))), (q_2, .inl (cI, 14, .inl (fun _ => 0)))] H := hP
  have hD : va_D A [(h0, .inr (5, [.null, .int 0, .int 0, .int 0, .ref q_1, .null])), (q_1, .inl (cI, 14, .inl (fun _ => 0))), (q_2, .inl (cI, 14, .inl (fun _ => 0)))] := hD
  refine W.widen (k := 2) (n := 28) (Nat.le_of_ble_eq_true rfl) (Nat.le_of_ble_eq_true rfl) ?_
  refine va_putF (D := D) (ci := 5) (v := .ref q_2) (ty := tyX5 5) (C := RX5) (T := TX5) (N := 6) hx hb hts uX5 tyX5 tyX5_ok nmX5 hown hkb.1 hP hD hS 0 rfl rfl 5 (by decide) (hts _ kw_252) (fun _ h9 => h9) rfl hnm rfl (tyX5_ok 5 (by decide)) rfl rfl (Nat.le_of_ble_eq_true rfl) dX5_init_32 (fun H locs hP hD hS => ?_)
  have hP : va_P D cls [(h0, .inr (5, [.null, .int 0, .int 0, .int 0, .ref q_1, .ref q_2])), (q_1, .inl (cI, 14, .inl (fun _ => 0))), (q_2, .inl (cI, 14, .inl (fun _ => 0)))] H := hP
  have hD : va_D A [(h0, .inr (5, [.null, .int 0, .int 0, .int 0, .ref q_1, .ref q_2])), (q_1, .inl (cI, 14, .inl (fun _ => 0))), (q_2, .inl (cI, 14, .inl (fun _ => 0)))] := hD
  refine lv_aload_n hx hb dX5_init_35 rfl (lv_at hl 0 rfl) ?_
  refine lv_aload_n hx hb dX5_init_36 rfl (lv_at hl 1 rfl) ?_
  refine va_put (D := D) (ci := 5) (v := .ref wl) (ty := tyX5 0) (C := RX5) (T := TX5) (N := 6) hx hb hts uX5 tyX5 tyX5_ok nmX5 hown hkb.1 hP hD hS 0 rfl rfl 0 (by decide) (hts _ kw_244) (fun _ h9 => h9) rfl (tyX5_ok 0 (by decide)) rfl rfl (Nat.le_of_ble_eq_true rfl) dX5_init_37 (fun H locs hP hD hS => ?_)
  have hP : va_P D cls [(h0, .inr (5, [.ref wl, .int 0, .int 0, .int 0, .ref q_1, .ref q_2])), (q_1, .inl (cI, 14, .inl (fun _ => 0))), (q_2, .inl (cI, 14, .inl (fun _ => 0)))] H := hP
  have hD : va_D A [(h0, .inr (5, [.ref wl, .int 0, .int 0, .int 0, .ref q_1, .ref q_2])), (q_1, .inl (cI, 14, .inl (fun _ => 0))), (q_2, .inl (cI, 14, .inl (fun _ => 0)))] := hD
  refine W.widen (k := 2) (n := 28) (Nat.le_of_ble_eq_true rfl) (Nat.le_of_ble_eq_true rfl) ?_
  exact e_v (u := [(h0, .inr (5, [.ref wl, .int 0, .int 0, .int 0, .ref q_1, .ref q_2])), (q_1, .inl (cI, 14, .inl (fun _ => 0))), (q_2, .inl (cI, 14, .inl (fun _ => 0)))]) hx hb hr hlocks (hP.sub (ws' := [(h0, .inr (5, [.ref wl, .int 0, .int 0, .int 0, .ref q_1, .ref q_2])), (q_1, .inl (cI, 14, .inl (fun _ => 0))), (q_2, .inl (cI, 14, .inl (fun _ => 0)))]) [0, 1, 2] rfl) (hD.sub (ws' := [(h0, .inr (5, [.ref wl, .int 0, .int 0, .int 0, .ref q_1, .ref q_2])), (q_1, .inl (cI, 14, .inl (fun _ => 0))), (q_2, .inl (cI, 14, .inl (fun _ => 0)))]) [0, 1, 2] (by decide) rfl) hS ⟨q_1, q_2, rfl⟩ dX5_init_40
set_option maxHeartbeats 4000000 in
set_option maxRecDepth 100000 in
theorem c_Ways_init (l : Launch) (D : va_G) (cB cI cJ cZ cS cW cT cR : ClassId) (h0 : Nat) : Kon l D (tyl cB cI cJ cZ cS cW cT cR) yX10_init cX10_init 1 none { frames := 1, cells := 5, slots := 70, locals := 12 } [.ref h0] [(h0, .inr (10, [.null, .null, .int 0, .null, .null, .null, .int 0]))] (Qv D (fun u => ∃ (q_1 : Nat), ∃ (q_2 : Nat), ∃ (q_3 : Nat), ∃ (q_4 : Nat), ∃ (q_5 : Nat), u = [(h0, .inr (10, [.ref q_1, .ref q_2, .int 0, .ref q_3, .ref q_4, .ref q_5, .int 0])), (q_1, .inl (cI, 14, .inl (fun _ => 0))), (q_2, .inl (cI, 14, .inl (fun _ => 0))), (q_3, .inl (cJ, 14, .inr (.inl (fun _ => 0)))), (q_4, .inl (cI, 14, .inl (fun _ => 0))), (q_5, .inl (cI, 14, .inl (fun _ => 0)))])) := by
  refine kon_of (by decide) (Nat.le_of_ble_eq_true rfl) (fun p e s m below meth c ls A hx hb hr hml hown hts hlocks hnm hkb hP hD hS hA hl => ?_)
  have hown : s.vm.findClass RX10 = some m.cls := hown
  have hl : lv_has ls 1 [(0, .ref h0)] := hl
  have hP : va_P D cls [(h0, .inr (10, [.null, .null, .int 0, .null, .null, .null, .int 0]))] s.heap := hP
  refine lv_aload_n hx hb dX10_init_0 rfl (lv_at hl 0 rfl) ?_
  refine W.objInit hx hb hown (hts _ kw_271) (hts _ kw_30) (hts _ kw_31) rfl (by rw [hml]; exact hl.1) rfl dX10_init_1 (Nat.le_of_ble_eq_true rfl) (Nat.le_of_ble_eq_true rfl) ?_
  refine W.eq (g2 := F0 m 4 ls []) rfl ?_
  refine lv_aload_n hx hb dX10_init_4 rfl (lv_at hl 0 rfl) ?_
  refine lv_bipush (v := 14) hx hb dX10_init_5 (by decide) ?_
  refine n_a (atype := .int) (t := .int) (a0 := (14, .inl (fun _ => 0))) 1 rfl (fun _ _ h => h) hx hb (hts _ kw_92) rfl hkb.1 hP hD hS hA (fun _ => rfl) (by decide) (by decide +kernel) (by decide) (Nat.le_of_ble_eq_true rfl) (Nat.le_of_ble_eq_true rfl) dX10_init_7 (fun q_1 H hP hD hS => ?_)
  have hP : va_P D cls [(h0, .inr (10, [.null, .null, .int 0, .null, .null, .null, .int 0])), (q_1, .inl (cI, 14, .inl (fun _ => 0)))] H := hP
  have hD : va_D A [(h0, .inr (10, [.null, .null, .int 0, .null, .null, .null, .int 0])), (q_1, .inl (cI, 14, .inl (fun _ => 0)))] := hD
  refine W.widen (k := 1) (n := 14) (Nat.le_of_ble_eq_true rfl) (Nat.le_of_ble_eq_true rfl) ?_
  refine va_putF (D := D) (ci := 10) (v := .ref q_1) (ty := tyX10 0) (C := RX10) (T := TX10) (N := 7) hx hb hts uX10 tyX10 tyX10_ok nmX10 hown hkb.1 hP hD hS 0 rfl rfl 0 (by decide) (hts _ kw_272) (fun _ h9 => h9) rfl hnm rfl (tyX10_ok 0 (by decide)) rfl rfl (Nat.le_of_ble_eq_true rfl) dX10_init_9 (fun H locs hP hD hS => ?_)
  have hP : va_P D cls [(h0, .inr (10, [.ref q_1, .null, .int 0, .null, .null, .null, .int 0])), (q_1, .inl (cI, 14, .inl (fun _ => 0)))] H := hP
  have hD : va_D A [(h0, .inr (10, [.ref q_1, .null, .int 0, .null, .null, .null, .int 0])), (q_1, .inl (cI, 14, .inl (fun _ => 0)))] := hD
  refine lv_aload_n hx hb dX10_init_12 rfl (lv_at hl 0 rfl) ?_
  refine lv_bipush (v := 14) hx hb dX10_init_13 (by decide) ?_
  refine n_a (atype := .int) (t := .int) (a0 := (14, .inl (fun _ => 0))) 1 rfl (fun _ _ h => h) hx hb (hts _ kw_92) rfl hkb.1 hP hD hS hA (fun _ => rfl) (by decide) (by decide +kernel) (by decide) (Nat.le_of_ble_eq_true rfl) (Nat.le_of_ble_eq_true rfl) dX10_init_15 (fun q_2 H hP hD hS => ?_)
  have hP : va_P D cls [(h0, .inr (10, [.ref q_1, .null, .int 0, .null, .null, .null, .int 0])), (q_1, .inl (cI, 14, .inl (fun _ => 0))), (q_2, .inl (cI, 14, .inl (fun _ => 0)))] H := hP
  have hD : va_D A [(h0, .inr (10, [.ref q_1, .null, .int 0, .null, .null, .null, .int 0])), (q_1, .inl (cI, 14, .inl (fun _ => 0))), (q_2, .inl (cI, 14, .inl (fun _ => 0)))] := hD
  refine W.widen (k := 2) (n := 28) (Nat.le_of_ble_eq_true rfl) (Nat.le_of_ble_eq_true rfl) ?_
  refine va_putF (D := D) (ci := 10) (v := .ref q_2) (ty := tyX10 1) (C := RX10) (T := TX10) (N := 7) hx hb hts uX10 tyX10 tyX10_ok nmX10 hown hkb.1 hP hD hS 0 rfl rfl 1 (by decide) (hts _ kw_273) (fun _ h9 => h9) rfl hnm rfl (tyX10_ok 1 (by decide)) rfl rfl (Nat.le_of_ble_eq_true rfl) dX10_init_17 (fun H locs hP hD hS => ?_)
  have hP : va_P D cls [(h0, .inr (10, [.ref q_1, .ref q_2, .int 0, .null, .null, .null, .int 0])), (q_1, .inl (cI, 14, .inl (fun _ => 0))), (q_2, .inl (cI, 14, .inl (fun _ => 0)))] H := hP
  have hD : va_D A [(h0, .inr (10, [.ref q_1, .ref q_2, .int 0, .null, .null, .null, .int 0])), (q_1, .inl (cI, 14, .inl (fun _ => 0))), (q_2, .inl (cI, 14, .inl (fun _ => 0)))] := hD
  refine lv_aload_n hx hb dX10_init_20 rfl (lv_at hl 0 rfl) ?_
  refine lv_iconst (v := 0) hx hb dX10_init_21 (by decide) ?_
  refine va_put (D := D) (ci := 10) (v := .int 0) (ty := tyX10 2) (C := RX10) (T := TX10) (N := 7) hx hb hts uX10 tyX10 tyX10_ok nmX10 hown hkb.1 hP hD hS 0 rfl rfl 2 (by decide) (hts _ kw_275) (fun _ h9 => h9) rfl (tyX10_ok 2 (by decide)) rfl rfl (Nat.le_of_ble_eq_true rfl) dX10_init_22 (fun H locs hP hD hS => ?_)
  have hP : va_P D cls [(h0, .inr (10, [.ref q_1, .ref q_2, .int 0, .null, .null, .null, .int 0])), (q_1, .inl (cI, 14, .inl (fun _ => 0))), (q_2, .inl (cI, 14, .inl (fun _ => 0)))] H := hP
  have hD : va_D A [(h0, .inr (10, [.ref q_1, .ref q_2, .int 0, .null, .null, .null, .int 0])), (q_1, .inl (cI, 14, .inl (fun _ => 0))), (q_2, .inl (cI, 14, .inl (fun _ => 0)))] := hD
  refine lv_aload_n hx hb dX10_init_25 rfl (lv_at hl 0 rfl) ?_
  refine lv_bipush (v := 14) hx hb dX10_init_26 (by decide) ?_
  refine n_a (atype := .long) (t := .long) (a0 := (14, .inr (.inl (fun _ => 0)))) 2 rfl (fun _ _ h => h) hx hb (hts _ kw_295) rfl hkb.1 hP hD hS hA (fun _ => rfl) (by decide) (by decide +kernel) (by decide) (Nat.le_of_ble_eq_true rfl) (Nat.le_of_ble_eq_true rfl) dX10_init_28 (fun q_3 H hP hD hS => ?_)
  have hP : va_P D cls [(h0, .inr (10, [.ref q_1, .ref q_2, .int 0, .null, .null, .null, .int 0])), (q_1, .inl (cI, 14, .inl (fun _ => 0))), (q_2, .inl (cI, 14, .inl (fun _ => 0))), (q_3, .inl (cJ, 14, .inr (.inl (fun _ => 0))))] H := hP
  have hD : va_D A [(h0, .inr (10, [.ref q_1, .ref q_2, .int 0, .null, .null, .null, .int 0])), (q_1, .inl (cI, 14, .inl (fun _ => 0))), (q_2, .inl (cI, 14, .inl (fun _ => 0))), (q_3, .inl (cJ, 14, .inr (.inl (fun _ => 0))))] := hD
  refine W.widen (k := 3) (n := 42) (Nat.le_of_ble_eq_true rfl) (Nat.le_of_ble_eq_true rfl) ?_
  refine va_putF (D := D) (ci := 10) (v := .ref q_3) (ty := tyX10 3) (C := RX10) (T := TX10) (N := 7) hx hb hts uX10 tyX10 tyX10_ok nmX10 hown hkb.1 hP hD hS 0 rfl rfl 3 (by decide) (hts _ kw_276) (fun _ h9 => h9) rfl hnm rfl (tyX10_ok 3 (by decide)) rfl rfl (Nat.le_of_ble_eq_true rfl) dX10_init_30 (fun H locs hP hD hS => ?_)
  have hP : va_P D cls [(h0, .inr (10, [.ref q_1, .ref q_2, .int 0, .ref q_3, .null, .null, .int 0])), (q_1, .inl (cI, 14, .inl (fun _ => 0))), (q_2, .inl (cI, 14, .inl (fun _ => 0))), (q_3, .inl (cJ, 14, .inr (.inl (fun _ => 0))))] H := hP
  have hD : va_D A [(h0, .inr (10, [.ref q_1, .ref q_2, .int 0, .ref q_3, .null, .null, .int 0])), (q_1, .inl (cI, 14, .inl (fun _ => 0))), (q_2, .inl (cI, 14, .inl (fun _ => 0))), (q_3, .inl (cJ, 14, .inr (.inl (fun _ => 0))))] := hD
  refine lv_aload_n hx hb dX10_init_33 rfl (lv_at hl 0 rfl) ?_
  refine lv_bipush (v := 14) hx hb dX10_init_34 (by decide) ?_
  refine n_a (atype := .int) (t := .int) (a0 := (14, .inl (fun _ => 0))) 1 rfl (fun _ _ h => h) hx hb (hts _ kw_92) rfl hkb.1 hP hD hS hA (fun _ => rfl) (by decide) (by decide +kernel) (by decide) (Nat.le_of_ble_eq_true rfl) (Nat.le_of_ble_eq_true rfl) dX10_init_36 (fun q_4 H hP hD hS => ?_)
  have hP : va_P D cls [(h0, .inr (10, [.ref q_1, .ref q_2, .int 0, .ref q_3, .null, .null, .int 0])), (q_1, .inl (cI, 14, .inl (fun _ => 0))), (q_2, .inl (cI, 14, .inl (fun _ => 0))), (q_3, .inl (cJ, 14, .inr (.inl (fun _ => 0)))), (q_4, .inl (cI, 14, .inl (fun _ => 0)))] H := hP
  have hD : va_D A [(h0, .inr (10, [.ref q_1, .ref q_2, .int 0, .ref q_3, .null, .null, .int 0])), (q_1, .inl (cI, 14, .inl (fun _ => 0))), (q_2, .inl (cI, 14, .inl (fun _ => 0))), (q_3, .inl (cJ, 14, .inr (.inl (fun _ => 0)))), (q_4, .inl (cI, 14, .inl (fun _ => 0)))] := hD
  refine W.widen (k := 4) (n := 56) (Nat.le_of_ble_eq_true rfl) (Nat.le_of_ble_eq_true rfl) ?_
  refine va_putF (D := D) (ci := 10) (v := .ref q_4) (ty := tyX10 4) (C := RX10) (T := TX10) (N := 7) hx hb hts uX10 tyX10 tyX10_ok nmX10 hown hkb.1 hP hD hS 0 rfl rfl 4 (by decide) (hts _ kw_277) (fun _ h9 => h9) rfl hnm rfl (tyX10_ok 4 (by decide)) rfl rfl (Nat.le_of_ble_eq_true rfl) dX10_init_38 (fun H locs hP hD hS => ?_)
  have hP : va_P D cls [(h0, .inr (10, [.ref q_1, .ref q_2, .int 0, .ref q_3, .ref q_4, .null, .int 0])), (q_1, .inl (cI, 14, .inl (fun _ => 0))), (q_2, .inl (cI, 14, .inl (fun _ => 0))), (q_3, .inl (cJ, 14, .inr (.inl (fun _ => 0)))), (q_4, .inl (cI, 14, .inl (fun _ => 0)))] H := hP
  have hD : va_D A [(h0, .inr (10, [.ref q_1, .ref q_2, .int 0, .ref q_3, .ref q_4, .null, .int 0])), (q_1, .inl (cI, 14, .inl (fun _ => 0))), (q_2, .inl (cI, 14, .inl (fun _ => 0))), (q_3, .inl (cJ, 14, .inr (.inl (fun _ => 0)))), (q_4, .inl (cI, 14, .inl (fun _ => 0)))] := hD
  refine lv_aload_n hx hb dX10_init_41 rfl (lv_at hl 0 rfl) ?_
  refine lv_bipush (v := 14) hx hb dX10_init_42 (by decide) ?_
  refine n_a (atype := .int) (t := .int) (a0 := (14, .inl (fun _ => 0))) 1 rfl (fun _ _ h => h) hx hb (hts _ kw_92) rfl hkb.1 hP hD hS hA (fun _ => rfl) (by decide) (by decide +kernel) (by decide) (Nat.le_of_ble_eq_true rfl) (Nat.le_of_ble_eq_true rfl) dX10_init_44 (fun q_5 H hP hD hS => ?_)
  have hP : va_P D cls [(h0, .inr (10, [.ref q_1, .ref q_2, .int 0, .ref q_3, .ref q_4, .null, .int 0])), (q_1, .inl (cI, 14, .inl (fun _ => 0))), (q_2, .inl (cI, 14, .inl (fun _ => 0))), (q_3, .inl (cJ, 14, .inr (.inl (fun _ => 0)))), (q_4, .inl (cI, 14, .inl (fun _ => 0))), (q_5, .inl (cI, 14, .inl (fun _ => 0)))] H := hP
  have hD : va_D A [(h0, .inr (10, [.ref q_1, .ref q_2, .int 0, .ref q_3, .ref q_4, .null, .int 0])), (q_1, .inl (cI, 14, .inl (fun _ => 0))), (q_2, .inl (cI, 14, .inl (fun _ => 0))), (q_3, .inl (cJ, 14, .inr (.inl (fun _ => 0)))), (q_4, .inl (cI, 14, .inl (fun _ => 0))), (q_5, .inl (cI, 14, .inl (fun _ => 0)))] := hD
  refine W.widen (k := 5) (n := 70) (Nat.le_of_ble_eq_true rfl) (Nat.le_of_ble_eq_true rfl) ?_
  refine va_putF (D := D) (ci := 10) (v := .ref q_5) (ty := tyX10 5) (C := RX10) (T := TX10) (N := 7) hx hb hts uX10 tyX10 tyX10_ok nmX10 hown hkb.1 hP hD hS 0 rfl rfl 5 (by decide) (hts _ kw_278) (fun _ h9 => h9) rfl hnm rfl (tyX10_ok 5 (by decide)) rfl rfl (Nat.le_of_ble_eq_true rfl) dX10_init_46 (fun H locs hP hD hS => ?_)
  have hP : va_P D cls [(h0, .inr (10, [.ref q_1, .ref q_2, .int 0, .ref q_3, .ref q_4, .ref q_5, .int 0])), (q_1, .inl (cI, 14, .inl (fun _ => 0))), (q_2, .inl (cI, 14, .inl (fun _ => 0))), (q_3, .inl (cJ, 14, .inr (.inl (fun _ => 0)))), (q_4, .inl (cI, 14, .inl (fun _ => 0))), (q_5, .inl (cI, 14, .inl (fun _ => 0)))] H := hP
  have hD : va_D A [(h0, .inr (10, [.ref q_1, .ref q_2, .int 0, .ref q_3, .ref q_4, .ref q_5, .int 0])), (q_1, .inl (cI, 14, .inl (fun _ => 0))), (q_2, .inl (cI, 14, .inl (fun _ => 0))), (q_3, .inl (cJ, 14, .inr (.inl (fun _ => 0)))), (q_4, .inl (cI, 14, .inl (fun _ => 0))), (q_5, .inl (cI, 14, .inl (fun _ => 0)))] := hD
  refine lv_aload_n hx hb dX10_init_49 rfl (lv_at hl 0 rfl) ?_
  refine lv_iconst (v := 0) hx hb dX10_init_50 (by decide) ?_
  refine va_put (D := D) (ci := 10) (v := .int 0) (ty := tyX10 6) (C := RX10) (T := TX10) (N := 7) hx hb hts uX10 tyX10 tyX10_ok nmX10 hown hkb.1 hP hD hS 0 rfl rfl 6 (by decide) (hts _ kw_279) (fun _ h9 => h9) rfl (tyX10_ok 6 (by decide)) rfl rfl (Nat.le_of_ble_eq_true rfl) dX10_init_51 (fun H locs hP hD hS => ?_)
  have hP : va_P D cls [(h0, .inr (10, [.ref q_1, .ref q_2, .int 0, .ref q_3, .ref q_4, .ref q_5, .int 0])), (q_1, .inl (cI, 14, .inl (fun _ => 0))), (q_2, .inl (cI, 14, .inl (fun _ => 0))), (q_3, .inl (cJ, 14, .inr (.inl (fun _ => 0)))), (q_4, .inl (cI, 14, .inl (fun _ => 0))), (q_5, .inl (cI, 14, .inl (fun _ => 0)))] H := hP
  have hD : va_D A [(h0, .inr (10, [.ref q_1, .ref q_2, .int 0, .ref q_3, .ref q_4, .ref q_5, .int 0])), (q_1, .inl (cI, 14, .inl (fun _ => 0))), (q_2, .inl (cI, 14, .inl (fun _ => 0))), (q_3, .inl (cJ, 14, .inr (.inl (fun _ => 0)))), (q_4, .inl (cI, 14, .inl (fun _ => 0))), (q_5, .inl (cI, 14, .inl (fun _ => 0)))] := hD
  refine W.widen (k := 5) (n := 70) (Nat.le_of_ble_eq_true rfl) (Nat.le_of_ble_eq_true rfl) ?_
  exact e_v (u := [(h0, .inr (10, [.ref q_1, .ref q_2, .int 0, .ref q_3, .ref q_4, .ref q_5, .int 0])), (q_1, .inl (cI, 14, .inl (fun _ => 0))), (q_2, .inl (cI, 14, .inl (fun _ => 0))), (q_3, .inl (cJ, 14, .inr (.inl (fun _ => 0)))), (q_4, .inl (cI, 14, .inl (fun _ => 0))), (q_5, .inl (cI, 14, .inl (fun _ => 0)))]) hx hb hr hlocks (hP.sub (ws' := [(h0, .inr (10, [.ref q_1, .ref q_2, .int 0, .ref q_3, .ref q_4, .ref q_5, .int 0])), (q_1, .inl (cI, 14, .inl (fun _ => 0))), (q_2, .inl (cI, 14, .inl (fun _ => 0))), (q_3, .inl (cJ, 14, .inr (.inl (fun _ => 0)))), (q_4, .inl (cI, 14, .inl (fun _ => 0))), (q_5, .inl (cI, 14, .inl (fun _ => 0)))]) [0, 1, 2, 3, 4, 5] rfl) (hD.sub (ws' := [(h0, .inr (10, [.ref q_1, .ref q_2, .int 0, .ref q_3, .ref q_4, .ref q_5, .int 0])), (q_1, .inl (cI, 14, .inl (fun _ => 0))), (q_2, .inl (cI, 14, .inl (fun _ => 0))), (q_3, .inl (cJ, 14, .inr (.inl (fun _ => 0)))), (q_4, .inl (cI, 14, .inl (fun _ => 0))), (q_5, .inl (cI, 14, .inl (fun _ => 0)))]) [0, 1, 2, 3, 4, 5] (by decide) rfl) hS ⟨q_1, q_2, q_3, q_4, q_5, rfl⟩ dX10_init_54
set_option maxHeartbeats 4000000 in
set_option maxRecDepth 100000 in
theorem c_Cut_init (l : Launch) (D : va_G) (cB cI cJ cZ cS cW cT cR : ClassId) (h0 : Nat) : Kon l D (tyl cB cI cJ cZ cS cW cT cR) yX1_init cX1_init 1 none { frames := 1, cells := 4, slots := 84, locals := 12 } [.ref h0] [(h0, .inr (1, [.null, .null, .int 0, .null, .int 0, .int 0, .null]))] (Qv D (fun u => ∃ (q_1 : Nat), ∃ (q_2 : Nat), ∃ (q_3 : Nat), ∃ (q_4 : Nat), u = [(h0, .inr (1, [.ref q_1, .ref q_2, .int 0, .ref q_3, .int 0, .int 0, .ref q_4])), (q_1, .inl (cI, 14, .inl (fun _ => 0))), (q_2, .inl (cI, 14, .inl (fun _ => 0))), (q_3, .inl (cI, 28, .inl (fun _ => 0))), (q_4, .inl (cI, 28, .inl (fun _ => 0)))])) := by
  refine kon_of (by decide) (Nat.le_of_ble_eq_true rfl) (fun p e s m below meth c ls A hx hb hr hml hown hts hlocks hnm hkb hP hD hS hA hl => ?_)
  have hown : s.vm.findClass RX1 = some m.cls := hown
  have hl : lv_has ls 1 [(0, .ref h0)] := hl
  have hP : va_P D cls [(h0, .inr (1, [.null, .null, .int 0, .null, .int 0, .int 0, .null]))] s.heap := hP
  refine lv_aload_n hx hb dX1_init_0 rfl (lv_at hl 0 rfl) ?_
  refine W.objInit hx hb hown (hts _ kw_301) (hts _ kw_30) (hts _ kw_31) rfl (by rw [hml]; exact hl.1) rfl dX1_init_1 (Nat.le_of_ble_eq_true rfl) (Nat.le_of_ble_eq_true rfl) ?_
  refine W.eq (g2 := F0 m 4 ls []) rfl ?_
  refine lv_aload_n hx hb dX1_init_4 rfl (lv_at hl 0 rfl) ?_
  refine lv_bipush (v := 14) hx hb dX1_init_5 (by decide) ?_
  refine n_a (atype := .int) (t := .int) (a0 := (14, .inl (fun _ => 0))) 1 rfl (fun _ _ h => h) hx hb (hts _ kw_92) rfl hkb.1 hP hD hS hA (fun _ => rfl) (by decide) (by decide +kernel) (by decide) (Nat.le_of_ble_eq_true rfl) (Nat.le_of_ble_eq_true rfl) dX1_init_7 (fun q_1 H hP hD hS => ?_)
  have hP : va_P D cls [(h0, .inr (1, [.null, .null, .int 0, .null, .int 0, .int 0, .null])), (q_1, .inl (cI, 14, .inl (fun _ => 0)))] H := hP
  have hD : va_D A [(h0, .inr (1, [.null, .null, .int 0, .null, .int 0, .int 0, .null])), (q_1, .inl (cI, 14, .inl (fun _ => 0)))] := hD
  refine W.widen (k := 1) (n := 14) (Nat.le_of_ble_eq_true rfl) (Nat.le_of_ble_eq_true rfl) ?_
  refine va_putF (D := D) (ci := 1) (v := .ref q_1) (ty := tyX1 0) (C := RX1) (T := TX1) (N := 7) hx hb hts uX1 tyX1 tyX1_ok nmX1 hown hkb.1 hP hD hS 0 rfl rfl 0 (by decide) (hts _ kw_302) (fun _ h9 => h9) rfl hnm rfl (tyX1_ok 0 (by decide)) rfl rfl (Nat.le_of_ble_eq_true rfl) dX1_init_9 (fun H locs hP hD hS => ?_)
  have hP : va_P D cls [(h0, .inr (1, [.ref q_1, .null, .int 0, .null, .int 0, .int 0, .null])), (q_1, .inl (cI, 14, .inl (fun _ => 0)))] H := hP
  have hD : va_D A [(h0, .inr (1, [.ref q_1, .null, .int 0, .null, .int 0, .int 0, .null])), (q_1, .inl (cI, 14, .inl (fun _ => 0)))] := hD
  refine lv_aload_n hx hb dX1_init_12 rfl (lv_at hl 0 rfl) ?_
  refine lv_bipush (v := 14) hx hb dX1_init_13 (by decide) ?_
  refine n_a (atype := .int) (t := .int) (a0 := (14, .inl (fun _ => 0))) 1 rfl (fun _ _ h => h) hx hb (hts _ kw_92) rfl hkb.1 hP hD hS hA (fun _ => rfl) (by decide) (by decide +kernel) (by decide) (Nat.le_of_ble_eq_true rfl) (Nat.le_of_ble_eq_true rfl) dX1_init_15 (fun q_2 H hP hD hS => ?_)
  have hP : va_P D cls [(h0, .inr (1, [.ref q_1, .null, .int 0, .null, .int 0, .int 0, .null])), (q_1, .inl (cI, 14, .inl (fun _ => 0))), (q_2, .inl (cI, 14, .inl (fun _ => 0)))] H := hP
  have hD : va_D A [(h0, .inr (1, [.ref q_1, .null, .int 0, .null, .int 0, .int 0, .null])), (q_1, .inl (cI, 14, .inl (fun _ => 0))), (q_2, .inl (cI, 14, .inl (fun _ => 0)))] := hD
  refine W.widen (k := 2) (n := 28) (Nat.le_of_ble_eq_true rfl) (Nat.le_of_ble_eq_true rfl) ?_
  refine va_putF (D := D) (ci := 1) (v := .ref q_2) (ty := tyX1 1) (C := RX1) (T := TX1) (N := 7) hx hb hts uX1 tyX1 tyX1_ok nmX1 hown hkb.1 hP hD hS 0 rfl rfl 1 (by decide) (hts _ kw_303) (fun _ h9 => h9) rfl hnm rfl (tyX1_ok 1 (by decide)) rfl rfl (Nat.le_of_ble_eq_true rfl) dX1_init_17 (fun H locs hP hD hS => ?_)
  have hP : va_P D cls [(h0, .inr (1, [.ref q_1, .ref q_2, .int 0, .null, .int 0, .int 0, .null])), (q_1, .inl (cI, 14, .inl (fun _ => 0))), (q_2, .inl (cI, 14, .inl (fun _ => 0)))] H := hP
  have hD : va_D A [(h0, .inr (1, [.ref q_1, .ref q_2, .int 0, .null, .int 0, .int 0, .null])), (q_1, .inl (cI, 14, .inl (fun _ => 0))), (q_2, .inl (cI, 14, .inl (fun _ => 0)))] := hD
  refine lv_aload_n hx hb dX1_init_20 rfl (lv_at hl 0 rfl) ?_
  refine lv_iconst (v := 0) hx hb dX1_init_21 (by decide) ?_
  refine va_put (D := D) (ci := 1) (v := .int 0) (ty := tyX1 2) (C := RX1) (T := TX1) (N := 7) hx hb hts uX1 tyX1 tyX1_ok nmX1 hown hkb.1 hP hD hS 0 rfl rfl 2 (by decide) (hts _ kw_304) (fun _ h9 => h9) rfl (tyX1_ok 2 (by decide)) rfl rfl (Nat.le_of_ble_eq_true rfl) dX1_init_22 (fun H locs hP hD hS => ?_)
  have hP : va_P D cls [(h0, .inr (1, [.ref q_1, .ref q_2, .int 0, .null, .int 0, .int 0, .null])), (q_1, .inl (cI, 14, .inl (fun _ => 0))), (q_2, .inl (cI, 14, .inl (fun _ => 0)))] H := hP
  have hD : va_D A [(h0, .inr (1, [.ref q_1, .ref q_2, .int 0, .null, .int 0, .int 0, .null])), (q_1, .inl (cI, 14, .inl (fun _ => 0))), (q_2, .inl (cI, 14, .inl (fun _ => 0)))] := hD
  refine lv_aload_n hx hb dX1_init_25 rfl (lv_at hl 0 rfl) ?_
  refine lv_bipush (v := 28) hx hb dX1_init_26 (by decide) ?_
  refine n_a (atype := .int) (t := .int) (a0 := (28, .inl (fun _ => 0))) 1 rfl (fun _ _ h => h) hx hb (hts _ kw_92) rfl hkb.1 hP hD hS hA (fun _ => rfl) (by decide) (by decide +kernel) (by decide) (Nat.le_of_ble_eq_true rfl) (Nat.le_of_ble_eq_true rfl) dX1_init_28 (fun q_3 H hP hD hS => ?_)
  have hP : va_P D cls [(h0, .inr (1, [.ref q_1, .ref q_2, .int 0, .null, .int 0, .int 0, .null])), (q_1, .inl (cI, 14, .inl (fun _ => 0))), (q_2, .inl (cI, 14, .inl (fun _ => 0))), (q_3, .inl (cI, 28, .inl (fun _ => 0)))] H := hP
  have hD : va_D A [(h0, .inr (1, [.ref q_1, .ref q_2, .int 0, .null, .int 0, .int 0, .null])), (q_1, .inl (cI, 14, .inl (fun _ => 0))), (q_2, .inl (cI, 14, .inl (fun _ => 0))), (q_3, .inl (cI, 28, .inl (fun _ => 0)))] := hD
  refine W.widen (k := 3) (n := 56) (Nat.le_of_ble_eq_true rfl) (Nat.le_of_ble_eq_true rfl) ?_
  refine va_putF (D := D) (ci := 1) (v := .ref q_3) (ty := tyX1 3) (C := RX1) (T := TX1) (N := 7) hx hb hts uX1 tyX1 tyX1_ok nmX1 hown hkb.1 hP hD hS 0 rfl rfl 3 (by decide) (hts _ kw_305) (fun _ h9 => h9) rfl hnm rfl (tyX1_ok 3 (by decide)) rfl rfl (Nat.le_of_ble_eq_true rfl) dX1_init_30 (fun H locs hP hD hS => ?_)
  have hP : va_P D cls [(h0, .inr (1, [.ref q_1, .ref q_2, .int 0, .ref q_3, .int 0, .int 0, .null])), (q_1, .inl (cI, 14, .inl (fun _ => 0))), (q_2, .inl (cI, 14, .inl (fun _ => 0))), (q_3, .inl (cI, 28, .inl (fun _ => 0)))] H := hP
  have hD : va_D A [(h0, .inr (1, [.ref q_1, .ref q_2, .int 0, .ref q_3, .int 0, .int 0, .null])), (q_1, .inl (cI, 14, .inl (fun _ => 0))), (q_2, .inl (cI, 14, .inl (fun _ => 0))), (q_3, .inl (cI, 28, .inl (fun _ => 0)))] := hD
  refine lv_aload_n hx hb dX1_init_33 rfl (lv_at hl 0 rfl) ?_
  refine lv_iconst (v := 0) hx hb dX1_init_34 (by decide) ?_
  refine va_put (D := D) (ci := 1) (v := .int 0) (ty := tyX1 4) (C := RX1) (T := TX1) (N := 7) hx hb hts uX1 tyX1 tyX1_ok nmX1 hown hkb.1 hP hD hS 0 rfl rfl 4 (by decide) (hts _ kw_306) (fun _ h9 => h9) rfl (tyX1_ok 4 (by decide)) rfl rfl (Nat.le_of_ble_eq_true rfl) dX1_init_35 (fun H locs hP hD hS => ?_)
  have hP : va_P D cls [(h0, .inr (1, [.ref q_1, .ref q_2, .int 0, .ref q_3, .int 0, .int 0, .null])), (q_1, .inl (cI, 14, .inl (fun _ => 0))), (q_2, .inl (cI, 14, .inl (fun _ => 0))), (q_3, .inl (cI, 28, .inl (fun _ => 0)))] H := hP
  have hD : va_D A [(h0, .inr (1, [.ref q_1, .ref q_2, .int 0, .ref q_3, .int 0, .int 0, .null])), (q_1, .inl (cI, 14, .inl (fun _ => 0))), (q_2, .inl (cI, 14, .inl (fun _ => 0))), (q_3, .inl (cI, 28, .inl (fun _ => 0)))] := hD
  refine lv_aload_n hx hb dX1_init_38 rfl (lv_at hl 0 rfl) ?_
  refine lv_iconst (v := 0) hx hb dX1_init_39 (by decide) ?_
  refine va_put (D := D) (ci := 1) (v := .int 0) (ty := tyX1 5) (C := RX1) (T := TX1) (N := 7) hx hb hts uX1 tyX1 tyX1_ok nmX1 hown hkb.1 hP hD hS 0 rfl rfl 5 (by decide) (hts _ kw_307) (fun _ h9 => h9) rfl (tyX1_ok 5 (by decide)) rfl rfl (Nat.le_of_ble_eq_true rfl) dX1_init_40 (fun H locs hP hD hS => ?_)
  have hP : va_P D cls [(h0, .inr (1, [.ref q_1, .ref q_2, .int 0, .ref q_3, .int 0, .int 0, .null])), (q_1, .inl (cI, 14, .inl (fun _ => 0))), (q_2, .inl (cI, 14, .inl (fun _ => 0))), (q_3, .inl (cI, 28, .inl (fun _ => 0)))] H := hP
  have hD : va_D A [(h0, .inr (1, [.ref q_1, .ref q_2, .int 0, .ref q_3, .int 0, .int 0, .null])), (q_1, .inl (cI, 14, .inl (fun _ => 0))), (q_2, .inl (cI, 14, .inl (fun _ => 0))), (q_3, .inl (cI, 28, .inl (fun _ => 0)))] := hD
  refine lv_aload_n hx hb dX1_init_43 rfl (lv_at hl 0 rfl) ?_
  refine lv_bipush (v := 28) hx hb dX1_init_44 (by decide) ?_
  refine n_a (atype := .int) (t := .int) (a0 := (28, .inl (fun _ => 0))) 1 rfl (fun _ _ h => h) hx hb (hts _ kw_92) rfl hkb.1 hP hD hS hA (fun _ => rfl) (by decide) (by decide +kernel) (by decide) (Nat.le_of_ble_eq_true rfl) (Nat.le_of_ble_eq_true rfl) dX1_init_46 (fun q_4 H hP hD hS => ?_)
  have hP : va_P D cls [(h0, .inr (1, [.ref q_1, .ref q_2, .int 0, .ref q_3, .int 0, .int 0, .null])), (q_1, .inl (cI, 14, .inl (fun _ => 0))), (q_2, .inl (cI, 14, .inl (fun _ => 0))), (q_3, .inl (cI, 28, .inl (fun _ => 0))), (q_4, .inl (cI, 28, .inl (fun _ => 0)))] H := hP
  have hD : va_D A [(h0, .inr (1, [.ref q_1, .ref q_2, .int 0, .ref q_3, .int 0, .int 0, .null])), (q_1, .inl (cI, 14, .inl (fun _ => 0))), (q_2, .inl (cI, 14, .inl (fun _ => 0))), (q_3, .inl (cI, 28, .inl (fun _ => 0))), (q_4, .inl (cI, 28, .inl (fun _ => 0)))] := hD
  refine W.widen (k := 4) (n := 84) (Nat.le_of_ble_eq_true rfl) (Nat.le_of_ble_eq_true rfl) ?_
  refine va_putF (D := D) (ci := 1) (v := .ref q_4) (ty := tyX1 6) (C := RX1) (T := TX1) (N := 7) hx hb hts uX1 tyX1 tyX1_ok nmX1 hown hkb.1 hP hD hS 0 rfl rfl 6 (by decide) (hts _ kw_308) (fun _ h9 => h9) rfl hnm rfl (tyX1_ok 6 (by decide)) rfl rfl (Nat.le_of_ble_eq_true rfl) dX1_init_48 (fun H locs hP hD hS => ?_)
  have hP : va_P D cls [(h0, .inr (1, [.ref q_1, .ref q_2, .int 0, .ref q_3, .int 0, .int 0, .ref q_4])), (q_1, .inl (cI, 14, .inl (fun _ => 0))), (q_2, .inl (cI, 14, .inl (fun _ => 0))), (q_3, .inl (cI, 28, .inl (fun _ => 0))), (q_4, .inl (cI, 28, .inl (fun _ => 0)))] H := hP
  have hD : va_D A [(h0, .inr (1, [.ref q_1, .ref q_2, .int 0, .ref q_3, .int 0, .int 0, .ref q_4])), (q_1, .inl (cI, 14, .inl (fun _ => 0))), (q_2, .inl (cI, 14, .inl (fun _ => 0))), (q_3, .inl (cI, 28, .inl (fun _ => 0))), (q_4, .inl (cI, 28, .inl (fun _ => 0)))] := hD
  refine W.widen (k := 4) (n := 84) (Nat.le_of_ble_eq_true rfl) (Nat.le_of_ble_eq_true rfl) ?_
  exact e_v (u := [(h0, .inr (1, [.ref q_1, .ref q_2, .int 0, .ref q_3, .int 0, .int 0, .ref q_4])), (q_1, .inl (cI, 14, .inl (fun _ => 0))), (q_2, .inl (cI, 14, .inl (fun _ => 0))), (q_3, .inl (cI, 28, .inl (fun _ => 0))), (q_4, .inl (cI, 28, .inl (fun _ => 0)))]) hx hb hr hlocks (hP.sub (ws' := [(h0, .inr (1, [.ref q_1, .ref q_2, .int 0, .ref q_3, .int 0, .int 0, .ref q_4])), (q_1, .inl (cI, 14, .inl (fun _ => 0))), (q_2, .inl (cI, 14, .inl (fun _ => 0))), (q_3, .inl (cI, 28, .inl (fun _ => 0))), (q_4, .inl (cI, 28, .inl (fun _ => 0)))]) [0, 1, 2, 3, 4] rfl) (hD.sub (ws' := [(h0, .inr (1, [.ref q_1, .ref q_2, .int 0, .ref q_3, .int 0, .int 0, .ref q_4])), (q_1, .inl (cI, 14, .inl (fun _ => 0))), (q_2, .inl (cI, 14, .inl (fun _ => 0))), (q_3, .inl (cI, 28, .inl (fun _ => 0))), (q_4, .inl (cI, 28, .inl (fun _ => 0)))]) [0, 1, 2, 3, 4] (by decide) rfl) hS ⟨q_1, q_2, q_3, q_4, rfl⟩ dX1_init_51
set_option maxHeartbeats 4000000 in
set_option maxRecDepth 100000 in
theorem c_Chains_init (l : Launch) (D : va_G) (cB cI cJ cZ cS cW cT cR : ClassId) (h0 : Nat) : Kon l D (tyl cB cI cJ cZ cS cW cT cR) yX0_init cX0_init 1 none { frames := 1, cells := 3, slots := 29, locals := 12 } [.ref h0] [(h0, .inr (0, [.null, .int 0, .null, .null]))] (Qv D (fun u => ∃ (q_1 : Nat), ∃ (q_2 : Nat), ∃ (q_3 : Nat), u = [(h0, .inr (0, [.ref q_1, .int 0, .ref q_2, .ref q_3])), (q_1, .inl (cI, 1, .inl (fun _ => 0))), (q_2, .inl (cI, 14, .inl (fun _ => 0))), (q_3, .inl (cI, 14, .inl (fun _ => 0)))])) := by
  refine kon_of (by decide) (Nat.le_of_ble_eq_true rfl) (fun p e s m below meth c ls A hx hb hr hml hown hts hlocks hnm hkb hP hD hS hA hl => ?_)
  have hown : s.vm.findClass RX0 = some m.cls := hown
  have hl : lv_has ls 1 [(0, .ref h0)] := hl
  have hP : va_P D cls [(h0, .inr (0, [.null, .int 0, .null, .null]))] s.heap := hP
  refine lv_aload_n hx hb dX0_init_0 rfl (lv_at hl 0 rfl) ?_
  refine W.objInit hx hb hown (hts _ kw_329) (hts _ kw_30) (hts _ kw_31) rfl (by rw [hml]; exact hl.1) rfl dX0_init_1 (Nat.le_of_ble_eq_true rfl) (Nat.le_of_ble_eq_true rfl) ?_
  refine W.eq (g2 := F0 m 4 ls []) rfl ?_
  refine lv_aload_n hx hb dX0_init_4 rfl (lv_at hl 0 rfl) ?_
  refine lv_iconst (v := 1) hx hb dX0_init_5 (by decide) ?_
  refine n_a (atype := .int) (t := .int) (a0 := (1, .inl (fun _ => 0))) 1 rfl (fun _ _ h => h) hx hb (hts _ kw_92) rfl hkb.1 hP hD hS hA (fun _ => rfl) (by decide) (by decide +kernel) (by decide) (Nat.le_of_ble_eq_true rfl) (Nat.le_of_ble_eq_true rfl) dX0_init_6 (fun q_1 H hP hD hS => ?_)
  have hP : va_P D cls [(h0, .inr (0, [.null, .int 0, .null, .null])), (q_1, .inl (cI, 1, .inl (fun _ => 0)))] H := hP
  have hD : va_D A [(h0, .inr (0, [.null, .int 0, .null, .null])), (q_1, .inl (cI, 1, .inl (fun _ => 0)))] := hD
  refine W.widen (k := 1) (n := 1) (Nat.le_of_ble_eq_true rfl) (Nat.le_of_ble_eq_true rfl) ?_
  refine va_put (D := D) (ci := 0) (v := .ref q_1) (ty := tyX0 0) (C := RX0) (T := TX0) (N := 4) hx hb hts uX0 tyX0 tyX0_ok nmX0 hown hkb.1 hP hD hS 0 rfl rfl 0 (by decide) (hts _ kw_330) (fun _ h9 => h9) rfl (tyX0_ok 0 (by decide)) rfl rfl (Nat.le_of_ble_eq_true rfl) dX0_init_8 (fun H locs hP hD hS => ?_)
  have hP : va_P D cls [(h0, .inr (0, [.ref q_1, .int 0, .null, .null])), (q_1, .inl (cI, 1, .inl (fun _ => 0)))] H := hP
  have hD : va_D A [(h0, .inr (0, [.ref q_1, .int 0, .null, .null])), (q_1, .inl (cI, 1, .inl (fun _ => 0)))] := hD
  refine lv_aload_n hx hb dX0_init_11 rfl (lv_at hl 0 rfl) ?_
  refine lv_iconst (v := 0) hx hb dX0_init_12 (by decide) ?_
  refine va_put (D := D) (ci := 0) (v := .int 0) (ty := tyX0 1) (C := RX0) (T := TX0) (N := 4) hx hb hts uX0 tyX0 tyX0_ok nmX0 hown hkb.1 hP hD hS 0 rfl rfl 1 (by decide) (hts _ kw_331) (fun _ h9 => h9) rfl (tyX0_ok 1 (by decide)) rfl rfl (Nat.le_of_ble_eq_true rfl) dX0_init_13 (fun H locs hP hD hS => ?_)
  have hP : va_P D cls [(h0, .inr (0, [.ref q_1, .int 0, .null, .null])), (q_1, .inl (cI, 1, .inl (fun _ => 0)))] H := hP
  have hD : va_D A [(h0, .inr (0, [.ref q_1, .int 0, .null, .null])), (q_1, .inl (cI, 1, .inl (fun _ => 0)))] := hD
  refine lv_aload_n hx hb dX0_init_16 rfl (lv_at hl 0 rfl) ?_
  refine lv_bipush (v := 14) hx hb dX0_init_17 (by decide) ?_
  refine n_a (atype := .int) (t := .int) (a0 := (14, .inl (fun _ => 0))) 1 rfl (fun _ _ h => h) hx hb (hts _ kw_92) rfl hkb.1 hP hD hS hA (fun _ => rfl) (by decide) (by decide +kernel) (by decide) (Nat.le_of_ble_eq_true rfl) (Nat.le_of_ble_eq_true rfl) dX0_init_19 (fun q_2 H hP hD hS => ?_)
  have hP : va_P D cls [(h0, .inr (0, [.ref q_1, .int 0, .null, .null])), (q_1, .inl (cI, 1, .inl (fun _ => 0))), (q_2, .inl (cI, 14, .inl (fun _ => 0)))] H := hP
  have hD : va_D A [(h0, .inr (0, [.ref q_1, .int 0, .null, .null])), (q_1, .inl (cI, 1, .inl (fun _ => 0))), (q_2, .inl (cI, 14, .inl (fun _ => 0)))] := hD
  refine W.widen (k := 2) (n := 15) (Nat.le_of_ble_eq_true rfl) (Nat.le_of_ble_eq_true rfl) ?_
  refine va_putF (D := D) (ci := 0) (v := .ref q_2) (ty := tyX0 2) (C := RX0) (T := TX0) (N := 4) hx hb hts uX0 tyX0 tyX0_ok nmX0 hown hkb.1 hP hD hS 0 rfl rfl 2 (by decide) (hts _ kw_332) (fun _ h9 => h9) rfl hnm rfl (tyX0_ok 2 (by decide)) rfl rfl (Nat.le_of_ble_eq_true rfl) dX0_init_21 (fun H locs hP hD hS => ?_)
  have hP : va_P D cls [(h0, .inr (0, [.ref q_1, .int 0, .ref q_2, .null])), (q_1, .inl (cI, 1, .inl (fun _ => 0))), (q_2, .inl (cI, 14, .inl (fun _ => 0)))] H := hP
  have hD : va_D A [(h0, .inr (0, [.ref q_1, .int 0, .ref q_2, .null])), (q_1, .inl (cI, 1, .inl (fun _ => 0))), (q_2, .inl (cI, 14, .inl (fun _ => 0)))] := hD
  refine lv_aload_n hx hb dX0_init_24 rfl (lv_at hl 0 rfl) ?_
  refine lv_bipush (v := 14) hx hb dX0_init_25 (by decide) ?_
  refine n_a (atype := .int) (t := .int) (a0 := (14, .inl (fun _ => 0))) 1 rfl (fun _ _ h => h) hx hb (hts _ kw_92) rfl hkb.1 hP hD hS hA (fun _ => rfl) (by decide) (by decide +kernel) (by decide) (Nat.le_of_ble_eq_true rfl) (Nat.le_of_ble_eq_true rfl) dX0_init_27 (fun q_3 H hP hD hS => ?_)
  have hP : va_P D cls [(h0, .inr (0, [.ref q_1, .int 0, .ref q_2, .null])), (q_1, .inl (cI, 1, .inl (fun _ => 0))), (q_2, .inl (cI, 14, .inl (fun _ => 0))), (q_3, .inl (cI, 14, .inl (fun _ => 0)))] H := hP
  have hD : va_D A [(h0, .inr (0, [.ref q_1, .int 0, .ref q_2, .null])), (q_1, .inl (cI, 1, .inl (fun _ => 0))), (q_2, .inl (cI, 14, .inl (fun _ => 0))), (q_3, .inl (cI, 14, .inl (fun _ => 0)))] := hD
  refine W.widen (k := 3) (n := 29) (Nat.le_of_ble_eq_true rfl) (Nat.le_of_ble_eq_true rfl) ?_
  refine va_putF (D := D) (ci := 0) (v := .ref q_3) (ty := tyX0 3) (C := RX0) (T := TX0) (N := 4) hx hb hts uX0 tyX0 tyX0_ok nmX0 hown hkb.1 hP hD hS 0 rfl rfl 3 (by decide) (hts _ kw_333) (fun _ h9 => h9) rfl hnm rfl (tyX0_ok 3 (by decide)) rfl rfl (Nat.le_of_ble_eq_true rfl) dX0_init_29 (fun H locs hP hD hS => ?_)
  have hP : va_P D cls [(h0, .inr (0, [.ref q_1, .int 0, .ref q_2, .ref q_3])), (q_1, .inl (cI, 1, .inl (fun _ => 0))), (q_2, .inl (cI, 14, .inl (fun _ => 0))), (q_3, .inl (cI, 14, .inl (fun _ => 0)))] H := hP
  have hD : va_D A [(h0, .inr (0, [.ref q_1, .int 0, .ref q_2, .ref q_3])), (q_1, .inl (cI, 1, .inl (fun _ => 0))), (q_2, .inl (cI, 14, .inl (fun _ => 0))), (q_3, .inl (cI, 14, .inl (fun _ => 0)))] := hD
  refine W.widen (k := 3) (n := 29) (Nat.le_of_ble_eq_true rfl) (Nat.le_of_ble_eq_true rfl) ?_
  exact e_v (u := [(h0, .inr (0, [.ref q_1, .int 0, .ref q_2, .ref q_3])), (q_1, .inl (cI, 1, .inl (fun _ => 0))), (q_2, .inl (cI, 14, .inl (fun _ => 0))), (q_3, .inl (cI, 14, .inl (fun _ => 0)))]) hx hb hr hlocks (hP.sub (ws' := [(h0, .inr (0, [.ref q_1, .int 0, .ref q_2, .ref q_3])), (q_1, .inl (cI, 1, .inl (fun _ => 0))), (q_2, .inl (cI, 14, .inl (fun _ => 0))), (q_3, .inl (cI, 14, .inl (fun _ => 0)))]) [0, 1, 2, 3] rfl) (hD.sub (ws' := [(h0, .inr (0, [.ref q_1, .int 0, .ref q_2, .ref q_3])), (q_1, .inl (cI, 1, .inl (fun _ => 0))), (q_2, .inl (cI, 14, .inl (fun _ => 0))), (q_3, .inl (cI, 14, .inl (fun _ => 0)))]) [0, 1, 2, 3] (by decide) rfl) hS ⟨q_1, q_2, q_3, rfl⟩ dX0_init_32
set_option maxHeartbeats 4000000 in
set_option maxRecDepth 100000 in
theorem c_Reader_init (l : Launch) (D : va_G) (cB cI cJ cZ cS cW cT cR : ClassId) (h0 : Nat) : Kon l D (tyl cB cI cJ cZ cS cW cT cR) yX4_init cX4_init 1 none { frames := 2, cells := 13, slots := 1011, locals := 37 } [.ref h0] [(h0, .inr (4, [.null, .null, .null, .int 0, .null]))] (Qv D (fun u => ∃ (q_1 : Nat), ∃ (q_4 : Nat), ∃ (q_7 : Nat), ∃ (q_14 : Nat), ∃ (q_2 : Nat), ∃ (q_5 : Nat), ∃ (q_8 : Nat), ∃ (q_9 : Nat), ∃ (q_10 : Nat), ∃ (q_11 : Nat), ∃ (q_12 : Nat), ∃ (q_15 : Nat), ∃ (q_16 : Nat), u = [(h0, .inr (4, [.ref q_1, .ref q_4, .ref q_7, .int 0, .ref q_14])), (q_1, .inr (7, [.ref q_2, .int 0, .int 0, .int 0, .int 0, .int 0, .int 0, .int (-1)])), (q_2, .inl (cB, 0, .inl (fun _ => 0))), (q_4, .inr (3, [.ref q_1, .ref q_5, .int 0])), (q_5, .inl (cI, 900, .inl (fun _ => 0))), (q_7, .inr (9, [.int 14, .int 5, .int 0, .int 0, .int 0, .int 0, .ref q_8, .ref q_9, .ref q_10, .ref q_11, .ref q_12, .null, .int 0, .int 1])), (q_8, .inl (cI, 14, .inl (fun _ => 0))), (q_9, .inl (cI, 14, .inl (fun _ => 0))), (q_10, .inl (cI, 14, .inl (fun _ => 0))), (q_11, .inl (cI, 5, .inl (fun _ => 0))), (q_12, .inl (cI, 5, .inl (fun _ => 0))), (q_14, .inr (6, [.int 0, .int 0, .int 0, .int 0, .ref q_15, .ref q_16])), (q_15, .inl (cI, 14, .inl (fun _ => 0))), (q_16, .inl (cI, 14, .inl (fun _ => 0)))])) := by
  refine kon_of (by decide) (Nat.le_of_ble_eq_true rfl) (fun p e s m below meth c ls A hx hb hr hml hown hts hlocks hnm hkb hP hD hS hA hl => ?_)
  have hown : s.vm.findClass RX4 = some m.cls := hown
  have hl : lv_has ls 1 [(0, .ref h0)] := hl
  have hP : va_P D cls [(h0, .inr (4, [.null, .null, .null, .int 0, .null]))] s.heap := hP
  refine lv_aload_n hx hb dX4_init_0 rfl (lv_at hl 0 rfl) ?_
  refine W.objInit hx hb hown (hts _ kw_37) (hts _ kw_30) (hts _ kw_31) rfl (by rw [hml]; exact hl.1) rfl dX4_init_1 (Nat.le_of_ble_eq_true rfl) (Nat.le_of_ble_eq_true rfl) ?_
  refine W.eq (g2 := F0 m 4 ls []) rfl ?_
  refine lv_aload_n hx hb dX4_init_4 rfl (lv_at hl 0 rfl) ?_
  refine va_new (ci := 7) (fs := [.null, .int 0, .int 0, .int 0, .int 0, .int 0, .int 0, .int 0]) (C := RX7) (T := TX7) (N := 8) hx hb hts uX7 tyX7 tyX7_ok hown (hts _ kw_38) (hts _ kw_39) (hts _ kw_3) hkb.1 hP hD hS hA rfl dfX7 (Nat.le_of_ble_eq_true rfl) (Nat.le_of_ble_eq_true rfl) dX4_init_5 (fun q_1 H hP hD hS => ?_)
  have hP : va_P D cls [(h0, .inr (4, [.null, .null, .null, .int 0, .null])), (q_1, .inr (7, [.null, .int 0, .int 0, .int 0, .int 0, .int 0, .int 0, .int 0]))] H := hP
  have hD : va_D A [(h0, .inr (4, [.null, .null, .null, .int 0, .null])), (q_1, .inr (7, [.null, .int 0, .int 0, .int 0, .int 0, .int 0, .int 0, .int 0]))] := hD
  refine W.widen (k := 1) (n := 8) (Nat.le_of_ble_eq_true rfl) (Nat.le_of_ble_eq_true rfl) ?_
  refine lv_dup hx hb dX4_init_8 rfl ?_
  have hPc := hP.sub (ws' := [(q_1, .inr (7, [.null, .int 0, .int 0, .int 0, .int 0, .int 0, .int 0, .int 0]))]) [1] rfl
  have hDc := hD.sub (ws' := [(q_1, .inr (7, [.null, .int 0, .int 0, .int 0, .int 0, .int 0, .int 0, .int 0]))]) [1] (by decide) rfl
  refine k_v (wc := [(q_1, .inr (7, [.null, .int 0, .int 0, .int 0, .int 0, .int 0, .int 0, .int 0]))]) (wr := [(h0, .inr (4, [.null, .null, .null, .int 0, .null]))]) hP hD hS hA [1] [0] rfl rfl rfl (by decide) (r_N (n := 0) (As := []) hx hb hml hown hts hkb hPc hDc (c_Tokens_init l D cB cI cJ cZ cS cW cT cR q_1) hkb.2.2.2.1 kw_41 kw_3 kw_42 rfl (by decide +kernel) ⟨Nat.le_of_ble_eq_true rfl, Nat.le_of_ble_eq_true rfl⟩ rfl rfl hl.1 (Nat.le_of_ble_eq_true rfl) dX4_init_9 ⟨Nat.le_of_ble_eq_true rfl, Nat.le_of_ble_eq_true rfl⟩) (fun u H locs hw hP hD hS => ?_)
  obtain ⟨q_2, rfl⟩ := hw
  have hP : va_P D cls [(h0, .inr (4, [.null, .null, .null, .int 0, .null])), (q_1, .inr (7, [.ref q_2, .int 0, .int 0, .int 0, .int 0, .int 0, .int 0, .int (-1)])), (q_2, .inl (cB, 0, .inl (fun _ => 0)))] H := hP
  have hD : va_D A [(h0, .inr (4, [.null, .null, .null, .int 0, .null])), (q_1, .inr (7, [.ref q_2, .int 0, .int 0, .int 0, .int 0, .int 0, .int 0, .int (-1)])), (q_2, .inl (cB, 0, .inl (fun _ => 0)))] := hD
  refine W.widen (k := 2) (n := 8) (Nat.le_of_ble_eq_true rfl) (Nat.le_of_ble_eq_true rfl) ?_
  refine va_putF (D := D) (ci := 4) (v := .ref q_1) (ty := tyX4 0) (C := RX4) (T := TX4) (N := 5) hx hb hts uX4 tyX4 tyX4_ok nmX4 hown hkb.1 hP hD hS 0 rfl rfl 0 (by decide) (hts _ kw_211) (fun _ h9 => h9) rfl hnm rfl (tyX4_ok 0 (by decide)) rfl rfl (Nat.le_of_ble_eq_true rfl) dX4_init_12 (fun H locs hP hD hS => ?_)
  have hP : va_P D cls [(h0, .inr (4, [.ref q_1, .null, .null, .int 0, .null])), (q_1, .inr (7, [.ref q_2, .int 0, .int 0, .int 0, .int 0, .int 0, .int 0, .int (-1)])), (q_2, .inl (cB, 0, .inl (fun _ => 0)))] H := hP
  have hD : va_D A [(h0, .inr (4, [.ref q_1, .null, .null, .int 0, .null])), (q_1, .inr (7, [.ref q_2, .int 0, .int 0, .int 0, .int 0, .int 0, .int 0, .int (-1)])), (q_2, .inl (cB, 0, .inl (fun _ => 0)))] := hD
  refine lv_aload_n hx hb dX4_init_15 rfl (lv_at hl 0 rfl) ?_
  refine va_new (ci := 3) (fs := [.null, .null, .int 0]) (C := RX3) (T := TX3) (N := 3) hx hb hts uX3 tyX3 tyX3_ok hown (hts _ kw_76) (hts _ kw_77) (hts _ kw_4) hkb.1 hP hD hS hA rfl dfX3 (Nat.le_of_ble_eq_true rfl) (Nat.le_of_ble_eq_true rfl) dX4_init_16 (fun q_4 H hP hD hS => ?_)
  have hP : va_P D cls [(h0, .inr (4, [.ref q_1, .null, .null, .int 0, .null])), (q_1, .inr (7, [.ref q_2, .int 0, .int 0, .int 0, .int 0, .int 0, .int 0, .int (-1)])), (q_2, .inl (cB, 0, .inl (fun _ => 0))), (q_4, .inr (3, [.null, .null, .int 0]))] H := hP
  have hD : va_D A [(h0, .inr (4, [.ref q_1, .null, .null, .int 0, .null])), (q_1, .inr (7, [.ref q_2, .int 0, .int 0, .int 0, .int 0, .int 0, .int 0, .int (-1)])), (q_2, .inl (cB, 0, .inl (fun _ => 0))), (q_4, .inr (3, [.null, .null, .int 0]))] := hD
  refine W.widen (k := 3) (n := 11) (Nat.le_of_ble_eq_true rfl) (Nat.le_of_ble_eq_true rfl) ?_
  refine lv_dup hx hb dX4_init_19 rfl ?_
  refine lv_aload_n hx hb dX4_init_20 rfl (lv_at hl 0 rfl) ?_
  refine va_get (D := D) (ci := 4) (v := .ref q_1) (C := RX4) (T := TX4) (N := 5) hx hb hts uX4 hown hkb.1 hP 0 rfl rfl 0 (by decide) (hts _ kw_211) (fun _ h9 => h9) rfl dX4_init_21 ?_
  have hPc := hP.sub (ws' := [(q_4, .inr (3, [.null, .null, .int 0]))]) [3] rfl
  have hDc := hD.sub (ws' := [(q_4, .inr (3, [.null, .null, .int 0]))]) [3] (by decide) rfl
  refine k_v (wc := [(q_4, .inr (3, [.null, .null, .int 0]))]) (wr := [(h0, .inr (4, [.ref q_1, .null, .null, .int 0, .null])), (q_1, .inr (7, [.ref q_2, .int 0, .int 0, .int 0, .int 0, .int 0, .int 0, .int (-1)])), (q_2, .inl (cB, 0, .inl (fun _ => 0)))]) hP hD hS hA [3] [0, 1, 2] rfl rfl rfl (by decide) (r_I (n := 1) (As := [.ref q_1]) hx hb hml hown hts hkb hPc hDc (c_LawReader_init l D cB cI cJ cZ cS cW cT cR q_4 q_1) kw_78 kw_79 kw_4 kw_80 rfl (by decide +kernel) ⟨Nat.le_of_ble_eq_true rfl, Nat.le_of_ble_eq_true rfl⟩ rfl rfl hl.1 (Nat.le_of_ble_eq_true rfl) dX4_init_24 ⟨Nat.le_of_ble_eq_true rfl, Nat.le_of_ble_eq_true rfl⟩) (fun u H locs hw hP hD hS => ?_)
  obtain ⟨q_5, rfl⟩ := hw
  have hP : va_P D cls [(h0, .inr (4, [.ref q_1, .null, .null, .int 0, .null])), (q_1, .inr (7, [.ref q_2, .int 0, .int 0, .int 0, .int 0, .int 0, .int 0, .int (-1)])), (q_2, .inl (cB, 0, .inl (fun _ => 0))), (q_4, .inr (3, [.ref q_1, .ref q_5, .int 0])), (q_5, .inl (cI, 900, .inl (fun _ => 0)))] H := hP
  have hD : va_D A [(h0, .inr (4, [.ref q_1, .null, .null, .int 0, .null])), (q_1, .inr (7, [.ref q_2, .int 0, .int 0, .int 0, .int 0, .int 0, .int 0, .int (-1)])), (q_2, .inl (cB, 0, .inl (fun _ => 0))), (q_4, .inr (3, [.ref q_1, .ref q_5, .int 0])), (q_5, .inl (cI, 900, .inl (fun _ => 0)))] := hD
  refine W.widen (k := 4) (n := 911) (Nat.le_of_ble_eq_true rfl) (Nat.le_of_ble_eq_true rfl) ?_
  refine va_putF (D := D) (ci := 4) (v := .ref q_4) (ty := tyX4 1) (C := RX4) (T := TX4) (N := 5) hx hb hts uX4 tyX4 tyX4_ok nmX4 hown hkb.1 hP hD hS 0 rfl rfl 1 (by decide) (hts _ kw_213) (fun _ h9 => h9) rfl hnm rfl (tyX4_ok 1 (by decide)) rfl rfl (Nat.le_of_ble_eq_true rfl) dX4_init_27 (fun H locs hP hD hS => ?_)
  have hP : va_P D cls [(h0, .inr (4, [.ref q_1, .ref q_4, .null, .int 0, .null])), (q_1, .inr (7, [.ref q_2, .int 0, .int 0, .int 0, .int 0, .int 0, .int 0, .int (-1)])), (q_2, .inl (cB, 0, .inl (fun _ => 0))), (q_4, .inr (3, [.ref q_1, .ref q_5, .int 0])), (q_5, .inl (cI, 900, .inl (fun _ => 0)))] H := hP
  have hD : va_D A [(h0, .inr (4, [.ref q_1, .ref q_4, .null, .int 0, .null])), (q_1, .inr (7, [.ref q_2, .int 0, .int 0, .int 0, .int 0, .int 0, .int 0, .int (-1)])), (q_2, .inl (cB, 0, .inl (fun _ => 0))), (q_4, .inr (3, [.ref q_1, .ref q_5, .int 0])), (q_5, .inl (cI, 900, .inl (fun _ => 0)))] := hD
  refine lv_aload_n hx hb dX4_init_30 rfl (lv_at hl 0 rfl) ?_
  refine va_new (ci := 9) (fs := [.int 0, .int 0, .int 0, .int 0, .int 0, .int 0, .null, .null, .null, .null, .null, .null, .int 0, .int 0]) (C := RX9) (T := TX9) (N := 14) hx hb hts uX9 tyX9 tyX9_ok hown (hts _ kw_93) (hts _ kw_94) (hts _ kw_5) hkb.1 hP hD hS hA rfl dfX9 (Nat.le_of_ble_eq_true rfl) (Nat.le_of_ble_eq_true rfl) dX4_init_31 (fun q_7 H hP hD hS => ?_)
  have hP : va_P D cls [(h0, .inr (4, [.ref q_1, .ref q_4, .null, .int 0, .null])), (q_1, .inr (7, [.ref q_2, .int 0, .int 0, .int 0, .int 0, .int 0, .int 0, .int (-1)])), (q_2, .inl (cB, 0, .inl (fun _ => 0))), (q_4, .inr (3, [.ref q_1, .ref q_5, .int 0])), (q_5, .inl (cI, 900, .inl (fun _ => 0))), (q_7, .inr (9, [.int 0, .int 0, .int 0, .int 0, .int 0, .int 0, .null, .null, .null, .null, .null, .null, .int 0, .int 0]))] H := hP
  have hD : va_D A [(h0, .inr (4, [.ref q_1, .ref q_4, .null, .int 0, .null])), (q_1, .inr (7, [.ref q_2, .int 0, .int 0, .int 0, .int 0, .int 0, .int 0, .int (-1)])), (q_2, .inl (cB, 0, .inl (fun _ => 0))), (q_4, .inr (3, [.ref q_1, .ref q_5, .int 0])), (q_5, .inl (cI, 900, .inl (fun _ => 0))), (q_7, .inr (9, [.int 0, .int 0, .int 0, .int 0, .int 0, .int 0, .null, .null, .null, .null, .null, .null, .int 0, .int 0]))] := hD
  refine W.widen (k := 5) (n := 925) (Nat.le_of_ble_eq_true rfl) (Nat.le_of_ble_eq_true rfl) ?_
  refine lv_dup hx hb dX4_init_34 rfl ?_
  refine lv_bipush (v := 14) hx hb dX4_init_35 (by decide) ?_
  refine lv_iconst (v := 5) hx hb dX4_init_37 (by decide) ?_
  refine lv_null hx hb dX4_init_38 ?_
  have hPc := hP.sub (ws' := [(q_7, .inr (9, [.int 0, .int 0, .int 0, .int 0, .int 0, .int 0, .null, .null, .null, .null, .null, .null, .int 0, .int 0]))]) [5] rfl
  have hDc := hD.sub (ws' := [(q_7, .inr (9, [.int 0, .int 0, .int 0, .int 0, .int 0, .int 0, .null, .null, .null, .null, .null, .null, .int 0, .int 0]))]) [5] (by decide) rfl
  refine k_v (wc := [(q_7, .inr (9, [.int 0, .int 0, .int 0, .int 0, .int 0, .int 0, .null, .null, .null, .null, .null, .null, .int 0, .int 0]))]) (wr := [(h0, .inr (4, [.ref q_1, .ref q_4, .null, .int 0, .null])), (q_1, .inr (7, [.ref q_2, .int 0, .int 0, .int 0, .int 0, .int 0, .int 0, .int (-1)])), (q_2, .inl (cB, 0, .inl (fun _ => 0))), (q_4, .inr (3, [.ref q_1, .ref q_5, .int 0])), (q_5, .inl (cI, 900, .inl (fun _ => 0)))]) hP hD hS hA [5] [0, 1, 2, 3, 4] rfl rfl rfl (by decide) (r_I (n := 3) (As := [.int 14, .int 5, .null]) hx hb hml hown hts hkb hPc hDc (c_Wall_init_14 l D cB cI cJ cZ cS cW cT cR q_7) kw_95 kw_96 kw_5 kw_97 rfl (by decide +kernel) ⟨Nat.le_of_ble_eq_true rfl, Nat.le_of_ble_eq_true rfl⟩ rfl rfl hl.1 (Nat.le_of_ble_eq_true rfl) dX4_init_39 ⟨Nat.le_of_ble_eq_true rfl, Nat.le_of_ble_eq_true rfl⟩) (fun u H locs hw hP hD hS => ?_)
  obtain ⟨q_8, q_9, q_10, q_11, q_12, rfl⟩ := hw
  have hP : va_P D cls [(h0, .inr (4, [.ref q_1, .ref q_4, .null, .int 0, .null])), (q_1, .inr (7, [.ref q_2, .int 0, .int 0, .int 0, .int 0, .int 0, .int 0, .int (-1)])), (q_2, .inl (cB, 0, .inl (fun _ => 0))), (q_4, .inr (3, [.ref q_1, .ref q_5, .int 0])), (q_5, .inl (cI, 900, .inl (fun _ => 0))), (q_7, .inr (9, [.int 14, .int 5, .int 0, .int 0, .int 0, .int 0, .ref q_8, .ref q_9, .ref q_10, .ref q_11, .ref q_12, .null, .int 0, .int 1])), (q_8, .inl (cI, 14, .inl (fun _ => 0))), (q_9, .inl (cI, 14, .inl (fun _ => 0))), (q_10, .inl (cI, 14, .inl (fun _ => 0))), (q_11, .inl (cI, 5, .inl (fun _ => 0))), (q_12, .inl (cI, 5, .inl (fun _ => 0)))] H := hP
  have hD : va_D A [(h0, .inr (4, [.ref q_1, .ref q_4, .null, .int 0, .null])), (q_1, .inr (7, [.ref q_2, .int 0, .int 0, .int 0, .int 0, .int 0, .int 0, .int (-1)])), (q_2, .inl (cB, 0, .inl (fun _ => 0))), (q_4, .inr (3, [.ref q_1, .ref q_5, .int 0])), (q_5, .inl (cI, 900, .inl (fun _ => 0))), (q_7, .inr (9, [.int 14, .int 5, .int 0, .int 0, .int 0, .int 0, .ref q_8, .ref q_9, .ref q_10, .ref q_11, .ref q_12, .null, .int 0, .int 1])), (q_8, .inl (cI, 14, .inl (fun _ => 0))), (q_9, .inl (cI, 14, .inl (fun _ => 0))), (q_10, .inl (cI, 14, .inl (fun _ => 0))), (q_11, .inl (cI, 5, .inl (fun _ => 0))), (q_12, .inl (cI, 5, .inl (fun _ => 0)))] := hD
  refine W.widen (k := 10) (n := 977) (Nat.le_of_ble_eq_true rfl) (Nat.le_of_ble_eq_true rfl) ?_
  refine va_putF (D := D) (ci := 4) (v := .ref q_7) (ty := tyX4 2) (C := RX4) (T := TX4) (N := 5) hx hb hts uX4 tyX4 tyX4_ok nmX4 hown hkb.1 hP hD hS 0 rfl rfl 2 (by decide) (hts _ kw_214) (fun _ h9 => h9) rfl hnm rfl (tyX4_ok 2 (by decide)) rfl rfl (Nat.le_of_ble_eq_true rfl) dX4_init_42 (fun H locs hP hD hS => ?_)
  have hP : va_P D cls [(h0, .inr (4, [.ref q_1, .ref q_4, .ref q_7, .int 0, .null])), (q_1, .inr (7, [.ref q_2, .int 0, .int 0, .int 0, .int 0, .int 0, .int 0, .int (-1)])), (q_2, .inl (cB, 0, .inl (fun _ => 0))), (q_4, .inr (3, [.ref q_1, .ref q_5, .int 0])), (q_5, .inl (cI, 900, .inl (fun _ => 0))), (q_7, .inr (9, [.int 14, .int 5, .int 0, .int 0, .int 0, .int 0, .ref q_8, .ref q_9, .ref q_10, .ref q_11, .ref q_12, .null, .int 0, .int 1])), (q_8, .inl (cI, 14, .inl (fun _ => 0))), (q_9, .inl (cI, 14, .inl (fun _ => 0))), (q_10, .inl (cI, 14, .inl (fun _ => 0))), (q_11, .inl (cI, 5, .inl (fun _ => 0))), (q_12, .inl (cI, 5, .inl (fun _ => 0)))] H := hP
  have hD : va_D A [(h0, .inr (4, [.ref q_1, .ref q_4, .ref q_7, .int 0, .null])), (q_1, .inr (7, [.ref q_2, .int 0, .int 0, .int 0, .int 0, .int 0, .int 0, .int (-1)])), (q_2, .inl (cB, 0, .inl (fun _ => 0))), (q_4, .inr (3, [.ref q_1, .ref q_5, .int 0])), (q_5, .inl (cI, 900, .inl (fun _ => 0))), (q_7, .inr (9, [.int 14, .int 5, .int 0, .int 0, .int 0, .int 0, .ref q_8, .ref q_9, .ref q_10, .ref q_11, .ref q_12, .null, .int 0, .int 1])), (q_8, .inl (cI, 14, .inl (fun _ => 0))), (q_9, .inl (cI, 14, .inl (fun _ => 0))), (q_10, .inl (cI, 14, .inl (fun _ => 0))), (q_11, .inl (cI, 5, .inl (fun _ => 0))), (q_12, .inl (cI, 5, .inl (fun _ => 0)))] := hD
  refine lv_aload_n hx hb dX4_init_45 rfl (lv_at hl 0 rfl) ?_
  refine lv_iconst (v := 0) hx hb dX4_init_46 (by decide) ?_
  refine va_put (D := D) (ci := 4) (v := .int 0) (ty := tyX4 3) (C := RX4) (T := TX4) (N := 5) hx hb hts uX4 tyX4 tyX4_ok nmX4 hown hkb.1 hP hD hS 0 rfl rfl 3 (by decide) (hts _ kw_215) (fun _ h9 => h9) rfl (tyX4_ok 3 (by decide)) rfl rfl (Nat.le_of_ble_eq_true rfl) dX4_init_47 (fun H locs hP hD hS => ?_)
  have hP : va_P D cls [(h0, .inr (4, [.ref q_1, .ref q_4, .ref q_7, .int 0, .null])), (q_1, .inr (7, [.ref q_2, .int 0, .int 0, .int 0, .int 0, .int 0, .int 0, .int (-1)])), (q_2, .inl (cB, 0, .inl (fun _ => 0))), (q_4, .inr (3, [.ref q_1, .ref q_5, .int 0])), (q_5, .inl (cI, 900, .inl (fun _ => 0))), (q_7, .inr (9, [.int 14, .int 5, .int 0, .int 0, .int 0, .int 0, .ref q_8, .ref q_9, .ref q_10, .ref q_11, .ref q_12, .null, .int 0, .int 1])), (q_8, .inl (cI, 14, .inl (fun _ => 0))), (q_9, .inl (cI, 14, .inl (fun _ => 0))), (q_10, .inl (cI, 14, .inl (fun _ => 0))), (q_11, .inl (cI, 5, .inl (fun _ => 0))), (q_12, .inl (cI, 5, .inl (fun _ => 0)))] H := hP
  have hD : va_D A [(h0, .inr (4, [.ref q_1, .ref q_4, .ref q_7, .int 0, .null])), (q_1, .inr (7, [.ref q_2, .int 0, .int 0, .int 0, .int 0, .int 0, .int 0, .int (-1)])), (q_2, .inl (cB, 0, .inl (fun _ => 0))), (q_4, .inr (3, [.ref q_1, .ref q_5, .int 0])), (q_5, .inl (cI, 900, .inl (fun _ => 0))), (q_7, .inr (9, [.int 14, .int 5, .int 0, .int 0, .int 0, .int 0, .ref q_8, .ref q_9, .ref q_10, .ref q_11, .ref q_12, .null, .int 0, .int 1])), (q_8, .inl (cI, 14, .inl (fun _ => 0))), (q_9, .inl (cI, 14, .inl (fun _ => 0))), (q_10, .inl (cI, 14, .inl (fun _ => 0))), (q_11, .inl (cI, 5, .inl (fun _ => 0))), (q_12, .inl (cI, 5, .inl (fun _ => 0)))] := hD
  refine lv_aload_n hx hb dX4_init_50 rfl (lv_at hl 0 rfl) ?_
  refine va_new (ci := 6) (fs := [.int 0, .int 0, .int 0, .int 0, .null, .null]) (C := RX6) (T := TX6) (N := 6) hx hb hts uX6 tyX6 tyX6_ok hown (hts _ kw_179) (hts _ kw_180) (hts _ kw_7) hkb.1 hP hD hS hA rfl dfX6 (Nat.le_of_ble_eq_true rfl) (Nat.le_of_ble_eq_true rfl) dX4_init_51 (fun q_14 H hP hD hS => ?_)
  have hP : va_P D cls [(h0, .inr (4, [.ref q_1, .ref q_4, .ref q_7, .int 0, .null])), (q_1, .inr (7, [.ref q_2, .int 0, .int 0, .int 0, .int 0, .int 0, .int 0, .int (-1)])), (q_2, .inl (cB, 0, .inl (fun _ => 0))), (q_4, .inr (3, [.ref q_1, .ref q_5, .int 0])), (q_5, .inl (cI, 900, .inl (fun _ => 0))), (q_7, .inr (9, [.int 14, .int 5, .int 0, .int 0, .int 0, .int 0, .ref q_8, .ref q_9, .ref q_10, .ref q_11, .ref q_12, .null, .int 0, .int 1])), (q_8, .inl (cI, 14, .inl (fun _ => 0))), (q_9, .inl (cI, 14, .inl (fun _ => 0))), (q_10, .inl (cI, 14, .inl (fun _ => 0))), (q_11, .inl (cI, 5, .inl (fun _ => 0))), (q_12, .inl (cI, 5, .inl (fun _ => 0))), (q_14, .inr (6, [.int 0, .int 0, .int 0, .int 0, .null, .null]))] H := hP
  have hD : va_D A [(h0, .inr (4, [.ref q_1, .ref q_4, .ref q_7, .int 0, .null])), (q_1, .inr (7, [.ref q_2, .int 0, .int 0, .int 0, .int 0, .int 0, .int 0, .int (-1)])), (q_2, .inl (cB, 0, .inl (fun _ => 0))), (q_4, .inr (3, [.ref q_1, .ref q_5, .int 0])), (q_5, .inl (cI, 900, .inl (fun _ => 0))), (q_7, .inr (9, [.int 14, .int 5, .int 0, .int 0, .int 0, .int 0, .ref q_8, .ref q_9, .ref q_10, .ref q_11, .ref q_12, .null, .int 0, .int 1])), (q_8, .inl (cI, 14, .inl (fun _ => 0))), (q_9, .inl (cI, 14, .inl (fun _ => 0))), (q_10, .inl (cI, 14, .inl (fun _ => 0))), (q_11, .inl (cI, 5, .inl (fun _ => 0))), (q_12, .inl (cI, 5, .inl (fun _ => 0))), (q_14, .inr (6, [.int 0, .int 0, .int 0, .int 0, .null, .null]))] := hD
  refine W.widen (k := 11) (n := 983) (Nat.le_of_ble_eq_true rfl) (Nat.le_of_ble_eq_true rfl) ?_
  refine lv_dup hx hb dX4_init_54 rfl ?_
  have hPc := hP.sub (ws' := [(q_14, .inr (6, [.int 0, .int 0, .int 0, .int 0, .null, .null]))]) [11] rfl
  have hDc := hD.sub (ws' := [(q_14, .inr (6, [.int 0, .int 0, .int 0, .int 0, .null, .null]))]) [11] (by decide) rfl
  refine k_v (wc := [(q_14, .inr (6, [.int 0, .int 0, .int 0, .int 0, .null, .null]))]) (wr := [(h0, .inr (4, [.ref q_1, .ref q_4, .ref q_7, .int 0, .null])), (q_1, .inr (7, [.ref q_2, .int 0, .int 0, .int 0, .int 0, .int 0, .int 0, .int (-1)])), (q_2, .inl (cB, 0, .inl (fun _ => 0))), (q_4, .inr (3, [.ref q_1, .ref q_5, .int 0])), (q_5, .inl (cI, 900, .inl (fun _ => 0))), (q_7, .inr (9, [.int 14, .int 5, .int 0, .int 0, .int 0, .int 0, .ref q_8, .ref q_9, .ref q_10, .ref q_11, .ref q_12, .null, .int 0, .int 1])), (q_8, .inl (cI, 14, .inl (fun _ => 0))), (q_9, .inl (cI, 14, .inl (fun _ => 0))), (q_10, .inl (cI, 14, .inl (fun _ => 0))), (q_11, .inl (cI, 5, .inl (fun _ => 0))), (q_12, .inl (cI, 5, .inl (fun _ => 0)))]) hP hD hS hA [11] [0, 1, 2, 3, 4, 5, 6, 7, 8, 9, 10] rfl rfl rfl (by decide) (r_N (n := 0) (As := []) hx hb hml hown hts hkb hPc hDc (c_State_init l D cB cI cJ cZ cS cW cT cR q_14) hkb.2.2.2.2.1 kw_182 kw_7 kw_183 rfl (by decide +kernel) ⟨Nat.le_of_ble_eq_true rfl, Nat.le_of_ble_eq_true rfl⟩ rfl rfl hl.1 (Nat.le_of_ble_eq_true rfl) dX4_init_55 ⟨Nat.le_of_ble_eq_true rfl, Nat.le_of_ble_eq_true rfl⟩) (fun u H locs hw hP hD hS => ?_)
  obtain ⟨q_15, q_16, rfl⟩ := hw
  have hP : va_P D cls [(h0, .inr (4, [.ref q_1, .ref q_4, .ref q_7, .int 0, .null])), (q_1, .inr (7, [.ref q_2, .int 0, .int 0, .int 0, .int 0, .int 0, .int 0, .int (-1)])), (q_2, .inl (cB, 0, .inl (fun _ => 0))), (q_4, .inr (3, [.ref q_1, .ref q_5, .int 0])), (q_5, .inl (cI, 900, .inl (fun _ => 0))), (q_7, .inr (9, [.int 14, .int 5, .int 0, .int 0, .int 0, .int 0, .ref q_8, .ref q_9, .ref q_10, .ref q_11, .ref q_12, .null, .int 0, .int 1])), (q_8, .inl (cI, 14, .inl (fun _ => 0))), (q_9, .inl (cI, 14, .inl (fun _ => 0))), (q_10, .inl (cI, 14, .inl (fun _ => 0))), (q_11, .inl (cI, 5, .inl (fun _ => 0))), (q_12, .inl (cI, 5, .inl (fun _ => 0))), (q_14, .inr (6, [.int 0, .int 0, .int 0, .int 0, .ref q_15, .ref q_16])), (q_15, .inl (cI, 14, .inl (fun _ => 0))), (q_16, .inl (cI, 14, .inl (fun _ => 0)))] H := hP
  have hD : va_D A [(h0, .inr (4, [.ref q_1, .ref q_4, .ref q_7, .int 0, .null])), (q_1, .inr (7, [.ref q_2, .int 0, .int 0, .int 0, .int 0, .int 0, .int 0, .int (-1)])), (q_2, .inl (cB, 0, .inl (fun _ => 0))), (q_4, .inr (3, [.ref q_1, .ref q_5, .int 0])), (q_5, .inl (cI, 900, .inl (fun _ => 0))), (q_7, .inr (9, [.int 14, .int 5, .int 0, .int 0, .int 0, .int 0, .ref q_8, .ref q_9, .ref q_10, .ref q_11, .ref q_12, .null, .int 0, .int 1])), (q_8, .inl (cI, 14, .inl (fun _ => 0))), (q_9, .inl (cI, 14, .inl (fun _ => 0))), (q_10, .inl (cI, 14, .inl (fun _ => 0))), (q_11, .inl (cI, 5, .inl (fun _ => 0))), (q_12, .inl (cI, 5, .inl (fun _ => 0))), (q_14, .inr (6, [.int 0, .int 0, .int 0, .int 0, .ref q_15, .ref q_16])), (q_15, .inl (cI, 14, .inl (fun _ => 0))), (q_16, .inl (cI, 14, .inl (fun _ => 0)))] := hD
  refine W.widen (k := 13) (n := 1011) (Nat.le_of_ble_eq_true rfl) (Nat.le_of_ble_eq_true rfl) ?_
  refine va_putF (D := D) (ci := 4) (v := .ref q_14) (ty := tyX4 4) (C := RX4) (T := TX4) (N := 5) hx hb hts uX4 tyX4 tyX4_ok nmX4 hown hkb.1 hP hD hS 0 rfl rfl 4 (by decide) (hts _ kw_216) (fun _ h9 => h9) rfl hnm rfl (tyX4_ok 4 (by decide)) rfl rfl (Nat.le_of_ble_eq_true rfl) dX4_init_58 (fun H locs hP hD hS => ?_)
  have hP : va_P D cls [(h0, .inr (4, [.ref q_1, .ref q_4, .ref q_7, .int 0, .ref q_14])), (q_1, .inr (7, [.ref q_2, .int 0, .int 0, .int 0, .int 0, .int 0, .int 0, .int (-1)])), (q_2, .inl (cB, 0, .inl (fun _ => 0))), (q_4, .inr (3, [.ref q_1, .ref q_5, .int 0])), (q_5, .inl (cI, 900, .inl (fun _ => 0))), (q_7, .inr (9, [.int 14, .int 5, .int 0, .int 0, .int 0, .int 0, .ref q_8, .ref q_9, .ref q_10, .ref q_11, .ref q_12, .null, .int 0, .int 1])), (q_8, .inl (cI, 14, .inl (fun _ => 0))), (q_9, .inl (cI, 14, .inl (fun _ => 0))), (q_10, .inl (cI, 14, .inl (fun _ => 0))), (q_11, .inl (cI, 5, .inl (fun _ => 0))), (q_12, .inl (cI, 5, .inl (fun _ => 0))), (q_14, .inr (6, [.int 0, .int 0, .int 0, .int 0, .ref q_15, .ref q_16])), (q_15, .inl (cI, 14, .inl (fun _ => 0))), (q_16, .inl (cI, 14, .inl (fun _ => 0)))] H := hP
  have hD : va_D A [(h0, .inr (4, [.ref q_1, .ref q_4, .ref q_7, .int 0, .ref q_14])), (q_1, .inr (7, [.ref q_2, .int 0, .int 0, .int 0, .int 0, .int 0, .int 0, .int (-1)])), (q_2, .inl (cB, 0, .inl (fun _ => 0))), (q_4, .inr (3, [.ref q_1, .ref q_5, .int 0])), (q_5, .inl (cI, 900, .inl (fun _ => 0))), (q_7, .inr (9, [.int 14, .int 5, .int 0, .int 0, .int 0, .int 0, .ref q_8, .ref q_9, .ref q_10, .ref q_11, .ref q_12, .null, .int 0, .int 1])), (q_8, .inl (cI, 14, .inl (fun _ => 0))), (q_9, .inl (cI, 14, .inl (fun _ => 0))), (q_10, .inl (cI, 14, .inl (fun _ => 0))), (q_11, .inl (cI, 5, .inl (fun _ => 0))), (q_12, .inl (cI, 5, .inl (fun _ => 0))), (q_14, .inr (6, [.int 0, .int 0, .int 0, .int 0, .ref q_15, .ref q_16])), (q_15, .inl (cI, 14, .inl (fun _ => 0))), (q_16, .inl (cI, 14, .inl (fun _ => 0)))] := hD
  refine W.widen (k := 13) (n := 1011) (Nat.le_of_ble_eq_true rfl) (Nat.le_of_ble_eq_true rfl) ?_
  exact e_v (u := [(h0, .inr (4, [.ref q_1, .ref q_4, .ref q_7, .int 0, .ref q_14])), (q_1, .inr (7, [.ref q_2, .int 0, .int 0, .int 0, .int 0, .int 0, .int 0, .int (-1)])), (q_2, .inl (cB, 0, .inl (fun _ => 0))), (q_4, .inr (3, [.ref q_1, .ref q_5, .int 0])), (q_5, .inl (cI, 900, .inl (fun _ => 0))), (q_7, .inr (9, [.int 14, .int 5, .int 0, .int 0, .int 0, .int 0, .ref q_8, .ref q_9, .ref q_10, .ref q_11, .ref q_12, .null, .int 0, .int 1])), (q_8, .inl (cI, 14, .inl (fun _ => 0))), (q_9, .inl (cI, 14, .inl (fun _ => 0))), (q_10, .inl (cI, 14, .inl (fun _ => 0))), (q_11, .inl (cI, 5, .inl (fun _ => 0))), (q_12, .inl (cI, 5, .inl (fun _ => 0))), (q_14, .inr (6, [.int 0, .int 0, .int 0, .int 0, .ref q_15, .ref q_16])), (q_15, .inl (cI, 14, .inl (fun _ => 0))), (q_16, .inl (cI, 14, .inl (fun _ => 0)))]) hx hb hr hlocks (hP.sub (ws' := [(h0, .inr (4, [.ref q_1, .ref q_4, .ref q_7, .int 0, .ref q_14])), (q_1, .inr (7, [.ref q_2, .int 0, .int 0, .int 0, .int 0, .int 0, .int 0, .int (-1)])), (q_2, .inl (cB, 0, .inl (fun _ => 0))), (q_4, .inr (3, [.ref q_1, .ref q_5, .int 0])), (q_5, .inl (cI, 900, .inl (fun _ => 0))), (q_7, .inr (9, [.int 14, .int 5, .int 0, .int 0, .int 0, .int 0, .ref q_8, .ref q_9, .ref q_10, .ref q_11, .ref q_12, .null, .int 0, .int 1])), (q_8, .inl (cI, 14, .inl (fun _ => 0))), (q_9, .inl (cI, 14, .inl (fun _ => 0))), (q_10, .inl (cI, 14, .inl (fun _ => 0))), (q_11, .inl (cI, 5, .inl (fun _ => 0))), (q_12, .inl (cI, 5, .inl (fun _ => 0))), (q_14, .inr (6, [.int 0, .int 0, .int 0, .int 0, .ref q_15, .ref q_16])), (q_15, .inl (cI, 14, .inl (fun _ => 0))), (q_16, .inl (cI, 14, .inl (fun _ => 0)))]) [0, 1, 2, 3, 4, 5, 6, 7, 8, 9, 10, 11, 12, 13] rfl) (hD.sub (ws' := [(h0, .inr (4, [.ref q_1, .ref q_4, .ref q_7, .int 0, .ref q_14])), (q_1, .inr (7, [.ref q_2, .int 0, .int 0, .int 0, .int 0, .int 0, .int 0, .int (-1)])), (q_2, .inl (cB, 0, .inl (fun _ => 0))), (q_4, .inr (3, [.ref q_1, .ref q_5, .int 0])), (q_5, .inl (cI, 900, .inl (fun _ => 0))), (q_7, .inr (9, [.int 14, .int 5, .int 0, .int 0, .int 0, .int 0, .ref q_8, .ref q_9, .ref q_10, .ref q_11, .ref q_12, .null, .int 0, .int 1])), (q_8, .inl (cI, 14, .inl (fun _ => 0))), (q_9, .inl (cI, 14, .inl (fun _ => 0))), (q_10, .inl (cI, 14, .inl (fun _ => 0))), (q_11, .inl (cI, 5, .inl (fun _ => 0))), (q_12, .inl (cI, 5, .inl (fun _ => 0))), (q_14, .inr (6, [.int 0, .int 0, .int 0, .int 0, .ref q_15, .ref q_16])), (q_15, .inl (cI, 14, .inl (fun _ => 0))), (q_16, .inl (cI, 14, .inl (fun _ => 0)))]) [0, 1, 2, 3, 4, 5, 6, 7, 8, 9, 10, 11, 12, 13] (by decide) rfl) hS ⟨q_1, q_4, q_7, q_14, q_2, q_5, q_8, q_9, q_10, q_11, q_12, q_15, q_16, rfl⟩ dX4_init_61
set_option maxHeartbeats 4000000 in
set_option maxRecDepth 100000 in
theorem c_plain3906 (l : Launch) (D : va_G) (cB cI cJ cZ cS cW cT cR : ClassId) (a_to : Nat) : Kon l D (tyl cB cI cJ cZ cS cW cT cR) yX12_plain cX12_plain 2 none { frames := 0, cells := 0, slots := 0, locals := 0 } [.ref a_to] [(a_to, .inl (cI, 3906, .inl (fun _ => 0)))] (Qv D (fun u => u = [(a_to, .inl (cI, 3906, .inl plc))])) := by
  refine kon_of (by decide) (Nat.le_of_ble_eq_true rfl) (fun p e s m below meth c ls A hx hb hr hml hown hts hlocks hnm hkb hP hD hS hA hl => ?_)
  have hown : s.vm.findClass RX12 = some m.cls := hown
  have hl : lv_has ls 2 [(0, .ref a_to)] := hl
  have hP : va_P D cls [(a_to, .inl (cI, 3906, .inl (fun _ => 0)))] s.heap := hP
  refine lv_iconst (v := 0) hx hb dX12_plain_0 (by decide) ?_
  refine lv_istore_n (lv' := [(1, .int 0), (0, .ref a_to)]) hx hb dX12_plain_1 rfl hl (by decide) rfl (fun ls hl => ?_)
  have lp_5 : ∀ (n_1 k_2 : Nat) (x_3 : Int32) (H : Heap) (locs : List Loc) (ls : Array Slot), k_2 + n_1 = 1302 → x_3 = nI k_2 → va_P D cls [(a_to, .inl (cI, 3906, .inl (fun _ => 0)))] H → va_D A [(a_to, .inl (cI, 3906, .inl (fun _ => 0)))] → va_S A s.heap H locs → lv_has ls 2 [(1, .int x_3), (0, .ref a_to)] → W p l e { frames := 0, cells := 0, slots := 0, locals := 0 } s m [.ref a_to].toArray below meth c H locs 0 0 (MQ below (Qv D (fun u => u = [(a_to, .inl (cI, 3906, .inl plc))]) A) [.ref a_to].toArray s 0 0 A) (F0 m 2 ls []) := by
    intro n_1
    induction n_1 with
    | zero =>
      intro k_2 x_3  H locs ls hk_4 hx_3  hP hD hS hl
      have hzx_3 : x_3.toInt = (k_2 : Int) := by rw [hx_3]; exact nI_toInt (by omega)
      refine lv_iload_n hx hb dX12_plain_2 rfl (lv_at hl 0 rfl) ?_
      refine lv_sipush (v := 1302) hx hb dX12_plain_3 (by decide) ?_
      refine lv_icmp_ge (tgt := 19) hx hb dX12_plain_6 (by decide) (fun _ => ?_) (fun c_6 => by exfalso; have tc_6 := f_nge (k := 1302) (by decide) c_6; omega)
      refine lv_iconst (v := 0) hx hb dX12_plain_19 (by decide) ?_
      refine lv_istore_n (lv' := [(1, .int 0), (0, .ref a_to)]) hx hb dX12_plain_20 rfl hl (by decide) rfl (fun ls hl => ?_)
      have lp_11 : ∀ (n_7 k_8 : Nat) (x_9 : Int32) (H : Heap) (locs : List Loc) (ls : Array Slot), k_8 + n_7 = 14 → x_9 = nI k_8 → va_P D cls [(a_to, .inl (cI, 3906, .inl (plh k_8)))] H → va_D A [(a_to, .inl (cI, 3906, .inl (plh k_8)))] → va_S A s.heap H locs → lv_has ls 2 [(1, .int x_9), (0, .ref a_to)] → W p l e { frames := 0, cells := 0, slots := 0, locals := 0 } s m [.ref a_to].toArray below meth c H locs 0 0 (MQ below (Qv D (fun u => u = [(a_to, .inl (cI, 3906, .inl plc))]) A) [.ref a_to].toArray s 0 0 A) (F0 m 21 ls []) := by
        intro n_7
        induction n_7 with
        | zero =>
          intro k_8 x_9  H locs ls hk_10 hx_9  hP hD hS hl
          have hzx_9 : x_9.toInt = (k_8 : Int) := by rw [hx_9]; exact nI_toInt (by omega)
          obtain rfl : k_8 = 14 := by omega
          have hP : va_P D cls [(a_to, .inl (cI, 3906, .inl plc))] H := hP
          have hD : va_D A [(a_to, .inl (cI, 3906, .inl plc))] := hD
          refine lv_iload_n hx hb dX12_plain_21 rfl (lv_at hl 0 rfl) ?_
          refine lv_bipush (v := 14) hx hb dX12_plain_22 (by decide) ?_
          refine lv_icmp_ge (tgt := 47) hx hb dX12_plain_24 (by decide) (fun _ => ?_) (fun c_12 => by exfalso; have tc_12 := f_nge (k := 14) (by decide) c_12; omega)
          refine W.widen (k := 0) (n := 0) (Nat.le_of_ble_eq_true rfl) (Nat.le_of_ble_eq_true rfl) ?_
          exact e_v (u := [(a_to, .inl (cI, 3906, .inl plc))]) hx hb hr hlocks (hP.sub (ws' := [(a_to, .inl (cI, 3906, .inl plc))]) [0] rfl) (hD.sub (ws' := [(a_to, .inl (cI, 3906, .inl plc))]) [0] (by decide) rfl) hS rfl dX12_plain_47
        | succ n_7 ih =>
          intro k_8 x_9  H locs ls hk_10 hx_9  hP hD hS hl
          have hzx_9 : x_9.toInt = (k_8 : Int) := by rw [hx_9]; exact nI_toInt (by omega)
          refine lv_iload_n hx hb dX12_plain_21 rfl (lv_at hl 0 rfl) ?_
          refine lv_bipush (v := 14) hx hb dX12_plain_22 (by decide) ?_
          refine lv_icmp_ge (tgt := 47) hx hb dX12_plain_24 (by decide) (fun c_13 => by exfalso; have tc_13 := f_ge (k := 14) (by decide) c_13; omega) (fun _ => ?_)
          refine lv_aload_n hx hb dX12_plain_27 rfl (lv_at hl 1 rfl) ?_
          refine lv_bipush (v := 59) hx hb dX12_plain_28 (by decide) ?_
          refine lv_iload_n hx hb dX12_plain_30 rfl (lv_at hl 0 rfl) ?_
          refine lv_iadd hx hb dX12_plain_31 ?_
          refine lv_topc (y := nI (59 + k_8)) (by rw [hx_9]; exact nI_add 59 k_8) ?_
          refine lv_iconst (v := (-1)) hx hb dX12_plain_32 (by decide) ?_
          refine s_i 0 1 hx hb hkb.1 hP hD hS rfl rfl (in_n (by omega) (by decide)) (59 + k_8) (nI_clamp (by omega)) dX12_plain_33 (fun H locs hP hD hS => ?_)
          have hP : va_P D cls [(a_to, .inl (cI, 3906, .inl (upd (plh k_8) (59 + k_8) (-1))))] H := hP
          have hD : va_D A [(a_to, .inl (cI, 3906, .inl (upd (plh k_8) (59 + k_8) (-1))))] := hD
          refine lv_aload_n hx hb dX12_plain_34 rfl (lv_at hl 1 rfl) ?_
          refine lv_bipush (v := 73) hx hb dX12_plain_35 (by decide) ?_
          refine lv_iload_n hx hb dX12_plain_37 rfl (lv_at hl 0 rfl) ?_
          refine lv_iadd hx hb dX12_plain_38 ?_
          refine lv_topc (y := nI (73 + k_8)) (by rw [hx_9]; exact nI_add 73 k_8) ?_
          refine lv_iconst (v := (-1)) hx hb dX12_plain_39 (by decide) ?_
          refine s_i 0 1 hx hb hkb.1 hP hD hS rfl rfl (in_n (by omega) (by decide)) (73 + k_8) (nI_clamp (by omega)) dX12_plain_40 (fun H locs hP hD hS => ?_)
          have hP : va_P D cls [(a_to, .inl (cI, 3906, .inl (upd (upd (plh k_8) (59 + k_8) (-1)) (73 + k_8) (-1))))] H := hP
          have hD : va_D A [(a_to, .inl (cI, 3906, .inl (upd (upd (plh k_8) (59 + k_8) (-1)) (73 + k_8) (-1))))] := hD
          obtain ⟨v_14, ev_14⟩ : ∃ y : Int32, y = x_9 + 1 := ⟨_, rfl⟩
          refine lv_iinc (v := v_14) (lv' := [(1, .int v_14), (0, .ref a_to)]) hx hb dX12_plain_41 hl (k := 0) rfl (by rw [ev_14]; rfl) (by decide) rfl (fun ls hl => ?_)
          refine lv_goto (tgt := 21) hx hb dX12_plain_44 (by decide) ?_
          rw [plh_s] at hP hD
          have hP : va_P D cls [(a_to, .inl (cI, 3906, .inl (plh (k_8 + 1))))] H := hP
          have hD : va_D A [(a_to, .inl (cI, 3906, .inl (plh (k_8 + 1))))] := hD
          exact ih (k_8 + 1) v_14  _ _ _ (by omega) (by rw [ev_14, hx_9]; exact nI_1 k_8)  (hP.sub (ws' := [(a_to, .inl (cI, 3906, .inl (plh (k_8 + 1))))]) [0] rfl) (hD.sub (ws' := [(a_to, .inl (cI, 3906, .inl (plh (k_8 + 1))))]) [0] (by decide) rfl) hS (lv_sub hl [0, 1] rfl)
      exact lp_11 14 0 0  _ _ _ (by rfl) nI_0.symm  (by rw [← plh_0]; exact hP) (by rw [← plh_0]; exact hD) hS (lv_sub hl [0, 1] rfl)
    | succ n_1 ih =>
      intro k_2 x_3  H locs ls hk_4 hx_3  hP hD hS hl
      have hzx_3 : x_3.toInt = (k_2 : Int) := by rw [hx_3]; exact nI_toInt (by omega)
      refine lv_iload_n hx hb dX12_plain_2 rfl (lv_at hl 0 rfl) ?_
      refine lv_sipush (v := 1302) hx hb dX12_plain_3 (by decide) ?_
      refine lv_icmp_ge (tgt := 19) hx hb dX12_plain_6 (by decide) (fun c_15 => by exfalso; have tc_15 := f_ge (k := 1302) (by decide) c_15; omega) (fun _ => ?_)
      refine lv_aload_n hx hb dX12_plain_9 rfl (lv_at hl 1 rfl) ?_
      refine lv_iload_n hx hb dX12_plain_10 rfl (lv_at hl 0 rfl) ?_
      refine lv_iconst (v := 0) hx hb dX12_plain_11 (by decide) ?_
      refine s_i 0 1 hx hb hkb.1 hP hD hS rfl rfl (in_k hx_3 (by omega) (by decide)) k_2 (by rw [hx_3]; exact nI_clamp (by omega)) dX12_plain_12 (fun H locs hP hD hS => ?_)
      have hP : va_P D cls [(a_to, .inl (cI, 3906, .inl (upd (fun _ => 0) k_2 0)))] H := hP
      have hD : va_D A [(a_to, .inl (cI, 3906, .inl (upd (fun _ => 0) k_2 0)))] := hD
      obtain ⟨v_16, ev_16⟩ : ∃ y : Int32, y = x_3 + 1 := ⟨_, rfl⟩
      refine lv_iinc (v := v_16) (lv' := [(1, .int v_16), (0, .ref a_to)]) hx hb dX12_plain_13 hl (k := 0) rfl (by rw [ev_16]; rfl) (by decide) rfl (fun ls hl => ?_)
      refine lv_goto (tgt := 2) hx hb dX12_plain_16 (by decide) ?_
      rw [upd_z] at hP hD
      have hP : va_P D cls [(a_to, .inl (cI, 3906, .inl (fun _ => 0)))] H := hP
      have hD : va_D A [(a_to, .inl (cI, 3906, .inl (fun _ => 0)))] := hD
      exact ih (k_2 + 1) v_16  _ _ _ (by omega) (by rw [ev_16, hx_3]; exact nI_1 k_2)  (hP.sub (ws' := [(a_to, .inl (cI, 3906, .inl (fun _ => 0)))]) [0] rfl) (hD.sub (ws' := [(a_to, .inl (cI, 3906, .inl (fun _ => 0)))]) [0] (by decide) rfl) hS (lv_sub hl [0, 1] rfl)
  exact lp_5 1302 0 0  _ _ _ (by rfl) nI_0.symm  (hP) (hD) hS (lv_sub hl [0, 1] rfl)
