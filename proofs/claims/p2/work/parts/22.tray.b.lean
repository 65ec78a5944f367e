set_option maxHeartbeats 4000000 in
set_option maxRecDepth 100000 in
theorem s_Tray_isMissing (l : Launch) (D : va_G) (cs : CS) (kf : KF) (T : TF) (O : List Nat) (X : va_W) (a0 : Nat) (t_a0 : T a0 = some (18, 0, 0)) (hO : okO T O [18]) : TK l D cs kf yX8_isMissing cX8_isMissing 1 (some (.boolean)) { frames := 0, cells := 0, slots := 0, locals := 0 } [.ref a0] T O X (Ti D cs (fun r u => u = (T, O, X) ∧ 0 ≤ r.toInt ∧ r.toInt ≤ 1)) := by
  refine tk_of (by decide) (Nat.le_of_ble_eq_true rfl) (fun p e s m below meth c ls A H locs hx hb hr hml hown hts hlocks hnm hkb hH hS hA hOX hks hE hl => ?_)
  have hown : s.vm.findClass RX8 = some m.cls := hown
  have hl : lv_has ls 1 [(0, .ref a0)] := hl
  refine lv_aload_n hx hb dX8_isMissing_0 rfl (lv_at hl 0 rfl) ?_
  refine t_get (ci := 8) (lst := ft8 0 0) (C := RX8) (F := TX8) (N := 3) hx hb hts uX8 hown hkb hH t_a0 (hO.no t_a0 (by decide)) (fun _ h9 => h9) rfl rfl 2 (by decide) rfl kw_351 (fun _ h9 => h9) dX8_isMissing_1 (fun v9 h9 => ?_)
  obtain ⟨v1, rfl, l_v1, u_v1⟩ := h9
  refine lv_iconst (v := (-1)) hx hb dX8_isMissing_4 (by decide) ?_
  have J13 : ∀ (k13_0 : Int32) (H : Heap) (locs : List Loc) (ls : Array Slot), (0 ≤ k13_0.toInt) → (k13_0.toInt ≤ 1) → HT D cs A T O X H → va_S A s.heap H locs → lv_has ls 1 [] → W p l e { frames := 0, cells := 0, slots := 0, locals := 0 } s m [.ref a0].toArray below meth c H locs 0 0 (MQ below (Ti D cs (fun r u => u = (T, O, X) ∧ 0 ≤ r.toInt ∧ r.toInt ≤ 1) A) [.ref a0].toArray s 0 0 A) (F0 m 13 ls [.int k13_0]) := by
    intro k13_0 H locs ls l_k13_0 u_k13_0 hH hS hl
    exact te_z hx hb hr hlocks (nar01 (by omega) (by omega)) hH hS (⟨rfl, by omega, by omega⟩) dX8_isMissing_13
  refine lv_icmp_ne (tgt := 12) hx hb dX8_isMissing_5 (by decide) (fun c5 => ?_) (fun c5 => ?_)
  · skip
    have tc5 := f_ne (k := -1) (by decide) c5
    refine lv_iconst (v := 0) hx hb dX8_isMissing_12 (by decide) ?_
    exact J13 0 _ _ _ (by decide) (by decide) hH hS (lv_sub hl [] rfl)
  · skip
    have tc5 := f_eq (k := -1) (by decide) c5
    refine lv_iconst (v := 1) hx hb dX8_isMissing_8 (by decide) ?_
    refine lv_goto (tgt := 13) hx hb dX8_isMissing_9 (by decide) ?_
    exact J13 1 _ _ _ (by decide) (by decide) hH hS (lv_sub hl [] rfl)
set_option maxHeartbeats 4000000 in
set_option maxRecDepth 100000 in
theorem s_fill (l : Launch) (D : va_G) (cs : CS) (kf : KF) (T : TF) (O : List Nat) (X : va_W) (a0 : Nat) (x1 : Int64) (t_a0 : T a0 = some (2, 40, 0)) (hO : okO T O [2]) : TK l D cs kf yJ7_fill_d0a16 cJ7_fill_d0a16 5 none { frames := 0, cells := 0, slots := 0, locals := 0 } [.ref a0, .long x1] T O X (Tv D cs (fun u => u = (T, O, X))) := by
  refine tk_of (by decide) (Nat.le_of_ble_eq_true rfl) (fun p e s m below meth c ls A H locs hx hb hr hml hown hts hlocks hnm hkb hH hS hA hOX hks hE hl => ?_)
  have hown : s.vm.findClass RJ7 = some m.cls := hown
  have hl : lv_has ls 5 [(0, .ref a0), (1, .long x1)] := hl
  refine lv_iconst (v := 0) hx hb dJ7_fill_d0a16_0 (by decide) ?_
  refine lv_istore_n (lv' := [(3, .int 0), (0, .ref a0), (1, .long x1)]) hx hb dJ7_fill_d0a16_1 rfl hl (by decide) rfl (fun ls hl => ?_)
  refine lv_aload_n hx hb dJ7_fill_d0a16_2 rfl (lv_at hl 1 rfl) ?_
  refine t_len2 hx hb hkb hH t_a0 (hO.no t_a0 (by decide)) dJ7_fill_d0a16_3 ?_
  refine lv_topc (y := 40) (by rfl) ?_
  have J6 : ∀ (n : Nat) (p6_3 : Int32) (H : Heap) (locs : List Loc) (ls : Array Slot), (40 - p6_3.toInt).toNat = n → (0 ≤ p6_3.toInt) → (p6_3.toInt ≤ 40) → HT D cs A T O X H → va_S A s.heap H locs → lv_has ls 5 [(4, .int 40), (3, .int p6_3), (0, .ref a0), (1, .long x1)] → W p l e { frames := 0, cells := 0, slots := 0, locals := 0 } s m [.ref a0, .long x1].toArray below meth c H locs 0 0 (MQ below (Tv D cs (fun u => u = (T, O, X)) A) [.ref a0, .long x1].toArray s 0 0 A) (F0 m 6 ls []) := by
    intro n
    induction n using Nat.strongRecOn with
    | _ n ih6 =>
      intro p6_3 H locs ls hm6 l_p6_3 u_p6_3 hH hS hl
      refine lv_iload_n hx hb dJ7_fill_d0a16_6 rfl (lv_at hl 1 rfl) ?_
      refine lv_iload hx hb dJ7_fill_d0a16_7 (lv_at hl 0 rfl) ?_
      refine lv_icmp_ge (tgt := 22) hx hb dJ7_fill_d0a16_9 (by decide) (fun c9 => ?_) (fun c9 => ?_)
      · skip
        have tc9 := f_ge (k := 40) (by decide) c9
        exact te_v hx hb hr hlocks hH hS rfl dJ7_fill_d0a16_22
      · skip
        have tc9 := f_nge (k := 40) (by decide) c9
        refine lv_aload_n hx hb dJ7_fill_d0a16_12 rfl (lv_at hl 2 rfl) ?_
        refine lv_iload_n hx hb dJ7_fill_d0a16_13 rfl (lv_at hl 1 rfl) ?_
        refine lv_lload_n hx hb dJ7_fill_d0a16_14 rfl (lv_at hl 3 rfl) ?_
        refine t_lst hx hb hkb hH hS t_a0 (hO.no t_a0 (by decide)) (by omega) (by omega) dJ7_fill_d0a16_15 (fun H locs hH hS => ?_)
        obtain ⟨v16, ev16⟩ : ∃ y : Int32, y = p6_3 + 1 := ⟨_, rfl⟩
        have tv16 : v16.toInt = p6_3.toInt + (1) := by rw [ev16]; exact add_i rfl (by decide) (by omega) (by omega)
        refine lv_iinc (v := v16) (lv' := [(3, .int v16), (4, .int 40), (0, .ref a0), (1, .long x1)]) hx hb dJ7_fill_d0a16_16 hl (k := 1) rfl (by rw [ev16]; rfl) (by decide) rfl (fun ls hl => ?_)
        refine lv_goto (tgt := 6) hx hb dJ7_fill_d0a16_19 (by decide) ?_
        exact ih6 _ (by omega) v16 _ _ _ rfl (by omega) (by omega) hH hS (lv_sub hl [1, 0, 2, 3] rfl)
  refine lv_istore (lv' := [(4, .int 40), (3, .int 0), (0, .ref a0), (1, .long x1)]) hx hb dJ7_fill_d0a16_4 hl (by decide) rfl (fun ls hl => ?_)
  exact J6 _ 0 _ _ _ rfl (by decide) (by decide) hH hS (lv_sub hl [0, 1, 2, 3] rfl)
set_option maxHeartbeats 4000000 in
set_option maxRecDepth 100000 in
theorem s_Tray_lay (l : Launch) (D : va_G) (cs : CS) (kf : KF) (T : TF) (O : List Nat) (X : va_W) (a0 : Nat) (x1 : Int32) (x2 : Int32) (t_a0 : T a0 = some (18, 0, 0)) (l_x2 : 0 ≤ x2.toInt) (u_x2 : x2.toInt ≤ 40) (hO : okO T O [2, 18]) : TK l D cs kf yX8_lay cX8_lay 3 none { frames := 1, cells := 0, slots := 0, locals := 24 } [.ref a0, .int x1, .int x2] T O X (Tv D cs (fun u => u = (T, O, X))) := by
  refine tk_of (by decide) (Nat.le_of_ble_eq_true rfl) (fun p e s m below meth c ls A H locs hx hb hr hml hown hts hlocks hnm hkb hH hS hA hOX hks hE hl => ?_)
  have hown : s.vm.findClass RX8 = some m.cls := hown
  have hl : lv_has ls 3 [(0, .ref a0), (1, .int x1), (2, .int x2)] := hl
  refine lv_aload_n hx hb dX8_lay_0 rfl (lv_at hl 0 rfl) ?_
  refine lv_iload_n hx hb dX8_lay_1 rfl (lv_at hl 1 rfl) ?_
  refine t_put (ci := 8) (lst := ft8 0 0) (v := .int x1) (ty := tyX8 1) (C := RX8) (F := TX8) (N := 3) hx hb hts uX8 tyX8 tyX8_ok nmX8 hown hkb hH hS t_a0 (hO.no t_a0 (by decide)) (fun _ => Iff.rfl) rfl rfl 1 (by decide) rfl (⟨_, rfl⟩) kw_350 (fun _ h9 => h9) rfl (tyX8_ok 1 (by decide)) rfl rfl dX8_lay_2 (fun H locs hH hS => ?_)
  refine lv_aload_n hx hb dX8_lay_5 rfl (lv_at hl 0 rfl) ?_
  refine lv_iload_n hx hb dX8_lay_6 rfl (lv_at hl 2 rfl) ?_
  refine t_put (ci := 8) (lst := ft8 0 0) (v := .int x2) (ty := tyX8 2) (C := RX8) (F := TX8) (N := 3) hx hb hts uX8 tyX8 tyX8_ok nmX8 hown hkb hH hS t_a0 (hO.no t_a0 (by decide)) (fun _ => Iff.rfl) rfl rfl 2 (by decide) rfl (⟨_, rfl, by omega, by omega⟩) kw_351 (fun _ h9 => h9) rfl (tyX8_ok 2 (by decide)) rfl rfl dX8_lay_7 (fun H locs hH hS => ?_)
  refine lv_aload_n hx hb dX8_lay_10 rfl (lv_at hl 0 rfl) ?_
  refine t_get (ci := 8) (lst := ft8 0 0) (C := RX8) (F := TX8) (N := 3) hx hb hts uX8 hown hkb hH t_a0 (hO.no t_a0 (by decide)) (fun _ h9 => h9) rfl rfl 0 (by decide) rfl kw_349 (fun _ h9 => h9) dX8_lay_11 (fun v9 h9 => ?_)
  obtain ⟨v11, rfl, t_v11⟩ := h9
  refine lv_lconst (v := 0) hx hb dX8_lay_14 (by decide) ?_
  refine tk_v hH hS hA (tr_S (n := 2) (As := [.ref v11, .long 0]) hx hb hml hown hts hkb hH hOX hks hE hS hA (s_fill l D cs kf T O X v11 0 t_v11 (hO.sub (by decide))) kw_1181 kw_1182 kw_22 kw_1183 (by decide +kernel) ⟨Nat.le_of_ble_eq_true rfl, Nat.le_of_ble_eq_true rfl⟩ rfl rfl hl.1 (Nat.le_of_ble_eq_true rfl) dX8_lay_15 ⟨Nat.le_of_ble_eq_true rfl, Nat.le_of_ble_eq_true rfl⟩) (fun u H locs hz9 hH hS => ?_)
  have hz9 : u = (T, O, X) := hz9
  subst hz9
  have hH : HT D cs A T O X H := hH
  refine W.widen (k := 0) (n := 0) (Nat.le_of_ble_eq_true rfl) (Nat.le_of_ble_eq_true rfl) ?_
  exact te_v hx hb hr hlocks hH hS rfl dX8_lay_18
set_option maxHeartbeats 4000000 in
set_option maxRecDepth 100000 in
theorem s_Tray_at (l : Launch) (D : va_G) (cs : CS) (kf : KF) (T : TF) (O : List Nat) (X : va_W) (a0 : Nat) (x1 : Int32) (t_a0 : T a0 = some (18, 0, 0)) (hO : okO T O [2, 18]) : TK l D cs kf yX8_at cX8_at 2 (some (.long)) { frames := 0, cells := 0, slots := 0, locals := 0 } [.ref a0, .int x1] T O X (Tl D cs (fun _ u => u = (T, O, X))) := by
  refine tk_of (by decide) (Nat.le_of_ble_eq_true rfl) (fun p e s m below meth c ls A H locs hx hb hr hml hown hts hlocks hnm hkb hH hS hA hOX hks hE hl => ?_)
  have hown : s.vm.findClass RX8 = some m.cls := hown
  have hl : lv_has ls 2 [(0, .ref a0), (1, .int x1)] := hl
  refine lv_iload_n hx hb dX8_at_0 rfl (lv_at hl 1 rfl) ?_
  have J22 : ∀ (k22_0 : Int64) (H : Heap) (locs : List Loc) (ls : Array Slot), HT D cs A T O X H → va_S A s.heap H locs → lv_has ls 2 [] → W p l e { frames := 0, cells := 0, slots := 0, locals := 0 } s m [.ref a0, .int x1].toArray below meth c H locs 0 0 (MQ below (Tl D cs (fun _ u => u = (T, O, X)) A) [.ref a0, .int x1].toArray s 0 0 A) (F0 m 22 ls [.long k22_0]) := by
    intro k22_0 H locs ls  hH hS hl
    exact te_l hx hb hr hlocks hH hS rfl dX8_at_22
  have J19 : ∀  (H : Heap) (locs : List Loc) (ls : Array Slot), HT D cs A T O X H → va_S A s.heap H locs → lv_has ls 2 [] → W p l e { frames := 0, cells := 0, slots := 0, locals := 0 } s m [.ref a0, .int x1].toArray below meth c H locs 0 0 (MQ below (Tl D cs (fun _ u => u = (T, O, X)) A) [.ref a0, .int x1].toArray s 0 0 A) (F0 m 19 ls []) := by
    intro  H locs ls  hH hS hl
    refine lv_ldc2 hx hb hown (hts _ kw_886) dX8_at_19 ?_
    exact J22 (-1) _ _ _  hH hS (lv_sub hl [] rfl)
  refine lv_if_lt (tgt := 19) hx hb dX8_at_1 (by decide) (fun c1 => ?_) (fun c1 => ?_)
  · skip
    have tc1 := f_lt (k := 0) (by decide) c1
    exact J19  _ _ _  hH hS (lv_sub hl [] rfl)
  · skip
    have tc1 := f_nlt (k := 0) (by decide) c1
    refine lv_iload_n hx hb dX8_at_4 rfl (lv_at hl 1 rfl) ?_
    refine lv_bipush (v := 40) hx hb dX8_at_5 (by decide) ?_
    refine lv_icmp_ge (tgt := 19) hx hb dX8_at_7 (by decide) (fun c7 => ?_) (fun c7 => ?_)
    · skip
      have tc7 := f_ge (k := 40) (by decide) c7
      exact J19  _ _ _  hH hS (lv_sub hl [] rfl)
    · skip
      have tc7 := f_nge (k := 40) (by decide) c7
      refine lv_aload_n hx hb dX8_at_10 rfl (lv_at hl 0 rfl) ?_
      refine t_get (ci := 8) (lst := ft8 0 0) (C := RX8) (F := TX8) (N := 3) hx hb hts uX8 hown hkb hH t_a0 (hO.no t_a0 (by decide)) (fun _ h9 => h9) rfl rfl 0 (by decide) rfl kw_349 (fun _ h9 => h9) dX8_at_11 (fun v9 h9 => ?_)
      obtain ⟨v11, rfl, t_v11⟩ := h9
      refine lv_iload_n hx hb dX8_at_14 rfl (lv_at hl 1 rfl) ?_
      refine t_lld hx hb hkb hH t_v11 (hO.no t_v11 (by decide)) (by omega) (by omega) dX8_at_15 (fun v15 => ?_)
      refine lv_goto (tgt := 22) hx hb dX8_at_16 (by decide) ?_
      exact J22 v15 _ _ _  hH hS (lv_sub hl [] rfl)
set_option maxHeartbeats 4000000 in
set_option maxRecDepth 100000 in
theorem s_Tray_put (l : Launch) (D : va_G) (cs : CS) (kf : KF) (T : TF) (O : List Nat) (X : va_W) (a0 : Nat) (x1 : Int32) (x2 : Int64) (t_a0 : T a0 = some (18, 0, 0)) (hO : okO T O [2, 18]) : TK l D cs kf yX8_put cX8_put 4 (some (.long)) { frames := 0, cells := 0, slots := 0, locals := 0 } [.ref a0, .int x1, .long x2] T O X (Tl D cs (fun _ u => u = (T, O, X))) := by
  refine tk_of (by decide) (Nat.le_of_ble_eq_true rfl) (fun p e s m below meth c ls A H locs hx hb hr hml hown hts hlocks hnm hkb hH hS hA hOX hks hE hl => ?_)
  have hown : s.vm.findClass RX8 = some m.cls := hown
  have hl : lv_has ls 4 [(0, .ref a0), (1, .int x1), (2, .long x2)] := hl
  refine lv_iload_n hx hb dX8_put_0 rfl (lv_at hl 1 rfl) ?_
  have J10 : ∀  (H : Heap) (locs : List Loc) (ls : Array Slot), HT D cs A T O X H → va_S A s.heap H locs → lv_has ls 4 [] → W p l e { frames := 0, cells := 0, slots := 0, locals := 0 } s m [.ref a0, .int x1, .long x2].toArray below meth c H locs 0 0 (MQ below (Tl D cs (fun _ u => u = (T, O, X)) A) [.ref a0, .int x1, .long x2].toArray s 0 0 A) (F0 m 10 ls []) := by
    intro  H locs ls  hH hS hl
    refine lv_ldc2 hx hb hown (hts _ kw_886) dX8_put_10 ?_
    exact te_l hx hb hr hlocks hH hS rfl dX8_put_13
  refine lv_if_lt (tgt := 10) hx hb dX8_put_1 (by decide) (fun c1 => ?_) (fun c1 => ?_)
  · skip
    have tc1 := f_lt (k := 0) (by decide) c1
    exact J10  _ _ _  hH hS (lv_sub hl [] rfl)
  · skip
    have tc1 := f_nlt (k := 0) (by decide) c1
    refine lv_iload_n hx hb dX8_put_4 rfl (lv_at hl 1 rfl) ?_
    refine lv_bipush (v := 40) hx hb dX8_put_5 (by decide) ?_
    refine lv_icmp_lt (tgt := 14) hx hb dX8_put_7 (by decide) (fun c7 => ?_) (fun c7 => ?_)
    · skip
      have tc7 := f_lt (k := 40) (by decide) c7
      refine lv_aload_n hx hb dX8_put_14 rfl (lv_at hl 0 rfl) ?_
      refine t_get (ci := 8) (lst := ft8 0 0) (C := RX8) (F := TX8) (N := 3) hx hb hts uX8 hown hkb hH t_a0 (hO.no t_a0 (by decide)) (fun _ h9 => h9) rfl rfl 1 (by decide) rfl kw_350 (fun _ h9 => h9) dX8_put_15 (fun v9 h9 => ?_)
      obtain ⟨v15, rfl⟩ := h9
      have J89 : ∀  (H : Heap) (locs : List Loc) (ls : Array Slot), HT D cs A T O X H → va_S A s.heap H locs → lv_has ls 4 [(0, .ref a0), (1, .int x1)] → W p l e { frames := 0, cells := 0, slots := 0, locals := 0 } s m [.ref a0, .int x1, .long x2].toArray below meth c H locs 0 0 (MQ below (Tl D cs (fun _ u => u = (T, O, X)) A) [.ref a0, .int x1, .long x2].toArray s 0 0 A) (F0 m 89 ls []) := by
        intro  H locs ls  hH hS hl
        refine lv_aload_n hx hb dX8_put_89 rfl (lv_at hl 0 rfl) ?_
        refine t_get (ci := 8) (lst := ft8 0 0) (C := RX8) (F := TX8) (N := 3) hx hb hts uX8 hown hkb hH t_a0 (hO.no t_a0 (by decide)) (fun _ h9 => h9) rfl rfl 0 (by decide) rfl kw_349 (fun _ h9 => h9) dX8_put_90 (fun v9 h9 => ?_)
        obtain ⟨v90, rfl, t_v90⟩ := h9
        refine lv_iload_n hx hb dX8_put_93 rfl (lv_at hl 1 rfl) ?_
        refine t_lld hx hb hkb hH t_v90 (hO.no t_v90 (by decide)) (by omega) (by omega) dX8_put_94 (fun v94 => ?_)
        exact te_l hx hb hr hlocks hH hS rfl dX8_put_95
      by_cases c18_0 : v15 = 0
      · skip
        refine lv_topc c18_0 ?_
        have tc18_0 := f_eq (k := 0) (by decide) c18_0
        refine lv_tableIn (off := 26) (tgt := 44) hx hb dX8_put_18 (by decide) (by decide) (by decide) (by decide) ?_
        refine lv_aload_n hx hb dX8_put_44 rfl (lv_at hl 0 rfl) ?_
        refine t_get (ci := 8) (lst := ft8 0 0) (C := RX8) (F := TX8) (N := 3) hx hb hts uX8 hown hkb hH t_a0 (hO.no t_a0 (by decide)) (fun _ h9 => h9) rfl rfl 0 (by decide) rfl kw_349 (fun _ h9 => h9) dX8_put_45 (fun v9 h9 => ?_)
        obtain ⟨v45, rfl, t_v45⟩ := h9
        refine lv_iload_n hx hb dX8_put_48 rfl (lv_at hl 1 rfl) ?_
        refine lv_lload_n hx hb dX8_put_49 rfl (lv_at hl 2 rfl) ?_
        refine lv_l2i hx hb dX8_put_50 rfl ?_
        refine lv_topi (fun v50 ev50 => ?_)
        refine lv_i2b hx hb dX8_put_51 rfl ?_
        refine lv_topi (fun v51 ev51 => ?_)
        refine lv_i2l hx hb dX8_put_52 rfl ?_
        refine t_lst hx hb hkb hH hS t_v45 (hO.no t_v45 (by decide)) (by omega) (by omega) dX8_put_53 (fun H locs hH hS => ?_)
        refine lv_goto (tgt := 89) hx hb dX8_put_54 (by decide) ?_
        exact J89  _ _ _  hH hS (lv_sub hl [0, 1] rfl)
      have tc18_0 := f_ne (k := 0) (by decide) c18_0
      by_cases c18_1 : v15 = 1
      · skip
        refine lv_topc c18_1 ?_
        have tc18_1 := f_eq (k := 1) (by decide) c18_1
        refine lv_tableIn (off := 39) (tgt := 57) hx hb dX8_put_18 (by decide) (by decide) (by decide) (by decide) ?_
        refine lv_aload_n hx hb dX8_put_57 rfl (lv_at hl 0 rfl) ?_
        refine t_get (ci := 8) (lst := ft8 0 0) (C := RX8) (F := TX8) (N := 3) hx hb hts uX8 hown hkb hH t_a0 (hO.no t_a0 (by decide)) (fun _ h9 => h9) rfl rfl 0 (by decide) rfl kw_349 (fun _ h9 => h9) dX8_put_58 (fun v9 h9 => ?_)
        obtain ⟨v58, rfl, t_v58⟩ := h9
        refine lv_iload_n hx hb dX8_put_61 rfl (lv_at hl 1 rfl) ?_
        refine lv_lload_n hx hb dX8_put_62 rfl (lv_at hl 2 rfl) ?_
        refine lv_l2i hx hb dX8_put_63 rfl ?_
        refine lv_topi (fun v63 ev63 => ?_)
        refine lv_i2s hx hb dX8_put_64 rfl ?_
        refine lv_topi (fun v64 ev64 => ?_)
        refine lv_i2l hx hb dX8_put_65 rfl ?_
        refine t_lst hx hb hkb hH hS t_v58 (hO.no t_v58 (by decide)) (by omega) (by omega) dX8_put_66 (fun H locs hH hS => ?_)
        refine lv_goto (tgt := 89) hx hb dX8_put_67 (by decide) ?_
        exact J89  _ _ _  hH hS (lv_sub hl [0, 1] rfl)
      have tc18_1 := f_ne (k := 1) (by decide) c18_1
      by_cases c18_2 : v15 = 2
      · skip
        refine lv_topc c18_2 ?_
        have tc18_2 := f_eq (k := 2) (by decide) c18_2
        refine lv_tableIn (off := 52) (tgt := 70) hx hb dX8_put_18 (by decide) (by decide) (by decide) (by decide) ?_
        refine lv_aload_n hx hb dX8_put_70 rfl (lv_at hl 0 rfl) ?_
        refine t_get (ci := 8) (lst := ft8 0 0) (C := RX8) (F := TX8) (N := 3) hx hb hts uX8 hown hkb hH t_a0 (hO.no t_a0 (by decide)) (fun _ h9 => h9) rfl rfl 0 (by decide) rfl kw_349 (fun _ h9 => h9) dX8_put_71 (fun v9 h9 => ?_)
        obtain ⟨v71, rfl, t_v71⟩ := h9
        refine lv_iload_n hx hb dX8_put_74 rfl (lv_at hl 1 rfl) ?_
        refine lv_lload_n hx hb dX8_put_75 rfl (lv_at hl 2 rfl) ?_
        refine lv_l2i hx hb dX8_put_76 rfl ?_
        refine lv_topi (fun v76 ev76 => ?_)
        refine lv_i2l hx hb dX8_put_77 rfl ?_
        refine t_lst hx hb hkb hH hS t_v71 (hO.no t_v71 (by decide)) (by omega) (by omega) dX8_put_78 (fun H locs hH hS => ?_)
        refine lv_goto (tgt := 89) hx hb dX8_put_79 (by decide) ?_
        exact J89  _ _ _  hH hS (lv_sub hl [0, 1] rfl)
      have tc18_2 := f_ne (k := 2) (by decide) c18_2
      refine lv_tableOut (tgt := 82) hx hb dX8_put_18 (by omega) (by decide) ?_
      refine lv_aload_n hx hb dX8_put_82 rfl (lv_at hl 0 rfl) ?_
      refine t_get (ci := 8) (lst := ft8 0 0) (C := RX8) (F := TX8) (N := 3) hx hb hts uX8 hown hkb hH t_a0 (hO.no t_a0 (by decide)) (fun _ h9 => h9) rfl rfl 0 (by decide) rfl kw_349 (fun _ h9 => h9) dX8_put_83 (fun v9 h9 => ?_)
      obtain ⟨v83, rfl, t_v83⟩ := h9
      refine lv_iload_n hx hb dX8_put_86 rfl (lv_at hl 1 rfl) ?_
      refine lv_lload_n hx hb dX8_put_87 rfl (lv_at hl 2 rfl) ?_
      refine t_lst hx hb hkb hH hS t_v83 (hO.no t_v83 (by decide)) (by omega) (by omega) dX8_put_88 (fun H locs hH hS => ?_)
      exact J89  _ _ _  hH hS (lv_sub hl [0, 1] rfl)
    · skip
      have tc7 := f_nlt (k := 40) (by decide) c7
      exact J10  _ _ _  hH hS (lv_sub hl [] rfl)
