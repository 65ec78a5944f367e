set_option maxHeartbeats 4000000 in
set_option maxRecDepth 100000 in
theorem s_Cut_visit (l : Launch) (D : va_G) (cs : CS) (kf : KF) (T : TF) (O : List Nat) (X : va_W) (a0 : Nat) (x1 : Int32) (x2 : Int32) (t_a0 : T a0 = some (11, 0, 0)) (l_x1 : 0 ≤ x1.toInt) (u_x1 : x1.toInt ≤ 27) (l_x2 : -1 ≤ x2.toInt) (u_x2 : x2.toInt ≤ 27) (hO : okO T O [1, 11]) : TK l D cs kf yX1_visit cX1_visit 3 none { frames := 0, cells := 0, slots := 0, locals := 0 } [.ref a0, .int x1, .int x2] T O X (Tv D cs (fun u => u = (T, O, X))) := by
  refine tk_of (by decide) (Nat.le_of_ble_eq_true rfl) (fun p e s m below meth c ls A H locs hx hb hr hml hown hts hlocks hnm hkb hH hS hA hOX hks hE hl => ?_)
  have hown : s.vm.findClass RX1 = some m.cls := hown
  have hl : lv_has ls 3 [(0, .ref a0), (1, .int x1), (2, .int x2)] := hl
  have hO0 := hO
  obtain ⟨fs9, ho9, hH⟩ := hH.take t_a0 (hO0.no t_a0 (by decide))
  have hp0 : okL T (ft1 0 0) fs9 := ho9
  clear ho9
  obtain ⟨v9, fs9, rfl, h9, hp1⟩ := okL_i hp0
  obtain ⟨q0_0, rfl, t_q0_0⟩ := h9
  obtain ⟨v9, fs9, rfl, h9, hp2⟩ := okL_i hp1
  obtain ⟨q0_1, rfl, t_q0_1⟩ := h9
  obtain ⟨v9, fs9, rfl, h9, hp3⟩ := okL_i hp2
  obtain ⟨q0_2, rfl⟩ := h9
  obtain ⟨v9, fs9, rfl, h9, hp4⟩ := okL_i hp3
  obtain ⟨q0_3, rfl, t_q0_3⟩ := h9
  obtain ⟨v9, fs9, rfl, h9, hp5⟩ := okL_i hp4
  obtain ⟨q0_4, rfl, l_q0_4, u_q0_4⟩ := h9
  obtain ⟨v9, fs9, rfl, h9, hp6⟩ := okL_i hp5
  obtain ⟨q0_5, rfl⟩ := h9
  obtain ⟨v9, fs9, rfl, h9, hp7⟩ := okL_i hp6
  obtain ⟨q0_6, rfl, t_q0_6⟩ := h9
  have hpz := okL_z hp7
  subst hpz
  have hH : HT D cs A T (a0 :: O) ((a0, .inr (1, [.ref q0_0, .ref q0_1, .int q0_2, .ref q0_3, .int q0_4, .int q0_5, .ref q0_6])) :: X) H := hH
  have hO : okO T (a0 :: O) [1] := okO.cons (hO0.sub (by decide)) t_a0 (by decide)
  refine lv_aload_n hx hb dX1_visit_0 rfl (lv_at hl 0 rfl) ?_
  refine x_get (ci := 1) (C := RX1) (F := TX1) (N := 7) (v := .int q0_5) hx hb hts uX1 hown hkb hH rfl 5 (by decide) rfl kw_307 (fun _ h9 => h9) dX1_visit_1 ?_
  refine lv_iload_n hx hb dX1_visit_4 rfl (lv_at hl 1 rfl) ?_
  refine lv_ishr hx hb dX1_visit_5 ?_
  refine lv_topi (fun v5 ev5 => ?_)
  refine lv_iconst (v := 1) hx hb dX1_visit_6 (by decide) ?_
  refine lv_iand hx hb dX1_visit_7 ?_
  refine lv_topi (fun v7 ev7 => ?_)
  have tv7 : 0 ≤ v7.toInt ∧ v7.toInt ≤ 1 := by rw [ev7]; exact and_r (by decide)
  have J59 : ∀ (f59_4 : Int32) (f59_5 : Int32) (H : Heap) (locs : List Loc) (ls : Array Slot), (0 ≤ f59_4.toInt) → (f59_4.toInt ≤ 28) → HT D cs A T (a0 :: O) ((a0, .inr (1, [.ref q0_0, .ref q0_1, .int q0_2, .ref q0_3, .int f59_4, .int f59_5, .ref q0_6])) :: X) H → va_S A s.heap H locs → lv_has ls 3 [] → W p l e { frames := 0, cells := 0, slots := 0, locals := 0 } s m [.ref a0, .int x1, .int x2].toArray below meth c H locs 0 0 (MQ below (Tv D cs (fun u => u = (T, O, X)) A) [.ref a0, .int x1, .int x2].toArray s 0 0 A) (F0 m 59 ls []) := by
    intro f59_4 f59_5 H locs ls l_f59_4 u_f59_4 hH hS hl
    have hH : HT D cs A T O X H := HT.lay (ci := 1) hH t_a0 (okL_c (⟨_, rfl, t_q0_0⟩) (okL_c (⟨_, rfl, t_q0_1⟩) (okL_c (⟨_, rfl⟩) (okL_c (⟨_, rfl, t_q0_3⟩) (okL_c (⟨_, rfl, by omega, by omega⟩) (okL_c (⟨_, rfl⟩) (okL_c (⟨_, rfl, t_q0_6⟩) (okL_n))))))))
    have hO := hO0
    exact te_v hx hb hr hlocks hH hS rfl dX1_visit_59
  refine lv_if_ne (tgt := 59) hx hb dX1_visit_8 (by decide) (fun c8 => ?_) (fun c8 => ?_)
  · skip
    have tc8 := f_ne (k := 0) (by decide) c8
    exact J59 q0_4 q0_5 _ _ _ (by omega) (by omega) hH hS (lv_sub hl [] rfl)
  · skip
    have tc8 := f_eq (k := 0) (by decide) c8
    refine lv_aload_n hx hb dX1_visit_11 rfl (lv_at hl 0 rfl) ?_
    refine x_get (ci := 1) (C := RX1) (F := TX1) (N := 7) (v := .int q0_4) hx hb hts uX1 hown hkb hH rfl 4 (by decide) rfl kw_306 (fun _ h9 => h9) dX1_visit_12 ?_
    refine lv_bipush (v := 28) hx hb dX1_visit_15 (by decide) ?_
    refine lv_icmp_ge (tgt := 59) hx hb dX1_visit_17 (by decide) (fun c17 => ?_) (fun c17 => ?_)
    · skip
      have tc17 := f_ge (k := 28) (by decide) c17
      exact J59 q0_4 q0_5 _ _ _ (by omega) (by omega) hH hS (lv_sub hl [] rfl)
    · skip
      have tc17 := f_nge (k := 28) (by decide) c17
      refine lv_aload_n hx hb dX1_visit_20 rfl (lv_at hl 0 rfl) ?_
      refine lv_dup hx hb dX1_visit_21 rfl ?_
      refine x_get (ci := 1) (C := RX1) (F := TX1) (N := 7) (v := .int q0_5) hx hb hts uX1 hown hkb hH rfl 5 (by decide) rfl kw_307 (fun _ h9 => h9) dX1_visit_22 ?_
      refine lv_iconst (v := 1) hx hb dX1_visit_25 (by decide) ?_
      refine lv_iload_n hx hb dX1_visit_26 rfl (lv_at hl 1 rfl) ?_
      refine lv_ishl hx hb dX1_visit_27 ?_
      refine lv_topi (fun v27 ev27 => ?_)
      have tv27 : 1 ≤ v27.toInt ∧ v27.toInt ≤ 134217728 := by rw [ev27]; exact shl_b 27 (by decide) (by omega) (by omega)
      refine lv_ior hx hb dX1_visit_28 ?_
      refine lv_topi (fun v28 ev28 => ?_)
      refine x_put (ci := 1) (v := .int v28) (ty := tyX1 5) (C := RX1) (F := TX1) (N := 7) hx hb hts uX1 tyX1 tyX1_ok nmX1 hown hkb hH hS rfl 5 (by decide) kw_307 (fun _ h9 => h9) rfl (tyX1_ok 5 (by decide)) rfl rfl (Nat.le_of_ble_eq_true rfl) dX1_visit_29 (fun H locs hH hS => ?_)
      have hH : HT D cs A T (a0 :: O) ((a0, .inr (1, [.ref q0_0, .ref q0_1, .int q0_2, .ref q0_3, .int q0_4, .int v28, .ref q0_6])) :: X) H := hH
      refine lv_aload_n hx hb dX1_visit_32 rfl (lv_at hl 0 rfl) ?_
      refine x_get (ci := 1) (C := RX1) (F := TX1) (N := 7) (v := .ref q0_6) hx hb hts uX1 hown hkb hH rfl 6 (by decide) rfl kw_308 (fun _ h9 => h9) dX1_visit_33 ?_
      refine lv_iload_n hx hb dX1_visit_36 rfl (lv_at hl 1 rfl) ?_
      refine lv_iload_n hx hb dX1_visit_37 rfl (lv_at hl 2 rfl) ?_
      refine t_ist hx hb hkb hH hS t_q0_6 (hO.no t_q0_6 (by decide)) (by omega) (by omega) (show -1 ≤ x2.toInt ∧ x2.toInt ≤ 27 from by omega) dX1_visit_38 (fun H locs hH hS => ?_)
      refine lv_aload_n hx hb dX1_visit_39 rfl (lv_at hl 0 rfl) ?_
      refine x_get (ci := 1) (C := RX1) (F := TX1) (N := 7) (v := .ref q0_3) hx hb hts uX1 hown hkb hH rfl 3 (by decide) rfl kw_305 (fun _ h9 => h9) dX1_visit_40 ?_
      refine lv_aload_n hx hb dX1_visit_43 rfl (lv_at hl 0 rfl) ?_
      refine x_get (ci := 1) (C := RX1) (F := TX1) (N := 7) (v := .int q0_4) hx hb hts uX1 hown hkb hH rfl 4 (by decide) rfl kw_306 (fun _ h9 => h9) dX1_visit_44 ?_
      refine lv_iload_n hx hb dX1_visit_47 rfl (lv_at hl 1 rfl) ?_
      refine t_ist hx hb hkb hH hS t_q0_3 (hO.no t_q0_3 (by decide)) (by omega) (by omega) (show 0 ≤ x1.toInt ∧ x1.toInt ≤ 27 from by omega) dX1_visit_48 (fun H locs hH hS => ?_)
      refine lv_aload_n hx hb dX1_visit_49 rfl (lv_at hl 0 rfl) ?_
      refine lv_dup hx hb dX1_visit_50 rfl ?_
      refine x_get (ci := 1) (C := RX1) (F := TX1) (N := 7) (v := .int q0_4) hx hb hts uX1 hown hkb hH rfl 4 (by decide) rfl kw_306 (fun _ h9 => h9) dX1_visit_51 ?_
      refine lv_iconst (v := 1) hx hb dX1_visit_54 (by decide) ?_
      refine lv_iadd hx hb dX1_visit_55 ?_
      refine lv_topi (fun v55 ev55 => ?_)
      have tv55 : v55.toInt = q0_4.toInt + (1) := by rw [ev55]; exact add_i rfl (by decide : (1 : Int32).toInt = 1) (by omega) (by omega)
      refine x_put (ci := 1) (v := .int v55) (ty := tyX1 4) (C := RX1) (F := TX1) (N := 7) hx hb hts uX1 tyX1 tyX1_ok nmX1 hown hkb hH hS rfl 4 (by decide) kw_306 (fun _ h9 => h9) rfl (tyX1_ok 4 (by decide)) rfl rfl (Nat.le_of_ble_eq_true rfl) dX1_visit_56 (fun H locs hH hS => ?_)
      have hH : HT D cs A T (a0 :: O) ((a0, .inr (1, [.ref q0_0, .ref q0_1, .int q0_2, .ref q0_3, .int v55, .int v28, .ref q0_6])) :: X) H := hH
      exact J59 v55 v28 _ _ _ (by omega) (by omega) hH hS (lv_sub hl [] rfl)
set_option maxHeartbeats 4000000 in
set_option maxRecDepth 100000 in
theorem s_Cut_visitBeyond (l : Launch) (D : va_G) (cs : CS) (kf : KF) (T : TF) (O : List Nat) (X : va_W) (a0 : Nat) (x1 : Int32) (x2 : Int32) (t_a0 : T a0 = some (11, 0, 0)) (l_x1 : 0 ≤ x1.toInt) (u_x1 : x1.toInt ≤ 27) (l_x2 : -14 ≤ x2.toInt) (u_x2 : x2.toInt ≤ 13) (hO : okO T O [1, 11]) : TK l D cs kf yX1_visitBeyond cX1_visitBeyond 3 none { frames := 1, cells := 0, slots := 0, locals := 22 } [.ref a0, .int x1, .int x2] T O X (Tv D cs (fun u => u = (T, O, X))) := by
  refine tk_of (by decide) (Nat.le_of_ble_eq_true rfl) (fun p e s m below meth c ls A H locs hx hb hr hml hown hts hlocks hnm hkb hH hS hA hOX hks hE hl => ?_)
  have hown : s.vm.findClass RX1 = some m.cls := hown
  have hl : lv_has ls 3 [(0, .ref a0), (1, .int x1), (2, .int x2)] := hl
  refine lv_iload_n hx hb dX1_visitBeyond_0 rfl (lv_at hl 2 rfl) ?_
  refine lv_iconst (v := (-1)) hx hb dX1_visitBeyond_1 (by decide) ?_
  have J14 : ∀  (H : Heap) (locs : List Loc) (ls : Array Slot), HT D cs A T O X H → va_S A s.heap H locs → lv_has ls 3 [] → W p l e { frames := 1, cells := 0, slots := 0, locals := 22 } s m [.ref a0, .int x1, .int x2].toArray below meth c H locs 0 0 (MQ below (Tv D cs (fun u => u = (T, O, X)) A) [.ref a0, .int x1, .int x2].toArray s 0 0 A) (F0 m 14 ls []) := by
    intro  H locs ls  hH hS hl
    exact te_v hx hb hr hlocks hH hS rfl dX1_visitBeyond_14
  refine lv_icmp_eq (tgt := 14) hx hb dX1_visitBeyond_2 (by decide) (fun c2 => ?_) (fun c2 => ?_)
  · skip
    have tc2 := f_eq (k := -1) (by decide) c2
    exact J14  _ _ _  hH hS (lv_sub hl [] rfl)
  · skip
    have tc2 := f_ne (k := -1) (by decide) c2
    refine lv_aload_n hx hb dX1_visitBeyond_5 rfl (lv_at hl 0 rfl) ?_
    refine lv_bipush (v := 14) hx hb dX1_visitBeyond_6 (by decide) ?_
    refine lv_iload_n hx hb dX1_visitBeyond_8 rfl (lv_at hl 2 rfl) ?_
    refine lv_iadd hx hb dX1_visitBeyond_9 ?_
    refine lv_topi (fun v9 ev9 => ?_)
    have tv9 : v9.toInt = (14) + x2.toInt := by rw [ev9]; exact add_i (by decide : (14 : Int32).toInt = 14) rfl (by omega) (by omega)
    refine lv_iload_n hx hb dX1_visitBeyond_10 rfl (lv_at hl 1 rfl) ?_
    refine tk_v hH hS hA (tr_V (n := 2) (As := [.int v9, .int x1]) hx hb hml hown hts hkb hH hOX hks hE hS hA (s_Cut_visit l D cs kf T O X a0 v9 x1 t_a0 (by omega) (by omega) (by omega) (by omega) (hO.sub (by decide))) kw_1024 kw_1026 ks_33 kw_10 kw_1027 (by decide +kernel) ⟨Nat.le_of_ble_eq_true rfl, Nat.le_of_ble_eq_true rfl⟩ (HT.recv (ci := 1) hkb hH t_a0 (hO.no t_a0 (by decide)) rfl) rfl rfl hl.1 (Nat.le_of_ble_eq_true rfl) dX1_visitBeyond_11 ⟨Nat.le_of_ble_eq_true rfl, Nat.le_of_ble_eq_true rfl⟩) (fun u H locs hz9 hH hS => ?_)
    have hz9 : u = (T, O, X) := hz9
    subst hz9
    have hH : HT D cs A T O X H := hH
    refine W.widen (k := 0) (n := 0) (Nat.le_of_ble_eq_true rfl) (Nat.le_of_ble_eq_true rfl) ?_
    exact J14  _ _ _  hH hS (lv_sub hl [] rfl)
set_option maxHeartbeats 4000000 in
set_option maxRecDepth 100000 in
theorem s_Cut_visitNear (l : Launch) (D : va_G) (cs : CS) (kf : KF) (T : TF) (O : List Nat) (X : va_W) (a0 : Nat) (x1 : Int32) (x2 : Int32) (t_a0 : T a0 = some (11, 0, 0)) (l_x1 : 0 ≤ x1.toInt) (u_x1 : x1.toInt ≤ 27) (hO : okO T O [1, 11]) : TK l D cs kf yX1_visitNear cX1_visitNear 4 none { frames := 1, cells := 0, slots := 0, locals := 22 } [.ref a0, .int x1, .int x2] T O X (Tv D cs (fun u => u = (T, O, X))) := by
  refine tk_of (by decide) (Nat.le_of_ble_eq_true rfl) (fun p e s m below meth c ls A H locs hx hb hr hml hown hts hlocks hnm hkb hH hS hA hOX hks hE hl => ?_)
  have hown : s.vm.findClass RX1 = some m.cls := hown
  have hl : lv_has ls 4 [(0, .ref a0), (1, .int x1), (2, .int x2)] := hl
  refine lv_iconst (v := 0) hx hb dX1_visitNear_0 (by decide) ?_
  have J2 : ∀ (n : Nat) (p2_3 : Int32) (H : Heap) (locs : List Loc) (ls : Array Slot), (14 - p2_3.toInt).toNat = n → (0 ≤ p2_3.toInt) → (p2_3.toInt ≤ 14) → HT D cs A T O X H → va_S A s.heap H locs → lv_has ls 4 [(3, .int p2_3), (0, .ref a0), (1, .int x1), (2, .int x2)] → W p l e { frames := 1, cells := 0, slots := 0, locals := 22 } s m [.ref a0, .int x1, .int x2].toArray below meth c H locs 0 0 (MQ below (Tv D cs (fun u => u = (T, O, X)) A) [.ref a0, .int x1, .int x2].toArray s 0 0 A) (F0 m 2 ls []) := by
    intro n
    induction n using Nat.strongRecOn with
    | _ n ih2 =>
      intro p2_3 H locs ls hm2 l_p2_3 u_p2_3 hH hS hl
      refine lv_iload_n hx hb dX1_visitNear_2 rfl (lv_at hl 0 rfl) ?_
      refine lv_bipush (v := 14) hx hb dX1_visitNear_3 (by decide) ?_
      refine lv_icmp_ge (tgt := 28) hx hb dX1_visitNear_5 (by decide) (fun c5 => ?_) (fun c5 => ?_)
      · skip
        have tc5 := f_ge (k := 14) (by decide) c5
        exact te_v hx hb hr hlocks hH hS rfl dX1_visitNear_28
      · skip
        have tc5 := f_nge (k := 14) (by decide) c5
        refine lv_iload_n hx hb dX1_visitNear_8 rfl (lv_at hl 3 rfl) ?_
        refine lv_iload_n hx hb dX1_visitNear_9 rfl (lv_at hl 0 rfl) ?_
        refine lv_ishr hx hb dX1_visitNear_10 ?_
        refine lv_topi (fun v10 ev10 => ?_)
        refine lv_iconst (v := 1) hx hb dX1_visitNear_11 (by decide) ?_
        refine lv_iand hx hb dX1_visitNear_12 ?_
        refine lv_topi (fun v12 ev12 => ?_)
        have tv12 : 0 ≤ v12.toInt ∧ v12.toInt ≤ 1 := by rw [ev12]; exact and_r (by decide)
        have J22 : ∀  (H : Heap) (locs : List Loc) (ls : Array Slot), HT D cs A T O X H → va_S A s.heap H locs → lv_has ls 4 [(3, .int p2_3), (0, .ref a0), (1, .int x1), (2, .int x2)] → W p l e { frames := 1, cells := 0, slots := 0, locals := 22 } s m [.ref a0, .int x1, .int x2].toArray below meth c H locs 0 0 (MQ below (Tv D cs (fun u => u = (T, O, X)) A) [.ref a0, .int x1, .int x2].toArray s 0 0 A) (F0 m 22 ls []) := by
          intro  H locs ls  hH hS hl
          obtain ⟨v22, ev22⟩ : ∃ y : Int32, y = p2_3 + 1 := ⟨_, rfl⟩
          have tv22 : v22.toInt = p2_3.toInt + (1) := by rw [ev22]; exact add_i rfl (by decide) (by omega) (by omega)
          refine lv_iinc (v := v22) (lv' := [(3, .int v22), (0, .ref a0), (1, .int x1), (2, .int x2)]) hx hb dX1_visitNear_22 hl (k := 0) rfl (by rw [ev22]; rfl) (by decide) rfl (fun ls hl => ?_)
          refine lv_goto (tgt := 2) hx hb dX1_visitNear_25 (by decide) ?_
          exact ih2 _ (by omega) v22 _ _ _ rfl (by omega) (by omega) hH hS (lv_sub hl [0, 1, 2, 3] rfl)
        refine lv_if_eq (tgt := 22) hx hb dX1_visitNear_13 (by decide) (fun c13 => ?_) (fun c13 => ?_)
        · skip
          have tc13 := f_eq (k := 0) (by decide) c13
          exact J22  _ _ _  hH hS (lv_sub hl [0, 1, 2, 3] rfl)
        · skip
          have tc13 := f_ne (k := 0) (by decide) c13
          refine lv_aload_n hx hb dX1_visitNear_16 rfl (lv_at hl 1 rfl) ?_
          refine lv_iload_n hx hb dX1_visitNear_17 rfl (lv_at hl 0 rfl) ?_
          refine lv_iload_n hx hb dX1_visitNear_18 rfl (lv_at hl 2 rfl) ?_
          refine tk_v hH hS hA (tr_V (n := 2) (As := [.int p2_3, .int x1]) hx hb hml hown hts hkb hH hOX hks hE hS hA (s_Cut_visit l D cs kf T O X a0 p2_3 x1 t_a0 (by omega) (by omega) (by omega) (by omega) (hO.sub (by decide))) kw_1024 kw_1026 ks_33 kw_10 kw_1027 (by decide +kernel) ⟨Nat.le_of_ble_eq_true rfl, Nat.le_of_ble_eq_true rfl⟩ (HT.recv (ci := 1) hkb hH t_a0 (hO.no t_a0 (by decide)) rfl) rfl rfl hl.1 (Nat.le_of_ble_eq_true rfl) dX1_visitNear_19 ⟨Nat.le_of_ble_eq_true rfl, Nat.le_of_ble_eq_true rfl⟩) (fun u H locs hz9 hH hS => ?_)
          have hz9 : u = (T, O, X) := hz9
          subst hz9
          have hH : HT D cs A T O X H := hH
          refine W.widen (k := 0) (n := 0) (Nat.le_of_ble_eq_true rfl) (Nat.le_of_ble_eq_true rfl) ?_
          exact J22  _ _ _  hH hS (lv_sub hl [0, 1, 2, 3] rfl)
  refine lv_istore_n (lv' := [(3, .int 0), (0, .ref a0), (1, .int x1), (2, .int x2)]) hx hb dX1_visitNear_1 rfl hl (by decide) rfl (fun ls hl => ?_)
  exact J2 _ 0 _ _ _ rfl (by decide) (by decide) hH hS (lv_sub hl [0, 1, 2, 3] rfl)
set_option maxHeartbeats 4000000 in
set_option maxRecDepth 100000 in
theorem s_Cut_lay (l : Launch) (D : va_G) (cs : CS) (kf : KF) (T : TF) (O : List Nat) (X : va_W) (a0 : Nat) (x1 : Int32) (t_a0 : T a0 = some (11, 0, 0)) (l_x1 : 0 ≤ x1.toInt) (u_x1 : x1.toInt ≤ 27) (hO : okO T O [1, 11]) : TK l D cs kf yX1_lay cX1_lay 6 none { frames := 0, cells := 0, slots := 0, locals := 0 } [.ref a0, .int x1] T O X (Tv D cs (fun u => u = (T, O, X))) := by
  refine tk_of (by decide) (Nat.le_of_ble_eq_true rfl) (fun p e s m below meth c ls A H locs hx hb hr hml hown hts hlocks hnm hkb hH hS hA hOX hks hE hl => ?_)
  have hown : s.vm.findClass RX1 = some m.cls := hown
  have hl : lv_has ls 6 [(0, .ref a0), (1, .int x1)] := hl
  refine lv_iload_n hx hb dX1_lay_0 rfl (lv_at hl 1 rfl) ?_
  refine lv_istore_n (lv' := [(2, .int x1), (0, .ref a0), (1, .int x1)]) hx hb dX1_lay_1 rfl hl (by decide) rfl (fun ls hl => ?_)
  refine lv_iconst (v := 0) hx hb dX1_lay_2 (by decide) ?_
  have J4 : ∀ (n : Nat) (p4_3 : Int32) (p4_2 : Int32) (H : Heap) (locs : List Loc) (ls : Array Slot), (28 - p4_3.toInt).toNat = n → (0 ≤ p4_3.toInt) → (p4_3.toInt ≤ 28) → (-1 ≤ p4_2.toInt) → (p4_2.toInt ≤ 27) → HT D cs A T O X H → va_S A s.heap H locs → lv_has ls 6 [(3, .int p4_3), (2, .int p4_2), (0, .ref a0)] → W p l e { frames := 0, cells := 0, slots := 0, locals := 0 } s m [.ref a0, .int x1].toArray below meth c H locs 0 0 (MQ below (Tv D cs (fun u => u = (T, O, X)) A) [.ref a0, .int x1].toArray s 0 0 A) (F0 m 4 ls []) := by
    intro n
    induction n using Nat.strongRecOn with
    | _ n ih4 =>
      intro p4_3 p4_2 H locs ls hm4 l_p4_3 u_p4_3 l_p4_2 u_p4_2 hH hS hl
      refine lv_iload_n hx hb dX1_lay_4 rfl (lv_at hl 0 rfl) ?_
      refine lv_bipush (v := 28) hx hb dX1_lay_5 (by decide) ?_
      have J117 : ∀  (H : Heap) (locs : List Loc) (ls : Array Slot), HT D cs A T O X H → va_S A s.heap H locs → lv_has ls 6 [] → W p l e { frames := 0, cells := 0, slots := 0, locals := 0 } s m [.ref a0, .int x1].toArray below meth c H locs 0 0 (MQ below (Tv D cs (fun u => u = (T, O, X)) A) [.ref a0, .int x1].toArray s 0 0 A) (F0 m 117 ls []) := by
        intro  H locs ls  hH hS hl
        exact te_v hx hb hr hlocks hH hS rfl dX1_lay_117
      refine lv_icmp_ge (tgt := 117) hx hb dX1_lay_7 (by decide) (fun c7 => ?_) (fun c7 => ?_)
      · skip
        have tc7 := f_ge (k := 28) (by decide) c7
        exact J117  _ _ _  hH hS (lv_sub hl [] rfl)
      · skip
        have tc7 := f_nge (k := 28) (by decide) c7
        refine lv_iload_n hx hb dX1_lay_10 rfl (lv_at hl 1 rfl) ?_
        refine lv_iconst (v := (-1)) hx hb dX1_lay_11 (by decide) ?_
        refine lv_icmp_eq (tgt := 117) hx hb dX1_lay_12 (by decide) (fun c12 => ?_) (fun c12 => ?_)
        · skip
          have tc12 := f_eq (k := -1) (by decide) c12
          exact J117  _ _ _  hH hS (lv_sub hl [] rfl)
        · skip
          have tc12 := f_ne (k := -1) (by decide) c12
          refine lv_aload_n hx hb dX1_lay_15 rfl (lv_at hl 2 rfl) ?_
          refine t_get (ci := 1) (lst := ft1 0 0) (C := RX1) (F := TX1) (N := 7) hx hb hts uX1 hown hkb hH t_a0 (hO.no t_a0 (by decide)) (fun _ h9 => h9) rfl rfl 6 (by decide) rfl kw_308 (fun _ h9 => h9) dX1_lay_16 (fun v9 h9 => ?_)
          obtain ⟨v16, rfl, t_v16⟩ := h9
          refine lv_iload_n hx hb dX1_lay_19 rfl (lv_at hl 1 rfl) ?_
          refine t_ild hx hb hkb hH t_v16 (hO.no t_v16 (by decide)) (by omega) (by omega) dX1_lay_20 (fun v20 h9 => ?_)
          have tv20 : -1 ≤ v20.toInt ∧ v20.toInt ≤ 27 := h9
          refine lv_istore (lv' := [(4, .int v20), (3, .int p4_3), (2, .int p4_2), (0, .ref a0)]) hx hb dX1_lay_21 hl (by decide) rfl (fun ls hl => ?_)
          refine lv_iload_n hx hb dX1_lay_23 rfl (lv_at hl 2 rfl) ?_
          refine lv_bipush (v := 14) hx hb dX1_lay_24 (by decide) ?_
          refine lv_irem hx hb dX1_lay_26 (by decide) ?_
          refine lv_topi (fun v26 ev26 => ?_)
          have tv26 : (0 ≤ p4_2.toInt → 0 ≤ v26.toInt) ∧ v26.toInt < 14 ∧ -14 < v26.toInt ∧ (p4_2.toInt ≤ 0 → v26.toInt ≤ 0) := by rw [ev26]; exact irem_b (by decide) (by decide)
          refine lv_istore (lv' := [(5, .int v26), (4, .int v20), (3, .int p4_3), (2, .int p4_2), (0, .ref a0)]) hx hb dX1_lay_27 hl (by decide) rfl (fun ls hl => ?_)
          refine lv_iload_n hx hb dX1_lay_29 rfl (lv_at hl 3 rfl) ?_
          refine lv_bipush (v := 14) hx hb dX1_lay_30 (by decide) ?_
          have J108 : ∀  (H : Heap) (locs : List Loc) (ls : Array Slot), HT D cs A T O X H → va_S A s.heap H locs → lv_has ls 6 [(4, .int v20), (3, .int p4_3), (0, .ref a0)] → W p l e { frames := 0, cells := 0, slots := 0, locals := 0 } s m [.ref a0, .int x1].toArray below meth c H locs 0 0 (MQ below (Tv D cs (fun u => u = (T, O, X)) A) [.ref a0, .int x1].toArray s 0 0 A) (F0 m 108 ls []) := by
            intro  H locs ls  hH hS hl
            refine lv_iload hx hb dX1_lay_108 (lv_at hl 0 rfl) ?_
            refine lv_istore_n (lv' := [(2, .int v20), (4, .int v20), (3, .int p4_3), (0, .ref a0)]) hx hb dX1_lay_110 rfl hl (by decide) rfl (fun ls hl => ?_)
            obtain ⟨v111, ev111⟩ : ∃ y : Int32, y = p4_3 + 1 := ⟨_, rfl⟩
            have tv111 : v111.toInt = p4_3.toInt + (1) := by rw [ev111]; exact add_i rfl (by decide) (by omega) (by omega)
            refine lv_iinc (v := v111) (lv' := [(3, .int v111), (2, .int v20), (4, .int v20), (0, .ref a0)]) hx hb dX1_lay_111 hl (k := 2) rfl (by rw [ev111]; rfl) (by decide) rfl (fun ls hl => ?_)
            refine lv_goto (tgt := 4) hx hb dX1_lay_114 (by decide) ?_
            exact ih4 _ (by omega) v111 v20 _ _ _ rfl (by omega) (by omega) (by omega) (by omega) hH hS (lv_sub hl [0, 1, 3] rfl)
          refine lv_icmp_lt (tgt := 58) hx hb dX1_lay_32 (by decide) (fun c32 => ?_) (fun c32 => ?_)
          · skip
            have tc32 := f_lt (k := 14) (by decide) c32
            refine lv_iload hx hb dX1_lay_58 (lv_at hl 1 rfl) ?_
            refine lv_bipush (v := 14) hx hb dX1_lay_60 (by decide) ?_
            refine lv_iload hx hb dX1_lay_62 (lv_at hl 0 rfl) ?_
            refine lv_iadd hx hb dX1_lay_64 ?_
            refine lv_topi (fun v64 ev64 => ?_)
            have tv64 : v64.toInt = (14) + v26.toInt := by rw [ev64]; exact add_i (by decide : (14 : Int32).toInt = 14) rfl (by omega) (by omega)
            refine lv_icmp_ne (tgt := 86) hx hb dX1_lay_65 (by decide) (fun c65 => ?_) (fun c65 => ?_)
            · skip
              have fuc65 := full_i v20
              have fvc65 := full_i v64
              have tc65 := g_ne c65
              refine lv_aload_n hx hb dX1_lay_86 rfl (lv_at hl 4 rfl) ?_
              refine t_get (ci := 1) (lst := ft1 0 0) (C := RX1) (F := TX1) (N := 7) hx hb hts uX1 hown hkb hH t_a0 (hO.no t_a0 (by decide)) (fun _ h9 => h9) rfl rfl 1 (by decide) rfl kw_303 (fun _ h9 => h9) dX1_lay_87 (fun v9 h9 => ?_)
              obtain ⟨v87, rfl, t_v87⟩ := h9
              refine lv_iload hx hb dX1_lay_90 (lv_at hl 0 rfl) ?_
              refine lv_iload hx hb dX1_lay_92 (lv_at hl 1 rfl) ?_
              refine lv_iconst (v := (-1)) hx hb dX1_lay_94 (by decide) ?_
              have J107 : ∀ (k107_0 : Int32) (H : Heap) (locs : List Loc) (ls : Array Slot), (-14 ≤ k107_0.toInt) → (k107_0.toInt ≤ 13) → HT D cs A T O X H → va_S A s.heap H locs → lv_has ls 6 [(4, .int v20), (3, .int p4_3), (0, .ref a0)] → W p l e { frames := 0, cells := 0, slots := 0, locals := 0 } s m [.ref a0, .int x1].toArray below meth c H locs 0 0 (MQ below (Tv D cs (fun u => u = (T, O, X)) A) [.ref a0, .int x1].toArray s 0 0 A) (F0 m 107 ls [.int k107_0, .int v26, .ref v87]) := by
                intro k107_0 H locs ls l_k107_0 u_k107_0 hH hS hl
                refine t_ist hx hb hkb hH hS t_v87 (hO.no t_v87 (by decide)) (by omega) (by omega) (show -14 ≤ k107_0.toInt ∧ k107_0.toInt ≤ 13 from by omega) dX1_lay_107 (fun H locs hH hS => ?_)
                exact J108  _ _ _  hH hS (lv_sub hl [0, 1, 2] rfl)
              refine lv_icmp_ne (tgt := 102) hx hb dX1_lay_95 (by decide) (fun c95 => ?_) (fun c95 => ?_)
              · skip
                have tc95 := f_ne (k := -1) (by decide) c95
                refine lv_iload hx hb dX1_lay_102 (lv_at hl 1 rfl) ?_
                refine lv_bipush (v := 14) hx hb dX1_lay_104 (by decide) ?_
                refine lv_isub hx hb dX1_lay_106 ?_
                refine lv_topi (fun v106 ev106 => ?_)
                have tv106 : v106.toInt = v20.toInt - (14) := by rw [ev106]; exact sub_i rfl (by decide : (14 : Int32).toInt = 14) (by omega) (by omega)
                exact J107 v106 _ _ _ (by omega) (by omega) hH hS (lv_sub hl [1, 2, 4] rfl)
              · skip
                have tc95 := f_eq (k := -1) (by decide) c95
                refine lv_iconst (v := (-1)) hx hb dX1_lay_98 (by decide) ?_
                refine lv_goto (tgt := 107) hx hb dX1_lay_99 (by decide) ?_
                exact J107 (-1) _ _ _ (by decide) (by decide) hH hS (lv_sub hl [1, 2, 4] rfl)
            · skip
              have fuc65 := full_i v20
              have fvc65 := full_i v64
              have tc65 := g_eq c65
              refine lv_aload_n hx hb dX1_lay_68 rfl (lv_at hl 4 rfl) ?_
              refine lv_dup hx hb dX1_lay_69 rfl ?_
              refine t_get (ci := 1) (lst := ft1 0 0) (C := RX1) (F := TX1) (N := 7) hx hb hts uX1 hown hkb hH t_a0 (hO.no t_a0 (by decide)) (fun _ h9 => h9) rfl rfl 2 (by decide) rfl kw_304 (fun _ h9 => h9) dX1_lay_70 (fun v9 h9 => ?_)
              obtain ⟨v70, rfl⟩ := h9
              refine lv_iconst (v := 1) hx hb dX1_lay_73 (by decide) ?_
              refine lv_iload hx hb dX1_lay_74 (lv_at hl 0 rfl) ?_
              refine lv_ishl hx hb dX1_lay_76 ?_
              refine lv_topi (fun v76 ev76 => ?_)
              have tv76 : 1 ≤ v76.toInt ∧ v76.toInt ≤ 8192 := by rw [ev76]; exact shl_b 13 (by decide) (by omega) (by omega)
              refine lv_iconst (v := (-1)) hx hb dX1_lay_77 (by decide) ?_
              refine lv_ixor hx hb dX1_lay_78 ?_
              refine lv_topi (fun v78 ev78 => ?_)
              refine lv_iand hx hb dX1_lay_79 ?_
              refine lv_topi (fun v79 ev79 => ?_)
              refine t_put (ci := 1) (lst := ft1 0 0) (v := .int v79) (ty := tyX1 2) (C := RX1) (F := TX1) (N := 7) hx hb hts uX1 tyX1 tyX1_ok nmX1 hown hkb hH hS t_a0 (hO.no t_a0 (by decide)) (fun _ => Iff.rfl) rfl rfl 2 (by decide) rfl (⟨_, rfl⟩) kw_304 (fun _ h9 => h9) rfl (tyX1_ok 2 (by decide)) rfl rfl dX1_lay_80 (fun H locs hH hS => ?_)
              refine lv_goto (tgt := 108) hx hb dX1_lay_83 (by decide) ?_
              exact J108  _ _ _  hH hS (lv_sub hl [1, 2, 4] rfl)
          · skip
            have tc32 := f_nlt (k := 14) (by decide) c32
            refine lv_iload hx hb dX1_lay_35 (lv_at hl 1 rfl) ?_
            refine lv_iload hx hb dX1_lay_37 (lv_at hl 0 rfl) ?_
            refine lv_icmp_ne (tgt := 108) hx hb dX1_lay_39 (by decide) (fun c39 => ?_) (fun c39 => ?_)
            · skip
              have fuc39 := full_i v20
              have fvc39 := full_i v26
              have tc39 := g_ne c39
              exact J108  _ _ _  hH hS (lv_sub hl [1, 2, 4] rfl)
            · skip
              have fuc39 := full_i v20
              have fvc39 := full_i v26
              have tc39 := g_eq c39
              refine lv_aload_n hx hb dX1_lay_42 rfl (lv_at hl 4 rfl) ?_
              refine lv_dup hx hb dX1_lay_43 rfl ?_
              refine t_get (ci := 1) (lst := ft1 0 0) (C := RX1) (F := TX1) (N := 7) hx hb hts uX1 hown hkb hH t_a0 (hO.no t_a0 (by decide)) (fun _ h9 => h9) rfl rfl 2 (by decide) rfl kw_304 (fun _ h9 => h9) dX1_lay_44 (fun v9 h9 => ?_)
              obtain ⟨v44, rfl⟩ := h9
              refine lv_iconst (v := 1) hx hb dX1_lay_47 (by decide) ?_
              refine lv_iload hx hb dX1_lay_48 (lv_at hl 0 rfl) ?_
              refine lv_ishl hx hb dX1_lay_50 ?_
              refine lv_topi (fun v50 ev50 => ?_)
              have tv50 : 1 ≤ v50.toInt ∧ v50.toInt ≤ 8192 := by rw [ev50]; exact shl_b 13 (by decide) (by omega) (by omega)
              refine lv_ior hx hb dX1_lay_51 ?_
              refine lv_topi (fun v51 ev51 => ?_)
              refine t_put (ci := 1) (lst := ft1 0 0) (v := .int v51) (ty := tyX1 2) (C := RX1) (F := TX1) (N := 7) hx hb hts uX1 tyX1 tyX1_ok nmX1 hown hkb hH hS t_a0 (hO.no t_a0 (by decide)) (fun _ => Iff.rfl) rfl rfl 2 (by decide) rfl (⟨_, rfl⟩) kw_304 (fun _ h9 => h9) rfl (tyX1_ok 2 (by decide)) rfl rfl dX1_lay_52 (fun H locs hH hS => ?_)
              refine lv_goto (tgt := 108) hx hb dX1_lay_55 (by decide) ?_
              exact J108  _ _ _  hH hS (lv_sub hl [1, 2, 4] rfl)
  refine lv_istore_n (lv' := [(3, .int 0), (2, .int x1), (0, .ref a0), (1, .int x1)]) hx hb dX1_lay_3 rfl hl (by decide) rfl (fun ls hl => ?_)
  exact J4 _ 0 x1 _ _ _ rfl (by decide) (by decide) (by omega) (by omega) hH hS (lv_sub hl [0, 1, 2] rfl)
set_option maxHeartbeats 4000000 in
set_option maxRecDepth 100000 in
theorem s_Cut_layOneMore (l : Launch) (D : va_G) (cs : CS) (kf : KF) (T : TF) (O : List Nat) (X : va_W) (a0 : Nat) (x1 : Int32) (x2 : Int32) (t_a0 : T a0 = some (11, 0, 0)) (hO : okO T O [1, 11]) : TK l D cs kf yX1_layOneMore cX1_layOneMore 7 (some (.boolean)) { frames := 2, cells := 0, slots := 0, locals := 45 } [.ref a0, .int x1, .int x2] T O X (Ti D cs (fun r u => u = (T, O, X) ∧ 0 ≤ r.toInt ∧ r.toInt ≤ 1)) := by
  refine tk_of (by decide) (Nat.le_of_ble_eq_true rfl) (fun p e s m below meth c ls A H locs hx hb hr hml hown hts hlocks hnm hkb hH hS hA hOX hks hE hl => ?_)
  have hown : s.vm.findClass RX1 = some m.cls := hown
  have hl : lv_has ls 7 [(0, .ref a0), (1, .int x1), (2, .int x2)] := hl
  refine lv_aload_n hx hb dX1_layOneMore_0 rfl (lv_at hl 0 rfl) ?_
  refine lv_iconst (v := 0) hx hb dX1_layOneMore_1 (by decide) ?_
  refine t_put (ci := 1) (lst := ft1 0 0) (v := .int 0) (ty := tyX1 4) (C := RX1) (F := TX1) (N := 7) hx hb hts uX1 tyX1 tyX1_ok nmX1 hown hkb hH hS t_a0 (hO.no t_a0 (by decide)) (fun _ => Iff.rfl) rfl rfl 4 (by decide) rfl (⟨_, rfl, by decide, by decide⟩) kw_306 (fun _ h9 => h9) rfl (tyX1_ok 4 (by decide)) rfl rfl dX1_layOneMore_2 (fun H locs hH hS => ?_)
  refine lv_aload_n hx hb dX1_layOneMore_5 rfl (lv_at hl 0 rfl) ?_
  refine lv_iconst (v := 0) hx hb dX1_layOneMore_6 (by decide) ?_
  refine t_put (ci := 1) (lst := ft1 0 0) (v := .int 0) (ty := tyX1 5) (C := RX1) (F := TX1) (N := 7) hx hb hts uX1 tyX1 tyX1_ok nmX1 hown hkb hH hS t_a0 (hO.no t_a0 (by decide)) (fun _ => Iff.rfl) rfl rfl 5 (by decide) rfl (⟨_, rfl⟩) kw_307 (fun _ h9 => h9) rfl (tyX1_ok 5 (by decide)) rfl rfl dX1_layOneMore_7 (fun H locs hH hS => ?_)
  refine lv_iconst (v := 0) hx hb dX1_layOneMore_10 (by decide) ?_
  have J12 : ∀ (n : Nat) (p12_3 : Int32) (H : Heap) (locs : List Loc) (ls : Array Slot), (14 - p12_3.toInt).toNat = n → (0 ≤ p12_3.toInt) → (p12_3.toInt ≤ 14) → HT D cs A T O X H → va_S A s.heap H locs → lv_has ls 7 [(3, .int p12_3), (0, .ref a0), (1, .int x1), (2, .int x2)] → W p l e { frames := 2, cells := 0, slots := 0, locals := 45 } s m [.ref a0, .int x1, .int x2].toArray below meth c H locs 0 0 (MQ below (Ti D cs (fun r u => u = (T, O, X) ∧ 0 ≤ r.toInt ∧ r.toInt ≤ 1) A) [.ref a0, .int x1, .int x2].toArray s 0 0 A) (F0 m 12 ls []) := by
    intro n
    induction n using Nat.strongRecOn with
    | _ n ih12 =>
      intro p12_3 H locs ls hm12 l_p12_3 u_p12_3 hH hS hl
      refine lv_iload_n hx hb dX1_layOneMore_12 rfl (lv_at hl 0 rfl) ?_
      refine lv_bipush (v := 14) hx hb dX1_layOneMore_13 (by decide) ?_
      refine lv_icmp_ge (tgt := 38) hx hb dX1_layOneMore_15 (by decide) (fun c15 => ?_) (fun c15 => ?_)
      · skip
        have tc15 := f_ge (k := 14) (by decide) c15
        refine lv_iconst (v := 0) hx hb dX1_layOneMore_38 (by decide) ?_
        have J40 : ∀ (n : Nat) (p40_3 : Int32) (H : Heap) (locs : List Loc) (ls : Array Slot), (28 - p40_3.toInt).toNat = n → (0 ≤ p40_3.toInt) → (p40_3.toInt ≤ 28) → HT D cs A T O X H → va_S A s.heap H locs → lv_has ls 7 [(3, .int p40_3), (0, .ref a0), (2, .int x2)] → W p l e { frames := 2, cells := 0, slots := 0, locals := 45 } s m [.ref a0, .int x1, .int x2].toArray below meth c H locs 0 0 (MQ below (Ti D cs (fun r u => u = (T, O, X) ∧ 0 ≤ r.toInt ∧ r.toInt ≤ 1) A) [.ref a0, .int x1, .int x2].toArray s 0 0 A) (F0 m 40 ls []) := by
          intro n
          induction n using Nat.strongRecOn with
          | _ n ih40 =>
            intro p40_3 H locs ls hm40 l_p40_3 u_p40_3 hH hS hl
            refine lv_iload_n hx hb dX1_layOneMore_40 rfl (lv_at hl 0 rfl) ?_
            refine lv_bipush (v := 28) hx hb dX1_layOneMore_41 (by decide) ?_
            have J178 : ∀  (H : Heap) (locs : List Loc) (ls : Array Slot), HT D cs A T O X H → va_S A s.heap H locs → lv_has ls 7 [] → W p l e { frames := 2, cells := 0, slots := 0, locals := 45 } s m [.ref a0, .int x1, .int x2].toArray below meth c H locs 0 0 (MQ below (Ti D cs (fun r u => u = (T, O, X) ∧ 0 ≤ r.toInt ∧ r.toInt ≤ 1) A) [.ref a0, .int x1, .int x2].toArray s 0 0 A) (F0 m 178 ls []) := by
              intro  H locs ls  hH hS hl
              refine lv_iconst (v := 0) hx hb dX1_layOneMore_178 (by decide) ?_
              exact te_z hx hb hr hlocks (by rfl) hH hS (⟨rfl, by decide, by decide⟩) dX1_layOneMore_179
            refine lv_icmp_ge (tgt := 178) hx hb dX1_layOneMore_43 (by decide) (fun c43 => ?_) (fun c43 => ?_)
            · skip
              have tc43 := f_ge (k := 28) (by decide) c43
              exact J178  _ _ _  hH hS (lv_sub hl [] rfl)
            · skip
              have tc43 := f_nge (k := 28) (by decide) c43
              refine lv_iload_n hx hb dX1_layOneMore_46 rfl (lv_at hl 0 rfl) ?_
              refine lv_aload_n hx hb dX1_layOneMore_47 rfl (lv_at hl 1 rfl) ?_
              refine t_get (ci := 1) (lst := ft1 0 0) (C := RX1) (F := TX1) (N := 7) hx hb hts uX1 hown hkb hH t_a0 (hO.no t_a0 (by decide)) (fun _ h9 => h9) rfl rfl 4 (by decide) rfl kw_306 (fun _ h9 => h9) dX1_layOneMore_48 (fun v9 h9 => ?_)
              obtain ⟨v48, rfl, l_v48, u_v48⟩ := h9
              refine lv_icmp_ge (tgt := 178) hx hb dX1_layOneMore_51 (by decide) (fun c51 => ?_) (fun c51 => ?_)
              · skip
                have fuc51 := full_i p40_3
                have fvc51 := full_i v48
                have tc51 := g_le c51
                exact J178  _ _ _  hH hS (lv_sub hl [] rfl)
              · skip
                have fuc51 := full_i p40_3
                have fvc51 := full_i v48
                have tc51 := g_nle c51
                refine lv_aload_n hx hb dX1_layOneMore_54 rfl (lv_at hl 1 rfl) ?_
                refine t_get (ci := 1) (lst := ft1 0 0) (C := RX1) (F := TX1) (N := 7) hx hb hts uX1 hown hkb hH t_a0 (hO.no t_a0 (by decide)) (fun _ h9 => h9) rfl rfl 3 (by decide) rfl kw_305 (fun _ h9 => h9) dX1_layOneMore_55 (fun v9 h9 => ?_)
                obtain ⟨v55, rfl, t_v55⟩ := h9
                refine lv_iload_n hx hb dX1_layOneMore_58 rfl (lv_at hl 0 rfl) ?_
                refine t_ild hx hb hkb hH t_v55 (hO.no t_v55 (by decide)) (by omega) (by omega) dX1_layOneMore_59 (fun v59 h9 => ?_)
                have tv59 : 0 ≤ v59.toInt ∧ v59.toInt ≤ 27 := h9
                refine lv_istore (lv' := [(4, .int v59), (3, .int p40_3), (0, .ref a0), (2, .int x2)]) hx hb dX1_layOneMore_60 hl (by decide) rfl (fun ls hl => ?_)
                refine lv_iload hx hb dX1_layOneMore_62 (lv_at hl 0 rfl) ?_
                refine lv_bipush (v := 14) hx hb dX1_layOneMore_64 (by decide) ?_
                refine lv_irem hx hb dX1_layOneMore_66 (by decide) ?_
                refine lv_topi (fun v66 ev66 => ?_)
                have tv66 : (0 ≤ v59.toInt → 0 ≤ v66.toInt) ∧ v66.toInt < 14 ∧ -14 < v66.toInt ∧ (v59.toInt ≤ 0 → v66.toInt ≤ 0) := by rw [ev66]; exact irem_b (by decide) (by decide)
                refine lv_istore (lv' := [(5, .int v66), (4, .int v59), (3, .int p40_3), (0, .ref a0), (2, .int x2)]) hx hb dX1_layOneMore_67 hl (by decide) rfl (fun ls hl => ?_)
                refine lv_aload_n hx hb dX1_layOneMore_69 rfl (lv_at hl 3 rfl) ?_
                refine t_get (ci := 1) (lst := ft1 0 0) (C := RX1) (F := TX1) (N := 7) hx hb hts uX1 hown hkb hH t_a0 (hO.no t_a0 (by decide)) (fun _ h9 => h9) rfl rfl 2 (by decide) rfl kw_304 (fun _ h9 => h9) dX1_layOneMore_70 (fun v9 h9 => ?_)
                obtain ⟨v70, rfl⟩ := h9
                refine lv_iload hx hb dX1_layOneMore_73 (lv_at hl 0 rfl) ?_
                refine lv_ishr hx hb dX1_layOneMore_75 ?_
                refine lv_topi (fun v75 ev75 => ?_)
                refine lv_iconst (v := 1) hx hb dX1_layOneMore_76 (by decide) ?_
                refine lv_iand hx hb dX1_layOneMore_77 ?_
                refine lv_topi (fun v77 ev77 => ?_)
                have tv77 : 0 ≤ v77.toInt ∧ v77.toInt ≤ 1 := by rw [ev77]; exact and_r (by decide)
                have J86 : ∀ (k86_0 : Int32) (H : Heap) (locs : List Loc) (ls : Array Slot), (0 ≤ k86_0.toInt) → (k86_0.toInt ≤ 1) → HT D cs A T O X H → va_S A s.heap H locs → lv_has ls 7 [(5, .int v66), (4, .int v59), (3, .int p40_3), (0, .ref a0), (2, .int x2)] → W p l e { frames := 2, cells := 0, slots := 0, locals := 45 } s m [.ref a0, .int x1, .int x2].toArray below meth c H locs 0 0 (MQ below (Ti D cs (fun r u => u = (T, O, X) ∧ 0 ≤ r.toInt ∧ r.toInt ≤ 1) A) [.ref a0, .int x1, .int x2].toArray s 0 0 A) (F0 m 86 ls [.int k86_0]) := by
                  intro k86_0 H locs ls l_k86_0 u_k86_0 hH hS hl
                  refine lv_istore (lv' := [(6, .int k86_0), (5, .int v66), (4, .int v59), (3, .int p40_3), (0, .ref a0), (2, .int x2)]) hx hb dX1_layOneMore_86 hl (by decide) rfl (fun ls hl => ?_)
                  refine lv_iload hx hb dX1_layOneMore_88 (lv_at hl 2 rfl) ?_
                  refine lv_bipush (v := 14) hx hb dX1_layOneMore_90 (by decide) ?_
                  have J172 : ∀  (H : Heap) (locs : List Loc) (ls : Array Slot), HT D cs A T O X H → va_S A s.heap H locs → lv_has ls 7 [(3, .int p40_3), (0, .ref a0), (2, .int x2)] → W p l e { frames := 2, cells := 0, slots := 0, locals := 45 } s m [.ref a0, .int x1, .int x2].toArray below meth c H locs 0 0 (MQ below (Ti D cs (fun r u => u = (T, O, X) ∧ 0 ≤ r.toInt ∧ r.toInt ≤ 1) A) [.ref a0, .int x1, .int x2].toArray s 0 0 A) (F0 m 172 ls []) := by
                    intro  H locs ls  hH hS hl
                    obtain ⟨v172, ev172⟩ : ∃ y : Int32, y = p40_3 + 1 := ⟨_, rfl⟩
                    have tv172 : v172.toInt = p40_3.toInt + (1) := by rw [ev172]; exact add_i rfl (by decide) (by omega) (by omega)
                    refine lv_iinc (v := v172) (lv' := [(3, .int v172), (0, .ref a0), (2, .int x2)]) hx hb dX1_layOneMore_172 hl (k := 0) rfl (by rw [ev172]; rfl) (by decide) rfl (fun ls hl => ?_)
                    refine lv_goto (tgt := 40) hx hb dX1_layOneMore_175 (by decide) ?_
                    exact ih40 _ (by omega) v172 _ _ _ rfl (by omega) (by omega) hH hS (lv_sub hl [0, 1, 2] rfl)
                  refine lv_icmp_ge (tgt := 121) hx hb dX1_layOneMore_92 (by decide) (fun c92 => ?_) (fun c92 => ?_)
                  · skip
                    have tc92 := f_ge (k := 14) (by decide) c92
                    refine lv_aload_n hx hb dX1_layOneMore_121 rfl (lv_at hl 4 rfl) ?_
                    refine t_get (ci := 1) (lst := ft1 0 0) (C := RX1) (F := TX1) (N := 7) hx hb hts uX1 hown hkb hH t_a0 (hO.no t_a0 (by decide)) (fun _ h9 => h9) rfl rfl 0 (by decide) rfl kw_302 (fun _ h9 => h9) dX1_layOneMore_122 (fun v9 h9 => ?_)
                    obtain ⟨v122, rfl, t_v122⟩ := h9
                    refine lv_iload hx hb dX1_layOneMore_125 (lv_at hl 1 rfl) ?_
                    refine t_ild hx hb hkb hH t_v122 (hO.no t_v122 (by decide)) (by omega) (by omega) dX1_layOneMore_127 (fun v127 h9 => ?_)
                    refine lv_iload_n hx hb dX1_layOneMore_128 rfl (lv_at hl 5 rfl) ?_
                    refine lv_iand hx hb dX1_layOneMore_129 ?_
                    refine lv_topi (fun v129 ev129 => ?_)
                    refine lv_if_eq (tgt := 141) hx hb dX1_layOneMore_130 (by decide) (fun c130 => ?_) (fun c130 => ?_)
                    · skip
                      have tc130 := f_eq (k := 0) (by decide) c130
                      refine lv_aload_n hx hb dX1_layOneMore_141 rfl (lv_at hl 4 rfl) ?_
                      refine lv_iload hx hb dX1_layOneMore_142 (lv_at hl 2 rfl) ?_
                      refine lv_aload_n hx hb dX1_layOneMore_144 rfl (lv_at hl 4 rfl) ?_
                      refine t_get (ci := 1) (lst := ft1 0 0) (C := RX1) (F := TX1) (N := 7) hx hb hts uX1 hown hkb hH t_a0 (hO.no t_a0 (by decide)) (fun _ h9 => h9) rfl rfl 0 (by decide) rfl kw_302 (fun _ h9 => h9) dX1_layOneMore_145 (fun v9 h9 => ?_)
                      obtain ⟨v145, rfl, t_v145⟩ := h9
                      refine lv_iload hx hb dX1_layOneMore_148 (lv_at hl 1 rfl) ?_
                      refine t_ild hx hb hkb hH t_v145 (hO.no t_v145 (by decide)) (by omega) (by omega) dX1_layOneMore_150 (fun v150 h9 => ?_)
                      refine lv_iload_n hx hb dX1_layOneMore_151 rfl (lv_at hl 5 rfl) ?_
                      refine lv_iconst (v := (-1)) hx hb dX1_layOneMore_152 (by decide) ?_
                      refine lv_ixor hx hb dX1_layOneMore_153 ?_
                      refine lv_topi (fun v153 ev153 => ?_)
                      refine lv_iand hx hb dX1_layOneMore_154 ?_
                      refine lv_topi (fun v154 ev154 => ?_)
                      refine lv_iload hx hb dX1_layOneMore_155 (lv_at hl 0 rfl) ?_
                      have J168 : ∀ (k168_0 : Int32) (H : Heap) (locs : List Loc) (ls : Array Slot), (0 ≤ k168_0.toInt) → (k168_0.toInt ≤ 8192) → HT D cs A T O X H → va_S A s.heap H locs → lv_has ls 7 [(3, .int p40_3), (0, .ref a0), (2, .int x2)] → W p l e { frames := 2, cells := 0, slots := 0, locals := 45 } s m [.ref a0, .int x1, .int x2].toArray below meth c H locs 0 0 (MQ below (Ti D cs (fun r u => u = (T, O, X) ∧ 0 ≤ r.toInt ∧ r.toInt ≤ 1) A) [.ref a0, .int x1, .int x2].toArray s 0 0 A) (F0 m 168 ls [.int k168_0, .int v154, .int v59, .ref a0]) := by
                        intro k168_0 H locs ls l_k168_0 u_k168_0 hH hS hl
                        refine lv_ior hx hb dX1_layOneMore_168 ?_
                        refine lv_topi (fun v168 ev168 => ?_)
                        refine tk_v hH hS hA (tr_V (n := 2) (As := [.int v59, .int v168]) hx hb hml hown hts hkb hH hOX hks hE hS hA (s_Cut_visitNear l D cs kf T O X a0 v59 v168 t_a0 (by omega) (by omega) (hO.sub (by decide))) kw_1036 kw_1038 ks_36 kw_10 kw_1039 (by decide +kernel) ⟨Nat.le_of_ble_eq_true rfl, Nat.le_of_ble_eq_true rfl⟩ (HT.recv (ci := 1) hkb hH t_a0 (hO.no t_a0 (by decide)) rfl) rfl rfl hl.1 (Nat.le_of_ble_eq_true rfl) dX1_layOneMore_169 ⟨Nat.le_of_ble_eq_true rfl, Nat.le_of_ble_eq_true rfl⟩) (fun u H locs hz9 hH hS => ?_)
                        have hz9 : u = (T, O, X) := hz9
                        subst hz9
                        have hH : HT D cs A T O X H := hH
                        refine W.widen (k := 0) (n := 0) (Nat.le_of_ble_eq_true rfl) (Nat.le_of_ble_eq_true rfl) ?_
                        exact J172  _ _ _  hH hS (lv_sub hl [0, 1, 2] rfl)
                      refine lv_if_eq (tgt := 167) hx hb dX1_layOneMore_157 (by decide) (fun c157 => ?_) (fun c157 => ?_)
                      · skip
                        have tc157 := f_eq (k := 0) (by decide) c157
                        refine lv_iconst (v := 0) hx hb dX1_layOneMore_167 (by decide) ?_
                        exact J168 0 _ _ _ (by decide) (by decide) hH hS (lv_sub hl [3, 4, 5] rfl)
                      · skip
                        have tc157 := f_ne (k := 0) (by decide) c157
                        refine lv_iconst (v := 1) hx hb dX1_layOneMore_160 (by decide) ?_
                        refine lv_iload hx hb dX1_layOneMore_161 (lv_at hl 1 rfl) ?_
                        refine lv_ishl hx hb dX1_layOneMore_163 ?_
                        refine lv_topi (fun v163 ev163 => ?_)
                        have tv163 : 1 ≤ v163.toInt ∧ v163.toInt ≤ 8192 := by rw [ev163]; exact shl_b 13 (by decide) (by omega) (by omega)
                        refine lv_goto (tgt := 168) hx hb dX1_layOneMore_164 (by decide) ?_
                        exact J168 v163 _ _ _ (by omega) (by omega) hH hS (lv_sub hl [3, 4, 5] rfl)
                    · skip
                      have tc130 := f_ne (k := 0) (by decide) c130
                      refine lv_aload_n hx hb dX1_layOneMore_133 rfl (lv_at hl 4 rfl) ?_
                      refine lv_iload hx hb dX1_layOneMore_134 (lv_at hl 2 rfl) ?_
                      refine tk_v hH hS hA (tr_V (n := 1) (As := [.int v59]) hx hb hml hown hts hkb hH hOX hks hE hS hA (s_Cut_lay l D cs kf T O X a0 v59 t_a0 (by omega) (by omega) (hO.sub (by decide))) kw_1032 kw_1034 ks_35 kw_10 kw_1035 (by decide +kernel) ⟨Nat.le_of_ble_eq_true rfl, Nat.le_of_ble_eq_true rfl⟩ (HT.recv (ci := 1) hkb hH t_a0 (hO.no t_a0 (by decide)) rfl) rfl rfl hl.1 (Nat.le_of_ble_eq_true rfl) dX1_layOneMore_136 ⟨Nat.le_of_ble_eq_true rfl, Nat.le_of_ble_eq_true rfl⟩) (fun u H locs hz9 hH hS => ?_)
                      have hz9 : u = (T, O, X) := hz9
                      subst hz9
                      have hH : HT D cs A T O X H := hH
                      refine W.widen (k := 0) (n := 0) (Nat.le_of_ble_eq_true rfl) (Nat.le_of_ble_eq_true rfl) ?_
                      refine lv_iconst (v := 1) hx hb dX1_layOneMore_139 (by decide) ?_
                      exact te_z hx hb hr hlocks (by rfl) hH hS (⟨rfl, by decide, by decide⟩) dX1_layOneMore_140
                  · skip
                    have tc92 := f_nge (k := 14) (by decide) c92
                    refine lv_aload_n hx hb dX1_layOneMore_95 rfl (lv_at hl 4 rfl) ?_
                    refine lv_iload hx hb dX1_layOneMore_96 (lv_at hl 2 rfl) ?_
                    refine lv_iload hx hb dX1_layOneMore_98 (lv_at hl 0 rfl) ?_
                    have J115 : ∀ (k115_0 : Int32) (H : Heap) (locs : List Loc) (ls : Array Slot), (-14 ≤ k115_0.toInt) → (k115_0.toInt ≤ 13) → HT D cs A T O X H → va_S A s.heap H locs → lv_has ls 7 [(3, .int p40_3), (0, .ref a0), (2, .int x2)] → W p l e { frames := 2, cells := 0, slots := 0, locals := 45 } s m [.ref a0, .int x1, .int x2].toArray below meth c H locs 0 0 (MQ below (Ti D cs (fun r u => u = (T, O, X) ∧ 0 ≤ r.toInt ∧ r.toInt ≤ 1) A) [.ref a0, .int x1, .int x2].toArray s 0 0 A) (F0 m 115 ls [.int k115_0, .int v59, .ref a0]) := by
                      intro k115_0 H locs ls l_k115_0 u_k115_0 hH hS hl
                      refine tk_v hH hS hA (tr_V (n := 2) (As := [.int v59, .int k115_0]) hx hb hml hown hts hkb hH hOX hks hE hS hA (s_Cut_visitBeyond l D cs kf T O X a0 v59 k115_0 t_a0 (by omega) (by omega) (by omega) (by omega) (hO.sub (by decide))) kw_1028 kw_1030 ks_34 kw_10 kw_1031 (by decide +kernel) ⟨Nat.le_of_ble_eq_true rfl, Nat.le_of_ble_eq_true rfl⟩ (HT.recv (ci := 1) hkb hH t_a0 (hO.no t_a0 (by decide)) rfl) rfl rfl hl.1 (Nat.le_of_ble_eq_true rfl) dX1_layOneMore_115 ⟨Nat.le_of_ble_eq_true rfl, Nat.le_of_ble_eq_true rfl⟩) (fun u H locs hz9 hH hS => ?_)
                      have hz9 : u = (T, O, X) := hz9
                      subst hz9
                      have hH : HT D cs A T O X H := hH
                      refine W.widen (k := 0) (n := 0) (Nat.le_of_ble_eq_true rfl) (Nat.le_of_ble_eq_true rfl) ?_
                      refine lv_goto (tgt := 172) hx hb dX1_layOneMore_118 (by decide) ?_
                      exact J172  _ _ _  hH hS (lv_sub hl [0, 1, 2] rfl)
                    refine lv_if_eq (tgt := 113) hx hb dX1_layOneMore_100 (by decide) (fun c100 => ?_) (fun c100 => ?_)
                    · skip
                      have tc100 := f_eq (k := 0) (by decide) c100
                      refine lv_iload hx hb dX1_layOneMore_113 (lv_at hl 1 rfl) ?_
                      exact J115 v66 _ _ _ (by omega) (by omega) hH hS (lv_sub hl [3, 4, 5] rfl)
                    · skip
                      have tc100 := f_ne (k := 0) (by decide) c100
                      refine lv_aload_n hx hb dX1_layOneMore_103 rfl (lv_at hl 4 rfl) ?_
                      refine t_get (ci := 1) (lst := ft1 0 0) (C := RX1) (F := TX1) (N := 7) hx hb hts uX1 hown hkb hH t_a0 (hO.no t_a0 (by decide)) (fun _ h9 => h9) rfl rfl 1 (by decide) rfl kw_303 (fun _ h9 => h9) dX1_layOneMore_104 (fun v9 h9 => ?_)
                      obtain ⟨v104, rfl, t_v104⟩ := h9
                      refine lv_iload hx hb dX1_layOneMore_107 (lv_at hl 1 rfl) ?_
                      refine t_ild hx hb hkb hH t_v104 (hO.no t_v104 (by decide)) (by omega) (by omega) dX1_layOneMore_109 (fun v109 h9 => ?_)
                      have tv109 : -14 ≤ v109.toInt ∧ v109.toInt ≤ 13 := h9
                      refine lv_goto (tgt := 115) hx hb dX1_layOneMore_110 (by decide) ?_
                      exact J115 v109 _ _ _ (by omega) (by omega) hH hS (lv_sub hl [3, 4, 5] rfl)
                refine lv_if_eq (tgt := 85) hx hb dX1_layOneMore_78 (by decide) (fun c78 => ?_) (fun c78 => ?_)
                · skip
                  have tc78 := f_eq (k := 0) (by decide) c78
                  refine lv_iconst (v := 0) hx hb dX1_layOneMore_85 (by decide) ?_
                  exact J86 0 _ _ _ (by decide) (by decide) hH hS (lv_sub hl [0, 1, 2, 3, 4] rfl)
                · skip
                  have tc78 := f_ne (k := 0) (by decide) c78
                  refine lv_iconst (v := 1) hx hb dX1_layOneMore_81 (by decide) ?_
                  refine lv_goto (tgt := 86) hx hb dX1_layOneMore_82 (by decide) ?_
                  exact J86 1 _ _ _ (by decide) (by decide) hH hS (lv_sub hl [0, 1, 2, 3, 4] rfl)
        refine lv_istore_n (lv' := [(3, .int 0), (0, .ref a0), (1, .int x1), (2, .int x2)]) hx hb dX1_layOneMore_39 rfl hl (by decide) rfl (fun ls hl => ?_)
        exact J40 _ 0 _ _ _ rfl (by decide) (by decide) hH hS (lv_sub hl [0, 1, 3] rfl)
      · skip
        have tc15 := f_nge (k := 14) (by decide) c15
        refine lv_iload_n hx hb dX1_layOneMore_18 rfl (lv_at hl 2 rfl) ?_
        refine lv_iload_n hx hb dX1_layOneMore_19 rfl (lv_at hl 0 rfl) ?_
        refine lv_ishr hx hb dX1_layOneMore_20 ?_
        refine lv_topi (fun v20 ev20 => ?_)
        refine lv_iconst (v := 1) hx hb dX1_layOneMore_21 (by decide) ?_
        refine lv_iand hx hb dX1_layOneMore_22 ?_
        refine lv_topi (fun v22 ev22 => ?_)
        have tv22 : 0 ≤ v22.toInt ∧ v22.toInt ≤ 1 := by rw [ev22]; exact and_r (by decide)
        have J32 : ∀  (H : Heap) (locs : List Loc) (ls : Array Slot), HT D cs A T O X H → va_S A s.heap H locs → lv_has ls 7 [(3, .int p12_3), (0, .ref a0), (1, .int x1), (2, .int x2)] → W p l e { frames := 2, cells := 0, slots := 0, locals := 45 } s m [.ref a0, .int x1, .int x2].toArray below meth c H locs 0 0 (MQ below (Ti D cs (fun r u => u = (T, O, X) ∧ 0 ≤ r.toInt ∧ r.toInt ≤ 1) A) [.ref a0, .int x1, .int x2].toArray s 0 0 A) (F0 m 32 ls []) := by
          intro  H locs ls  hH hS hl
          obtain ⟨v32, ev32⟩ : ∃ y : Int32, y = p12_3 + 1 := ⟨_, rfl⟩
          have tv32 : v32.toInt = p12_3.toInt + (1) := by rw [ev32]; exact add_i rfl (by decide) (by omega) (by omega)
          refine lv_iinc (v := v32) (lv' := [(3, .int v32), (0, .ref a0), (1, .int x1), (2, .int x2)]) hx hb dX1_layOneMore_32 hl (k := 0) rfl (by rw [ev32]; rfl) (by decide) rfl (fun ls hl => ?_)
          refine lv_goto (tgt := 12) hx hb dX1_layOneMore_35 (by decide) ?_
          exact ih12 _ (by omega) v32 _ _ _ rfl (by omega) (by omega) hH hS (lv_sub hl [0, 1, 2, 3] rfl)
        refine lv_if_eq (tgt := 32) hx hb dX1_layOneMore_23 (by decide) (fun c23 => ?_) (fun c23 => ?_)
        · skip
          have tc23 := f_eq (k := 0) (by decide) c23
          exact J32  _ _ _  hH hS (lv_sub hl [0, 1, 2, 3] rfl)
        · skip
          have tc23 := f_ne (k := 0) (by decide) c23
          refine lv_aload_n hx hb dX1_layOneMore_26 rfl (lv_at hl 1 rfl) ?_
          refine lv_iload_n hx hb dX1_layOneMore_27 rfl (lv_at hl 0 rfl) ?_
          refine lv_iconst (v := (-1)) hx hb dX1_layOneMore_28 (by decide) ?_
          refine tk_v hH hS hA (tr_V (n := 2) (As := [.int p12_3, .int (-1)]) hx hb hml hown hts hkb hH hOX hks hE hS hA (s_Cut_visit l D cs kf T O X a0 p12_3 ((-1)) t_a0 (by omega) (by omega) (by decide) (by decide) (hO.sub (by decide))) kw_1024 kw_1026 ks_33 kw_10 kw_1027 (by decide +kernel) ⟨Nat.le_of_ble_eq_true rfl, Nat.le_of_ble_eq_true rfl⟩ (HT.recv (ci := 1) hkb hH t_a0 (hO.no t_a0 (by decide)) rfl) rfl rfl hl.1 (Nat.le_of_ble_eq_true rfl) dX1_layOneMore_29 ⟨Nat.le_of_ble_eq_true rfl, Nat.le_of_ble_eq_true rfl⟩) (fun u H locs hz9 hH hS => ?_)
          have hz9 : u = (T, O, X) := hz9
          subst hz9
          have hH : HT D cs A T O X H := hH
          refine W.widen (k := 0) (n := 0) (Nat.le_of_ble_eq_true rfl) (Nat.le_of_ble_eq_true rfl) ?_
          exact J32  _ _ _  hH hS (lv_sub hl [0, 1, 2, 3] rfl)
  refine lv_istore_n (lv' := [(3, .int 0), (0, .ref a0), (1, .int x1), (2, .int x2)]) hx hb dX1_layOneMore_11 rfl hl (by decide) rfl (fun ls hl => ?_)
  exact J12 _ 0 _ _ _ rfl (by decide) (by decide) hH hS (lv_sub hl [0, 1, 2, 3] rfl)
set_option maxHeartbeats 4000000 in
set_option maxRecDepth 100000 in
theorem s_Cut_fewest (l : Launch) (D : va_G) (cs : CS) (kf : KF) (T : TF) (O : List Nat) (X : va_W) (a0 : Nat) (a1 : Nat) (x2 : Int32) (x3 : Int32) (t_a0 : T a0 = some (11, 0, 0)) (t_a1 : T a1 = some (15, 0, 0)) (hO : okO T O [1, 11, 12, 15, 19]) : TK l D cs kf yX1_fewest cX1_fewest 8 (some (.int)) { frames := 5, cells := 0, slots := 0, locals := 129 } [.ref a0, .ref a1, .int x2, .int x3] T O X (Ti D cs (fun r u => u = (T, O, X) ∧ 0 ≤ r.toInt ∧ r.toInt ≤ 99)) := by
  refine tk_of (by decide) (Nat.le_of_ble_eq_true rfl) (fun p e s m below meth c ls A H locs hx hb hr hml hown hts hlocks hnm hkb hH hS hA hOX hks hE hl => ?_)
  have hown : s.vm.findClass RX1 = some m.cls := hown
  have hl : lv_has ls 8 [(0, .ref a0), (1, .ref a1), (2, .int x2), (3, .int x3)] := hl
  refine lv_iload_n hx hb dX1_fewest_0 rfl (lv_at hl 2 rfl) ?_
  refine lv_aload_n hx hb dX1_fewest_1 rfl (lv_at hl 1 rfl) ?_
  refine t_get (ci := 5) (lst := ft5 0 0) (C := RX5) (F := TX5) (N := 6) hx hb hts uX5 hown hkb hH t_a1 (hO.no t_a1 (by decide)) (fun _ h9 => h9) rfl rfl 0 (by decide) rfl kw_245 (fun _ h9 => h9) dX1_fewest_2 (fun v9 h9 => ?_)
  obtain ⟨v2, hv2, gv2, rfl, t_v2⟩ := h9
  refine t_get (ci := 9) (lst := ft9w hv2 gv2) (C := RX9) (F := TX9) (N := 14) hx hb hts uX9 hown hkb hH t_v2.1 (hO.no t_v2.1 (by decide)) (fun fs => (ob9w t_v2 fs).mp) rfl rfl 4 (by decide) rfl kw_124 (fun _ h9 => h9) dX1_fewest_5 (fun v9 h9 => ?_)
  obtain ⟨v5, rfl, l_v5, u_v5⟩ := h9
  refine lv_iand hx hb dX1_fewest_8 ?_
  refine lv_topi (fun v8 ev8 => ?_)
  have tv8 : 0 ≤ v8.toInt ∧ v8.toInt ≤ v5.toInt := by rw [ev8]; exact and_r (by omega)
  refine lv_istore (lv' := [(4, .int v8), (0, .ref a0), (1, .ref a1), (2, .int x2), (3, .int x3)]) hx hb dX1_fewest_9 hl (by decide) rfl (fun ls hl => ?_)
  refine lv_iload_n hx hb dX1_fewest_11 rfl (lv_at hl 3 rfl) ?_
  refine lv_iload hx hb dX1_fewest_12 (lv_at hl 0 rfl) ?_
  refine lv_iconst (v := (-1)) hx hb dX1_fewest_14 (by decide) ?_
  refine lv_ixor hx hb dX1_fewest_15 ?_
  refine lv_topi (fun v15 ev15 => ?_)
  refine lv_iand hx hb dX1_fewest_16 ?_
  refine lv_topi (fun v16 ev16 => ?_)
  refine lv_iload_n hx hb dX1_fewest_17 rfl (lv_at hl 4 rfl) ?_
  refine lv_iconst (v := (-1)) hx hb dX1_fewest_18 (by decide) ?_
  refine lv_ixor hx hb dX1_fewest_19 ?_
  refine lv_topi (fun v19 ev19 => ?_)
  refine lv_iand hx hb dX1_fewest_20 ?_
  refine lv_topi (fun v20 ev20 => ?_)
  refine lv_istore (lv' := [(5, .int v20), (4, .int v8), (0, .ref a0), (1, .ref a1), (2, .int x2), (3, .int x3)]) hx hb dX1_fewest_21 hl (by decide) rfl (fun ls hl => ?_)
  refine lv_aload_n hx hb dX1_fewest_23 rfl (lv_at hl 3 rfl) ?_
  refine lv_iload_n hx hb dX1_fewest_24 rfl (lv_at hl 4 rfl) ?_
  refine lv_aload_n hx hb dX1_fewest_25 rfl (lv_at hl 3 rfl) ?_
  refine t_get (ci := 5) (lst := ft5 0 0) (C := RX5) (F := TX5) (N := 6) hx hb hts uX5 hown hkb hH t_a1 (hO.no t_a1 (by decide)) (fun _ h9 => h9) rfl rfl 0 (by decide) rfl kw_245 (fun _ h9 => h9) dX1_fewest_26 (fun v9 h9 => ?_)
  obtain ⟨v26, hv26, gv26, rfl, t_v26⟩ := h9
  refine t_get (ci := 9) (lst := ft9w hv26 gv26) (C := RX9) (F := TX9) (N := 14) hx hb hts uX9 hown hkb hH t_v26.1 (hO.no t_v26.1 (by decide)) (fun fs => (ob9w t_v26 fs).mp) rfl rfl 3 (by decide) rfl kw_117 (fun _ h9 => h9) dX1_fewest_29 (fun v9 h9 => ?_)
  obtain ⟨v29, rfl, l_v29, u_v29⟩ := h9
  refine lv_iand hx hb dX1_fewest_32 ?_
  refine lv_topi (fun v32 ev32 => ?_)
  have tv32 : 0 ≤ v32.toInt ∧ v32.toInt ≤ v29.toInt := by rw [ev32]; exact and_r (by omega)
  refine lv_iload hx hb dX1_fewest_33 (lv_at hl 0 rfl) ?_
  refine lv_iload_n hx hb dX1_fewest_35 rfl (lv_at hl 4 rfl) ?_
  refine lv_iconst (v := 0) hx hb dX1_fewest_36 (by decide) ?_
  refine tk_i hH hS hA (tr_V (n := 4) (As := [.int v32, .int v20, .int x2, .int 0]) hx hb hml hown hts hkb hH hOX hks hE hS hA (s_Rows_spread l D cs kf T O X a1 v32 v20 x2 (0) t_a1 (by omega) (by omega) (hO.sub (by decide))) kw_1018 kw_855 kw_856 kw_8 kw_857 (by decide +kernel) ⟨Nat.le_of_ble_eq_true rfl, Nat.le_of_ble_eq_true rfl⟩ (HT.recv (ci := 5) hkb hH t_a1 (hO.no t_a1 (by decide)) rfl) rfl rfl hl.1 (Nat.le_of_ble_eq_true rfl) dX1_fewest_37 ⟨Nat.le_of_ble_eq_true rfl, Nat.le_of_ble_eq_true rfl⟩) (fun v37 u H locs hz9 hH hS => ?_)
  obtain ⟨rfl, l_v37, u_v37⟩ := hz9
  have hH : HT D cs A T O X H := hH
  refine W.widen (k := 0) (n := 0) (Nat.le_of_ble_eq_true rfl) (Nat.le_of_ble_eq_true rfl) ?_
  refine lv_istore (lv' := [(6, .int v37), (5, .int v20), (4, .int v8), (0, .ref a0), (1, .ref a1), (2, .int x2), (3, .int x3)]) hx hb dX1_fewest_40 hl (by decide) rfl (fun ls hl => ?_)
  refine lv_iload hx hb dX1_fewest_42 (lv_at hl 0 rfl) ?_
  refine lv_iload hx hb dX1_fewest_44 (lv_at hl 2 rfl) ?_
  refine lv_iand hx hb dX1_fewest_46 ?_
  refine lv_topi (fun v46 ev46 => ?_)
  have tv46 : 0 ≤ v46.toInt ∧ v46.toInt ≤ v37.toInt := by rw [ev46]; exact and_l (by omega)
  have ttv46 : 0 ≤ v46.toInt ∧ v46.toInt ≤ v8.toInt := by rw [ev46]; exact and_r (by omega)
  refine lv_if_eq (tgt := 53) hx hb dX1_fewest_47 (by decide) (fun c47 => ?_) (fun c47 => ?_)
  · skip
    have tc47 := f_eq (k := 0) (by decide) c47
    refine lv_iconst (v := 0) hx hb dX1_fewest_53 (by decide) ?_
    have J56 : ∀ (n : Nat) (p56_7 : Int32) (H : Heap) (locs : List Loc) (ls : Array Slot), (14 - p56_7.toInt).toNat = n → (0 ≤ p56_7.toInt) → (p56_7.toInt ≤ 14) → HT D cs A T O X H → va_S A s.heap H locs → lv_has ls 8 [(7, .int p56_7), (6, .int v37), (5, .int v20), (4, .int v8), (0, .ref a0), (1, .ref a1), (2, .int x2), (3, .int x3)] → W p l e { frames := 5, cells := 0, slots := 0, locals := 129 } s m [.ref a0, .ref a1, .int x2, .int x3].toArray below meth c H locs 0 0 (MQ below (Ti D cs (fun r u => u = (T, O, X) ∧ 0 ≤ r.toInt ∧ r.toInt ≤ 99) A) [.ref a0, .ref a1, .int x2, .int x3].toArray s 0 0 A) (F0 m 56 ls []) := by
      intro n
      induction n using Nat.strongRecOn with
      | _ n ih56 =>
        intro p56_7 H locs ls hm56 l_p56_7 u_p56_7 hH hS hl
        refine lv_iload hx hb dX1_fewest_56 (lv_at hl 0 rfl) ?_
        refine lv_bipush (v := 14) hx hb dX1_fewest_58 (by decide) ?_
        refine lv_icmp_ge (tgt := 114) hx hb dX1_fewest_60 (by decide) (fun c60 => ?_) (fun c60 => ?_)
        · skip
          have tc60 := f_ge (k := 14) (by decide) c60
          refine lv_aload_n hx hb dX1_fewest_114 rfl (lv_at hl 4 rfl) ?_
          refine lv_iconst (v := 0) hx hb dX1_fewest_115 (by decide) ?_
          refine t_put (ci := 1) (lst := ft1 0 0) (v := .int 0) (ty := tyX1 2) (C := RX1) (F := TX1) (N := 7) hx hb hts uX1 tyX1 tyX1_ok nmX1 hown hkb hH hS t_a0 (hO.no t_a0 (by decide)) (fun _ => Iff.rfl) rfl rfl 2 (by decide) rfl (⟨_, rfl⟩) kw_304 (fun _ h9 => h9) rfl (tyX1_ok 2 (by decide)) rfl rfl dX1_fewest_116 (fun H locs hH hS => ?_)
          refine lv_iconst (v := 0) hx hb dX1_fewest_119 (by decide) ?_
          have J122 : ∀ (n : Nat) (p122_7 : Int32) (H : Heap) (locs : List Loc) (ls : Array Slot), (14 - p122_7.toInt).toNat = n → (0 ≤ p122_7.toInt) → (p122_7.toInt ≤ 14) → HT D cs A T O X H → va_S A s.heap H locs → lv_has ls 8 [(7, .int p122_7), (6, .int v37), (4, .int v8), (0, .ref a0), (3, .int x3)] → W p l e { frames := 5, cells := 0, slots := 0, locals := 129 } s m [.ref a0, .ref a1, .int x2, .int x3].toArray below meth c H locs 0 0 (MQ below (Ti D cs (fun r u => u = (T, O, X) ∧ 0 ≤ r.toInt ∧ r.toInt ≤ 99) A) [.ref a0, .ref a1, .int x2, .int x3].toArray s 0 0 A) (F0 m 122 ls []) := by
            intro n
            induction n using Nat.strongRecOn with
            | _ n ih122 =>
              intro p122_7 H locs ls hm122 l_p122_7 u_p122_7 hH hS hl
              refine lv_iload hx hb dX1_fewest_122 (lv_at hl 0 rfl) ?_
              refine lv_bipush (v := 14) hx hb dX1_fewest_124 (by decide) ?_
              have J148 : ∀  (H : Heap) (locs : List Loc) (ls : Array Slot), HT D cs A T O X H → va_S A s.heap H locs → lv_has ls 8 [(7, .int p122_7)] → W p l e { frames := 5, cells := 0, slots := 0, locals := 129 } s m [.ref a0, .ref a1, .int x2, .int x3].toArray below meth c H locs 0 0 (MQ below (Ti D cs (fun r u => u = (T, O, X) ∧ 0 ≤ r.toInt ∧ r.toInt ≤ 99) A) [.ref a0, .ref a1, .int x2, .int x3].toArray s 0 0 A) (F0 m 148 ls []) := by
                intro  H locs ls  hH hS hl
                refine lv_iload hx hb dX1_fewest_148 (lv_at hl 0 rfl) ?_
                exact te_i hx hb hr hlocks hH hS (⟨rfl, by omega, by omega⟩) dX1_fewest_150
              refine lv_icmp_ge (tgt := 148) hx hb dX1_fewest_126 (by decide) (fun c126 => ?_) (fun c126 => ?_)
              · skip
                have tc126 := f_ge (k := 14) (by decide) c126
                exact J148  _ _ _  hH hS (lv_sub hl [0] rfl)
              · skip
                have tc126 := f_nge (k := 14) (by decide) c126
                refine lv_aload_n hx hb dX1_fewest_129 rfl (lv_at hl 3 rfl) ?_
                refine lv_iload hx hb dX1_fewest_130 (lv_at hl 1 rfl) ?_
                refine lv_iload_n hx hb dX1_fewest_132 rfl (lv_at hl 4 rfl) ?_
                refine lv_iand hx hb dX1_fewest_133 ?_
                refine lv_topi (fun v133 ev133 => ?_)
                have tv133 : 0 ≤ v133.toInt ∧ v133.toInt ≤ v37.toInt := by rw [ev133]; exact and_l (by omega)
                refine lv_iload hx hb dX1_fewest_134 (lv_at hl 2 rfl) ?_
                refine tk_i hH hS hA (tr_V (n := 2) (As := [.int v133, .int v8]) hx hb hml hown hts hkb hH hOX hks hE hS hA (s_Cut_layOneMore l D cs kf T O X a0 v133 v8 t_a0 (hO.sub (by decide))) kw_1020 kw_1022 ks_32 kw_10 kw_1023 (by decide +kernel) ⟨Nat.le_of_ble_eq_true rfl, Nat.le_of_ble_eq_true rfl⟩ (HT.recv (ci := 1) hkb hH t_a0 (hO.no t_a0 (by decide)) rfl) rfl rfl hl.1 (Nat.le_of_ble_eq_true rfl) dX1_fewest_136 ⟨Nat.le_of_ble_eq_true rfl, Nat.le_of_ble_eq_true rfl⟩) (fun v136 u H locs hz9 hH hS => ?_)
                obtain ⟨rfl, l_v136, u_v136⟩ := hz9
                have hH : HT D cs A T O X H := hH
                refine W.widen (k := 0) (n := 0) (Nat.le_of_ble_eq_true rfl) (Nat.le_of_ble_eq_true rfl) ?_
                refine lv_if_eq (tgt := 148) hx hb dX1_fewest_139 (by decide) (fun c139 => ?_) (fun c139 => ?_)
                · skip
                  have tc139 := f_eq (k := 0) (by decide) c139
                  exact J148  _ _ _  hH hS (lv_sub hl [0] rfl)
                · skip
                  have tc139 := f_ne (k := 0) (by decide) c139
                  obtain ⟨v142, ev142⟩ : ∃ y : Int32, y = p122_7 + 1 := ⟨_, rfl⟩
                  have tv142 : v142.toInt = p122_7.toInt + (1) := by rw [ev142]; exact add_i rfl (by decide) (by omega) (by omega)
                  refine lv_iinc (v := v142) (lv' := [(7, .int v142), (6, .int v37), (4, .int v8), (0, .ref a0), (3, .int x3)]) hx hb dX1_fewest_142 hl (k := 0) rfl (by rw [ev142]; rfl) (by decide) rfl (fun ls hl => ?_)
                  refine lv_goto (tgt := 122) hx hb dX1_fewest_145 (by decide) ?_
                  exact ih122 _ (by omega) v142 _ _ _ rfl (by omega) (by omega) hH hS (lv_sub hl [0, 1, 2, 3, 4] rfl)
          refine lv_istore (lv' := [(7, .int 0), (6, .int v37), (5, .int v20), (4, .int v8), (0, .ref a0), (1, .ref a1), (2, .int x2), (3, .int x3)]) hx hb dX1_fewest_120 hl (by decide) rfl (fun ls hl => ?_)
          exact J122 _ 0 _ _ _ rfl (by decide) (by decide) hH hS (lv_sub hl [0, 1, 3, 4, 7] rfl)
        · skip
          have tc60 := f_nge (k := 14) (by decide) c60
          refine lv_iload_n hx hb dX1_fewest_63 rfl (lv_at hl 6 rfl) ?_
          refine lv_iload_n hx hb dX1_fewest_64 rfl (lv_at hl 7 rfl) ?_
          refine lv_iand hx hb dX1_fewest_65 ?_
          refine lv_topi (fun v65 ev65 => ?_)
          refine lv_iconst (v := 1) hx hb dX1_fewest_66 (by decide) ?_
          refine lv_iload hx hb dX1_fewest_67 (lv_at hl 0 rfl) ?_
          refine lv_ishl hx hb dX1_fewest_69 ?_
          refine lv_topi (fun v69 ev69 => ?_)
          have tv69 : 1 ≤ v69.toInt ∧ v69.toInt ≤ 8192 := by rw [ev69]; exact shl_b 13 (by decide) (by omega) (by omega)
          refine lv_iand hx hb dX1_fewest_70 ?_
          refine lv_topi (fun v70 ev70 => ?_)
          have tv70 : 0 ≤ v70.toInt ∧ v70.toInt ≤ v69.toInt := by rw [ev70]; exact and_r (by omega)
          have J108 : ∀  (H : Heap) (locs : List Loc) (ls : Array Slot), HT D cs A T O X H → va_S A s.heap H locs → lv_has ls 8 [(7, .int p56_7), (6, .int v37), (5, .int v20), (4, .int v8), (0, .ref a0), (1, .ref a1), (2, .int x2), (3, .int x3)] → W p l e { frames := 5, cells := 0, slots := 0, locals := 129 } s m [.ref a0, .ref a1, .int x2, .int x3].toArray below meth c H locs 0 0 (MQ below (Ti D cs (fun r u => u = (T, O, X) ∧ 0 ≤ r.toInt ∧ r.toInt ≤ 99) A) [.ref a0, .ref a1, .int x2, .int x3].toArray s 0 0 A) (F0 m 108 ls []) := by
            intro  H locs ls  hH hS hl
            obtain ⟨v108, ev108⟩ : ∃ y : Int32, y = p56_7 + 1 := ⟨_, rfl⟩
            have tv108 : v108.toInt = p56_7.toInt + (1) := by rw [ev108]; exact add_i rfl (by decide) (by omega) (by omega)
            refine lv_iinc (v := v108) (lv' := [(7, .int v108), (6, .int v37), (5, .int v20), (4, .int v8), (0, .ref a0), (1, .ref a1), (2, .int x2), (3, .int x3)]) hx hb dX1_fewest_108 hl (k := 0) rfl (by rw [ev108]; rfl) (by decide) rfl (fun ls hl => ?_)
            refine lv_goto (tgt := 56) hx hb dX1_fewest_111 (by decide) ?_
            exact ih56 _ (by omega) v108 _ _ _ rfl (by omega) (by omega) hH hS (lv_sub hl [0, 1, 2, 3, 4, 5, 6, 7] rfl)
          refine lv_if_eq (tgt := 108) hx hb dX1_fewest_71 (by decide) (fun c71 => ?_) (fun c71 => ?_)
          · skip
            have tc71 := f_eq (k := 0) (by decide) c71
            exact J108  _ _ _  hH hS (lv_sub hl [0, 1, 2, 3, 4, 5, 6, 7] rfl)
          · skip
            have tc71 := f_ne (k := 0) (by decide) c71
            refine lv_aload_n hx hb dX1_fewest_74 rfl (lv_at hl 4 rfl) ?_
            refine t_get (ci := 1) (lst := ft1 0 0) (C := RX1) (F := TX1) (N := 7) hx hb hts uX1 hown hkb hH t_a0 (hO.no t_a0 (by decide)) (fun _ h9 => h9) rfl rfl 0 (by decide) rfl kw_302 (fun _ h9 => h9) dX1_fewest_75 (fun v9 h9 => ?_)
            obtain ⟨v75, rfl, t_v75⟩ := h9
            refine lv_iload hx hb dX1_fewest_78 (lv_at hl 0 rfl) ?_
            refine lv_aload_n hx hb dX1_fewest_80 rfl (lv_at hl 5 rfl) ?_
            refine lv_aload_n hx hb dX1_fewest_81 rfl (lv_at hl 5 rfl) ?_
            refine lv_iload hx hb dX1_fewest_82 (lv_at hl 0 rfl) ?_
            refine lv_iload_n hx hb dX1_fewest_84 rfl (lv_at hl 6 rfl) ?_
            refine tk_i hH hS hA (tr_V (n := 2) (As := [.int p56_7, .int x2]) hx hb hml hown hts hkb hH hOX hks hE hS hA (s_Rows_stepped l D cs kf T O X a1 p56_7 x2 t_a1 (hO.sub (by decide))) kw_1019 kw_863 kw_864 kw_8 kw_865 (by decide +kernel) ⟨Nat.le_of_ble_eq_true rfl, Nat.le_of_ble_eq_true rfl⟩ (HT.recv (ci := 5) hkb hH t_a1 (hO.no t_a1 (by decide)) rfl) rfl rfl hl.1 (Nat.le_of_ble_eq_true rfl) dX1_fewest_85 ⟨Nat.le_of_ble_eq_true rfl, Nat.le_of_ble_eq_true rfl⟩) (fun v85 u H locs hz9 hH hS => ?_)
            obtain ⟨rfl, l_v85, u_v85⟩ := hz9
            have hH : HT D cs A T O X H := hH
            refine W.widen (k := 0) (n := 0) (Nat.le_of_ble_eq_true rfl) (Nat.le_of_ble_eq_true rfl) ?_
            refine lv_iload hx hb dX1_fewest_88 (lv_at hl 2 rfl) ?_
            refine lv_iload_n hx hb dX1_fewest_90 rfl (lv_at hl 6 rfl) ?_
            refine lv_iconst (v := 0) hx hb dX1_fewest_91 (by decide) ?_
            refine tk_i hH hS hA (tr_V (n := 4) (As := [.int v85, .int v20, .int x2, .int 0]) hx hb hml hown hts hkb hH hOX hks hE hS hA (s_Rows_spread l D cs kf T O X a1 v85 v20 x2 (0) t_a1 (by omega) (by omega) (hO.sub (by decide))) kw_1018 kw_855 kw_856 kw_8 kw_857 (by decide +kernel) ⟨Nat.le_of_ble_eq_true rfl, Nat.le_of_ble_eq_true rfl⟩ (HT.recv (ci := 5) hkb hH t_a1 (hO.no t_a1 (by decide)) rfl) rfl rfl hl.1 (Nat.le_of_ble_eq_true rfl) dX1_fewest_92 ⟨Nat.le_of_ble_eq_true rfl, Nat.le_of_ble_eq_true rfl⟩) (fun v92 u H locs hz9 hH hS => ?_)
            obtain ⟨rfl, l_v92, u_v92⟩ := hz9
            have hH : HT D cs A T O X H := hH
            refine W.widen (k := 0) (n := 0) (Nat.le_of_ble_eq_true rfl) (Nat.le_of_ble_eq_true rfl) ?_
            refine lv_iload_n hx hb dX1_fewest_95 rfl (lv_at hl 7 rfl) ?_
            refine lv_iload hx hb dX1_fewest_96 (lv_at hl 3 rfl) ?_
            refine lv_ior hx hb dX1_fewest_98 ?_
            refine lv_topi (fun v98 ev98 => ?_)
            refine lv_iand hx hb dX1_fewest_99 ?_
            refine lv_topi (fun v99 ev99 => ?_)
            have tv99 : 0 ≤ v99.toInt ∧ v99.toInt ≤ v92.toInt := by rw [ev99]; exact and_l (by omega)
            refine lv_iconst (v := 1) hx hb dX1_fewest_100 (by decide) ?_
            refine lv_iload hx hb dX1_fewest_101 (lv_at hl 0 rfl) ?_
            refine lv_ishl hx hb dX1_fewest_103 ?_
            refine lv_topi (fun v103 ev103 => ?_)
            have tv103 : 1 ≤ v103.toInt ∧ v103.toInt ≤ 8192 := by rw [ev103]; exact shl_b 13 (by decide) (by omega) (by omega)
            refine lv_iconst (v := (-1)) hx hb dX1_fewest_104 (by decide) ?_
            refine lv_ixor hx hb dX1_fewest_105 ?_
            refine lv_topi (fun v105 ev105 => ?_)
            refine lv_iand hx hb dX1_fewest_106 ?_
            refine lv_topi (fun v106 ev106 => ?_)
            have tv106 : 0 ≤ v106.toInt ∧ v106.toInt ≤ v99.toInt := by rw [ev106]; exact and_l (by omega)
            refine t_ist hx hb hkb hH hS t_v75 (hO.no t_v75 (by decide)) (by omega) (by omega) (cp_0 _) dX1_fewest_107 (fun H locs hH hS => ?_)
            exact J108  _ _ _  hH hS (lv_sub hl [0, 1, 2, 3, 4, 5, 6, 7] rfl)
    refine lv_istore (lv' := [(7, .int 0), (6, .int v37), (5, .int v20), (4, .int v8), (0, .ref a0), (1, .ref a1), (2, .int x2), (3, .int x3)]) hx hb dX1_fewest_54 hl (by decide) rfl (fun ls hl => ?_)
    exact J56 _ 0 _ _ _ rfl (by decide) (by decide) hH hS (lv_sub hl [0, 1, 2, 3, 4, 5, 6, 7] rfl)
  · skip
    have tc47 := f_ne (k := 0) (by decide) c47
    refine lv_bipush (v := 99) hx hb dX1_fewest_50 (by decide) ?_
    exact te_i hx hb hr hlocks hH hS (⟨rfl, by decide, by decide⟩) dX1_fewest_52
set_option maxHeartbeats 4000000 in
set_option maxRecDepth 100000 in
theorem s_Cut_leastSet (l : Launch) (D : va_G) (cs : CS) (kf : KF) (T : TF) (O : List Nat) (X : va_W) (a0 : Nat) (a1 : Nat) (x2 : Int32) (t_a0 : T a0 = some (11, 0, 0)) (t_a1 : T a1 = some (15, 0, 0)) (hO : okO T O [1, 11, 12, 15, 19]) : TK l D cs kf yX1_leastSet cX1_leastSet 7 (some (.int)) { frames := 6, cells := 0, slots := 0, locals := 156 } [.ref a0, .ref a1, .int x2] T O X (Ti D cs (fun r u => u = (T, O, X) ∧ -1 ≤ r.toInt ∧ r.toInt ≤ 16383)) := by
  refine tk_of (by decide) (Nat.le_of_ble_eq_true rfl) (fun p e s m below meth c ls A H locs hx hb hr hml hown hts hlocks hnm hkb hH hS hA hOX hks hE hl => ?_)
  have hown : s.vm.findClass RX1 = some m.cls := hown
  have hl : lv_has ls 7 [(0, .ref a0), (1, .ref a1), (2, .int x2)] := hl
  refine lv_iload_n hx hb dX1_leastSet_0 rfl (lv_at hl 2 rfl) ?_
  refine lv_aload_n hx hb dX1_leastSet_1 rfl (lv_at hl 1 rfl) ?_
  refine t_get (ci := 5) (lst := ft5 0 0) (C := RX5) (F := TX5) (N := 6) hx hb hts uX5 hown hkb hH t_a1 (hO.no t_a1 (by decide)) (fun _ h9 => h9) rfl rfl 0 (by decide) rfl kw_245 (fun _ h9 => h9) dX1_leastSet_2 (fun v9 h9 => ?_)
  obtain ⟨v2, hv2, gv2, rfl, t_v2⟩ := h9
  refine tk_i hH hS hA (tr_V (n := 0) (As := []) hx hb hml hown hts hkb hH hOX hks hE hS hA (s_Wall_middles l D cs kf T O X v2 hv2 gv2 t_v2 (hO.sub (by decide))) kw_1048 kw_683 kw_684 kw_5 kw_685 (by decide +kernel) ⟨Nat.le_of_ble_eq_true rfl, Nat.le_of_ble_eq_true rfl⟩ (HT.recv (ci := 9) hkb hH t_v2.1 (hO.no t_v2.1 (by decide)) rfl) rfl rfl hl.1 (Nat.le_of_ble_eq_true rfl) dX1_leastSet_5 ⟨Nat.le_of_ble_eq_true rfl, Nat.le_of_ble_eq_true rfl⟩) (fun v5 u H locs hz9 hH hS => ?_)
  obtain ⟨rfl, l_v5, u_v5⟩ := hz9
  have hH : HT D cs A T O X H := hH
  refine W.widen (k := 0) (n := 0) (Nat.le_of_ble_eq_true rfl) (Nat.le_of_ble_eq_true rfl) ?_
  refine lv_iand hx hb dX1_leastSet_8 ?_
  refine lv_topi (fun v8 ev8 => ?_)
  have tv8 : 0 ≤ v8.toInt ∧ v8.toInt ≤ v5.toInt := by rw [ev8]; exact and_r (by omega)
  refine lv_istore_n (lv' := [(3, .int v8), (0, .ref a0), (1, .ref a1), (2, .int x2)]) hx hb dX1_leastSet_9 rfl hl (by decide) rfl (fun ls hl => ?_)
  refine lv_aload_n hx hb dX1_leastSet_10 rfl (lv_at hl 1 rfl) ?_
  refine lv_aload_n hx hb dX1_leastSet_11 rfl (lv_at hl 2 rfl) ?_
  refine lv_iload_n hx hb dX1_leastSet_12 rfl (lv_at hl 3 rfl) ?_
  refine lv_iload_n hx hb dX1_leastSet_13 rfl (lv_at hl 0 rfl) ?_
  refine tk_i hH hS hA (tr_V (n := 3) (As := [.ref a1, .int x2, .int v8]) hx hb hml hown hts hkb hH hOX hks hE hS hA (s_Cut_fewest l D cs kf T O X a0 a1 x2 v8 t_a0 t_a1 (hO.sub (by decide))) kw_1049 kw_1015 kw_1016 kw_10 kw_1017 (by decide +kernel) ⟨Nat.le_of_ble_eq_true rfl, Nat.le_of_ble_eq_true rfl⟩ (HT.recv (ci := 1) hkb hH t_a0 (hO.no t_a0 (by decide)) rfl) rfl rfl hl.1 (Nat.le_of_ble_eq_true rfl) dX1_leastSet_14 ⟨Nat.le_of_ble_eq_true rfl, Nat.le_of_ble_eq_true rfl⟩) (fun v14 u H locs hz9 hH hS => ?_)
  obtain ⟨rfl, l_v14, u_v14⟩ := hz9
  have hH : HT D cs A T O X H := hH
  refine W.widen (k := 0) (n := 0) (Nat.le_of_ble_eq_true rfl) (Nat.le_of_ble_eq_true rfl) ?_
  refine lv_istore (lv' := [(4, .int v14), (3, .int v8), (0, .ref a0), (1, .ref a1), (2, .int x2)]) hx hb dX1_leastSet_17 hl (by decide) rfl (fun ls hl => ?_)
  refine lv_iload hx hb dX1_leastSet_19 (lv_at hl 0 rfl) ?_
  refine lv_bipush (v := 99) hx hb dX1_leastSet_21 (by decide) ?_
  refine lv_icmp_ne (tgt := 28) hx hb dX1_leastSet_23 (by decide) (fun c23 => ?_) (fun c23 => ?_)
  · skip
    have tc23 := f_ne (k := 99) (by decide) c23
    refine lv_bipush (v := 13) hx hb dX1_leastSet_28 (by decide) ?_
    have J32 : ∀ (n : Nat) (p32_5 : Int32) (p32_3 : Int32) (H : Heap) (locs : List Loc) (ls : Array Slot), (p32_5.toInt - (-1)).toNat = n → (-1 ≤ p32_5.toInt) → (p32_5.toInt ≤ 13) → (0 ≤ p32_3.toInt) → (p32_3.toInt ≤ 16383) → HT D cs A T O X H → va_S A s.heap H locs → lv_has ls 7 [(5, .int p32_5), (4, .int v14), (3, .int p32_3), (0, .ref a0), (1, .ref a1), (2, .int x2)] → W p l e { frames := 6, cells := 0, slots := 0, locals := 156 } s m [.ref a0, .ref a1, .int x2].toArray below meth c H locs 0 0 (MQ below (Ti D cs (fun r u => u = (T, O, X) ∧ -1 ≤ r.toInt ∧ r.toInt ≤ 16383) A) [.ref a0, .ref a1, .int x2].toArray s 0 0 A) (F0 m 32 ls []) := by
      intro n
      induction n using Nat.strongRecOn with
      | _ n ih32 =>
        intro p32_5 p32_3 H locs ls hm32 l_p32_5 u_p32_5 l_p32_3 u_p32_3 hH hS hl
        refine lv_iload hx hb dX1_leastSet_32 (lv_at hl 0 rfl) ?_
        have J84 : ∀  (H : Heap) (locs : List Loc) (ls : Array Slot), HT D cs A T O X H → va_S A s.heap H locs → lv_has ls 7 [(3, .int p32_3)] → W p l e { frames := 6, cells := 0, slots := 0, locals := 156 } s m [.ref a0, .ref a1, .int x2].toArray below meth c H locs 0 0 (MQ below (Ti D cs (fun r u => u = (T, O, X) ∧ -1 ≤ r.toInt ∧ r.toInt ≤ 16383) A) [.ref a0, .ref a1, .int x2].toArray s 0 0 A) (F0 m 84 ls []) := by
          intro  H locs ls  hH hS hl
          refine lv_iload_n hx hb dX1_leastSet_84 rfl (lv_at hl 0 rfl) ?_
          exact te_i hx hb hr hlocks hH hS (⟨rfl, by omega, by omega⟩) dX1_leastSet_85
        refine lv_if_lt (tgt := 84) hx hb dX1_leastSet_34 (by decide) (fun c34 => ?_) (fun c34 => ?_)
        · skip
          have tc34 := f_lt (k := 0) (by decide) c34
          exact J84  _ _ _  hH hS (lv_sub hl [2] rfl)
        · skip
          have tc34 := f_nlt (k := 0) (by decide) c34
          refine lv_iload_n hx hb dX1_leastSet_37 rfl (lv_at hl 2 rfl) ?_
          refine tk_i hH hS hA (tr_S (n := 1) (As := [.int p32_3]) hx hb hml hown hts hkb hH hOX hks hE hS hA (s_bitCount l D cs kf T O X p32_3  (hO.sub (by decide))) kw_1050 kw_692 kw_20 kw_693 (by decide +kernel) ⟨Nat.le_of_ble_eq_true rfl, Nat.le_of_ble_eq_true rfl⟩ rfl rfl hl.1 (Nat.le_of_ble_eq_true rfl) dX1_leastSet_38 ⟨Nat.le_of_ble_eq_true rfl, Nat.le_of_ble_eq_true rfl⟩) (fun v38 u H locs hz9 hH hS => ?_)
          obtain ⟨rfl, l_v38, u_v38⟩ := hz9
          have hH : HT D cs A T O X H := hH
          refine W.widen (k := 0) (n := 0) (Nat.le_of_ble_eq_true rfl) (Nat.le_of_ble_eq_true rfl) ?_
          refine lv_iload hx hb dX1_leastSet_41 (lv_at hl 1 rfl) ?_
          refine lv_icmp_le (tgt := 84) hx hb dX1_leastSet_43 (by decide) (fun c43 => ?_) (fun c43 => ?_)
          · skip
            have fuc43 := full_i v38
            have fvc43 := full_i v14
            have tc43 := g_le c43
            exact J84  _ _ _  hH hS (lv_sub hl [2] rfl)
          · skip
            have fuc43 := full_i v38
            have fvc43 := full_i v14
            have tc43 := g_nle c43
            refine lv_iload_n hx hb dX1_leastSet_46 rfl (lv_at hl 2 rfl) ?_
            refine lv_iconst (v := 1) hx hb dX1_leastSet_47 (by decide) ?_
            refine lv_iload hx hb dX1_leastSet_48 (lv_at hl 0 rfl) ?_
            refine lv_ishl hx hb dX1_leastSet_50 ?_
            refine lv_topi (fun v50 ev50 => ?_)
            have tv50 : 1 ≤ v50.toInt ∧ v50.toInt ≤ 8192 := by rw [ev50]; exact shl_b 13 (by decide) (by omega) (by omega)
            refine lv_iconst (v := (-1)) hx hb dX1_leastSet_51 (by decide) ?_
            refine lv_ixor hx hb dX1_leastSet_52 ?_
            refine lv_topi (fun v52 ev52 => ?_)
            refine lv_iand hx hb dX1_leastSet_53 ?_
            refine lv_topi (fun v53 ev53 => ?_)
            have tv53 : 0 ≤ v53.toInt ∧ v53.toInt ≤ p32_3.toInt := by rw [ev53]; exact and_l (by omega)
            refine lv_istore (lv' := [(6, .int v53), (5, .int p32_5), (4, .int v14), (3, .int p32_3), (0, .ref a0), (1, .ref a1), (2, .int x2)]) hx hb dX1_leastSet_54 hl (by decide) rfl (fun ls hl => ?_)
            refine lv_iload hx hb dX1_leastSet_56 (lv_at hl 0 rfl) ?_
            refine lv_iload_n hx hb dX1_leastSet_58 rfl (lv_at hl 3 rfl) ?_
            have J78 : ∀ (p78_3 : Int32) (H : Heap) (locs : List Loc) (ls : Array Slot), (0 ≤ p78_3.toInt) → (p78_3.toInt ≤ 16383) → HT D cs A T O X H → va_S A s.heap H locs → lv_has ls 7 [(5, .int p32_5), (4, .int v14), (3, .int p78_3), (0, .ref a0), (1, .ref a1), (2, .int x2)] → W p l e { frames := 6, cells := 0, slots := 0, locals := 156 } s m [.ref a0, .ref a1, .int x2].toArray below meth c H locs 0 0 (MQ below (Ti D cs (fun r u => u = (T, O, X) ∧ -1 ≤ r.toInt ∧ r.toInt ≤ 16383) A) [.ref a0, .ref a1, .int x2].toArray s 0 0 A) (F0 m 78 ls []) := by
              intro p78_3 H locs ls l_p78_3 u_p78_3 hH hS hl
              obtain ⟨v78, ev78⟩ : ∃ y : Int32, y = p32_5 + (-1) := ⟨_, rfl⟩
              have tv78 : v78.toInt = p32_5.toInt + (-1) := by rw [ev78]; exact add_i rfl (by decide) (by omega) (by omega)
              refine lv_iinc (v := v78) (lv' := [(5, .int v78), (4, .int v14), (3, .int p78_3), (0, .ref a0), (1, .ref a1), (2, .int x2)]) hx hb dX1_leastSet_78 hl (k := 0) rfl (by rw [ev78]; rfl) (by decide) rfl (fun ls hl => ?_)
              refine lv_goto (tgt := 32) hx hb dX1_leastSet_81 (by decide) ?_
              exact ih32 _ (by omega) v78 p78_3 _ _ _ rfl (by omega) (by omega) (by omega) (by omega) hH hS (lv_sub hl [0, 1, 2, 3, 4, 5] rfl)
            refine lv_icmp_eq (tgt := 78) hx hb dX1_leastSet_59 (by decide) (fun c59 => ?_) (fun c59 => ?_)
            · skip
              have fuc59 := full_i v53
              have fvc59 := full_i p32_3
              have tc59 := g_eq c59
              exact J78 p32_3 _ _ _ (by omega) (by omega) hH hS (lv_sub hl [1, 2, 3, 4, 5, 6] rfl)
            · skip
              have fuc59 := full_i v53
              have fvc59 := full_i p32_3
              have tc59 := g_ne c59
              refine lv_aload_n hx hb dX1_leastSet_62 rfl (lv_at hl 4 rfl) ?_
              refine lv_aload_n hx hb dX1_leastSet_63 rfl (lv_at hl 5 rfl) ?_
              refine lv_iload_n hx hb dX1_leastSet_64 rfl (lv_at hl 6 rfl) ?_
              refine lv_iload hx hb dX1_leastSet_65 (lv_at hl 0 rfl) ?_
              refine tk_i hH hS hA (tr_V (n := 3) (As := [.ref a1, .int x2, .int v53]) hx hb hml hown hts hkb hH hOX hks hE hS hA (s_Cut_fewest l D cs kf T O X a0 a1 x2 v53 t_a0 t_a1 (hO.sub (by decide))) kw_1049 kw_1015 kw_1016 kw_10 kw_1017 (by decide +kernel) ⟨Nat.le_of_ble_eq_true rfl, Nat.le_of_ble_eq_true rfl⟩ (HT.recv (ci := 1) hkb hH t_a0 (hO.no t_a0 (by decide)) rfl) rfl rfl hl.1 (Nat.le_of_ble_eq_true rfl) dX1_leastSet_67 ⟨Nat.le_of_ble_eq_true rfl, Nat.le_of_ble_eq_true rfl⟩) (fun v67 u H locs hz9 hH hS => ?_)
              obtain ⟨rfl, l_v67, u_v67⟩ := hz9
              have hH : HT D cs A T O X H := hH
              refine W.widen (k := 0) (n := 0) (Nat.le_of_ble_eq_true rfl) (Nat.le_of_ble_eq_true rfl) ?_
              refine lv_iload hx hb dX1_leastSet_70 (lv_at hl 2 rfl) ?_
              refine lv_icmp_ne (tgt := 78) hx hb dX1_leastSet_72 (by decide) (fun c72 => ?_) (fun c72 => ?_)
              · skip
                have fuc72 := full_i v67
                have fvc72 := full_i v14
                have tc72 := g_ne c72
                exact J78 p32_3 _ _ _ (by omega) (by omega) hH hS (lv_sub hl [1, 2, 3, 4, 5, 6] rfl)
              · skip
                have fuc72 := full_i v67
                have fvc72 := full_i v14
                have tc72 := g_eq c72
                refine lv_iload hx hb dX1_leastSet_75 (lv_at hl 0 rfl) ?_
                refine lv_istore_n (lv' := [(3, .int v53), (6, .int v53), (5, .int p32_5), (4, .int v14), (0, .ref a0), (1, .ref a1), (2, .int x2)]) hx hb dX1_leastSet_77 rfl hl (by decide) rfl (fun ls hl => ?_)
                exact J78 v53 _ _ _ (by omega) (by omega) hH hS (lv_sub hl [2, 3, 0, 4, 5, 6] rfl)
    refine lv_istore (lv' := [(5, .int 13), (4, .int v14), (3, .int v8), (0, .ref a0), (1, .ref a1), (2, .int x2)]) hx hb dX1_leastSet_30 hl (by decide) rfl (fun ls hl => ?_)
    exact J32 _ 13 v8 _ _ _ rfl (by decide) (by decide) (by omega) (by omega) hH hS (lv_sub hl [0, 1, 2, 3, 4, 5] rfl)
  · skip
    have tc23 := f_eq (k := 99) (by decide) c23
    refine lv_iconst (v := (-1)) hx hb dX1_leastSet_26 (by decide) ?_
    exact te_i hx hb hr hlocks hH hS (⟨rfl, by decide, by decide⟩) dX1_leastSet_27
