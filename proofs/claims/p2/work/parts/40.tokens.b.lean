def fB : FT := fun T v => ∃ a n : Nat, v = .ref a ∧ T a = some (0, n, 0)
def ft7 (_ _ : Nat) : List FT := [fB, fI 0 900, fI 0 900, fI 0 900, fA, fA, fA, fA]
theorem ob7_ok {T : TF} {p q : Nat} {fs : List Value} (h : ob T 7 p q fs) : okL T (ft7 p q) fs := by
  obtain ⟨a, n, x1, x2, x3, x4, x5, x6, x7, rfl, t, b, h1, h2, h3, h4, h5, h6⟩ := h
  exact okL_c ⟨a, n, rfl, t⟩ (okL_c ⟨_, rfl, by omega, by omega⟩ (okL_c ⟨_, rfl, by omega, by omega⟩ (okL_c ⟨_, rfl, by omega, by omega⟩ (okL_c ⟨_, rfl⟩ (okL_c ⟨_, rfl⟩ (okL_c ⟨_, rfl⟩ (okL_c ⟨_, rfl⟩ okL_n)))))))
set_option maxHeartbeats 4000000 in
set_option maxRecDepth 100000 in
theorem s_Tok_isLetter (l : Launch) (D : va_G) (cs : CS) (kf : KF) (T : TF) (O : List Nat) (X : va_W) (x0 : Int32)  (hO : okO T O []) : TK l D cs kf yX7_isLetter cX7_isLetter 1 (some (.boolean)) { frames := 0, cells := 0, slots := 0, locals := 0 } [.int x0] T O X (Ti D cs (fun r u => u = (T, O, X) ∧ 0 ≤ r.toInt ∧ r.toInt ≤ 1)) := by
  refine tk_of (by decide) (Nat.le_of_ble_eq_true rfl) (fun p e s m below meth c ls A H locs hx hb hr hml hown hts hlocks hnm hkb hH hS hA hOX hks hE hl => ?_)
  have hown : s.vm.findClass RX7 = some m.cls := hown
  have hl : lv_has ls 1 [(0, .int x0)] := hl
  refine lv_iload_n hx hb dX7_isLetter_0 rfl (lv_at hl 0 rfl) ?_
  refine lv_bipush (v := 97) hx hb dX7_isLetter_1 (by decide) ?_
  have J17 : ∀ (k17_0 : Int32) (H : Heap) (locs : List Loc) (ls : Array Slot), (0 ≤ k17_0.toInt) → (k17_0.toInt ≤ 1) → HT D cs A T O X H → va_S A s.heap H locs → lv_has ls 1 [] → W p l e { frames := 0, cells := 0, slots := 0, locals := 0 } s m [.int x0].toArray below meth c H locs 0 0 (MQ below (Ti D cs (fun r u => u = (T, O, X) ∧ 0 ≤ r.toInt ∧ r.toInt ≤ 1) A) [.int x0].toArray s 0 0 A) (F0 m 17 ls [.int k17_0]) := by
    intro k17_0 H locs ls l_k17_0 u_k17_0 hH hS hl
    exact te_z hx hb hr hlocks (nar01 (by omega) (by omega)) hH hS (⟨rfl, by omega, by omega⟩) dX7_isLetter_17
  have J16 : ∀  (H : Heap) (locs : List Loc) (ls : Array Slot), HT D cs A T O X H → va_S A s.heap H locs → lv_has ls 1 [] → W p l e { frames := 0, cells := 0, slots := 0, locals := 0 } s m [.int x0].toArray below meth c H locs 0 0 (MQ below (Ti D cs (fun r u => u = (T, O, X) ∧ 0 ≤ r.toInt ∧ r.toInt ≤ 1) A) [.int x0].toArray s 0 0 A) (F0 m 16 ls []) := by
    intro  H locs ls  hH hS hl
    refine lv_iconst (v := 0) hx hb dX7_isLetter_16 (by decide) ?_
    exact J17 0 _ _ _ (by decide) (by decide) hH hS (lv_sub hl [] rfl)
  refine lv_icmp_lt (tgt := 16) hx hb dX7_isLetter_3 (by decide) (fun c3 => ?_) (fun c3 => ?_)
  · skip
    have tc3 := f_lt (k := 97) (by decide) c3
    exact J16  _ _ _  hH hS (lv_sub hl [] rfl)
  · skip
    have tc3 := f_nlt (k := 97) (by decide) c3
    refine lv_iload_n hx hb dX7_isLetter_6 rfl (lv_at hl 0 rfl) ?_
    refine lv_bipush (v := 122) hx hb dX7_isLetter_7 (by decide) ?_
    refine lv_icmp_gt (tgt := 16) hx hb dX7_isLetter_9 (by decide) (fun c9 => ?_) (fun c9 => ?_)
    · skip
      have tc9 := f_gt (k := 122) (by decide) c9
      exact J16  _ _ _  hH hS (lv_sub hl [] rfl)
    · skip
      have tc9 := f_ngt (k := 122) (by decide) c9
      refine lv_iconst (v := 1) hx hb dX7_isLetter_12 (by decide) ?_
      refine lv_goto (tgt := 17) hx hb dX7_isLetter_13 (by decide) ?_
      exact J17 1 _ _ _ (by decide) (by decide) hH hS (lv_sub hl [] rfl)
set_option maxHeartbeats 4000000 in
set_option maxRecDepth 100000 in
theorem s_Tok_isDigit (l : Launch) (D : va_G) (cs : CS) (kf : KF) (T : TF) (O : List Nat) (X : va_W) (x0 : Int32)  (hO : okO T O []) : TK l D cs kf yX7_isDigit cX7_isDigit 1 (some (.boolean)) { frames := 0, cells := 0, slots := 0, locals := 0 } [.int x0] T O X (Ti D cs (fun r u => u = (T, O, X) ∧ 0 ≤ r.toInt ∧ r.toInt ≤ 1)) := by
  refine tk_of (by decide) (Nat.le_of_ble_eq_true rfl) (fun p e s m below meth c ls A H locs hx hb hr hml hown hts hlocks hnm hkb hH hS hA hOX hks hE hl => ?_)
  have hown : s.vm.findClass RX7 = some m.cls := hown
  have hl : lv_has ls 1 [(0, .int x0)] := hl
  refine lv_iload_n hx hb dX7_isDigit_0 rfl (lv_at hl 0 rfl) ?_
  refine lv_bipush (v := 48) hx hb dX7_isDigit_1 (by decide) ?_
  have J17 : ∀ (k17_0 : Int32) (H : Heap) (locs : List Loc) (ls : Array Slot), (0 ≤ k17_0.toInt) → (k17_0.toInt ≤ 1) → HT D cs A T O X H → va_S A s.heap H locs → lv_has ls 1 [] → W p l e { frames := 0, cells := 0, slots := 0, locals := 0 } s m [.int x0].toArray below meth c H locs 0 0 (MQ below (Ti D cs (fun r u => u = (T, O, X) ∧ 0 ≤ r.toInt ∧ r.toInt ≤ 1) A) [.int x0].toArray s 0 0 A) (F0 m 17 ls [.int k17_0]) := by
    intro k17_0 H locs ls l_k17_0 u_k17_0 hH hS hl
    exact te_z hx hb hr hlocks (nar01 (by omega) (by omega)) hH hS (⟨rfl, by omega, by omega⟩) dX7_isDigit_17
  have J16 : ∀  (H : Heap) (locs : List Loc) (ls : Array Slot), HT D cs A T O X H → va_S A s.heap H locs → lv_has ls 1 [] → W p l e { frames := 0, cells := 0, slots := 0, locals := 0 } s m [.int x0].toArray below meth c H locs 0 0 (MQ below (Ti D cs (fun r u => u = (T, O, X) ∧ 0 ≤ r.toInt ∧ r.toInt ≤ 1) A) [.int x0].toArray s 0 0 A) (F0 m 16 ls []) := by
    intro  H locs ls  hH hS hl
    refine lv_iconst (v := 0) hx hb dX7_isDigit_16 (by decide) ?_
    exact J17 0 _ _ _ (by decide) (by decide) hH hS (lv_sub hl [] rfl)
  refine lv_icmp_lt (tgt := 16) hx hb dX7_isDigit_3 (by decide) (fun c3 => ?_) (fun c3 => ?_)
  · skip
    have tc3 := f_lt (k := 48) (by decide) c3
    exact J16  _ _ _  hH hS (lv_sub hl [] rfl)
  · skip
    have tc3 := f_nlt (k := 48) (by decide) c3
    refine lv_iload_n hx hb dX7_isDigit_6 rfl (lv_at hl 0 rfl) ?_
    refine lv_bipush (v := 57) hx hb dX7_isDigit_7 (by decide) ?_
    refine lv_icmp_gt (tgt := 16) hx hb dX7_isDigit_9 (by decide) (fun c9 => ?_) (fun c9 => ?_)
    · skip
      have tc9 := f_gt (k := 57) (by decide) c9
      exact J16  _ _ _  hH hS (lv_sub hl [] rfl)
    · skip
      have tc9 := f_ngt (k := 57) (by decide) c9
      refine lv_iconst (v := 1) hx hb dX7_isDigit_12 (by decide) ?_
      refine lv_goto (tgt := 17) hx hb dX7_isDigit_13 (by decide) ?_
      exact J17 1 _ _ _ (by decide) (by decide) hH hS (lv_sub hl [] rfl)
set_option maxHeartbeats 4000000 in
set_option maxRecDepth 100000 in
theorem s_Tok_isSign (l : Launch) (D : va_G) (cs : CS) (kf : KF) (T : TF) (O : List Nat) (X : va_W) (a0 : Nat) (x1 : Int32) (t_a0 : T a0 = some (17, 0, 0)) (hO : okO T O [17]) : TK l D cs kf yX7_isSign cX7_isSign 2 (some (.boolean)) { frames := 0, cells := 0, slots := 0, locals := 0 } [.ref a0, .int x1] T O X (Ti D cs (fun r u => u = (T, O, X) ∧ 0 ≤ r.toInt ∧ r.toInt ≤ 1)) := by
  refine tk_of (by decide) (Nat.le_of_ble_eq_true rfl) (fun p e s m below meth c ls A H locs hx hb hr hml hown hts hlocks hnm hkb hH hS hA hOX hks hE hl => ?_)
  have hown : s.vm.findClass RX7 = some m.cls := hown
  have hl : lv_has ls 2 [(0, .ref a0), (1, .int x1)] := hl
  have hO0 := hO
  obtain ⟨fs9, ho9, hH⟩ := hH.take t_a0 (hO0.no t_a0 (by decide))
  obtain ⟨q0_0, nq0_0, q0_1, q0_2, q0_3, q0_4, q0_5, q0_6, q0_7, rfl, t_q0_0, b_q0_0, l1_0, u1_0, l2_0, u2_0, l3_0, u3_0⟩ := ho9
  have hH : HT D cs A T (a0 :: O) ((a0, .inr (7, [.ref q0_0, .int q0_1, .int q0_2, .int q0_3, .int q0_4, .int q0_5, .int q0_6, .int q0_7])) :: X) H := hH
  have hO : okO T (a0 :: O) [] := okO.cons (hO0.sub (by decide)) t_a0 (by decide)
  refine lv_aload_n hx hb dX7_isSign_0 rfl (lv_at hl 0 rfl) ?_
  refine x_get (ci := 7) (C := RX7) (F := TX7) (N := 8) (v := .int q0_4) hx hb hts uX7 hown hkb hH rfl 4 (by decide) rfl kw_48 (fun _ h9 => h9) dX7_isSign_1 ?_
  refine lv_iconst (v := 3) hx hb dX7_isSign_4 (by decide) ?_
  have J21 : ∀ (k21_0 : Int32) (H : Heap) (locs : List Loc) (ls : Array Slot), (0 ≤ k21_0.toInt) → (k21_0.toInt ≤ 1) → HT D cs A T (a0 :: O) ((a0, .inr (7, [.ref q0_0, .int q0_1, .int q0_2, .int q0_3, .int q0_4, .int q0_5, .int q0_6, .int q0_7])) :: X) H → va_S A s.heap H locs → lv_has ls 2 [] → W p l e { frames := 0, cells := 0, slots := 0, locals := 0 } s m [.ref a0, .int x1].toArray below meth c H locs 0 0 (MQ below (Ti D cs (fun r u => u = (T, O, X) ∧ 0 ≤ r.toInt ∧ r.toInt ≤ 1) A) [.ref a0, .int x1].toArray s 0 0 A) (F0 m 21 ls [.int k21_0]) := by
    intro k21_0 H locs ls l_k21_0 u_k21_0 hH hS hl
    have hH : HT D cs A T O X H := HT.lay (ci := 7) hH t_a0 (⟨_, _, _, _, _, _, _, _, _, rfl, t_q0_0, by omega, by omega, by omega, by omega, by omega, by omega, by omega⟩)
    have hO := hO0
    exact te_z hx hb hr hlocks (nar01 (by omega) (by omega)) hH hS (⟨rfl, by omega, by omega⟩) dX7_isSign_21
  have J20 : ∀  (H : Heap) (locs : List Loc) (ls : Array Slot), HT D cs A T (a0 :: O) ((a0, .inr (7, [.ref q0_0, .int q0_1, .int q0_2, .int q0_3, .int q0_4, .int q0_5, .int q0_6, .int q0_7])) :: X) H → va_S A s.heap H locs → lv_has ls 2 [] → W p l e { frames := 0, cells := 0, slots := 0, locals := 0 } s m [.ref a0, .int x1].toArray below meth c H locs 0 0 (MQ below (Ti D cs (fun r u => u = (T, O, X) ∧ 0 ≤ r.toInt ∧ r.toInt ≤ 1) A) [.ref a0, .int x1].toArray s 0 0 A) (F0 m 20 ls []) := by
    intro  H locs ls  hH hS hl
    refine lv_iconst (v := 0) hx hb dX7_isSign_20 (by decide) ?_
    exact J21 0 _ _ _ (by decide) (by decide) hH hS (lv_sub hl [] rfl)
  refine lv_icmp_ne (tgt := 20) hx hb dX7_isSign_5 (by decide) (fun c5 => ?_) (fun c5 => ?_)
  · skip
    have tc5 := f_ne (k := 3) (by decide) c5
    exact J20  _ _ _  hH hS (lv_sub hl [] rfl)
  · skip
    have tc5 := f_eq (k := 3) (by decide) c5
    refine lv_aload_n hx hb dX7_isSign_8 rfl (lv_at hl 0 rfl) ?_
    refine x_get (ci := 7) (C := RX7) (F := TX7) (N := 8) (v := .int q0_5) hx hb hts uX7 hown hkb hH rfl 5 (by decide) rfl kw_51 (fun _ h9 => h9) dX7_isSign_9 ?_
    refine lv_iload_n hx hb dX7_isSign_12 rfl (lv_at hl 1 rfl) ?_
    refine lv_icmp_ne (tgt := 20) hx hb dX7_isSign_13 (by decide) (fun c13 => ?_) (fun c13 => ?_)
    · skip
      have fuc13 := full_i q0_5
      have fvc13 := full_i x1
      have tc13 := g_ne c13
      exact J20  _ _ _  hH hS (lv_sub hl [] rfl)
    · skip
      have fuc13 := full_i q0_5
      have fvc13 := full_i x1
      have tc13 := g_eq c13
      refine lv_iconst (v := 1) hx hb dX7_isSign_16 (by decide) ?_
      refine lv_goto (tgt := 21) hx hb dX7_isSign_17 (by decide) ?_
      exact J21 1 _ _ _ (by decide) (by decide) hH hS (lv_sub hl [] rfl)
set_option maxHeartbeats 4000000 in
set_option maxRecDepth 100000 in
theorem s_Tok_refuse (l : Launch) (D : va_G) (cs : CS) (kf : KF) (T : TF) (O : List Nat) (X : va_W) (a0 : Nat) (x1 : Int32) (t_a0 : T a0 = some (17, 0, 0)) (hO : okO T O [17]) : TK l D cs kf yX7_refuse cX7_refuse 2 (some (.boolean)) { frames := 0, cells := 0, slots := 0, locals := 0 } [.ref a0, .int x1] T O X (Ti D cs (fun r u => u = (T, O, X) ∧ 0 ≤ r.toInt ∧ r.toInt ≤ 0)) := by
  refine tk_of (by decide) (Nat.le_of_ble_eq_true rfl) (fun p e s m below meth c ls A H locs hx hb hr hml hown hts hlocks hnm hkb hH hS hA hOX hks hE hl => ?_)
  have hown : s.vm.findClass RX7 = some m.cls := hown
  have hl : lv_has ls 2 [(0, .ref a0), (1, .int x1)] := hl
  have hO0 := hO
  obtain ⟨fs9, ho9, hH⟩ := hH.take t_a0 (hO0.no t_a0 (by decide))
  obtain ⟨q0_0, nq0_0, q0_1, q0_2, q0_3, q0_4, q0_5, q0_6, q0_7, rfl, t_q0_0, b_q0_0, l1_0, u1_0, l2_0, u2_0, l3_0, u3_0⟩ := ho9
  have hH : HT D cs A T (a0 :: O) ((a0, .inr (7, [.ref q0_0, .int q0_1, .int q0_2, .int q0_3, .int q0_4, .int q0_5, .int q0_6, .int q0_7])) :: X) H := hH
  have hO : okO T (a0 :: O) [] := okO.cons (hO0.sub (by decide)) t_a0 (by decide)
  refine lv_aload_n hx hb dX7_refuse_0 rfl (lv_at hl 0 rfl) ?_
  refine lv_aload_n hx hb dX7_refuse_1 rfl (lv_at hl 0 rfl) ?_
  refine x_get (ci := 7) (C := RX7) (F := TX7) (N := 8) (v := .int q0_4) hx hb hts uX7 hown hkb hH rfl 4 (by decide) rfl kw_48 (fun _ h9 => h9) dX7_refuse_2 ?_
  refine lv_iconst (v := 4) hx hb dX7_refuse_5 (by decide) ?_
  have J14 : ∀ (k14_0 : Int32) (H : Heap) (locs : List Loc) (ls : Array Slot), HT D cs A T (a0 :: O) ((a0, .inr (7, [.ref q0_0, .int q0_1, .int q0_2, .int q0_3, .int q0_4, .int q0_5, .int q0_6, .int q0_7])) :: X) H → va_S A s.heap H locs → lv_has ls 2 [(0, .ref a0)] → W p l e { frames := 0, cells := 0, slots := 0, locals := 0 } s m [.ref a0, .int x1].toArray below meth c H locs 0 0 (MQ below (Ti D cs (fun r u => u = (T, O, X) ∧ 0 ≤ r.toInt ∧ r.toInt ≤ 0) A) [.ref a0, .int x1].toArray s 0 0 A) (F0 m 14 ls [.int k14_0, .ref a0]) := by
    intro k14_0 H locs ls  hH hS hl
    refine x_put (ci := 7) (v := .int k14_0) (ty := tyX7 6) (C := RX7) (F := TX7) (N := 8) hx hb hts uX7 tyX7 tyX7_ok nmX7 hown hkb hH hS rfl 6 (by decide) kw_54 (fun _ h9 => h9) rfl (tyX7_ok 6 (by decide)) rfl rfl (Nat.le_of_ble_eq_true rfl) dX7_refuse_14 (fun H locs hH hS => ?_)
    have hH : HT D cs A T (a0 :: O) ((a0, .inr (7, [.ref q0_0, .int q0_1, .int q0_2, .int q0_3, .int q0_4, .int q0_5, .int k14_0, .int q0_7])) :: X) H := hH
    refine lv_aload_n hx hb dX7_refuse_17 rfl (lv_at hl 0 rfl) ?_
    refine lv_aload_n hx hb dX7_refuse_18 rfl (lv_at hl 0 rfl) ?_
    refine x_get (ci := 7) (C := RX7) (F := TX7) (N := 8) (v := .int q0_2) hx hb hts uX7 hown hkb hH rfl 2 (by decide) rfl kw_46 (fun _ h9 => h9) dX7_refuse_19 ?_
    refine x_put (ci := 7) (v := .int q0_2) (ty := tyX7 7) (C := RX7) (F := TX7) (N := 8) hx hb hts uX7 tyX7 tyX7_ok nmX7 hown hkb hH hS rfl 7 (by decide) kw_56 (fun _ h9 => h9) rfl (tyX7_ok 7 (by decide)) rfl rfl (Nat.le_of_ble_eq_true rfl) dX7_refuse_22 (fun H locs hH hS => ?_)
    have hH : HT D cs A T (a0 :: O) ((a0, .inr (7, [.ref q0_0, .int q0_1, .int q0_2, .int q0_3, .int q0_4, .int q0_5, .int k14_0, .int q0_2])) :: X) H := hH
    refine lv_iconst (v := 0) hx hb dX7_refuse_25 (by decide) ?_
    have hH : HT D cs A T O X H := HT.lay (ci := 7) hH t_a0 (⟨_, _, _, _, _, _, _, _, _, rfl, t_q0_0, by omega, by omega, by omega, by omega, by omega, by omega, by omega⟩)
    have hO := hO0
    exact te_z hx hb hr hlocks (by rfl) hH hS (⟨rfl, by decide, by decide⟩) dX7_refuse_26
  refine lv_icmp_ne (tgt := 13) hx hb dX7_refuse_6 (by decide) (fun c6 => ?_) (fun c6 => ?_)
  · skip
    have tc6 := f_ne (k := 4) (by decide) c6
    refine lv_iload_n hx hb dX7_refuse_13 rfl (lv_at hl 1 rfl) ?_
    exact J14 x1 _ _ _  hH hS (lv_sub hl [0] rfl)
  · skip
    have tc6 := f_eq (k := 4) (by decide) c6
    refine lv_iconst (v := 1) hx hb dX7_refuse_9 (by decide) ?_
    refine lv_goto (tgt := 14) hx hb dX7_refuse_10 (by decide) ?_
    exact J14 1 _ _ _  hH hS (lv_sub hl [0] rfl)
set_option maxHeartbeats 4000000 in
set_option maxRecDepth 100000 in
theorem s_Tok_go (l : Launch) (D : va_G) (cs : CS) (kf : KF) (T : TF) (O : List Nat) (X : va_W) (a0 : Nat) (t_a0 : T a0 = some (17, 0, 0)) (hO : okO T O [0, 17]) : TK l D cs kf yX7_go cX7_go 1 none { frames := 4, cells := 0, slots := 0, locals := 91 } [.ref a0] T O X (Tv D cs (fun u => u = (T, O, X))) := by
  refine tk_of (by decide) (Nat.le_of_ble_eq_true rfl) (fun p e s m below meth c ls A H locs hx hb hr hml hown hts hlocks hnm hkb hH hS hA hOX hks hE hl => ?_)
  have hown : s.vm.findClass RX7 = some m.cls := hown
  have hl : lv_has ls 1 [(0, .ref a0)] := hl
  have hO0 := hO
  obtain ⟨fs9, ho9, hH⟩ := hH.take t_a0 (hO0.no t_a0 (by decide))
  obtain ⟨q0_0, nq0_0, q0_1, q0_2, q0_3, q0_4, q0_5, q0_6, q0_7, rfl, t_q0_0, b_q0_0, l1_0, u1_0, l2_0, u2_0, l3_0, u3_0⟩ := ho9
  have hH : HT D cs A T (a0 :: O) ((a0, .inr (7, [.ref q0_0, .int q0_1, .int q0_2, .int q0_3, .int q0_4, .int q0_5, .int q0_6, .int q0_7])) :: X) H := hH
  have hO : okO T (a0 :: O) [0] := okO.cons (hO0.sub (by decide)) t_a0 (by decide)
  refine lv_aload_n hx hb dX7_go_0 rfl (lv_at hl 0 rfl) ?_
  refine lv_aload_n hx hb dX7_go_1 rfl (lv_at hl 0 rfl) ?_
  refine x_get (ci := 7) (C := RX7) (F := TX7) (N := 8) (v := .int q0_3) hx hb hts uX7 hown hkb hH rfl 3 (by decide) rfl kw_47 (fun _ h9 => h9) dX7_go_2 ?_
  have J8 : ∀ (n : Nat) (f8_2 : Int32) (H : Heap) (locs : List Loc) (ls : Array Slot), (900 - f8_2.toInt).toNat = n → (0 ≤ f8_2.toInt) → (f8_2.toInt ≤ 900) → (f8_2.toInt ≤ nq0_0) → HT D cs A T (a0 :: O) ((a0, .inr (7, [.ref q0_0, .int q0_1, .int f8_2, .int q0_3, .int q0_4, .int q0_5, .int q0_6, .int q0_7])) :: X) H → va_S A s.heap H locs → lv_has ls 1 [(0, .ref a0)] → W p l e { frames := 4, cells := 0, slots := 0, locals := 91 } s m [.ref a0].toArray below meth c H locs 0 0 (MQ below (Tv D cs (fun u => u = (T, O, X)) A) [.ref a0].toArray s 0 0 A) (F0 m 8 ls []) := by
    intro n
    induction n using Nat.strongRecOn with
    | _ n ih8 =>
      intro f8_2 H locs ls hm8 l_f8_2 u_f8_2 i8 hH hS hl
      refine lv_aload_n hx hb dX7_go_8 rfl (lv_at hl 0 rfl) ?_
      refine x_get (ci := 7) (C := RX7) (F := TX7) (N := 8) (v := .int f8_2) hx hb hts uX7 hown hkb hH rfl 2 (by decide) rfl kw_46 (fun _ h9 => h9) dX7_go_9 ?_
      refine lv_aload_n hx hb dX7_go_12 rfl (lv_at hl 0 rfl) ?_
      refine x_get (ci := 7) (C := RX7) (F := TX7) (N := 8) (v := .int q0_1) hx hb hts uX7 hown hkb hH rfl 1 (by decide) rfl kw_45 (fun _ h9 => h9) dX7_go_13 ?_
      have J60 : ∀  (H : Heap) (locs : List Loc) (ls : Array Slot), HT D cs A T (a0 :: O) ((a0, .inr (7, [.ref q0_0, .int q0_1, .int f8_2, .int q0_3, .int q0_4, .int q0_5, .int q0_6, .int q0_7])) :: X) H → va_S A s.heap H locs → lv_has ls 1 [(0, .ref a0)] → W p l e { frames := 4, cells := 0, slots := 0, locals := 91 } s m [.ref a0].toArray below meth c H locs 0 0 (MQ below (Tv D cs (fun u => u = (T, O, X)) A) [.ref a0].toArray s 0 0 A) (F0 m 60 ls []) := by
        intro  H locs ls  hH hS hl
        refine lv_aload_n hx hb dX7_go_60 rfl (lv_at hl 0 rfl) ?_
        refine lv_aload_n hx hb dX7_go_61 rfl (lv_at hl 0 rfl) ?_
        refine x_get (ci := 7) (C := RX7) (F := TX7) (N := 8) (v := .int f8_2) hx hb hts uX7 hown hkb hH rfl 2 (by decide) rfl kw_46 (fun _ h9 => h9) dX7_go_62 ?_
        refine x_put (ci := 7) (v := .int f8_2) (ty := tyX7 3) (C := RX7) (F := TX7) (N := 8) hx hb hts uX7 tyX7 tyX7_ok nmX7 hown hkb hH hS rfl 3 (by decide) kw_47 (fun _ h9 => h9) rfl (tyX7_ok 3 (by decide)) rfl rfl (Nat.le_of_ble_eq_true rfl) dX7_go_65 (fun H locs hH hS => ?_)
        have hH : HT D cs A T (a0 :: O) ((a0, .inr (7, [.ref q0_0, .int q0_1, .int f8_2, .int f8_2, .int q0_4, .int q0_5, .int q0_6, .int q0_7])) :: X) H := hH
        refine lv_aload_n hx hb dX7_go_68 rfl (lv_at hl 0 rfl) ?_
        refine x_get (ci := 7) (C := RX7) (F := TX7) (N := 8) (v := .int f8_2) hx hb hts uX7 hown hkb hH rfl 2 (by decide) rfl kw_46 (fun _ h9 => h9) dX7_go_69 ?_
        refine lv_aload_n hx hb dX7_go_72 rfl (lv_at hl 0 rfl) ?_
        refine x_get (ci := 7) (C := RX7) (F := TX7) (N := 8) (v := .int q0_1) hx hb hts uX7 hown hkb hH rfl 1 (by decide) rfl kw_45 (fun _ h9 => h9) dX7_go_73 ?_
        have J303 : ∀ (f303_3 : Int32) (f303_4 : Int32) (f303_5 : Int32) (H : Heap) (locs : List Loc) (ls : Array Slot), (0 ≤ f303_3.toInt) → (f303_3.toInt ≤ 900) → (0 ≤ f303_4.toInt) → (f303_4.toInt ≤ 4) → (f303_3.toInt ≤ nq0_0 ∧ 0 ≤ f303_3.toInt) → HT D cs A T (a0 :: O) ((a0, .inr (7, [.ref q0_0, .int q0_1, .int f8_2, .int f303_3, .int f303_4, .int f303_5, .int q0_6, .int q0_7])) :: X) H → va_S A s.heap H locs → lv_has ls 1 [] → W p l e { frames := 4, cells := 0, slots := 0, locals := 91 } s m [.ref a0].toArray below meth c H locs 0 0 (MQ below (Tv D cs (fun u => u = (T, O, X)) A) [.ref a0].toArray s 0 0 A) (F0 m 303 ls []) := by
          intro f303_3 f303_4 f303_5 H locs ls l_f303_3 u_f303_3 l_f303_4 u_f303_4 i303 hH hS hl
          have hH : HT D cs A T O X H := HT.lay (ci := 7) hH t_a0 (⟨_, _, _, _, _, _, _, _, _, rfl, t_q0_0, by omega, by omega, by omega, by omega, by omega, by omega, by omega⟩)
          have hO := hO0
          exact te_v hx hb hr hlocks hH hS rfl dX7_go_303
        refine lv_icmp_lt (tgt := 87) hx hb dX7_go_76 (by decide) (fun c76 => ?_) (fun c76 => ?_)
        · skip
          have fuc76 := full_i f8_2
          have fvc76 := full_i q0_1
          have tc76 := g_lt c76
          refine lv_aload_n hx hb dX7_go_87 rfl (lv_at hl 0 rfl) ?_
          refine x_get (ci := 7) (C := RX7) (F := TX7) (N := 8) (v := .ref q0_0) hx hb hts uX7 hown hkb hH rfl 0 (by decide) rfl kw_44 (fun _ h9 => h9) dX7_go_88 ?_
          refine lv_aload_n hx hb dX7_go_91 rfl (lv_at hl 0 rfl) ?_
          refine x_get (ci := 7) (C := RX7) (F := TX7) (N := 8) (v := .int f8_2) hx hb hts uX7 hown hkb hH rfl 2 (by decide) rfl kw_46 (fun _ h9 => h9) dX7_go_92 ?_
          refine t_bld hx hb hkb hH t_q0_0 (hO.no t_q0_0 (by decide)) (by omega) (by omega) dX7_go_95 (fun v95 => ?_)
          refine tk_i hH hS hA (tr_S (n := 1) (As := [.int v95]) hx hb hml hown hts hkb hH (ox_c hOX) hks hE hS hA (s_Tok_isLetter l D cs kf T (a0 :: O) ((a0, .inr (7, [.ref q0_0, .int q0_1, .int f8_2, .int f8_2, .int q0_4, .int q0_5, .int q0_6, .int q0_7])) :: X) v95  (hO.sub (by decide))) kw_456 kw_457 kw_3 kw_458 (by decide +kernel) ⟨Nat.le_of_ble_eq_true rfl, Nat.le_of_ble_eq_true rfl⟩ rfl rfl hl.1 (Nat.le_of_ble_eq_true rfl) dX7_go_96 ⟨Nat.le_of_ble_eq_true rfl, Nat.le_of_ble_eq_true rfl⟩) (fun v96 u H locs hz9 hH hS => ?_)
          obtain ⟨rfl, l_v96, u_v96⟩ := hz9
          have hH : HT D cs A T (a0 :: O) ((a0, .inr (7, [.ref q0_0, .int q0_1, .int f8_2, .int f8_2, .int q0_4, .int q0_5, .int q0_6, .int q0_7])) :: X) H := hH
          refine W.widen (k := 0) (n := 0) (Nat.le_of_ble_eq_true rfl) (Nat.le_of_ble_eq_true rfl) ?_
          refine lv_if_eq (tgt := 146) hx hb dX7_go_99 (by decide) (fun c99 => ?_) (fun c99 => ?_)
          · skip
            have tc99 := f_eq (k := 0) (by decide) c99
            refine lv_aload_n hx hb dX7_go_146 rfl (lv_at hl 0 rfl) ?_
            refine x_get (ci := 7) (C := RX7) (F := TX7) (N := 8) (v := .ref q0_0) hx hb hts uX7 hown hkb hH rfl 0 (by decide) rfl kw_44 (fun _ h9 => h9) dX7_go_147 ?_
            refine lv_aload_n hx hb dX7_go_150 rfl (lv_at hl 0 rfl) ?_
            refine x_get (ci := 7) (C := RX7) (F := TX7) (N := 8) (v := .int f8_2) hx hb hts uX7 hown hkb hH rfl 2 (by decide) rfl kw_46 (fun _ h9 => h9) dX7_go_151 ?_
            refine t_bld hx hb hkb hH t_q0_0 (hO.no t_q0_0 (by decide)) (by omega) (by omega) dX7_go_154 (fun v154 => ?_)
            refine tk_i hH hS hA (tr_S (n := 1) (As := [.int v154]) hx hb hml hown hts hkb hH (ox_c hOX) hks hE hS hA (s_Tok_isDigit l D cs kf T (a0 :: O) ((a0, .inr (7, [.ref q0_0, .int q0_1, .int f8_2, .int f8_2, .int q0_4, .int q0_5, .int q0_6, .int q0_7])) :: X) v154  (hO.sub (by decide))) kw_459 kw_460 kw_3 kw_461 (by decide +kernel) ⟨Nat.le_of_ble_eq_true rfl, Nat.le_of_ble_eq_true rfl⟩ rfl rfl hl.1 (Nat.le_of_ble_eq_true rfl) dX7_go_155 ⟨Nat.le_of_ble_eq_true rfl, Nat.le_of_ble_eq_true rfl⟩) (fun v155 u H locs hz9 hH hS => ?_)
            obtain ⟨rfl, l_v155, u_v155⟩ := hz9
            have hH : HT D cs A T (a0 :: O) ((a0, .inr (7, [.ref q0_0, .int q0_1, .int f8_2, .int f8_2, .int q0_4, .int q0_5, .int q0_6, .int q0_7])) :: X) H := hH
            refine W.widen (k := 0) (n := 0) (Nat.le_of_ble_eq_true rfl) (Nat.le_of_ble_eq_true rfl) ?_
            refine lv_if_eq (tgt := 254) hx hb dX7_go_158 (by decide) (fun c158 => ?_) (fun c158 => ?_)
            · skip
              have tc158 := f_eq (k := 0) (by decide) c158
              refine lv_aload_n hx hb dX7_go_254 rfl (lv_at hl 0 rfl) ?_
              refine lv_aload_n hx hb dX7_go_255 rfl (lv_at hl 0 rfl) ?_
              refine x_get (ci := 7) (C := RX7) (F := TX7) (N := 8) (v := .ref q0_0) hx hb hts uX7 hown hkb hH rfl 0 (by decide) rfl kw_44 (fun _ h9 => h9) dX7_go_256 ?_
              refine lv_aload_n hx hb dX7_go_259 rfl (lv_at hl 0 rfl) ?_
              refine x_get (ci := 7) (C := RX7) (F := TX7) (N := 8) (v := .int f8_2) hx hb hts uX7 hown hkb hH rfl 2 (by decide) rfl kw_46 (fun _ h9 => h9) dX7_go_260 ?_
              refine t_bld hx hb hkb hH t_q0_0 (hO.no t_q0_0 (by decide)) (by omega) (by omega) dX7_go_263 (fun v263 => ?_)
              refine lv_sipush (v := 255) hx hb dX7_go_264 (by decide) ?_
              refine lv_iand hx hb dX7_go_267 ?_
              refine lv_topi (fun v267 ev267 => ?_)
              have tv267 : 0 ≤ v267.toInt ∧ v267.toInt ≤ 255 := by rw [ev267]; exact and_r (by decide)
              refine x_put (ci := 7) (v := .int v267) (ty := tyX7 5) (C := RX7) (F := TX7) (N := 8) hx hb hts uX7 tyX7 tyX7_ok nmX7 hown hkb hH hS rfl 5 (by decide) kw_51 (fun _ h9 => h9) rfl (tyX7_ok 5 (by decide)) rfl rfl (Nat.le_of_ble_eq_true rfl) dX7_go_268 (fun H locs hH hS => ?_)
              have hH : HT D cs A T (a0 :: O) ((a0, .inr (7, [.ref q0_0, .int q0_1, .int f8_2, .int f8_2, .int q0_4, .int v267, .int q0_6, .int q0_7])) :: X) H := hH
              refine lv_aload_n hx hb dX7_go_271 rfl (lv_at hl 0 rfl) ?_
              refine va_ldcS (q := kf.1 0) hx hb hown (hks ("FootholdWall$Tokens", 53, ";:+-*()[]=<>", 0) (by decide +kernel)) dX7_go_272 ?_
              refine lv_aload_n hx hb dX7_go_274 rfl (lv_at hl 0 rfl) ?_
              refine x_get (ci := 7) (C := RX7) (F := TX7) (N := 8) (v := .int v267) hx hb hts uX7 hown hkb hH rfl 5 (by decide) rfl kw_51 (fun _ h9 => h9) dX7_go_275 ?_
              refine lv_i2c (v := v267) hx hb dX7_go_278 (i2c_id (by omega) (by omega)) ?_
              refine tk_i hH hS hA (tr_V (n := 1) (As := [.int v267]) hx hb hml hown hts hkb hH (ox_c hOX) hks hE hS hA (s_indexOf1 l D cs kf T (a0 :: O) ((a0, .inr (7, [.ref q0_0, .int q0_1, .int f8_2, .int f8_2, .int q0_4, .int v267, .int q0_6, .int q0_7])) :: X) 0 v267 (by decide) (hO.sub (by decide))) kw_463 kw_464 kw_465 kw_14 kw_466 (by decide +kernel) ⟨Nat.le_of_ble_eq_true rfl, Nat.le_of_ble_eq_true rfl⟩ (vk_recv hE.1 (by decide) hS) rfl rfl hl.1 (Nat.le_of_ble_eq_true rfl) dX7_go_279 ⟨Nat.le_of_ble_eq_true rfl, Nat.le_of_ble_eq_true rfl⟩) (fun v279 u H locs hz9 hH hS => ?_)
              obtain ⟨rfl, l_v279, u_v279⟩ := hz9
              have hH : HT D cs A T (a0 :: O) ((a0, .inr (7, [.ref q0_0, .int q0_1, .int f8_2, .int f8_2, .int q0_4, .int v267, .int q0_6, .int q0_7])) :: X) H := hH
              refine W.widen (k := 0) (n := 0) (Nat.le_of_ble_eq_true rfl) (Nat.le_of_ble_eq_true rfl) ?_
              have J290 : ∀ (k290_0 : Int32) (H : Heap) (locs : List Loc) (ls : Array Slot), (3 ≤ k290_0.toInt) → (k290_0.toInt ≤ 4) → HT D cs A T (a0 :: O) ((a0, .inr (7, [.ref q0_0, .int q0_1, .int f8_2, .int f8_2, .int q0_4, .int v267, .int q0_6, .int q0_7])) :: X) H → va_S A s.heap H locs → lv_has ls 1 [(0, .ref a0)] → W p l e { frames := 4, cells := 0, slots := 0, locals := 91 } s m [.ref a0].toArray below meth c H locs 0 0 (MQ below (Tv D cs (fun u => u = (T, O, X)) A) [.ref a0].toArray s 0 0 A) (F0 m 290 ls [.int k290_0, .ref a0]) := by
                intro k290_0 H locs ls l_k290_0 u_k290_0 hH hS hl
                refine x_put (ci := 7) (v := .int k290_0) (ty := tyX7 4) (C := RX7) (F := TX7) (N := 8) hx hb hts uX7 tyX7 tyX7_ok nmX7 hown hkb hH hS rfl 4 (by decide) kw_48 (fun _ h9 => h9) rfl (tyX7_ok 4 (by decide)) rfl rfl (Nat.le_of_ble_eq_true rfl) dX7_go_290 (fun H locs hH hS => ?_)
                have hH : HT D cs A T (a0 :: O) ((a0, .inr (7, [.ref q0_0, .int q0_1, .int f8_2, .int f8_2, .int k290_0, .int v267, .int q0_6, .int q0_7])) :: X) H := hH
                refine lv_aload_n hx hb dX7_go_293 rfl (lv_at hl 0 rfl) ?_
                refine lv_dup hx hb dX7_go_294 rfl ?_
                refine x_get (ci := 7) (C := RX7) (F := TX7) (N := 8) (v := .int f8_2) hx hb hts uX7 hown hkb hH rfl 3 (by decide) rfl kw_47 (fun _ h9 => h9) dX7_go_295 ?_
                refine lv_iconst (v := 1) hx hb dX7_go_298 (by decide) ?_
                refine lv_iadd hx hb dX7_go_299 ?_
                refine lv_topi (fun v299 ev299 => ?_)
                have tv299 : v299.toInt = f8_2.toInt + (1) := by rw [ev299]; exact add_i rfl (by decide : (1 : Int32).toInt = 1) (by omega) (by omega)
                refine x_put (ci := 7) (v := .int v299) (ty := tyX7 3) (C := RX7) (F := TX7) (N := 8) hx hb hts uX7 tyX7 tyX7_ok nmX7 hown hkb hH hS rfl 3 (by decide) kw_47 (fun _ h9 => h9) rfl (tyX7_ok 3 (by decide)) rfl rfl (Nat.le_of_ble_eq_true rfl) dX7_go_300 (fun H locs hH hS => ?_)
                have hH : HT D cs A T (a0 :: O) ((a0, .inr (7, [.ref q0_0, .int q0_1, .int f8_2, .int v299, .int k290_0, .int v267, .int q0_6, .int q0_7])) :: X) H := hH
                exact J303 v299 k290_0 v267 _ _ _ (by omega) (by omega) (by omega) (by omega) (by omega) hH hS (lv_sub hl [] rfl)
              refine lv_if_lt (tgt := 289) hx hb dX7_go_282 (by decide) (fun c282 => ?_) (fun c282 => ?_)
              · skip
                have tc282 := f_lt (k := 0) (by decide) c282
                refine lv_iconst (v := 4) hx hb dX7_go_289 (by decide) ?_
                exact J290 4 _ _ _ (by decide) (by decide) hH hS (lv_sub hl [0] rfl)
              · skip
                have tc282 := f_nlt (k := 0) (by decide) c282
                refine lv_iconst (v := 3) hx hb dX7_go_285 (by decide) ?_
                refine lv_goto (tgt := 290) hx hb dX7_go_286 (by decide) ?_
                exact J290 3 _ _ _ (by decide) (by decide) hH hS (lv_sub hl [0] rfl)
            · skip
              have tc158 := f_ne (k := 0) (by decide) c158
              refine lv_aload_n hx hb dX7_go_161 rfl (lv_at hl 0 rfl) ?_
              refine lv_iconst (v := 0) hx hb dX7_go_162 (by decide) ?_
              have J166 : ∀ (n : Nat) (f166_3 : Int32) (f166_5 : Int32) (H : Heap) (locs : List Loc) (ls : Array Slot), (900 - f166_3.toInt).toNat = n → (0 ≤ f166_3.toInt) → (f166_3.toInt ≤ 900) → (f166_3.toInt ≤ nq0_0 ∧ 0 ≤ f166_3.toInt) → HT D cs A T (a0 :: O) ((a0, .inr (7, [.ref q0_0, .int q0_1, .int f8_2, .int f166_3, .int q0_4, .int f166_5, .int q0_6, .int q0_7])) :: X) H → va_S A s.heap H locs → lv_has ls 1 [(0, .ref a0)] → W p l e { frames := 4, cells := 0, slots := 0, locals := 91 } s m [.ref a0].toArray below meth c H locs 0 0 (MQ below (Tv D cs (fun u => u = (T, O, X)) A) [.ref a0].toArray s 0 0 A) (F0 m 166 ls []) := by
                intro n
                induction n using Nat.strongRecOn with
                | _ n ih166 =>
                  intro f166_3 f166_5 H locs ls hm166 l_f166_3 u_f166_3 i166 hH hS hl
                  refine lv_aload_n hx hb dX7_go_166 rfl (lv_at hl 0 rfl) ?_
                  refine x_get (ci := 7) (C := RX7) (F := TX7) (N := 8) (v := .int f166_3) hx hb hts uX7 hown hkb hH rfl 3 (by decide) rfl kw_47 (fun _ h9 => h9) dX7_go_167 ?_
                  refine lv_aload_n hx hb dX7_go_170 rfl (lv_at hl 0 rfl) ?_
                  refine x_get (ci := 7) (C := RX7) (F := TX7) (N := 8) (v := .int q0_1) hx hb hts uX7 hown hkb hH rfl 1 (by decide) rfl kw_45 (fun _ h9 => h9) dX7_go_171 ?_
                  have J229 : ∀  (H : Heap) (locs : List Loc) (ls : Array Slot), HT D cs A T (a0 :: O) ((a0, .inr (7, [.ref q0_0, .int q0_1, .int f8_2, .int f166_3, .int q0_4, .int f166_5, .int q0_6, .int q0_7])) :: X) H → va_S A s.heap H locs → lv_has ls 1 [(0, .ref a0)] → W p l e { frames := 4, cells := 0, slots := 0, locals := 91 } s m [.ref a0].toArray below meth c H locs 0 0 (MQ below (Tv D cs (fun u => u = (T, O, X)) A) [.ref a0].toArray s 0 0 A) (F0 m 229 ls []) := by
                    intro  H locs ls  hH hS hl
                    refine lv_aload_n hx hb dX7_go_229 rfl (lv_at hl 0 rfl) ?_
                    refine lv_aload_n hx hb dX7_go_230 rfl (lv_at hl 0 rfl) ?_
                    refine x_get (ci := 7) (C := RX7) (F := TX7) (N := 8) (v := .int f166_3) hx hb hts uX7 hown hkb hH rfl 3 (by decide) rfl kw_47 (fun _ h9 => h9) dX7_go_231 ?_
                    refine lv_aload_n hx hb dX7_go_234 rfl (lv_at hl 0 rfl) ?_
                    refine x_get (ci := 7) (C := RX7) (F := TX7) (N := 8) (v := .int f8_2) hx hb hts uX7 hown hkb hH rfl 2 (by decide) rfl kw_46 (fun _ h9 => h9) dX7_go_235 ?_
                    refine lv_isub hx hb dX7_go_238 ?_
                    refine lv_topi (fun v238 ev238 => ?_)
                    have tv238 : v238.toInt = f166_3.toInt - f8_2.toInt := by rw [ev238]; exact sub_i rfl rfl (by omega) (by omega)
                    refine lv_iconst (v := 3) hx hb dX7_go_239 (by decide) ?_
                    have J248 : ∀ (k248_0 : Int32) (H : Heap) (locs : List Loc) (ls : Array Slot), (2 ≤ k248_0.toInt) → (k248_0.toInt ≤ 4) → HT D cs A T (a0 :: O) ((a0, .inr (7, [.ref q0_0, .int q0_1, .int f8_2, .int f166_3, .int q0_4, .int f166_5, .int q0_6, .int q0_7])) :: X) H → va_S A s.heap H locs → lv_has ls 1 [] → W p l e { frames := 4, cells := 0, slots := 0, locals := 91 } s m [.ref a0].toArray below meth c H locs 0 0 (MQ below (Tv D cs (fun u => u = (T, O, X)) A) [.ref a0].toArray s 0 0 A) (F0 m 248 ls [.int k248_0, .ref a0]) := by
                      intro k248_0 H locs ls l_k248_0 u_k248_0 hH hS hl
                      refine x_put (ci := 7) (v := .int k248_0) (ty := tyX7 4) (C := RX7) (F := TX7) (N := 8) hx hb hts uX7 tyX7 tyX7_ok nmX7 hown hkb hH hS rfl 4 (by decide) kw_48 (fun _ h9 => h9) rfl (tyX7_ok 4 (by decide)) rfl rfl (Nat.le_of_ble_eq_true rfl) dX7_go_248 (fun H locs hH hS => ?_)
                      have hH : HT D cs A T (a0 :: O) ((a0, .inr (7, [.ref q0_0, .int q0_1, .int f8_2, .int f166_3, .int k248_0, .int f166_5, .int q0_6, .int q0_7])) :: X) H := hH
                      refine lv_goto (tgt := 303) hx hb dX7_go_251 (by decide) ?_
                      exact J303 f166_3 k248_0 f166_5 _ _ _ (by omega) (by omega) (by omega) (by omega) (by omega) hH hS (lv_sub hl [] rfl)
                    refine lv_icmp_gt (tgt := 247) hx hb dX7_go_240 (by decide) (fun c240 => ?_) (fun c240 => ?_)
                    · skip
                      have tc240 := f_gt (k := 3) (by decide) c240
                      refine lv_iconst (v := 4) hx hb dX7_go_247 (by decide) ?_
                      exact J248 4 _ _ _ (by decide) (by decide) hH hS (lv_sub hl [] rfl)
                    · skip
                      have tc240 := f_ngt (k := 3) (by decide) c240
                      refine lv_iconst (v := 2) hx hb dX7_go_243 (by decide) ?_
                      refine lv_goto (tgt := 248) hx hb dX7_go_244 (by decide) ?_
                      exact J248 2 _ _ _ (by decide) (by decide) hH hS (lv_sub hl [] rfl)
                  refine lv_icmp_ge (tgt := 229) hx hb dX7_go_174 (by decide) (fun c174 => ?_) (fun c174 => ?_)
                  · skip
                    have fuc174 := full_i f166_3
                    have fvc174 := full_i q0_1
                    have tc174 := g_le c174
                    exact J229  _ _ _  hH hS (lv_sub hl [0] rfl)
                  · skip
                    have fuc174 := full_i f166_3
                    have fvc174 := full_i q0_1
                    have tc174 := g_nle c174
                    refine lv_aload_n hx hb dX7_go_177 rfl (lv_at hl 0 rfl) ?_
                    refine x_get (ci := 7) (C := RX7) (F := TX7) (N := 8) (v := .ref q0_0) hx hb hts uX7 hown hkb hH rfl 0 (by decide) rfl kw_44 (fun _ h9 => h9) dX7_go_178 ?_
                    refine lv_aload_n hx hb dX7_go_181 rfl (lv_at hl 0 rfl) ?_
                    refine x_get (ci := 7) (C := RX7) (F := TX7) (N := 8) (v := .int f166_3) hx hb hts uX7 hown hkb hH rfl 3 (by decide) rfl kw_47 (fun _ h9 => h9) dX7_go_182 ?_
                    refine t_bld hx hb hkb hH t_q0_0 (hO.no t_q0_0 (by decide)) (by omega) (by omega) dX7_go_185 (fun v185 => ?_)
                    refine tk_i hH hS hA (tr_S (n := 1) (As := [.int v185]) hx hb hml hown hts hkb hH (ox_c hOX) hks hE hS hA (s_Tok_isDigit l D cs kf T (a0 :: O) ((a0, .inr (7, [.ref q0_0, .int q0_1, .int f8_2, .int f166_3, .int q0_4, .int f166_5, .int q0_6, .int q0_7])) :: X) v185  (hO.sub (by decide))) kw_459 kw_460 kw_3 kw_461 (by decide +kernel) ⟨Nat.le_of_ble_eq_true rfl, Nat.le_of_ble_eq_true rfl⟩ rfl rfl hl.1 (Nat.le_of_ble_eq_true rfl) dX7_go_186 ⟨Nat.le_of_ble_eq_true rfl, Nat.le_of_ble_eq_true rfl⟩) (fun v186 u H locs hz9 hH hS => ?_)
                    obtain ⟨rfl, l_v186, u_v186⟩ := hz9
                    have hH : HT D cs A T (a0 :: O) ((a0, .inr (7, [.ref q0_0, .int q0_1, .int f8_2, .int f166_3, .int q0_4, .int f166_5, .int q0_6, .int q0_7])) :: X) H := hH
                    refine W.widen (k := 0) (n := 0) (Nat.le_of_ble_eq_true rfl) (Nat.le_of_ble_eq_true rfl) ?_
                    refine lv_if_eq (tgt := 229) hx hb dX7_go_189 (by decide) (fun c189 => ?_) (fun c189 => ?_)
                    · skip
                      have tc189 := f_eq (k := 0) (by decide) c189
                      exact J229  _ _ _  hH hS (lv_sub hl [0] rfl)
                    · skip
                      have tc189 := f_ne (k := 0) (by decide) c189
                      refine lv_aload_n hx hb dX7_go_192 rfl (lv_at hl 0 rfl) ?_
                      refine lv_aload_n hx hb dX7_go_193 rfl (lv_at hl 0 rfl) ?_
                      refine x_get (ci := 7) (C := RX7) (F := TX7) (N := 8) (v := .int f166_5) hx hb hts uX7 hown hkb hH rfl 5 (by decide) rfl kw_51 (fun _ h9 => h9) dX7_go_194 ?_
                      refine lv_bipush (v := 10) hx hb dX7_go_197 (by decide) ?_
                      refine lv_imul hx hb dX7_go_199 ?_
                      refine lv_topi (fun v199 ev199 => ?_)
                      refine lv_aload_n hx hb dX7_go_200 rfl (lv_at hl 0 rfl) ?_
                      refine x_get (ci := 7) (C := RX7) (F := TX7) (N := 8) (v := .ref q0_0) hx hb hts uX7 hown hkb hH rfl 0 (by decide) rfl kw_44 (fun _ h9 => h9) dX7_go_201 ?_
                      refine lv_aload_n hx hb dX7_go_204 rfl (lv_at hl 0 rfl) ?_
                      refine x_get (ci := 7) (C := RX7) (F := TX7) (N := 8) (v := .int f166_3) hx hb hts uX7 hown hkb hH rfl 3 (by decide) rfl kw_47 (fun _ h9 => h9) dX7_go_205 ?_
                      refine t_bld hx hb hkb hH t_q0_0 (hO.no t_q0_0 (by decide)) (by omega) (by omega) dX7_go_208 (fun v208 => ?_)
                      refine lv_bipush (v := 48) hx hb dX7_go_209 (by decide) ?_
                      refine lv_isub hx hb dX7_go_211 ?_
                      refine lv_topi (fun v211 ev211 => ?_)
                      refine lv_iadd hx hb dX7_go_212 ?_
                      refine lv_topi (fun v212 ev212 => ?_)
                      refine x_put (ci := 7) (v := .int v212) (ty := tyX7 5) (C := RX7) (F := TX7) (N := 8) hx hb hts uX7 tyX7 tyX7_ok nmX7 hown hkb hH hS rfl 5 (by decide) kw_51 (fun _ h9 => h9) rfl (tyX7_ok 5 (by decide)) rfl rfl (Nat.le_of_ble_eq_true rfl) dX7_go_213 (fun H locs hH hS => ?_)
                      have hH : HT D cs A T (a0 :: O) ((a0, .inr (7, [.ref q0_0, .int q0_1, .int f8_2, .int f166_3, .int q0_4, .int v212, .int q0_6, .int q0_7])) :: X) H := hH
                      refine lv_aload_n hx hb dX7_go_216 rfl (lv_at hl 0 rfl) ?_
                      refine lv_dup hx hb dX7_go_217 rfl ?_
                      refine x_get (ci := 7) (C := RX7) (F := TX7) (N := 8) (v := .int f166_3) hx hb hts uX7 hown hkb hH rfl 3 (by decide) rfl kw_47 (fun _ h9 => h9) dX7_go_218 ?_
                      refine lv_iconst (v := 1) hx hb dX7_go_221 (by decide) ?_
                      refine lv_iadd hx hb dX7_go_222 ?_
                      refine lv_topi (fun v222 ev222 => ?_)
                      have tv222 : v222.toInt = f166_3.toInt + (1) := by rw [ev222]; exact add_i rfl (by decide : (1 : Int32).toInt = 1) (by omega) (by omega)
                      refine x_put (ci := 7) (v := .int v222) (ty := tyX7 3) (C := RX7) (F := TX7) (N := 8) hx hb hts uX7 tyX7 tyX7_ok nmX7 hown hkb hH hS rfl 3 (by decide) kw_47 (fun _ h9 => h9) rfl (tyX7_ok 3 (by decide)) rfl rfl (Nat.le_of_ble_eq_true rfl) dX7_go_223 (fun H locs hH hS => ?_)
                      have hH : HT D cs A T (a0 :: O) ((a0, .inr (7, [.ref q0_0, .int q0_1, .int f8_2, .int v222, .int q0_4, .int v212, .int q0_6, .int q0_7])) :: X) H := hH
                      refine lv_goto (tgt := 166) hx hb dX7_go_226 (by decide) ?_
                      exact ih166 _ (by omega) v222 v212 _ _ _ rfl (by omega) (by omega) (by omega) hH hS (lv_sub hl [0] rfl)
              refine x_put (ci := 7) (v := .int 0) (ty := tyX7 5) (C := RX7) (F := TX7) (N := 8) hx hb hts uX7 tyX7 tyX7_ok nmX7 hown hkb hH hS rfl 5 (by decide) kw_51 (fun _ h9 => h9) rfl (tyX7_ok 5 (by decide)) rfl rfl (Nat.le_of_ble_eq_true rfl) dX7_go_163 (fun H locs hH hS => ?_)
              have hH : HT D cs A T (a0 :: O) ((a0, .inr (7, [.ref q0_0, .int q0_1, .int f8_2, .int f8_2, .int q0_4, .int 0, .int q0_6, .int q0_7])) :: X) H := hH
              have z_0 : (0 : Int32).toInt = 0 := by decide
              exact J166 _ f8_2 0 _ _ _ rfl (by omega) (by omega) (by omega) hH hS (lv_sub hl [0] rfl)
          · skip
            have tc99 := f_ne (k := 0) (by decide) c99
            refine lv_aload_n hx hb dX7_go_102 rfl (lv_at hl 0 rfl) ?_
            refine lv_iconst (v := 1) hx hb dX7_go_103 (by decide) ?_
            have J107 : ∀ (n : Nat) (f107_3 : Int32) (H : Heap) (locs : List Loc) (ls : Array Slot), (900 - f107_3.toInt).toNat = n → (0 ≤ f107_3.toInt) → (f107_3.toInt ≤ 900) → (f107_3.toInt ≤ nq0_0 ∧ 0 ≤ f107_3.toInt) → HT D cs A T (a0 :: O) ((a0, .inr (7, [.ref q0_0, .int q0_1, .int f8_2, .int f107_3, .int 1, .int q0_5, .int q0_6, .int q0_7])) :: X) H → va_S A s.heap H locs → lv_has ls 1 [(0, .ref a0)] → W p l e { frames := 4, cells := 0, slots := 0, locals := 91 } s m [.ref a0].toArray below meth c H locs 0 0 (MQ below (Tv D cs (fun u => u = (T, O, X)) A) [.ref a0].toArray s 0 0 A) (F0 m 107 ls []) := by
              intro n
              induction n using Nat.strongRecOn with
              | _ n ih107 =>
                intro f107_3 H locs ls hm107 l_f107_3 u_f107_3 i107 hH hS hl
                refine lv_aload_n hx hb dX7_go_107 rfl (lv_at hl 0 rfl) ?_
                refine x_get (ci := 7) (C := RX7) (F := TX7) (N := 8) (v := .int f107_3) hx hb hts uX7 hown hkb hH rfl 3 (by decide) rfl kw_47 (fun _ h9 => h9) dX7_go_108 ?_
                refine lv_aload_n hx hb dX7_go_111 rfl (lv_at hl 0 rfl) ?_
                refine x_get (ci := 7) (C := RX7) (F := TX7) (N := 8) (v := .int q0_1) hx hb hts uX7 hown hkb hH rfl 1 (by decide) rfl kw_45 (fun _ h9 => h9) dX7_go_112 ?_
                refine lv_icmp_ge (tgt := 303) hx hb dX7_go_115 (by decide) (fun c115 => ?_) (fun c115 => ?_)
                · skip
                  have fuc115 := full_i f107_3
                  have fvc115 := full_i q0_1
                  have tc115 := g_le c115
                  have z_1 : (1 : Int32).toInt = 1 := by decide
                  exact J303 f107_3 1 q0_5 _ _ _ (by omega) (by omega) (by decide) (by decide) (by omega) hH hS (lv_sub hl [] rfl)
                · skip
                  have fuc115 := full_i f107_3
                  have fvc115 := full_i q0_1
                  have tc115 := g_nle c115
                  refine lv_aload_n hx hb dX7_go_118 rfl (lv_at hl 0 rfl) ?_
                  refine x_get (ci := 7) (C := RX7) (F := TX7) (N := 8) (v := .ref q0_0) hx hb hts uX7 hown hkb hH rfl 0 (by decide) rfl kw_44 (fun _ h9 => h9) dX7_go_119 ?_
                  refine lv_aload_n hx hb dX7_go_122 rfl (lv_at hl 0 rfl) ?_
                  refine x_get (ci := 7) (C := RX7) (F := TX7) (N := 8) (v := .int f107_3) hx hb hts uX7 hown hkb hH rfl 3 (by decide) rfl kw_47 (fun _ h9 => h9) dX7_go_123 ?_
                  refine t_bld hx hb hkb hH t_q0_0 (hO.no t_q0_0 (by decide)) (by omega) (by omega) dX7_go_126 (fun v126 => ?_)
                  refine tk_i hH hS hA (tr_S (n := 1) (As := [.int v126]) hx hb hml hown hts hkb hH (ox_c hOX) hks hE hS hA (s_Tok_isLetter l D cs kf T (a0 :: O) ((a0, .inr (7, [.ref q0_0, .int q0_1, .int f8_2, .int f107_3, .int 1, .int q0_5, .int q0_6, .int q0_7])) :: X) v126  (hO.sub (by decide))) kw_456 kw_457 kw_3 kw_458 (by decide +kernel) ⟨Nat.le_of_ble_eq_true rfl, Nat.le_of_ble_eq_true rfl⟩ rfl rfl hl.1 (Nat.le_of_ble_eq_true rfl) dX7_go_127 ⟨Nat.le_of_ble_eq_true rfl, Nat.le_of_ble_eq_true rfl⟩) (fun v127 u H locs hz9 hH hS => ?_)
                  obtain ⟨rfl, l_v127, u_v127⟩ := hz9
                  have hH : HT D cs A T (a0 :: O) ((a0, .inr (7, [.ref q0_0, .int q0_1, .int f8_2, .int f107_3, .int 1, .int q0_5, .int q0_6, .int q0_7])) :: X) H := hH
                  refine W.widen (k := 0) (n := 0) (Nat.le_of_ble_eq_true rfl) (Nat.le_of_ble_eq_true rfl) ?_
                  refine lv_if_eq (tgt := 303) hx hb dX7_go_130 (by decide) (fun c130 => ?_) (fun c130 => ?_)
                  · skip
                    have tc130 := f_eq (k := 0) (by decide) c130
                    have z_1 : (1 : Int32).toInt = 1 := by decide
                    exact J303 f107_3 1 q0_5 _ _ _ (by omega) (by omega) (by decide) (by decide) (by omega) hH hS (lv_sub hl [] rfl)
                  · skip
                    have tc130 := f_ne (k := 0) (by decide) c130
                    refine lv_aload_n hx hb dX7_go_133 rfl (lv_at hl 0 rfl) ?_
                    refine lv_dup hx hb dX7_go_134 rfl ?_
                    refine x_get (ci := 7) (C := RX7) (F := TX7) (N := 8) (v := .int f107_3) hx hb hts uX7 hown hkb hH rfl 3 (by decide) rfl kw_47 (fun _ h9 => h9) dX7_go_135 ?_
                    refine lv_iconst (v := 1) hx hb dX7_go_138 (by decide) ?_
                    refine lv_iadd hx hb dX7_go_139 ?_
                    refine lv_topi (fun v139 ev139 => ?_)
                    have tv139 : v139.toInt = f107_3.toInt + (1) := by rw [ev139]; exact add_i rfl (by decide : (1 : Int32).toInt = 1) (by omega) (by omega)
                    refine x_put (ci := 7) (v := .int v139) (ty := tyX7 3) (C := RX7) (F := TX7) (N := 8) hx hb hts uX7 tyX7 tyX7_ok nmX7 hown hkb hH hS rfl 3 (by decide) kw_47 (fun _ h9 => h9) rfl (tyX7_ok 3 (by decide)) rfl rfl (Nat.le_of_ble_eq_true rfl) dX7_go_140 (fun H locs hH hS => ?_)
                    have hH : HT D cs A T (a0 :: O) ((a0, .inr (7, [.ref q0_0, .int q0_1, .int f8_2, .int v139, .int 1, .int q0_5, .int q0_6, .int q0_7])) :: X) H := hH
                    refine lv_goto (tgt := 107) hx hb dX7_go_143 (by decide) ?_
                    exact ih107 _ (by omega) v139 _ _ _ rfl (by omega) (by omega) (by omega) hH hS (lv_sub hl [0] rfl)
            refine x_put (ci := 7) (v := .int 1) (ty := tyX7 4) (C := RX7) (F := TX7) (N := 8) hx hb hts uX7 tyX7 tyX7_ok nmX7 hown hkb hH hS rfl 4 (by decide) kw_48 (fun _ h9 => h9) rfl (tyX7_ok 4 (by decide)) rfl rfl (Nat.le_of_ble_eq_true rfl) dX7_go_104 (fun H locs hH hS => ?_)
            have hH : HT D cs A T (a0 :: O) ((a0, .inr (7, [.ref q0_0, .int q0_1, .int f8_2, .int f8_2, .int 1, .int q0_5, .int q0_6, .int q0_7])) :: X) H := hH
            exact J107 _ f8_2 _ _ _ rfl (by omega) (by omega) (by omega) hH hS (lv_sub hl [0] rfl)
        · skip
          have fuc76 := full_i f8_2
          have fvc76 := full_i q0_1
          have tc76 := g_nlt c76
          refine lv_aload_n hx hb dX7_go_79 rfl (lv_at hl 0 rfl) ?_
          refine lv_iconst (v := 0) hx hb dX7_go_80 (by decide) ?_
          refine x_put (ci := 7) (v := .int 0) (ty := tyX7 4) (C := RX7) (F := TX7) (N := 8) hx hb hts uX7 tyX7 tyX7_ok nmX7 hown hkb hH hS rfl 4 (by decide) kw_48 (fun _ h9 => h9) rfl (tyX7_ok 4 (by decide)) rfl rfl (Nat.le_of_ble_eq_true rfl) dX7_go_81 (fun H locs hH hS => ?_)
          have hH : HT D cs A T (a0 :: O) ((a0, .inr (7, [.ref q0_0, .int q0_1, .int f8_2, .int f8_2, .int 0, .int q0_5, .int q0_6, .int q0_7])) :: X) H := hH
          refine lv_goto (tgt := 303) hx hb dX7_go_84 (by decide) ?_
          have z_0 : (0 : Int32).toInt = 0 := by decide
          exact J303 f8_2 0 q0_5 _ _ _ (by omega) (by omega) (by decide) (by decide) (by omega) hH hS (lv_sub hl [] rfl)
      refine lv_icmp_ge (tgt := 60) hx hb dX7_go_16 (by decide) (fun c16 => ?_) (fun c16 => ?_)
      · skip
        have fuc16 := full_i f8_2
        have fvc16 := full_i q0_1
        have tc16 := g_le c16
        exact J60  _ _ _  hH hS (lv_sub hl [0] rfl)
      · skip
        have fuc16 := full_i f8_2
        have fvc16 := full_i q0_1
        have tc16 := g_nle c16
        refine lv_aload_n hx hb dX7_go_19 rfl (lv_at hl 0 rfl) ?_
        refine x_get (ci := 7) (C := RX7) (F := TX7) (N := 8) (v := .ref q0_0) hx hb hts uX7 hown hkb hH rfl 0 (by decide) rfl kw_44 (fun _ h9 => h9) dX7_go_20 ?_
        refine lv_aload_n hx hb dX7_go_23 rfl (lv_at hl 0 rfl) ?_
        refine x_get (ci := 7) (C := RX7) (F := TX7) (N := 8) (v := .int f8_2) hx hb hts uX7 hown hkb hH rfl 2 (by decide) rfl kw_46 (fun _ h9 => h9) dX7_go_24 ?_
        refine t_bld hx hb hkb hH t_q0_0 (hO.no t_q0_0 (by decide)) (by omega) (by omega) dX7_go_27 (fun v27 => ?_)
        refine lv_bipush (v := 10) hx hb dX7_go_28 (by decide) ?_
        have J47 : ∀  (H : Heap) (locs : List Loc) (ls : Array Slot), HT D cs A T (a0 :: O) ((a0, .inr (7, [.ref q0_0, .int q0_1, .int f8_2, .int q0_3, .int q0_4, .int q0_5, .int q0_6, .int q0_7])) :: X) H → va_S A s.heap H locs → lv_has ls 1 [(0, .ref a0)] → W p l e { frames := 4, cells := 0, slots := 0, locals := 91 } s m [.ref a0].toArray below meth c H locs 0 0 (MQ below (Tv D cs (fun u => u = (T, O, X)) A) [.ref a0].toArray s 0 0 A) (F0 m 47 ls []) := by
          intro  H locs ls  hH hS hl
          refine lv_aload_n hx hb dX7_go_47 rfl (lv_at hl 0 rfl) ?_
          refine lv_dup hx hb dX7_go_48 rfl ?_
          refine x_get (ci := 7) (C := RX7) (F := TX7) (N := 8) (v := .int f8_2) hx hb hts uX7 hown hkb hH rfl 2 (by decide) rfl kw_46 (fun _ h9 => h9) dX7_go_49 ?_
          refine lv_iconst (v := 1) hx hb dX7_go_52 (by decide) ?_
          refine lv_iadd hx hb dX7_go_53 ?_
          refine lv_topi (fun v53 ev53 => ?_)
          have tv53 : v53.toInt = f8_2.toInt + (1) := by rw [ev53]; exact add_i rfl (by decide : (1 : Int32).toInt = 1) (by omega) (by omega)
          refine x_put (ci := 7) (v := .int v53) (ty := tyX7 2) (C := RX7) (F := TX7) (N := 8) hx hb hts uX7 tyX7 tyX7_ok nmX7 hown hkb hH hS rfl 2 (by decide) kw_46 (fun _ h9 => h9) rfl (tyX7_ok 2 (by decide)) rfl rfl (Nat.le_of_ble_eq_true rfl) dX7_go_54 (fun H locs hH hS => ?_)
          have hH : HT D cs A T (a0 :: O) ((a0, .inr (7, [.ref q0_0, .int q0_1, .int v53, .int q0_3, .int q0_4, .int q0_5, .int q0_6, .int q0_7])) :: X) H := hH
          refine lv_goto (tgt := 8) hx hb dX7_go_57 (by decide) ?_
          exact ih8 _ (by omega) v53 _ _ _ rfl (by omega) (by omega) (by omega) hH hS (lv_sub hl [0] rfl)
        refine lv_icmp_eq (tgt := 47) hx hb dX7_go_30 (by decide) (fun c30 => ?_) (fun c30 => ?_)
        · skip
          have tc30 := f_eq (k := 10) (by decide) c30
          exact J47  _ _ _  hH hS (lv_sub hl [0] rfl)
        · skip
          have tc30 := f_ne (k := 10) (by decide) c30
          refine lv_aload_n hx hb dX7_go_33 rfl (lv_at hl 0 rfl) ?_
          refine x_get (ci := 7) (C := RX7) (F := TX7) (N := 8) (v := .ref q0_0) hx hb hts uX7 hown hkb hH rfl 0 (by decide) rfl kw_44 (fun _ h9 => h9) dX7_go_34 ?_
          refine lv_aload_n hx hb dX7_go_37 rfl (lv_at hl 0 rfl) ?_
          refine x_get (ci := 7) (C := RX7) (F := TX7) (N := 8) (v := .int f8_2) hx hb hts uX7 hown hkb hH rfl 2 (by decide) rfl kw_46 (fun _ h9 => h9) dX7_go_38 ?_
          refine t_bld hx hb hkb hH t_q0_0 (hO.no t_q0_0 (by decide)) (by omega) (by omega) dX7_go_41 (fun v41 => ?_)
          refine lv_bipush (v := 32) hx hb dX7_go_42 (by decide) ?_
          refine lv_icmp_ne (tgt := 60) hx hb dX7_go_44 (by decide) (fun c44 => ?_) (fun c44 => ?_)
          · skip
            have tc44 := f_ne (k := 32) (by decide) c44
            exact J60  _ _ _  hH hS (lv_sub hl [0] rfl)
          · skip
            have tc44 := f_eq (k := 32) (by decide) c44
            exact J47  _ _ _  hH hS (lv_sub hl [0] rfl)
  refine x_put (ci := 7) (v := .int q0_3) (ty := tyX7 2) (C := RX7) (F := TX7) (N := 8) hx hb hts uX7 tyX7 tyX7_ok nmX7 hown hkb hH hS rfl 2 (by decide) kw_46 (fun _ h9 => h9) rfl (tyX7_ok 2 (by decide)) rfl rfl (Nat.le_of_ble_eq_true rfl) dX7_go_5 (fun H locs hH hS => ?_)
  have hH : HT D cs A T (a0 :: O) ((a0, .inr (7, [.ref q0_0, .int q0_1, .int q0_3, .int q0_3, .int q0_4, .int q0_5, .int q0_6, .int q0_7])) :: X) H := hH
  exact J8 _ q0_3 _ _ _ rfl (by omega) (by omega) (by omega) hH hS (lv_sub hl [0] rfl)
set_option maxHeartbeats 4000000 in
set_option maxRecDepth 100000 in
theorem s_Tok_begin (l : Launch) (D : va_G) (cs : CS) (kf : KF) (T : TF) (O : List Nat) (X : va_W) (a0 : Nat) (a1 : Nat) (x2 : Int32) (t_a0 : T a0 = some (17, 0, 0)) (t_a1 : T a1 = some (0, 900, 0)) (l_x2 : 0 ≤ x2.toInt) (hO : okO T O [0, 17]) : TK l D cs kf yX7_begin cX7_begin 3 none { frames := 5, cells := 0, slots := 0, locals := 111 } [.ref a0, .ref a1, .int x2] T O X (Tv D cs (fun u => u = (T, O, X))) := by
  refine tk_of (by decide) (Nat.le_of_ble_eq_true rfl) (fun p e s m below meth c ls A H locs hx hb hr hml hown hts hlocks hnm hkb hH hS hA hOX hks hE hl => ?_)
  have hown : s.vm.findClass RX7 = some m.cls := hown
  have hl : lv_has ls 3 [(0, .ref a0), (1, .ref a1), (2, .int x2)] := hl
  have hO0 := hO
  obtain ⟨fs9, ho9, hH⟩ := hH.take t_a0 (hO0.no t_a0 (by decide))
  obtain ⟨q0_0, nq0_0, q0_1, q0_2, q0_3, q0_4, q0_5, q0_6, q0_7, rfl, t_q0_0, b_q0_0, l1_0, u1_0, l2_0, u2_0, l3_0, u3_0⟩ := ho9
  have hH : HT D cs A T (a0 :: O) ((a0, .inr (7, [.ref q0_0, .int q0_1, .int q0_2, .int q0_3, .int q0_4, .int q0_5, .int q0_6, .int q0_7])) :: X) H := hH
  have hO : okO T (a0 :: O) [0] := okO.cons (hO0.sub (by decide)) t_a0 (by decide)
  refine lv_aload_n hx hb dX7_begin_0 rfl (lv_at hl 0 rfl) ?_
  refine lv_aload_n hx hb dX7_begin_1 rfl (lv_at hl 1 rfl) ?_
  refine x_put (ci := 7) (v := .ref a1) (ty := tyX7 0) (C := RX7) (F := TX7) (N := 8) hx hb hts uX7 tyX7 tyX7_ok nmX7 hown hkb hH hS rfl 0 (by decide) kw_44 (fun _ h9 => h9) rfl (tyX7_ok 0 (by decide)) rfl rfl (Nat.le_of_ble_eq_true rfl) dX7_begin_2 (fun H locs hH hS => ?_)
  have hH : HT D cs A T (a0 :: O) ((a0, .inr (7, [.ref a1, .int q0_1, .int q0_2, .int q0_3, .int q0_4, .int q0_5, .int q0_6, .int q0_7])) :: X) H := hH
  refine lv_aload_n hx hb dX7_begin_5 rfl (lv_at hl 0 rfl) ?_
  refine lv_iload_n hx hb dX7_begin_6 rfl (lv_at hl 2 rfl) ?_
  refine lv_aload_n hx hb dX7_begin_7 rfl (lv_at hl 1 rfl) ?_
  refine t_len0 hx hb hkb hH t_a1 (hO.no t_a1 (by decide)) dX7_begin_8 ?_
  refine lv_topc (y := 900) (by rfl) ?_
  refine va_mmin hx hb (by rw [hml]; exact hl.1.symm) hown (hts _ kw_449) (hts _ kw_450) (hts _ kw_6) (hts _ kw_451) (Nat.le_of_ble_eq_true rfl) (Nat.le_of_ble_eq_true rfl) (Nat.le_of_ble_eq_true rfl) (Nat.le_of_ble_eq_true rfl) dX7_begin_9 ?_
  refine lv_topi (fun v9 ev9 => ?_)
  have tv9 : v9.toInt = min x2.toInt (900) := by rw [ev9]; exact min_i rfl (by decide : (900 : Int32).toInt = 900)
  refine x_put (ci := 7) (v := .int v9) (ty := tyX7 1) (C := RX7) (F := TX7) (N := 8) hx hb hts uX7 tyX7 tyX7_ok nmX7 hown hkb hH hS rfl 1 (by decide) kw_45 (fun _ h9 => h9) rfl (tyX7_ok 1 (by decide)) rfl rfl (Nat.le_of_ble_eq_true rfl) dX7_begin_12 (fun H locs hH hS => ?_)
  have hH : HT D cs A T (a0 :: O) ((a0, .inr (7, [.ref a1, .int v9, .int q0_2, .int q0_3, .int q0_4, .int q0_5, .int q0_6, .int q0_7])) :: X) H := hH
  refine lv_aload_n hx hb dX7_begin_15 rfl (lv_at hl 0 rfl) ?_
  refine lv_iconst (v := 0) hx hb dX7_begin_16 (by decide) ?_
  refine x_put (ci := 7) (v := .int 0) (ty := tyX7 3) (C := RX7) (F := TX7) (N := 8) hx hb hts uX7 tyX7 tyX7_ok nmX7 hown hkb hH hS rfl 3 (by decide) kw_47 (fun _ h9 => h9) rfl (tyX7_ok 3 (by decide)) rfl rfl (Nat.le_of_ble_eq_true rfl) dX7_begin_17 (fun H locs hH hS => ?_)
  have hH : HT D cs A T (a0 :: O) ((a0, .inr (7, [.ref a1, .int v9, .int q0_2, .int 0, .int q0_4, .int q0_5, .int q0_6, .int q0_7])) :: X) H := hH
  refine lv_aload_n hx hb dX7_begin_20 rfl (lv_at hl 0 rfl) ?_
  refine lv_iconst (v := 0) hx hb dX7_begin_21 (by decide) ?_
  refine x_put (ci := 7) (v := .int 0) (ty := tyX7 6) (C := RX7) (F := TX7) (N := 8) hx hb hts uX7 tyX7 tyX7_ok nmX7 hown hkb hH hS rfl 6 (by decide) kw_54 (fun _ h9 => h9) rfl (tyX7_ok 6 (by decide)) rfl rfl (Nat.le_of_ble_eq_true rfl) dX7_begin_22 (fun H locs hH hS => ?_)
  have hH : HT D cs A T (a0 :: O) ((a0, .inr (7, [.ref a1, .int v9, .int q0_2, .int 0, .int q0_4, .int q0_5, .int 0, .int q0_7])) :: X) H := hH
  refine lv_aload_n hx hb dX7_begin_25 rfl (lv_at hl 0 rfl) ?_
  refine lv_iconst (v := (-1)) hx hb dX7_begin_26 (by decide) ?_
  refine x_put (ci := 7) (v := .int (-1)) (ty := tyX7 7) (C := RX7) (F := TX7) (N := 8) hx hb hts uX7 tyX7 tyX7_ok nmX7 hown hkb hH hS rfl 7 (by decide) kw_56 (fun _ h9 => h9) rfl (tyX7_ok 7 (by decide)) rfl rfl (Nat.le_of_ble_eq_true rfl) dX7_begin_27 (fun H locs hH hS => ?_)
  have hH : HT D cs A T (a0 :: O) ((a0, .inr (7, [.ref a1, .int v9, .int q0_2, .int 0, .int q0_4, .int q0_5, .int 0, .int (-1)])) :: X) H := hH
  refine lv_aload_n hx hb dX7_begin_30 rfl (lv_at hl 0 rfl) ?_
  have k_0 : (0 : Int32).toInt = 0 := by decide
  have hH : HT D cs A T O X H := HT.lay (ci := 7) hH t_a0 (⟨_, _, _, _, _, _, _, _, _, rfl, t_a1, by omega, by omega, by omega, by omega, by omega, by omega, by omega⟩)
  have hO := hO0
  refine tk_v hH hS hA (tr_V (n := 0) (As := []) hx hb hml hown hts hkb hH hOX hks hE hS hA (s_Tok_go l D cs kf T O X a0 t_a0 (hO.sub (by decide))) kw_452 kw_453 kw_454 kw_3 kw_455 (by decide +kernel) ⟨Nat.le_of_ble_eq_true rfl, Nat.le_of_ble_eq_true rfl⟩ (HT.recv (ci := 7) hkb hH t_a0 (hO.no t_a0 (by decide)) rfl) rfl rfl hl.1 (Nat.le_of_ble_eq_true rfl) dX7_begin_31 ⟨Nat.le_of_ble_eq_true rfl, Nat.le_of_ble_eq_true rfl⟩) (fun u H locs hz9 hH hS => ?_)
  have hz9 : u = (T, O, X) := hz9
  subst hz9
  have hH : HT D cs A T O X H := hH
  obtain ⟨fs9, ho9, hH⟩ := hH.take t_a0 (hO0.no t_a0 (by decide))
  obtain ⟨q31_0, nq31_0, q31_1, q31_2, q31_3, q31_4, q31_5, q31_6, q31_7, rfl, t_q31_0, b_q31_0, l1_31, u1_31, l2_31, u2_31, l3_31, u3_31⟩ := ho9
  have hH : HT D cs A T (a0 :: O) ((a0, .inr (7, [.ref q31_0, .int q31_1, .int q31_2, .int q31_3, .int q31_4, .int q31_5, .int q31_6, .int q31_7])) :: X) H := hH
  have hO : okO T (a0 :: O) [0] := okO.cons (hO0.sub (by decide)) t_a0 (by decide)
  refine W.widen (k := 0) (n := 0) (Nat.le_of_ble_eq_true rfl) (Nat.le_of_ble_eq_true rfl) ?_
  have hH : HT D cs A T O X H := HT.lay (ci := 7) hH t_a0 (⟨_, _, _, _, _, _, _, _, _, rfl, t_q31_0, by omega, by omega, by omega, by omega, by omega, by omega, by omega⟩)
  have hO := hO0
  exact te_v hx hb hr hlocks hH hS rfl dX7_begin_34
set_option maxHeartbeats 4000000 in
set_option maxRecDepth 100000 in
theorem s_Tok_isWord (l : Launch) (D : va_G) (cs : CS) (kf : KF) (T : TF) (O : List Nat) (X : va_W) (a0 : Nat) (a1 : Nat) (t_a0 : T a0 = some (17, 0, 0)) (t_a1 : a1 < 21) (hO : okO T O [0, 17]) : TK l D cs kf yX7_isWord cX7_isWord 3 (some (.boolean)) { frames := 4, cells := 0, slots := 0, locals := 85 } [.ref a0, .ref (kf.1 a1)] T O X (Ti D cs (fun r u => u = (T, O, X) ∧ 0 ≤ r.toInt ∧ r.toInt ≤ 1)) := by
  refine tk_of (by decide) (Nat.le_of_ble_eq_true rfl) (fun p e s m below meth c ls A H locs hx hb hr hml hown hts hlocks hnm hkb hH hS hA hOX hks hE hl => ?_)
  have hown : s.vm.findClass RX7 = some m.cls := hown
  have hl : lv_has ls 3 [(0, .ref a0), (1, .ref (kf.1 a1))] := hl
  have hO0 := hO
  obtain ⟨fs9, ho9, hH⟩ := hH.take t_a0 (hO0.no t_a0 (by decide))
  obtain ⟨q0_0, nq0_0, q0_1, q0_2, q0_3, q0_4, q0_5, q0_6, q0_7, rfl, t_q0_0, b_q0_0, l1_0, u1_0, l2_0, u2_0, l3_0, u3_0⟩ := ho9
  have hH : HT D cs A T (a0 :: O) ((a0, .inr (7, [.ref q0_0, .int q0_1, .int q0_2, .int q0_3, .int q0_4, .int q0_5, .int q0_6, .int q0_7])) :: X) H := hH
  have hO : okO T (a0 :: O) [0] := okO.cons (hO0.sub (by decide)) t_a0 (by decide)
  refine lv_aload_n hx hb dX7_isWord_0 rfl (lv_at hl 0 rfl) ?_
  refine x_get (ci := 7) (C := RX7) (F := TX7) (N := 8) (v := .int q0_4) hx hb hts uX7 hown hkb hH rfl 4 (by decide) rfl kw_48 (fun _ h9 => h9) dX7_isWord_1 ?_
  refine lv_iconst (v := 1) hx hb dX7_isWord_4 (by decide) ?_
  have J24 : ∀  (H : Heap) (locs : List Loc) (ls : Array Slot), HT D cs A T (a0 :: O) ((a0, .inr (7, [.ref q0_0, .int q0_1, .int q0_2, .int q0_3, .int q0_4, .int q0_5, .int q0_6, .int q0_7])) :: X) H → va_S A s.heap H locs → lv_has ls 3 [] → W p l e { frames := 4, cells := 0, slots := 0, locals := 85 } s m [.ref a0, .ref (kf.1 a1)].toArray below meth c H locs 0 0 (MQ below (Ti D cs (fun r u => u = (T, O, X) ∧ 0 ≤ r.toInt ∧ r.toInt ≤ 1) A) [.ref a0, .ref (kf.1 a1)].toArray s 0 0 A) (F0 m 24 ls []) := by
    intro  H locs ls  hH hS hl
    refine lv_iconst (v := 0) hx hb dX7_isWord_24 (by decide) ?_
    have hH : HT D cs A T O X H := HT.lay (ci := 7) hH t_a0 (⟨_, _, _, _, _, _, _, _, _, rfl, t_q0_0, by omega, by omega, by omega, by omega, by omega, by omega, by omega⟩)
    have hO := hO0
    exact te_z hx hb hr hlocks (by rfl) hH hS (⟨rfl, by decide, by decide⟩) dX7_isWord_25
  refine lv_icmp_ne (tgt := 24) hx hb dX7_isWord_5 (by decide) (fun c5 => ?_) (fun c5 => ?_)
  · skip
    have tc5 := f_ne (k := 1) (by decide) c5
    exact J24  _ _ _  hH hS (lv_sub hl [] rfl)
  · skip
    have tc5 := f_eq (k := 1) (by decide) c5
    refine lv_aload_n hx hb dX7_isWord_8 rfl (lv_at hl 0 rfl) ?_
    refine x_get (ci := 7) (C := RX7) (F := TX7) (N := 8) (v := .int q0_3) hx hb hts uX7 hown hkb hH rfl 3 (by decide) rfl kw_47 (fun _ h9 => h9) dX7_isWord_9 ?_
    refine lv_aload_n hx hb dX7_isWord_12 rfl (lv_at hl 0 rfl) ?_
    refine x_get (ci := 7) (C := RX7) (F := TX7) (N := 8) (v := .int q0_2) hx hb hts uX7 hown hkb hH rfl 2 (by decide) rfl kw_46 (fun _ h9 => h9) dX7_isWord_13 ?_
    refine lv_isub hx hb dX7_isWord_16 ?_
    refine lv_topi (fun v16 ev16 => ?_)
    have tv16 : v16.toInt = q0_3.toInt - q0_2.toInt := by rw [ev16]; exact sub_i rfl rfl (by omega) (by omega)
    refine lv_aload_n hx hb dX7_isWord_17 rfl (lv_at hl 1 rfl) ?_
    refine tk_i hH hS hA (tr_V (n := 0) (As := []) hx hb hml hown hts hkb hH (ox_c hOX) hks hE hS hA (s_length l D cs kf T (a0 :: O) ((a0, .inr (7, [.ref q0_0, .int q0_1, .int q0_2, .int q0_3, .int q0_4, .int q0_5, .int q0_6, .int q0_7])) :: X) a1 t_a1 (hO.sub (by decide))) kw_554 kw_478 kw_479 kw_14 kw_480 (by decide +kernel) ⟨Nat.le_of_ble_eq_true rfl, Nat.le_of_ble_eq_true rfl⟩ (vk_recv hE.1 t_a1 hS) rfl rfl hl.1 (Nat.le_of_ble_eq_true rfl) dX7_isWord_18 ⟨Nat.le_of_ble_eq_true rfl, Nat.le_of_ble_eq_true rfl⟩) (fun v18 u H locs hz9 hH hS => ?_)
    obtain ⟨rfl, l_v18, u_v18, x_v180⟩ := hz9
    have hH : HT D cs A T (a0 :: O) ((a0, .inr (7, [.ref q0_0, .int q0_1, .int q0_2, .int q0_3, .int q0_4, .int q0_5, .int q0_6, .int q0_7])) :: X) H := hH
    refine W.widen (k := 0) (n := 0) (Nat.le_of_ble_eq_true rfl) (Nat.le_of_ble_eq_true rfl) ?_
    refine lv_icmp_eq (tgt := 26) hx hb dX7_isWord_21 (by decide) (fun c21 => ?_) (fun c21 => ?_)
    · skip
      have fuc21 := full_i v16
      have fvc21 := full_i v18
      have tc21 := g_eq c21
      refine lv_iconst (v := 0) hx hb dX7_isWord_26 (by decide) ?_
      have J28 : ∀ (n : Nat) (p28_2 : Int32) (H : Heap) (locs : List Loc) (ls : Array Slot), (99 - p28_2.toInt).toNat = n → (0 ≤ p28_2.toInt) → (p28_2.toInt ≤ 99) → HT D cs A T (a0 :: O) ((a0, .inr (7, [.ref q0_0, .int q0_1, .int q0_2, .int q0_3, .int q0_4, .int q0_5, .int q0_6, .int q0_7])) :: X) H → va_S A s.heap H locs → lv_has ls 3 [(2, .int p28_2), (0, .ref a0), (1, .ref (kf.1 a1))] → W p l e { frames := 4, cells := 0, slots := 0, locals := 85 } s m [.ref a0, .ref (kf.1 a1)].toArray below meth c H locs 0 0 (MQ below (Ti D cs (fun r u => u = (T, O, X) ∧ 0 ≤ r.toInt ∧ r.toInt ≤ 1) A) [.ref a0, .ref (kf.1 a1)].toArray s 0 0 A) (F0 m 28 ls []) := by
        intro n
        induction n using Nat.strongRecOn with
        | _ n ih28 =>
          intro p28_2 H locs ls hm28 l_p28_2 u_p28_2 hH hS hl
          refine lv_iload_n hx hb dX7_isWord_28 rfl (lv_at hl 0 rfl) ?_
          refine lv_aload_n hx hb dX7_isWord_29 rfl (lv_at hl 2 rfl) ?_
          refine tk_i hH hS hA (tr_V (n := 0) (As := []) hx hb hml hown hts hkb hH (ox_c hOX) hks hE hS hA (s_length l D cs kf T (a0 :: O) ((a0, .inr (7, [.ref q0_0, .int q0_1, .int q0_2, .int q0_3, .int q0_4, .int q0_5, .int q0_6, .int q0_7])) :: X) a1 t_a1 (hO.sub (by decide))) kw_554 kw_478 kw_479 kw_14 kw_480 (by decide +kernel) ⟨Nat.le_of_ble_eq_true rfl, Nat.le_of_ble_eq_true rfl⟩ (vk_recv hE.1 t_a1 hS) rfl rfl hl.1 (Nat.le_of_ble_eq_true rfl) dX7_isWord_30 ⟨Nat.le_of_ble_eq_true rfl, Nat.le_of_ble_eq_true rfl⟩) (fun v30 u H locs hz9 hH hS => ?_)
          obtain ⟨rfl, l_v30, u_v30, x_v300⟩ := hz9
          have hH : HT D cs A T (a0 :: O) ((a0, .inr (7, [.ref q0_0, .int q0_1, .int q0_2, .int q0_3, .int q0_4, .int q0_5, .int q0_6, .int q0_7])) :: X) H := hH
          refine W.widen (k := 0) (n := 0) (Nat.le_of_ble_eq_true rfl) (Nat.le_of_ble_eq_true rfl) ?_
          refine lv_icmp_ge (tgt := 63) hx hb dX7_isWord_33 (by decide) (fun c33 => ?_) (fun c33 => ?_)
          · skip
            have fuc33 := full_i p28_2
            have fvc33 := full_i v30
            have tc33 := g_le c33
            refine lv_iconst (v := 1) hx hb dX7_isWord_63 (by decide) ?_
            have hH : HT D cs A T O X H := HT.lay (ci := 7) hH t_a0 (⟨_, _, _, _, _, _, _, _, _, rfl, t_q0_0, by omega, by omega, by omega, by omega, by omega, by omega, by omega⟩)
            have hO := hO0
            exact te_z hx hb hr hlocks (by rfl) hH hS (⟨rfl, by decide, by decide⟩) dX7_isWord_64
          · skip
            have fuc33 := full_i p28_2
            have fvc33 := full_i v30
            have tc33 := g_nle c33
            refine lv_aload_n hx hb dX7_isWord_36 rfl (lv_at hl 1 rfl) ?_
            refine x_get (ci := 7) (C := RX7) (F := TX7) (N := 8) (v := .ref q0_0) hx hb hts uX7 hown hkb hH rfl 0 (by decide) rfl kw_44 (fun _ h9 => h9) dX7_isWord_37 ?_
            refine lv_aload_n hx hb dX7_isWord_40 rfl (lv_at hl 1 rfl) ?_
            refine x_get (ci := 7) (C := RX7) (F := TX7) (N := 8) (v := .int q0_2) hx hb hts uX7 hown hkb hH rfl 2 (by decide) rfl kw_46 (fun _ h9 => h9) dX7_isWord_41 ?_
            refine lv_iload_n hx hb dX7_isWord_44 rfl (lv_at hl 0 rfl) ?_
            refine lv_iadd hx hb dX7_isWord_45 ?_
            refine lv_topi (fun v45 ev45 => ?_)
            have tv45 : v45.toInt = q0_2.toInt + p28_2.toInt := by rw [ev45]; exact add_i rfl rfl (by omega) (by omega)
            refine t_bld hx hb hkb hH t_q0_0 (hO.no t_q0_0 (by decide)) (by omega) (by omega) dX7_isWord_46 (fun v46 => ?_)
            refine lv_aload_n hx hb dX7_isWord_47 rfl (lv_at hl 2 rfl) ?_
            refine lv_iload_n hx hb dX7_isWord_48 rfl (lv_at hl 0 rfl) ?_
            refine tk_i hH hS hA (tr_V (n := 1) (As := [.int p28_2]) hx hb hml hown hts hkb hH (ox_c hOX) hks hE hS hA (s_charAt l D cs kf T (a0 :: O) ((a0, .inr (7, [.ref q0_0, .int q0_1, .int q0_2, .int q0_3, .int q0_4, .int q0_5, .int q0_6, .int q0_7])) :: X) a1 p28_2 t_a1 (by omega) (by omega) (hO.sub (by decide))) kw_555 kw_556 kw_557 kw_14 kw_558 (by decide +kernel) ⟨Nat.le_of_ble_eq_true rfl, Nat.le_of_ble_eq_true rfl⟩ (vk_recv hE.1 t_a1 hS) rfl rfl hl.1 (Nat.le_of_ble_eq_true rfl) dX7_isWord_49 ⟨Nat.le_of_ble_eq_true rfl, Nat.le_of_ble_eq_true rfl⟩) (fun v49 u H locs hz9 hH hS => ?_)
            obtain ⟨rfl, l_v49, u_v49⟩ := hz9
            have hH : HT D cs A T (a0 :: O) ((a0, .inr (7, [.ref q0_0, .int q0_1, .int q0_2, .int q0_3, .int q0_4, .int q0_5, .int q0_6, .int q0_7])) :: X) H := hH
            refine W.widen (k := 0) (n := 0) (Nat.le_of_ble_eq_true rfl) (Nat.le_of_ble_eq_true rfl) ?_
            refine lv_icmp_eq (tgt := 57) hx hb dX7_isWord_52 (by decide) (fun c52 => ?_) (fun c52 => ?_)
            · skip
              have fuc52 := full_i v46
              have fvc52 := full_i v49
              have tc52 := g_eq c52
              obtain ⟨v57, ev57⟩ : ∃ y : Int32, y = p28_2 + 1 := ⟨_, rfl⟩
              have tv57 : v57.toInt = p28_2.toInt + (1) := by rw [ev57]; exact add_i rfl (by decide) (by omega) (by omega)
              refine lv_iinc (v := v57) (lv' := [(2, .int v57), (0, .ref a0), (1, .ref (kf.1 a1))]) hx hb dX7_isWord_57 hl (k := 0) rfl (by rw [ev57]; rfl) (by decide) rfl (fun ls hl => ?_)
              refine lv_goto (tgt := 28) hx hb dX7_isWord_60 (by decide) ?_
              exact ih28 _ (by omega) v57 _ _ _ rfl (by omega) (by omega) hH hS (lv_sub hl [0, 1, 2] rfl)
            · skip
              have fuc52 := full_i v46
              have fvc52 := full_i v49
              have tc52 := g_ne c52
              refine lv_iconst (v := 0) hx hb dX7_isWord_55 (by decide) ?_
              have hH : HT D cs A T O X H := HT.lay (ci := 7) hH t_a0 (⟨_, _, _, _, _, _, _, _, _, rfl, t_q0_0, by omega, by omega, by omega, by omega, by omega, by omega, by omega⟩)
              have hO := hO0
              exact te_z hx hb hr hlocks (by rfl) hH hS (⟨rfl, by decide, by decide⟩) dX7_isWord_56
      refine lv_istore_n (lv' := [(2, .int 0), (0, .ref a0), (1, .ref (kf.1 a1))]) hx hb dX7_isWord_27 rfl hl (by decide) rfl (fun ls hl => ?_)
      exact J28 _ 0 _ _ _ rfl (by decide) (by decide) hH hS (lv_sub hl [0, 1, 2] rfl)
    · skip
      have fuc21 := full_i v16
      have fvc21 := full_i v18
      have tc21 := g_ne c21
      exact J24  _ _ _  hH hS (lv_sub hl [] rfl)
set_option maxHeartbeats 4000000 in
set_option maxRecDepth 100000 in
theorem s_Tok_takeWord (l : Launch) (D : va_G) (cs : CS) (kf : KF) (T : TF) (O : List Nat) (X : va_W) (a0 : Nat) (a1 : Nat) (t_a0 : T a0 = some (17, 0, 0)) (t_a1 : a1 < 21) (hO : okO T O [0, 17]) : TK l D cs kf yX7_takeWord cX7_takeWord 2 (some (.boolean)) { frames := 5, cells := 0, slots := 0, locals := 111 } [.ref a0, .ref (kf.1 a1)] T O X (Ti D cs (fun r u => u = (T, O, X) ∧ 0 ≤ r.toInt ∧ r.toInt ≤ 1)) := by
  refine tk_of (by decide) (Nat.le_of_ble_eq_true rfl) (fun p e s m below meth c ls A H locs hx hb hr hml hown hts hlocks hnm hkb hH hS hA hOX hks hE hl => ?_)
  have hown : s.vm.findClass RX7 = some m.cls := hown
  have hl : lv_has ls 2 [(0, .ref a0), (1, .ref (kf.1 a1))] := hl
  refine lv_aload_n hx hb dX7_takeWord_0 rfl (lv_at hl 0 rfl) ?_
  refine lv_aload_n hx hb dX7_takeWord_1 rfl (lv_at hl 1 rfl) ?_
  refine tk_i hH hS hA (tr_V (n := 1) (As := [.ref (kf.1 a1)]) hx hb hml hown hts hkb hH hOX hks hE hS hA (s_Tok_isWord l D cs kf T O X a0 a1 t_a0 t_a1 (hO.sub (by decide))) kw_607 kw_551 kw_552 kw_3 kw_553 (by decide +kernel) ⟨Nat.le_of_ble_eq_true rfl, Nat.le_of_ble_eq_true rfl⟩ (HT.recv (ci := 7) hkb hH t_a0 (hO.no t_a0 (by decide)) rfl) rfl rfl hl.1 (Nat.le_of_ble_eq_true rfl) dX7_takeWord_2 ⟨Nat.le_of_ble_eq_true rfl, Nat.le_of_ble_eq_true rfl⟩) (fun v2 u H locs hz9 hH hS => ?_)
  obtain ⟨rfl, l_v2, u_v2⟩ := hz9
  have hH : HT D cs A T O X H := hH
  refine W.widen (k := 0) (n := 0) (Nat.le_of_ble_eq_true rfl) (Nat.le_of_ble_eq_true rfl) ?_
  refine lv_if_ne (tgt := 14) hx hb dX7_takeWord_5 (by decide) (fun c5 => ?_) (fun c5 => ?_)
  · skip
    have tc5 := f_ne (k := 0) (by decide) c5
    refine lv_aload_n hx hb dX7_takeWord_14 rfl (lv_at hl 0 rfl) ?_
    refine tk_v hH hS hA (tr_V (n := 0) (As := []) hx hb hml hown hts hkb hH hOX hks hE hS hA (s_Tok_go l D cs kf T O X a0 t_a0 (hO.sub (by decide))) kw_452 kw_453 kw_454 kw_3 kw_455 (by decide +kernel) ⟨Nat.le_of_ble_eq_true rfl, Nat.le_of_ble_eq_true rfl⟩ (HT.recv (ci := 7) hkb hH t_a0 (hO.no t_a0 (by decide)) rfl) rfl rfl hl.1 (Nat.le_of_ble_eq_true rfl) dX7_takeWord_15 ⟨Nat.le_of_ble_eq_true rfl, Nat.le_of_ble_eq_true rfl⟩) (fun u H locs hz9 hH hS => ?_)
    have hz9 : u = (T, O, X) := hz9
    subst hz9
    have hH : HT D cs A T O X H := hH
    refine W.widen (k := 0) (n := 0) (Nat.le_of_ble_eq_true rfl) (Nat.le_of_ble_eq_true rfl) ?_
    refine lv_iconst (v := 1) hx hb dX7_takeWord_18 (by decide) ?_
    exact te_z hx hb hr hlocks (by rfl) hH hS (⟨rfl, by decide, by decide⟩) dX7_takeWord_19
  · skip
    have tc5 := f_eq (k := 0) (by decide) c5
    refine lv_aload_n hx hb dX7_takeWord_8 rfl (lv_at hl 0 rfl) ?_
    refine lv_iconst (v := 2) hx hb dX7_takeWord_9 (by decide) ?_
    refine tk_i hH hS hA (tr_V (n := 1) (As := [.int 2]) hx hb hml hown hts hkb hH hOX hks hE hS hA (s_Tok_refuse l D cs kf T O X a0 (2) t_a0 (hO.sub (by decide))) kw_588 kw_580 kw_581 kw_3 kw_582 (by decide +kernel) ⟨Nat.le_of_ble_eq_true rfl, Nat.le_of_ble_eq_true rfl⟩ (HT.recv (ci := 7) hkb hH t_a0 (hO.no t_a0 (by decide)) rfl) rfl rfl hl.1 (Nat.le_of_ble_eq_true rfl) dX7_takeWord_10 ⟨Nat.le_of_ble_eq_true rfl, Nat.le_of_ble_eq_true rfl⟩) (fun v10 u H locs hz9 hH hS => ?_)
    obtain ⟨rfl, l_v10, u_v10⟩ := hz9
    have hH : HT D cs A T O X H := hH
    refine W.widen (k := 0) (n := 0) (Nat.le_of_ble_eq_true rfl) (Nat.le_of_ble_eq_true rfl) ?_
    exact te_z hx hb hr hlocks (nar01 (by omega) (by omega)) hH hS (⟨rfl, by omega, by omega⟩) dX7_takeWord_13
set_option maxHeartbeats 4000000 in
set_option maxRecDepth 100000 in
theorem s_Tok_takeSign (l : Launch) (D : va_G) (cs : CS) (kf : KF) (T : TF) (O : List Nat) (X : va_W) (a0 : Nat) (x1 : Int32) (t_a0 : T a0 = some (17, 0, 0)) (hO : okO T O [0, 17]) : TK l D cs kf yX7_takeSign cX7_takeSign 2 (some (.boolean)) { frames := 5, cells := 0, slots := 0, locals := 111 } [.ref a0, .int x1] T O X (Ti D cs (fun r u => u = (T, O, X) ∧ 0 ≤ r.toInt ∧ r.toInt ≤ 1)) := by
  refine tk_of (by decide) (Nat.le_of_ble_eq_true rfl) (fun p e s m below meth c ls A H locs hx hb hr hml hown hts hlocks hnm hkb hH hS hA hOX hks hE hl => ?_)
  have hown : s.vm.findClass RX7 = some m.cls := hown
  have hl : lv_has ls 2 [(0, .ref a0), (1, .int x1)] := hl
  refine lv_aload_n hx hb dX7_takeSign_0 rfl (lv_at hl 0 rfl) ?_
  refine lv_iload_n hx hb dX7_takeSign_1 rfl (lv_at hl 1 rfl) ?_
  refine tk_i hH hS hA (tr_V (n := 1) (As := [.int x1]) hx hb hml hown hts hkb hH hOX hks hE hS hA (s_Tok_isSign l D cs kf T O X a0 x1 t_a0 (hO.sub (by decide))) kw_614 kw_615 kw_616 kw_3 kw_617 (by decide +kernel) ⟨Nat.le_of_ble_eq_true rfl, Nat.le_of_ble_eq_true rfl⟩ (HT.recv (ci := 7) hkb hH t_a0 (hO.no t_a0 (by decide)) rfl) rfl rfl hl.1 (Nat.le_of_ble_eq_true rfl) dX7_takeSign_2 ⟨Nat.le_of_ble_eq_true rfl, Nat.le_of_ble_eq_true rfl⟩) (fun v2 u H locs hz9 hH hS => ?_)
  obtain ⟨rfl, l_v2, u_v2⟩ := hz9
  have hH : HT D cs A T O X H := hH
  refine W.widen (k := 0) (n := 0) (Nat.le_of_ble_eq_true rfl) (Nat.le_of_ble_eq_true rfl) ?_
  refine lv_if_ne (tgt := 14) hx hb dX7_takeSign_5 (by decide) (fun c5 => ?_) (fun c5 => ?_)
  · skip
    have tc5 := f_ne (k := 0) (by decide) c5
    refine lv_aload_n hx hb dX7_takeSign_14 rfl (lv_at hl 0 rfl) ?_
    refine tk_v hH hS hA (tr_V (n := 0) (As := []) hx hb hml hown hts hkb hH hOX hks hE hS hA (s_Tok_go l D cs kf T O X a0 t_a0 (hO.sub (by decide))) kw_452 kw_453 kw_454 kw_3 kw_455 (by decide +kernel) ⟨Nat.le_of_ble_eq_true rfl, Nat.le_of_ble_eq_true rfl⟩ (HT.recv (ci := 7) hkb hH t_a0 (hO.no t_a0 (by decide)) rfl) rfl rfl hl.1 (Nat.le_of_ble_eq_true rfl) dX7_takeSign_15 ⟨Nat.le_of_ble_eq_true rfl, Nat.le_of_ble_eq_true rfl⟩) (fun u H locs hz9 hH hS => ?_)
    have hz9 : u = (T, O, X) := hz9
    subst hz9
    have hH : HT D cs A T O X H := hH
    refine W.widen (k := 0) (n := 0) (Nat.le_of_ble_eq_true rfl) (Nat.le_of_ble_eq_true rfl) ?_
    refine lv_iconst (v := 1) hx hb dX7_takeSign_18 (by decide) ?_
    exact te_z hx hb hr hlocks (by rfl) hH hS (⟨rfl, by decide, by decide⟩) dX7_takeSign_19
  · skip
    have tc5 := f_eq (k := 0) (by decide) c5
    refine lv_aload_n hx hb dX7_takeSign_8 rfl (lv_at hl 0 rfl) ?_
    refine lv_iconst (v := 2) hx hb dX7_takeSign_9 (by decide) ?_
    refine tk_i hH hS hA (tr_V (n := 1) (As := [.int 2]) hx hb hml hown hts hkb hH hOX hks hE hS hA (s_Tok_refuse l D cs kf T O X a0 (2) t_a0 (hO.sub (by decide))) kw_588 kw_580 kw_581 kw_3 kw_582 (by decide +kernel) ⟨Nat.le_of_ble_eq_true rfl, Nat.le_of_ble_eq_true rfl⟩ (HT.recv (ci := 7) hkb hH t_a0 (hO.no t_a0 (by decide)) rfl) rfl rfl hl.1 (Nat.le_of_ble_eq_true rfl) dX7_takeSign_10 ⟨Nat.le_of_ble_eq_true rfl, Nat.le_of_ble_eq_true rfl⟩) (fun v10 u H locs hz9 hH hS => ?_)
    obtain ⟨rfl, l_v10, u_v10⟩ := hz9
    have hH : HT D cs A T O X H := hH
    refine W.widen (k := 0) (n := 0) (Nat.le_of_ble_eq_true rfl) (Nat.le_of_ble_eq_true rfl) ?_
    exact te_z hx hb hr hlocks (nar01 (by omega) (by omega)) hH hS (⟨rfl, by omega, by omega⟩) dX7_takeSign_13
set_option maxHeartbeats 4000000 in
set_option maxRecDepth 100000 in
theorem s_Tok_takeNumber (l : Launch) (D : va_G) (cs : CS) (kf : KF) (T : TF) (O : List Nat) (X : va_W) (a0 : Nat) (x1 : Int32) (t_a0 : T a0 = some (17, 0, 0)) (hO : okO T O [0, 17]) : TK l D cs kf yX7_takeNumber cX7_takeNumber 3 (some (.int)) { frames := 5, cells := 0, slots := 0, locals := 111 } [.ref a0, .int x1] T O X (Ti D cs (fun r u => u = (T, O, X))) := by
  refine tk_of (by decide) (Nat.le_of_ble_eq_true rfl) (fun p e s m below meth c ls A H locs hx hb hr hml hown hts hlocks hnm hkb hH hS hA hOX hks hE hl => ?_)
  have hown : s.vm.findClass RX7 = some m.cls := hown
  have hl : lv_has ls 3 [(0, .ref a0), (1, .int x1)] := hl
  have hO0 := hO
  obtain ⟨fs9, ho9, hH⟩ := hH.take t_a0 (hO0.no t_a0 (by decide))
  obtain ⟨q0_0, nq0_0, q0_1, q0_2, q0_3, q0_4, q0_5, q0_6, q0_7, rfl, t_q0_0, b_q0_0, l1_0, u1_0, l2_0, u2_0, l3_0, u3_0⟩ := ho9
  have hH : HT D cs A T (a0 :: O) ((a0, .inr (7, [.ref q0_0, .int q0_1, .int q0_2, .int q0_3, .int q0_4, .int q0_5, .int q0_6, .int q0_7])) :: X) H := hH
  have hO : okO T (a0 :: O) [0] := okO.cons (hO0.sub (by decide)) t_a0 (by decide)
  refine lv_aload_n hx hb dX7_takeNumber_0 rfl (lv_at hl 0 rfl) ?_
  refine x_get (ci := 7) (C := RX7) (F := TX7) (N := 8) (v := .int q0_4) hx hb hts uX7 hown hkb hH rfl 4 (by decide) rfl kw_48 (fun _ h9 => h9) dX7_takeNumber_1 ?_
  refine lv_iconst (v := 2) hx hb dX7_takeNumber_4 (by decide) ?_
  have J16 : ∀  (H : Heap) (locs : List Loc) (ls : Array Slot), HT D cs A T (a0 :: O) ((a0, .inr (7, [.ref q0_0, .int q0_1, .int q0_2, .int q0_3, .int q0_4, .int q0_5, .int q0_6, .int q0_7])) :: X) H → va_S A s.heap H locs → lv_has ls 3 [(0, .ref a0)] → W p l e { frames := 5, cells := 0, slots := 0, locals := 111 } s m [.ref a0, .int x1].toArray below meth c H locs 0 0 (MQ below (Ti D cs (fun r u => u = (T, O, X)) A) [.ref a0, .int x1].toArray s 0 0 A) (F0 m 16 ls []) := by
    intro  H locs ls  hH hS hl
    refine lv_aload_n hx hb dX7_takeNumber_16 rfl (lv_at hl 0 rfl) ?_
    refine lv_aload_n hx hb dX7_takeNumber_17 rfl (lv_at hl 0 rfl) ?_
    refine x_get (ci := 7) (C := RX7) (F := TX7) (N := 8) (v := .int q0_4) hx hb hts uX7 hown hkb hH rfl 4 (by decide) rfl kw_48 (fun _ h9 => h9) dX7_takeNumber_18 ?_
    refine lv_iconst (v := 2) hx hb dX7_takeNumber_21 (by decide) ?_
    have J30 : ∀ (k30_0 : Int32) (H : Heap) (locs : List Loc) (ls : Array Slot), (2 ≤ k30_0.toInt) → (k30_0.toInt ≤ 3) → HT D cs A T (a0 :: O) ((a0, .inr (7, [.ref q0_0, .int q0_1, .int q0_2, .int q0_3, .int q0_4, .int q0_5, .int q0_6, .int q0_7])) :: X) H → va_S A s.heap H locs → lv_has ls 3 [] → W p l e { frames := 5, cells := 0, slots := 0, locals := 111 } s m [.ref a0, .int x1].toArray below meth c H locs 0 0 (MQ below (Ti D cs (fun r u => u = (T, O, X)) A) [.ref a0, .int x1].toArray s 0 0 A) (F0 m 30 ls [.int k30_0, .ref a0]) := by
      intro k30_0 H locs ls l_k30_0 u_k30_0 hH hS hl
      have hH : HT D cs A T O X H := HT.lay (ci := 7) hH t_a0 (⟨_, _, _, _, _, _, _, _, _, rfl, t_q0_0, by omega, by omega, by omega, by omega, by omega, by omega, by omega⟩)
      have hO := hO0
      refine tk_i hH hS hA (tr_V (n := 1) (As := [.int k30_0]) hx hb hml hown hts hkb hH hOX hks hE hS hA (s_Tok_refuse l D cs kf T O X a0 k30_0 t_a0 (hO.sub (by decide))) kw_588 kw_580 kw_581 kw_3 kw_582 (by decide +kernel) ⟨Nat.le_of_ble_eq_true rfl, Nat.le_of_ble_eq_true rfl⟩ (HT.recv (ci := 7) hkb hH t_a0 (hO.no t_a0 (by decide)) rfl) rfl rfl hl.1 (Nat.le_of_ble_eq_true rfl) dX7_takeNumber_30 ⟨Nat.le_of_ble_eq_true rfl, Nat.le_of_ble_eq_true rfl⟩) (fun v30 u H locs hz9 hH hS => ?_)
      obtain ⟨rfl, l_v30, u_v30⟩ := hz9
      have hH : HT D cs A T O X H := hH
      obtain ⟨fs9, ho9, hH⟩ := hH.take t_a0 (hO0.no t_a0 (by decide))
      obtain ⟨q30_0, nq30_0, q30_1, q30_2, q30_3, q30_4, q30_5, q30_6, q30_7, rfl, t_q30_0, b_q30_0, l1_30, u1_30, l2_30, u2_30, l3_30, u3_30⟩ := ho9
      have hH : HT D cs A T (a0 :: O) ((a0, .inr (7, [.ref q30_0, .int q30_1, .int q30_2, .int q30_3, .int q30_4, .int q30_5, .int q30_6, .int q30_7])) :: X) H := hH
      have hO : okO T (a0 :: O) [0] := okO.cons (hO0.sub (by decide)) t_a0 (by decide)
      refine W.widen (k := 0) (n := 0) (Nat.le_of_ble_eq_true rfl) (Nat.le_of_ble_eq_true rfl) ?_
      refine lv_pop hx hb dX7_takeNumber_33 rfl ?_
      refine lv_iconst (v := (-1)) hx hb dX7_takeNumber_34 (by decide) ?_
      have hH : HT D cs A T O X H := HT.lay (ci := 7) hH t_a0 (⟨_, _, _, _, _, _, _, _, _, rfl, t_q30_0, by omega, by omega, by omega, by omega, by omega, by omega, by omega⟩)
      have hO := hO0
      exact te_i hx hb hr hlocks hH hS (rfl) dX7_takeNumber_35
    refine lv_icmp_ne (tgt := 29) hx hb dX7_takeNumber_22 (by decide) (fun c22 => ?_) (fun c22 => ?_)
    · skip
      have tc22 := f_ne (k := 2) (by decide) c22
      refine lv_iconst (v := 2) hx hb dX7_takeNumber_29 (by decide) ?_
      exact J30 2 _ _ _ (by decide) (by decide) hH hS (lv_sub hl [] rfl)
    · skip
      have tc22 := f_eq (k := 2) (by decide) c22
      refine lv_iconst (v := 3) hx hb dX7_takeNumber_25 (by decide) ?_
      refine lv_goto (tgt := 30) hx hb dX7_takeNumber_26 (by decide) ?_
      exact J30 3 _ _ _ (by decide) (by decide) hH hS (lv_sub hl [] rfl)
  refine lv_icmp_ne (tgt := 16) hx hb dX7_takeNumber_5 (by decide) (fun c5 => ?_) (fun c5 => ?_)
  · skip
    have tc5 := f_ne (k := 2) (by decide) c5
    exact J16  _ _ _  hH hS (lv_sub hl [0] rfl)
  · skip
    have tc5 := f_eq (k := 2) (by decide) c5
    refine lv_aload_n hx hb dX7_takeNumber_8 rfl (lv_at hl 0 rfl) ?_
    refine x_get (ci := 7) (C := RX7) (F := TX7) (N := 8) (v := .int q0_5) hx hb hts uX7 hown hkb hH rfl 5 (by decide) rfl kw_51 (fun _ h9 => h9) dX7_takeNumber_9 ?_
    refine lv_iload_n hx hb dX7_takeNumber_12 rfl (lv_at hl 1 rfl) ?_
    refine lv_icmp_le (tgt := 36) hx hb dX7_takeNumber_13 (by decide) (fun c13 => ?_) (fun c13 => ?_)
    · skip
      have fuc13 := full_i q0_5
      have fvc13 := full_i x1
      have tc13 := g_le c13
      refine lv_aload_n hx hb dX7_takeNumber_36 rfl (lv_at hl 0 rfl) ?_
      refine x_get (ci := 7) (C := RX7) (F := TX7) (N := 8) (v := .int q0_5) hx hb hts uX7 hown hkb hH rfl 5 (by decide) rfl kw_51 (fun _ h9 => h9) dX7_takeNumber_37 ?_
      refine lv_istore_n (lv' := [(2, .int q0_5), (0, .ref a0), (1, .int x1)]) hx hb dX7_takeNumber_40 rfl hl (by decide) rfl (fun ls hl => ?_)
      refine lv_aload_n hx hb dX7_takeNumber_41 rfl (lv_at hl 1 rfl) ?_
      have hH : HT D cs A T O X H := HT.lay (ci := 7) hH t_a0 (⟨_, _, _, _, _, _, _, _, _, rfl, t_q0_0, by omega, by omega, by omega, by omega, by omega, by omega, by omega⟩)
      have hO := hO0
      refine tk_v hH hS hA (tr_V (n := 0) (As := []) hx hb hml hown hts hkb hH hOX hks hE hS hA (s_Tok_go l D cs kf T O X a0 t_a0 (hO.sub (by decide))) kw_452 kw_453 kw_454 kw_3 kw_455 (by decide +kernel) ⟨Nat.le_of_ble_eq_true rfl, Nat.le_of_ble_eq_true rfl⟩ (HT.recv (ci := 7) hkb hH t_a0 (hO.no t_a0 (by decide)) rfl) rfl rfl hl.1 (Nat.le_of_ble_eq_true rfl) dX7_takeNumber_42 ⟨Nat.le_of_ble_eq_true rfl, Nat.le_of_ble_eq_true rfl⟩) (fun u H locs hz9 hH hS => ?_)
      have hz9 : u = (T, O, X) := hz9
      subst hz9
      have hH : HT D cs A T O X H := hH
      obtain ⟨fs9, ho9, hH⟩ := hH.take t_a0 (hO0.no t_a0 (by decide))
      obtain ⟨q42_0, nq42_0, q42_1, q42_2, q42_3, q42_4, q42_5, q42_6, q42_7, rfl, t_q42_0, b_q42_0, l1_42, u1_42, l2_42, u2_42, l3_42, u3_42⟩ := ho9
      have hH : HT D cs A T (a0 :: O) ((a0, .inr (7, [.ref q42_0, .int q42_1, .int q42_2, .int q42_3, .int q42_4, .int q42_5, .int q42_6, .int q42_7])) :: X) H := hH
      have hO : okO T (a0 :: O) [0] := okO.cons (hO0.sub (by decide)) t_a0 (by decide)
      refine W.widen (k := 0) (n := 0) (Nat.le_of_ble_eq_true rfl) (Nat.le_of_ble_eq_true rfl) ?_
      refine lv_iload_n hx hb dX7_takeNumber_45 rfl (lv_at hl 0 rfl) ?_
      have hH : HT D cs A T O X H := HT.lay (ci := 7) hH t_a0 (⟨_, _, _, _, _, _, _, _, _, rfl, t_q42_0, by omega, by omega, by omega, by omega, by omega, by omega, by omega⟩)
      have hO := hO0
      exact te_i hx hb hr hlocks hH hS (rfl) dX7_takeNumber_46
    · skip
      have fuc13 := full_i q0_5
      have fvc13 := full_i x1
      have tc13 := g_nle c13
      exact J16  _ _ _  hH hS (lv_sub hl [0] rfl)
