/-! the law -/
def NBF (x1 x2 x3 r : Int) : Prop := (r = -2 ∧ ¬ (0 ≤ x1 ∧ x1 ≤ 3 ∧ 0 ≤ x2 ∧ x2 ≤ 3)) ∨ (r = -3 ∧ (0 ≤ x1 ∧ x1 ≤ 3 ∧ 0 ≤ x2 ∧ x2 ≤ 3) ∧ ¬ (0 ≤ x3 ∧ x3 ≤ 40)) ∨ (r = 0 ∧ (0 ≤ x1 ∧ x1 ≤ 3 ∧ 0 ≤ x2 ∧ x2 ≤ 3) ∧ 0 ≤ x3 ∧ x3 ≤ 40)
theorem NBF_eq {a b c : Int} {r q : Int32} (h : NBF a b c r.toInt) (k : NBF a b c q.toInt) : r = q := by
  apply Int32.toInt_inj.mp
  unfold NBF at h k
  omega
set_option maxHeartbeats 4000000 in
set_option maxRecDepth 100000 in
theorem s_FW_isTray2 (l : Launch) (D : va_G) (cs : CS) (kf : KF) (T : TF) (O : List Nat) (X : va_W) (x0 : Int32)  (hO : okO T O []) : TK l D cs kf yX11_isTray cX11_isTray 1 (some (.boolean)) { frames := 0, cells := 0, slots := 0, locals := 0 } [.int x0] T O X (Ti D cs (fun r u => u = (T, O, X) ∧ 0 ≤ r.toInt ∧ r.toInt ≤ 1 ∧ (r.toInt = 0 ∨ (0 ≤ x0.toInt ∧ x0.toInt ≤ 3)) ∧ (r.toInt ≠ 0 ∨ (x0.toInt < 0 ∨ 3 < x0.toInt)))) := by
  refine tk_of (by decide) (Nat.le_of_ble_eq_true rfl) (fun p e s m below meth c ls A H locs hx hb hr hml hown hts hlocks hnm hkb hH hS hA hOX hks hE hl => ?_)
  have hown : s.vm.findClass RX11 = some m.cls := hown
  have hl : lv_has ls 1 [(0, .int x0)] := hl
  refine lv_iload_n hx hb dX11_isTray_0 rfl (lv_at hl 0 rfl) ?_
  refine lv_if_lt (tgt := 13) hx hb dX11_isTray_1 (by decide) (fun c1 => ?_) (fun c1 => ?_)
  · skip
    have tc1 := f_lt (k := 0) (by decide) c1
    refine lv_iconst (v := 0) hx hb dX11_isTray_13 (by decide) ?_
    have z9_0 : (0 : Int32).toInt = 0 := by decide
    exact te_z hx hb hr hlocks (by rfl) hH hS (⟨rfl, by decide, by decide, by omega, by omega⟩) dX11_isTray_14
  · skip
    have tc1 := f_nlt (k := 0) (by decide) c1
    refine lv_iload_n hx hb dX11_isTray_4 rfl (lv_at hl 0 rfl) ?_
    refine lv_iconst (v := 4) hx hb dX11_isTray_5 (by decide) ?_
    refine lv_icmp_ge (tgt := 13) hx hb dX11_isTray_6 (by decide) (fun c6 => ?_) (fun c6 => ?_)
    · skip
      have tc6 := f_ge (k := 4) (by decide) c6
      refine lv_iconst (v := 0) hx hb dX11_isTray_13 (by decide) ?_
      have z9_0 : (0 : Int32).toInt = 0 := by decide
      exact te_z hx hb hr hlocks (by rfl) hH hS (⟨rfl, by decide, by decide, by omega, by omega⟩) dX11_isTray_14
    · skip
      have tc6 := f_nge (k := 4) (by decide) c6
      refine lv_iconst (v := 1) hx hb dX11_isTray_9 (by decide) ?_
      refine lv_goto (tgt := 14) hx hb dX11_isTray_10 (by decide) ?_
      have z9_1 : (1 : Int32).toInt = 1 := by decide
      exact te_z hx hb hr hlocks (by rfl) hH hS (⟨rfl, by decide, by decide, by omega, by omega⟩) dX11_isTray_14
set_option maxHeartbeats 4000000 in
set_option maxRecDepth 100000 in
theorem s_FW_numbersF (l : Launch) (D : va_G) (cs : CS) (kf : KF) (T : TF) (O : List Nat) (X : va_W) (a0 w hw gw ch : Nat) (x1 : Int32) (x2 : Int32) (x3 : Int32) (t_a0 : T a0 = some (21, w, ch)) (t_w : isW T w hw gw) (hO : okO T O [2, 6, 18, 21]) : TK l D cs kf yX11_numbers cX11_numbers 4 (some (.int)) { frames := 2, cells := 0, slots := 0, locals := 46 } [.ref a0, .int x1, .int x2, .int x3] T O X (Ti D cs (fun r u => u = (T, O, X) ∧ -3 ≤ r.toInt ∧ r.toInt ≤ 0 ∧ (NBF x1.toInt x2.toInt x3.toInt r.toInt))) := by
  refine tk_of (by decide) (Nat.le_of_ble_eq_true rfl) (fun p e s m below meth c ls A H locs hx hb hr hml hown hts hlocks hnm hkb hH hS hA hOX hks hE hl => ?_)
  have hown : s.vm.findClass RX11 = some m.cls := hown
  have hl : lv_has ls 4 [(0, .ref a0), (1, .int x1), (2, .int x2), (3, .int x3)] := hl
  have b1_w := t_w.2.1
  have b2_w := t_w.2.2
  refine lv_iload_n hx hb dX11_numbers_0 rfl (lv_at hl 1 rfl) ?_
  refine tk_i hH hS hA (tr_S (n := 1) (As := [.int x1]) hx hb hml hown hts hkb hH hOX hks hE hS hA (s_FW_isTray2 l D cs kf T O X x1  (hO.sub (by decide))) kw_871 kw_872 kw_1 kw_873 (by decide +kernel) ⟨Nat.le_of_ble_eq_true rfl, Nat.le_of_ble_eq_true rfl⟩ rfl rfl hl.1 (Nat.le_of_ble_eq_true rfl) dX11_numbers_1 ⟨Nat.le_of_ble_eq_true rfl, Nat.le_of_ble_eq_true rfl⟩) (fun v1 u H locs hz9 hH hS => ?_)
  obtain ⟨rfl, l_v1, u_v1, x_v10, x_v11⟩ := hz9
  have hH : HT D cs A T O X H := hH
  refine W.widen (k := 0) (n := 0) (Nat.le_of_ble_eq_true rfl) (Nat.le_of_ble_eq_true rfl) ?_
  refine lv_if_eq (tgt := 16) hx hb dX11_numbers_4 (by decide) (fun c4 => ?_) (fun c4 => ?_)
  · skip
    have tc4 := f_eq (k := 0) (by decide) c4
    clear x_v10
    replace x_v11 := x_v11.resolve_left (fun q9 => q9 tc4)
    refine lv_bipush (v := (-2)) hx hb dX11_numbers_16 (by decide) ?_
    have z9_m2 : ((-2) : Int32).toInt = -2 := by decide
    exact te_i hx hb hr hlocks hH hS (⟨rfl, by decide, by decide, (by have k9 : ((-2) : Int32).toInt = -2 := (by decide); unfold NBF; omega)⟩) dX11_numbers_18
  · skip
    have tc4 := f_ne (k := 0) (by decide) c4
    replace x_v10 := x_v10.resolve_left tc4
    clear x_v11
    refine lv_iload_n hx hb dX11_numbers_7 rfl (lv_at hl 2 rfl) ?_
    refine lv_if_lt (tgt := 16) hx hb dX11_numbers_8 (by decide) (fun c8 => ?_) (fun c8 => ?_)
    · skip
      have tc8 := f_lt (k := 0) (by decide) c8
      refine lv_bipush (v := (-2)) hx hb dX11_numbers_16 (by decide) ?_
      have z9_m2 : ((-2) : Int32).toInt = -2 := by decide
      exact te_i hx hb hr hlocks hH hS (⟨rfl, by decide, by decide, (by have k9 : ((-2) : Int32).toInt = -2 := (by decide); unfold NBF; omega)⟩) dX11_numbers_18
    · skip
      have tc8 := f_nlt (k := 0) (by decide) c8
      refine lv_iload_n hx hb dX11_numbers_11 rfl (lv_at hl 2 rfl) ?_
      refine lv_iconst (v := 3) hx hb dX11_numbers_12 (by decide) ?_
      refine lv_icmp_le (tgt := 19) hx hb dX11_numbers_13 (by decide) (fun c13 => ?_) (fun c13 => ?_)
      · skip
        have tc13 := f_le (k := 3) (by decide) c13
        refine lv_iload_n hx hb dX11_numbers_19 rfl (lv_at hl 3 rfl) ?_
        refine lv_if_lt (tgt := 29) hx hb dX11_numbers_20 (by decide) (fun c20 => ?_) (fun c20 => ?_)
        · skip
          have tc20 := f_lt (k := 0) (by decide) c20
          refine lv_bipush (v := (-3)) hx hb dX11_numbers_29 (by decide) ?_
          have z9_m3 : ((-3) : Int32).toInt = -3 := by decide
          exact te_i hx hb hr hlocks hH hS (⟨rfl, by decide, by decide, (by have k9 : ((-3) : Int32).toInt = -3 := (by decide); unfold NBF; omega)⟩) dX11_numbers_31
        · skip
          have tc20 := f_nlt (k := 0) (by decide) c20
          refine lv_iload_n hx hb dX11_numbers_23 rfl (lv_at hl 3 rfl) ?_
          refine lv_bipush (v := 40) hx hb dX11_numbers_24 (by decide) ?_
          refine lv_icmp_le (tgt := 32) hx hb dX11_numbers_26 (by decide) (fun c26 => ?_) (fun c26 => ?_)
          · skip
            have tc26 := f_le (k := 40) (by decide) c26
            refine lv_aload_n hx hb dX11_numbers_32 rfl (lv_at hl 0 rfl) ?_
            refine t_get (ci := 11) (lst := ft11 w ch) (C := RX11) (F := TX11) (N := 20) hx hb hts uX11 hown hkb hH t_a0 (hO.no t_a0 (by decide)) (fun _ h9 => h9) rfl rfl 11 (by decide) rfl kw_371 (fun _ h9 => h9) dX11_numbers_33 (fun v9 h9 => ?_)
            obtain ⟨v33, rfl, t_v33⟩ := h9
            refine lv_iload_n hx hb dX11_numbers_36 rfl (lv_at hl 1 rfl) ?_
            refine t_qld6 hx hb hkb hH t_v33 (hO.no t_v33 (by decide)) (by omega) (by omega) dX11_numbers_37 (fun v37 t_v37 => ?_)
            refine lv_iload_n hx hb dX11_numbers_38 rfl (lv_at hl 2 rfl) ?_
            refine lv_iload_n hx hb dX11_numbers_39 rfl (lv_at hl 3 rfl) ?_
            refine tk_v hH hS hA (tr_V (n := 2) (As := [.int x2, .int x3]) hx hb hml hown hts hkb hH hOX hks hE hS hA (s_Tray_lay l D cs kf T O X v37 x2 x3 t_v37 (by omega) (by omega) (hO.sub (by decide))) kw_1177 kw_1178 kw_1179 kw_12 kw_1180 (by decide +kernel) ⟨Nat.le_of_ble_eq_true rfl, Nat.le_of_ble_eq_true rfl⟩ (HT.recv (ci := 8) hkb hH t_v37 (hO.no t_v37 (by decide)) rfl) rfl rfl hl.1 (Nat.le_of_ble_eq_true rfl) dX11_numbers_40 ⟨Nat.le_of_ble_eq_true rfl, Nat.le_of_ble_eq_true rfl⟩) (fun u H locs hz9 hH hS => ?_)
            have hz9 : u = (T, O, X) := hz9
            subst hz9
            have hH : HT D cs A T O X H := hH
            refine W.widen (k := 0) (n := 0) (Nat.le_of_ble_eq_true rfl) (Nat.le_of_ble_eq_true rfl) ?_
            refine lv_iconst (v := 0) hx hb dX11_numbers_43 (by decide) ?_
            have z9_0 : (0 : Int32).toInt = 0 := by decide
            exact te_i hx hb hr hlocks hH hS (⟨rfl, by decide, by decide, (by have k9 : (0 : Int32).toInt = 0 := (by decide); unfold NBF; omega)⟩) dX11_numbers_44
          · skip
            have tc26 := f_nle (k := 40) (by decide) c26
            refine lv_bipush (v := (-3)) hx hb dX11_numbers_29 (by decide) ?_
            have z9_m3 : ((-3) : Int32).toInt = -3 := by decide
            exact te_i hx hb hr hlocks hH hS (⟨rfl, by decide, by decide, (by have k9 : ((-3) : Int32).toInt = -3 := (by decide); unfold NBF; omega)⟩) dX11_numbers_31
      · skip
        have tc13 := f_nle (k := 3) (by decide) c13
        refine lv_bipush (v := (-2)) hx hb dX11_numbers_16 (by decide) ?_
        have z9_m2 : ((-2) : Int32).toInt = -2 := by decide
        exact te_i hx hb hr hlocks hH hS (⟨rfl, by decide, by decide, (by have k9 : ((-2) : Int32).toInt = -2 := (by decide); unfold NBF; omega)⟩) dX11_numbers_18
set_option maxHeartbeats 4000000 in
set_option maxRecDepth 100000 in
theorem s_M_numbersF (l : Launch) (D : va_G) (cs : CS) (kf : KF) (T : TF) (O : List Nat) (X : va_W) (a0 hg : Nat) (x1 : Int32) (x2 : Int32) (x3 : Int32) (t_a0 : T a0 = some (22, hg, 0)) (b_hg : hg < 90) (hO : okO T O [1, 2, 22]) : TK l D cs kf yX12_numbers cX12_numbers 5 (some (.int)) { frames := 1, cells := 0, slots := 0, locals := 25 } [.ref a0, .int x1, .int x2, .int x3] T O X (Ti D cs (fun r u => u = (T, O, X) ∧ -3 ≤ r.toInt ∧ r.toInt ≤ 0 ∧ (NBF x1.toInt x2.toInt x3.toInt r.toInt))) := by
  refine tk_of (by decide) (Nat.le_of_ble_eq_true rfl) (fun p e s m below meth c ls A H locs hx hb hr hml hown hts hlocks hnm hkb hH hS hA hOX hks hE hl => ?_)
  have hown : s.vm.findClass RX12 = some m.cls := hown
  have hl : lv_has ls 5 [(0, .ref a0), (1, .int x1), (2, .int x2), (3, .int x3)] := hl
  refine lv_aload_n hx hb dX12_numbers_0 rfl (lv_at hl 0 rfl) ?_
  refine lv_iconst (v := 0) hx hb dX12_numbers_1 (by decide) ?_
  refine t_put (ci := 12) (lst := ft12 hg 0) (v := .int 0) (ty := tyX12 0) (C := RX12) (F := TX12) (N := 36) hx hb hts uX12 tyX12 tyX12_ok nmX12 hown hkb hH hS t_a0 (hO.no t_a0 (by decide)) (fun _ => Iff.rfl) rfl rfl 0 (by decide) rfl (⟨_, rfl⟩) kw_1223 (fun _ h9 => h9) rfl (tyX12_ok 0 (by decide)) rfl rfl dX12_numbers_2 (fun H locs hH hS => ?_)
  refine lv_iload_n hx hb dX12_numbers_5 rfl (lv_at hl 1 rfl) ?_
  refine lv_i2l hx hb dX12_numbers_6 rfl ?_
  refine lv_lconst (v := 0) hx hb dX12_numbers_7 (by decide) ?_
  refine lv_ldc2 hx hb hown (hts _ kw_1527) dX12_numbers_8 ?_
  refine tk_i hH hS hA (tr_S (n := 3) (As := [.long x1.toInt64, .long 0, .long 3]) hx hb hml hown hts hkb hH hOX hks hE hS hA (s_M_within l D cs kf T O X x1.toInt64 0 3  (hO.sub (by decide))) kw_1341 kw_1342 kw_13 kw_1343 (by decide +kernel) ⟨Nat.le_of_ble_eq_true rfl, Nat.le_of_ble_eq_true rfl⟩ rfl rfl hl.1 (Nat.le_of_ble_eq_true rfl) dX12_numbers_11 ⟨Nat.le_of_ble_eq_true rfl, Nat.le_of_ble_eq_true rfl⟩) (fun v11 u H locs hz9 hH hS => ?_)
  obtain ⟨rfl, l_v11, u_v11, x_v110, x_v111⟩ := hz9
  simp only [Int32.toInt_toInt64] at x_v110 x_v111
  have k9_0 : (0 : Int64).toInt = 0 := by decide
  have k9_3 : (3 : Int64).toInt = 3 := by decide
  have hH : HT D cs A T O X H := hH
  refine W.widen (k := 0) (n := 0) (Nat.le_of_ble_eq_true rfl) (Nat.le_of_ble_eq_true rfl) ?_
  have J64 : ∀ (n : Nat) (p64_4 : Int32) (H : Heap) (locs : List Loc) (ls : Array Slot), (40 - p64_4.toInt).toNat = n → (0 ≤ p64_4.toInt) → (p64_4.toInt ≤ 40) → (0 ≤ x1.toInt) → (x1.toInt ≤ 3) → (0 ≤ x3.toInt) → (x3.toInt ≤ 40) → (0 ≤ x2.toInt ∧ x2.toInt ≤ 3) → HT D cs A T O X H → va_S A s.heap H locs → lv_has ls 5 [(4, .int p64_4), (0, .ref a0), (1, .int x1), (3, .int x3)] → W p l e { frames := 1, cells := 0, slots := 0, locals := 25 } s m [.ref a0, .int x1, .int x2, .int x3].toArray below meth c H locs 0 0 (MQ below (Ti D cs (fun r u => u = (T, O, X) ∧ -3 ≤ r.toInt ∧ r.toInt ≤ 0 ∧ (NBF x1.toInt x2.toInt x3.toInt r.toInt)) A) [.ref a0, .int x1, .int x2, .int x3].toArray s 0 0 A) (F0 m 64 ls []) := by
    intro n
    induction n using Nat.strongRecOn with
    | _ n ih64 =>
      intro p64_4 H locs ls hm64 l_p64_4 u_p64_4 l_x1 u_x1 l_x3 u_x3 i64 hH hS hl
      refine lv_iload hx hb dX12_numbers_64 (lv_at hl 0 rfl) ?_
      refine lv_iload_n hx hb dX12_numbers_66 rfl (lv_at hl 3 rfl) ?_
      refine lv_icmp_ge (tgt := 89) hx hb dX12_numbers_67 (by decide) (fun c67 => ?_) (fun c67 => ?_)
      · skip
        have fuc67 := full_i p64_4
        have fvc67 := full_i x3
        have tc67 := g_le c67
        refine lv_iconst (v := 0) hx hb dX12_numbers_89 (by decide) ?_
        have z9_0 : (0 : Int32).toInt = 0 := by decide
        exact te_i hx hb hr hlocks hH hS (⟨rfl, by decide, by decide, (by have k9 : (0 : Int32).toInt = 0 := (by decide); unfold NBF; omega)⟩) dX12_numbers_90
      · skip
        have fuc67 := full_i p64_4
        have fvc67 := full_i x3
        have tc67 := g_nle c67
        refine lv_aload_n hx hb dX12_numbers_70 rfl (lv_at hl 1 rfl) ?_
        refine t_get (ci := 12) (lst := ft12 hg 0) (C := RX12) (F := TX12) (N := 36) hx hb hts uX12 hown hkb hH t_a0 (hO.no t_a0 (by decide)) (fun _ h9 => h9) rfl rfl 35 (by decide) rfl kw_1258 (fun _ h9 => h9) dX12_numbers_71 (fun v9 h9 => ?_)
        obtain ⟨v71, rfl, t_v71⟩ := h9
        refine lv_bipush (v := 40) hx hb dX12_numbers_74 (by decide) ?_
        refine lv_iload_n hx hb dX12_numbers_76 rfl (lv_at hl 2 rfl) ?_
        refine lv_imul hx hb dX12_numbers_77 ?_
        refine lv_topi (fun v77 ev77 => ?_)
        have tv77 : v77.toInt = (40) * x1.toInt := by rw [ev77]; exact mul_i (by decide : (40 : Int32).toInt = 40) rfl (by omega) (by omega)
        refine lv_iload hx hb dX12_numbers_78 (lv_at hl 0 rfl) ?_
        refine lv_iadd hx hb dX12_numbers_80 ?_
        refine lv_topi (fun v80 ev80 => ?_)
        have tv80 : v80.toInt = v77.toInt + p64_4.toInt := by rw [ev80]; exact add_i rfl rfl (by omega) (by omega)
        refine lv_lconst (v := 0) hx hb dX12_numbers_81 (by decide) ?_
        refine t_lst hx hb hkb hH hS t_v71 (hO.no t_v71 (by decide)) (by omega) (by omega) dX12_numbers_82 (fun H locs hH hS => ?_)
        obtain ⟨v83, ev83⟩ : ∃ y : Int32, y = p64_4 + 1 := ⟨_, rfl⟩
        have tv83 : v83.toInt = p64_4.toInt + (1) := by rw [ev83]; exact add_i rfl (by decide) (by omega) (by omega)
        refine lv_iinc (v := v83) (lv' := [(4, .int v83), (0, .ref a0), (1, .int x1), (3, .int x3)]) hx hb dX12_numbers_83 hl (k := 0) rfl (by rw [ev83]; rfl) (by decide) rfl (fun ls hl => ?_)
        refine lv_goto (tgt := 64) hx hb dX12_numbers_86 (by decide) ?_
        exact ih64 _ (by omega) v83 _ _ _ rfl (by omega) (by omega) (by omega) (by omega) (by omega) (by omega) (by omega) hH hS (lv_sub hl [0, 1, 2, 3] rfl)
  refine lv_if_eq (tgt := 29) hx hb dX12_numbers_14 (by decide) (fun c14 => ?_) (fun c14 => ?_)
  · skip
    have tc14 := f_eq (k := 0) (by decide) c14
    clear x_v110
    replace x_v111 := x_v111.resolve_left (fun q9 => q9 tc14)
    refine lv_bipush (v := (-2)) hx hb dX12_numbers_29 (by decide) ?_
    have z9_m2 : ((-2) : Int32).toInt = -2 := by decide
    exact te_i hx hb hr hlocks hH hS (⟨rfl, by decide, by decide, (by have k9 : ((-2) : Int32).toInt = -2 := (by decide); unfold NBF; omega)⟩) dX12_numbers_31
  · skip
    have tc14 := f_ne (k := 0) (by decide) c14
    replace x_v110 := x_v110.resolve_left tc14
    clear x_v111
    refine lv_iload_n hx hb dX12_numbers_17 rfl (lv_at hl 2 rfl) ?_
    refine lv_i2l hx hb dX12_numbers_18 rfl ?_
    refine lv_lconst (v := 0) hx hb dX12_numbers_19 (by decide) ?_
    refine lv_ldc2 hx hb hown (hts _ kw_1527) dX12_numbers_20 ?_
    refine tk_i hH hS hA (tr_S (n := 3) (As := [.long x2.toInt64, .long 0, .long 3]) hx hb hml hown hts hkb hH hOX hks hE hS hA (s_M_within l D cs kf T O X x2.toInt64 0 3  (hO.sub (by decide))) kw_1341 kw_1342 kw_13 kw_1343 (by decide +kernel) ⟨Nat.le_of_ble_eq_true rfl, Nat.le_of_ble_eq_true rfl⟩ rfl rfl hl.1 (Nat.le_of_ble_eq_true rfl) dX12_numbers_23 ⟨Nat.le_of_ble_eq_true rfl, Nat.le_of_ble_eq_true rfl⟩) (fun v23 u H locs hz9 hH hS => ?_)
    obtain ⟨rfl, l_v23, u_v23, x_v230, x_v231⟩ := hz9
    simp only [Int32.toInt_toInt64] at x_v230 x_v231
    have k9_0 : (0 : Int64).toInt = 0 := by decide
    have k9_3 : (3 : Int64).toInt = 3 := by decide
    have hH : HT D cs A T O X H := hH
    refine W.widen (k := 0) (n := 0) (Nat.le_of_ble_eq_true rfl) (Nat.le_of_ble_eq_true rfl) ?_
    refine lv_if_ne (tgt := 32) hx hb dX12_numbers_26 (by decide) (fun c26 => ?_) (fun c26 => ?_)
    · skip
      have tc26 := f_ne (k := 0) (by decide) c26
      replace x_v230 := x_v230.resolve_left tc26
      clear x_v231
      refine lv_iload_n hx hb dX12_numbers_32 rfl (lv_at hl 3 rfl) ?_
      refine lv_i2l hx hb dX12_numbers_33 rfl ?_
      refine lv_lconst (v := 0) hx hb dX12_numbers_34 (by decide) ?_
      refine lv_ldc2 hx hb hown (hts _ kw_1607) dX12_numbers_35 ?_
      refine tk_i hH hS hA (tr_S (n := 3) (As := [.long x3.toInt64, .long 0, .long 40]) hx hb hml hown hts hkb hH hOX hks hE hS hA (s_M_within l D cs kf T O X x3.toInt64 0 40  (hO.sub (by decide))) kw_1341 kw_1342 kw_13 kw_1343 (by decide +kernel) ⟨Nat.le_of_ble_eq_true rfl, Nat.le_of_ble_eq_true rfl⟩ rfl rfl hl.1 (Nat.le_of_ble_eq_true rfl) dX12_numbers_38 ⟨Nat.le_of_ble_eq_true rfl, Nat.le_of_ble_eq_true rfl⟩) (fun v38 u H locs hz9 hH hS => ?_)
      obtain ⟨rfl, l_v38, u_v38, x_v380, x_v381⟩ := hz9
      simp only [Int32.toInt_toInt64] at x_v380 x_v381
      have k9_0 : (0 : Int64).toInt = 0 := by decide
      have k9_40 : (40 : Int64).toInt = 40 := by decide
      have hH : HT D cs A T O X H := hH
      refine W.widen (k := 0) (n := 0) (Nat.le_of_ble_eq_true rfl) (Nat.le_of_ble_eq_true rfl) ?_
      refine lv_if_ne (tgt := 47) hx hb dX12_numbers_41 (by decide) (fun c41 => ?_) (fun c41 => ?_)
      · skip
        have tc41 := f_ne (k := 0) (by decide) c41
        replace x_v380 := x_v380.resolve_left tc41
        clear x_v381
        refine lv_aload_n hx hb dX12_numbers_47 rfl (lv_at hl 0 rfl) ?_
        refine t_get (ci := 12) (lst := ft12 hg 0) (C := RX12) (F := TX12) (N := 36) hx hb hts uX12 hown hkb hH t_a0 (hO.no t_a0 (by decide)) (fun _ h9 => h9) rfl rfl 33 (by decide) rfl kw_1256 (fun _ h9 => h9) dX12_numbers_48 (fun v9 h9 => ?_)
        obtain ⟨v48, rfl, t_v48⟩ := h9
        refine lv_iload_n hx hb dX12_numbers_51 rfl (lv_at hl 1 rfl) ?_
        refine lv_iload_n hx hb dX12_numbers_52 rfl (lv_at hl 2 rfl) ?_
        refine t_ist hx hb hkb hH hS t_v48 (hO.no t_v48 (by decide)) (by omega) (by omega) (cp_0 _) dX12_numbers_53 (fun H locs hH hS => ?_)
        refine lv_aload_n hx hb dX12_numbers_54 rfl (lv_at hl 0 rfl) ?_
        refine t_get (ci := 12) (lst := ft12 hg 0) (C := RX12) (F := TX12) (N := 36) hx hb hts uX12 hown hkb hH t_a0 (hO.no t_a0 (by decide)) (fun _ h9 => h9) rfl rfl 34 (by decide) rfl kw_1257 (fun _ h9 => h9) dX12_numbers_55 (fun v9 h9 => ?_)
        obtain ⟨v55, rfl, t_v55⟩ := h9
        refine lv_iload_n hx hb dX12_numbers_58 rfl (lv_at hl 1 rfl) ?_
        refine lv_iload_n hx hb dX12_numbers_59 rfl (lv_at hl 3 rfl) ?_
        refine t_ist hx hb hkb hH hS t_v55 (hO.no t_v55 (by decide)) (by omega) (by omega) (show 0 ≤ x3.toInt ∧ x3.toInt ≤ 40 from by omega) dX12_numbers_60 (fun H locs hH hS => ?_)
        refine lv_iconst (v := 0) hx hb dX12_numbers_61 (by decide) ?_
        refine lv_istore (lv' := [(4, .int 0), (0, .ref a0), (1, .int x1), (2, .int x2), (3, .int x3)]) hx hb dX12_numbers_62 hl (by decide) rfl (fun ls hl => ?_)
        have z_0 : (0 : Int32).toInt = 0 := by decide
        exact J64 _ 0 _ _ _ rfl (by decide) (by decide) (by omega) (by omega) (by omega) (by omega) (by omega) hH hS (lv_sub hl [0, 1, 2, 4] rfl)
      · skip
        have tc41 := f_eq (k := 0) (by decide) c41
        clear x_v380
        replace x_v381 := x_v381.resolve_left (fun q9 => q9 tc41)
        refine lv_bipush (v := (-3)) hx hb dX12_numbers_44 (by decide) ?_
        have z9_m3 : ((-3) : Int32).toInt = -3 := by decide
        exact te_i hx hb hr hlocks hH hS (⟨rfl, by decide, by decide, (by have k9 : ((-3) : Int32).toInt = -3 := (by decide); unfold NBF; omega)⟩) dX12_numbers_46
    · skip
      have tc26 := f_eq (k := 0) (by decide) c26
      clear x_v230
      replace x_v231 := x_v231.resolve_left (fun q9 => q9 tc26)
      refine lv_bipush (v := (-2)) hx hb dX12_numbers_29 (by decide) ?_
      have z9_m2 : ((-2) : Int32).toInt = -2 := by decide
      exact te_i hx hb hr hlocks hH hS (⟨rfl, by decide, by decide, (by have k9 : ((-2) : Int32).toInt = -2 := (by decide); unfold NBF; omega)⟩) dX12_numbers_31
