set_option maxHeartbeats 4000000 in
set_option maxRecDepth 100000 in
theorem s_M_numbers (l : Launch) (D : va_G) (cs : CS) (kf : KF) (T : TF) (O : List Nat) (X : va_W) (a0 hg mq : Nat) (x1 : Int32) (x2 : Int32) (x3 : Int32) (t_a0 : T a0 = some (22, hg, mq)) (b_hg : hg < 90) (hO : okO T O [1, 2, 22]) : TK l D cs kf yX12_numbers cX12_numbers 5 (some (.int)) { frames := 1, cells := 0, slots := 0, locals := 25 } [.ref a0, .int x1, .int x2, .int x3] T O X (Ti D cs (fun r u => u = (T, O, X) ∧ -3 ≤ r.toInt ∧ r.toInt ≤ 0)) := by
  refine tk_of (by decide) (Nat.le_of_ble_eq_true rfl) (fun p e s m below meth c ls A H locs hx hb hr hml hown hts hlocks hnm hkb hH hS hA hOX hks hE hl => ?_)
  have hown : s.vm.findClass RX12 = some m.cls := hown
  have hl : lv_has ls 5 [(0, .ref a0), (1, .int x1), (2, .int x2), (3, .int x3)] := hl
  refine lv_aload_n hx hb dX12_numbers_0 rfl (lv_at hl 0 rfl) ?_
  refine lv_iconst (v := 0) hx hb dX12_numbers_1 (by decide) ?_
  refine t_put (ci := 12) (lst := ft12 hg mq) (v := .int 0) (ty := tyX12 0) (C := RX12) (F := TX12) (N := 36) hx hb hts uX12 tyX12 tyX12_ok nmX12 hown hkb hH hS t_a0 (hO.no t_a0 (by decide)) (fun _ => Iff.rfl) rfl rfl 0 (by decide) rfl (⟨_, rfl⟩) kw_1223 (fun _ h9 => h9) rfl (tyX12_ok 0 (by decide)) rfl rfl dX12_numbers_2 (fun H locs hH hS => ?_)
  refine lv_iload_n hx hb dX12_numbers_5 rfl (lv_at hl 1 rfl) ?_
  refine lv_i2l hx hb dX12_numbers_6 rfl ?_
  refine lv_lconst (v := 0) hx hb dX12_numbers_7 (by decide) ?_
  refine lv_ldc2 hx hb hown (hts _ kw_1527) dX12_numbers_8 ?_
  refine tk_i hH hS hA (tr_S (n := 3) (As := [.long x1.toInt64, .long 0, .long 3]) hx hb hml hown hts hkb hH hOX hks hE hS hA (s_M_within l D cs kf T O X x1.toInt64 0 3  (hO.sub (by decide))) kw_1341 kw_1342 kw_13 kw_1343 (by decide +kernel) ⟨Nat.le_of_ble_eq_true rfl, Nat.le_of_ble_eq_true rfl⟩ rfl rfl hl.1 (Nat.le_of_ble_eq_true rfl) dX12_numbers_11 ⟨Nat.le_of_ble_eq_true rfl, Nat.le_of_ble_eq_true rfl⟩) (fun v11 u H locs hz9 hH hS => ?_)
  obtain ⟨rfl, l_v11, u_v11, x_v110, x_v111⟩ := hz9
  simp only [Int32.toInt_toInt64] at x_v110 x_v111
  have k9_0 : (0 : Int64).toInt = 0 := by decide
  have k9_3 : (3 : Int64).toInt = 3 := by decide
  have hH : HT D cs A T O X H := hH
  refine W.widen (k := 0) (n := 0) (Nat.le_of_ble_eq_true rfl) (Nat.le_of_ble_eq_true rfl) ?_
  have J29 : ∀  (H : Heap) (locs : List Loc) (ls : Array Slot), HT D cs A T O X H → va_S A s.heap H locs → lv_has ls 5 [] → W p l e { frames := 1, cells := 0, slots := 0, locals := 25 } s m [.ref a0, .int x1, .int x2, .int x3].toArray below meth c H locs 0 0 (MQ below (Ti D cs (fun r u => u = (T, O, X) ∧ -3 ≤ r.toInt ∧ r.toInt ≤ 0) A) [.ref a0, .int x1, .int x2, .int x3].toArray s 0 0 A) (F0 m 29 ls []) := by
    intro  H locs ls  hH hS hl
    refine lv_bipush (v := (-2)) hx hb dX12_numbers_29 (by decide) ?_
    exact te_i hx hb hr hlocks hH hS (⟨rfl, by decide, by decide⟩) dX12_numbers_31
  refine lv_if_eq (tgt := 29) hx hb dX12_numbers_14 (by decide) (fun c14 => ?_) (fun c14 => ?_)
  · skip
    have tc14 := f_eq (k := 0) (by decide) c14
    clear x_v110
    replace x_v111 := x_v111.resolve_left (fun q9 => q9 tc14)
    exact J29  _ _ _  hH hS (lv_sub hl [] rfl)
  · skip
    have tc14 := f_ne (k := 0) (by decide) c14
    replace x_v110 := x_v110.resolve_left tc14
    clear x_v111
    refine lv_iload_n hx hb dX12_numbers_17 rfl (lv_at hl 2 rfl) ?_
    refine lv_i2l hx hb dX12_numbers_18 rfl ?_
    refine lv_lconst (v := 0) hx hb dX12_numbers_19 (by decide) ?_
    refine lv_ldc2 hx hb hown (hts _ kw_1527) dX12_numbers_20 ?_
    refine tk_i hH hS hA (tr_S (n := 3) (As := [.long x2.toInt64, .long 0, .long 3]) hx hb hml hown hts hkb hH hOX hks hE hS hA (s_M_within l D cs kf T O X x2.toInt64 0 3  (hO.sub (by decide))) kw_1341 kw_1342 kw_13 kw_1343 (by decide +kernel) ⟨Nat.le_of_ble_eq_true rfl, Nat.le_of_ble_eq_true rfl⟩ rfl rfl hl.1 (Nat.le_of_ble_eq_true rfl) dX12_numbers_23 ⟨Nat.le_of_ble_eq_true rfl, Nat.le_of_ble_eq_true rfl⟩) (fun v23 u H locs hz9 hH hS => ?_)
    obtain ⟨rfl, l_v23, u_v23, x_v230, x_v231⟩ := hz9
    simp only [Int32.toInt_toInt64] at x_v230 x_v231
    have k9_0 : (0 : Int64).toInt = 0 := by decide
    have k9_3 : (3 : Int64).toInt = 3 := by decide
    have hH : HT D cs A T O X H := hH
    refine W.widen (k := 0) (n := 0) (Nat.le_of_ble_eq_true rfl) (Nat.le_of_ble_eq_true rfl) ?_
    refine lv_if_ne (tgt := 32) hx hb dX12_numbers_26 (by decide) (fun c26 => ?_) (fun c26 => ?_)
    · skip
      have tc26 := f_ne (k := 0) (by decide) c26
      replace x_v230 := x_v230.resolve_left tc26
      clear x_v231
      refine lv_iload_n hx hb dX12_numbers_32 rfl (lv_at hl 3 rfl) ?_
      refine lv_i2l hx hb dX12_numbers_33 rfl ?_
      refine lv_lconst (v := 0) hx hb dX12_numbers_34 (by decide) ?_
      refine lv_ldc2 hx hb hown (hts _ kw_1607) dX12_numbers_35 ?_
      refine tk_i hH hS hA (tr_S (n := 3) (As := [.long x3.toInt64, .long 0, .long 40]) hx hb hml hown hts hkb hH hOX hks hE hS hA (s_M_within l D cs kf T O X x3.toInt64 0 40  (hO.sub (by decide))) kw_1341 kw_1342 kw_13 kw_1343 (by decide +kernel) ⟨Nat.le_of_ble_eq_true rfl, Nat.le_of_ble_eq_true rfl⟩ rfl rfl hl.1 (Nat.le_of_ble_eq_true rfl) dX12_numbers_38 ⟨Nat.le_of_ble_eq_true rfl, Nat.le_of_ble_eq_true rfl⟩) (fun v38 u H locs hz9 hH hS => ?_)
      obtain ⟨rfl, l_v38, u_v38, x_v380, x_v381⟩ := hz9
      simp only [Int32.toInt_toInt64] at x_v380 x_v381
      have k9_0 : (0 : Int64).toInt = 0 := by decide
      have k9_40 : (40 : Int64).toInt = 40 := by decide
      have hH : HT D cs A T O X H := hH
      refine W.widen (k := 0) (n := 0) (Nat.le_of_ble_eq_true rfl) (Nat.le_of_ble_eq_true rfl) ?_
      refine lv_if_ne (tgt := 47) hx hb dX12_numbers_41 (by decide) (fun c41 => ?_) (fun c41 => ?_)
      · skip
        have tc41 := f_ne (k := 0) (by decide) c41
        replace x_v380 := x_v380.resolve_left tc41
        clear x_v381
        refine lv_aload_n hx hb dX12_numbers_47 rfl (lv_at hl 0 rfl) ?_
        refine t_get (ci := 12) (lst := ft12 hg mq) (C := RX12) (F := TX12) (N := 36) hx hb hts uX12 hown hkb hH t_a0 (hO.no t_a0 (by decide)) (fun _ h9 => h9) rfl rfl 33 (by decide) rfl kw_1256 (fun _ h9 => h9) dX12_numbers_48 (fun v9 h9 => ?_)
        obtain ⟨v48, rfl, t_v48⟩ := h9
        refine lv_iload_n hx hb dX12_numbers_51 rfl (lv_at hl 1 rfl) ?_
        refine lv_iload_n hx hb dX12_numbers_52 rfl (lv_at hl 2 rfl) ?_
        refine t_ist hx hb hkb hH hS t_v48 (hO.no t_v48 (by decide)) (by omega) (by omega) (cp_0 _) dX12_numbers_53 (fun H locs hH hS => ?_)
        refine lv_aload_n hx hb dX12_numbers_54 rfl (lv_at hl 0 rfl) ?_
        refine t_get (ci := 12) (lst := ft12 hg mq) (C := RX12) (F := TX12) (N := 36) hx hb hts uX12 hown hkb hH t_a0 (hO.no t_a0 (by decide)) (fun _ h9 => h9) rfl rfl 34 (by decide) rfl kw_1257 (fun _ h9 => h9) dX12_numbers_55 (fun v9 h9 => ?_)
        obtain ⟨v55, rfl, t_v55⟩ := h9
        refine lv_iload_n hx hb dX12_numbers_58 rfl (lv_at hl 1 rfl) ?_
        refine lv_iload_n hx hb dX12_numbers_59 rfl (lv_at hl 3 rfl) ?_
        refine t_ist hx hb hkb hH hS t_v55 (hO.no t_v55 (by decide)) (by omega) (by omega) (show 0 ≤ x3.toInt ∧ x3.toInt ≤ 40 from by omega) dX12_numbers_60 (fun H locs hH hS => ?_)
        refine lv_iconst (v := 0) hx hb dX12_numbers_61 (by decide) ?_
        have J64 : ∀ (n : Nat) (p64_4 : Int32) (H : Heap) (locs : List Loc) (ls : Array Slot), (40 - p64_4.toInt).toNat = n → (0 ≤ p64_4.toInt) → (p64_4.toInt ≤ 40) → HT D cs A T O X H → va_S A s.heap H locs → lv_has ls 5 [(4, .int p64_4), (0, .ref a0), (1, .int x1), (3, .int x3)] → W p l e { frames := 1, cells := 0, slots := 0, locals := 25 } s m [.ref a0, .int x1, .int x2, .int x3].toArray below meth c H locs 0 0 (MQ below (Ti D cs (fun r u => u = (T, O, X) ∧ -3 ≤ r.toInt ∧ r.toInt ≤ 0) A) [.ref a0, .int x1, .int x2, .int x3].toArray s 0 0 A) (F0 m 64 ls []) := by
          intro n
          induction n using Nat.strongRecOn with
          | _ n ih64 =>
            intro p64_4 H locs ls hm64 l_p64_4 u_p64_4 hH hS hl
            refine lv_iload hx hb dX12_numbers_64 (lv_at hl 0 rfl) ?_
            refine lv_iload_n hx hb dX12_numbers_66 rfl (lv_at hl 3 rfl) ?_
            refine lv_icmp_ge (tgt := 89) hx hb dX12_numbers_67 (by decide) (fun c67 => ?_) (fun c67 => ?_)
            · skip
              have fuc67 := full_i p64_4
              have fvc67 := full_i x3
              have tc67 := g_le c67
              refine lv_iconst (v := 0) hx hb dX12_numbers_89 (by decide) ?_
              exact te_i hx hb hr hlocks hH hS (⟨rfl, by decide, by decide⟩) dX12_numbers_90
            · skip
              have fuc67 := full_i p64_4
              have fvc67 := full_i x3
              have tc67 := g_nle c67
              refine lv_aload_n hx hb dX12_numbers_70 rfl (lv_at hl 1 rfl) ?_
              refine t_get (ci := 12) (lst := ft12 hg mq) (C := RX12) (F := TX12) (N := 36) hx hb hts uX12 hown hkb hH t_a0 (hO.no t_a0 (by decide)) (fun _ h9 => h9) rfl rfl 35 (by decide) rfl kw_1258 (fun _ h9 => h9) dX12_numbers_71 (fun v9 h9 => ?_)
              obtain ⟨v71, rfl, t_v71⟩ := h9
              refine lv_bipush (v := 40) hx hb dX12_numbers_74 (by decide) ?_
              refine lv_iload_n hx hb dX12_numbers_76 rfl (lv_at hl 2 rfl) ?_
              refine lv_imul hx hb dX12_numbers_77 ?_
              refine lv_topi (fun v77 ev77 => ?_)
              have tv77 : v77.toInt = (40) * x1.toInt := by rw [ev77]; exact mul_i (by decide : (40 : Int32).toInt = 40) rfl (by omega) (by omega)
              refine lv_iload hx hb dX12_numbers_78 (lv_at hl 0 rfl) ?_
              refine lv_iadd hx hb dX12_numbers_80 ?_
              refine lv_topi (fun v80 ev80 => ?_)
              have tv80 : v80.toInt = v77.toInt + p64_4.toInt := by rw [ev80]; exact add_i rfl rfl (by omega) (by omega)
              refine lv_lconst (v := 0) hx hb dX12_numbers_81 (by decide) ?_
              refine t_lst hx hb hkb hH hS t_v71 (hO.no t_v71 (by decide)) (by omega) (by omega) dX12_numbers_82 (fun H locs hH hS => ?_)
              obtain ⟨v83, ev83⟩ : ∃ y : Int32, y = p64_4 + 1 := ⟨_, rfl⟩
              have tv83 : v83.toInt = p64_4.toInt + (1) := by rw [ev83]; exact add_i rfl (by decide) (by omega) (by omega)
              refine lv_iinc (v := v83) (lv' := [(4, .int v83), (0, .ref a0), (1, .int x1), (3, .int x3)]) hx hb dX12_numbers_83 hl (k := 0) rfl (by rw [ev83]; rfl) (by decide) rfl (fun ls hl => ?_)
              refine lv_goto (tgt := 64) hx hb dX12_numbers_86 (by decide) ?_
              exact ih64 _ (by omega) v83 _ _ _ rfl (by omega) (by omega) hH hS (lv_sub hl [0, 1, 2, 3] rfl)
        refine lv_istore (lv' := [(4, .int 0), (0, .ref a0), (1, .int x1), (2, .int x2), (3, .int x3)]) hx hb dX12_numbers_62 hl (by decide) rfl (fun ls hl => ?_)
        exact J64 _ 0 _ _ _ rfl (by decide) (by decide) hH hS (lv_sub hl [0, 1, 2, 4] rfl)
      · skip
        have tc41 := f_eq (k := 0) (by decide) c41
        clear x_v380
        replace x_v381 := x_v381.resolve_left (fun q9 => q9 tc41)
        refine lv_bipush (v := (-3)) hx hb dX12_numbers_44 (by decide) ?_
        exact te_i hx hb hr hlocks hH hS (⟨rfl, by decide, by decide⟩) dX12_numbers_46
    · skip
      have tc26 := f_eq (k := 0) (by decide) c26
      clear x_v230
      replace x_v231 := x_v231.resolve_left (fun q9 => q9 tc26)
      exact J29  _ _ _  hH hS (lv_sub hl [] rfl)
set_option maxHeartbeats 4000000 in
set_option maxRecDepth 100000 in
theorem s_M_write (l : Launch) (D : va_G) (cs : CS) (kf : KF) (T : TF) (O : List Nat) (X : va_W) (a0 hg mq : Nat) (x1 : Int32) (x2 : Int32) (x3 : Int64) (t_a0 : T a0 = some (22, hg, mq)) (b_hg : hg < 90) (hO : okO T O [1, 2, 22]) : TK l D cs kf yX12_write cX12_write 6 (some (.long)) { frames := 2, cells := 0, slots := 0, locals := 46 } [.ref a0, .int x1, .int x2, .long x3] T O X (Tl D cs (fun _ u => u = (T, O, X))) := by
  refine tk_of (by decide) (Nat.le_of_ble_eq_true rfl) (fun p e s m below meth c ls A H locs hx hb hr hml hown hts hlocks hnm hkb hH hS hA hOX hks hE hl => ?_)
  have hown : s.vm.findClass RX12 = some m.cls := hown
  have hl : lv_has ls 6 [(0, .ref a0), (1, .int x1), (2, .int x2), (3, .long x3)] := hl
  refine lv_aload_n hx hb dX12_write_0 rfl (lv_at hl 0 rfl) ?_
  refine lv_iconst (v := 0) hx hb dX12_write_1 (by decide) ?_
  refine t_put (ci := 12) (lst := ft12 hg mq) (v := .int 0) (ty := tyX12 0) (C := RX12) (F := TX12) (N := 36) hx hb hts uX12 tyX12 tyX12_ok nmX12 hown hkb hH hS t_a0 (hO.no t_a0 (by decide)) (fun _ => Iff.rfl) rfl rfl 0 (by decide) rfl (⟨_, rfl⟩) kw_1223 (fun _ h9 => h9) rfl (tyX12_ok 0 (by decide)) rfl rfl dX12_write_2 (fun H locs hH hS => ?_)
  refine lv_aload_n hx hb dX12_write_5 rfl (lv_at hl 0 rfl) ?_
  refine lv_iload_n hx hb dX12_write_6 rfl (lv_at hl 1 rfl) ?_
  refine tk_i hH hS hA (tr_V (n := 1) (As := [.int x1]) hx hb hml hown hts hkb hH hOX hks hE hS hA (s_M_noTray l D cs kf T O X a0 hg mq x1 t_a0 b_hg (hO.sub (by decide))) kw_1523 kw_1525 ks_75 kw_13 kw_1526 (by decide +kernel) ⟨Nat.le_of_ble_eq_true rfl, Nat.le_of_ble_eq_true rfl⟩ (HT.recv (ci := 12) hkb hH t_a0 (hO.no t_a0 (by decide)) rfl) rfl rfl hl.1 (Nat.le_of_ble_eq_true rfl) dX12_write_7 ⟨Nat.le_of_ble_eq_true rfl, Nat.le_of_ble_eq_true rfl⟩) (fun v7 u H locs hz9 hH hS => ?_)
  obtain ⟨rfl, l_v7, u_v7, x_v70⟩ := hz9
  have hH : HT D cs A T O X H := hH
  refine W.widen (k := 0) (n := 0) (Nat.le_of_ble_eq_true rfl) (Nat.le_of_ble_eq_true rfl) ?_
  refine lv_istore (lv' := [(5, .int v7), (0, .ref a0), (1, .int x1), (2, .int x2), (3, .long x3)]) hx hb dX12_write_10 hl (by decide) rfl (fun ls hl => ?_)
  refine lv_iload hx hb dX12_write_12 (lv_at hl 0 rfl) ?_
  refine lv_if_eq (tgt := 21) hx hb dX12_write_14 (by decide) (fun c14 => ?_) (fun c14 => ?_)
  · skip
    have tc14 := f_eq (k := 0) (by decide) c14
    refine lv_iload_n hx hb dX12_write_21 rfl (lv_at hl 3 rfl) ?_
    refine lv_i2l hx hb dX12_write_22 rfl ?_
    refine lv_lconst (v := 0) hx hb dX12_write_23 (by decide) ?_
    refine lv_aload_n hx hb dX12_write_24 rfl (lv_at hl 1 rfl) ?_
    refine t_get (ci := 12) (lst := ft12 hg mq) (C := RX12) (F := TX12) (N := 36) hx hb hts uX12 hown hkb hH t_a0 (hO.no t_a0 (by decide)) (fun _ h9 => h9) rfl rfl 34 (by decide) rfl kw_1257 (fun _ h9 => h9) dX12_write_25 (fun v9 h9 => ?_)
    obtain ⟨v25, rfl, t_v25⟩ := h9
    refine lv_iload_n hx hb dX12_write_28 rfl (lv_at hl 2 rfl) ?_
    refine t_ild hx hb hkb hH t_v25 (hO.no t_v25 (by decide)) (by omega) (by omega) dX12_write_29 (fun v29 h9 => ?_)
    have tv29 : 0 ≤ v29.toInt ∧ v29.toInt ≤ 40 := h9
    refine lv_iconst (v := 1) hx hb dX12_write_30 (by decide) ?_
    refine lv_isub hx hb dX12_write_31 ?_
    refine lv_topi (fun v31 ev31 => ?_)
    have tv31 : v31.toInt = v29.toInt - (1) := by rw [ev31]; exact sub_i rfl (by decide : (1 : Int32).toInt = 1) (by omega) (by omega)
    refine lv_i2l hx hb dX12_write_32 rfl ?_
    refine tk_i hH hS hA (tr_S (n := 3) (As := [.long x2.toInt64, .long 0, .long v31.toInt64]) hx hb hml hown hts hkb hH hOX hks hE hS hA (s_M_within l D cs kf T O X x2.toInt64 0 v31.toInt64  (hO.sub (by decide))) kw_1341 kw_1342 kw_13 kw_1343 (by decide +kernel) ⟨Nat.le_of_ble_eq_true rfl, Nat.le_of_ble_eq_true rfl⟩ rfl rfl hl.1 (Nat.le_of_ble_eq_true rfl) dX12_write_33 ⟨Nat.le_of_ble_eq_true rfl, Nat.le_of_ble_eq_true rfl⟩) (fun v33 u H locs hz9 hH hS => ?_)
    obtain ⟨rfl, l_v33, u_v33, x_v330, x_v331⟩ := hz9
    simp only [Int32.toInt_toInt64] at x_v330 x_v331
    have k9_0 : (0 : Int64).toInt = 0 := by decide
    have hH : HT D cs A T O X H := hH
    refine W.widen (k := 0) (n := 0) (Nat.le_of_ble_eq_true rfl) (Nat.le_of_ble_eq_true rfl) ?_
    refine lv_if_ne (tgt := 43) hx hb dX12_write_36 (by decide) (fun c36 => ?_) (fun c36 => ?_)
    · skip
      have tc36 := f_ne (k := 0) (by decide) c36
      replace x_v330 := x_v330.resolve_left tc36
      clear x_v331
      refine lv_aload_n hx hb dX12_write_43 rfl (lv_at hl 1 rfl) ?_
      refine t_get (ci := 12) (lst := ft12 hg mq) (C := RX12) (F := TX12) (N := 36) hx hb hts uX12 hown hkb hH t_a0 (hO.no t_a0 (by decide)) (fun _ h9 => h9) rfl rfl 35 (by decide) rfl kw_1258 (fun _ h9 => h9) dX12_write_44 (fun v9 h9 => ?_)
      obtain ⟨v44, rfl, t_v44⟩ := h9
      refine lv_bipush (v := 40) hx hb dX12_write_47 (by decide) ?_
      refine lv_iload_n hx hb dX12_write_49 rfl (lv_at hl 2 rfl) ?_
      refine lv_imul hx hb dX12_write_50 ?_
      refine lv_topi (fun v50 ev50 => ?_)
      have tv50 : v50.toInt = (40) * x1.toInt := by rw [ev50]; exact mul_i (by decide : (40 : Int32).toInt = 40) rfl (by omega) (by omega)
      refine lv_iload_n hx hb dX12_write_51 rfl (lv_at hl 3 rfl) ?_
      refine lv_iadd hx hb dX12_write_52 ?_
      refine lv_topi (fun v52 ev52 => ?_)
      have tv52 : v52.toInt = v50.toInt + x2.toInt := by rw [ev52]; exact add_i rfl rfl (by omega) (by omega)
      refine lv_lload_n hx hb dX12_write_53 rfl (lv_at hl 4 rfl) ?_
      refine lv_aload_n hx hb dX12_write_54 rfl (lv_at hl 1 rfl) ?_
      refine t_get (ci := 12) (lst := ft12 hg mq) (C := RX12) (F := TX12) (N := 36) hx hb hts uX12 hown hkb hH t_a0 (hO.no t_a0 (by decide)) (fun _ h9 => h9) rfl rfl 33 (by decide) rfl kw_1256 (fun _ h9 => h9) dX12_write_55 (fun v9 h9 => ?_)
      obtain ⟨v55, rfl, t_v55⟩ := h9
      refine lv_iload_n hx hb dX12_write_58 rfl (lv_at hl 2 rfl) ?_
      refine t_ild hx hb hkb hH t_v55 (hO.no t_v55 (by decide)) (by omega) (by omega) dX12_write_59 (fun v59 h9 => ?_)
      refine tk_l hH hS hA (tr_S (n := 2) (As := [.long x3, .int v59]) hx hb hml hown hts hkb hH hOX hks hE hS hA (s_M_cut l D cs kf T O X x3 v59  (hO.sub (by decide))) kw_1769 kw_1770 kw_13 kw_1771 (by decide +kernel) ⟨Nat.le_of_ble_eq_true rfl, Nat.le_of_ble_eq_true rfl⟩ rfl rfl hl.1 (Nat.le_of_ble_eq_true rfl) dX12_write_60 ⟨Nat.le_of_ble_eq_true rfl, Nat.le_of_ble_eq_true rfl⟩) (fun v60 u H locs hz9 hH hS => ?_)
      have hz9 : u = (T, O, X) := hz9
      subst hz9
      have hH : HT D cs A T O X H := hH
      refine W.widen (k := 0) (n := 0) (Nat.le_of_ble_eq_true rfl) (Nat.le_of_ble_eq_true rfl) ?_
      refine t_lst hx hb hkb hH hS t_v44 (hO.no t_v44 (by decide)) (by omega) (by omega) dX12_write_63 (fun H locs hH hS => ?_)
      refine lv_aload_n hx hb dX12_write_64 rfl (lv_at hl 1 rfl) ?_
      refine t_get (ci := 12) (lst := ft12 hg mq) (C := RX12) (F := TX12) (N := 36) hx hb hts uX12 hown hkb hH t_a0 (hO.no t_a0 (by decide)) (fun _ h9 => h9) rfl rfl 35 (by decide) rfl kw_1258 (fun _ h9 => h9) dX12_write_65 (fun v9 h9 => ?_)
      obtain ⟨v65, rfl, t_v65⟩ := h9
      refine lv_bipush (v := 40) hx hb dX12_write_68 (by decide) ?_
      refine lv_iload_n hx hb dX12_write_70 rfl (lv_at hl 2 rfl) ?_
      refine lv_imul hx hb dX12_write_71 ?_
      refine lv_topi (fun v71 ev71 => ?_)
      have tv71 : v71.toInt = (40) * x1.toInt := by rw [ev71]; exact mul_i (by decide : (40 : Int32).toInt = 40) rfl (by omega) (by omega)
      refine lv_iload_n hx hb dX12_write_72 rfl (lv_at hl 3 rfl) ?_
      refine lv_iadd hx hb dX12_write_73 ?_
      refine lv_topi (fun v73 ev73 => ?_)
      have tv73 : v73.toInt = v71.toInt + x2.toInt := by rw [ev73]; exact add_i rfl rfl (by omega) (by omega)
      refine t_lld hx hb hkb hH t_v65 (hO.no t_v65 (by decide)) (by omega) (by omega) dX12_write_74 (fun v74 => ?_)
      exact te_l hx hb hr hlocks hH hS rfl dX12_write_75
    · skip
      have tc36 := f_eq (k := 0) (by decide) c36
      clear x_v330
      replace x_v331 := x_v331.resolve_left (fun q9 => q9 tc36)
      refine lv_ldc2 hx hb hown (hts _ kw_1768) dX12_write_39 ?_
      exact te_l hx hb hr hlocks hH hS rfl dX12_write_42
  · skip
    have tc14 := f_ne (k := 0) (by decide) c14
    refine lv_iload hx hb dX12_write_17 (lv_at hl 0 rfl) ?_
    refine lv_i2l hx hb dX12_write_19 rfl ?_
    exact te_l hx hb hr hlocks hH hS rfl dX12_write_20
