set_option maxHeartbeats 4000000 in
set_option maxRecDepth 100000 in
theorem s_Rows_aim (l : Launch) (D : va_G) (cs : CS) (kf : KF) (T : TF) (O : List Nat) (X : va_W) (a0 : Nat) (a1 ha1 ga1 : Nat) (x2 : Int32) (x3 : Int32) (x4 : Int32) (t_a0 : T a0 = some (15, 0, 0)) (t_a1 : isW T a1 ha1 ga1) (hO : okO T O [1, 15, 19]) : TK l D cs kf yX5_aim cX5_aim 7 none { frames := 1, cells := 0, slots := 0, locals := 20 } [.ref a0, .ref a1, .int x2, .int x3, .int x4] T O X (Tv D cs (fun u => u = (T, O, X))) := by
  refine tk_of (by decide) (Nat.le_of_ble_eq_true rfl) (fun p e s m below meth c ls A H locs hx hb hr hml hown hts hlocks hnm hkb hH hS hA hOX hks hE hl => ?_)
  have hown : s.vm.findClass RX5 = some m.cls := hown
  have hl : lv_has ls 7 [(0, .ref a0), (1, .ref a1), (2, .int x2), (3, .int x3), (4, .int x4)] := hl
  have b1_a1 := t_a1.2.1
  have b2_a1 := t_a1.2.2
  refine lv_aload_n hx hb dX5_aim_0 rfl (lv_at hl 1 rfl) ?_
  refine lv_aload_n hx hb dX5_aim_1 rfl (lv_at hl 0 rfl) ?_
  refine t_get (ci := 5) (lst := ft5 0 0) (C := RX5) (F := TX5) (N := 6) hx hb hts uX5 hown hkb hH t_a0 (hO.no t_a0 (by decide)) (fun _ h9 => h9) rfl rfl 0 (by decide) rfl kw_244 (fun _ h9 => h9) dX5_aim_2 (fun v9 h9 => ?_)
  obtain ⟨v2, hv2, gv2, rfl, t_v2⟩ := h9
  have J52 : ∀ (k52_0 : Int32) (H : Heap) (locs : List Loc) (ls : Array Slot), (0 ≤ k52_0.toInt) → (k52_0.toInt ≤ 1) → HT D cs A T O X H → va_S A s.heap H locs → lv_has ls 7 [(0, .ref a0), (1, .ref a1), (2, .int x2), (3, .int x3), (4, .int x4)] → W p l e { frames := 1, cells := 0, slots := 0, locals := 20 } s m [.ref a0, .ref a1, .int x2, .int x3, .int x4].toArray below meth c H locs 0 0 (MQ below (Tv D cs (fun u => u = (T, O, X)) A) [.ref a0, .ref a1, .int x2, .int x3, .int x4].toArray s 0 0 A) (F0 m 52 ls [.int k52_0]) := by
    intro k52_0 H locs ls l_k52_0 u_k52_0 hH hS hl
    refine lv_istore (lv' := [(5, .int k52_0), (0, .ref a0), (1, .ref a1), (2, .int x2), (3, .int x3), (4, .int x4)]) hx hb dX5_aim_52 hl (by decide) rfl (fun ls hl => ?_)
    refine lv_iload hx hb dX5_aim_54 (lv_at hl 0 rfl) ?_
    have J94 : ∀  (H : Heap) (locs : List Loc) (ls : Array Slot), HT D cs A T O X H → va_S A s.heap H locs → lv_has ls 7 [(0, .ref a0), (1, .ref a1), (2, .int x2), (3, .int x3), (4, .int x4)] → W p l e { frames := 1, cells := 0, slots := 0, locals := 20 } s m [.ref a0, .ref a1, .int x2, .int x3, .int x4].toArray below meth c H locs 0 0 (MQ below (Tv D cs (fun u => u = (T, O, X)) A) [.ref a0, .ref a1, .int x2, .int x3, .int x4].toArray s 0 0 A) (F0 m 94 ls []) := by
      intro  H locs ls  hH hS hl
      refine lv_aload_n hx hb dX5_aim_94 rfl (lv_at hl 0 rfl) ?_
      refine lv_aload_n hx hb dX5_aim_95 rfl (lv_at hl 1 rfl) ?_
      refine t_put (ci := 5) (lst := ft5 0 0) (v := .ref a1) (ty := tyX5 0) (C := RX5) (F := TX5) (N := 6) hx hb hts uX5 tyX5 tyX5_ok nmX5 hown hkb hH hS t_a0 (hO.no t_a0 (by decide)) (fun _ => Iff.rfl) rfl rfl 0 (by decide) rfl (⟨_, _, _, rfl, t_a1⟩) kw_244 (fun _ h9 => h9) rfl (tyX5_ok 0 (by decide)) rfl rfl dX5_aim_96 (fun H locs hH hS => ?_)
      refine lv_aload_n hx hb dX5_aim_99 rfl (lv_at hl 0 rfl) ?_
      refine lv_iload_n hx hb dX5_aim_100 rfl (lv_at hl 2 rfl) ?_
      refine t_put (ci := 5) (lst := ft5 0 0) (v := .int x2) (ty := tyX5 1) (C := RX5) (F := TX5) (N := 6) hx hb hts uX5 tyX5 tyX5_ok nmX5 hown hkb hH hS t_a0 (hO.no t_a0 (by decide)) (fun _ => Iff.rfl) rfl rfl 1 (by decide) rfl (⟨_, rfl⟩) kw_248 (fun _ h9 => h9) rfl (tyX5_ok 1 (by decide)) rfl rfl dX5_aim_101 (fun H locs hH hS => ?_)
      refine lv_aload_n hx hb dX5_aim_104 rfl (lv_at hl 0 rfl) ?_
      refine lv_iload_n hx hb dX5_aim_105 rfl (lv_at hl 3 rfl) ?_
      refine t_put (ci := 5) (lst := ft5 0 0) (v := .int x3) (ty := tyX5 2) (C := RX5) (F := TX5) (N := 6) hx hb hts uX5 tyX5 tyX5_ok nmX5 hown hkb hH hS t_a0 (hO.no t_a0 (by decide)) (fun _ => Iff.rfl) rfl rfl 2 (by decide) rfl (⟨_, rfl⟩) kw_249 (fun _ h9 => h9) rfl (tyX5_ok 2 (by decide)) rfl rfl dX5_aim_106 (fun H locs hH hS => ?_)
      refine lv_aload_n hx hb dX5_aim_109 rfl (lv_at hl 0 rfl) ?_
      refine lv_iload hx hb dX5_aim_110 (lv_at hl 4 rfl) ?_
      refine t_put (ci := 5) (lst := ft5 0 0) (v := .int x4) (ty := tyX5 3) (C := RX5) (F := TX5) (N := 6) hx hb hts uX5 tyX5 tyX5_ok nmX5 hown hkb hH hS t_a0 (hO.no t_a0 (by decide)) (fun _ => Iff.rfl) rfl rfl 3 (by decide) rfl (⟨_, rfl⟩) kw_250 (fun _ h9 => h9) rfl (tyX5_ok 3 (by decide)) rfl rfl dX5_aim_112 (fun H locs hH hS => ?_)
      exact te_v hx hb hr hlocks hH hS rfl dX5_aim_115
    refine lv_if_ne (tgt := 94) hx hb dX5_aim_56 (by decide) (fun c56 => ?_) (fun c56 => ?_)
    · skip
      have tc56 := f_ne (k := 0) (by decide) c56
      exact J94  _ _ _  hH hS (lv_sub hl [1, 2, 3, 4, 5] rfl)
    · skip
      have tc56 := f_eq (k := 0) (by decide) c56
      refine lv_iconst (v := 0) hx hb dX5_aim_59 (by decide) ?_
      have J62 : ∀ (n : Nat) (p62_6 : Int32) (H : Heap) (locs : List Loc) (ls : Array Slot), (14 - p62_6.toInt).toNat = n → (0 ≤ p62_6.toInt) → (p62_6.toInt ≤ 14) → HT D cs A T O X H → va_S A s.heap H locs → lv_has ls 7 [(6, .int p62_6), (0, .ref a0), (1, .ref a1), (2, .int x2), (3, .int x3), (4, .int x4)] → W p l e { frames := 1, cells := 0, slots := 0, locals := 20 } s m [.ref a0, .ref a1, .int x2, .int x3, .int x4].toArray below meth c H locs 0 0 (MQ below (Tv D cs (fun u => u = (T, O, X)) A) [.ref a0, .ref a1, .int x2, .int x3, .int x4].toArray s 0 0 A) (F0 m 62 ls []) := by
        intro n
        induction n using Nat.strongRecOn with
        | _ n ih62 =>
          intro p62_6 H locs ls hm62 l_p62_6 u_p62_6 hH hS hl
          refine lv_iload hx hb dX5_aim_62 (lv_at hl 0 rfl) ?_
          refine lv_bipush (v := 14) hx hb dX5_aim_64 (by decide) ?_
          refine lv_icmp_ge (tgt := 94) hx hb dX5_aim_66 (by decide) (fun c66 => ?_) (fun c66 => ?_)
          · skip
            have tc66 := f_ge (k := 14) (by decide) c66
            exact J94  _ _ _  hH hS (lv_sub hl [1, 2, 3, 4, 5] rfl)
          · skip
            have tc66 := f_nge (k := 14) (by decide) c66
            refine lv_aload_n hx hb dX5_aim_69 rfl (lv_at hl 1 rfl) ?_
            refine t_get (ci := 5) (lst := ft5 0 0) (C := RX5) (F := TX5) (N := 6) hx hb hts uX5 hown hkb hH t_a0 (hO.no t_a0 (by decide)) (fun _ h9 => h9) rfl rfl 4 (by decide) rfl kw_251 (fun _ h9 => h9) dX5_aim_70 (fun v9 h9 => ?_)
            obtain ⟨v70, rfl, t_v70⟩ := h9
            refine lv_iload hx hb dX5_aim_73 (lv_at hl 0 rfl) ?_
            refine lv_iconst (v := 1) hx hb dX5_aim_75 (by decide) ?_
            refine lv_iload hx hb dX5_aim_76 (lv_at hl 0 rfl) ?_
            refine lv_ishl hx hb dX5_aim_78 ?_
            refine lv_topi (fun v78 ev78 => ?_)
            have tv78 : 1 ≤ v78.toInt ∧ v78.toInt ≤ 8192 := by rw [ev78]; exact shl_b 13 (by decide) (by omega) (by omega)
            refine t_ist hx hb hkb hH hS t_v70 (hO.no t_v70 (by decide)) (by omega) (by omega) (cp_0 _) dX5_aim_79 (fun H locs hH hS => ?_)
            refine lv_aload_n hx hb dX5_aim_80 rfl (lv_at hl 1 rfl) ?_
            refine t_get (ci := 5) (lst := ft5 0 0) (C := RX5) (F := TX5) (N := 6) hx hb hts uX5 hown hkb hH t_a0 (hO.no t_a0 (by decide)) (fun _ h9 => h9) rfl rfl 5 (by decide) rfl kw_252 (fun _ h9 => h9) dX5_aim_81 (fun v9 h9 => ?_)
            obtain ⟨v81, rfl, t_v81⟩ := h9
            refine lv_iload hx hb dX5_aim_84 (lv_at hl 0 rfl) ?_
            refine lv_iconst (v := 0) hx hb dX5_aim_86 (by decide) ?_
            refine t_ist hx hb hkb hH hS t_v81 (hO.no t_v81 (by decide)) (by omega) (by omega) (show 0 ≤ (0 : Int32).toInt ∧ (0 : Int32).toInt ≤ 16383 from by decide) dX5_aim_87 (fun H locs hH hS => ?_)
            obtain ⟨v88, ev88⟩ : ∃ y : Int32, y = p62_6 + 1 := ⟨_, rfl⟩
            have tv88 : v88.toInt = p62_6.toInt + (1) := by rw [ev88]; exact add_i rfl (by decide) (by omega) (by omega)
            refine lv_iinc (v := v88) (lv' := [(6, .int v88), (0, .ref a0), (1, .ref a1), (2, .int x2), (3, .int x3), (4, .int x4)]) hx hb dX5_aim_88 hl (k := 0) rfl (by rw [ev88]; rfl) (by decide) rfl (fun ls hl => ?_)
            refine lv_goto (tgt := 62) hx hb dX5_aim_91 (by decide) ?_
            exact ih62 _ (by omega) v88 _ _ _ rfl (by omega) (by omega) hH hS (lv_sub hl [0, 1, 2, 3, 4, 5] rfl)
      refine lv_istore (lv' := [(6, .int 0), (5, .int k52_0), (0, .ref a0), (1, .ref a1), (2, .int x2), (3, .int x3), (4, .int x4)]) hx hb dX5_aim_60 hl (by decide) rfl (fun ls hl => ?_)
      exact J62 _ 0 _ _ _ rfl (by decide) (by decide) hH hS (lv_sub hl [0, 2, 3, 4, 5, 6] rfl)
  have J51 : ∀  (H : Heap) (locs : List Loc) (ls : Array Slot), HT D cs A T O X H → va_S A s.heap H locs → lv_has ls 7 [(0, .ref a0), (1, .ref a1), (2, .int x2), (3, .int x3), (4, .int x4)] → W p l e { frames := 1, cells := 0, slots := 0, locals := 20 } s m [.ref a0, .ref a1, .int x2, .int x3, .int x4].toArray below meth c H locs 0 0 (MQ below (Tv D cs (fun u => u = (T, O, X)) A) [.ref a0, .ref a1, .int x2, .int x3, .int x4].toArray s 0 0 A) (F0 m 51 ls []) := by
    intro  H locs ls  hH hS hl
    refine lv_iconst (v := 0) hx hb dX5_aim_51 (by decide) ?_
    exact J52 0 _ _ _ (by decide) (by decide) hH hS (lv_sub hl [0, 1, 2, 3, 4] rfl)
  refine lv_acmp_ne (rx := (some a1)) (ry := (some v2)) (tgt := 51) hx hb dX5_aim_5 (by decide) (fun _ => ?_) (fun _ => ?_)
  · skip
    exact J51  _ _ _  hH hS (lv_sub hl [0, 1, 2, 3, 4] rfl)
  · skip
    refine lv_iload_n hx hb dX5_aim_8 rfl (lv_at hl 3 rfl) ?_
    refine lv_aload_n hx hb dX5_aim_9 rfl (lv_at hl 0 rfl) ?_
    refine t_get (ci := 5) (lst := ft5 0 0) (C := RX5) (F := TX5) (N := 6) hx hb hts uX5 hown hkb hH t_a0 (hO.no t_a0 (by decide)) (fun _ h9 => h9) rfl rfl 2 (by decide) rfl kw_249 (fun _ h9 => h9) dX5_aim_10 (fun v9 h9 => ?_)
    obtain ⟨v10, rfl⟩ := h9
    refine lv_icmp_ne (tgt := 51) hx hb dX5_aim_13 (by decide) (fun c13 => ?_) (fun c13 => ?_)
    · skip
      have fuc13 := full_i x3
      have fvc13 := full_i v10
      have tc13 := g_ne c13
      exact J51  _ _ _  hH hS (lv_sub hl [0, 1, 2, 3, 4] rfl)
    · skip
      have fuc13 := full_i x3
      have fvc13 := full_i v10
      have tc13 := g_eq c13
      refine lv_iload_n hx hb dX5_aim_16 rfl (lv_at hl 2 rfl) ?_
      refine lv_aload_n hx hb dX5_aim_17 rfl (lv_at hl 0 rfl) ?_
      refine t_get (ci := 5) (lst := ft5 0 0) (C := RX5) (F := TX5) (N := 6) hx hb hts uX5 hown hkb hH t_a0 (hO.no t_a0 (by decide)) (fun _ h9 => h9) rfl rfl 1 (by decide) rfl kw_248 (fun _ h9 => h9) dX5_aim_18 (fun v9 h9 => ?_)
      obtain ⟨v18, rfl⟩ := h9
      have J31 : ∀  (H : Heap) (locs : List Loc) (ls : Array Slot), HT D cs A T O X H → va_S A s.heap H locs → lv_has ls 7 [(0, .ref a0), (1, .ref a1), (2, .int x2), (3, .int x3), (4, .int x4)] → W p l e { frames := 1, cells := 0, slots := 0, locals := 20 } s m [.ref a0, .ref a1, .int x2, .int x3, .int x4].toArray below meth c H locs 0 0 (MQ below (Tv D cs (fun u => u = (T, O, X)) A) [.ref a0, .ref a1, .int x2, .int x3, .int x4].toArray s 0 0 A) (F0 m 31 ls []) := by
        intro  H locs ls  hH hS hl
        refine lv_iload hx hb dX5_aim_31 (lv_at hl 4 rfl) ?_
        refine lv_aload_n hx hb dX5_aim_33 rfl (lv_at hl 0 rfl) ?_
        refine t_get (ci := 5) (lst := ft5 0 0) (C := RX5) (F := TX5) (N := 6) hx hb hts uX5 hown hkb hH t_a0 (hO.no t_a0 (by decide)) (fun _ h9 => h9) rfl rfl 3 (by decide) rfl kw_250 (fun _ h9 => h9) dX5_aim_34 (fun v9 h9 => ?_)
        obtain ⟨v34, rfl⟩ := h9
        have J47 : ∀  (H : Heap) (locs : List Loc) (ls : Array Slot), HT D cs A T O X H → va_S A s.heap H locs → lv_has ls 7 [(0, .ref a0), (1, .ref a1), (2, .int x2), (3, .int x3), (4, .int x4)] → W p l e { frames := 1, cells := 0, slots := 0, locals := 20 } s m [.ref a0, .ref a1, .int x2, .int x3, .int x4].toArray below meth c H locs 0 0 (MQ below (Tv D cs (fun u => u = (T, O, X)) A) [.ref a0, .ref a1, .int x2, .int x3, .int x4].toArray s 0 0 A) (F0 m 47 ls []) := by
          intro  H locs ls  hH hS hl
          refine lv_iconst (v := 1) hx hb dX5_aim_47 (by decide) ?_
          refine lv_goto (tgt := 52) hx hb dX5_aim_48 (by decide) ?_
          exact J52 1 _ _ _ (by decide) (by decide) hH hS (lv_sub hl [0, 1, 2, 3, 4] rfl)
        refine lv_icmp_eq (tgt := 47) hx hb dX5_aim_37 (by decide) (fun c37 => ?_) (fun c37 => ?_)
        · skip
          have fuc37 := full_i x4
          have fvc37 := full_i v34
          have tc37 := g_eq c37
          exact J47  _ _ _  hH hS (lv_sub hl [0, 1, 2, 3, 4] rfl)
        · skip
          have fuc37 := full_i x4
          have fvc37 := full_i v34
          have tc37 := g_ne c37
          refine lv_aload_n hx hb dX5_aim_40 rfl (lv_at hl 1 rfl) ?_
          refine tk_i hH hS hA (tr_V (n := 0) (As := []) hx hb hml hown hts hkb hH hOX hks hE hS hA (s_Wall_asksDay l D cs kf T O X a1 ha1 ga1 t_a1 (hO.sub (by decide))) kw_842 kw_843 kw_844 kw_5 kw_845 (by decide +kernel) ⟨Nat.le_of_ble_eq_true rfl, Nat.le_of_ble_eq_true rfl⟩ (HT.recv (ci := 9) hkb hH t_a1.1 (hO.no t_a1.1 (by decide)) rfl) rfl rfl hl.1 (Nat.le_of_ble_eq_true rfl) dX5_aim_41 ⟨Nat.le_of_ble_eq_true rfl, Nat.le_of_ble_eq_true rfl⟩) (fun v41 u H locs hz9 hH hS => ?_)
          obtain ⟨rfl, l_v41, u_v41⟩ := hz9
          have hH : HT D cs A T O X H := hH
          refine W.widen (k := 0) (n := 0) (Nat.le_of_ble_eq_true rfl) (Nat.le_of_ble_eq_true rfl) ?_
          refine lv_if_ne (tgt := 51) hx hb dX5_aim_44 (by decide) (fun c44 => ?_) (fun c44 => ?_)
          · skip
            have tc44 := f_ne (k := 0) (by decide) c44
            exact J51  _ _ _  hH hS (lv_sub hl [0, 1, 2, 3, 4] rfl)
          · skip
            have tc44 := f_eq (k := 0) (by decide) c44
            exact J47  _ _ _  hH hS (lv_sub hl [0, 1, 2, 3, 4] rfl)
      refine lv_icmp_eq (tgt := 31) hx hb dX5_aim_21 (by decide) (fun c21 => ?_) (fun c21 => ?_)
      · skip
        have fuc21 := full_i x2
        have fvc21 := full_i v18
        have tc21 := g_eq c21
        exact J31  _ _ _  hH hS (lv_sub hl [0, 1, 2, 3, 4] rfl)
      · skip
        have fuc21 := full_i x2
        have fvc21 := full_i v18
        have tc21 := g_ne c21
        refine lv_aload_n hx hb dX5_aim_24 rfl (lv_at hl 1 rfl) ?_
        refine tk_i hH hS hA (tr_V (n := 0) (As := []) hx hb hml hown hts hkb hH hOX hks hE hS hA (s_Wall_asksLeg l D cs kf T O X a1 ha1 ga1 t_a1 (hO.sub (by decide))) kw_838 kw_839 kw_840 kw_5 kw_841 (by decide +kernel) ⟨Nat.le_of_ble_eq_true rfl, Nat.le_of_ble_eq_true rfl⟩ (HT.recv (ci := 9) hkb hH t_a1.1 (hO.no t_a1.1 (by decide)) rfl) rfl rfl hl.1 (Nat.le_of_ble_eq_true rfl) dX5_aim_25 ⟨Nat.le_of_ble_eq_true rfl, Nat.le_of_ble_eq_true rfl⟩) (fun v25 u H locs hz9 hH hS => ?_)
        obtain ⟨rfl, l_v25, u_v25⟩ := hz9
        have hH : HT D cs A T O X H := hH
        refine W.widen (k := 0) (n := 0) (Nat.le_of_ble_eq_true rfl) (Nat.le_of_ble_eq_true rfl) ?_
        refine lv_if_ne (tgt := 51) hx hb dX5_aim_28 (by decide) (fun c28 => ?_) (fun c28 => ?_)
        · skip
          have tc28 := f_ne (k := 0) (by decide) c28
          exact J51  _ _ _  hH hS (lv_sub hl [0, 1, 2, 3, 4] rfl)
        · skip
          have tc28 := f_eq (k := 0) (by decide) c28
          exact J31  _ _ _  hH hS (lv_sub hl [0, 1, 2, 3, 4] rfl)
set_option maxHeartbeats 4000000 in
set_option maxRecDepth 100000 in
theorem s_Rows_stepped (l : Launch) (D : va_G) (cs : CS) (kf : KF) (T : TF) (O : List Nat) (X : va_W) (a0 : Nat) (x1 : Int32) (x2 : Int32) (t_a0 : T a0 = some (15, 0, 0)) (hO : okO T O [1, 12, 15, 19]) : TK l D cs kf yX5_stepped cX5_stepped 5 (some (.int)) { frames := 3, cells := 0, slots := 0, locals := 77 } [.ref a0, .int x1, .int x2] T O X (Ti D cs (fun r u => u = (T, O, X) ∧ 0 ≤ r.toInt ∧ r.toInt ≤ 16383)) := by
  refine tk_of (by decide) (Nat.le_of_ble_eq_true rfl) (fun p e s m below meth c ls A H locs hx hb hr hml hown hts hlocks hnm hkb hH hS hA hOX hks hE hl => ?_)
  have hown : s.vm.findClass RX5 = some m.cls := hown
  have hl : lv_has ls 5 [(0, .ref a0), (1, .int x1), (2, .int x2)] := hl
  have hO0 := hO
  obtain ⟨fs9, ho9, hH⟩ := hH.take t_a0 (hO0.no t_a0 (by decide))
  have hp0 : okL T (ft5 0 0) fs9 := ho9
  clear ho9
  obtain ⟨v9, fs9, rfl, h9, hp1⟩ := okL_i hp0
  obtain ⟨q0_0, hq0_0, gq0_0, rfl, t_q0_0⟩ := h9
  obtain ⟨v9, fs9, rfl, h9, hp2⟩ := okL_i hp1
  obtain ⟨q0_1, rfl⟩ := h9
  obtain ⟨v9, fs9, rfl, h9, hp3⟩ := okL_i hp2
  obtain ⟨q0_2, rfl⟩ := h9
  obtain ⟨v9, fs9, rfl, h9, hp4⟩ := okL_i hp3
  obtain ⟨q0_3, rfl⟩ := h9
  obtain ⟨v9, fs9, rfl, h9, hp5⟩ := okL_i hp4
  obtain ⟨q0_4, rfl, t_q0_4⟩ := h9
  obtain ⟨v9, fs9, rfl, h9, hp6⟩ := okL_i hp5
  obtain ⟨q0_5, rfl, t_q0_5⟩ := h9
  have hpz := okL_z hp6
  subst hpz
  have hH : HT D cs A T (a0 :: O) ((a0, .inr (5, [.ref q0_0, .int q0_1, .int q0_2, .int q0_3, .ref q0_4, .ref q0_5])) :: X) H := hH
  have hO : okO T (a0 :: O) [1, 12, 19] := okO.cons (hO0.sub (by decide)) t_a0 (by decide)
  refine lv_iload_n hx hb dX5_stepped_0 rfl (lv_at hl 1 rfl) ?_
  have J15 : ∀  (H : Heap) (locs : List Loc) (ls : Array Slot), HT D cs A T (a0 :: O) ((a0, .inr (5, [.ref q0_0, .int q0_1, .int q0_2, .int q0_3, .ref q0_4, .ref q0_5])) :: X) H → va_S A s.heap H locs → lv_has ls 5 [] → W p l e { frames := 3, cells := 0, slots := 0, locals := 77 } s m [.ref a0, .int x1, .int x2].toArray below meth c H locs 0 0 (MQ below (Ti D cs (fun r u => u = (T, O, X) ∧ 0 ≤ r.toInt ∧ r.toInt ≤ 16383) A) [.ref a0, .int x1, .int x2].toArray s 0 0 A) (F0 m 15 ls []) := by
    intro  H locs ls  hH hS hl
    refine lv_iconst (v := 0) hx hb dX5_stepped_15 (by decide) ?_
    have hH : HT D cs A T O X H := HT.lay (ci := 5) hH t_a0 (okL_c (⟨_, _, _, rfl, t_q0_0⟩) (okL_c (⟨_, rfl⟩) (okL_c (⟨_, rfl⟩) (okL_c (⟨_, rfl⟩) (okL_c (⟨_, rfl, t_q0_4⟩) (okL_c (⟨_, rfl, t_q0_5⟩) (okL_n)))))))
    have hO := hO0
    exact te_i hx hb hr hlocks hH hS (⟨rfl, by decide, by decide⟩) dX5_stepped_16
  refine lv_if_lt (tgt := 15) hx hb dX5_stepped_1 (by decide) (fun c1 => ?_) (fun c1 => ?_)
  · skip
    have tc1 := f_lt (k := 0) (by decide) c1
    exact J15  _ _ _  hH hS (lv_sub hl [] rfl)
  · skip
    have tc1 := f_nlt (k := 0) (by decide) c1
    refine lv_iload_n hx hb dX5_stepped_4 rfl (lv_at hl 1 rfl) ?_
    refine lv_aload_n hx hb dX5_stepped_5 rfl (lv_at hl 0 rfl) ?_
    refine x_get (ci := 5) (C := RX5) (F := TX5) (N := 6) (v := .ref q0_0) hx hb hts uX5 hown hkb hH rfl 0 (by decide) rfl kw_244 (fun _ h9 => h9) dX5_stepped_6 ?_
    refine t_get (ci := 9) (lst := ft9w hq0_0 gq0_0) (C := RX9) (F := TX9) (N := 14) hx hb hts uX9 hown hkb hH t_q0_0.1 (hO.no t_q0_0.1 (by decide)) (fun fs => (ob9w t_q0_0 fs).mp) rfl rfl 0 (by decide) rfl kw_107 (fun _ h9 => h9) dX5_stepped_9 (fun v9 h9 => ?_)
    have h9 : v9 = .int (nI hq0_0) := h9
    subst h9
    have e_hq0_0 : (nI hq0_0).toInt = hq0_0 := nI_toInt (by have := t_q0_0.2.1; omega)
    have b_hq0_0 := t_q0_0.2.1
    refine lv_icmp_lt (tgt := 17) hx hb dX5_stepped_12 (by decide) (fun c12 => ?_) (fun c12 => ?_)
    · skip
      have fuc12 := full_i x1
      have fvc12 := full_i (nI hq0_0)
      have tc12 := g_lt c12
      refine lv_iload_n hx hb dX5_stepped_17 rfl (lv_at hl 2 rfl) ?_
      refine lv_aload_n hx hb dX5_stepped_18 rfl (lv_at hl 0 rfl) ?_
      refine x_get (ci := 5) (C := RX5) (F := TX5) (N := 6) (v := .ref q0_4) hx hb hts uX5 hown hkb hH rfl 4 (by decide) rfl kw_251 (fun _ h9 => h9) dX5_stepped_19 ?_
      refine lv_iload_n hx hb dX5_stepped_22 rfl (lv_at hl 1 rfl) ?_
      refine t_ild hx hb hkb hH t_q0_4 (hO.no t_q0_4 (by decide)) (by omega) (by omega) dX5_stepped_23 (fun v23 h9 => ?_)
      refine lv_iconst (v := (-1)) hx hb dX5_stepped_24 (by decide) ?_
      refine lv_ixor hx hb dX5_stepped_25 ?_
      refine lv_topi (fun v25 ev25 => ?_)
      refine lv_iand hx hb dX5_stepped_26 ?_
      refine lv_topi (fun v26 ev26 => ?_)
      refine lv_istore_n (lv' := [(3, .int v26), (0, .ref a0), (1, .int x1), (2, .int x2)]) hx hb dX5_stepped_27 rfl hl (by decide) rfl (fun ls hl => ?_)
      refine lv_iconst (v := 0) hx hb dX5_stepped_28 (by decide) ?_
      have J31 : ∀ (n : Nat) (p31_4 : Int32) (H : Heap) (locs : List Loc) (ls : Array Slot), (14 - p31_4.toInt).toNat = n → (0 ≤ p31_4.toInt) → (p31_4.toInt ≤ 14) → HT D cs A T (a0 :: O) ((a0, .inr (5, [.ref q0_0, .int q0_1, .int q0_2, .int q0_3, .ref q0_4, .ref q0_5])) :: X) H → va_S A s.heap H locs → lv_has ls 5 [(4, .int p31_4), (3, .int v26), (0, .ref a0), (1, .int x1), (2, .int x2)] → W p l e { frames := 3, cells := 0, slots := 0, locals := 77 } s m [.ref a0, .int x1, .int x2].toArray below meth c H locs 0 0 (MQ below (Ti D cs (fun r u => u = (T, O, X) ∧ 0 ≤ r.toInt ∧ r.toInt ≤ 16383) A) [.ref a0, .int x1, .int x2].toArray s 0 0 A) (F0 m 31 ls []) := by
        intro n
        induction n using Nat.strongRecOn with
        | _ n ih31 =>
          intro p31_4 H locs ls hm31 l_p31_4 u_p31_4 hH hS hl
          refine lv_iload hx hb dX5_stepped_31 (lv_at hl 0 rfl) ?_
          refine lv_aload_n hx hb dX5_stepped_33 rfl (lv_at hl 2 rfl) ?_
          refine x_get (ci := 5) (C := RX5) (F := TX5) (N := 6) (v := .ref q0_0) hx hb hts uX5 hown hkb hH rfl 0 (by decide) rfl kw_244 (fun _ h9 => h9) dX5_stepped_34 ?_
          refine t_get (ci := 9) (lst := ft9w hq0_0 gq0_0) (C := RX9) (F := TX9) (N := 14) hx hb hts uX9 hown hkb hH t_q0_0.1 (hO.no t_q0_0.1 (by decide)) (fun fs => (ob9w t_q0_0 fs).mp) rfl rfl 0 (by decide) rfl kw_107 (fun _ h9 => h9) dX5_stepped_37 (fun v9 h9 => ?_)
          have h9 : v9 = .int (nI hq0_0) := h9
          subst h9
          have e_hq0_0 : (nI hq0_0).toInt = hq0_0 := nI_toInt (by have := t_q0_0.2.1; omega)
          have b_hq0_0 := t_q0_0.2.1
          have J100 : ∀  (H : Heap) (locs : List Loc) (ls : Array Slot), HT D cs A T (a0 :: O) ((a0, .inr (5, [.ref q0_0, .int q0_1, .int q0_2, .int q0_3, .ref q0_4, .ref q0_5])) :: X) H → va_S A s.heap H locs → lv_has ls 5 [(3, .int v26), (0, .ref a0), (1, .int x1), (2, .int x2)] → W p l e { frames := 3, cells := 0, slots := 0, locals := 77 } s m [.ref a0, .int x1, .int x2].toArray below meth c H locs 0 0 (MQ below (Ti D cs (fun r u => u = (T, O, X) ∧ 0 ≤ r.toInt ∧ r.toInt ≤ 16383) A) [.ref a0, .int x1, .int x2].toArray s 0 0 A) (F0 m 100 ls []) := by
            intro  H locs ls  hH hS hl
            refine lv_aload_n hx hb dX5_stepped_100 rfl (lv_at hl 1 rfl) ?_
            refine x_get (ci := 5) (C := RX5) (F := TX5) (N := 6) (v := .ref q0_4) hx hb hts uX5 hown hkb hH rfl 4 (by decide) rfl kw_251 (fun _ h9 => h9) dX5_stepped_101 ?_
            refine lv_iload_n hx hb dX5_stepped_104 rfl (lv_at hl 2 rfl) ?_
            refine lv_dup2_11 hx hb dX5_stepped_105 rfl rfl ?_
            refine t_ild hx hb hkb hH t_q0_4 (hO.no t_q0_4 (by decide)) (by omega) (by omega) dX5_stepped_106 (fun v106 h9 => ?_)
            refine lv_iload_n hx hb dX5_stepped_107 rfl (lv_at hl 0 rfl) ?_
            refine lv_ior hx hb dX5_stepped_108 ?_
            refine lv_topi (fun v108 ev108 => ?_)
            refine t_ist hx hb hkb hH hS t_q0_4 (hO.no t_q0_4 (by decide)) (by omega) (by omega) (cp_0 _) dX5_stepped_109 (fun H locs hH hS => ?_)
            refine lv_aload_n hx hb dX5_stepped_110 rfl (lv_at hl 1 rfl) ?_
            refine x_get (ci := 5) (C := RX5) (F := TX5) (N := 6) (v := .ref q0_5) hx hb hts uX5 hown hkb hH rfl 5 (by decide) rfl kw_252 (fun _ h9 => h9) dX5_stepped_111 ?_
            refine lv_iload_n hx hb dX5_stepped_114 rfl (lv_at hl 2 rfl) ?_
            refine t_ild hx hb hkb hH t_q0_5 (hO.no t_q0_5 (by decide)) (by omega) (by omega) dX5_stepped_115 (fun v115 h9 => ?_)
            have tv115 : 0 ≤ v115.toInt ∧ v115.toInt ≤ 16383 := h9
            refine lv_iload_n hx hb dX5_stepped_116 rfl (lv_at hl 3 rfl) ?_
            refine lv_iand hx hb dX5_stepped_117 ?_
            refine lv_topi (fun v117 ev117 => ?_)
            have tv117 : 0 ≤ v117.toInt ∧ v117.toInt ≤ v115.toInt := by rw [ev117]; exact and_l (by omega)
            have hH : HT D cs A T O X H := HT.lay (ci := 5) hH t_a0 (okL_c (⟨_, _, _, rfl, t_q0_0⟩) (okL_c (⟨_, rfl⟩) (okL_c (⟨_, rfl⟩) (okL_c (⟨_, rfl⟩) (okL_c (⟨_, rfl, t_q0_4⟩) (okL_c (⟨_, rfl, t_q0_5⟩) (okL_n)))))))
            have hO := hO0
            exact te_i hx hb hr hlocks hH hS (⟨rfl, by omega, by omega⟩) dX5_stepped_118
          refine lv_icmp_ge (tgt := 100) hx hb dX5_stepped_40 (by decide) (fun c40 => ?_) (fun c40 => ?_)
          · skip
            have fuc40 := full_i p31_4
            have fvc40 := full_i (nI hq0_0)
            have tc40 := g_le c40
            exact J100  _ _ _  hH hS (lv_sub hl [1, 2, 3, 4] rfl)
          · skip
            have fuc40 := full_i p31_4
            have fvc40 := full_i (nI hq0_0)
            have tc40 := g_nle c40
            refine lv_iload_n hx hb dX5_stepped_43 rfl (lv_at hl 1 rfl) ?_
            refine lv_if_eq (tgt := 100) hx hb dX5_stepped_44 (by decide) (fun c44 => ?_) (fun c44 => ?_)
            · skip
              have tc44 := f_eq (k := 0) (by decide) c44
              exact J100  _ _ _  hH hS (lv_sub hl [1, 2, 3, 4] rfl)
            · skip
              have tc44 := f_ne (k := 0) (by decide) c44
              refine lv_iload_n hx hb dX5_stepped_47 rfl (lv_at hl 1 rfl) ?_
              refine lv_iload hx hb dX5_stepped_48 (lv_at hl 0 rfl) ?_
              refine lv_ishr hx hb dX5_stepped_50 ?_
              refine lv_topi (fun v50 ev50 => ?_)
              refine lv_iconst (v := 1) hx hb dX5_stepped_51 (by decide) ?_
              refine lv_iand hx hb dX5_stepped_52 ?_
              refine lv_topi (fun v52 ev52 => ?_)
              have tv52 : 0 ≤ v52.toInt ∧ v52.toInt ≤ 1 := by rw [ev52]; exact and_r (by decide)
              have J94 : ∀  (H : Heap) (locs : List Loc) (ls : Array Slot), HT D cs A T (a0 :: O) ((a0, .inr (5, [.ref q0_0, .int q0_1, .int q0_2, .int q0_3, .ref q0_4, .ref q0_5])) :: X) H → va_S A s.heap H locs → lv_has ls 5 [(4, .int p31_4), (3, .int v26), (0, .ref a0), (1, .int x1), (2, .int x2)] → W p l e { frames := 3, cells := 0, slots := 0, locals := 77 } s m [.ref a0, .int x1, .int x2].toArray below meth c H locs 0 0 (MQ below (Ti D cs (fun r u => u = (T, O, X) ∧ 0 ≤ r.toInt ∧ r.toInt ≤ 16383) A) [.ref a0, .int x1, .int x2].toArray s 0 0 A) (F0 m 94 ls []) := by
                intro  H locs ls  hH hS hl
                obtain ⟨v94, ev94⟩ : ∃ y : Int32, y = p31_4 + 1 := ⟨_, rfl⟩
                have tv94 : v94.toInt = p31_4.toInt + (1) := by rw [ev94]; exact add_i rfl (by decide) (by omega) (by omega)
                refine lv_iinc (v := v94) (lv' := [(4, .int v94), (3, .int v26), (0, .ref a0), (1, .int x1), (2, .int x2)]) hx hb dX5_stepped_94 hl (k := 0) rfl (by rw [ev94]; rfl) (by decide) rfl (fun ls hl => ?_)
                refine lv_goto (tgt := 31) hx hb dX5_stepped_97 (by decide) ?_
                exact ih31 _ (by omega) v94 _ _ _ rfl (by omega) (by omega) hH hS (lv_sub hl [0, 1, 2, 3, 4] rfl)
              refine lv_if_eq (tgt := 94) hx hb dX5_stepped_53 (by decide) (fun c53 => ?_) (fun c53 => ?_)
              · skip
                have tc53 := f_eq (k := 0) (by decide) c53
                exact J94  _ _ _  hH hS (lv_sub hl [0, 1, 2, 3, 4] rfl)
              · skip
                have tc53 := f_ne (k := 0) (by decide) c53
                refine lv_aload_n hx hb dX5_stepped_56 rfl (lv_at hl 2 rfl) ?_
                refine x_get (ci := 5) (C := RX5) (F := TX5) (N := 6) (v := .ref q0_0) hx hb hts uX5 hown hkb hH rfl 0 (by decide) rfl kw_244 (fun _ h9 => h9) dX5_stepped_57 ?_
                refine lv_iload_n hx hb dX5_stepped_60 rfl (lv_at hl 3 rfl) ?_
                refine lv_iload hx hb dX5_stepped_61 (lv_at hl 0 rfl) ?_
                refine lv_aload_n hx hb dX5_stepped_63 rfl (lv_at hl 2 rfl) ?_
                refine x_get (ci := 5) (C := RX5) (F := TX5) (N := 6) (v := .int q0_1) hx hb hts uX5 hown hkb hH rfl 1 (by decide) rfl kw_248 (fun _ h9 => h9) dX5_stepped_64 ?_
                refine lv_aload_n hx hb dX5_stepped_67 rfl (lv_at hl 2 rfl) ?_
                refine x_get (ci := 5) (C := RX5) (F := TX5) (N := 6) (v := .int q0_2) hx hb hts uX5 hown hkb hH rfl 2 (by decide) rfl kw_249 (fun _ h9 => h9) dX5_stepped_68 ?_
                refine lv_aload_n hx hb dX5_stepped_71 rfl (lv_at hl 2 rfl) ?_
                refine x_get (ci := 5) (C := RX5) (F := TX5) (N := 6) (v := .int q0_3) hx hb hts uX5 hown hkb hH rfl 3 (by decide) rfl kw_250 (fun _ h9 => h9) dX5_stepped_72 ?_
                refine tk_i hH hS hA (tr_V (n := 5) (As := [.int x1, .int p31_4, .int q0_1, .int q0_2, .int q0_3]) hx hb hml hown hts hkb hH (ox_c hOX) hks hE hS hA (s_Wall_mayStep l D cs kf T (a0 :: O) ((a0, .inr (5, [.ref q0_0, .int q0_1, .int q0_2, .int q0_3, .ref q0_4, .ref q0_5])) :: X) q0_0 hq0_0 gq0_0 x1 p31_4 q0_1 q0_2 q0_3 t_q0_0 (by omega) (by omega) (by omega) (by omega) (hO.sub (by decide))) kw_866 kw_808 kw_809 kw_5 kw_810 (by decide +kernel) ⟨Nat.le_of_ble_eq_true rfl, Nat.le_of_ble_eq_true rfl⟩ (HT.recv (ci := 9) hkb hH t_q0_0.1 (hO.no t_q0_0.1 (by decide)) rfl) rfl rfl hl.1 (Nat.le_of_ble_eq_true rfl) dX5_stepped_75 ⟨Nat.le_of_ble_eq_true rfl, Nat.le_of_ble_eq_true rfl⟩) (fun v75 u H locs hz9 hH hS => ?_)
                obtain ⟨rfl, l_v75, u_v75⟩ := hz9
                have hH : HT D cs A T (a0 :: O) ((a0, .inr (5, [.ref q0_0, .int q0_1, .int q0_2, .int q0_3, .ref q0_4, .ref q0_5])) :: X) H := hH
                refine W.widen (k := 0) (n := 0) (Nat.le_of_ble_eq_true rfl) (Nat.le_of_ble_eq_true rfl) ?_
                refine lv_if_eq (tgt := 94) hx hb dX5_stepped_78 (by decide) (fun c78 => ?_) (fun c78 => ?_)
                · skip
                  have tc78 := f_eq (k := 0) (by decide) c78
                  exact J94  _ _ _  hH hS (lv_sub hl [0, 1, 2, 3, 4] rfl)
                · skip
                  have tc78 := f_ne (k := 0) (by decide) c78
                  refine lv_aload_n hx hb dX5_stepped_81 rfl (lv_at hl 2 rfl) ?_
                  refine x_get (ci := 5) (C := RX5) (F := TX5) (N := 6) (v := .ref q0_5) hx hb hts uX5 hown hkb hH rfl 5 (by decide) rfl kw_252 (fun _ h9 => h9) dX5_stepped_82 ?_
                  refine lv_iload_n hx hb dX5_stepped_85 rfl (lv_at hl 3 rfl) ?_
                  refine lv_dup2_11 hx hb dX5_stepped_86 rfl rfl ?_
                  refine t_ild hx hb hkb hH t_q0_5 (hO.no t_q0_5 (by decide)) (by omega) (by omega) dX5_stepped_87 (fun v87 h9 => ?_)
                  have tv87 : 0 ≤ v87.toInt ∧ v87.toInt ≤ 16383 := h9
                  refine lv_iconst (v := 1) hx hb dX5_stepped_88 (by decide) ?_
                  refine lv_iload hx hb dX5_stepped_89 (lv_at hl 0 rfl) ?_
                  refine lv_ishl hx hb dX5_stepped_91 ?_
                  refine lv_topi (fun v91 ev91 => ?_)
                  have tv91 : 1 ≤ v91.toInt ∧ v91.toInt ≤ 8192 := by rw [ev91]; exact shl_b 13 (by decide) (by omega) (by omega)
                  refine lv_ior hx hb dX5_stepped_92 ?_
                  refine lv_topi (fun v92 ev92 => ?_)
                  have tv92 : 0 ≤ v92.toInt ∧ v92.toInt < 16384 := by rw [ev92]; exact or_b 14 (by decide) (by omega) (by omega) (by omega) (by omega)
                  refine t_ist hx hb hkb hH hS t_q0_5 (hO.no t_q0_5 (by decide)) (by omega) (by omega) (show 0 ≤ v92.toInt ∧ v92.toInt ≤ 16383 from by omega) dX5_stepped_93 (fun H locs hH hS => ?_)
                  exact J94  _ _ _  hH hS (lv_sub hl [0, 1, 2, 3, 4] rfl)
      refine lv_istore (lv' := [(4, .int 0), (3, .int v26), (0, .ref a0), (1, .int x1), (2, .int x2)]) hx hb dX5_stepped_29 hl (by decide) rfl (fun ls hl => ?_)
      exact J31 _ 0 _ _ _ rfl (by decide) (by decide) hH hS (lv_sub hl [0, 1, 2, 3, 4] rfl)
    · skip
      have fuc12 := full_i x1
      have fvc12 := full_i (nI hq0_0)
      have tc12 := g_nlt c12
      exact J15  _ _ _  hH hS (lv_sub hl [] rfl)
set_option maxHeartbeats 4000000 in
set_option maxRecDepth 100000 in
theorem s_Rows_spread (l : Launch) (D : va_G) (cs : CS) (kf : KF) (T : TF) (O : List Nat) (X : va_W) (a0 : Nat) (x1 : Int32) (x2 : Int32) (x3 : Int32) (x4 : Int32) (t_a0 : T a0 = some (15, 0, 0)) (l_x1 : 0 ≤ x1.toInt) (u_x1 : x1.toInt ≤ 16383) (hO : okO T O [1, 12, 15, 19]) : TK l D cs kf yX5_spread cX5_spread 9 (some (.int)) { frames := 4, cells := 0, slots := 0, locals := 101 } [.ref a0, .int x1, .int x2, .int x3, .int x4] T O X (Ti D cs (fun r u => u = (T, O, X) ∧ 0 ≤ r.toInt ∧ r.toInt ≤ 16383)) := by
  refine tk_of (by decide) (Nat.le_of_ble_eq_true rfl) (fun p e s m below meth c ls A H locs hx hb hr hml hown hts hlocks hnm hkb hH hS hA hOX hks hE hl => ?_)
  have hown : s.vm.findClass RX5 = some m.cls := hown
  have hl : lv_has ls 9 [(0, .ref a0), (1, .int x1), (2, .int x2), (3, .int x3), (4, .int x4)] := hl
  refine lv_iload_n hx hb dX5_spread_0 rfl (lv_at hl 1 rfl) ?_
  refine lv_istore (lv' := [(5, .int x1), (0, .ref a0), (1, .int x1), (2, .int x2), (3, .int x3), (4, .int x4)]) hx hb dX5_spread_1 hl (by decide) rfl (fun ls hl => ?_)
  refine lv_iload_n hx hb dX5_spread_3 rfl (lv_at hl 2 rfl) ?_
  refine lv_iload_n hx hb dX5_spread_4 rfl (lv_at hl 3 rfl) ?_
  refine lv_iand hx hb dX5_spread_5 ?_
  refine lv_topi (fun v5 ev5 => ?_)
  have tv5 : 0 ≤ v5.toInt ∧ v5.toInt ≤ x1.toInt := by rw [ev5]; exact and_l (by omega)
  refine lv_istore (lv' := [(6, .int v5), (5, .int x1), (0, .ref a0), (1, .int x1), (2, .int x2), (3, .int x3), (4, .int x4)]) hx hb dX5_spread_6 hl (by decide) rfl (fun ls hl => ?_)
  refine lv_iconst (v := 0) hx hb dX5_spread_8 (by decide) ?_
  have J11 : ∀ (n : Nat) (p11_7 : Int32) (p11_6 : Int32) (p11_5 : Int32) (H : Heap) (locs : List Loc) (ls : Array Slot), (14 - p11_7.toInt).toNat = n → (0 ≤ p11_7.toInt) → (p11_7.toInt ≤ 14) → (0 ≤ p11_6.toInt) → (p11_6.toInt ≤ 16383) → (0 ≤ p11_5.toInt) → (p11_5.toInt ≤ 16383) → HT D cs A T O X H → va_S A s.heap H locs → lv_has ls 9 [(7, .int p11_7), (6, .int p11_6), (5, .int p11_5), (0, .ref a0), (2, .int x2), (3, .int x3), (4, .int x4)] → W p l e { frames := 4, cells := 0, slots := 0, locals := 101 } s m [.ref a0, .int x1, .int x2, .int x3, .int x4].toArray below meth c H locs 0 0 (MQ below (Ti D cs (fun r u => u = (T, O, X) ∧ 0 ≤ r.toInt ∧ r.toInt ≤ 16383) A) [.ref a0, .int x1, .int x2, .int x3, .int x4].toArray s 0 0 A) (F0 m 11 ls []) := by
    intro n
    induction n using Nat.strongRecOn with
    | _ n ih11 =>
      intro p11_7 p11_6 p11_5 H locs ls hm11 l_p11_7 u_p11_7 l_p11_6 u_p11_6 l_p11_5 u_p11_5 hH hS hl
      refine lv_iload hx hb dX5_spread_11 (lv_at hl 0 rfl) ?_
      refine lv_bipush (v := 14) hx hb dX5_spread_13 (by decide) ?_
      have J75 : ∀  (H : Heap) (locs : List Loc) (ls : Array Slot), HT D cs A T O X H → va_S A s.heap H locs → lv_has ls 9 [(5, .int p11_5)] → W p l e { frames := 4, cells := 0, slots := 0, locals := 101 } s m [.ref a0, .int x1, .int x2, .int x3, .int x4].toArray below meth c H locs 0 0 (MQ below (Ti D cs (fun r u => u = (T, O, X) ∧ 0 ≤ r.toInt ∧ r.toInt ≤ 16383) A) [.ref a0, .int x1, .int x2, .int x3, .int x4].toArray s 0 0 A) (F0 m 75 ls []) := by
        intro  H locs ls  hH hS hl
        refine lv_iload hx hb dX5_spread_75 (lv_at hl 0 rfl) ?_
        exact te_i hx hb hr hlocks hH hS (⟨rfl, by omega, by omega⟩) dX5_spread_77
      refine lv_icmp_ge (tgt := 75) hx hb dX5_spread_15 (by decide) (fun c15 => ?_) (fun c15 => ?_)
      · skip
        have tc15 := f_ge (k := 14) (by decide) c15
        exact J75  _ _ _  hH hS (lv_sub hl [2] rfl)
      · skip
        have tc15 := f_nge (k := 14) (by decide) c15
        refine lv_iload hx hb dX5_spread_18 (lv_at hl 1 rfl) ?_
        refine lv_if_eq (tgt := 75) hx hb dX5_spread_20 (by decide) (fun c20 => ?_) (fun c20 => ?_)
        · skip
          have tc20 := f_eq (k := 0) (by decide) c20
          exact J75  _ _ _  hH hS (lv_sub hl [2] rfl)
        · skip
          have tc20 := f_ne (k := 0) (by decide) c20
          refine lv_iload hx hb dX5_spread_23 (lv_at hl 2 rfl) ?_
          refine lv_iload hx hb dX5_spread_25 (lv_at hl 6 rfl) ?_
          refine lv_iand hx hb dX5_spread_27 ?_
          refine lv_topi (fun v27 ev27 => ?_)
          have tv27 : 0 ≤ v27.toInt ∧ v27.toInt ≤ p11_5.toInt := by rw [ev27]; exact and_l (by omega)
          refine lv_if_ne (tgt := 75) hx hb dX5_spread_28 (by decide) (fun c28 => ?_) (fun c28 => ?_)
          · skip
            have tc28 := f_ne (k := 0) (by decide) c28
            exact J75  _ _ _  hH hS (lv_sub hl [2] rfl)
          · skip
            have tc28 := f_eq (k := 0) (by decide) c28
            refine lv_aload_n hx hb dX5_spread_31 rfl (lv_at hl 3 rfl) ?_
            refine lv_iload hx hb dX5_spread_32 (lv_at hl 1 rfl) ?_
            refine tk_i hH hS hA (tr_S (n := 1) (As := [.int p11_6]) hx hb hml hown hts hkb hH hOX hks hE hS hA (s_ntz l D cs kf T O X p11_6  (hO.sub (by decide))) kw_858 kw_859 kw_20 kw_860 (by decide +kernel) ⟨Nat.le_of_ble_eq_true rfl, Nat.le_of_ble_eq_true rfl⟩ rfl rfl hl.1 (Nat.le_of_ble_eq_true rfl) dX5_spread_34 ⟨Nat.le_of_ble_eq_true rfl, Nat.le_of_ble_eq_true rfl⟩) (fun v34 u H locs hz9 hH hS => ?_)
            have hz9 : u = (T, O, X) := hz9
            subst hz9
            have hH : HT D cs A T O X H := hH
            refine W.widen (k := 0) (n := 0) (Nat.le_of_ble_eq_true rfl) (Nat.le_of_ble_eq_true rfl) ?_
            refine lv_iload_n hx hb dX5_spread_37 rfl (lv_at hl 5 rfl) ?_
            refine lv_iload hx hb dX5_spread_38 (lv_at hl 2 rfl) ?_
            refine lv_iconst (v := (-1)) hx hb dX5_spread_40 (by decide) ?_
            refine lv_ixor hx hb dX5_spread_41 ?_
            refine lv_topi (fun v41 ev41 => ?_)
            refine lv_iand hx hb dX5_spread_42 ?_
            refine lv_topi (fun v42 ev42 => ?_)
            refine tk_i hH hS hA (tr_V (n := 2) (As := [.int v34, .int v42]) hx hb hml hown hts hkb hH hOX hks hE hS hA (s_Rows_stepped l D cs kf T O X a0 v34 v42 t_a0 (hO.sub (by decide))) kw_862 kw_863 kw_864 kw_8 kw_865 (by decide +kernel) ⟨Nat.le_of_ble_eq_true rfl, Nat.le_of_ble_eq_true rfl⟩ (HT.recv (ci := 5) hkb hH t_a0 (hO.no t_a0 (by decide)) rfl) rfl rfl hl.1 (Nat.le_of_ble_eq_true rfl) dX5_spread_43 ⟨Nat.le_of_ble_eq_true rfl, Nat.le_of_ble_eq_true rfl⟩) (fun v43 u H locs hz9 hH hS => ?_)
            obtain ⟨rfl, l_v43, u_v43⟩ := hz9
            have hH : HT D cs A T O X H := hH
            refine W.widen (k := 0) (n := 0) (Nat.le_of_ble_eq_true rfl) (Nat.le_of_ble_eq_true rfl) ?_
            refine lv_istore (lv' := [(8, .int v43), (7, .int p11_7), (6, .int p11_6), (5, .int p11_5), (0, .ref a0), (2, .int x2), (3, .int x3), (4, .int x4)]) hx hb dX5_spread_46 hl (by decide) rfl (fun ls hl => ?_)
            refine lv_iload hx hb dX5_spread_48 (lv_at hl 3 rfl) ?_
            refine lv_iload hx hb dX5_spread_50 (lv_at hl 0 rfl) ?_
            refine lv_ior hx hb dX5_spread_52 ?_
            refine lv_topi (fun v52 ev52 => ?_)
            have tv52 : 0 ≤ v52.toInt ∧ v52.toInt < 16384 := by rw [ev52]; exact or_b 14 (by decide) (by omega) (by omega) (by omega) (by omega)
            refine lv_istore (lv' := [(5, .int v52), (8, .int v43), (7, .int p11_7), (6, .int p11_6), (0, .ref a0), (2, .int x2), (3, .int x3), (4, .int x4)]) hx hb dX5_spread_53 hl (by decide) rfl (fun ls hl => ?_)
            refine lv_iload hx hb dX5_spread_55 (lv_at hl 3 rfl) ?_
            refine lv_iload hx hb dX5_spread_57 (lv_at hl 3 rfl) ?_
            refine lv_iconst (v := 1) hx hb dX5_spread_59 (by decide) ?_
            refine lv_isub hx hb dX5_spread_60 ?_
            refine lv_topi (fun v60 ev60 => ?_)
            have tv60 : v60.toInt = p11_6.toInt - (1) := by rw [ev60]; exact sub_i rfl (by decide : (1 : Int32).toInt = 1) (by omega) (by omega)
            refine lv_iand hx hb dX5_spread_61 ?_
            refine lv_topi (fun v61 ev61 => ?_)
            have tv61 : 0 ≤ v61.toInt ∧ v61.toInt ≤ p11_6.toInt := by rw [ev61]; exact and_l (by omega)
            have ttv61 : 0 ≤ v61.toInt ∧ v61.toInt ≤ v60.toInt := by rw [ev61]; exact and_r (by omega)
            refine lv_iload hx hb dX5_spread_62 (lv_at hl 1 rfl) ?_
            refine lv_iload_n hx hb dX5_spread_64 rfl (lv_at hl 5 rfl) ?_
            refine lv_iand hx hb dX5_spread_65 ?_
            refine lv_topi (fun v65 ev65 => ?_)
            have tv65 : 0 ≤ v65.toInt ∧ v65.toInt ≤ v43.toInt := by rw [ev65]; exact and_l (by omega)
            refine lv_ior hx hb dX5_spread_66 ?_
            refine lv_topi (fun v66 ev66 => ?_)
            have tv66 : 0 ≤ v66.toInt ∧ v66.toInt < 16384 := by rw [ev66]; exact or_b 14 (by decide) (by omega) (by omega) (by omega) (by omega)
            refine lv_istore (lv' := [(6, .int v66), (5, .int v52), (8, .int v43), (7, .int p11_7), (0, .ref a0), (2, .int x2), (3, .int x3), (4, .int x4)]) hx hb dX5_spread_67 hl (by decide) rfl (fun ls hl => ?_)
            obtain ⟨v69, ev69⟩ : ∃ y : Int32, y = p11_7 + 1 := ⟨_, rfl⟩
            have tv69 : v69.toInt = p11_7.toInt + (1) := by rw [ev69]; exact add_i rfl (by decide) (by omega) (by omega)
            refine lv_iinc (v := v69) (lv' := [(7, .int v69), (6, .int v66), (5, .int v52), (8, .int v43), (0, .ref a0), (2, .int x2), (3, .int x3), (4, .int x4)]) hx hb dX5_spread_69 hl (k := 3) rfl (by rw [ev69]; rfl) (by decide) rfl (fun ls hl => ?_)
            refine lv_goto (tgt := 11) hx hb dX5_spread_72 (by decide) ?_
            exact ih11 _ (by omega) v69 v66 v52 _ _ _ rfl (by omega) (by omega) (by omega) (by omega) (by omega) (by omega) hH hS (lv_sub hl [0, 1, 2, 4, 5, 6, 7] rfl)
  refine lv_istore (lv' := [(7, .int 0), (6, .int v5), (5, .int x1), (0, .ref a0), (1, .int x1), (2, .int x2), (3, .int x3), (4, .int x4)]) hx hb dX5_spread_9 hl (by decide) rfl (fun ls hl => ?_)
  exact J11 _ 0 v5 x1 _ _ _ rfl (by decide) (by decide) (by omega) (by omega) (by omega) (by omega) hH hS (lv_sub hl [0, 1, 2, 3, 5, 6, 7] rfl)
set_option maxHeartbeats 4000000 in
set_option maxRecDepth 100000 in
theorem s_Rows_reached (l : Launch) (D : va_G) (cs : CS) (kf : KF) (T : TF) (O : List Nat) (X : va_W) (a0 : Nat) (x1 : Int32) (t_a0 : T a0 = some (15, 0, 0)) (hO : okO T O [1, 12, 15, 19]) : TK l D cs kf yX5_reached cX5_reached 2 (some (.int)) { frames := 5, cells := 0, slots := 0, locals := 129 } [.ref a0, .int x1] T O X (Ti D cs (fun r u => u = (T, O, X) ∧ 0 ≤ r.toInt ∧ r.toInt ≤ 16383)) := by
  refine tk_of (by decide) (Nat.le_of_ble_eq_true rfl) (fun p e s m below meth c ls A H locs hx hb hr hml hown hts hlocks hnm hkb hH hS hA hOX hks hE hl => ?_)
  have hown : s.vm.findClass RX5 = some m.cls := hown
  have hl : lv_has ls 2 [(0, .ref a0), (1, .int x1)] := hl
  refine lv_aload_n hx hb dX5_reached_0 rfl (lv_at hl 0 rfl) ?_
  refine lv_aload_n hx hb dX5_reached_1 rfl (lv_at hl 0 rfl) ?_
  refine t_get (ci := 5) (lst := ft5 0 0) (C := RX5) (F := TX5) (N := 6) hx hb hts uX5 hown hkb hH t_a0 (hO.no t_a0 (by decide)) (fun _ h9 => h9) rfl rfl 0 (by decide) rfl kw_244 (fun _ h9 => h9) dX5_reached_2 (fun v9 h9 => ?_)
  obtain ⟨v2, hv2, gv2, rfl, t_v2⟩ := h9
  refine t_get (ci := 9) (lst := ft9w hv2 gv2) (C := RX9) (F := TX9) (N := 14) hx hb hts uX9 hown hkb hH t_v2.1 (hO.no t_v2.1 (by decide)) (fun fs => (ob9w t_v2 fs).mp) rfl rfl 3 (by decide) rfl kw_120 (fun _ h9 => h9) dX5_reached_5 (fun v9 h9 => ?_)
  obtain ⟨v5, rfl, l_v5, u_v5⟩ := h9
  refine lv_iload_n hx hb dX5_reached_8 rfl (lv_at hl 1 rfl) ?_
  refine lv_iand hx hb dX5_reached_9 ?_
  refine lv_topi (fun v9 ev9 => ?_)
  have tv9 : 0 ≤ v9.toInt ∧ v9.toInt ≤ v5.toInt := by rw [ev9]; exact and_l (by omega)
  refine lv_iload_n hx hb dX5_reached_10 rfl (lv_at hl 1 rfl) ?_
  refine lv_aload_n hx hb dX5_reached_11 rfl (lv_at hl 0 rfl) ?_
  refine t_get (ci := 5) (lst := ft5 0 0) (C := RX5) (F := TX5) (N := 6) hx hb hts uX5 hown hkb hH t_a0 (hO.no t_a0 (by decide)) (fun _ h9 => h9) rfl rfl 0 (by decide) rfl kw_244 (fun _ h9 => h9) dX5_reached_12 (fun v9 h9 => ?_)
  obtain ⟨v12, hv12, gv12, rfl, t_v12⟩ := h9
  refine t_get (ci := 9) (lst := ft9w hv12 gv12) (C := RX9) (F := TX9) (N := 14) hx hb hts uX9 hown hkb hH t_v12.1 (hO.no t_v12.1 (by decide)) (fun fs => (ob9w t_v12 fs).mp) rfl rfl 4 (by decide) rfl kw_127 (fun _ h9 => h9) dX5_reached_15 (fun v9 h9 => ?_)
  obtain ⟨v15, rfl, l_v15, u_v15⟩ := h9
  refine lv_iconst (v := (-1)) hx hb dX5_reached_18 (by decide) ?_
  refine lv_ixor hx hb dX5_reached_19 ?_
  refine lv_topi (fun v19 ev19 => ?_)
  refine lv_iand hx hb dX5_reached_20 ?_
  refine lv_topi (fun v20 ev20 => ?_)
  refine lv_iload_n hx hb dX5_reached_21 rfl (lv_at hl 1 rfl) ?_
  refine lv_iconst (v := 0) hx hb dX5_reached_22 (by decide) ?_
  refine tk_i hH hS hA (tr_V (n := 4) (As := [.int v9, .int v20, .int x1, .int 0]) hx hb hml hown hts hkb hH hOX hks hE hS hA (s_Rows_spread l D cs kf T O X a0 v9 v20 x1 (0) t_a0 (by omega) (by omega) (hO.sub (by decide))) kw_854 kw_855 kw_856 kw_8 kw_857 (by decide +kernel) ⟨Nat.le_of_ble_eq_true rfl, Nat.le_of_ble_eq_true rfl⟩ (HT.recv (ci := 5) hkb hH t_a0 (hO.no t_a0 (by decide)) rfl) rfl rfl hl.1 (Nat.le_of_ble_eq_true rfl) dX5_reached_23 ⟨Nat.le_of_ble_eq_true rfl, Nat.le_of_ble_eq_true rfl⟩) (fun v23 u H locs hz9 hH hS => ?_)
  obtain ⟨rfl, l_v23, u_v23⟩ := hz9
  have hH : HT D cs A T O X H := hH
  refine W.widen (k := 0) (n := 0) (Nat.le_of_ble_eq_true rfl) (Nat.le_of_ble_eq_true rfl) ?_
  exact te_i hx hb hr hlocks hH hS (⟨rfl, by omega, by omega⟩) dX5_reached_26
set_option maxHeartbeats 4000000 in
set_option maxRecDepth 100000 in
theorem s_Rows_getsUp (l : Launch) (D : va_G) (cs : CS) (kf : KF) (T : TF) (O : List Nat) (X : va_W) (a0 : Nat) (x1 : Int32) (t_a0 : T a0 = some (15, 0, 0)) (hO : okO T O [1, 12, 15, 19]) : TK l D cs kf yX5_getsUp cX5_getsUp 2 (some (.boolean)) { frames := 5, cells := 0, slots := 0, locals := 129 } [.ref a0, .int x1] T O X (Ti D cs (fun r u => u = (T, O, X) ∧ 0 ≤ r.toInt ∧ r.toInt ≤ 1)) := by
  refine tk_of (by decide) (Nat.le_of_ble_eq_true rfl) (fun p e s m below meth c ls A H locs hx hb hr hml hown hts hlocks hnm hkb hH hS hA hOX hks hE hl => ?_)
  have hown : s.vm.findClass RX5 = some m.cls := hown
  have hl : lv_has ls 2 [(0, .ref a0), (1, .int x1)] := hl
  refine lv_aload_n hx hb dX5_getsUp_0 rfl (lv_at hl 0 rfl) ?_
  refine lv_aload_n hx hb dX5_getsUp_1 rfl (lv_at hl 0 rfl) ?_
  refine t_get (ci := 5) (lst := ft5 0 0) (C := RX5) (F := TX5) (N := 6) hx hb hts uX5 hown hkb hH t_a0 (hO.no t_a0 (by decide)) (fun _ h9 => h9) rfl rfl 0 (by decide) rfl kw_244 (fun _ h9 => h9) dX5_getsUp_2 (fun v9 h9 => ?_)
  obtain ⟨v2, hv2, gv2, rfl, t_v2⟩ := h9
  refine t_get (ci := 9) (lst := ft9w hv2 gv2) (C := RX9) (F := TX9) (N := 14) hx hb hts uX9 hown hkb hH t_v2.1 (hO.no t_v2.1 (by decide)) (fun fs => (ob9w t_v2 fs).mp) rfl rfl 3 (by decide) rfl kw_120 (fun _ h9 => h9) dX5_getsUp_5 (fun v9 h9 => ?_)
  obtain ⟨v5, rfl, l_v5, u_v5⟩ := h9
  refine lv_iload_n hx hb dX5_getsUp_8 rfl (lv_at hl 1 rfl) ?_
  refine lv_iand hx hb dX5_getsUp_9 ?_
  refine lv_topi (fun v9 ev9 => ?_)
  have tv9 : 0 ≤ v9.toInt ∧ v9.toInt ≤ v5.toInt := by rw [ev9]; exact and_l (by omega)
  refine lv_iload_n hx hb dX5_getsUp_10 rfl (lv_at hl 1 rfl) ?_
  refine lv_aload_n hx hb dX5_getsUp_11 rfl (lv_at hl 0 rfl) ?_
  refine t_get (ci := 5) (lst := ft5 0 0) (C := RX5) (F := TX5) (N := 6) hx hb hts uX5 hown hkb hH t_a0 (hO.no t_a0 (by decide)) (fun _ h9 => h9) rfl rfl 0 (by decide) rfl kw_244 (fun _ h9 => h9) dX5_getsUp_12 (fun v9 h9 => ?_)
  obtain ⟨v12, hv12, gv12, rfl, t_v12⟩ := h9
  refine t_get (ci := 9) (lst := ft9w hv12 gv12) (C := RX9) (F := TX9) (N := 14) hx hb hts uX9 hown hkb hH t_v12.1 (hO.no t_v12.1 (by decide)) (fun fs => (ob9w t_v12 fs).mp) rfl rfl 4 (by decide) rfl kw_127 (fun _ h9 => h9) dX5_getsUp_15 (fun v9 h9 => ?_)
  obtain ⟨v15, rfl, l_v15, u_v15⟩ := h9
  refine lv_iconst (v := (-1)) hx hb dX5_getsUp_18 (by decide) ?_
  refine lv_ixor hx hb dX5_getsUp_19 ?_
  refine lv_topi (fun v19 ev19 => ?_)
  refine lv_iand hx hb dX5_getsUp_20 ?_
  refine lv_topi (fun v20 ev20 => ?_)
  refine lv_iload_n hx hb dX5_getsUp_21 rfl (lv_at hl 1 rfl) ?_
  refine lv_aload_n hx hb dX5_getsUp_22 rfl (lv_at hl 0 rfl) ?_
  refine t_get (ci := 5) (lst := ft5 0 0) (C := RX5) (F := TX5) (N := 6) hx hb hts uX5 hown hkb hH t_a0 (hO.no t_a0 (by decide)) (fun _ h9 => h9) rfl rfl 0 (by decide) rfl kw_244 (fun _ h9 => h9) dX5_getsUp_23 (fun v9 h9 => ?_)
  obtain ⟨v23, hv23, gv23, rfl, t_v23⟩ := h9
  refine t_get (ci := 9) (lst := ft9w hv23 gv23) (C := RX9) (F := TX9) (N := 14) hx hb hts uX9 hown hkb hH t_v23.1 (hO.no t_v23.1 (by decide)) (fun fs => (ob9w t_v23 fs).mp) rfl rfl 4 (by decide) rfl kw_127 (fun _ h9 => h9) dX5_getsUp_26 (fun v9 h9 => ?_)
  obtain ⟨v26, rfl, l_v26, u_v26⟩ := h9
  refine tk_i hH hS hA (tr_V (n := 4) (As := [.int v9, .int v20, .int x1, .int v26]) hx hb hml hown hts hkb hH hOX hks hE hS hA (s_Rows_spread l D cs kf T O X a0 v9 v20 x1 v26 t_a0 (by omega) (by omega) (hO.sub (by decide))) kw_854 kw_855 kw_856 kw_8 kw_857 (by decide +kernel) ⟨Nat.le_of_ble_eq_true rfl, Nat.le_of_ble_eq_true rfl⟩ (HT.recv (ci := 5) hkb hH t_a0 (hO.no t_a0 (by decide)) rfl) rfl rfl hl.1 (Nat.le_of_ble_eq_true rfl) dX5_getsUp_29 ⟨Nat.le_of_ble_eq_true rfl, Nat.le_of_ble_eq_true rfl⟩) (fun v29 u H locs hz9 hH hS => ?_)
  obtain ⟨rfl, l_v29, u_v29⟩ := hz9
  have hH : HT D cs A T O X H := hH
  refine W.widen (k := 0) (n := 0) (Nat.le_of_ble_eq_true rfl) (Nat.le_of_ble_eq_true rfl) ?_
  refine lv_aload_n hx hb dX5_getsUp_32 rfl (lv_at hl 0 rfl) ?_
  refine t_get (ci := 5) (lst := ft5 0 0) (C := RX5) (F := TX5) (N := 6) hx hb hts uX5 hown hkb hH t_a0 (hO.no t_a0 (by decide)) (fun _ h9 => h9) rfl rfl 0 (by decide) rfl kw_244 (fun _ h9 => h9) dX5_getsUp_33 (fun v9 h9 => ?_)
  obtain ⟨v33, hv33, gv33, rfl, t_v33⟩ := h9
  refine t_get (ci := 9) (lst := ft9w hv33 gv33) (C := RX9) (F := TX9) (N := 14) hx hb hts uX9 hown hkb hH t_v33.1 (hO.no t_v33.1 (by decide)) (fun fs => (ob9w t_v33 fs).mp) rfl rfl 4 (by decide) rfl kw_127 (fun _ h9 => h9) dX5_getsUp_36 (fun v9 h9 => ?_)
  obtain ⟨v36, rfl, l_v36, u_v36⟩ := h9
  refine lv_iand hx hb dX5_getsUp_39 ?_
  refine lv_topi (fun v39 ev39 => ?_)
  have tv39 : 0 ≤ v39.toInt ∧ v39.toInt ≤ v29.toInt := by rw [ev39]; exact and_l (by omega)
  have ttv39 : 0 ≤ v39.toInt ∧ v39.toInt ≤ v36.toInt := by rw [ev39]; exact and_r (by omega)
  have J48 : ∀ (k48_0 : Int32) (H : Heap) (locs : List Loc) (ls : Array Slot), (0 ≤ k48_0.toInt) → (k48_0.toInt ≤ 1) → HT D cs A T O X H → va_S A s.heap H locs → lv_has ls 2 [] → W p l e { frames := 5, cells := 0, slots := 0, locals := 129 } s m [.ref a0, .int x1].toArray below meth c H locs 0 0 (MQ below (Ti D cs (fun r u => u = (T, O, X) ∧ 0 ≤ r.toInt ∧ r.toInt ≤ 1) A) [.ref a0, .int x1].toArray s 0 0 A) (F0 m 48 ls [.int k48_0]) := by
    intro k48_0 H locs ls l_k48_0 u_k48_0 hH hS hl
    exact te_z hx hb hr hlocks (nar01 (by omega) (by omega)) hH hS (⟨rfl, by omega, by omega⟩) dX5_getsUp_48
  refine lv_if_eq (tgt := 47) hx hb dX5_getsUp_40 (by decide) (fun c40 => ?_) (fun c40 => ?_)
  · skip
    have tc40 := f_eq (k := 0) (by decide) c40
    refine lv_iconst (v := 0) hx hb dX5_getsUp_47 (by decide) ?_
    exact J48 0 _ _ _ (by decide) (by decide) hH hS (lv_sub hl [] rfl)
  · skip
    have tc40 := f_ne (k := 0) (by decide) c40
    refine lv_iconst (v := 1) hx hb dX5_getsUp_43 (by decide) ?_
    refine lv_goto (tgt := 48) hx hb dX5_getsUp_44 (by decide) ?_
    exact J48 1 _ _ _ (by decide) (by decide) hH hS (lv_sub hl [] rfl)
