set_option maxHeartbeats 4000000 in
set_option maxRecDepth 100000 in
theorem s_Rows_aim (l : Launch) (D : va_G) (cs : CS) (kf : KF) (T : TF) (O : List Nat) (X : va_W) (a0 : Nat) (a1 ha1 ga1 : Nat) (x2 : Int32) (x3 : Int32) (x4 : Int32) (t_a0 : T a0 = some (15, 0, 0)) (t_a1 : isW T a1 ha1 ga1) (hO : okO T O [1, 15, 19]) : TK l D cs kf yX5_aim cX5_aim 7 none { frames := 1, cells := 0, slots := 0, locals := 20 } [.ref a0, .ref a1, .int x2, .int x3, .int x4] T O X (Tv D cs (fun u => u = (T, O, X))) := by
  refine tk_of (by decide) (Nat.le_of_ble_eq_true rfl) (fun p e s m below meth c ls A H locs hx hb hr hml hown hts hlocks hnm hkb hH hS hA hOX hks hE hl => ?_)
  have hown : s.vm.findClass RX5 = some m.cls := hown
  have hl : lv_has ls 7 [(0, .ref a0), (1, .ref a1), (2, .int x2), (3, .int x3), (4, .int x4)] := hl
  have b1_a1 := t_a1.2.1
  have b2_a1 := t_a1.2.2
  refine lv_aload_n hx hb dX5_aim_0 rfl (lv_at hl 1 rfl) ?_
  refine lv_aload_n hx hb dX5_aim_1 rfl (lv_at hl 0 rfl) ?_
  refine t_get (ci := 5) (lst := ft5 0 0) (C := RX5) (F := TX5) (N := 6) hx hb hts uX5 hown hkb hH t_a0 (hO.no t_a0 (by decide)) (fun _ h9 => h9) rfl rfl 0 (by decide) rfl kw_244 (fun _ h9 => h9) dX5_aim_2 (fun v9 h9 => ?_)
  obtain ⟨v2, hv2, gv2, rfl, t_v2⟩ := h9
  have J52 : ∀ (k52_0 : Int32) (H : Heap) (locs : List Loc) (ls : Array Slot), (0 ≤ k52_0.toInt) → (k52_0.toInt ≤ 1) → HT D cs A T O X H → va_S A s.heap H locs → lv_has ls 7 [(0, .ref a0), (1, .ref a1), (2, .int x2), (3, .int x3), (4, .int x4)] → W p l e { frames := 1, cells := 0, slots := 0, locals := 20 } s m [.ref a0, .ref a1, .int x2, .int x3, .int x4].toArray below meth c H locs 0 0 (MQ below (Tv D cs (fun u => u = (T, O, X)) A) [.ref a0, .ref a1, .int x2, .int x3, .int x4].toArray s 0 0 A) (F0 m 52 ls [.int k52_0]) := by
    intro k52_0 H locs ls l_k52_0 u_k52_0 hH hS hl
    refine lv_istore (lv' := [(5, .int k52_0), (0, .ref a0), (1, .ref a1), (2, .int x2), (3, .int x3), (4, .int x4)]) hx hb dX5_aim_52 hl (by decide) rfl (fun ls hl => ?_)
    refine lv_iload hx hb dX5_aim_54 (lv_at hl 0 rfl) ?_
    have J94 : ∀  (H : Heap) (locs : List Loc) (ls : Array Slot), HT D cs A T O X H → va_S A s.heap H locs → lv_has ls 7 [(0, .ref a0), (1, .ref a1), (2, .int x2), (3, .int x3), (4, .int x4)] → W p l e { frames := 1, cells := 0, slots := 0, locals := 20 } s m [.ref a0, .ref a1, .int x2, .int x3, .int x4].toArray below meth c H locs 0 0 (MQ below (Tv D cs (fun u => u = (T, O, X)) A) [.ref a0, .ref a1, .int x2, .int x3, .int x4].toArray s 0 0 A) (F0 m 94 ls []) := by
      intro  H locs ls  hH hS hl
      refine lv_aload_n hx hb dX5_aim_94 rfl (lv_at hl 0 rfl) ?_
      refine lv_aload_n hx hb dX5_aim_95 rfl (lv_at hl 1 rfl) ?_
      refine t_put (ci := 5) (lst := ft5 0 0) (v := .ref a1) (ty := tyX5 0) (C := RX5) (F := TX5) (N := 6) hx hb hts uX5 tyX5 tyX5_ok nmX5 hown hkb hH hS t_a0 (hO.no t_a0 (by decide)) (fun _ => Iff.rfl) rfl rfl 0 (by decide) rfl (⟨_, _, _, rfl, t_a1⟩) kw_244 (fun _ h9 => h9) rfl (tyX5_ok 0 (by decide)) rfl rfl dX5_aim_96 (fun H locs hH hS => ?_)
      refine lv_aload_n hx hb dX5_aim_99 rfl (lv_at hl 0 rfl) ?_
      refine lv_iload_n hx hb dX5_aim_100 rfl (lv_at hl 2 rfl) ?_
      refine t_put (ci := 5) (lst := ft5 0 0) (v := .int x2) (ty := tyX5 1) (C := RX5) (F := TX5) (N := 6) hx hb hts uX5 tyX5 tyX5_ok nmX5 hown hkb hH hS t_a0 (hO.no t_a0 (by decide)) (fun _ => Iff.rfl) rfl rfl 1 (by decide) rfl (⟨_, rfl⟩) kw_248 (fun _ h9 => h9) rfl (tyX5_ok 1 (by decide)) rfl rfl dX5_aim_101 (fun H locs hH hS => ?_)
      refine lv_aload_n hx hb dX5_aim_104 rfl (lv_at hl 0 rfl) ?_
      refine lv_iload_n hx hb dX5_aim_105 rfl (lv_at hl 3 rfl) ?_
      refine t_put (ci := 5) (lst := ft5 0 0) (v := .int x3) (ty := tyX5 2) (C := RX5) (F := TX5) (N := 6) hx hb hts uX5 tyX5 tyX5_ok nmX5 hown hkb hH hS t_a0 (hO.no t_a0 (by decide)) (fun _ => Iff.rfl) rfl rfl 2 (by decide) rfl (⟨_, rfl⟩) kw_249 (fun _ h9 => h9) rfl (tyX5_ok 2 (by decide)) rfl rfl dX5_aim_106 (fun H locs hH hS => ?_)
      refine lv_aload_n hx hb dX5_aim_109 rfl (lv_at hl 0 rfl) ?_
      refine lv_iload hx hb dX5_aim_110 (lv_at hl 4 rfl) ?_
      refine t_put (ci := 5) (lst := ft5 0 0) (v := .int x4) (ty := tyX5 3) (C := RX5) (F := TX5) (N := 6) hx hb hts uX5 tyX5 tyX5_ok nmX5 hown hkb hH hS t_a0 (hO.no t_a0 (by decide)) (fun _ => Iff.rfl) rfl rfl 3 (by decide) rfl (⟨_, rfl⟩) kw_250 (fun _ h9 => h9) rfl (tyX5_ok 3 (by decide)) rfl rfl dX5_aim_112 (fun H locs hH hS => ?_)
      exact te_v hx hb hr hlocks hH hS rfl dX5_aim_115
    refine lv_if_ne (tgt := 94) hx hb dX5_aim_56 (by decide) (fun c56 => ?_) (fun c56 => ?_)
    · skip
      have tc56 := f_ne (k := 0) (by decide) c56
      exact J94  _ _ _  hH hS (lv_sub hl [1, 2, 3, 4, 5] rfl)
    · skip
      have tc56 := f_eq (k := 0) (by decide) c56
      refine lv_iconst (v := 0) hx hb dX5_aim_59 (by decide) ?_
      have J62 : ∀ (n : Nat) (p62_6 : Int32) (H : Heap) (locs : List Loc) (ls : Array Slot), (14 - p62_6.toInt).toNat = n → (0 ≤ p62_6.toInt) → (p62_6.toInt ≤ 14) → HT D cs A T O X H → va_S A s.heap H locs → lv_has ls 7 [(6, .int p62_6), (0, .ref a0), (1, .ref a1), (2, .int x2), (3, .int x3), (4, .int x4)] → W p l e { frames := 1, cells := 0, slots := 0, locals := 20 } s m [.ref a0, .ref a1, .int x2, .int x3, .int x4].toArray below meth c H locs 0 0 (MQ below (Tv D cs (fun u => u = (T, O, X)) A) [.ref a0, .ref a1, .int x2, .int x3, .int x4].toArray s 0 0 A) (F0 m 62 ls []) := by
        intro n
        induction n using Nat.strongRecOn with
        | _ n ih62 =>
          intro p62_6 H locs ls hm62 l_p62_6 u_p62_6 hH hS hl
          refine lv_iload hx hb dX5_aim_62 (lv_at hl 0 rfl) ?_
          refine lv_bipush (v := 14) hx hb dX5_aim_64 (by decide) ?_
          refine lv_icmp_ge (tgt := 94) hx hb dX5_aim_66 (by decide) (fun c66 => ?_) (fun c66 => ?_)
          · skip
            have tc66 := f_ge (k := 14) (by decide) c66
            exact J94  _ _ _  hH hS (lv_sub hl [1, 2, 3, 4, 5] rfl)
          · skip
            have tc66 := f_nge (k := 14) (by decide) c66
            refine lv_aload_n hx hb dX5_aim_69 rfl (lv_at hl 1 rfl) ?_
            refine t_get (ci := 5) (lst := ft5 0 0) (C := RX5) (F := TX5) (N := 6) hx hb hts uX5 hown hkb hH t_a0 (hO.no t_a0 (by decide)) (fun _ h9 => h9) rfl rfl 4 (by decide) rfl kw_251 (fun _ h9 => h9) dX5_aim_70 (fun v9 h9 => ?_)
            obtain ⟨v70, rfl, t_v70⟩ := h9
            refine lv_iload hx hb dX5_aim_73 (lv_at hl 0 rfl) ?_
            refine lv_iconst (v := 1) hx hb dX5_aim_75 (by decide) ?_
            refine lv_iload hx hb dX5_aim_76 (lv_at hl 0 rfl) ?_
            refine lv_ishl hx hb dX5_aim_78 ?_
            refine lv_topi (fun v78 ev78 => ?_)
            have tv78 : 1 ≤ v78.toInt ∧ v78.toInt ≤ 8192 := by rw [ev78]; exact shl_b 13 (by decide) (by omega) (by omega)
            refine t_ist hx hb hkb hH hS t_v70 (hO.no t_v70 (by decide)) (by omega) (by omega) (cp_0 _) dX5_aim_79 (fun H locs hH hS => ?_)
            refine lv_aload_n hx hb dX5_aim_80 rfl (lv_at hl 1 rfl) ?_
            refine t_get (ci := 5) (lst := ft5 0 0) (C := RX5) (F := TX5) (N := 6) hx hb hts uX5 hown hkb hH t_a0 (hO.no t_a0 (by decide)) (fun _ h9 => h9) rfl rfl 5 (by decide) rfl kw_252 (fun _ h9 => h9) dX5_aim_81 (fun v9 h9 => ?_)
            obtain ⟨v81, rfl, t_v81⟩ := h9
            refine lv_iload hx hb dX5_aim_84 (lv_at hl 0 rfl) ?_
            refine lv_iconst (v := 0) hx hb dX5_aim_86 (by decide) ?_
            refine t_ist hx hb hkb hH hS t_v81 (hO.no t_v81 (by decide)) (by omega) (by omega) (show 0 ≤ (0 : Int32).toInt ∧ (0 : Int32).toInt ≤ 16383 from by decide) dX5_aim_87 (fun H locs hH hS => ?_)
            obtain ⟨v88, ev88⟩ : ∃ y : Int32, y = p62_6 + 1 := ⟨_, rfl⟩
            have tv88 : v88.toInt = p62_6.toInt + (1) := by rw [ev88]; exact add_i rfl (by decide) (by omega) (by omega)
            refine lv_iinc (v := v88) (lv' := [(6, .int v88), (0, .ref a0), (1, .ref a1), (2, .int x2), (3, .int x3), (4, .int x4)]) hx hb dX5_aim_88 hl (k := 0) rfl (by rw [ev88]; rfl) (by decide) rfl (fun ls hl => ?_)
            refine lv_goto (tgt := 62) hx hb dX5_aim_91 (by decide) ?_
            exact ih62 _ (by omega) v88 _ _ _ rfl (by omega) (by omega) hH hS (lv_sub hl [0, 1, 2, 3, 4, 5] rfl)
      refine lv_istore (lv' := [(6, .int 0), (5, .int k52_0), (0, .ref a0), (1, .ref a1), (2, .int x2), (3, .int x3), (4, .int x4)]) hx hb dX5_aim_60 hl (by decide) rfl (fun ls hl => ?_)
      exact J62 _ 0 _ _ _ rfl (by decide) (by decide) hH hS (lv_sub hl [0, 2, 3, 4, 5, 6] rfl)
  have J51 : ∀  (H : Heap) (locs : List Loc) (ls : Array Slot), HT D cs A T O X H → va_S A s.heap H locs → lv_has ls 7 [(0, .ref a0), (1, .ref a1), (2, .int x2), (3, .int x3), (4, .int x4)] → W p l e { frames := 1, cells := 0, slots := 0, locals := 20 } s m [.ref a0, .ref a1, .int x2, .int x3, .int x4].toArray below meth c H locs 0 0 (MQ below (Tv D cs (fun u => u = (T, O, X)) A) [.ref a0, .ref a1, .int x2, .int x3, .int x4].toArray s 0 0 A) (F0 m 51 ls []) := by
    intro  H locs ls  hH hS hl
    refine lv_iconst (v := 0) hx hb dX5_aim_51 (by decide) ?_
    exact J52 0 _ _ _ (by decide) (by decide) hH hS (lv_sub hl [0, 1, 2, 3, 4] rfl)
  refine lv_acmp_ne (rx := (some a1)) (ry := (some v2)) (tgt := 51) hx hb dX5_aim_5 (by decide) (fun _ => ?_) (fun _ => ?_)
  · skip
    exact J51  _ _ _  hH hS (lv_sub hl [0, 1, 2, 3, 4] rfl)
  · skip
    refine lv_iload_n hx hb dX5_aim_8 rfl (lv_at hl 3 rfl) ?_
    refine lv_aload_n hx hb dX5_aim_9 rfl (lv_at hl 0 rfl) ?_
    refine t_get (ci := 5) (lst := ft5 0 0) (C := RX5) (F := TX5) (N := 6) hx hb hts uX5 hown hkb hH t_a0 (hO.no t_a0 (by decide)) (fun _ h9 => h9) rfl rfl 2 (by decide) rfl kw_249 (fun _ h9 => h9) dX5_aim_10 (fun v9 h9 => ?_)
    obtain ⟨v10, rfl⟩ := h9
    refine lv_icmp_ne (tgt := 51) hx hb dX5_aim_13 (by decide) (fun c13 => ?_) (fun c13 => ?_)
    · skip
      have fuc13 := full_i x3
      have fvc13 := full_i v10
      have tc13 := g_ne c13
      exact J51  _ _ _  hH hS (lv_sub hl [0, 1, 2, 3, 4] rfl)
    · skip
      have fuc13 := full_i x3
      have fvc13 := full_i v10
      have tc13 := g_eq c13
      refine lv_iload_n hx hb dX5_aim_16 rfl (lv_at hl 2 rfl) ?_
      refine lv_aload_n hx hb dX5_aim_17 rfl (lv_at hl 0 rfl) ?_
      refine t_get (ci := 5) (lst := ft5 0 0) (C := RX5) (F := TX5) (N := 6) hx hb hts uX5 hown hkb hH t_a0 (hO.no t_a0 (by decide)) (fun _ h9 => h9) rfl rfl 1 (by decide) rfl kw_248 (fun _ h9 => h9) dX5_aim_18 (fun v9 h9 => ?_)
      obtain ⟨v18, rfl⟩ := h9
      have J31 : ∀  (H : Heap) (locs : List Loc) (ls : Array Slot), HT D cs A T O X H → va_S A s.heap H locs → lv_has ls 7 [(0, .ref a0), (1, .ref a1), (2, .int x2), (3, .int x3), (4, .int x4)] → W p l e { frames := 1, cells := 0, slots := 0, locals := 20 } s m [.ref a0, .ref a1, .int x2, .int x3, .int x4].toArray below meth c H locs 0 0 (MQ below (Tv D cs (fun u => u = (T, O, X)) A) [.ref a0, .ref a1, .int x2, .int x3, .int x4].toArray s 0 0 A) (F0 m 31 ls []) := by
        intro  H locs ls  hH hS hl
        refine lv_iload hx hb dX5_aim_31 (lv_at hl 4 rfl) ?_
        refine lv_aload_n hx hb dX5_aim_33 rfl (lv_at hl 0 rfl) ?_
        refine t_get (ci := 5) (lst := ft5 0 0) (C := RX5) (F := TX5) (N := 6) hx hb hts uX5 hown hkb hH t_a0 (hO.no t_a0 (by decide)) (fun _ h9 => h9) rfl rfl 3 (by decide) rfl kw_250 (fun _ h9 => h9) dX5_aim_34 (fun v9 h9 => ?_)
        obtain ⟨v34, rfl⟩ := h9
        have J47 : ∀  (H : Heap) (locs : List Loc) (ls : Array Slot), HT D cs A T O X H → va_S A s.heap H locs → lv_has ls 7 [(0, .ref a0), (1, .ref a1), (2, .int x2), (3, .int x3), (4, .int x4)] → W p l e { frames := 1, cells := 0, slots := 0, locals := 20 } s m [.ref a0, .ref a1, .int x2, .int x3, .int x4].toArray below meth c H locs 0 0 (MQ below (Tv D cs (fun u => u = (T, O, X)) A) [.ref a0, .ref a1, .int x2, .int x3, .int x4].toArray s 0 0 A) (F0 m 47 ls []) := by
          intro  H locs ls  hH hS hl
          refine lv_iconst (v := 1) hx hb dX5_aim_47 (by decide) ?_
          refine lv_goto (tgt := 52) hx hb dX5_aim_48 (by decide) ?_
          exact J52 1 _ _ _ (by decide) (by decide) hH hS (lv_sub hl [0, 1, 2, 3, 4] rfl)
        refine lv_icmp_eq (tgt := 47) hx hb dX5_aim_37 (by decide) (fun c37 => ?_) (fun c37 => ?_)
        · skip
          have fuc37 := full_i x4
          have fvc37 := full_i v34
          have tc37 := g_eq c37
          exact J47  _ _ _  hH hS (lv_sub hl [0, 1, 2, 3, 4] rfl)
        · skip
          have fuc37 := full_i x4
          have fvc37 := full_i v34
          have tc37 := g_ne c37
          refine lv_aload_n hx hb dX5_aim_40 rfl (lv_at hl 1 rfl) ?_
          refine tk_i hH hS hA (tr_V (n := 0) (As := []) hx hb hml hown hts hkb hH hOX hks hE hS hA (s_Wall_asksDay l D cs kf T O X a1 ha1 ga1 t_a1 (hO.sub (by decide))) kw_842 kw_843 kw_844 kw_5 kw_845 (by decide +kernel) ⟨Nat.le_of_ble_eq_true rfl, Nat.le_of_ble_eq_true rfl⟩ (HT.recv (ci := 9) hkb hH t_a1.1 (hO.no t_a1.1 (by decide)) rfl) rfl rfl hl.1 (Nat.le_of_ble_eq_true rfl) dX5_aim_41 ⟨Nat.le_of_ble_eq_true rfl, Nat.le_of_ble_eq_true rfl⟩) (fun v41 u H locs hz9 hH hS => ?_)
          obtain ⟨rfl, l_v41, u_v41⟩ := hz9
          have hH : HT D cs A T O X H := hH
          refine W.widen (k := 0) (n := 0) (Nat.le_of_ble_eq_true rfl) (Nat.le_of_ble_eq_true rfl) ?_
          refine lv_if_ne (tgt := 51) hx hb dX5_aim_44 (by decide) (fun c44 => ?_) (fun c44 => ?_)
          · skip
            have tc44 := f_ne (k := 0) (by decide) c44
            exact J51  _ _ _  hH hS (lv_sub hl [0, 1, 2, 3, 4] rfl)
          · skip
            have tc44 := f_eq (k := 0) (by decide) c44
            exact J47  _ _ _  hH hS (lv_sub hl [0, 1, 2, 3, 4] rfl)
      refine lv_icmp_eq (tgt := 31) hx hb dX5_aim_21 (by decide) (fun c21 => ?_) (fun c21 => ?_)
      · skip
        have fuc21 := full_i x2
        have fvc21 := full_i v18
        have tc21 := g_eq c21
        exact J31  _ _ _  hH hS (lv_sub hl [0, 1, 2, 3, 4] rfl)
      · skip
        have fuc21 := full_i x2
        have fvc21 := full_i v18
        have tc21 := g_ne c21
        refine lv_aload_n hx hb dX5_aim_24 rfl (lv_at hl 1 rfl) ?_
        refine tk_i hH hS hA (tr_V (n := 0) (As := []) hx hb hml hown hts hkb hH hOX hks hE hS hA (s_Wall_asksLeg l D cs kf T O X a1 ha1 ga1 t_a1 (hO.sub (by decide))) kw_838 kw_839 kw_840 kw_5 kw_841 (by decide +kernel) ⟨Nat.le_of_ble_eq_true rfl, Nat.le_of_ble_eq_true rfl⟩ (HT.recv (ci := 9) hkb hH t_a1.1 (hO.no t_a1.1 (by decide)) rfl) rfl rfl hl.1 (Nat.le_of_ble_eq_true rfl) dX5_aim_25 ⟨Nat.le_of_ble_eq_true rfl, Nat.le_of_ble_eq_true rfl⟩) (fun v25 u H locs hz9 hH hS => ?_)
        obtain ⟨rfl, l_v25, u_v25⟩ := hz9
        have hH : HT D cs A T O X H := hH
        refine W.widen (k := 0) (n := 0) (Nat.le_of_ble_eq_true rfl) (Nat.le_of_ble_eq_true rfl) ?_
        refine lv_if_ne (tgt := 51) hx hb dX5_aim_28 (by decide) (fun c28 => ?_) (fun c28 => ?_)
        · skip
          have tc28 := f_ne (k := 0) (by decide) c28
          exact J51  _ _ _  hH hS (lv_sub hl [0, 1, 2, 3, 4] rfl)
        · skip
          have tc28 := f_eq (k := 0) (by decide) c28
          exact J31  _ _ _  hH hS (lv_sub hl [0, 1, 2, 3, 4] rfl)
set_option maxHeartbeats 4000000 in
set_option maxRecDepth 100000 in
theorem s_Rows_stepped (l : Launch) (D : va_G) (cs : CS) (kf : KF) (T : TF) (O : List Nat) (X : va_W) (a0 : Nat) (x1 : Int32) (x2 : Int32) (t_a0 : T a0 = some (15, 0, 0)) (hO : okO T O [1, 12, 15, 19]) : TK l D cs kf yX5_stepped cX5_stepped 5 (some (.int)) { frames := 3, cells := 0, slots := 0, locals := 77 } [.ref a0, .int x1, .int x2] T O X (Ti D cs (fun r u => u = (T, O, X) ∧ 0 ≤ r.toInt ∧ r.toInt ≤ 16383)) := by
  refine tk_of (by decide) (Nat.le_of_ble_eq_true rfl) (fun p e s m below meth c ls A H locs hx hb hr hml hown hts hlocks hnm hkb hH hS hA hOX hks hE hl => ?_)
  have hown : s.vm.findClass RX5 = some m.cls := hown
  have hl : lv_has ls 5 [(0, .ref a0), (1, .int x1), (2, .int x2)] := hl
  have hO0 := hO
  obtain ⟨fs9, ho9, hH⟩ := hH.take t_a0 (hO0.no t_a0 (by decide))
  have hp0 : okL T (ft5 0 0) fs9 := ho9
  clear ho9
  obtain ⟨v9, fs9, rfl, h9, hp1⟩ := okL_i hp0
  obtain ⟨q0_0, hq0_0, gq0_0, rfl, t_q0_0⟩ := h9
  obtain ⟨v9, fs9, rfl, h9, hp2⟩ := okL_i hp1
  obtain ⟨q0_1, rfl⟩ := h9
  obtain ⟨v9, fs9, rfl, h9, hp3⟩ := okL_i hp2
  obtain ⟨q0_2, rfl⟩ := h9
  obtain ⟨v9, fs9, rfl, h9, hp4⟩ := okL_i hp3
  obtain ⟨q0_3, rfl⟩ := h9
  obtain ⟨v9, fs9, rfl, h9, hp5⟩ := okL_i hp4
  obtain ⟨q0_4, rfl, t_q0_4⟩ := h9
  obtain ⟨v9, fs9, rfl, h9, hp6⟩ := okL_i hp5
  obtain ⟨q0_5, rfl, t_q0_5⟩ := h9
  have hpz := okL_z hp6
  subst hpz
  have hH : HT D cs A T (a0 :: O) ((a0, .inr (5, [.ref q0_0, .int q0_1, .int q0_2, .int q0_3, .ref q0_4, .ref q0_5])) :: X) H := hH
  have hO : okO T (a0 :: O) [1, 12, 19] := okO.cons (hO0.sub (by decide)) t_a0 (by decide)
  refine lv_iload_n hx hb dX5_stepped_0 rfl (lv_at hl 1 rfl) ?_
  have J15 : ∀  (H : Heap) (locs : List Loc) (ls : Array Slot), HT D cs A T (a0 :: O) ((a0, .inr (5, [.ref q0_0, .int q0_1, .int q0_2, .int q0_3, .ref q0_4, .ref q0_5])) :: X) H → va_S A s.heap H locs → lv_has ls 5 [] → W p l e { frames := 3, cells := 0, slots := 0, locals := 77 } s m [.ref a0, .int x1, .int x2].toArray below meth c H locs 0 0 (MQ below (Ti D cs (fun r u => u = (T, O, X) ∧ 0 ≤ r.toInt ∧ r.toInt ≤ 16383) A) [.ref a0, .int x1, .int x2].toArray s 0 0 A) (F0 m 15 ls []) := by
    intro  H locs ls  hH hS hl
    refine lv_iconst (v := 0) hx hb dX5_stepped_15 (by decide) ?_
    have hH : HT D cs A T O X H := HT.lay (ci := 5) hH t_a0 (okL_c (⟨_, _, _, rfl, t_q0_0⟩) (okL_c (⟨_, rfl⟩) (okL_c (⟨_, rfl⟩) (okL_c (⟨_, rfl⟩) (okL_c (⟨_, rfl, t_q0_4⟩) (okL_c (⟨_, rfl, t_q0_5⟩) (okL_n)))))))
    have hO := hO0
    exact te_i hx hb hr hlocks hH hS (⟨rfl, by decide, by decide⟩) dX5_stepped_16
  refine lv_if_lt (tgt := 15) hx hb dX5_stepped_1 (by decide) (fun c1 => ?_) (fun c1 => ?_)
  · skip
    have tc1 := f_lt (k := 0) (by decide) c1
    exact J15  _ _ _  hH hS (lv_sub hl [] rfl)
  · skip
    have tc1 := f_nlt (k := 0) (by decide) c1
    refine lv_iload_n hx hb dX5_stepped_4 rfl (lv_at hl 1 rfl) ?_
    refine lv_aload_n hx hb dX5_stepped_5 rfl (lv_at hl 0 rfl) ?_
    refine x_get (ci := 5) (C := RX5) (F := TX5) (N := 6) (v := .ref q0_0) hx hb hts uX5 hown hkb hH rfl 0 (by decide) rfl kw_244 (fun _ h9 => h9) dX5_stepped_6 ?_
    refine t_get (ci := 9) (lst := ft9w hq0_0 gq0_0) (C := RX9) (F := TX9) (N := 14) hx hb hts uX9 hown hkb hH t_q0_0.1 (hO.no t_q0_0.1 (by decide)) (fun fs => (ob9w t_q0_0 fs).mp) rfl rfl 0 (by decide) rfl kw_107 (fun _ h9 => h9) dX5_stepped_9 (fun v9 h9 => ?_)
    have h9 : v9 = .int (nI hq0_0) := h9
    subst h9
    have e_hq0_0 : (nI hq0_0).toInt = hq0_0 := nI_toInt (by have := t_q0_0.2.1; omega)
    have b_hq0_0 := t_q0_0.2.1
    refine lv_icmp_lt (tgt := 17) hx hb dX5_stepped_12 (by decide) (fun c12 => ?_) (fun c12 => ?_)
    · skip
      have fuc12 := full_i x1
      have fvc12 := full_i (nI hq0_0)
      have tc12 := g_lt c12
      refine lv_iload_n hx hb dX5_stepped_17 rfl (lv_at hl 2 rfl) ?_
      refine lv_aload_n hx hb dX5_stepped_18 rfl (lv_at hl 0 rfl) ?_
      refine x_get (ci := 5) (C := RX5) (F := TX5) (N := 6) (v := .ref q0_4) hx hb hts uX5 hown hkb hH rfl 4 (by decide) rfl kw_251 (fun _ h9 => h9) dX5_stepped_19 ?_
      refine lv_iload_n hx hb dX5_stepped_22 rfl (lv_at hl 1 rfl) ?_
      refine t_ild hx hb hkb hH t_q0_4 (hO.no t_q0_4 (by decide)) (by omega) (by omega) dX5_stepped_23 (fun v23 h9 => ?_)
      refine lv_iconst (v := (-1)) hx hb dX5_stepped_24 (by decide) ?_
      refine lv_ixor hx hb dX5_stepped_25 ?_
      refine lv_topi (fun v25 ev25 => ?_)
      refine lv_iand hx hb dX5_stepped_26 ?_
      refine lv_topi (fun v26 ev26 => ?_)
      refine lv_istore_n (lv' := [(3, .int v26), (0, .ref a0), (1, .int x1), (2, .int x2)]) hx hb dX5_stepped_27 rfl hl (by decide) rfl (fun ls hl => ?_)
      refine lv_iconst (v := 0) hx hb dX5_stepped_28 (by decide) ?_
      have J31 : ∀ (n : Nat) (p31_4 : Int32) (H : Heap) (locs : List Loc) (ls : Array Slot), (14 - p31_4.toInt).toNat = n → (0 ≤ p31_4.toInt) → (p31_4.toInt ≤ 14) → HT D cs A T (a0 :: O) ((a0, .inr (5, [.ref q0_0, .int q0_1, .int q0_2, .int q0_3, .ref q0_4, .ref q0_5])) :: X) H → va_S A s.heap H locs → lv_has ls 5 [(4, .int p31_4), (3, .int v26), (0, .ref a0), (1, .int x1), (2, .int x2)] → W p l e { frames := 3, cells := 0, slots := 0, locals := 77 } s m [.ref a0, .int x1, .int x2].toArray below meth c H locs 0 0 (MQ below (Ti D cs (fun r u => u = (T, O, X) ∧ 0 ≤ r.toInt ∧ r.toInt ≤ 16383) A) [.ref a0, .int x1, .int x2].toArray s 0 0 A) (F0 m 31 ls []) := by
        intro n
        induction n using Nat.strongRecOn with
        | _ n ih31 =>
          intro p31_4 H locs ls hm31 l_p31_4 u_p31_4 hH hS hl
          refine lv_iload hx hb dX5_stepped_31 (lv_at hl 0 rfl) ?_
          refine lv_aload_n hx hb dX5_stepped_33 rfl (lv_at hl 2 rfl) ?_
          refine x_get (ci := 5) (C := RX5) (F := TX5) (N := 6) (v := .ref q0_0) hx hb hts uX5 hown hkb hH rfl 0 (by decide) rfl kw_244 (fun _ h9 => h9) dX5_stepped_34 ?_
          refine t_get (ci := 9) (lst := ft9w hq0_0 gq0_0) (C := RX9) (F := TX9) (N := 14) hx hb hts uX9 hown hkb hH t_q0_0.1 (hO.no t_q0_0.1 (by decide)) (fun fs => (ob9w t_q0_0 fs).mp) rfl rfl 0 (by decide) rfl kw_107 (fun _ h9 => h9) dX5_stepped_37 (fun v9 h9 => ?_)
          have h9 : v9 = .int (nI hq0_0) := h9
          subst h9
          have e_hq0_0 : (nI hq0_0).toInt = hq0_0 := nI_toInt (by have := t_q0_0.2.1; omega)
          have b_hq0_0 := t_q0_0.2.1
          have J100 : ∀  (H : Heap) (locs : List Loc) (ls : Array Slot), HT D cs A T (a0 :: O) ((a0, .inr (5, [.ref q0_0, .int q0_1, .int q0_2, .int q0_3, .ref q0_4, .ref q0_5])) :: X) H → va_S A s.heap H locs → lv_has ls 5 [(3, .int v26), (0, .ref a0), (1, .int x1), (2, .int x2)] → W p l e { frames := 3, cells := 0, slots := 0, locals := 77 } s m [.ref a0, .int x1, .int x2].toArray below meth c H locs 0 0 (MQ below (Ti D cs (fun r u => u = (T, O, X) ∧ 0 ≤ r.toInt ∧ r.toInt ≤ 16383) A) [.ref a0, .int x1, .int x2].toArray s 0 0 A) (F0 m 100 ls []) := by
            intro  H locs ls  hH hS hl
            refine lv_aload_n hx hb dX5_stepped_100 rfl (lv_at hl 1 rfl) ?_
            refine x_get (ci := 5) (C := RX5) (F := TX5) (N := 6) (v := .ref q0_4) hx hb hts uX5 hown hkb hH rfl 4 (by decide) rfl kw_251 (fun _ h9 => h9) dX5_stepped_101 ?_
            refine lv_iload_n hx hb dX5_stepped_104 rfl (lv_at hl 2 rfl) ?_
            refine lv_dup2_11 hx hb dX5_stepped_105 rfl rfl ?_
            refine t_ild hx hb hkb hH t_q0_4 (hO.no t_q0_4 (by decide)) (by omega) (by omega) dX5_stepped_106 (fun v106 h9 => ?_)
            refine lv_iload_n hx hb dX5_stepped_107 rfl (lv_at hl 0 rfl) ?_
            refine lv_ior hx hb dX5_stepped_108 ?_
            refine lv_topi (fun v108 ev108 => ?_)
            refine t_ist hx hb hkb hH hS t_q0_4 (hO.no t_q0_4 (by decide)) (by omega) (by omega) (cp_0 _) dX5_stepped_109 (fun H locs hH hS => ?_)
            refine lv_aload_n hx hb dX5_stepped_110 rfl (lv_at hl 1 rfl) ?_
            refine x_get (ci := 5) (C := RX5) (F := TX5) (N := 6) (v := .ref q0_5) hx hb hts uX5 hown hkb hH rfl 5 (by decide) rfl kw_252 (fun _ h9 => h9) dX5_stepped_111 ?_
            refine lv_iload_n hx hb dX5_stepped_114 rfl (lv_at hl 2 rfl) ?_
            refine t_ild hx hb hkb hH t_q0_5 (hO.no t_q0_5 (by decide)) (by omega) (by omega) dX5_stepped_115 (fun v115 h9 => ?_)
            have tv115 : 0 ≤ v115.toInt ∧ v115.toInt ≤ 16383 := h9
            refine lv_iload_n hx hb dX5_stepped_116 rfl (lv_at hl 3 rfl) ?_
            refine lv_iand hx hb dX5_stepped_117 ?_
            refine lv_topi (fun v117 ev117 => ?_)
            have tv117 : 0 ≤ v117.toInt ∧ v117.toInt ≤ v115.toInt := by rw [ev117]; exact and_l (by omega)
            have hH : HT D cs A T O X H := HT.lay (ci := 5) hH t_a0 (okL_c (⟨_, _, _, rfl, t_q0_0⟩) (okL_c (⟨_, rfl⟩) (okL_c (⟨_, rfl⟩) (okL_c (⟨_, rfl⟩) (okL_c (⟨_, rfl, t_q0_4⟩) (okL_c (⟨_, rfl, t_q0_5⟩) (okL_n)))))))
            have hO := hO0
            exact te_i hx hb hr hlocks hH hS (⟨rfl, by omega, by omega⟩) dX5_stepped_118
          refine lv_icmp_ge (tgt := 100) hx hb dX5_stepped_40 (by decide) (fun c40 => ?_) (fun c40 => ?_)
          · skip
            have fuc40 := full_i p31_4
            have fvc40 := full_i (nI hq0_0)
            have tc40 := g_le c40
            exact J100  _ _ _  hH hS (lv_sub hl [1, 2, 3, 4] rfl)
          · skip
            have fuc40 := full_i p31_4
            have fvc40 := full_i (nI hq0_0)
            have tc40 := g_nle c40
            refine lv_iload_n hx hb dX5_stepped_43 rfl (lv_at hl 1 rfl) ?_
            refine lv_if_eq (tgt := 100) hx hb dX5_stepped_44 (by decide) (fun c44 => ?_) (fun c44 => ?_)
            · skip
              have tc44 := f_eq (k := 0) (by decide) c44
              exact J100  _ _ _  hH hS (lv_sub hl [1, 2, 3, 4] rfl)
            · skip
              have tc44 := f_ne (k := 0) (by decide) c44
              refine lv_iload_n hx hb dX5_stepped_47 rfl (lv_at hl 1 rfl) ?_
              refine lv_iload hx hb dX5_stepped_48 (lv_at hl 0 rfl) ?_
              refine lv_ishr hx hb dX5_stepped_50 ?_
              refine lv_topi (fun v50 ev50 => ?_)
              refine lv_iconst (v := 1) hx hb dX5_stepped_51 (by decide) ?_
              refine lv_iand hx hb dX5_stepped_52 ?_
              refine lv_topi (fun v52 ev52 => ?_)
              have tv52 : 0 ≤ v52.toInt ∧ v52.toInt ≤ 1 := by rw [ev52]; exact and_r (by decide)
              have J94 : ∀  (H : Heap) (locs : List Loc) (ls : Array Slot), HT D cs A T (a0 :: O) ((a0, .inr (5, [.ref q0_0, .int q0_1, .int q0_2, .int q0_3, .ref q0_4, .ref q0_5])) :: X) H → va_S A s.heap H locs → lv_has ls 5 [(4, .int p31_4), (3, .int v26), (0, .ref a0), (1, .int x1), (2, .int x2)] → W p l e { frames := 3, cells := 0, slots := 0, locals := 77 } s m [.ref a0, .int x1, .int x2].toArray below meth c H locs 0 0 (MQ below (Ti D cs (fun r u => u = (T, O, X) ∧ 0 ≤ r.toInt ∧ r.toInt ≤ 16383) A) [.ref a0, .int x1, .int x2].toArray s 0 0 A) (F0 m 94 ls []) := by
                intro  H locs ls  hH hS hl
                obtain ⟨v94, ev94⟩ : ∃ y : Int32, y = p31_4 + 1 := ⟨_, rfl⟩
                have tv94 : v94.toInt = p31_4.toInt + (1) := by rw [ev94]; exact add_i rfl (by decide) (by omega) (by omega)
                refine lv_iinc (v := v94) (lv' := [(4, .int v94), (3, .int v26), (0, .ref a0), (1, .int x1), (2, .int x2)]) hx hb dX5_stepped_94 hl (k := 0) rfl (by rw [ev94]; rfl) (by decide) rfl (fun ls hl => ?_)
                refine lv_goto (tgt := 31) hx hb dX5_stepped_97 (by decide) ?_
                exact ih31 _ (by omega) v94 _ _ _ rfl (by omega) (by omega) hH hS (lv_sub hl [0, 1, 2, 3, 4] rfl)
              refine lv_if_eq (tgt := 94) hx hb dX5_stepped_53 (by decide) (fun c53 => ?_) (fun c53 => ?_)
              · skip
                have tc53 := f_eq (k := 0) (by decide) c53
                exact J94  _ _ _  hH hS (lv_sub hl [0, 1, 2, 3, 4] rfl)
              · skip
                have tc53 := f_ne (k := 0) (by decide) c53
                refine lv_aload_n hx hb dX5_stepped_56 rfl (lv_at hl 2 rfl) ?_
                refine x_get (ci := 5) (C := RX5) (F := TX5) (N := 6) (v := .ref q0_0) hx hb hts uX5 hown hkb hH rfl 0 (by decide) rfl kw_244 (fun _ h9 => h9) dX5_stepped_57 ?_
                refine lv_iload_n hx hb dX5_stepped_60 rfl (lv_at hl 3 rfl) ?_
                refine lv_iload hx hb dX5_stepped_61 (lv_at hl 0 rfl) ?_
                refine lv_aload_n hx hb dX5_stepped_63 rfl (lv_at hl 2 rfl) ?_
                refine x_get (ci := 5) (C := RX5) (F := TX5) (N := 6) (v := .int q0_1) hx hb hts uX5 hown hkb hH rfl 1 (by decide) rfl kw_248 (fun _ h9 => h9) dX5_stepped_64 ?_
                refine lv_aload_n hx hb dX5_stepped_67 rfl (lv_at hl 2 rfl) ?_
                refine x_get (ci := 5) (C := RX5) (F := TX5) (N := 6) (v := .int q0_2) hx hb hts uX5 hown hkb hH rfl 2 (by decide) rfl kw_249 (fun _ h9 => h9) dX5_stepped_68 ?_
                refine lv_aload_n hx hb dX5_stepped_71 rfl (lv_at hl 2 rfl) ?_
                refine x_get (ci := 5) (C := RX5) (F := TX5) (N := 6) (v := .int q0_3) hx hb hts uX5 hown hkb hH rfl 3 (by decide) rfl kw_250 (fun _ h9 => h9) dX5_stepped_72 ?_
                refine tk_i hH hS hA (tr_V (n := 5) (As := [.int x1, .int p31_4, .int q0_1, .int q0_2, .int q0_3]) hx hb hml hown hts hkb hH (ox_c hOX) hks hE hS hA (s_Wall_mayStep l D cs kf T (a0 :: O) ((a0, .inr (5, [.ref q0_0, .int q0_1, .int q0_2, .int q0_3, .ref q0_4, .ref q0_5])) :: X) q0_0 hq0_0 gq0_0 x1 p31_4 q0_1 q0_2 q0_3 t_q0_0 (by omega) (by omega) (by omega) (by omega) (hO.sub (by decide))) kw_866 kw_808 kw_809 kw_5 kw_810 (by decide +kernel) ⟨Nat.le_of_ble_eq_true rfl, Nat.le_of_ble_eq_true rfl⟩ (HT.recv (ci := 9) hkb hH t_q0_0.1 (hO.no t_q0_0.1 (by decide)) rfl) rfl rfl hl.1 (Nat.le_of_ble_eq_true rfl) dX5_stepped_75 ⟨Nat.le_of_ble_eq_true rfl, Nat.le_of_ble_eq_true rfl⟩) (fun v75 u H locs hz9 hH hS => ?_)
                obtain ⟨rfl, l_v75, u_v75⟩ := hz9
                have hH : HT D cs A T (a0 :: O) ((a0, .inr (5, [.ref q0_0, .int q0_1, .int q0_2, .int q0_3, .ref q0_4, .ref q0_5])) :: X) H := hH
                refine W.widen (k := 0) (n := 0) (Nat.le_of_ble_eq_true rfl) (Nat.le_of_ble_eq_true rfl) ?_
                refine lv_if_eq (tgt := 94) hx hb dX5_stepped_78 (by decide) (fun c78 => ?_) (fun c78 => ?_)
                · skip
                  have tc78 := f_eq (k := 0) (by decide) c78
                  exact J94  _ _ _  hH hS (lv_sub hl [0, 1, 2, 3, 4] rfl)
                · skip
                  have tc78 := f_ne (k := 0) (by decide) c78
                  refine lv_aload_n hx hb dX5_stepped_81 rfl (lv_at hl 2 rfl) ?_
                  refine x_get (ci := 5) (C := RX5) (F := TX5) (N := 6) (v := .ref q0_5) hx hb hts uX5 hown hkb hH rfl 5 (by decide) rfl kw_252 (fun _ h9 => h9) dX5_stepped_82 ?_
                  refine lv_iload_n hx hb dX5_stepped_85 rfl (lv_at hl 3 rfl) ?_
                  refine lv_dup2_11 hx hb dX5_stepped_86 rfl rfl ?_
                  refine t_ild hx hb hkb hH t_q0_5 (hO.no t_q0_5 (by decide)) (by omega) (by omega) dX5_stepped_87 (fun v87 h9 => ?_)
                  have tv87 : 0 ≤ v87.toInt ∧ v87.toInt ≤ 16383 := h9
                  refine lv_iconst (v := 1) hx hb dX5_stepped_88 (by decide) ?_
                  refine lv_iload hx hb dX5_stepped_89 (lv_at hl 0 rfl) ?_
                  refine lv_ishl hx hb dX5_stepped_91 ?_
                  refine lv_topi (fun v91 ev91 => ?_)
                  have tv91 : 1 ≤ v91.toInt ∧ v91.toInt ≤ 8192 := by rw [ev91]; exact shl_b 13 (by decide) (by omega) (by omega)
                  refine lv_ior hx hb dX5_stepped_92 ?_
                  refine lv_topi (fun v92 ev92 => ?_)
                  have tv92 : 0 ≤ v92.toInt ∧ v92.toInt < 16384 := by rw [ev92]; exact or_b 14 (by decide) (by omega) (by omega) (by omega) (by omega)
                  refine t_ist hx hb hkb hH hS t_q0_5 (hO.no t_q0_5 (by decide)) (by omega) (by omega) (show 0 ≤ v92.toInt ∧ v92.toInt ≤ 16383 from by omega) dX5_stepped_93 (fun H locs hH hS => ?_)
                  exact J94  _ _ _  hH hS (lv_sub hl [0, 1, 2, 3, 4] rfl)
      refine lv_istore (lv' := [(4, .int 0), (3, .int v26), (0, .ref a0), (1, .int x1), (2, .int x2)]) hx hb dX5_stepped_29 hl (by decide) rfl (fun ls hl => ?_)
      exact J31 _ 0 _ _ _ rfl (by decide) (by decide) hH hS (lv_sub hl [0, 1, 2, 3, 4] rfl)
    · skip
      have fuc12 := full_i x1
      have fvc12 := full_i (nI hq0_0)
      have tc12 := g_nlt c12
      exact J15  _ _ _  hH hS (lv_sub hl [] rfl)
set_option maxHeartbeats 4000000 in
set_option maxRecDepth 100000 in
theorem s_Rows_spread (l : Launch) (D : va_G) (cs : CS) (kf : KF) (T : TF) (O : List Nat) (X : va_W) (a0 : Nat) (x1 : Int32) (x2 : Int32) (x3 : Int32) (x4 : Int32) (t_a0 : T a0 = some (15, 0, 0)) (l_x1 : 0 ≤ x1.toInt) (u_x1 : x1.toInt ≤ 16383) (hO : okO T O [1, 12, 15, 19]) : TK l D cs kf yX5_spread cX5_spread 9 (some (.int)) { frames := 4, cells := 0, slots := 0, locals := 101 } [.ref a0, .int x1, .int x2, .int x3, .int x4] T O X (Ti D cs (fun r u => u = (T, O, X) ∧ 0 ≤ r.toInt ∧ r.toInt ≤ 16383)) := by
  refine tk_of (by decide) (Nat.le_of_ble_eq_true rfl) (fun p e s m below meth c ls A H locs hx hb hr hml hown hts hlocks hnm hkb hH hS hA hOX hks hE hl => ?_)
  have hown : s.vm.findClass RX5 = some m.cls := hown
  have hl : lv_has ls 9 [(0, .ref a0), (1, .int x1), (2, .int x2), (3, .int x3), (4, .int x4)] := hl
  refine lv_iload_n hx hb dX5_spread_0 rfl (lv_at hl 1 rfl) ?_
  refine lv_istore (lv' := [(5, .int x1), (0, .ref a0), (1, .int x1), (2, .int x2), (3, .int x3), (4, .int x4)]) hx hb dX5_spread_1 hl (by decide) rfl (fun ls hl => ?_)
  refine lv_iload_n hx hb dX5_spread_3 rfl (lv_at hl 2 rfl) ?_
  refine lv_iload_n hx hb dX5_spread_4 rfl (lv_at hl 3 rfl) ?_
  refine lv_iand hx hb dX5_spread_5 ?_
  refine lv_topi (fun v5 ev5 => ?_)
  have tv5 : 0 ≤ v5.toInt ∧ v5.toInt ≤ x1.toInt := by rw [ev5]; exact and_l (by omega)
  refine lv_istore (lv' := [(6, .int v5), (5, .int x1), (0, .ref a0), (1, .int x1), (2, .int x2), (3, .int x3), (4, .int x4)]) hx hb dX5_spread_6 hl (by decide) rfl (fun ls hl => ?_)
  refine lv_iconst (v := 0) hx hb dX5_spread_8 (by decide) ?_
  have J11 : ∀ (n : Nat) (p11_7 : Int32) (p11_6 : Int32) (p11_5 : Int32) (H : Heap) (locs : List Loc) (ls : Array Slot), (14 - p11_7.toInt).toNat = n → (0 ≤ p11_7.toInt) → (p11_7.toInt ≤ 14) → (0 ≤ p11_6.toInt) → (p11_6.toInt ≤ 16383) → (0 ≤ p11_5.toInt) → (p11_5.toInt ≤ 16383) → HT D cs A T O X H → va_S A s.heap H locs → lv_has ls 9 [(7, .int p11_7), (6, .int p11_6), (5, .int p11_5), (0, .ref a0), (2, .int x2), (3, .int x3), (4, .int x4)] → W p l e { frames := 4, cells := 0, slots := 0, locals := 101 } s m [.ref a0, .int x1, .int x2, .int x3, .int x4].toArray below meth c H locs 0 0 (MQ below (Ti D cs (fun r u => u = (T, O, X) ∧ 0 ≤ r.toInt ∧ r.toInt ≤ 16383) A) [.ref a0, .int x1, .int x2, .int x3, .int x4].toArray s 0 0 A) (F0 m 11 ls []) := by
    intro n
    induction n using Nat.strongRecOn with
    | _ n ih11 =>
      intro p11_7 p11_6 p11_5 H locs ls hm11 l_p11_7 u_p11_7 l_p11_6 u_p11_6 l_p11_5 u_p11_5 hH hS hl
      refine lv_iload hx hb dX5_spread_11 (lv_at hl 0 rfl) ?_
      refine lv_bipush (v := 14) hx hb dX5_spread_13 (by decide) ?_
      have J75 : ∀  (H : Heap) (locs : List Loc) (ls : Array Slot), HT D cs A T O X H → va_S A s.heap H locs → lv_has ls 9 [(5, .int p11_5)] → W p l e { frames := 4, cells := 0, slots := 0, locals := 101 } s m [.ref a0, .int x1, .int x2, .int x3, .int x4].toArray below meth c H locs 0 0 (MQ below (Ti D cs (fun r u => u = (T, O, X) ∧ 0 ≤ r.toInt ∧ r.toInt ≤ 16383) A) [.ref a0, .int x1, .int x2, .int x3, .int x4].toArray s 0 0 A) (F0 m 75 ls []) := by
        intro  H locs ls  hH hS hl
        refine lv_iload hx hb dX5_spread_75 (lv_at hl 0 rfl) ?_
        exact te_i hx hb hr hlocks hH hS (⟨rfl, by omega, by omega⟩) dX5_spread_77
      refine lv_icmp_ge (tgt := 75) hx hb dX5_spread_15 (by decide) (fun c15 => ?_) (fun c15 => ?_)
      · skip
        have tc15 := f_ge (k := 14) (by decide) c15
        exact J75  _ _ _  hH hS (lv_sub hl [2] rfl)
      · skip
        have tc15 := f_nge (k := 14) (by decide) c15
        refine lv_iload hx hb dX5_spread_18 (lv_at hl 1 rfl) ?_
        refine lv_if_eq (tgt := 75) hx hb dX5_spread_20 (by decide) (fun c20 => ?_) (fun c20 => ?_)
        · skip
          have tc20 := f_eq (k := 0) (by decide) c20
          exact J75  _ _ _  hH hS (lv_sub hl [2] rfl)
        · skip
          have tc20 := f_ne (k := 0) (by decide) c20
          refine lv_iload hx hb dX5_spread_23 (lv_at hl 2 rfl) ?_
          refine lv_iload hx hb dX5_spread_25 (lv_at hl 6 rfl) ?_
          refine lv_iand hx hb dX5_spread_27 ?_
          refine lv_topi (fun v27 ev27 => ?_)
          have tv27 : 0 ≤ v27.toInt ∧ v27.toInt ≤ p11_5.toInt := by rw [ev27]; exact and_l (by omega)
          refine lv_if_ne (tgt := 75) hx hb dX5_spread_28 (by decide) (fun c28 => ?_) (fun c28 => ?_)
          · skip
            have tc28 := f_ne (k := 0) (by decide) c28
            exact J75  _ _ _  hH hS (lv_sub hl [2] rfl)
          · skip
            have tc28 := f_eq (k := 0) (by decide) c28
            refine lv_aload_n hx hb dX5_spread_31 rfl (lv_at hl 3 rfl) ?_
            refine lv_iload hx hb dX5_spread_32 (lv_at hl 1 rfl) ?_
            refine tk_i hH hS hA (tr_S (n := 1) (As := [.int p11_6]) hx hb hml hown hts hkb hH hOX hks hE hS hA (s_ntz l D cs kf T O X p11_6  (hO.sub (by decide))) kw_858 kw_859 kw_20 kw_860 (by decide +kernel) ⟨Nat.le_of_ble_eq_true rfl, Nat.le_of_ble_eq_true rfl⟩ rfl rfl hl.1 (Nat.le_of_ble_eq_true rfl) dX5_spread_34 ⟨Nat.le_of_ble_eq_true rfl, Nat.le_of_ble_eq_true rfl⟩) (fun v34 u H locs hz9 hH hS => ?_)
            have hz9 : u = (T, O, X) := hz9
            subst hz9
            have hH : HT D cs A T O X H := hH
            refine W.widen (k := 0) (n := 0) (Nat.le_of_ble_eq_true rfl) (Nat.le_of_ble_eq_true rfl) ?_
            refine lv_iload_n hx hb dX5_spread_37 rfl (lv_at hl 5 rfl) ?_
            refine lv_iload hx hb dX5_spread_38 (lv_at hl 2 rfl) ?_
            refine lv_iconst (v := (-1)) hx hb dX5_spread_40 (by decide) ?_
            refine lv_ixor hx hb dX5_spread_41 ?_
            refine lv_topi (fun v41 ev41 => ?_)
            refine lv_iand hx hb dX5_spread_42 ?_
            refine lv_topi (fun v42 ev42 => ?_)
            refine tk_i hH hS hA (tr_V (n := 2) (As := [.int v34, .int v42]) hx hb hml hown hts hkb hH hOX hks hE hS hA (s_Rows_stepped l D cs kf T O X a0 v34 v42 t_a0 (hO.sub (by decide))) kw_862 kw_863 kw_864 kw_8 kw_865 (by decide +kernel) ⟨Nat.le_of_ble_eq_true rfl, Nat.le_of_ble_eq_true rfl⟩ (HT.recv (ci := 5) hkb hH t_a0 (hO.no t_a0 (by decide)) rfl) rfl rfl hl.1 (Nat.le_of_ble_eq_true rfl) dX5_spread_43 ⟨Nat.le_of_ble_eq_true rfl, Nat.le_of_ble_eq_true rfl⟩) (fun v43 u H locs hz9 hH hS => ?_)
            obtain ⟨rfl, l_v43, u_v43⟩ := hz9
            have hH : HT D cs A T O X H := hH
            refine W.widen (k := 0) (n := 0) (Nat.le_of_ble_eq_true rfl) (Nat.le_of_ble_eq_true rfl) ?_
            refine lv_istore (lv' := [(8, .int v43), (7, .int p11_7), (6, .int p11_6), (5, .int p11_5), (0, .ref a0), (2, .int x2), (3, .int x3), (4, .int x4)]) hx hb dX5_spread_46 hl (by decide) rfl (fun ls hl => ?_)
            refine lv_iload hx hb dX5_spread_48 (lv_at hl 3 rfl) ?_
            refine lv_iload hx hb dX5_spread_50 (lv_at hl 0 rfl) ?_
            refine lv_ior hx hb dX5_spread_52 ?_
            refine lv_topi (fun v52 ev52 => ?_)
            have tv52 : 0 ≤ v52.toInt ∧ v52.toInt < 16384 := by rw [ev52]; exact or_b 14 (by decide) (by omega) (by omega) (by omega) (by omega)
            refine lv_istore (lv' := [(5, .int v52), (8, .int v43), (7, .int p11_7), (6, .int p11_6), (0, .ref a0), (2, .int x2), (3, .int x3), (4, .int x4)]) hx hb dX5_spread_53 hl (by decide) rfl (fun ls hl => ?_)
            refine lv_iload hx hb dX5_spread_55 (lv_at hl 3 rfl) ?_
            refine lv_iload hx hb dX5_spread_57 (lv_at hl 3 rfl) ?_
            refine lv_iconst (v := 1) hx hb dX5_spread_59 (by decide) ?_
            refine lv_isub hx hb dX5_spread_60 ?_
            refine lv_topi (fun v60 ev60 => ?_)
            have tv60 : v60.toInt = p11_6.toInt - (1) := by rw [ev60]; exact sub_i rfl (by decide : (1 : Int32).toInt = 1) (by omega) (by omega)
            refine lv_iand hx hb dX5_spread_61 ?_
            refine lv_topi (fun v61 ev61 => ?_)
            have tv61 : 0 ≤ v61.toInt ∧ v61.toInt ≤ p11_6.toInt := by rw [ev61]; exact and_l (by omega)
            have ttv61 : 0 ≤ v61.toInt ∧ v61.toInt ≤ v60.toInt := by rw [ev61]; exact and_r (by omega)
            refine lv_iload hx hb dX5_spread_62 (lv_at hl 1 rfl) ?_
            refine lv_iload_n hx hb dX5_spread_64 rfl (lv_at hl 5 rfl) ?_
            refine lv_iand hx hb dX5_spread_65 ?_
            refine lv_topi (fun v65 ev65 => ?_)
            have tv65 : 0 ≤ v65.toInt ∧ v65.toInt ≤ v43.toInt := by rw [ev65]; exact and_l (by omega)
            refine lv_ior hx hb dX5_spread_66 ?_
            refine lv_topi (fun v66 ev66 => ?_)
            have tv66 : 0 ≤ v66.toInt ∧ v66.toInt < 16384 := by rw [ev66]; exact or_b 14 (by decide) (by omega) (by omega) (by omega) (by omega)
            refine lv_istore (lv' := [(6, .int v66), (5, .int v52), (8, .int v43), (7, .int p11_7), (0, .ref a0), (2, .int x2), (3, .int x3), (4, .int x4)]) hx hb dX5_spread_67 hl (by decide) rfl (fun ls hl => ?_)
            obtain ⟨v69, ev69⟩ : ∃ y : Int32, y = p11_7 + 1 := ⟨_, rfl⟩
            have tv69 : v69.toInt = p11_7.toInt + (1) := by rw [ev69]; exact add_i rfl (by decide) (by omega) (by omega)
            refine lv_iinc (v := v69) (lv' := [(7, .int v69), (6, .int v66), (5, .int v52), (8, .int v43), (0, .ref a0), (2, .int x2), (3, .int x3), (4, .int x4)]) hx hb dX5_spread_69 hl (k := 3) rfl (by rw [ev69]; rfl) (by decide) rfl (fun ls hl => ?_)
            refine lv_goto (tgt := 11) hx hb dX5_spread_72 (by decide) ?_
            exact ih11 _ (by omega) v69 v66 v52 _ _ _ rfl (by omega) (by omega) (by omega) (by omega) (by omega) (by omega) hH hS (lv_sub hl [0, 1, 2, 4, 5, 6, 7] rfl)
  refine lv_istore (lv' := [(7, .int 0), (6, .int v5), (5, .int x1), (0, .ref a0), (1, .int x1), (2, .int x2), (3, .int x3), (4, .int x4)]) hx hb dX5_spread_9 hl (by decide) rfl (fun ls hl => ?_)
  exact J11 _ 0 v5 x1 _ _ _ rfl (by decide) (by decide) (by omega) (by omega) (by omega) (by omega) hH hS (lv_sub hl [0, 1, 2, 3, 5, 6, 7] rfl)
set_option maxHeartbeats 4000000 in
set_option maxRecDepth 100000 in
theorem s_Rows_reached (l : Launch) (D : va_G) (cs : CS) (kf : KF) (T : TF) (O : List Nat) (X : va_W) (a0 : Nat) (x1 : Int32) (t_a0 : T a0 = some (15, 0, 0)) (hO : okO T O [1, 12, 15, 19]) : TK l D cs kf yX5_reached cX5_reached 2 (some (.int)) { frames := 5, cells := 0, slots := 0, locals := 129 } [.ref a0, .int x1] T O X (Ti D cs (fun r u => u = (T, O, X) ∧ 0 ≤ r.toInt ∧ r.toInt ≤ 16383)) := by
  refine tk_of (by decide) (Nat.le_of_ble_eq_true rfl) (fun p e s m below meth c ls A H locs hx hb hr hml hown hts hlocks hnm hkb hH hS hA hOX hks hE hl => ?_)
  have hown : s.vm.findClass RX5 = some m.cls := hown
  have hl : lv_has ls 2 [(0, .ref a0), (1, .int x1)] := hl
  refine lv_aload_n hx hb dX5_reached_0 rfl (lv_at hl 0 rfl) ?_
  refine lv_aload_n hx hb dX5_reached_1 rfl (lv_at hl 0 rfl) ?_
  refine t_get (ci := 5) (lst := ft5 0 0) (C := RX5) (F := TX5) (N := 6) hx hb hts uX5 hown hkb hH t_a0 (hO.no t_a0 (by decide)) (fun _ h9 => h9) rfl rfl 0 (by decide) rfl kw_244 (fun _ h9 => h9) dX5_reached_2 (fun v9 h9 => ?_)
  obtain ⟨v2, hv2, gv2, rfl, t_v2⟩ := h9
  refine t_get (ci := 9) (lst := ft9w hv2 gv2) (C := RX9) (F := TX9) (N := 14) hx hb hts uX9 hown hkb hH t_v2.1 (hO.no t_v2.1 (by decide)) (fun fs => (ob9w t_v2 fs).mp) rfl rfl 3 (by decide) rfl kw_120 (fun _ h9 => h9) dX5_reached_5 (fun v9 h9 => ?_)
  obtain ⟨v5, rfl, l_v5, u_v5⟩ := h9
  refine lv_iload_n hx hb dX5_reached_8 rfl (lv_at hl 1 rfl) ?_
  refine lv_iand hx hb dX5_reached_9 ?_
  refine lv_topi (fun v9 ev9 => ?_)
  have tv9 : 0 ≤ v9.toInt ∧ v9.toInt ≤ v5.toInt := by rw [ev9]; exact and_l (by omega)
  refine lv_iload_n hx hb dX5_reached_10 rfl (lv_at hl 1 rfl) ?_
  refine lv_aload_n hx hb dX5_reached_11 rfl (lv_at hl 0 rfl) ?_
  refine t_get (ci := 5) (lst := ft5 0 0) (C := RX5) (F := TX5) (N := 6) hx hb hts uX5 hown hkb hH t_a0 (hO.no t_a0 (by decide)) (fun _ h9 => h9) rfl rfl 0 (by decide) rfl kw_244 (fun _ h9 => h9) dX5_reached_12 (fun v9 h9 => ?_)
  obtain ⟨v12, hv12, gv12, rfl, t_v12⟩ := h9
  refine t_get (ci := 9) (lst := ft9w hv12 gv12) (C := RX9) (F := TX9) (N := 14) hx hb hts uX9 hown hkb hH t_v12.1 (hO.no t_v12.1 (by decide)) (fun fs => (ob9w t_v12 fs).mp) rfl rfl 4 (by decide) rfl kw_127 (fun _ h9 => h9) dX5_reached_15 (fun v9 h9 => ?_)
  obtain ⟨v15, rfl, l_v15, u_v15⟩ := h9
  refine lv_iconst (v := (-1)) hx hb dX5_reached_18 (by decide) ?_
  refine lv_ixor hx hb dX5_reached_19 ?_
  refine lv_topi (fun v19 ev19 => ?_)
  refine lv_iand hx hb dX5_reached_20 ?_
  refine lv_topi (fun v20 ev20 => ?_)
  refine lv_iload_n hx hb dX5_reached_21 rfl (lv_at hl 1 rfl) ?_
  refine lv_iconst (v := 0) hx hb dX5_reached_22 (by decide) ?_
  refine tk_i hH hS hA (tr_V (n := 4) (As := [.int v9, .int v20, .int x1, .int 0]) hx hb hml hown hts hkb hH hOX hks hE hS hA (s_Rows_spread l D cs kf T O X a0 v9 v20 x1 (0) t_a0 (by omega) (by omega) (hO.sub (by decide))) kw_854 kw_855 kw_856 kw_8 kw_857 (by decide +kernel) ⟨Nat.le_of_ble_eq_true rfl, Nat.le_of_ble_eq_true rfl⟩ (HT.recv (ci := 5) hkb hH t_a0 (hO.no t_a0 (by decide)) rfl) rfl rfl hl.1 (Nat.le_of_ble_eq_true rfl) dX5_reached_23 ⟨Nat.le_of_ble_eq_true rfl, Nat.le_of_ble_eq_true rfl⟩) (fun v23 u H locs hz9 hH hS => ?_)
  obtain ⟨rfl, l_v23, u_v23⟩ := hz9
  have hH : HT D cs A T O X H := hH
  refine W.widen (k := 0) (n := 0) (Nat.le_of_ble_eq_true rfl) (Nat.le_of_ble_eq_true rfl) ?_
  exact te_i hx hb hr hlocks hH hS (⟨rfl, by omega, by omega⟩) dX5_reached_26
set_option maxHeartbeats 4000000 in
set_option maxRecDepth 100000 in
theorem s_Rows_getsUp (l : Launch) (D : va_G) (cs : CS) (kf : KF) (T : TF) (O : List Nat) (X : va_W) (a0 : Nat) (x1 : Int32) (t_a0 : T a0 = some (15, 0, 0)) (hO : okO T O [1, 12, 15, 19]) : TK l D cs kf yX5_getsUp cX5_getsUp 2 (some (.boolean)) { frames := 5, cells := 0, slots := 0, locals := 129 } [.ref a0, .int x1] T O X (Ti D cs (fun r u => u = (T, O, X) ∧ 0 ≤ r.toInt ∧ r.toInt ≤ 1)) := by
  refine tk_of (by decide) (Nat.le_of_ble_eq_true rfl) (fun p e s m below meth c ls A H locs hx hb hr hml hown hts hlocks hnm hkb hH hS hA hOX hks hE hl => ?_)
  have hown : s.vm.findClass RX5 = some m.cls := hown
  have hl : lv_has ls 2 [(0, .ref a0), (1, .int x1)] := hl
  refine lv_aload_n hx hb dX5_getsUp_0 rfl (lv_at hl 0 rfl) ?_
  refine lv_aload_n hx hb dX5_getsUp_1 rfl (lv_at hl 0 rfl) ?_
  refine t_get (ci := 5) (lst := ft5 0 0) (C := RX5) (F := TX5) (N := 6) hx hb hts uX5 hown hkb hH t_a0 (hO.no t_a0 (by decide)) (fun _ h9 => h9) rfl rfl 0 (by decide) rfl kw_244 (fun _ h9 => h9) dX5_getsUp_2 (fun v9 h9 => ?_)
  obtain ⟨v2, hv2, gv2, rfl, t_v2⟩ := h9
  refine t_get (ci := 9) (lst := ft9w hv2 gv2) (C := RX9) (F := TX9) (N := 14) hx hb hts uX9 hown hkb hH t_v2.1 (hO.no t_v2.1 (by decide)) (fun fs => (ob9w t_v2 fs).mp) rfl rfl 3 (by decide) rfl kw_120 (fun _ h9 => h9) dX5_getsUp_5 (fun v9 h9 => ?_)
  obtain ⟨v5, rfl, l_v5, u_v5⟩ := h9
  refine lv_iload_n hx hb dX5_getsUp_8 rfl (lv_at hl 1 rfl) ?_
  refine lv_iand hx hb dX5_getsUp_9 ?_
  refine lv_topi (fun v9 ev9 => ?_)
  have tv9 : 0 ≤ v9.toInt ∧ v9.toInt ≤ v5.toInt := by rw [ev9]; exact and_l (by omega)
  refine lv_iload_n hx hb dX5_getsUp_10 rfl (lv_at hl 1 rfl) ?_
  refine lv_aload_n hx hb dX5_getsUp_11 rfl (lv_at hl 0 rfl) ?_
  refine t_get (ci := 5) (lst := ft5 0 0) (C := RX5) (F := TX5) (N := 6) hx hb hts uX5 hown hkb hH t_a0 (hO.no t_a0 (by decide)) (fun _ h9 => h9) rfl rfl 0 (by decide) rfl kw_244 (fun _ h9 => h9) dX5_getsUp_12 (fun v9 h9 => ?_)
  obtain ⟨v12, hv12, gv12, rfl, t_v12⟩ := h9
  refine t_get (ci := 9) (lst := ft9w hv12 gv12) (C := RX9) (F := TX9) (N := 14) hx hb hts uX9 hown hkb hH t_v12.1 (hO.no t_v12.1 (by decide)) (fun fs => (ob9w t_v12 fs).mp) rfl rfl 4 (by decide) rfl kw_127 (fun _ h9 => h9) dX5_getsUp_15 (fun v9 h9 => ?_)
  obtain ⟨v15, rfl, l_v15, u_v15⟩ := h9
  refine lv_iconst (v := (-1)) hx hb dX5_getsUp_18 (by decide) ?_
  refine lv_ixor hx hb dX5_getsUp_19 ?_
  refine lv_topi (fun v19 ev19 => ?_)
  refine lv_iand hx hb dX5_getsUp_20 ?_
  refine lv_topi (fun v20 ev20 => ?_)
  refine lv_iload_n hx hb dX5_getsUp_21 rfl (lv_at hl 1 rfl) ?_
  refine lv_aload_n hx hb dX5_getsUp_22 rfl (lv_at hl 0 rfl) ?_
  refine t_get (ci := 5) (lst := ft5 0 0) (C := RX5) (F := TX5) (N := 6) hx hb hts uX5 hown hkb hH t_a0 (hO.no t_a0 (by decide)) (fun _ h9 => h9) rfl rfl 0 (by decide) rfl kw_244 (fun _ h9 => h9) dX5_getsUp_23 (fun v9 h9 => ?_)
  obtain ⟨v23, hv23, gv23, rfl, t_v23⟩ := h9
  refine t_get (ci := 9) (lst := ft9w hv23 gv23) (C := RX9) (F := TX9) (N := 14) hx hb hts uX9 hown hkb hH t_v23.1 (hO.no t_v23.1 (by decide)) (fun fs => (ob9w t_v23 fs).mp) rfl rfl 4 (by decide) rfl kw_127 (fun _ h9 => h9) dX5_getsUp_26 (fun v9 h9 => ?_)
  obtain ⟨v26, rfl, l_v26, u_v26⟩ := h9
  refine tk_i hH hS hA (tr_V (n := 4) (As := [.int v9, .int v20, .int x1, .int v26]) hx hb hml hown hts hkb hH hOX hks hE hS hA (s_Rows_spread l D cs kf T O X a0 v9 v20 x1 v26 t_a0 (by omega) (by omega) (hO.sub (by decide))) kw_854 kw_855 kw_856 kw_8 kw_857 (by decide +kernel) ⟨Nat.le_of_ble_eq_true rfl, Nat.le_of_ble_eq_true rfl⟩ (HT.recv (ci := 5) hkb hH t_a0 (hO.no t_a0 (by decide)) rfl) rfl rfl hl.1 (Nat.le_of_ble_eq_true rfl) dX5_getsUp_29 ⟨Nat.le_of_ble_eq_true rfl, Nat.le_of_ble_eq_true rfl⟩) (fun v29 u H locs hz9 hH hS => ?_)
  obtain ⟨rfl, l_v29, u_v29⟩ := hz9
  have hH : HT D cs A T O X H := hH
  refine W.widen (k := 0) (n := 0) (Nat.le_of_ble_eq_true rfl) (Nat.le_of_ble_eq_true rfl) ?_
  refine lv_aload_n hx hb dX5_getsUp_32 rfl (lv_at hl 0 rfl) ?_
  refine t_get (ci := 5) (lst := ft5 0 0) (C := RX5) (F := TX5) (N := 6) hx hb hts uX5 hown hkb hH t_a0 (hO.no t_a0 (by decide)) (fun _ h9 => h9) rfl rfl 0 (by decide) rfl kw_244 (fun _ h9 => h9) dX5_getsUp_33 (fun v9 h9 => ?_)
  obtain ⟨v33, hv33, gv33, rfl, t_v33⟩ := h9
  refine t_get (ci := 9) (lst := ft9w hv33 gv33) (C := RX9) (F := TX9) (N := 14) hx hb hts uX9 hown hkb hH t_v33.1 (hO.no t_v33.1 (by decide)) (fun fs => (ob9w t_v33 fs).mp) rfl rfl 4 (by decide) rfl kw_127 (fun _ h9 => h9) dX5_getsUp_36 (fun v9 h9 => ?_)
  obtain ⟨v36, rfl, l_v36, u_v36⟩ := h9
  refine lv_iand hx hb dX5_getsUp_39 ?_
  refine lv_topi (fun v39 ev39 => ?_)
  have tv39 : 0 ≤ v39.toInt ∧ v39.toInt ≤ v29.toInt := by rw [ev39]; exact and_l (by omega)
  have ttv39 : 0 ≤ v39.toInt ∧ v39.toInt ≤ v36.toInt := by rw [ev39]; exact and_r (by omega)
  have J48 : ∀ (k48_0 : Int32) (H : Heap) (locs : List Loc) (ls : Array Slot), (0 ≤ k48_0.toInt) → (k48_0.toInt ≤ 1) → HT D cs A T O X H → va_S A s.heap H locs → lv_has ls 2 [] → W p l e { frames := 5, cells := 0, slots := 0, locals := 129 } s m [.ref a0, .int x1].toArray below meth c H locs 0 0 (MQ below (Ti D cs (fun r u => u = (T, O, X) ∧ 0 ≤ r.toInt ∧ r.toInt ≤ 1) A) [.ref a0, .int x1].toArray s 0 0 A) (F0 m 48 ls [.int k48_0]) := by
    intro k48_0 H locs ls l_k48_0 u_k48_0 hH hS hl
    exact te_z hx hb hr hlocks (nar01 (by omega) (by omega)) hH hS (⟨rfl, by omega, by omega⟩) dX5_getsUp_48
  refine lv_if_eq (tgt := 47) hx hb dX5_getsUp_40 (by decide) (fun c40 => ?_) (fun c40 => ?_)
  · skip
    have tc40 := f_eq (k := 0) (by decide) c40
    refine lv_iconst (v := 0) hx hb dX5_getsUp_47 (by decide) ?_
    exact J48 0 _ _ _ (by decide) (by decide) hH hS (lv_sub hl [] rfl)
  · skip
    have tc40 := f_ne (k := 0) (by decide) c40
    refine lv_iconst (v := 1) hx hb dX5_getsUp_43 (by decide) ?_
    refine lv_goto (tgt := 48) hx hb dX5_getsUp_44 (by decide) ?_
    exact J48 1 _ _ _ (by decide) (by decide) hH hS (lv_sub hl [] rfl)
theorem dX10_find_0 : decode cX10_find 0 = .ok (.aload_n 0, 1) := by decide +kernel
theorem dX10_find_1 : decode cX10_find 1 = .ok (.aload_n 0, 1) := by decide +kernel
theorem dX10_find_2 : decode cX10_find 2 = .ok (.aload_n 1, 1) := by decide +kernel
theorem dX10_find_3 : decode cX10_find 3 = .ok (.iload_n 2, 1) := by decide +kernel
theorem dX10_find_4 : decode cX10_find 4 = .ok (.invokevirtual 35, 3) := by decide +kernel
theorem dX10_find_7 : decode cX10_find 7 = .ok (.putfield 18, 3) := by decide +kernel
theorem dX10_find_10 : decode cX10_find 10 = .ok (.aload_n 0, 1) := by decide +kernel
theorem dX10_find_11 : decode cX10_find 11 = .ok (.aload_n 1, 1) := by decide +kernel
theorem dX10_find_12 : decode cX10_find 12 = .ok (.aload_n 0, 1) := by decide +kernel
theorem dX10_find_13 : decode cX10_find 13 = .ok (.getfield 18, 3) := by decide +kernel
theorem dX10_find_16 : decode cX10_find 16 = .ok (.invokevirtual 39, 3) := by decide +kernel
theorem dX10_find_19 : decode cX10_find 19 = .ok (.aload_n 0, 1) := by decide +kernel
theorem dX10_find_20 : decode cX10_find 20 = .ok (.getfield 18, 3) := by decide +kernel
theorem dX10_find_23 : decode cX10_find 23 = .ok (.ifCond .le 12, 3) := by decide +kernel
theorem dX10_find_26 : decode cX10_find 26 = .ok (.aload_n 0, 1) := by decide +kernel
theorem dX10_find_27 : decode cX10_find 27 = .ok (.getfield 9, 3) := by decide +kernel
theorem dX10_find_30 : decode cX10_find 30 = .ok (.iconst 0, 1) := by decide +kernel
theorem dX10_find_31 : decode cX10_find 31 = .ok (.iaload, 1) := by decide +kernel
theorem dX10_find_32 : decode cX10_find 32 = .ok (.goto 4, 3) := by decide +kernel
theorem dX10_find_35 : decode cX10_find 35 = .ok (.iconst 0, 1) := by decide +kernel
theorem dX10_find_36 : decode cX10_find 36 = .ok (.istore_n 3, 1) := by decide +kernel
theorem dX10_find_37 : decode cX10_find 37 = .ok (.iconst 0, 1) := by decide +kernel
theorem dX10_find_38 : decode cX10_find 38 = .ok (.istore 4, 2) := by decide +kernel
theorem dX10_find_40 : decode cX10_find 40 = .ok (.iload 4, 2) := by decide +kernel
theorem dX10_find_42 : decode cX10_find 42 = .ok (.aload_n 0, 1) := by decide +kernel
theorem dX10_find_43 : decode cX10_find 43 = .ok (.getfield 18, 3) := by decide +kernel
theorem dX10_find_46 : decode cX10_find 46 = .ok (.if_icmp .ge 55, 3) := by decide +kernel
theorem dX10_find_49 : decode cX10_find 49 = .ok (.iload_n 3, 1) := by decide +kernel
theorem dX10_find_50 : decode cX10_find 50 = .ok (.invokestatic 43, 3) := by decide +kernel
theorem dX10_find_53 : decode cX10_find 53 = .ok (.istore 5, 2) := by decide +kernel
theorem dX10_find_55 : decode cX10_find 55 = .ok (.aload_n 0, 1) := by decide +kernel
theorem dX10_find_56 : decode cX10_find 56 = .ok (.getfield 15, 3) := by decide +kernel
theorem dX10_find_59 : decode cX10_find 59 = .ok (.iload 4, 2) := by decide +kernel
theorem dX10_find_61 : decode cX10_find 61 = .ok (.iload 5, 2) := by decide +kernel
theorem dX10_find_63 : decode cX10_find 63 = .ok (.iastore, 1) := by decide +kernel
theorem dX10_find_64 : decode cX10_find 64 = .ok (.iload 4, 2) := by decide +kernel
theorem dX10_find_66 : decode cX10_find 66 = .ok (.iconst 1, 1) := by decide +kernel
theorem dX10_find_67 : decode cX10_find 67 = .ok (.iadd, 1) := by decide +kernel
theorem dX10_find_68 : decode cX10_find 68 = .ok (.aload_n 0, 1) := by decide +kernel
theorem dX10_find_69 : decode cX10_find 69 = .ok (.getfield 18, 3) := by decide +kernel
theorem dX10_find_72 : decode cX10_find 72 = .ok (.if_icmp .ge 21, 3) := by decide +kernel
theorem dX10_find_75 : decode cX10_find 75 = .ok (.aload_n 1, 1) := by decide +kernel
theorem dX10_find_76 : decode cX10_find 76 = .ok (.iload 5, 2) := by decide +kernel
theorem dX10_find_78 : decode cX10_find 78 = .ok (.aload_n 0, 1) := by decide +kernel
theorem dX10_find_79 : decode cX10_find 79 = .ok (.getfield 9, 3) := by decide +kernel
theorem dX10_find_82 : decode cX10_find 82 = .ok (.iload 4, 2) := by decide +kernel
theorem dX10_find_84 : decode cX10_find 84 = .ok (.iconst 1, 1) := by decide +kernel
theorem dX10_find_85 : decode cX10_find 85 = .ok (.iadd, 1) := by decide +kernel
theorem dX10_find_86 : decode cX10_find 86 = .ok (.iaload, 1) := by decide +kernel
theorem dX10_find_87 : decode cX10_find 87 = .ok (.invokevirtual 49, 3) := by decide +kernel
theorem dX10_find_90 : decode cX10_find 90 = .ok (.goto 4, 3) := by decide +kernel
theorem dX10_find_93 : decode cX10_find 93 = .ok (.iconst 0, 1) := by decide +kernel
theorem dX10_find_94 : decode cX10_find 94 = .ok (.istore_n 3, 1) := by decide +kernel
theorem dX10_find_95 : decode cX10_find 95 = .ok (.iinc 4 1, 3) := by decide +kernel
theorem dX10_find_98 : decode cX10_find 98 = .ok (.goto (-58), 3) := by decide +kernel
theorem dX10_find_101 : decode cX10_find 101 = .ok (.aload_n 0, 1) := by decide +kernel
theorem dX10_find_102 : decode cX10_find 102 = .ok (.getfield 18, 3) := by decide +kernel
theorem dX10_find_105 : decode cX10_find 105 = .ok (.ireturn, 1) := by decide +kernel
theorem dX10_findLayers_0 : decode cX10_findLayers 0 = .ok (.aload_n 1, 1) := by decide +kernel
theorem dX10_findLayers_1 : decode cX10_findLayers 1 = .ok (.getfield 55, 3) := by decide +kernel
theorem dX10_findLayers_4 : decode cX10_findLayers 4 = .ok (.getfield 59, 3) := by decide +kernel
theorem dX10_findLayers_7 : decode cX10_findLayers 7 = .ok (.iload_n 2, 1) := by decide +kernel
theorem dX10_findLayers_8 : decode cX10_findLayers 8 = .ok (.iand, 1) := by decide +kernel
theorem dX10_findLayers_9 : decode cX10_findLayers 9 = .ok (.istore_n 3, 1) := by decide +kernel
theorem dX10_findLayers_10 : decode cX10_findLayers 10 = .ok (.aload_n 0, 1) := by decide +kernel
theorem dX10_findLayers_11 : decode cX10_findLayers 11 = .ok (.getfield 9, 3) := by decide +kernel
theorem dX10_findLayers_14 : decode cX10_findLayers 14 = .ok (.iconst 0, 1) := by decide +kernel
theorem dX10_findLayers_15 : decode cX10_findLayers 15 = .ok (.iload_n 3, 1) := by decide +kernel
theorem dX10_findLayers_16 : decode cX10_findLayers 16 = .ok (.iastore, 1) := by decide +kernel
theorem dX10_findLayers_17 : decode cX10_findLayers 17 = .ok (.iconst 0, 1) := by decide +kernel
theorem dX10_findLayers_18 : decode cX10_findLayers 18 = .ok (.istore 4, 2) := by decide +kernel
theorem dX10_findLayers_20 : decode cX10_findLayers 20 = .ok (.iload 4, 2) := by decide +kernel
theorem dX10_findLayers_22 : decode cX10_findLayers 22 = .ok (.bipush 14, 2) := by decide +kernel
theorem dX10_findLayers_24 : decode cX10_findLayers 24 = .ok (.if_icmp .ge 131, 3) := by decide +kernel
theorem dX10_findLayers_27 : decode cX10_findLayers 27 = .ok (.aload_n 0, 1) := by decide +kernel
theorem dX10_findLayers_28 : decode cX10_findLayers 28 = .ok (.getfield 9, 3) := by decide +kernel
theorem dX10_findLayers_31 : decode cX10_findLayers 31 = .ok (.iload 4, 2) := by decide +kernel
theorem dX10_findLayers_33 : decode cX10_findLayers 33 = .ok (.iaload, 1) := by decide +kernel
theorem dX10_findLayers_34 : decode cX10_findLayers 34 = .ok (.aload_n 1, 1) := by decide +kernel
theorem dX10_findLayers_35 : decode cX10_findLayers 35 = .ok (.getfield 55, 3) := by decide +kernel
theorem dX10_findLayers_38 : decode cX10_findLayers 38 = .ok (.getfield 64, 3) := by decide +kernel
theorem dX10_findLayers_41 : decode cX10_findLayers 41 = .ok (.iand, 1) := by decide +kernel
theorem dX10_findLayers_42 : decode cX10_findLayers 42 = .ok (.ifCond .eq 25, 3) := by decide +kernel
theorem dX10_findLayers_45 : decode cX10_findLayers 45 = .ok (.aload_n 0, 1) := by decide +kernel
theorem dX10_findLayers_46 : decode cX10_findLayers 46 = .ok (.getfield 9, 3) := by decide +kernel
theorem dX10_findLayers_49 : decode cX10_findLayers 49 = .ok (.iload 4, 2) := by decide +kernel
theorem dX10_findLayers_51 : decode cX10_findLayers 51 = .ok (.dup2, 1) := by decide +kernel
theorem dX10_findLayers_52 : decode cX10_findLayers 52 = .ok (.iaload, 1) := by decide +kernel
theorem dX10_findLayers_53 : decode cX10_findLayers 53 = .ok (.aload_n 1, 1) := by decide +kernel
theorem dX10_findLayers_54 : decode cX10_findLayers 54 = .ok (.getfield 55, 3) := by decide +kernel
theorem dX10_findLayers_57 : decode cX10_findLayers 57 = .ok (.getfield 64, 3) := by decide +kernel
theorem dX10_findLayers_60 : decode cX10_findLayers 60 = .ok (.iand, 1) := by decide +kernel
theorem dX10_findLayers_61 : decode cX10_findLayers 61 = .ok (.iastore, 1) := by decide +kernel
theorem dX10_findLayers_62 : decode cX10_findLayers 62 = .ok (.iload 4, 2) := by decide +kernel
theorem dX10_findLayers_64 : decode cX10_findLayers 64 = .ok (.iconst 1, 1) := by decide +kernel
theorem dX10_findLayers_65 : decode cX10_findLayers 65 = .ok (.iadd, 1) := by decide +kernel
theorem dX10_findLayers_66 : decode cX10_findLayers 66 = .ok (.ireturn, 1) := by decide +kernel
theorem dX10_findLayers_67 : decode cX10_findLayers 67 = .ok (.iconst 0, 1) := by decide +kernel
theorem dX10_findLayers_68 : decode cX10_findLayers 68 = .ok (.istore 5, 2) := by decide +kernel
theorem dX10_findLayers_70 : decode cX10_findLayers 70 = .ok (.iconst 0, 1) := by decide +kernel
theorem dX10_findLayers_71 : decode cX10_findLayers 71 = .ok (.istore 6, 2) := by decide +kernel
theorem dX10_findLayers_73 : decode cX10_findLayers 73 = .ok (.iload 6, 2) := by decide +kernel
theorem dX10_findLayers_75 : decode cX10_findLayers 75 = .ok (.bipush 14, 2) := by decide +kernel
theorem dX10_findLayers_77 : decode cX10_findLayers 77 = .ok (.if_icmp .ge 40, 3) := by decide +kernel
theorem dX10_findLayers_80 : decode cX10_findLayers 80 = .ok (.aload_n 0, 1) := by decide +kernel
theorem dX10_findLayers_81 : decode cX10_findLayers 81 = .ok (.getfield 9, 3) := by decide +kernel
theorem dX10_findLayers_84 : decode cX10_findLayers 84 = .ok (.iload 4, 2) := by decide +kernel
theorem dX10_findLayers_86 : decode cX10_findLayers 86 = .ok (.iaload, 1) := by decide +kernel
theorem dX10_findLayers_87 : decode cX10_findLayers 87 = .ok (.iload 6, 2) := by decide +kernel
theorem dX10_findLayers_89 : decode cX10_findLayers 89 = .ok (.ishr, 1) := by decide +kernel
theorem dX10_findLayers_90 : decode cX10_findLayers 90 = .ok (.iconst 1, 1) := by decide +kernel
theorem dX10_findLayers_91 : decode cX10_findLayers 91 = .ok (.iand, 1) := by decide +kernel
theorem dX10_findLayers_92 : decode cX10_findLayers 92 = .ok (.ifCond .eq 19, 3) := by decide +kernel
theorem dX10_findLayers_95 : decode cX10_findLayers 95 = .ok (.iload 5, 2) := by decide +kernel
theorem dX10_findLayers_97 : decode cX10_findLayers 97 = .ok (.aload_n 1, 1) := by decide +kernel
theorem dX10_findLayers_98 : decode cX10_findLayers 98 = .ok (.iload 6, 2) := by decide +kernel
theorem dX10_findLayers_100 : decode cX10_findLayers 100 = .ok (.iload_n 2, 1) := by decide +kernel
theorem dX10_findLayers_101 : decode cX10_findLayers 101 = .ok (.iload_n 3, 1) := by decide +kernel
theorem dX10_findLayers_102 : decode cX10_findLayers 102 = .ok (.iconst (-1), 1) := by decide +kernel
theorem dX10_findLayers_103 : decode cX10_findLayers 103 = .ok (.ixor, 1) := by decide +kernel
theorem dX10_findLayers_104 : decode cX10_findLayers 104 = .ok (.iand, 1) := by decide +kernel
theorem dX10_findLayers_105 : decode cX10_findLayers 105 = .ok (.invokevirtual 49, 3) := by decide +kernel
theorem dX10_findLayers_108 : decode cX10_findLayers 108 = .ok (.ior, 1) := by decide +kernel
theorem dX10_findLayers_109 : decode cX10_findLayers 109 = .ok (.istore 5, 2) := by decide +kernel
theorem dX10_findLayers_111 : decode cX10_findLayers 111 = .ok (.iinc 6 1, 3) := by decide +kernel
theorem dX10_findLayers_114 : decode cX10_findLayers 114 = .ok (.goto (-41), 3) := by decide +kernel
theorem dX10_findLayers_117 : decode cX10_findLayers 117 = .ok (.iload 5, 2) := by decide +kernel
theorem dX10_findLayers_119 : decode cX10_findLayers 119 = .ok (.ifCond .eq 12, 3) := by decide +kernel
theorem dX10_findLayers_122 : decode cX10_findLayers 122 = .ok (.iload 4, 2) := by decide +kernel
theorem dX10_findLayers_124 : decode cX10_findLayers 124 = .ok (.iconst 1, 1) := by decide +kernel
theorem dX10_findLayers_125 : decode cX10_findLayers 125 = .ok (.iadd, 1) := by decide +kernel
theorem dX10_findLayers_126 : decode cX10_findLayers 126 = .ok (.bipush 14, 2) := by decide +kernel
theorem dX10_findLayers_128 : decode cX10_findLayers 128 = .ok (.if_icmp .lt 5, 3) := by decide +kernel
theorem dX10_findLayers_131 : decode cX10_findLayers 131 = .ok (.iconst 0, 1) := by decide +kernel
theorem dX10_findLayers_132 : decode cX10_findLayers 132 = .ok (.ireturn, 1) := by decide +kernel
theorem dX10_findLayers_133 : decode cX10_findLayers 133 = .ok (.iload_n 3, 1) := by decide +kernel
theorem dX10_findLayers_134 : decode cX10_findLayers 134 = .ok (.iload 5, 2) := by decide +kernel
theorem dX10_findLayers_136 : decode cX10_findLayers 136 = .ok (.ior, 1) := by decide +kernel
theorem dX10_findLayers_137 : decode cX10_findLayers 137 = .ok (.istore_n 3, 1) := by decide +kernel
theorem dX10_findLayers_138 : decode cX10_findLayers 138 = .ok (.aload_n 0, 1) := by decide +kernel
theorem dX10_findLayers_139 : decode cX10_findLayers 139 = .ok (.getfield 9, 3) := by decide +kernel
theorem dX10_findLayers_142 : decode cX10_findLayers 142 = .ok (.iload 4, 2) := by decide +kernel
theorem dX10_findLayers_144 : decode cX10_findLayers 144 = .ok (.iconst 1, 1) := by decide +kernel
theorem dX10_findLayers_145 : decode cX10_findLayers 145 = .ok (.iadd, 1) := by decide +kernel
theorem dX10_findLayers_146 : decode cX10_findLayers 146 = .ok (.iload 5, 2) := by decide +kernel
theorem dX10_findLayers_148 : decode cX10_findLayers 148 = .ok (.iastore, 1) := by decide +kernel
theorem dX10_findLayers_149 : decode cX10_findLayers 149 = .ok (.iinc 4 1, 3) := by decide +kernel
theorem dX10_findLayers_152 : decode cX10_findLayers 152 = .ok (.goto (-132), 3) := by decide +kernel
theorem dX10_findLayers_155 : decode cX10_findLayers 155 = .ok (.iconst 0, 1) := by decide +kernel
theorem dX10_findLayers_156 : decode cX10_findLayers 156 = .ok (.ireturn, 1) := by decide +kernel
theorem dX10_howMany_0 : decode cX10_howMany 0 = .ok (.aload_n 0, 1) := by decide +kernel
theorem dX10_howMany_1 : decode cX10_howMany 1 = .ok (.aload_n 1, 1) := by decide +kernel
theorem dX10_howMany_2 : decode cX10_howMany 2 = .ok (.iload_n 2, 1) := by decide +kernel
theorem dX10_howMany_3 : decode cX10_howMany 3 = .ok (.invokevirtual 35, 3) := by decide +kernel
theorem dX10_howMany_6 : decode cX10_howMany 6 = .ok (.istore_n 3, 1) := by decide +kernel
theorem dX10_howMany_7 : decode cX10_howMany 7 = .ok (.iload_n 3, 1) := by decide +kernel
theorem dX10_howMany_8 : decode cX10_howMany 8 = .ok (.iconst 1, 1) := by decide +kernel
theorem dX10_howMany_9 : decode cX10_howMany 9 = .ok (.isub, 1) := by decide +kernel
theorem dX10_howMany_10 : decode cX10_howMany 10 = .ok (.istore 4, 2) := by decide +kernel
theorem dX10_howMany_12 : decode cX10_howMany 12 = .ok (.iload 4, 2) := by decide +kernel
theorem dX10_howMany_14 : decode cX10_howMany 14 = .ok (.ifCond .lt 78, 3) := by decide +kernel
theorem dX10_howMany_17 : decode cX10_howMany 17 = .ok (.iconst 0, 1) := by decide +kernel
theorem dX10_howMany_18 : decode cX10_howMany 18 = .ok (.istore 5, 2) := by decide +kernel
theorem dX10_howMany_20 : decode cX10_howMany 20 = .ok (.iload 5, 2) := by decide +kernel
theorem dX10_howMany_22 : decode cX10_howMany 22 = .ok (.bipush 14, 2) := by decide +kernel
theorem dX10_howMany_24 : decode cX10_howMany 24 = .ok (.if_icmp .ge 62, 3) := by decide +kernel
theorem dX10_howMany_27 : decode cX10_howMany 27 = .ok (.aload_n 0, 1) := by decide +kernel
theorem dX10_howMany_28 : decode cX10_howMany 28 = .ok (.getfield 9, 3) := by decide +kernel
theorem dX10_howMany_31 : decode cX10_howMany 31 = .ok (.iload 4, 2) := by decide +kernel
theorem dX10_howMany_33 : decode cX10_howMany 33 = .ok (.iaload, 1) := by decide +kernel
theorem dX10_howMany_34 : decode cX10_howMany 34 = .ok (.iload 5, 2) := by decide +kernel
theorem dX10_howMany_36 : decode cX10_howMany 36 = .ok (.ishr, 1) := by decide +kernel
theorem dX10_howMany_37 : decode cX10_howMany 37 = .ok (.iconst 1, 1) := by decide +kernel
theorem dX10_howMany_38 : decode cX10_howMany 38 = .ok (.iand, 1) := by decide +kernel
theorem dX10_howMany_39 : decode cX10_howMany 39 = .ok (.ifCond .eq 41, 3) := by decide +kernel
theorem dX10_howMany_42 : decode cX10_howMany 42 = .ok (.aload_n 0, 1) := by decide +kernel
theorem dX10_howMany_43 : decode cX10_howMany 43 = .ok (.getfield 22, 3) := by decide +kernel
theorem dX10_howMany_46 : decode cX10_howMany 46 = .ok (.iload 5, 2) := by decide +kernel
theorem dX10_howMany_48 : decode cX10_howMany 48 = .ok (.iload 4, 2) := by decide +kernel
theorem dX10_howMany_50 : decode cX10_howMany 50 = .ok (.iload_n 3, 1) := by decide +kernel
theorem dX10_howMany_51 : decode cX10_howMany 51 = .ok (.iconst 1, 1) := by decide +kernel
theorem dX10_howMany_52 : decode cX10_howMany 52 = .ok (.isub, 1) := by decide +kernel
theorem dX10_howMany_53 : decode cX10_howMany 53 = .ok (.if_icmp .ne 7, 3) := by decide +kernel
theorem dX10_howMany_56 : decode cX10_howMany 56 = .ok (.lconst 1, 1) := by decide +kernel
theorem dX10_howMany_57 : decode cX10_howMany 57 = .ok (.goto 22, 3) := by decide +kernel
theorem dX10_howMany_60 : decode cX10_howMany 60 = .ok (.aload_n 0, 1) := by decide +kernel
theorem dX10_howMany_61 : decode cX10_howMany 61 = .ok (.aload_n 1, 1) := by decide +kernel
theorem dX10_howMany_62 : decode cX10_howMany 62 = .ok (.iload 5, 2) := by decide +kernel
theorem dX10_howMany_64 : decode cX10_howMany 64 = .ok (.aload_n 0, 1) := by decide +kernel
theorem dX10_howMany_65 : decode cX10_howMany 65 = .ok (.getfield 9, 3) := by decide +kernel
theorem dX10_howMany_68 : decode cX10_howMany 68 = .ok (.iload 4, 2) := by decide +kernel
theorem dX10_howMany_70 : decode cX10_howMany 70 = .ok (.iconst 1, 1) := by decide +kernel
theorem dX10_howMany_71 : decode cX10_howMany 71 = .ok (.iadd, 1) := by decide +kernel
theorem dX10_howMany_72 : decode cX10_howMany 72 = .ok (.iaload, 1) := by decide +kernel
theorem dX10_howMany_73 : decode cX10_howMany 73 = .ok (.invokevirtual 49, 3) := by decide +kernel
theorem dX10_howMany_76 : decode cX10_howMany 76 = .ok (.invokevirtual 65, 3) := by decide +kernel
theorem dX10_howMany_79 : decode cX10_howMany 79 = .ok (.lastore, 1) := by decide +kernel
theorem dX10_howMany_80 : decode cX10_howMany 80 = .ok (.iinc 5 1, 3) := by decide +kernel
theorem dX10_howMany_83 : decode cX10_howMany 83 = .ok (.goto (-63), 3) := by decide +kernel
theorem dX10_howMany_86 : decode cX10_howMany 86 = .ok (.iinc 4 (-1), 3) := by decide +kernel
theorem dX10_howMany_89 : decode cX10_howMany 89 = .ok (.goto (-77), 3) := by decide +kernel
theorem dX10_howMany_92 : decode cX10_howMany 92 = .ok (.iload_n 3, 1) := by decide +kernel
theorem dX10_howMany_93 : decode cX10_howMany 93 = .ok (.ifCond .ne 7, 3) := by decide +kernel
theorem dX10_howMany_96 : decode cX10_howMany 96 = .ok (.lconst 0, 1) := by decide +kernel
theorem dX10_howMany_97 : decode cX10_howMany 97 = .ok (.goto 13, 3) := by decide +kernel
theorem dX10_howMany_100 : decode cX10_howMany 100 = .ok (.aload_n 0, 1) := by decide +kernel
theorem dX10_howMany_101 : decode cX10_howMany 101 = .ok (.aload_n 0, 1) := by decide +kernel
theorem dX10_howMany_102 : decode cX10_howMany 102 = .ok (.getfield 9, 3) := by decide +kernel
theorem dX10_howMany_105 : decode cX10_howMany 105 = .ok (.iconst 0, 1) := by decide +kernel
theorem dX10_howMany_106 : decode cX10_howMany 106 = .ok (.iaload, 1) := by decide +kernel
theorem dX10_howMany_107 : decode cX10_howMany 107 = .ok (.invokevirtual 65, 3) := by decide +kernel
theorem dX10_howMany_110 : decode cX10_howMany 110 = .ok (.lreturn, 1) := by decide +kernel
theorem dX10_keepLeading_0 : decode cX10_keepLeading 0 = .ok (.iload_n 2, 1) := by decide +kernel
theorem dX10_keepLeading_1 : decode cX10_keepLeading 1 = .ok (.iconst 2, 1) := by decide +kernel
theorem dX10_keepLeading_2 : decode cX10_keepLeading 2 = .ok (.isub, 1) := by decide +kernel
theorem dX10_keepLeading_3 : decode cX10_keepLeading 3 = .ok (.istore_n 3, 1) := by decide +kernel
theorem dX10_keepLeading_4 : decode cX10_keepLeading 4 = .ok (.iload_n 3, 1) := by decide +kernel
theorem dX10_keepLeading_5 : decode cX10_keepLeading 5 = .ok (.ifCond .lt 71, 3) := by decide +kernel
theorem dX10_keepLeading_8 : decode cX10_keepLeading 8 = .ok (.iconst 0, 1) := by decide +kernel
theorem dX10_keepLeading_9 : decode cX10_keepLeading 9 = .ok (.istore 4, 2) := by decide +kernel
theorem dX10_keepLeading_11 : decode cX10_keepLeading 11 = .ok (.iload 4, 2) := by decide +kernel
theorem dX10_keepLeading_13 : decode cX10_keepLeading 13 = .ok (.bipush 14, 2) := by decide +kernel
theorem dX10_keepLeading_15 : decode cX10_keepLeading 15 = .ok (.if_icmp .ge 55, 3) := by decide +kernel
theorem dX10_keepLeading_18 : decode cX10_keepLeading 18 = .ok (.aload_n 0, 1) := by decide +kernel
theorem dX10_keepLeading_19 : decode cX10_keepLeading 19 = .ok (.getfield 9, 3) := by decide +kernel
theorem dX10_keepLeading_22 : decode cX10_keepLeading 22 = .ok (.iload_n 3, 1) := by decide +kernel
theorem dX10_keepLeading_23 : decode cX10_keepLeading 23 = .ok (.iaload, 1) := by decide +kernel
theorem dX10_keepLeading_24 : decode cX10_keepLeading 24 = .ok (.iload 4, 2) := by decide +kernel
theorem dX10_keepLeading_26 : decode cX10_keepLeading 26 = .ok (.ishr, 1) := by decide +kernel
theorem dX10_keepLeading_27 : decode cX10_keepLeading 27 = .ok (.iconst 1, 1) := by decide +kernel
theorem dX10_keepLeading_28 : decode cX10_keepLeading 28 = .ok (.iand, 1) := by decide +kernel
theorem dX10_keepLeading_29 : decode cX10_keepLeading 29 = .ok (.ifCond .eq 35, 3) := by decide +kernel
theorem dX10_keepLeading_32 : decode cX10_keepLeading 32 = .ok (.aload_n 1, 1) := by decide +kernel
theorem dX10_keepLeading_33 : decode cX10_keepLeading 33 = .ok (.iload 4, 2) := by decide +kernel
theorem dX10_keepLeading_35 : decode cX10_keepLeading 35 = .ok (.aload_n 0, 1) := by decide +kernel
theorem dX10_keepLeading_36 : decode cX10_keepLeading 36 = .ok (.getfield 9, 3) := by decide +kernel
theorem dX10_keepLeading_39 : decode cX10_keepLeading 39 = .ok (.iload_n 3, 1) := by decide +kernel
theorem dX10_keepLeading_40 : decode cX10_keepLeading 40 = .ok (.iconst 1, 1) := by decide +kernel
theorem dX10_keepLeading_41 : decode cX10_keepLeading 41 = .ok (.iadd, 1) := by decide +kernel
theorem dX10_keepLeading_42 : decode cX10_keepLeading 42 = .ok (.iaload, 1) := by decide +kernel
theorem dX10_keepLeading_43 : decode cX10_keepLeading 43 = .ok (.invokevirtual 49, 3) := by decide +kernel
theorem dX10_keepLeading_46 : decode cX10_keepLeading 46 = .ok (.ifCond .ne 18, 3) := by decide +kernel
theorem dX10_keepLeading_49 : decode cX10_keepLeading 49 = .ok (.aload_n 0, 1) := by decide +kernel
theorem dX10_keepLeading_50 : decode cX10_keepLeading 50 = .ok (.getfield 9, 3) := by decide +kernel
theorem dX10_keepLeading_53 : decode cX10_keepLeading 53 = .ok (.iload_n 3, 1) := by decide +kernel
theorem dX10_keepLeading_54 : decode cX10_keepLeading 54 = .ok (.dup2, 1) := by decide +kernel
theorem dX10_keepLeading_55 : decode cX10_keepLeading 55 = .ok (.iaload, 1) := by decide +kernel
theorem dX10_keepLeading_56 : decode cX10_keepLeading 56 = .ok (.iconst 1, 1) := by decide +kernel
theorem dX10_keepLeading_57 : decode cX10_keepLeading 57 = .ok (.iload 4, 2) := by decide +kernel
theorem dX10_keepLeading_59 : decode cX10_keepLeading 59 = .ok (.ishl, 1) := by decide +kernel
theorem dX10_keepLeading_60 : decode cX10_keepLeading 60 = .ok (.iconst (-1), 1) := by decide +kernel
theorem dX10_keepLeading_61 : decode cX10_keepLeading 61 = .ok (.ixor, 1) := by decide +kernel
theorem dX10_keepLeading_62 : decode cX10_keepLeading 62 = .ok (.iand, 1) := by decide +kernel
theorem dX10_keepLeading_63 : decode cX10_keepLeading 63 = .ok (.iastore, 1) := by decide +kernel
theorem dX10_keepLeading_64 : decode cX10_keepLeading 64 = .ok (.iinc 4 1, 3) := by decide +kernel
theorem dX10_keepLeading_67 : decode cX10_keepLeading 67 = .ok (.goto (-56), 3) := by decide +kernel
theorem dX10_keepLeading_70 : decode cX10_keepLeading 70 = .ok (.iinc 3 (-1), 3) := by decide +kernel
theorem dX10_keepLeading_73 : decode cX10_keepLeading 73 = .ok (.goto (-69), 3) := by decide +kernel
theorem dX10_keepLeading_76 : decode cX10_keepLeading 76 = .ok (.return_, 1) := by decide +kernel
theorem dX10_leastFromAny_0 : decode cX10_leastFromAny 0 = .ok (.sipush 16384, 3) := by decide +kernel
theorem dX10_leastFromAny_3 : decode cX10_leastFromAny 3 = .ok (.istore_n 2, 1) := by decide +kernel
theorem dX10_leastFromAny_4 : decode cX10_leastFromAny 4 = .ok (.iconst 0, 1) := by decide +kernel
theorem dX10_leastFromAny_5 : decode cX10_leastFromAny 5 = .ok (.istore_n 3, 1) := by decide +kernel
theorem dX10_leastFromAny_6 : decode cX10_leastFromAny 6 = .ok (.iload_n 3, 1) := by decide +kernel
theorem dX10_leastFromAny_7 : decode cX10_leastFromAny 7 = .ok (.bipush 14, 2) := by decide +kernel
theorem dX10_leastFromAny_9 : decode cX10_leastFromAny 9 = .ok (.if_icmp .ge 28, 3) := by decide +kernel
theorem dX10_leastFromAny_12 : decode cX10_leastFromAny 12 = .ok (.iload_n 1, 1) := by decide +kernel
theorem dX10_leastFromAny_13 : decode cX10_leastFromAny 13 = .ok (.iload_n 3, 1) := by decide +kernel
theorem dX10_leastFromAny_14 : decode cX10_leastFromAny 14 = .ok (.ishr, 1) := by decide +kernel
theorem dX10_leastFromAny_15 : decode cX10_leastFromAny 15 = .ok (.iconst 1, 1) := by decide +kernel
theorem dX10_leastFromAny_16 : decode cX10_leastFromAny 16 = .ok (.iand, 1) := by decide +kernel
theorem dX10_leastFromAny_17 : decode cX10_leastFromAny 17 = .ok (.ifCond .eq 14, 3) := by decide +kernel
theorem dX10_leastFromAny_20 : decode cX10_leastFromAny 20 = .ok (.iload_n 2, 1) := by decide +kernel
theorem dX10_leastFromAny_21 : decode cX10_leastFromAny 21 = .ok (.aload_n 0, 1) := by decide +kernel
theorem dX10_leastFromAny_22 : decode cX10_leastFromAny 22 = .ok (.getfield 26, 3) := by decide +kernel
theorem dX10_leastFromAny_25 : decode cX10_leastFromAny 25 = .ok (.iload_n 3, 1) := by decide +kernel
theorem dX10_leastFromAny_26 : decode cX10_leastFromAny 26 = .ok (.iaload, 1) := by decide +kernel
theorem dX10_leastFromAny_27 : decode cX10_leastFromAny 27 = .ok (.invokestatic 76, 3) := by decide +kernel
theorem dX10_leastFromAny_30 : decode cX10_leastFromAny 30 = .ok (.istore_n 2, 1) := by decide +kernel
theorem dX10_leastFromAny_31 : decode cX10_leastFromAny 31 = .ok (.iinc 3 1, 3) := by decide +kernel
theorem dX10_leastFromAny_34 : decode cX10_leastFromAny 34 = .ok (.goto (-28), 3) := by decide +kernel
theorem dX10_leastFromAny_37 : decode cX10_leastFromAny 37 = .ok (.iload_n 2, 1) := by decide +kernel
theorem dX10_leastFromAny_38 : decode cX10_leastFromAny 38 = .ok (.ireturn, 1) := by decide +kernel
theorem dX10_leastUsed_0 : decode cX10_leastUsed 0 = .ok (.aload_n 0, 1) := by decide +kernel
theorem dX10_leastUsed_1 : decode cX10_leastUsed 1 = .ok (.aload_n 1, 1) := by decide +kernel
theorem dX10_leastUsed_2 : decode cX10_leastUsed 2 = .ok (.iload_n 2, 1) := by decide +kernel
theorem dX10_leastUsed_3 : decode cX10_leastUsed 3 = .ok (.invokevirtual 35, 3) := by decide +kernel
theorem dX10_leastUsed_6 : decode cX10_leastUsed 6 = .ok (.istore_n 3, 1) := by decide +kernel
theorem dX10_leastUsed_7 : decode cX10_leastUsed 7 = .ok (.aload_n 0, 1) := by decide +kernel
theorem dX10_leastUsed_8 : decode cX10_leastUsed 8 = .ok (.aload_n 1, 1) := by decide +kernel
theorem dX10_leastUsed_9 : decode cX10_leastUsed 9 = .ok (.iload_n 3, 1) := by decide +kernel
theorem dX10_leastUsed_10 : decode cX10_leastUsed 10 = .ok (.invokevirtual 39, 3) := by decide +kernel
theorem dX10_leastUsed_13 : decode cX10_leastUsed 13 = .ok (.aload_n 1, 1) := by decide +kernel
theorem dX10_leastUsed_14 : decode cX10_leastUsed 14 = .ok (.getfield 55, 3) := by decide +kernel
theorem dX10_leastUsed_17 : decode cX10_leastUsed 17 = .ok (.invokevirtual 69, 3) := by decide +kernel
theorem dX10_leastUsed_20 : decode cX10_leastUsed 20 = .ok (.istore 4, 2) := by decide +kernel
theorem dX10_leastUsed_22 : decode cX10_leastUsed 22 = .ok (.iload_n 3, 1) := by decide +kernel
theorem dX10_leastUsed_23 : decode cX10_leastUsed 23 = .ok (.iconst 1, 1) := by decide +kernel
theorem dX10_leastUsed_24 : decode cX10_leastUsed 24 = .ok (.isub, 1) := by decide +kernel
theorem dX10_leastUsed_25 : decode cX10_leastUsed 25 = .ok (.istore 5, 2) := by decide +kernel
theorem dX10_leastUsed_27 : decode cX10_leastUsed 27 = .ok (.iload 5, 2) := by decide +kernel
theorem dX10_leastUsed_29 : decode cX10_leastUsed 29 = .ok (.ifCond .lt 90, 3) := by decide +kernel
theorem dX10_leastUsed_32 : decode cX10_leastUsed 32 = .ok (.iconst 0, 1) := by decide +kernel
theorem dX10_leastUsed_33 : decode cX10_leastUsed 33 = .ok (.istore 6, 2) := by decide +kernel
theorem dX10_leastUsed_35 : decode cX10_leastUsed 35 = .ok (.iload 6, 2) := by decide +kernel
theorem dX10_leastUsed_37 : decode cX10_leastUsed 37 = .ok (.bipush 14, 2) := by decide +kernel
theorem dX10_leastUsed_39 : decode cX10_leastUsed 39 = .ok (.if_icmp .ge 74, 3) := by decide +kernel
theorem dX10_leastUsed_42 : decode cX10_leastUsed 42 = .ok (.aload_n 0, 1) := by decide +kernel
theorem dX10_leastUsed_43 : decode cX10_leastUsed 43 = .ok (.getfield 9, 3) := by decide +kernel
theorem dX10_leastUsed_46 : decode cX10_leastUsed 46 = .ok (.iload 5, 2) := by decide +kernel
theorem dX10_leastUsed_48 : decode cX10_leastUsed 48 = .ok (.iaload, 1) := by decide +kernel
theorem dX10_leastUsed_49 : decode cX10_leastUsed 49 = .ok (.iload 6, 2) := by decide +kernel
theorem dX10_leastUsed_51 : decode cX10_leastUsed 51 = .ok (.ishr, 1) := by decide +kernel
theorem dX10_leastUsed_52 : decode cX10_leastUsed 52 = .ok (.iconst 1, 1) := by decide +kernel
theorem dX10_leastUsed_53 : decode cX10_leastUsed 53 = .ok (.iand, 1) := by decide +kernel
theorem dX10_leastUsed_54 : decode cX10_leastUsed 54 = .ok (.ifCond .eq 53, 3) := by decide +kernel
theorem dX10_leastUsed_57 : decode cX10_leastUsed 57 = .ok (.iload 5, 2) := by decide +kernel
theorem dX10_leastUsed_59 : decode cX10_leastUsed 59 = .ok (.iload_n 3, 1) := by decide +kernel
theorem dX10_leastUsed_60 : decode cX10_leastUsed 60 = .ok (.iconst 1, 1) := by decide +kernel
theorem dX10_leastUsed_61 : decode cX10_leastUsed 61 = .ok (.isub, 1) := by decide +kernel
theorem dX10_leastUsed_62 : decode cX10_leastUsed 62 = .ok (.if_icmp .ne 7, 3) := by decide +kernel
theorem dX10_leastUsed_65 : decode cX10_leastUsed 65 = .ok (.iconst 0, 1) := by decide +kernel
theorem dX10_leastUsed_66 : decode cX10_leastUsed 66 = .ok (.goto 22, 3) := by decide +kernel
theorem dX10_leastUsed_69 : decode cX10_leastUsed 69 = .ok (.aload_n 0, 1) := by decide +kernel
theorem dX10_leastUsed_70 : decode cX10_leastUsed 70 = .ok (.aload_n 1, 1) := by decide +kernel
theorem dX10_leastUsed_71 : decode cX10_leastUsed 71 = .ok (.iload 6, 2) := by decide +kernel
theorem dX10_leastUsed_73 : decode cX10_leastUsed 73 = .ok (.aload_n 0, 1) := by decide +kernel
theorem dX10_leastUsed_74 : decode cX10_leastUsed 74 = .ok (.getfield 9, 3) := by decide +kernel
theorem dX10_leastUsed_77 : decode cX10_leastUsed 77 = .ok (.iload 5, 2) := by decide +kernel
theorem dX10_leastUsed_79 : decode cX10_leastUsed 79 = .ok (.iconst 1, 1) := by decide +kernel
theorem dX10_leastUsed_80 : decode cX10_leastUsed 80 = .ok (.iadd, 1) := by decide +kernel
theorem dX10_leastUsed_81 : decode cX10_leastUsed 81 = .ok (.iaload, 1) := by decide +kernel
theorem dX10_leastUsed_82 : decode cX10_leastUsed 82 = .ok (.invokevirtual 49, 3) := by decide +kernel
theorem dX10_leastUsed_85 : decode cX10_leastUsed 85 = .ok (.invokevirtual 73, 3) := by decide +kernel
theorem dX10_leastUsed_88 : decode cX10_leastUsed 88 = .ok (.istore 7, 2) := by decide +kernel
theorem dX10_leastUsed_90 : decode cX10_leastUsed 90 = .ok (.aload_n 0, 1) := by decide +kernel
theorem dX10_leastUsed_91 : decode cX10_leastUsed 91 = .ok (.getfield 26, 3) := by decide +kernel
theorem dX10_leastUsed_94 : decode cX10_leastUsed 94 = .ok (.iload 6, 2) := by decide +kernel
theorem dX10_leastUsed_96 : decode cX10_leastUsed 96 = .ok (.iload 7, 2) := by decide +kernel
theorem dX10_leastUsed_98 : decode cX10_leastUsed 98 = .ok (.iload 4, 2) := by decide +kernel
theorem dX10_leastUsed_100 : decode cX10_leastUsed 100 = .ok (.iconst 1, 1) := by decide +kernel
theorem dX10_leastUsed_101 : decode cX10_leastUsed 101 = .ok (.iload 6, 2) := by decide +kernel
theorem dX10_leastUsed_103 : decode cX10_leastUsed 103 = .ok (.ishl, 1) := by decide +kernel
theorem dX10_leastUsed_104 : decode cX10_leastUsed 104 = .ok (.iand, 1) := by decide +kernel
theorem dX10_leastUsed_105 : decode cX10_leastUsed 105 = .ok (.ior, 1) := by decide +kernel
theorem dX10_leastUsed_106 : decode cX10_leastUsed 106 = .ok (.iastore, 1) := by decide +kernel
theorem dX10_leastUsed_107 : decode cX10_leastUsed 107 = .ok (.iinc 6 1, 3) := by decide +kernel
theorem dX10_leastUsed_110 : decode cX10_leastUsed 110 = .ok (.goto (-75), 3) := by decide +kernel
theorem dX10_leastUsed_113 : decode cX10_leastUsed 113 = .ok (.iinc 5 (-1), 3) := by decide +kernel
theorem dX10_leastUsed_116 : decode cX10_leastUsed 116 = .ok (.goto (-89), 3) := by decide +kernel
theorem dX10_leastUsed_119 : decode cX10_leastUsed 119 = .ok (.iload_n 3, 1) := by decide +kernel
theorem dX10_leastUsed_120 : decode cX10_leastUsed 120 = .ok (.ifCond .ne 7, 3) := by decide +kernel
theorem dX10_leastUsed_123 : decode cX10_leastUsed 123 = .ok (.iconst (-1), 1) := by decide +kernel
theorem dX10_leastUsed_124 : decode cX10_leastUsed 124 = .ok (.goto 13, 3) := by decide +kernel
theorem dX10_leastUsed_127 : decode cX10_leastUsed 127 = .ok (.aload_n 0, 1) := by decide +kernel
theorem dX10_leastUsed_128 : decode cX10_leastUsed 128 = .ok (.aload_n 0, 1) := by decide +kernel
theorem dX10_leastUsed_129 : decode cX10_leastUsed 129 = .ok (.getfield 9, 3) := by decide +kernel
theorem dX10_leastUsed_132 : decode cX10_leastUsed 132 = .ok (.iconst 0, 1) := by decide +kernel
theorem dX10_leastUsed_133 : decode cX10_leastUsed 133 = .ok (.iaload, 1) := by decide +kernel
theorem dX10_leastUsed_134 : decode cX10_leastUsed 134 = .ok (.invokevirtual 73, 3) := by decide +kernel
theorem dX10_leastUsed_137 : decode cX10_leastUsed 137 = .ok (.ireturn, 1) := by decide +kernel
theorem dX10_numberFromAll_0 : decode cX10_numberFromAll 0 = .ok (.lconst 0, 1) := by decide +kernel
theorem dX10_numberFromAll_1 : decode cX10_numberFromAll 1 = .ok (.lstore_n 2, 1) := by decide +kernel
theorem dX10_numberFromAll_2 : decode cX10_numberFromAll 2 = .ok (.iconst 0, 1) := by decide +kernel
theorem dX10_numberFromAll_3 : decode cX10_numberFromAll 3 = .ok (.istore 4, 2) := by decide +kernel
theorem dX10_numberFromAll_5 : decode cX10_numberFromAll 5 = .ok (.iload 4, 2) := by decide +kernel
theorem dX10_numberFromAll_7 : decode cX10_numberFromAll 7 = .ok (.bipush 14, 2) := by decide +kernel
theorem dX10_numberFromAll_9 : decode cX10_numberFromAll 9 = .ok (.if_icmp .ge 28, 3) := by decide +kernel
theorem dX10_numberFromAll_12 : decode cX10_numberFromAll 12 = .ok (.iload_n 1, 1) := by decide +kernel
theorem dX10_numberFromAll_13 : decode cX10_numberFromAll 13 = .ok (.iload 4, 2) := by decide +kernel
theorem dX10_numberFromAll_15 : decode cX10_numberFromAll 15 = .ok (.ishr, 1) := by decide +kernel
theorem dX10_numberFromAll_16 : decode cX10_numberFromAll 16 = .ok (.iconst 1, 1) := by decide +kernel
theorem dX10_numberFromAll_17 : decode cX10_numberFromAll 17 = .ok (.iand, 1) := by decide +kernel
theorem dX10_numberFromAll_18 : decode cX10_numberFromAll 18 = .ok (.ifCond .eq 13, 3) := by decide +kernel
theorem dX10_numberFromAll_21 : decode cX10_numberFromAll 21 = .ok (.lload_n 2, 1) := by decide +kernel
theorem dX10_numberFromAll_22 : decode cX10_numberFromAll 22 = .ok (.aload_n 0, 1) := by decide +kernel
theorem dX10_numberFromAll_23 : decode cX10_numberFromAll 23 = .ok (.getfield 22, 3) := by decide +kernel
theorem dX10_numberFromAll_26 : decode cX10_numberFromAll 26 = .ok (.iload 4, 2) := by decide +kernel
theorem dX10_numberFromAll_28 : decode cX10_numberFromAll 28 = .ok (.laload, 1) := by decide +kernel
theorem dX10_numberFromAll_29 : decode cX10_numberFromAll 29 = .ok (.ladd, 1) := by decide +kernel
theorem dX10_numberFromAll_30 : decode cX10_numberFromAll 30 = .ok (.lstore_n 2, 1) := by decide +kernel
theorem dX10_numberFromAll_31 : decode cX10_numberFromAll 31 = .ok (.iinc 4 1, 3) := by decide +kernel
theorem dX10_numberFromAll_34 : decode cX10_numberFromAll 34 = .ok (.goto (-29), 3) := by decide +kernel
theorem dX10_numberFromAll_37 : decode cX10_numberFromAll 37 = .ok (.lload_n 2, 1) := by decide +kernel
theorem dX10_numberFromAll_38 : decode cX10_numberFromAll 38 = .ok (.lreturn, 1) := by decide +kernel
theorem dX10_pathSet_0 : decode cX10_pathSet 0 = .ok (.iconst 0, 1) := by decide +kernel
theorem dX10_pathSet_1 : decode cX10_pathSet 1 = .ok (.istore_n 1, 1) := by decide +kernel
theorem dX10_pathSet_2 : decode cX10_pathSet 2 = .ok (.iconst 0, 1) := by decide +kernel
theorem dX10_pathSet_3 : decode cX10_pathSet 3 = .ok (.istore_n 2, 1) := by decide +kernel
theorem dX10_pathSet_4 : decode cX10_pathSet 4 = .ok (.iload_n 2, 1) := by decide +kernel
theorem dX10_pathSet_5 : decode cX10_pathSet 5 = .ok (.aload_n 0, 1) := by decide +kernel
theorem dX10_pathSet_6 : decode cX10_pathSet 6 = .ok (.getfield 18, 3) := by decide +kernel
theorem dX10_pathSet_9 : decode cX10_pathSet 9 = .ok (.if_icmp .ge 20, 3) := by decide +kernel
theorem dX10_pathSet_12 : decode cX10_pathSet 12 = .ok (.iload_n 1, 1) := by decide +kernel
theorem dX10_pathSet_13 : decode cX10_pathSet 13 = .ok (.iconst 1, 1) := by decide +kernel
theorem dX10_pathSet_14 : decode cX10_pathSet 14 = .ok (.aload_n 0, 1) := by decide +kernel
theorem dX10_pathSet_15 : decode cX10_pathSet 15 = .ok (.getfield 15, 3) := by decide +kernel
theorem dX10_pathSet_18 : decode cX10_pathSet 18 = .ok (.iload_n 2, 1) := by decide +kernel
theorem dX10_pathSet_19 : decode cX10_pathSet 19 = .ok (.iaload, 1) := by decide +kernel
theorem dX10_pathSet_20 : decode cX10_pathSet 20 = .ok (.ishl, 1) := by decide +kernel
theorem dX10_pathSet_21 : decode cX10_pathSet 21 = .ok (.ior, 1) := by decide +kernel
theorem dX10_pathSet_22 : decode cX10_pathSet 22 = .ok (.istore_n 1, 1) := by decide +kernel
theorem dX10_pathSet_23 : decode cX10_pathSet 23 = .ok (.iinc 2 1, 3) := by decide +kernel
theorem dX10_pathSet_26 : decode cX10_pathSet 26 = .ok (.goto (-22), 3) := by decide +kernel
theorem dX10_pathSet_29 : decode cX10_pathSet 29 = .ok (.iload_n 1, 1) := by decide +kernel
theorem dX10_pathSet_30 : decode cX10_pathSet 30 = .ok (.ireturn, 1) := by decide +kernel
theorem kw_9 : Cond.initialized "FootholdWall$Ways" ∈ gw := gw_of (tb_of 9 (by decide +kernel)) (by decide +kernel)
theorem kw_118 : Cond.fieldLink "FootholdWall$Ways" 59 "FootholdWall$Wall" "starts" "I" ∈ gw := gw_of (tb_of 118 (by decide +kernel)) (by decide +kernel)
theorem kw_126 : Cond.fieldLink "FootholdWall$Ways" 64 "FootholdWall$Wall" "tops" "I" ∈ gw := gw_of (tb_of 126 (by decide +kernel)) (by decide +kernel)
theorem kw_246 : Cond.fieldLink "FootholdWall$Ways" 55 "FootholdWall$Rows" "wall" "LFootholdWall$Wall;" ∈ gw := gw_of (tb_of 246 (by decide +kernel)) (by decide +kernel)
theorem kw_272 : Cond.fieldLink "FootholdWall$Ways" 9 "FootholdWall$Ways" "layer" "[I" ∈ gw := gw_of (tb_of 272 (by decide +kernel)) (by decide +kernel)
theorem kw_273 : Cond.fieldLink "FootholdWall$Ways" 15 "FootholdWall$Ways" "path" "[I" ∈ gw := gw_of (tb_of 273 (by decide +kernel)) (by decide +kernel)
theorem kw_275 : Cond.fieldLink "FootholdWall$Ways" 18 "FootholdWall$Ways" "length" "I" ∈ gw := gw_of (tb_of 275 (by decide +kernel)) (by decide +kernel)
theorem kw_276 : Cond.fieldLink "FootholdWall$Ways" 22 "FootholdWall$Ways" "numberFrom" "[J" ∈ gw := gw_of (tb_of 276 (by decide +kernel)) (by decide +kernel)
theorem kw_277 : Cond.fieldLink "FootholdWall$Ways" 26 "FootholdWall$Ways" "leastFrom" "[I" ∈ gw := gw_of (tb_of 277 (by decide +kernel)) (by decide +kernel)
theorem kw_450 : Cond.static Lib.Math.min.name ∈ gw := gw_of (tb_of 450 (by decide +kernel)) (by decide +kernel)
theorem kw_451 : Cond.code Lib.Math.min.name Lib.Math.min.code 2 (some .int) ∈ gw := gw_of (tb_of 451 (by decide +kernel)) (by decide +kernel)
theorem kw_683 : Cond.instanceMethod yX9_middles ∈ gw := gw_of (tb_of 683 (by decide +kernel)) (by decide +kernel)
theorem kw_684 : Cond.selects "FootholdWall$Wall" yX9_middles yX9_middles ∈ gw := gw_of (tb_of 684 (by decide +kernel)) (by decide +kernel)
theorem kw_685 : Cond.code yX9_middles cX9_middles 1 (some (.int)) ∈ gw := gw_of (tb_of 685 (by decide +kernel)) (by decide +kernel)
theorem kw_916 : Cond.methodLink "FootholdWall$Ways" 35 yX10_findLayers ∈ gw := gw_of (tb_of 916 (by decide +kernel)) (by decide +kernel)
theorem kw_918 : Cond.instanceMethod yX10_findLayers ∈ gw := gw_of (tb_of 918 (by decide +kernel)) (by decide +kernel)
theorem kw_919 : Cond.code yX10_findLayers cX10_findLayers 7 (some (.int)) ∈ gw := gw_of (tb_of 919 (by decide +kernel)) (by decide +kernel)
theorem kw_920 : Cond.methodLink "FootholdWall$Ways" 49 yX5_stepped ∈ gw := gw_of (tb_of 920 (by decide +kernel)) (by decide +kernel)
theorem kw_921 : Cond.methodLink "FootholdWall$Ways" 39 yX10_keepLeading ∈ gw := gw_of (tb_of 921 (by decide +kernel)) (by decide +kernel)
theorem kw_923 : Cond.instanceMethod yX10_keepLeading ∈ gw := gw_of (tb_of 923 (by decide +kernel)) (by decide +kernel)
theorem kw_924 : Cond.code yX10_keepLeading cX10_keepLeading 5 none ∈ gw := gw_of (tb_of 924 (by decide +kernel)) (by decide +kernel)
theorem kw_925 : Cond.methodLink "FootholdWall$Ways" 43 yJ6_numberOfTrailingZeros_0f7a4 ∈ gw := gw_of (tb_of 925 (by decide +kernel)) (by decide +kernel)
theorem kw_984 : Cond.methodLink "FootholdWall$Ways" 65 yX10_numberFromAll ∈ gw := gw_of (tb_of 984 (by decide +kernel)) (by decide +kernel)
theorem kw_986 : Cond.instanceMethod yX10_numberFromAll ∈ gw := gw_of (tb_of 986 (by decide +kernel)) (by decide +kernel)
theorem kw_987 : Cond.code yX10_numberFromAll cX10_numberFromAll 5 (some (.long)) ∈ gw := gw_of (tb_of 987 (by decide +kernel)) (by decide +kernel)
theorem kw_1154 : Cond.methodLink "FootholdWall$Ways" 69 yX9_middles ∈ gw := gw_of (tb_of 1154 (by decide +kernel)) (by decide +kernel)
theorem kw_1155 : Cond.methodLink "FootholdWall$Ways" 73 yX10_leastFromAny ∈ gw := gw_of (tb_of 1155 (by decide +kernel)) (by decide +kernel)
theorem kw_1157 : Cond.instanceMethod yX10_leastFromAny ∈ gw := gw_of (tb_of 1157 (by decide +kernel)) (by decide +kernel)
theorem kw_1158 : Cond.code yX10_leastFromAny cX10_leastFromAny 4 (some (.int)) ∈ gw := gw_of (tb_of 1158 (by decide +kernel)) (by decide +kernel)
theorem kw_1159 : Cond.methodLink "FootholdWall$Ways" 76 Lib.Math.min.name ∈ gw := gw_of (tb_of 1159 (by decide +kernel)) (by decide +kernel)
theorem ks_27 : Cond.selects RX10 yX10_findLayers yX10_findLayers ∈ gw := gw_of (pv_of 27 (by decide +kernel)) (by decide +kernel)
theorem ks_28 : Cond.selects RX10 yX10_keepLeading yX10_keepLeading ∈ gw := gw_of (pv_of 28 (by decide +kernel)) (by decide +kernel)
theorem ks_29 : Cond.selects RX10 yX10_numberFromAll yX10_numberFromAll ∈ gw := gw_of (pv_of 29 (by decide +kernel)) (by decide +kernel)
theorem ks_41 : Cond.selects RX10 yX10_leastFromAny yX10_leastFromAny ∈ gw := gw_of (pv_of 41 (by decide +kernel)) (by decide +kernel)
set_option maxHeartbeats 4000000 in
set_option maxRecDepth 100000 in
theorem s_Ways_findLayers (l : Launch) (D : va_G) (cs : CS) (kf : KF) (T : TF) (O : List Nat) (X : va_W) (a0 : Nat) (a1 : Nat) (x2 : Int32) (t_a0 : T a0 = some (20, 0, 0)) (t_a1 : T a1 = some (15, 0, 0)) (hO : okO T O [1, 12, 15, 19, 20]) : TK l D cs kf yX10_findLayers cX10_findLayers 7 (some (.int)) { frames := 4, cells := 0, slots := 0, locals := 101 } [.ref a0, .ref a1, .int x2] T O X (Ti D cs (fun r u => u = (T, O, X) ∧ 0 ≤ r.toInt ∧ r.toInt ≤ 14)) := by
  refine tk_of (by decide) (Nat.le_of_ble_eq_true rfl) (fun p e s m below meth c ls A H locs hx hb hr hml hown hts hlocks hnm hkb hH hS hA hOX hks hE hl => ?_)
  have hown : s.vm.findClass RX10 = some m.cls := hown
  have hl : lv_has ls 7 [(0, .ref a0), (1, .ref a1), (2, .int x2)] := hl
  refine lv_aload_n hx hb dX10_findLayers_0 rfl (lv_at hl 1 rfl) ?_
  refine t_get (ci := 5) (lst := ft5 0 0) (C := RX5) (F := TX5) (N := 6) hx hb hts uX5 hown hkb hH t_a1 (hO.no t_a1 (by decide)) (fun _ h9 => h9) rfl rfl 0 (by decide) rfl kw_246 (fun _ h9 => h9) dX10_findLayers_1 (fun v9 h9 => ?_)
  obtain ⟨v1, hv1, gv1, rfl, t_v1⟩ := h9
  refine t_get (ci := 9) (lst := ft9w hv1 gv1) (C := RX9) (F := TX9) (N := 14) hx hb hts uX9 hown hkb hH t_v1.1 (hO.no t_v1.1 (by decide)) (fun fs => (ob9w t_v1 fs).mp) rfl rfl 3 (by decide) rfl kw_118 (fun _ h9 => h9) dX10_findLayers_4 (fun v9 h9 => ?_)
  obtain ⟨v4, rfl, l_v4, u_v4⟩ := h9
  refine lv_iload_n hx hb dX10_findLayers_7 rfl (lv_at hl 2 rfl) ?_
  refine lv_iand hx hb dX10_findLayers_8 ?_
  refine lv_topi (fun v8 ev8 => ?_)
  have tv8 : 0 ≤ v8.toInt ∧ v8.toInt ≤ v4.toInt := by rw [ev8]; exact and_l (by omega)
  refine lv_istore_n (lv' := [(3, .int v8), (0, .ref a0), (1, .ref a1), (2, .int x2)]) hx hb dX10_findLayers_9 rfl hl (by decide) rfl (fun ls hl => ?_)
  refine lv_aload_n hx hb dX10_findLayers_10 rfl (lv_at hl 1 rfl) ?_
  refine t_get (ci := 10) (lst := ft10 0 0) (C := RX10) (F := TX10) (N := 7) hx hb hts uX10 hown hkb hH t_a0 (hO.no t_a0 (by decide)) (fun _ h9 => h9) rfl rfl 0 (by decide) rfl kw_272 (fun _ h9 => h9) dX10_findLayers_11 (fun v9 h9 => ?_)
  obtain ⟨v11, rfl, t_v11⟩ := h9
  refine lv_iconst (v := 0) hx hb dX10_findLayers_14 (by decide) ?_
  refine lv_iload_n hx hb dX10_findLayers_15 rfl (lv_at hl 0 rfl) ?_
  refine t_ist hx hb hkb hH hS t_v11 (hO.no t_v11 (by decide)) (by decide) (by decide) (show 0 ≤ v8.toInt ∧ v8.toInt ≤ 16383 from by omega) dX10_findLayers_16 (fun H locs hH hS => ?_)
  refine lv_iconst (v := 0) hx hb dX10_findLayers_17 (by decide) ?_
  have J20 : ∀ (n : Nat) (p20_4 : Int32) (p20_3 : Int32) (H : Heap) (locs : List Loc) (ls : Array Slot), (14 - p20_4.toInt).toNat = n → (0 ≤ p20_4.toInt) → (p20_4.toInt ≤ 14) → (0 ≤ p20_3.toInt) → (p20_3.toInt ≤ 16383) → HT D cs A T O X H → va_S A s.heap H locs → lv_has ls 7 [(4, .int p20_4), (3, .int p20_3), (0, .ref a0), (1, .ref a1), (2, .int x2)] → W p l e { frames := 4, cells := 0, slots := 0, locals := 101 } s m [.ref a0, .ref a1, .int x2].toArray below meth c H locs 0 0 (MQ below (Ti D cs (fun r u => u = (T, O, X) ∧ 0 ≤ r.toInt ∧ r.toInt ≤ 14) A) [.ref a0, .ref a1, .int x2].toArray s 0 0 A) (F0 m 20 ls []) := by
    intro n
    induction n using Nat.strongRecOn with
    | _ n ih20 =>
      intro p20_4 p20_3 H locs ls hm20 l_p20_4 u_p20_4 l_p20_3 u_p20_3 hH hS hl
      refine lv_iload hx hb dX10_findLayers_20 (lv_at hl 0 rfl) ?_
      refine lv_bipush (v := 14) hx hb dX10_findLayers_22 (by decide) ?_
      refine lv_icmp_ge (tgt := 155) hx hb dX10_findLayers_24 (by decide) (fun c24 => ?_) (fun c24 => ?_)
      · skip
        have tc24 := f_ge (k := 14) (by decide) c24
        refine lv_iconst (v := 0) hx hb dX10_findLayers_155 (by decide) ?_
        exact te_i hx hb hr hlocks hH hS (⟨rfl, by decide, by decide⟩) dX10_findLayers_156
      · skip
        have tc24 := f_nge (k := 14) (by decide) c24
        refine lv_aload_n hx hb dX10_findLayers_27 rfl (lv_at hl 2 rfl) ?_
        refine t_get (ci := 10) (lst := ft10 0 0) (C := RX10) (F := TX10) (N := 7) hx hb hts uX10 hown hkb hH t_a0 (hO.no t_a0 (by decide)) (fun _ h9 => h9) rfl rfl 0 (by decide) rfl kw_272 (fun _ h9 => h9) dX10_findLayers_28 (fun v9 h9 => ?_)
        obtain ⟨v28, rfl, t_v28⟩ := h9
        refine lv_iload hx hb dX10_findLayers_31 (lv_at hl 0 rfl) ?_
        refine t_ild hx hb hkb hH t_v28 (hO.no t_v28 (by decide)) (by omega) (by omega) dX10_findLayers_33 (fun v33 h9 => ?_)
        have tv33 : 0 ≤ v33.toInt ∧ v33.toInt ≤ 16383 := h9
        refine lv_aload_n hx hb dX10_findLayers_34 rfl (lv_at hl 3 rfl) ?_
        refine t_get (ci := 5) (lst := ft5 0 0) (C := RX5) (F := TX5) (N := 6) hx hb hts uX5 hown hkb hH t_a1 (hO.no t_a1 (by decide)) (fun _ h9 => h9) rfl rfl 0 (by decide) rfl kw_246 (fun _ h9 => h9) dX10_findLayers_35 (fun v9 h9 => ?_)
        obtain ⟨v35, hv35, gv35, rfl, t_v35⟩ := h9
        refine t_get (ci := 9) (lst := ft9w hv35 gv35) (C := RX9) (F := TX9) (N := 14) hx hb hts uX9 hown hkb hH t_v35.1 (hO.no t_v35.1 (by decide)) (fun fs => (ob9w t_v35 fs).mp) rfl rfl 4 (by decide) rfl kw_126 (fun _ h9 => h9) dX10_findLayers_38 (fun v9 h9 => ?_)
        obtain ⟨v38, rfl, l_v38, u_v38⟩ := h9
        refine lv_iand hx hb dX10_findLayers_41 ?_
        refine lv_topi (fun v41 ev41 => ?_)
        have tv41 : 0 ≤ v41.toInt ∧ v41.toInt ≤ v33.toInt := by rw [ev41]; exact and_l (by omega)
        have ttv41 : 0 ≤ v41.toInt ∧ v41.toInt ≤ v38.toInt := by rw [ev41]; exact and_r (by omega)
        refine lv_if_eq (tgt := 67) hx hb dX10_findLayers_42 (by decide) (fun c42 => ?_) (fun c42 => ?_)
        · skip
          have tc42 := f_eq (k := 0) (by decide) c42
          refine lv_iconst (v := 0) hx hb dX10_findLayers_67 (by decide) ?_
          refine lv_istore (lv' := [(5, .int 0), (4, .int p20_4), (3, .int p20_3), (0, .ref a0), (1, .ref a1), (2, .int x2)]) hx hb dX10_findLayers_68 hl (by decide) rfl (fun ls hl => ?_)
          refine lv_iconst (v := 0) hx hb dX10_findLayers_70 (by decide) ?_
          have J73 : ∀ (n : Nat) (p73_6 : Int32) (p73_5 : Int32) (H : Heap) (locs : List Loc) (ls : Array Slot), (14 - p73_6.toInt).toNat = n → (0 ≤ p73_6.toInt) → (p73_6.toInt ≤ 14) → (0 ≤ p73_5.toInt) → (p73_5.toInt ≤ 16383) → HT D cs A T O X H → va_S A s.heap H locs → lv_has ls 7 [(6, .int p73_6), (5, .int p73_5), (4, .int p20_4), (3, .int p20_3), (0, .ref a0), (1, .ref a1), (2, .int x2)] → W p l e { frames := 4, cells := 0, slots := 0, locals := 101 } s m [.ref a0, .ref a1, .int x2].toArray below meth c H locs 0 0 (MQ below (Ti D cs (fun r u => u = (T, O, X) ∧ 0 ≤ r.toInt ∧ r.toInt ≤ 14) A) [.ref a0, .ref a1, .int x2].toArray s 0 0 A) (F0 m 73 ls []) := by
            intro n
            induction n using Nat.strongRecOn with
            | _ n ih73 =>
              intro p73_6 p73_5 H locs ls hm73 l_p73_6 u_p73_6 l_p73_5 u_p73_5 hH hS hl
              refine lv_iload hx hb dX10_findLayers_73 (lv_at hl 0 rfl) ?_
              refine lv_bipush (v := 14) hx hb dX10_findLayers_75 (by decide) ?_
              refine lv_icmp_ge (tgt := 117) hx hb dX10_findLayers_77 (by decide) (fun c77 => ?_) (fun c77 => ?_)
              · skip
                have tc77 := f_ge (k := 14) (by decide) c77
                refine lv_iload hx hb dX10_findLayers_117 (lv_at hl 1 rfl) ?_
                have J131 : ∀  (H : Heap) (locs : List Loc) (ls : Array Slot), HT D cs A T O X H → va_S A s.heap H locs → lv_has ls 7 [] → W p l e { frames := 4, cells := 0, slots := 0, locals := 101 } s m [.ref a0, .ref a1, .int x2].toArray below meth c H locs 0 0 (MQ below (Ti D cs (fun r u => u = (T, O, X) ∧ 0 ≤ r.toInt ∧ r.toInt ≤ 14) A) [.ref a0, .ref a1, .int x2].toArray s 0 0 A) (F0 m 131 ls []) := by
                  intro  H locs ls  hH hS hl
                  refine lv_iconst (v := 0) hx hb dX10_findLayers_131 (by decide) ?_
                  exact te_i hx hb hr hlocks hH hS (⟨rfl, by decide, by decide⟩) dX10_findLayers_132
                refine lv_if_eq (tgt := 131) hx hb dX10_findLayers_119 (by decide) (fun c119 => ?_) (fun c119 => ?_)
                · skip
                  have tc119 := f_eq (k := 0) (by decide) c119
                  exact J131  _ _ _  hH hS (lv_sub hl [] rfl)
                · skip
                  have tc119 := f_ne (k := 0) (by decide) c119
                  refine lv_iload hx hb dX10_findLayers_122 (lv_at hl 2 rfl) ?_
                  refine lv_iconst (v := 1) hx hb dX10_findLayers_124 (by decide) ?_
                  refine lv_iadd hx hb dX10_findLayers_125 ?_
                  refine lv_topi (fun v125 ev125 => ?_)
                  have tv125 : v125.toInt = p20_4.toInt + (1) := by rw [ev125]; exact add_i rfl (by decide : (1 : Int32).toInt = 1) (by omega) (by omega)
                  refine lv_bipush (v := 14) hx hb dX10_findLayers_126 (by decide) ?_
                  refine lv_icmp_lt (tgt := 133) hx hb dX10_findLayers_128 (by decide) (fun c128 => ?_) (fun c128 => ?_)
                  · skip
                    have tc128 := f_lt (k := 14) (by decide) c128
                    refine lv_iload_n hx hb dX10_findLayers_133 rfl (lv_at hl 3 rfl) ?_
                    refine lv_iload hx hb dX10_findLayers_134 (lv_at hl 1 rfl) ?_
                    refine lv_ior hx hb dX10_findLayers_136 ?_
                    refine lv_topi (fun v136 ev136 => ?_)
                    have tv136 : 0 ≤ v136.toInt ∧ v136.toInt < 16384 := by rw [ev136]; exact or_b 14 (by decide) (by omega) (by omega) (by omega) (by omega)
                    refine lv_istore_n (lv' := [(3, .int v136), (6, .int p73_6), (5, .int p73_5), (4, .int p20_4), (0, .ref a0), (1, .ref a1), (2, .int x2)]) hx hb dX10_findLayers_137 rfl hl (by decide) rfl (fun ls hl => ?_)
                    refine lv_aload_n hx hb dX10_findLayers_138 rfl (lv_at hl 4 rfl) ?_
                    refine t_get (ci := 10) (lst := ft10 0 0) (C := RX10) (F := TX10) (N := 7) hx hb hts uX10 hown hkb hH t_a0 (hO.no t_a0 (by decide)) (fun _ h9 => h9) rfl rfl 0 (by decide) rfl kw_272 (fun _ h9 => h9) dX10_findLayers_139 (fun v9 h9 => ?_)
                    obtain ⟨v139, rfl, t_v139⟩ := h9
                    refine lv_iload hx hb dX10_findLayers_142 (lv_at hl 3 rfl) ?_
                    refine lv_iconst (v := 1) hx hb dX10_findLayers_144 (by decide) ?_
                    refine lv_iadd hx hb dX10_findLayers_145 ?_
                    refine lv_topi (fun v145 ev145 => ?_)
                    have tv145 : v145.toInt = p20_4.toInt + (1) := by rw [ev145]; exact add_i rfl (by decide : (1 : Int32).toInt = 1) (by omega) (by omega)
                    refine lv_iload hx hb dX10_findLayers_146 (lv_at hl 2 rfl) ?_
                    refine t_ist hx hb hkb hH hS t_v139 (hO.no t_v139 (by decide)) (by omega) (by omega) (show 0 ≤ p73_5.toInt ∧ p73_5.toInt ≤ 16383 from by omega) dX10_findLayers_148 (fun H locs hH hS => ?_)
                    obtain ⟨v149, ev149⟩ : ∃ y : Int32, y = p20_4 + 1 := ⟨_, rfl⟩
                    have tv149 : v149.toInt = p20_4.toInt + (1) := by rw [ev149]; exact add_i rfl (by decide) (by omega) (by omega)
                    refine lv_iinc (v := v149) (lv' := [(4, .int v149), (3, .int v136), (6, .int p73_6), (5, .int p73_5), (0, .ref a0), (1, .ref a1), (2, .int x2)]) hx hb dX10_findLayers_149 hl (k := 3) rfl (by rw [ev149]; rfl) (by decide) rfl (fun ls hl => ?_)
                    refine lv_goto (tgt := 20) hx hb dX10_findLayers_152 (by decide) ?_
                    exact ih20 _ (by omega) v149 v136 _ _ _ rfl (by omega) (by omega) (by omega) (by omega) hH hS (lv_sub hl [0, 1, 4, 5, 6] rfl)
                  · skip
                    have tc128 := f_nlt (k := 14) (by decide) c128
                    exact J131  _ _ _  hH hS (lv_sub hl [] rfl)
              · skip
                have tc77 := f_nge (k := 14) (by decide) c77
                refine lv_aload_n hx hb dX10_findLayers_80 rfl (lv_at hl 4 rfl) ?_
                refine t_get (ci := 10) (lst := ft10 0 0) (C := RX10) (F := TX10) (N := 7) hx hb hts uX10 hown hkb hH t_a0 (hO.no t_a0 (by decide)) (fun _ h9 => h9) rfl rfl 0 (by decide) rfl kw_272 (fun _ h9 => h9) dX10_findLayers_81 (fun v9 h9 => ?_)
                obtain ⟨v81, rfl, t_v81⟩ := h9
                refine lv_iload hx hb dX10_findLayers_84 (lv_at hl 2 rfl) ?_
                refine t_ild hx hb hkb hH t_v81 (hO.no t_v81 (by decide)) (by omega) (by omega) dX10_findLayers_86 (fun v86 h9 => ?_)
                have tv86 : 0 ≤ v86.toInt ∧ v86.toInt ≤ 16383 := h9
                refine lv_iload hx hb dX10_findLayers_87 (lv_at hl 0 rfl) ?_
                refine lv_ishr hx hb dX10_findLayers_89 ?_
                refine lv_topi (fun v89 ev89 => ?_)
                have tv89 : 0 ≤ v89.toInt ∧ v89.toInt ≤ v86.toInt := by rw [ev89]; exact shr_b (by omega)
                refine lv_iconst (v := 1) hx hb dX10_findLayers_90 (by decide) ?_
                refine lv_iand hx hb dX10_findLayers_91 ?_
                refine lv_topi (fun v91 ev91 => ?_)
                have tv91 : 0 ≤ v91.toInt ∧ v91.toInt ≤ 1 := by rw [ev91]; exact and_r (by decide)
                have J111 : ∀ (p111_5 : Int32) (H : Heap) (locs : List Loc) (ls : Array Slot), (0 ≤ p111_5.toInt) → (p111_5.toInt ≤ 16383) → HT D cs A T O X H → va_S A s.heap H locs → lv_has ls 7 [(6, .int p73_6), (5, .int p111_5), (4, .int p20_4), (3, .int p20_3), (0, .ref a0), (1, .ref a1), (2, .int x2)] → W p l e { frames := 4, cells := 0, slots := 0, locals := 101 } s m [.ref a0, .ref a1, .int x2].toArray below meth c H locs 0 0 (MQ below (Ti D cs (fun r u => u = (T, O, X) ∧ 0 ≤ r.toInt ∧ r.toInt ≤ 14) A) [.ref a0, .ref a1, .int x2].toArray s 0 0 A) (F0 m 111 ls []) := by
                  intro p111_5 H locs ls l_p111_5 u_p111_5 hH hS hl
                  obtain ⟨v111, ev111⟩ : ∃ y : Int32, y = p73_6 + 1 := ⟨_, rfl⟩
                  have tv111 : v111.toInt = p73_6.toInt + (1) := by rw [ev111]; exact add_i rfl (by decide) (by omega) (by omega)
                  refine lv_iinc (v := v111) (lv' := [(6, .int v111), (5, .int p111_5), (4, .int p20_4), (3, .int p20_3), (0, .ref a0), (1, .ref a1), (2, .int x2)]) hx hb dX10_findLayers_111 hl (k := 0) rfl (by rw [ev111]; rfl) (by decide) rfl (fun ls hl => ?_)
                  refine lv_goto (tgt := 73) hx hb dX10_findLayers_114 (by decide) ?_
                  exact ih73 _ (by omega) v111 p111_5 _ _ _ rfl (by omega) (by omega) (by omega) (by omega) hH hS (lv_sub hl [0, 1, 2, 3, 4, 5, 6] rfl)
                refine lv_if_eq (tgt := 111) hx hb dX10_findLayers_92 (by decide) (fun c92 => ?_) (fun c92 => ?_)
                · skip
                  have tc92 := f_eq (k := 0) (by decide) c92
                  exact J111 p73_5 _ _ _ (by omega) (by omega) hH hS (lv_sub hl [0, 1, 2, 3, 4, 5, 6] rfl)
                · skip
                  have tc92 := f_ne (k := 0) (by decide) c92
                  refine lv_iload hx hb dX10_findLayers_95 (lv_at hl 1 rfl) ?_
                  refine lv_aload_n hx hb dX10_findLayers_97 rfl (lv_at hl 5 rfl) ?_
                  refine lv_iload hx hb dX10_findLayers_98 (lv_at hl 0 rfl) ?_
                  refine lv_iload_n hx hb dX10_findLayers_100 rfl (lv_at hl 6 rfl) ?_
                  refine lv_iload_n hx hb dX10_findLayers_101 rfl (lv_at hl 3 rfl) ?_
                  refine lv_iconst (v := (-1)) hx hb dX10_findLayers_102 (by decide) ?_
                  refine lv_ixor hx hb dX10_findLayers_103 ?_
                  refine lv_topi (fun v103 ev103 => ?_)
                  refine lv_iand hx hb dX10_findLayers_104 ?_
                  refine lv_topi (fun v104 ev104 => ?_)
                  refine tk_i hH hS hA (tr_V (n := 2) (As := [.int p73_6, .int v104]) hx hb hml hown hts hkb hH hOX hks hE hS hA (s_Rows_stepped l D cs kf T O X a1 p73_6 v104 t_a1 (hO.sub (by decide))) kw_920 kw_863 kw_864 kw_8 kw_865 (by decide +kernel) ⟨Nat.le_of_ble_eq_true rfl, Nat.le_of_ble_eq_true rfl⟩ (HT.recv (ci := 5) hkb hH t_a1 (hO.no t_a1 (by decide)) rfl) rfl rfl hl.1 (Nat.le_of_ble_eq_true rfl) dX10_findLayers_105 ⟨Nat.le_of_ble_eq_true rfl, Nat.le_of_ble_eq_true rfl⟩) (fun v105 u H locs hz9 hH hS => ?_)
                  obtain ⟨rfl, l_v105, u_v105⟩ := hz9
                  have hH : HT D cs A T O X H := hH
                  refine W.widen (k := 0) (n := 0) (Nat.le_of_ble_eq_true rfl) (Nat.le_of_ble_eq_true rfl) ?_
                  refine lv_ior hx hb dX10_findLayers_108 ?_
                  refine lv_topi (fun v108 ev108 => ?_)
                  have tv108 : 0 ≤ v108.toInt ∧ v108.toInt < 16384 := by rw [ev108]; exact or_b 14 (by decide) (by omega) (by omega) (by omega) (by omega)
                  refine lv_istore (lv' := [(5, .int v108), (6, .int p73_6), (4, .int p20_4), (3, .int p20_3), (0, .ref a0), (1, .ref a1), (2, .int x2)]) hx hb dX10_findLayers_109 hl (by decide) rfl (fun ls hl => ?_)
                  exact J111 v108 _ _ _ (by omega) (by omega) hH hS (lv_sub hl [1, 0, 2, 3, 4, 5, 6] rfl)
          refine lv_istore (lv' := [(6, .int 0), (5, .int 0), (4, .int p20_4), (3, .int p20_3), (0, .ref a0), (1, .ref a1), (2, .int x2)]) hx hb dX10_findLayers_71 hl (by decide) rfl (fun ls hl => ?_)
          exact J73 _ 0 0 _ _ _ rfl (by decide) (by decide) (by decide) (by decide) hH hS (lv_sub hl [0, 1, 2, 3, 4, 5, 6] rfl)
        · skip
          have tc42 := f_ne (k := 0) (by decide) c42
          refine lv_aload_n hx hb dX10_findLayers_45 rfl (lv_at hl 2 rfl) ?_
          refine t_get (ci := 10) (lst := ft10 0 0) (C := RX10) (F := TX10) (N := 7) hx hb hts uX10 hown hkb hH t_a0 (hO.no t_a0 (by decide)) (fun _ h9 => h9) rfl rfl 0 (by decide) rfl kw_272 (fun _ h9 => h9) dX10_findLayers_46 (fun v9 h9 => ?_)
          obtain ⟨v46, rfl, t_v46⟩ := h9
          refine lv_iload hx hb dX10_findLayers_49 (lv_at hl 0 rfl) ?_
          refine lv_dup2_11 hx hb dX10_findLayers_51 rfl rfl ?_
          refine t_ild hx hb hkb hH t_v46 (hO.no t_v46 (by decide)) (by omega) (by omega) dX10_findLayers_52 (fun v52 h9 => ?_)
          have tv52 : 0 ≤ v52.toInt ∧ v52.toInt ≤ 16383 := h9
          refine lv_aload_n hx hb dX10_findLayers_53 rfl (lv_at hl 3 rfl) ?_
          refine t_get (ci := 5) (lst := ft5 0 0) (C := RX5) (F := TX5) (N := 6) hx hb hts uX5 hown hkb hH t_a1 (hO.no t_a1 (by decide)) (fun _ h9 => h9) rfl rfl 0 (by decide) rfl kw_246 (fun _ h9 => h9) dX10_findLayers_54 (fun v9 h9 => ?_)
          obtain ⟨v54, hv54, gv54, rfl, t_v54⟩ := h9
          refine t_get (ci := 9) (lst := ft9w hv54 gv54) (C := RX9) (F := TX9) (N := 14) hx hb hts uX9 hown hkb hH t_v54.1 (hO.no t_v54.1 (by decide)) (fun fs => (ob9w t_v54 fs).mp) rfl rfl 4 (by decide) rfl kw_126 (fun _ h9 => h9) dX10_findLayers_57 (fun v9 h9 => ?_)
          obtain ⟨v57, rfl, l_v57, u_v57⟩ := h9
          refine lv_iand hx hb dX10_findLayers_60 ?_
          refine lv_topi (fun v60 ev60 => ?_)
          have tv60 : 0 ≤ v60.toInt ∧ v60.toInt ≤ v52.toInt := by rw [ev60]; exact and_l (by omega)
          have ttv60 : 0 ≤ v60.toInt ∧ v60.toInt ≤ v57.toInt := by rw [ev60]; exact and_r (by omega)
          refine t_ist hx hb hkb hH hS t_v46 (hO.no t_v46 (by decide)) (by omega) (by omega) (show 0 ≤ v60.toInt ∧ v60.toInt ≤ 16383 from by omega) dX10_findLayers_61 (fun H locs hH hS => ?_)
          refine lv_iload hx hb dX10_findLayers_62 (lv_at hl 0 rfl) ?_
          refine lv_iconst (v := 1) hx hb dX10_findLayers_64 (by decide) ?_
          refine lv_iadd hx hb dX10_findLayers_65 ?_
          refine lv_topi (fun v65 ev65 => ?_)
          have tv65 : v65.toInt = p20_4.toInt + (1) := by rw [ev65]; exact add_i rfl (by decide : (1 : Int32).toInt = 1) (by omega) (by omega)
          exact te_i hx hb hr hlocks hH hS (⟨rfl, by omega, by omega⟩) dX10_findLayers_66
  refine lv_istore (lv' := [(4, .int 0), (3, .int v8), (0, .ref a0), (1, .ref a1), (2, .int x2)]) hx hb dX10_findLayers_18 hl (by decide) rfl (fun ls hl => ?_)
  exact J20 _ 0 v8 _ _ _ rfl (by decide) (by decide) (by omega) (by omega) hH hS (lv_sub hl [0, 1, 2, 3, 4] rfl)
set_option maxHeartbeats 4000000 in
set_option maxRecDepth 100000 in
theorem s_Ways_keepLeading (l : Launch) (D : va_G) (cs : CS) (kf : KF) (T : TF) (O : List Nat) (X : va_W) (a0 : Nat) (a1 : Nat) (x2 : Int32) (t_a0 : T a0 = some (20, 0, 0)) (t_a1 : T a1 = some (15, 0, 0)) (l_x2 : 0 ≤ x2.toInt) (u_x2 : x2.toInt ≤ 14) (hO : okO T O [1, 12, 15, 19, 20]) : TK l D cs kf yX10_keepLeading cX10_keepLeading 5 none { frames := 4, cells := 0, slots := 0, locals := 101 } [.ref a0, .ref a1, .int x2] T O X (Tv D cs (fun u => u = (T, O, X))) := by
  refine tk_of (by decide) (Nat.le_of_ble_eq_true rfl) (fun p e s m below meth c ls A H locs hx hb hr hml hown hts hlocks hnm hkb hH hS hA hOX hks hE hl => ?_)
  have hown : s.vm.findClass RX10 = some m.cls := hown
  have hl : lv_has ls 5 [(0, .ref a0), (1, .ref a1), (2, .int x2)] := hl
  refine lv_iload_n hx hb dX10_keepLeading_0 rfl (lv_at hl 2 rfl) ?_
  refine lv_iconst (v := 2) hx hb dX10_keepLeading_1 (by decide) ?_
  refine lv_isub hx hb dX10_keepLeading_2 ?_
  refine lv_topi (fun v2 ev2 => ?_)
  have tv2 : v2.toInt = x2.toInt - (2) := by rw [ev2]; exact sub_i rfl (by decide : (2 : Int32).toInt = 2) (by omega) (by omega)
  have J4 : ∀ (n : Nat) (p4_3 : Int32) (H : Heap) (locs : List Loc) (ls : Array Slot), (p4_3.toInt - (-2)).toNat = n → (-2 ≤ p4_3.toInt) → (p4_3.toInt ≤ 12) → HT D cs A T O X H → va_S A s.heap H locs → lv_has ls 5 [(3, .int p4_3), (0, .ref a0), (1, .ref a1)] → W p l e { frames := 4, cells := 0, slots := 0, locals := 101 } s m [.ref a0, .ref a1, .int x2].toArray below meth c H locs 0 0 (MQ below (Tv D cs (fun u => u = (T, O, X)) A) [.ref a0, .ref a1, .int x2].toArray s 0 0 A) (F0 m 4 ls []) := by
    intro n
    induction n using Nat.strongRecOn with
    | _ n ih4 =>
      intro p4_3 H locs ls hm4 l_p4_3 u_p4_3 hH hS hl
      refine lv_iload_n hx hb dX10_keepLeading_4 rfl (lv_at hl 0 rfl) ?_
      refine lv_if_lt (tgt := 76) hx hb dX10_keepLeading_5 (by decide) (fun c5 => ?_) (fun c5 => ?_)
      · skip
        have tc5 := f_lt (k := 0) (by decide) c5
        exact te_v hx hb hr hlocks hH hS rfl dX10_keepLeading_76
      · skip
        have tc5 := f_nlt (k := 0) (by decide) c5
        refine lv_iconst (v := 0) hx hb dX10_keepLeading_8 (by decide) ?_
        have J11 : ∀ (n : Nat) (p11_4 : Int32) (H : Heap) (locs : List Loc) (ls : Array Slot), (14 - p11_4.toInt).toNat = n → (0 ≤ p11_4.toInt) → (p11_4.toInt ≤ 14) → HT D cs A T O X H → va_S A s.heap H locs → lv_has ls 5 [(4, .int p11_4), (3, .int p4_3), (0, .ref a0), (1, .ref a1)] → W p l e { frames := 4, cells := 0, slots := 0, locals := 101 } s m [.ref a0, .ref a1, .int x2].toArray below meth c H locs 0 0 (MQ below (Tv D cs (fun u => u = (T, O, X)) A) [.ref a0, .ref a1, .int x2].toArray s 0 0 A) (F0 m 11 ls []) := by
          intro n
          induction n using Nat.strongRecOn with
          | _ n ih11 =>
            intro p11_4 H locs ls hm11 l_p11_4 u_p11_4 hH hS hl
            refine lv_iload hx hb dX10_keepLeading_11 (lv_at hl 0 rfl) ?_
            refine lv_bipush (v := 14) hx hb dX10_keepLeading_13 (by decide) ?_
            refine lv_icmp_ge (tgt := 70) hx hb dX10_keepLeading_15 (by decide) (fun c15 => ?_) (fun c15 => ?_)
            · skip
              have tc15 := f_ge (k := 14) (by decide) c15
              obtain ⟨v70, ev70⟩ : ∃ y : Int32, y = p4_3 + (-1) := ⟨_, rfl⟩
              have tv70 : v70.toInt = p4_3.toInt + (-1) := by rw [ev70]; exact add_i rfl (by decide) (by omega) (by omega)
              refine lv_iinc (v := v70) (lv' := [(3, .int v70), (4, .int p11_4), (0, .ref a0), (1, .ref a1)]) hx hb dX10_keepLeading_70 hl (k := 1) rfl (by rw [ev70]; rfl) (by decide) rfl (fun ls hl => ?_)
              refine lv_goto (tgt := 4) hx hb dX10_keepLeading_73 (by decide) ?_
              exact ih4 _ (by omega) v70 _ _ _ rfl (by omega) (by omega) hH hS (lv_sub hl [0, 2, 3] rfl)
            · skip
              have tc15 := f_nge (k := 14) (by decide) c15
              refine lv_aload_n hx hb dX10_keepLeading_18 rfl (lv_at hl 2 rfl) ?_
              refine t_get (ci := 10) (lst := ft10 0 0) (C := RX10) (F := TX10) (N := 7) hx hb hts uX10 hown hkb hH t_a0 (hO.no t_a0 (by decide)) (fun _ h9 => h9) rfl rfl 0 (by decide) rfl kw_272 (fun _ h9 => h9) dX10_keepLeading_19 (fun v9 h9 => ?_)
              obtain ⟨v19, rfl, t_v19⟩ := h9
              refine lv_iload_n hx hb dX10_keepLeading_22 rfl (lv_at hl 1 rfl) ?_
              refine t_ild hx hb hkb hH t_v19 (hO.no t_v19 (by decide)) (by omega) (by omega) dX10_keepLeading_23 (fun v23 h9 => ?_)
              have tv23 : 0 ≤ v23.toInt ∧ v23.toInt ≤ 16383 := h9
              refine lv_iload hx hb dX10_keepLeading_24 (lv_at hl 0 rfl) ?_
              refine lv_ishr hx hb dX10_keepLeading_26 ?_
              refine lv_topi (fun v26 ev26 => ?_)
              have tv26 : 0 ≤ v26.toInt ∧ v26.toInt ≤ v23.toInt := by rw [ev26]; exact shr_b (by omega)
              refine lv_iconst (v := 1) hx hb dX10_keepLeading_27 (by decide) ?_
              refine lv_iand hx hb dX10_keepLeading_28 ?_
              refine lv_topi (fun v28 ev28 => ?_)
              have tv28 : 0 ≤ v28.toInt ∧ v28.toInt ≤ 1 := by rw [ev28]; exact and_r (by decide)
              have J64 : ∀  (H : Heap) (locs : List Loc) (ls : Array Slot), HT D cs A T O X H → va_S A s.heap H locs → lv_has ls 5 [(4, .int p11_4), (3, .int p4_3), (0, .ref a0), (1, .ref a1)] → W p l e { frames := 4, cells := 0, slots := 0, locals := 101 } s m [.ref a0, .ref a1, .int x2].toArray below meth c H locs 0 0 (MQ below (Tv D cs (fun u => u = (T, O, X)) A) [.ref a0, .ref a1, .int x2].toArray s 0 0 A) (F0 m 64 ls []) := by
                intro  H locs ls  hH hS hl
                obtain ⟨v64, ev64⟩ : ∃ y : Int32, y = p11_4 + 1 := ⟨_, rfl⟩
                have tv64 : v64.toInt = p11_4.toInt + (1) := by rw [ev64]; exact add_i rfl (by decide) (by omega) (by omega)
                refine lv_iinc (v := v64) (lv' := [(4, .int v64), (3, .int p4_3), (0, .ref a0), (1, .ref a1)]) hx hb dX10_keepLeading_64 hl (k := 0) rfl (by rw [ev64]; rfl) (by decide) rfl (fun ls hl => ?_)
                refine lv_goto (tgt := 11) hx hb dX10_keepLeading_67 (by decide) ?_
                exact ih11 _ (by omega) v64 _ _ _ rfl (by omega) (by omega) hH hS (lv_sub hl [0, 1, 2, 3] rfl)
              refine lv_if_eq (tgt := 64) hx hb dX10_keepLeading_29 (by decide) (fun c29 => ?_) (fun c29 => ?_)
              · skip
                have tc29 := f_eq (k := 0) (by decide) c29
                exact J64  _ _ _  hH hS (lv_sub hl [0, 1, 2, 3] rfl)
              · skip
                have tc29 := f_ne (k := 0) (by decide) c29
                refine lv_aload_n hx hb dX10_keepLeading_32 rfl (lv_at hl 3 rfl) ?_
                refine lv_iload hx hb dX10_keepLeading_33 (lv_at hl 0 rfl) ?_
                refine lv_aload_n hx hb dX10_keepLeading_35 rfl (lv_at hl 2 rfl) ?_
                refine t_get (ci := 10) (lst := ft10 0 0) (C := RX10) (F := TX10) (N := 7) hx hb hts uX10 hown hkb hH t_a0 (hO.no t_a0 (by decide)) (fun _ h9 => h9) rfl rfl 0 (by decide) rfl kw_272 (fun _ h9 => h9) dX10_keepLeading_36 (fun v9 h9 => ?_)
                obtain ⟨v36, rfl, t_v36⟩ := h9
                refine lv_iload_n hx hb dX10_keepLeading_39 rfl (lv_at hl 1 rfl) ?_
                refine lv_iconst (v := 1) hx hb dX10_keepLeading_40 (by decide) ?_
                refine lv_iadd hx hb dX10_keepLeading_41 ?_
                refine lv_topi (fun v41 ev41 => ?_)
                have tv41 : v41.toInt = p4_3.toInt + (1) := by rw [ev41]; exact add_i rfl (by decide : (1 : Int32).toInt = 1) (by omega) (by omega)
                refine t_ild hx hb hkb hH t_v36 (hO.no t_v36 (by decide)) (by omega) (by omega) dX10_keepLeading_42 (fun v42 h9 => ?_)
                have tv42 : 0 ≤ v42.toInt ∧ v42.toInt ≤ 16383 := h9
                refine tk_i hH hS hA (tr_V (n := 2) (As := [.int p11_4, .int v42]) hx hb hml hown hts hkb hH hOX hks hE hS hA (s_Rows_stepped l D cs kf T O X a1 p11_4 v42 t_a1 (hO.sub (by decide))) kw_920 kw_863 kw_864 kw_8 kw_865 (by decide +kernel) ⟨Nat.le_of_ble_eq_true rfl, Nat.le_of_ble_eq_true rfl⟩ (HT.recv (ci := 5) hkb hH t_a1 (hO.no t_a1 (by decide)) rfl) rfl rfl hl.1 (Nat.le_of_ble_eq_true rfl) dX10_keepLeading_43 ⟨Nat.le_of_ble_eq_true rfl, Nat.le_of_ble_eq_true rfl⟩) (fun v43 u H locs hz9 hH hS => ?_)
                obtain ⟨rfl, l_v43, u_v43⟩ := hz9
                have hH : HT D cs A T O X H := hH
                refine W.widen (k := 0) (n := 0) (Nat.le_of_ble_eq_true rfl) (Nat.le_of_ble_eq_true rfl) ?_
                refine lv_if_ne (tgt := 64) hx hb dX10_keepLeading_46 (by decide) (fun c46 => ?_) (fun c46 => ?_)
                · skip
                  have tc46 := f_ne (k := 0) (by decide) c46
                  exact J64  _ _ _  hH hS (lv_sub hl [0, 1, 2, 3] rfl)
                · skip
                  have tc46 := f_eq (k := 0) (by decide) c46
                  refine lv_aload_n hx hb dX10_keepLeading_49 rfl (lv_at hl 2 rfl) ?_
                  refine t_get (ci := 10) (lst := ft10 0 0) (C := RX10) (F := TX10) (N := 7) hx hb hts uX10 hown hkb hH t_a0 (hO.no t_a0 (by decide)) (fun _ h9 => h9) rfl rfl 0 (by decide) rfl kw_272 (fun _ h9 => h9) dX10_keepLeading_50 (fun v9 h9 => ?_)
                  obtain ⟨v50, rfl, t_v50⟩ := h9
                  refine lv_iload_n hx hb dX10_keepLeading_53 rfl (lv_at hl 1 rfl) ?_
                  refine lv_dup2_11 hx hb dX10_keepLeading_54 rfl rfl ?_
                  refine t_ild hx hb hkb hH t_v50 (hO.no t_v50 (by decide)) (by omega) (by omega) dX10_keepLeading_55 (fun v55 h9 => ?_)
                  have tv55 : 0 ≤ v55.toInt ∧ v55.toInt ≤ 16383 := h9
                  refine lv_iconst (v := 1) hx hb dX10_keepLeading_56 (by decide) ?_
                  refine lv_iload hx hb dX10_keepLeading_57 (lv_at hl 0 rfl) ?_
                  refine lv_ishl hx hb dX10_keepLeading_59 ?_
                  refine lv_topi (fun v59 ev59 => ?_)
                  have tv59 : 1 ≤ v59.toInt ∧ v59.toInt ≤ 8192 := by rw [ev59]; exact shl_b 13 (by decide) (by omega) (by omega)
                  refine lv_iconst (v := (-1)) hx hb dX10_keepLeading_60 (by decide) ?_
                  refine lv_ixor hx hb dX10_keepLeading_61 ?_
                  refine lv_topi (fun v61 ev61 => ?_)
                  refine lv_iand hx hb dX10_keepLeading_62 ?_
                  refine lv_topi (fun v62 ev62 => ?_)
                  have tv62 : 0 ≤ v62.toInt ∧ v62.toInt ≤ v55.toInt := by rw [ev62]; exact and_l (by omega)
                  refine t_ist hx hb hkb hH hS t_v50 (hO.no t_v50 (by decide)) (by omega) (by omega) (show 0 ≤ v62.toInt ∧ v62.toInt ≤ 16383 from by omega) dX10_keepLeading_63 (fun H locs hH hS => ?_)
                  exact J64  _ _ _  hH hS (lv_sub hl [0, 1, 2, 3] rfl)
        refine lv_istore (lv' := [(4, .int 0), (3, .int p4_3), (0, .ref a0), (1, .ref a1)]) hx hb dX10_keepLeading_9 hl (by decide) rfl (fun ls hl => ?_)
        exact J11 _ 0 _ _ _ rfl (by decide) (by decide) hH hS (lv_sub hl [0, 1, 2, 3] rfl)
  refine lv_istore_n (lv' := [(3, .int v2), (0, .ref a0), (1, .ref a1), (2, .int x2)]) hx hb dX10_keepLeading_3 rfl hl (by decide) rfl (fun ls hl => ?_)
  exact J4 _ v2 _ _ _ rfl (by omega) (by omega) hH hS (lv_sub hl [0, 1, 2] rfl)
set_option maxHeartbeats 4000000 in
set_option maxRecDepth 100000 in
theorem s_Ways_find (l : Launch) (D : va_G) (cs : CS) (kf : KF) (T : TF) (O : List Nat) (X : va_W) (a0 : Nat) (a1 : Nat) (x2 : Int32) (t_a0 : T a0 = some (20, 0, 0)) (t_a1 : T a1 = some (15, 0, 0)) (hO : okO T O [1, 12, 15, 19, 20]) : TK l D cs kf yX10_find cX10_find 6 (some (.int)) { frames := 5, cells := 0, slots := 0, locals := 127 } [.ref a0, .ref a1, .int x2] T O X (Ti D cs (fun r u => u = (T, O, X) ∧ 0 ≤ r.toInt ∧ r.toInt ≤ 14)) := by
  refine tk_of (by decide) (Nat.le_of_ble_eq_true rfl) (fun p e s m below meth c ls A H locs hx hb hr hml hown hts hlocks hnm hkb hH hS hA hOX hks hE hl => ?_)
  have hown : s.vm.findClass RX10 = some m.cls := hown
  have hl : lv_has ls 6 [(0, .ref a0), (1, .ref a1), (2, .int x2)] := hl
  refine lv_aload_n hx hb dX10_find_0 rfl (lv_at hl 0 rfl) ?_
  refine lv_aload_n hx hb dX10_find_1 rfl (lv_at hl 0 rfl) ?_
  refine lv_aload_n hx hb dX10_find_2 rfl (lv_at hl 1 rfl) ?_
  refine lv_iload_n hx hb dX10_find_3 rfl (lv_at hl 2 rfl) ?_
  refine tk_i hH hS hA (tr_V (n := 2) (As := [.ref a1, .int x2]) hx hb hml hown hts hkb hH hOX hks hE hS hA (s_Ways_findLayers l D cs kf T O X a0 a1 x2 t_a0 t_a1 (hO.sub (by decide))) kw_916 kw_918 ks_27 kw_9 kw_919 (by decide +kernel) ⟨Nat.le_of_ble_eq_true rfl, Nat.le_of_ble_eq_true rfl⟩ (HT.recv (ci := 10) hkb hH t_a0 (hO.no t_a0 (by decide)) rfl) rfl rfl hl.1 (Nat.le_of_ble_eq_true rfl) dX10_find_4 ⟨Nat.le_of_ble_eq_true rfl, Nat.le_of_ble_eq_true rfl⟩) (fun v4 u H locs hz9 hH hS => ?_)
  obtain ⟨rfl, l_v4, u_v4⟩ := hz9
  have hH : HT D cs A T O X H := hH
  refine W.widen (k := 0) (n := 0) (Nat.le_of_ble_eq_true rfl) (Nat.le_of_ble_eq_true rfl) ?_
  refine t_put (ci := 10) (lst := ft10 0 0) (v := .int v4) (ty := tyX10 2) (C := RX10) (F := TX10) (N := 7) hx hb hts uX10 tyX10 tyX10_ok nmX10 hown hkb hH hS t_a0 (hO.no t_a0 (by decide)) (fun _ => Iff.rfl) rfl rfl 2 (by decide) rfl (⟨_, rfl, by omega, by omega⟩) kw_275 (fun _ h9 => h9) rfl (tyX10_ok 2 (by decide)) rfl rfl dX10_find_7 (fun H locs hH hS => ?_)
  refine lv_aload_n hx hb dX10_find_10 rfl (lv_at hl 0 rfl) ?_
  refine lv_aload_n hx hb dX10_find_11 rfl (lv_at hl 1 rfl) ?_
  refine lv_aload_n hx hb dX10_find_12 rfl (lv_at hl 0 rfl) ?_
  refine t_get (ci := 10) (lst := ft10 0 0) (C := RX10) (F := TX10) (N := 7) hx hb hts uX10 hown hkb hH t_a0 (hO.no t_a0 (by decide)) (fun _ h9 => h9) rfl rfl 2 (by decide) rfl kw_275 (fun _ h9 => h9) dX10_find_13 (fun v9 h9 => ?_)
  obtain ⟨v13, rfl, l_v13, u_v13⟩ := h9
  refine tk_v hH hS hA (tr_V (n := 2) (As := [.ref a1, .int v13]) hx hb hml hown hts hkb hH hOX hks hE hS hA (s_Ways_keepLeading l D cs kf T O X a0 a1 v13 t_a0 t_a1 (by omega) (by omega) (hO.sub (by decide))) kw_921 kw_923 ks_28 kw_9 kw_924 (by decide +kernel) ⟨Nat.le_of_ble_eq_true rfl, Nat.le_of_ble_eq_true rfl⟩ (HT.recv (ci := 10) hkb hH t_a0 (hO.no t_a0 (by decide)) rfl) rfl rfl hl.1 (Nat.le_of_ble_eq_true rfl) dX10_find_16 ⟨Nat.le_of_ble_eq_true rfl, Nat.le_of_ble_eq_true rfl⟩) (fun u H locs hz9 hH hS => ?_)
  have hz9 : u = (T, O, X) := hz9
  subst hz9
  have hH : HT D cs A T O X H := hH
  refine W.widen (k := 0) (n := 0) (Nat.le_of_ble_eq_true rfl) (Nat.le_of_ble_eq_true rfl) ?_
  refine lv_aload_n hx hb dX10_find_19 rfl (lv_at hl 0 rfl) ?_
  refine t_get (ci := 10) (lst := ft10 0 0) (C := RX10) (F := TX10) (N := 7) hx hb hts uX10 hown hkb hH t_a0 (hO.no t_a0 (by decide)) (fun _ h9 => h9) rfl rfl 2 (by decide) rfl kw_275 (fun _ h9 => h9) dX10_find_20 (fun v9 h9 => ?_)
  obtain ⟨v20, rfl, l_v20, u_v20⟩ := h9
  have J36 : ∀ (k36_0 : Int32) (H : Heap) (locs : List Loc) (ls : Array Slot), (0 ≤ k36_0.toInt) → (k36_0.toInt ≤ 16383) → HT D cs A T O X H → va_S A s.heap H locs → lv_has ls 6 [(0, .ref a0), (1, .ref a1)] → W p l e { frames := 5, cells := 0, slots := 0, locals := 127 } s m [.ref a0, .ref a1, .int x2].toArray below meth c H locs 0 0 (MQ below (Ti D cs (fun r u => u = (T, O, X) ∧ 0 ≤ r.toInt ∧ r.toInt ≤ 14) A) [.ref a0, .ref a1, .int x2].toArray s 0 0 A) (F0 m 36 ls [.int k36_0]) := by
    intro k36_0 H locs ls l_k36_0 u_k36_0 hH hS hl
    refine lv_istore_n (lv' := [(3, .int k36_0), (0, .ref a0), (1, .ref a1)]) hx hb dX10_find_36 rfl hl (by decide) rfl (fun ls hl => ?_)
    refine lv_iconst (v := 0) hx hb dX10_find_37 (by decide) ?_
    have J40 : ∀ (n : Nat) (p40_4 : Int32) (p40_3 : Int32) (H : Heap) (locs : List Loc) (ls : Array Slot), (14 - p40_4.toInt).toNat = n → (0 ≤ p40_4.toInt) → (p40_4.toInt ≤ 14) → (0 ≤ p40_3.toInt) → (p40_3.toInt ≤ 16383) → HT D cs A T O X H → va_S A s.heap H locs → lv_has ls 6 [(4, .int p40_4), (3, .int p40_3), (0, .ref a0), (1, .ref a1)] → W p l e { frames := 5, cells := 0, slots := 0, locals := 127 } s m [.ref a0, .ref a1, .int x2].toArray below meth c H locs 0 0 (MQ below (Ti D cs (fun r u => u = (T, O, X) ∧ 0 ≤ r.toInt ∧ r.toInt ≤ 14) A) [.ref a0, .ref a1, .int x2].toArray s 0 0 A) (F0 m 40 ls []) := by
      intro n
      induction n using Nat.strongRecOn with
      | _ n ih40 =>
        intro p40_4 p40_3 H locs ls hm40 l_p40_4 u_p40_4 l_p40_3 u_p40_3 hH hS hl
        refine lv_iload hx hb dX10_find_40 (lv_at hl 0 rfl) ?_
        refine lv_aload_n hx hb dX10_find_42 rfl (lv_at hl 2 rfl) ?_
        refine t_get (ci := 10) (lst := ft10 0 0) (C := RX10) (F := TX10) (N := 7) hx hb hts uX10 hown hkb hH t_a0 (hO.no t_a0 (by decide)) (fun _ h9 => h9) rfl rfl 2 (by decide) rfl kw_275 (fun _ h9 => h9) dX10_find_43 (fun v9 h9 => ?_)
        obtain ⟨v43, rfl, l_v43, u_v43⟩ := h9
        refine lv_icmp_ge (tgt := 101) hx hb dX10_find_46 (by decide) (fun c46 => ?_) (fun c46 => ?_)
        · skip
          have fuc46 := full_i p40_4
          have fvc46 := full_i v43
          have tc46 := g_le c46
          refine lv_aload_n hx hb dX10_find_101 rfl (lv_at hl 2 rfl) ?_
          refine t_get (ci := 10) (lst := ft10 0 0) (C := RX10) (F := TX10) (N := 7) hx hb hts uX10 hown hkb hH t_a0 (hO.no t_a0 (by decide)) (fun _ h9 => h9) rfl rfl 2 (by decide) rfl kw_275 (fun _ h9 => h9) dX10_find_102 (fun v9 h9 => ?_)
          obtain ⟨v102, rfl, l_v102, u_v102⟩ := h9
          exact te_i hx hb hr hlocks hH hS (⟨rfl, by omega, by omega⟩) dX10_find_105
        · skip
          have fuc46 := full_i p40_4
          have fvc46 := full_i v43
          have tc46 := g_nle c46
          refine lv_iload_n hx hb dX10_find_49 rfl (lv_at hl 1 rfl) ?_
          refine tk_i hH hS hA (tr_S (n := 1) (As := [.int p40_3]) hx hb hml hown hts hkb hH hOX hks hE hS hA (s_ntz l D cs kf T O X p40_3  (hO.sub (by decide))) kw_925 kw_859 kw_20 kw_860 (by decide +kernel) ⟨Nat.le_of_ble_eq_true rfl, Nat.le_of_ble_eq_true rfl⟩ rfl rfl hl.1 (Nat.le_of_ble_eq_true rfl) dX10_find_50 ⟨Nat.le_of_ble_eq_true rfl, Nat.le_of_ble_eq_true rfl⟩) (fun v50 u H locs hz9 hH hS => ?_)
          have hz9 : u = (T, O, X) := hz9
          subst hz9
          have hH : HT D cs A T O X H := hH
          refine W.widen (k := 0) (n := 0) (Nat.le_of_ble_eq_true rfl) (Nat.le_of_ble_eq_true rfl) ?_
          refine lv_istore (lv' := [(5, .int v50), (4, .int p40_4), (3, .int p40_3), (0, .ref a0), (1, .ref a1)]) hx hb dX10_find_53 hl (by decide) rfl (fun ls hl => ?_)
          refine lv_aload_n hx hb dX10_find_55 rfl (lv_at hl 3 rfl) ?_
          refine t_get (ci := 10) (lst := ft10 0 0) (C := RX10) (F := TX10) (N := 7) hx hb hts uX10 hown hkb hH t_a0 (hO.no t_a0 (by decide)) (fun _ h9 => h9) rfl rfl 1 (by decide) rfl kw_273 (fun _ h9 => h9) dX10_find_56 (fun v9 h9 => ?_)
          obtain ⟨v56, rfl, t_v56⟩ := h9
          refine lv_iload hx hb dX10_find_59 (lv_at hl 1 rfl) ?_
          refine lv_iload hx hb dX10_find_61 (lv_at hl 0 rfl) ?_
          refine t_ist hx hb hkb hH hS t_v56 (hO.no t_v56 (by decide)) (by omega) (by omega) (cp_0 _) dX10_find_63 (fun H locs hH hS => ?_)
          refine lv_iload hx hb dX10_find_64 (lv_at hl 1 rfl) ?_
          refine lv_iconst (v := 1) hx hb dX10_find_66 (by decide) ?_
          refine lv_iadd hx hb dX10_find_67 ?_
          refine lv_topi (fun v67 ev67 => ?_)
          have tv67 : v67.toInt = p40_4.toInt + (1) := by rw [ev67]; exact add_i rfl (by decide : (1 : Int32).toInt = 1) (by omega) (by omega)
          refine lv_aload_n hx hb dX10_find_68 rfl (lv_at hl 3 rfl) ?_
          refine t_get (ci := 10) (lst := ft10 0 0) (C := RX10) (F := TX10) (N := 7) hx hb hts uX10 hown hkb hH t_a0 (hO.no t_a0 (by decide)) (fun _ h9 => h9) rfl rfl 2 (by decide) rfl kw_275 (fun _ h9 => h9) dX10_find_69 (fun v9 h9 => ?_)
          obtain ⟨v69, rfl, l_v69, u_v69⟩ := h9
          have J94 : ∀ (k94_0 : Int32) (H : Heap) (locs : List Loc) (ls : Array Slot), (0 ≤ k94_0.toInt) → (k94_0.toInt ≤ 16383) → HT D cs A T O X H → va_S A s.heap H locs → lv_has ls 6 [(4, .int p40_4), (0, .ref a0), (1, .ref a1)] → W p l e { frames := 5, cells := 0, slots := 0, locals := 127 } s m [.ref a0, .ref a1, .int x2].toArray below meth c H locs 0 0 (MQ below (Ti D cs (fun r u => u = (T, O, X) ∧ 0 ≤ r.toInt ∧ r.toInt ≤ 14) A) [.ref a0, .ref a1, .int x2].toArray s 0 0 A) (F0 m 94 ls [.int k94_0]) := by
            intro k94_0 H locs ls l_k94_0 u_k94_0 hH hS hl
            refine lv_istore_n (lv' := [(3, .int k94_0), (4, .int p40_4), (0, .ref a0), (1, .ref a1)]) hx hb dX10_find_94 rfl hl (by decide) rfl (fun ls hl => ?_)
            obtain ⟨v95, ev95⟩ : ∃ y : Int32, y = p40_4 + 1 := ⟨_, rfl⟩
            have tv95 : v95.toInt = p40_4.toInt + (1) := by rw [ev95]; exact add_i rfl (by decide) (by omega) (by omega)
            refine lv_iinc (v := v95) (lv' := [(4, .int v95), (3, .int k94_0), (0, .ref a0), (1, .ref a1)]) hx hb dX10_find_95 hl (k := 1) rfl (by rw [ev95]; rfl) (by decide) rfl (fun ls hl => ?_)
            refine lv_goto (tgt := 40) hx hb dX10_find_98 (by decide) ?_
            exact ih40 _ (by omega) v95 k94_0 _ _ _ rfl (by omega) (by omega) (by omega) (by omega) hH hS (lv_sub hl [0, 1, 2, 3] rfl)
          refine lv_icmp_ge (tgt := 93) hx hb dX10_find_72 (by decide) (fun c72 => ?_) (fun c72 => ?_)
          · skip
            have fuc72 := full_i v67
            have fvc72 := full_i v69
            have tc72 := g_le c72
            refine lv_iconst (v := 0) hx hb dX10_find_93 (by decide) ?_
            exact J94 0 _ _ _ (by decide) (by decide) hH hS (lv_sub hl [1, 3, 4] rfl)
          · skip
            have fuc72 := full_i v67
            have fvc72 := full_i v69
            have tc72 := g_nle c72
            refine lv_aload_n hx hb dX10_find_75 rfl (lv_at hl 4 rfl) ?_
            refine lv_iload hx hb dX10_find_76 (lv_at hl 0 rfl) ?_
            refine lv_aload_n hx hb dX10_find_78 rfl (lv_at hl 3 rfl) ?_
            refine t_get (ci := 10) (lst := ft10 0 0) (C := RX10) (F := TX10) (N := 7) hx hb hts uX10 hown hkb hH t_a0 (hO.no t_a0 (by decide)) (fun _ h9 => h9) rfl rfl 0 (by decide) rfl kw_272 (fun _ h9 => h9) dX10_find_79 (fun v9 h9 => ?_)
            obtain ⟨v79, rfl, t_v79⟩ := h9
            refine lv_iload hx hb dX10_find_82 (lv_at hl 1 rfl) ?_
            refine lv_iconst (v := 1) hx hb dX10_find_84 (by decide) ?_
            refine lv_iadd hx hb dX10_find_85 ?_
            refine lv_topi (fun v85 ev85 => ?_)
            have tv85 : v85.toInt = p40_4.toInt + (1) := by rw [ev85]; exact add_i rfl (by decide : (1 : Int32).toInt = 1) (by omega) (by omega)
            refine t_ild hx hb hkb hH t_v79 (hO.no t_v79 (by decide)) (by omega) (by omega) dX10_find_86 (fun v86 h9 => ?_)
            have tv86 : 0 ≤ v86.toInt ∧ v86.toInt ≤ 16383 := h9
            refine tk_i hH hS hA (tr_V (n := 2) (As := [.int v50, .int v86]) hx hb hml hown hts hkb hH hOX hks hE hS hA (s_Rows_stepped l D cs kf T O X a1 v50 v86 t_a1 (hO.sub (by decide))) kw_920 kw_863 kw_864 kw_8 kw_865 (by decide +kernel) ⟨Nat.le_of_ble_eq_true rfl, Nat.le_of_ble_eq_true rfl⟩ (HT.recv (ci := 5) hkb hH t_a1 (hO.no t_a1 (by decide)) rfl) rfl rfl hl.1 (Nat.le_of_ble_eq_true rfl) dX10_find_87 ⟨Nat.le_of_ble_eq_true rfl, Nat.le_of_ble_eq_true rfl⟩) (fun v87 u H locs hz9 hH hS => ?_)
            obtain ⟨rfl, l_v87, u_v87⟩ := hz9
            have hH : HT D cs A T O X H := hH
            refine W.widen (k := 0) (n := 0) (Nat.le_of_ble_eq_true rfl) (Nat.le_of_ble_eq_true rfl) ?_
            refine lv_goto (tgt := 94) hx hb dX10_find_90 (by decide) ?_
            exact J94 v87 _ _ _ (by omega) (by omega) hH hS (lv_sub hl [1, 3, 4] rfl)
    refine lv_istore (lv' := [(4, .int 0), (3, .int k36_0), (0, .ref a0), (1, .ref a1)]) hx hb dX10_find_38 hl (by decide) rfl (fun ls hl => ?_)
    exact J40 _ 0 k36_0 _ _ _ rfl (by decide) (by decide) (by omega) (by omega) hH hS (lv_sub hl [0, 1, 2, 3] rfl)
  refine lv_if_le (tgt := 35) hx hb dX10_find_23 (by decide) (fun c23 => ?_) (fun c23 => ?_)
  · skip
    have tc23 := f_le (k := 0) (by decide) c23
    refine lv_iconst (v := 0) hx hb dX10_find_35 (by decide) ?_
    exact J36 0 _ _ _ (by decide) (by decide) hH hS (lv_sub hl [0, 1] rfl)
  · skip
    have tc23 := f_nle (k := 0) (by decide) c23
    refine lv_aload_n hx hb dX10_find_26 rfl (lv_at hl 0 rfl) ?_
    refine t_get (ci := 10) (lst := ft10 0 0) (C := RX10) (F := TX10) (N := 7) hx hb hts uX10 hown hkb hH t_a0 (hO.no t_a0 (by decide)) (fun _ h9 => h9) rfl rfl 0 (by decide) rfl kw_272 (fun _ h9 => h9) dX10_find_27 (fun v9 h9 => ?_)
    obtain ⟨v27, rfl, t_v27⟩ := h9
    refine lv_iconst (v := 0) hx hb dX10_find_30 (by decide) ?_
    refine t_ild hx hb hkb hH t_v27 (hO.no t_v27 (by decide)) (by decide) (by decide) dX10_find_31 (fun v31 h9 => ?_)
    have tv31 : 0 ≤ v31.toInt ∧ v31.toInt ≤ 16383 := h9
    refine lv_goto (tgt := 36) hx hb dX10_find_32 (by decide) ?_
    exact J36 v31 _ _ _ (by omega) (by omega) hH hS (lv_sub hl [0, 1] rfl)
set_option maxHeartbeats 4000000 in
set_option maxRecDepth 100000 in
theorem s_Ways_pathSet (l : Launch) (D : va_G) (cs : CS) (kf : KF) (T : TF) (O : List Nat) (X : va_W) (a0 : Nat) (t_a0 : T a0 = some (20, 0, 0)) (hO : okO T O [1, 20]) : TK l D cs kf yX10_pathSet cX10_pathSet 3 (some (.int)) { frames := 0, cells := 0, slots := 0, locals := 0 } [.ref a0] T O X (Ti D cs (fun r u => u = (T, O, X))) := by
  refine tk_of (by decide) (Nat.le_of_ble_eq_true rfl) (fun p e s m below meth c ls A H locs hx hb hr hml hown hts hlocks hnm hkb hH hS hA hOX hks hE hl => ?_)
  have hown : s.vm.findClass RX10 = some m.cls := hown
  have hl : lv_has ls 3 [(0, .ref a0)] := hl
  refine lv_iconst (v := 0) hx hb dX10_pathSet_0 (by decide) ?_
  refine lv_istore_n (lv' := [(1, .int 0), (0, .ref a0)]) hx hb dX10_pathSet_1 rfl hl (by decide) rfl (fun ls hl => ?_)
  refine lv_iconst (v := 0) hx hb dX10_pathSet_2 (by decide) ?_
  have J4 : ∀ (n : Nat) (p4_2 : Int32) (p4_1 : Int32) (H : Heap) (locs : List Loc) (ls : Array Slot), (14 - p4_2.toInt).toNat = n → (0 ≤ p4_2.toInt) → (p4_2.toInt ≤ 14) → HT D cs A T O X H → va_S A s.heap H locs → lv_has ls 3 [(2, .int p4_2), (1, .int p4_1), (0, .ref a0)] → W p l e { frames := 0, cells := 0, slots := 0, locals := 0 } s m [.ref a0].toArray below meth c H locs 0 0 (MQ below (Ti D cs (fun r u => u = (T, O, X)) A) [.ref a0].toArray s 0 0 A) (F0 m 4 ls []) := by
    intro n
    induction n using Nat.strongRecOn with
    | _ n ih4 =>
      intro p4_2 p4_1 H locs ls hm4 l_p4_2 u_p4_2 hH hS hl
      refine lv_iload_n hx hb dX10_pathSet_4 rfl (lv_at hl 0 rfl) ?_
      refine lv_aload_n hx hb dX10_pathSet_5 rfl (lv_at hl 2 rfl) ?_
      refine t_get (ci := 10) (lst := ft10 0 0) (C := RX10) (F := TX10) (N := 7) hx hb hts uX10 hown hkb hH t_a0 (hO.no t_a0 (by decide)) (fun _ h9 => h9) rfl rfl 2 (by decide) rfl kw_275 (fun _ h9 => h9) dX10_pathSet_6 (fun v9 h9 => ?_)
      obtain ⟨v6, rfl, l_v6, u_v6⟩ := h9
      refine lv_icmp_ge (tgt := 29) hx hb dX10_pathSet_9 (by decide) (fun c9 => ?_) (fun c9 => ?_)
      · skip
        have fuc9 := full_i p4_2
        have fvc9 := full_i v6
        have tc9 := g_le c9
        refine lv_iload_n hx hb dX10_pathSet_29 rfl (lv_at hl 1 rfl) ?_
        exact te_i hx hb hr hlocks hH hS (rfl) dX10_pathSet_30
      · skip
        have fuc9 := full_i p4_2
        have fvc9 := full_i v6
        have tc9 := g_nle c9
        refine lv_iload_n hx hb dX10_pathSet_12 rfl (lv_at hl 1 rfl) ?_
        refine lv_iconst (v := 1) hx hb dX10_pathSet_13 (by decide) ?_
        refine lv_aload_n hx hb dX10_pathSet_14 rfl (lv_at hl 2 rfl) ?_
        refine t_get (ci := 10) (lst := ft10 0 0) (C := RX10) (F := TX10) (N := 7) hx hb hts uX10 hown hkb hH t_a0 (hO.no t_a0 (by decide)) (fun _ h9 => h9) rfl rfl 1 (by decide) rfl kw_273 (fun _ h9 => h9) dX10_pathSet_15 (fun v9 h9 => ?_)
        obtain ⟨v15, rfl, t_v15⟩ := h9
        refine lv_iload_n hx hb dX10_pathSet_18 rfl (lv_at hl 0 rfl) ?_
        refine t_ild hx hb hkb hH t_v15 (hO.no t_v15 (by decide)) (by omega) (by omega) dX10_pathSet_19 (fun v19 h9 => ?_)
        refine lv_ishl hx hb dX10_pathSet_20 ?_
        refine lv_topi (fun v20 ev20 => ?_)
        refine lv_ior hx hb dX10_pathSet_21 ?_
        refine lv_topi (fun v21 ev21 => ?_)
        refine lv_istore_n (lv' := [(1, .int v21), (2, .int p4_2), (0, .ref a0)]) hx hb dX10_pathSet_22 rfl hl (by decide) rfl (fun ls hl => ?_)
        obtain ⟨v23, ev23⟩ : ∃ y : Int32, y = p4_2 + 1 := ⟨_, rfl⟩
        have tv23 : v23.toInt = p4_2.toInt + (1) := by rw [ev23]; exact add_i rfl (by decide) (by omega) (by omega)
        refine lv_iinc (v := v23) (lv' := [(2, .int v23), (1, .int v21), (0, .ref a0)]) hx hb dX10_pathSet_23 hl (k := 1) rfl (by rw [ev23]; rfl) (by decide) rfl (fun ls hl => ?_)
        refine lv_goto (tgt := 4) hx hb dX10_pathSet_26 (by decide) ?_
        exact ih4 _ (by omega) v23 v21 _ _ _ rfl (by omega) (by omega) hH hS (lv_sub hl [0, 1, 2] rfl)
  refine lv_istore_n (lv' := [(2, .int 0), (1, .int 0), (0, .ref a0)]) hx hb dX10_pathSet_3 rfl hl (by decide) rfl (fun ls hl => ?_)
  exact J4 _ 0 0 _ _ _ rfl (by decide) (by decide) hH hS (lv_sub hl [0, 1, 2] rfl)
set_option maxHeartbeats 4000000 in
set_option maxRecDepth 100000 in
theorem s_Ways_numberFromAll (l : Launch) (D : va_G) (cs : CS) (kf : KF) (T : TF) (O : List Nat) (X : va_W) (a0 : Nat) (x1 : Int32) (t_a0 : T a0 = some (20, 0, 0)) (hO : okO T O [2, 20]) : TK l D cs kf yX10_numberFromAll cX10_numberFromAll 5 (some (.long)) { frames := 0, cells := 0, slots := 0, locals := 0 } [.ref a0, .int x1] T O X (Tl D cs (fun _ u => u = (T, O, X))) := by
  refine tk_of (by decide) (Nat.le_of_ble_eq_true rfl) (fun p e s m below meth c ls A H locs hx hb hr hml hown hts hlocks hnm hkb hH hS hA hOX hks hE hl => ?_)
  have hown : s.vm.findClass RX10 = some m.cls := hown
  have hl : lv_has ls 5 [(0, .ref a0), (1, .int x1)] := hl
  refine lv_lconst (v := 0) hx hb dX10_numberFromAll_0 (by decide) ?_
  refine lv_lstore_n (lv' := [(2, .long 0), (0, .ref a0), (1, .int x1)]) hx hb dX10_numberFromAll_1 rfl hl (by decide) rfl (fun ls hl => ?_)
  refine lv_iconst (v := 0) hx hb dX10_numberFromAll_2 (by decide) ?_
  have J5 : ∀ (n : Nat) (p5_4 : Int32) (p5_2 : Int64) (H : Heap) (locs : List Loc) (ls : Array Slot), (14 - p5_4.toInt).toNat = n → (0 ≤ p5_4.toInt) → (p5_4.toInt ≤ 14) → HT D cs A T O X H → va_S A s.heap H locs → lv_has ls 5 [(4, .int p5_4), (2, .long p5_2), (0, .ref a0), (1, .int x1)] → W p l e { frames := 0, cells := 0, slots := 0, locals := 0 } s m [.ref a0, .int x1].toArray below meth c H locs 0 0 (MQ below (Tl D cs (fun _ u => u = (T, O, X)) A) [.ref a0, .int x1].toArray s 0 0 A) (F0 m 5 ls []) := by
    intro n
    induction n using Nat.strongRecOn with
    | _ n ih5 =>
      intro p5_4 p5_2 H locs ls hm5 l_p5_4 u_p5_4 hH hS hl
      refine lv_iload hx hb dX10_numberFromAll_5 (lv_at hl 0 rfl) ?_
      refine lv_bipush (v := 14) hx hb dX10_numberFromAll_7 (by decide) ?_
      refine lv_icmp_ge (tgt := 37) hx hb dX10_numberFromAll_9 (by decide) (fun c9 => ?_) (fun c9 => ?_)
      · skip
        have tc9 := f_ge (k := 14) (by decide) c9
        refine lv_lload_n hx hb dX10_numberFromAll_37 rfl (lv_at hl 1 rfl) ?_
        exact te_l hx hb hr hlocks hH hS rfl dX10_numberFromAll_38
      · skip
        have tc9 := f_nge (k := 14) (by decide) c9
        refine lv_iload_n hx hb dX10_numberFromAll_12 rfl (lv_at hl 3 rfl) ?_
        refine lv_iload hx hb dX10_numberFromAll_13 (lv_at hl 0 rfl) ?_
        refine lv_ishr hx hb dX10_numberFromAll_15 ?_
        refine lv_topi (fun v15 ev15 => ?_)
        refine lv_iconst (v := 1) hx hb dX10_numberFromAll_16 (by decide) ?_
        refine lv_iand hx hb dX10_numberFromAll_17 ?_
        refine lv_topi (fun v17 ev17 => ?_)
        have tv17 : 0 ≤ v17.toInt ∧ v17.toInt ≤ 1 := by rw [ev17]; exact and_r (by decide)
        have J31 : ∀ (p31_2 : Int64) (H : Heap) (locs : List Loc) (ls : Array Slot), HT D cs A T O X H → va_S A s.heap H locs → lv_has ls 5 [(4, .int p5_4), (2, .long p31_2), (0, .ref a0), (1, .int x1)] → W p l e { frames := 0, cells := 0, slots := 0, locals := 0 } s m [.ref a0, .int x1].toArray below meth c H locs 0 0 (MQ below (Tl D cs (fun _ u => u = (T, O, X)) A) [.ref a0, .int x1].toArray s 0 0 A) (F0 m 31 ls []) := by
          intro p31_2 H locs ls  hH hS hl
          obtain ⟨v31, ev31⟩ : ∃ y : Int32, y = p5_4 + 1 := ⟨_, rfl⟩
          have tv31 : v31.toInt = p5_4.toInt + (1) := by rw [ev31]; exact add_i rfl (by decide) (by omega) (by omega)
          refine lv_iinc (v := v31) (lv' := [(4, .int v31), (2, .long p31_2), (0, .ref a0), (1, .int x1)]) hx hb dX10_numberFromAll_31 hl (k := 0) rfl (by rw [ev31]; rfl) (by decide) rfl (fun ls hl => ?_)
          refine lv_goto (tgt := 5) hx hb dX10_numberFromAll_34 (by decide) ?_
          exact ih5 _ (by omega) v31 p31_2 _ _ _ rfl (by omega) (by omega) hH hS (lv_sub hl [0, 1, 2, 3] rfl)
        refine lv_if_eq (tgt := 31) hx hb dX10_numberFromAll_18 (by decide) (fun c18 => ?_) (fun c18 => ?_)
        · skip
          have tc18 := f_eq (k := 0) (by decide) c18
          exact J31 p5_2 _ _ _  hH hS (lv_sub hl [0, 1, 2, 3] rfl)
        · skip
          have tc18 := f_ne (k := 0) (by decide) c18
          refine lv_lload_n hx hb dX10_numberFromAll_21 rfl (lv_at hl 1 rfl) ?_
          refine lv_aload_n hx hb dX10_numberFromAll_22 rfl (lv_at hl 2 rfl) ?_
          refine t_get (ci := 10) (lst := ft10 0 0) (C := RX10) (F := TX10) (N := 7) hx hb hts uX10 hown hkb hH t_a0 (hO.no t_a0 (by decide)) (fun _ h9 => h9) rfl rfl 3 (by decide) rfl kw_276 (fun _ h9 => h9) dX10_numberFromAll_23 (fun v9 h9 => ?_)
          obtain ⟨v23, rfl, t_v23⟩ := h9
          refine lv_iload hx hb dX10_numberFromAll_26 (lv_at hl 0 rfl) ?_
          refine t_lld hx hb hkb hH t_v23 (hO.no t_v23 (by decide)) (by omega) (by omega) dX10_numberFromAll_28 (fun v28 => ?_)
          refine lv_ladd hx hb dX10_numberFromAll_29 ?_
          refine lv_topl (fun v29 ev29 => ?_)
          refine lv_lstore_n (lv' := [(2, .long v29), (4, .int p5_4), (0, .ref a0), (1, .int x1)]) hx hb dX10_numberFromAll_30 rfl hl (by decide) rfl (fun ls hl => ?_)
          exact J31 v29 _ _ _  hH hS (lv_sub hl [1, 0, 2, 3] rfl)
  refine lv_istore (lv' := [(4, .int 0), (2, .long 0), (0, .ref a0), (1, .int x1)]) hx hb dX10_numberFromAll_3 hl (by decide) rfl (fun ls hl => ?_)
  exact J5 _ 0 0 _ _ _ rfl (by decide) (by decide) hH hS (lv_sub hl [0, 1, 2, 3] rfl)
set_option maxHeartbeats 4000000 in
set_option maxRecDepth 100000 in
theorem s_Ways_howMany (l : Launch) (D : va_G) (cs : CS) (kf : KF) (T : TF) (O : List Nat) (X : va_W) (a0 : Nat) (a1 : Nat) (x2 : Int32) (t_a0 : T a0 = some (20, 0, 0)) (t_a1 : T a1 = some (15, 0, 0)) (hO : okO T O [1, 2, 12, 15, 19, 20]) : TK l D cs kf yX10_howMany cX10_howMany 6 (some (.long)) { frames := 5, cells := 0, slots := 0, locals := 127 } [.ref a0, .ref a1, .int x2] T O X (Tl D cs (fun _ u => u = (T, O, X))) := by
  refine tk_of (by decide) (Nat.le_of_ble_eq_true rfl) (fun p e s m below meth c ls A H locs hx hb hr hml hown hts hlocks hnm hkb hH hS hA hOX hks hE hl => ?_)
  have hown : s.vm.findClass RX10 = some m.cls := hown
  have hl : lv_has ls 6 [(0, .ref a0), (1, .ref a1), (2, .int x2)] := hl
  refine lv_aload_n hx hb dX10_howMany_0 rfl (lv_at hl 0 rfl) ?_
  refine lv_aload_n hx hb dX10_howMany_1 rfl (lv_at hl 1 rfl) ?_
  refine lv_iload_n hx hb dX10_howMany_2 rfl (lv_at hl 2 rfl) ?_
  refine tk_i hH hS hA (tr_V (n := 2) (As := [.ref a1, .int x2]) hx hb hml hown hts hkb hH hOX hks hE hS hA (s_Ways_findLayers l D cs kf T O X a0 a1 x2 t_a0 t_a1 (hO.sub (by decide))) kw_916 kw_918 ks_27 kw_9 kw_919 (by decide +kernel) ⟨Nat.le_of_ble_eq_true rfl, Nat.le_of_ble_eq_true rfl⟩ (HT.recv (ci := 10) hkb hH t_a0 (hO.no t_a0 (by decide)) rfl) rfl rfl hl.1 (Nat.le_of_ble_eq_true rfl) dX10_howMany_3 ⟨Nat.le_of_ble_eq_true rfl, Nat.le_of_ble_eq_true rfl⟩) (fun v3 u H locs hz9 hH hS => ?_)
  obtain ⟨rfl, l_v3, u_v3⟩ := hz9
  have hH : HT D cs A T O X H := hH
  refine W.widen (k := 0) (n := 0) (Nat.le_of_ble_eq_true rfl) (Nat.le_of_ble_eq_true rfl) ?_
  refine lv_istore_n (lv' := [(3, .int v3), (0, .ref a0), (1, .ref a1), (2, .int x2)]) hx hb dX10_howMany_6 rfl hl (by decide) rfl (fun ls hl => ?_)
  refine lv_iload_n hx hb dX10_howMany_7 rfl (lv_at hl 0 rfl) ?_
  refine lv_iconst (v := 1) hx hb dX10_howMany_8 (by decide) ?_
  refine lv_isub hx hb dX10_howMany_9 ?_
  refine lv_topi (fun v9 ev9 => ?_)
  have tv9 : v9.toInt = v3.toInt - (1) := by rw [ev9]; exact sub_i rfl (by decide : (1 : Int32).toInt = 1) (by omega) (by omega)
  have J12 : ∀ (n : Nat) (p12_4 : Int32) (H : Heap) (locs : List Loc) (ls : Array Slot), (p12_4.toInt - (-1)).toNat = n → (-1 ≤ p12_4.toInt) → (p12_4.toInt ≤ 13) → (p12_4.toInt < v3.toInt) → HT D cs A T O X H → va_S A s.heap H locs → lv_has ls 6 [(4, .int p12_4), (3, .int v3), (0, .ref a0), (1, .ref a1)] → W p l e { frames := 5, cells := 0, slots := 0, locals := 127 } s m [.ref a0, .ref a1, .int x2].toArray below meth c H locs 0 0 (MQ below (Tl D cs (fun _ u => u = (T, O, X)) A) [.ref a0, .ref a1, .int x2].toArray s 0 0 A) (F0 m 12 ls []) := by
    intro n
    induction n using Nat.strongRecOn with
    | _ n ih12 =>
      intro p12_4 H locs ls hm12 l_p12_4 u_p12_4 i12 hH hS hl
      refine lv_iload hx hb dX10_howMany_12 (lv_at hl 0 rfl) ?_
      refine lv_if_lt (tgt := 92) hx hb dX10_howMany_14 (by decide) (fun c14 => ?_) (fun c14 => ?_)
      · skip
        have tc14 := f_lt (k := 0) (by decide) c14
        refine lv_iload_n hx hb dX10_howMany_92 rfl (lv_at hl 1 rfl) ?_
        have J110 : ∀ (k110_0 : Int64) (H : Heap) (locs : List Loc) (ls : Array Slot), HT D cs A T O X H → va_S A s.heap H locs → lv_has ls 6 [] → W p l e { frames := 5, cells := 0, slots := 0, locals := 127 } s m [.ref a0, .ref a1, .int x2].toArray below meth c H locs 0 0 (MQ below (Tl D cs (fun _ u => u = (T, O, X)) A) [.ref a0, .ref a1, .int x2].toArray s 0 0 A) (F0 m 110 ls [.long k110_0]) := by
          intro k110_0 H locs ls  hH hS hl
          exact te_l hx hb hr hlocks hH hS rfl dX10_howMany_110
        refine lv_if_ne (tgt := 100) hx hb dX10_howMany_93 (by decide) (fun c93 => ?_) (fun c93 => ?_)
        · skip
          have tc93 := f_ne (k := 0) (by decide) c93
          refine lv_aload_n hx hb dX10_howMany_100 rfl (lv_at hl 2 rfl) ?_
          refine lv_aload_n hx hb dX10_howMany_101 rfl (lv_at hl 2 rfl) ?_
          refine t_get (ci := 10) (lst := ft10 0 0) (C := RX10) (F := TX10) (N := 7) hx hb hts uX10 hown hkb hH t_a0 (hO.no t_a0 (by decide)) (fun _ h9 => h9) rfl rfl 0 (by decide) rfl kw_272 (fun _ h9 => h9) dX10_howMany_102 (fun v9 h9 => ?_)
          obtain ⟨v102, rfl, t_v102⟩ := h9
          refine lv_iconst (v := 0) hx hb dX10_howMany_105 (by decide) ?_
          refine t_ild hx hb hkb hH t_v102 (hO.no t_v102 (by decide)) (by decide) (by decide) dX10_howMany_106 (fun v106 h9 => ?_)
          have tv106 : 0 ≤ v106.toInt ∧ v106.toInt ≤ 16383 := h9
          refine tk_l hH hS hA (tr_V (n := 1) (As := [.int v106]) hx hb hml hown hts hkb hH hOX hks hE hS hA (s_Ways_numberFromAll l D cs kf T O X a0 v106 t_a0 (hO.sub (by decide))) kw_984 kw_986 ks_29 kw_9 kw_987 (by decide +kernel) ⟨Nat.le_of_ble_eq_true rfl, Nat.le_of_ble_eq_true rfl⟩ (HT.recv (ci := 10) hkb hH t_a0 (hO.no t_a0 (by decide)) rfl) rfl rfl hl.1 (Nat.le_of_ble_eq_true rfl) dX10_howMany_107 ⟨Nat.le_of_ble_eq_true rfl, Nat.le_of_ble_eq_true rfl⟩) (fun v107 u H locs hz9 hH hS => ?_)
          have hz9 : u = (T, O, X) := hz9
          subst hz9
          have hH : HT D cs A T O X H := hH
          refine W.widen (k := 0) (n := 0) (Nat.le_of_ble_eq_true rfl) (Nat.le_of_ble_eq_true rfl) ?_
          exact J110 v107 _ _ _  hH hS (lv_sub hl [] rfl)
        · skip
          have tc93 := f_eq (k := 0) (by decide) c93
          refine lv_lconst (v := 0) hx hb dX10_howMany_96 (by decide) ?_
          refine lv_goto (tgt := 110) hx hb dX10_howMany_97 (by decide) ?_
          exact J110 0 _ _ _  hH hS (lv_sub hl [] rfl)
      · skip
        have tc14 := f_nlt (k := 0) (by decide) c14
        refine lv_iconst (v := 0) hx hb dX10_howMany_17 (by decide) ?_
        have J20 : ∀ (n : Nat) (p20_5 : Int32) (H : Heap) (locs : List Loc) (ls : Array Slot), (14 - p20_5.toInt).toNat = n → (0 ≤ p20_5.toInt) → (p20_5.toInt ≤ 14) → HT D cs A T O X H → va_S A s.heap H locs → lv_has ls 6 [(5, .int p20_5), (4, .int p12_4), (3, .int v3), (0, .ref a0), (1, .ref a1)] → W p l e { frames := 5, cells := 0, slots := 0, locals := 127 } s m [.ref a0, .ref a1, .int x2].toArray below meth c H locs 0 0 (MQ below (Tl D cs (fun _ u => u = (T, O, X)) A) [.ref a0, .ref a1, .int x2].toArray s 0 0 A) (F0 m 20 ls []) := by
          intro n
          induction n using Nat.strongRecOn with
          | _ n ih20 =>
            intro p20_5 H locs ls hm20 l_p20_5 u_p20_5 hH hS hl
            refine lv_iload hx hb dX10_howMany_20 (lv_at hl 0 rfl) ?_
            refine lv_bipush (v := 14) hx hb dX10_howMany_22 (by decide) ?_
            refine lv_icmp_ge (tgt := 86) hx hb dX10_howMany_24 (by decide) (fun c24 => ?_) (fun c24 => ?_)
            · skip
              have tc24 := f_ge (k := 14) (by decide) c24
              obtain ⟨v86, ev86⟩ : ∃ y : Int32, y = p12_4 + (-1) := ⟨_, rfl⟩
              have tv86 : v86.toInt = p12_4.toInt + (-1) := by rw [ev86]; exact add_i rfl (by decide) (by omega) (by omega)
              refine lv_iinc (v := v86) (lv' := [(4, .int v86), (5, .int p20_5), (3, .int v3), (0, .ref a0), (1, .ref a1)]) hx hb dX10_howMany_86 hl (k := 1) rfl (by rw [ev86]; rfl) (by decide) rfl (fun ls hl => ?_)
              refine lv_goto (tgt := 12) hx hb dX10_howMany_89 (by decide) ?_
              exact ih12 _ (by omega) v86 _ _ _ rfl (by omega) (by omega) (by omega) hH hS (lv_sub hl [0, 2, 3, 4] rfl)
            · skip
              have tc24 := f_nge (k := 14) (by decide) c24
              refine lv_aload_n hx hb dX10_howMany_27 rfl (lv_at hl 3 rfl) ?_
              refine t_get (ci := 10) (lst := ft10 0 0) (C := RX10) (F := TX10) (N := 7) hx hb hts uX10 hown hkb hH t_a0 (hO.no t_a0 (by decide)) (fun _ h9 => h9) rfl rfl 0 (by decide) rfl kw_272 (fun _ h9 => h9) dX10_howMany_28 (fun v9 h9 => ?_)
              obtain ⟨v28, rfl, t_v28⟩ := h9
              refine lv_iload hx hb dX10_howMany_31 (lv_at hl 1 rfl) ?_
              refine t_ild hx hb hkb hH t_v28 (hO.no t_v28 (by decide)) (by omega) (by omega) dX10_howMany_33 (fun v33 h9 => ?_)
              have tv33 : 0 ≤ v33.toInt ∧ v33.toInt ≤ 16383 := h9
              refine lv_iload hx hb dX10_howMany_34 (lv_at hl 0 rfl) ?_
              refine lv_ishr hx hb dX10_howMany_36 ?_
              refine lv_topi (fun v36 ev36 => ?_)
              have tv36 : 0 ≤ v36.toInt ∧ v36.toInt ≤ v33.toInt := by rw [ev36]; exact shr_b (by omega)
              refine lv_iconst (v := 1) hx hb dX10_howMany_37 (by decide) ?_
              refine lv_iand hx hb dX10_howMany_38 ?_
              refine lv_topi (fun v38 ev38 => ?_)
              have tv38 : 0 ≤ v38.toInt ∧ v38.toInt ≤ 1 := by rw [ev38]; exact and_r (by decide)
              have J80 : ∀  (H : Heap) (locs : List Loc) (ls : Array Slot), HT D cs A T O X H → va_S A s.heap H locs → lv_has ls 6 [(5, .int p20_5), (4, .int p12_4), (3, .int v3), (0, .ref a0), (1, .ref a1)] → W p l e { frames := 5, cells := 0, slots := 0, locals := 127 } s m [.ref a0, .ref a1, .int x2].toArray below meth c H locs 0 0 (MQ below (Tl D cs (fun _ u => u = (T, O, X)) A) [.ref a0, .ref a1, .int x2].toArray s 0 0 A) (F0 m 80 ls []) := by
                intro  H locs ls  hH hS hl
                obtain ⟨v80, ev80⟩ : ∃ y : Int32, y = p20_5 + 1 := ⟨_, rfl⟩
                have tv80 : v80.toInt = p20_5.toInt + (1) := by rw [ev80]; exact add_i rfl (by decide) (by omega) (by omega)
                refine lv_iinc (v := v80) (lv' := [(5, .int v80), (4, .int p12_4), (3, .int v3), (0, .ref a0), (1, .ref a1)]) hx hb dX10_howMany_80 hl (k := 0) rfl (by rw [ev80]; rfl) (by decide) rfl (fun ls hl => ?_)
                refine lv_goto (tgt := 20) hx hb dX10_howMany_83 (by decide) ?_
                exact ih20 _ (by omega) v80 _ _ _ rfl (by omega) (by omega) hH hS (lv_sub hl [0, 1, 2, 3, 4] rfl)
              refine lv_if_eq (tgt := 80) hx hb dX10_howMany_39 (by decide) (fun c39 => ?_) (fun c39 => ?_)
              · skip
                have tc39 := f_eq (k := 0) (by decide) c39
                exact J80  _ _ _  hH hS (lv_sub hl [0, 1, 2, 3, 4] rfl)
              · skip
                have tc39 := f_ne (k := 0) (by decide) c39
                refine lv_aload_n hx hb dX10_howMany_42 rfl (lv_at hl 3 rfl) ?_
                refine t_get (ci := 10) (lst := ft10 0 0) (C := RX10) (F := TX10) (N := 7) hx hb hts uX10 hown hkb hH t_a0 (hO.no t_a0 (by decide)) (fun _ h9 => h9) rfl rfl 3 (by decide) rfl kw_276 (fun _ h9 => h9) dX10_howMany_43 (fun v9 h9 => ?_)
                obtain ⟨v43, rfl, t_v43⟩ := h9
                refine lv_iload hx hb dX10_howMany_46 (lv_at hl 0 rfl) ?_
                refine lv_iload hx hb dX10_howMany_48 (lv_at hl 1 rfl) ?_
                refine lv_iload_n hx hb dX10_howMany_50 rfl (lv_at hl 2 rfl) ?_
                refine lv_iconst (v := 1) hx hb dX10_howMany_51 (by decide) ?_
                refine lv_isub hx hb dX10_howMany_52 ?_
                refine lv_topi (fun v52 ev52 => ?_)
                have tv52 : v52.toInt = v3.toInt - (1) := by rw [ev52]; exact sub_i rfl (by decide : (1 : Int32).toInt = 1) (by omega) (by omega)
                have J79 : ∀ (k79_0 : Int64) (H : Heap) (locs : List Loc) (ls : Array Slot), HT D cs A T O X H → va_S A s.heap H locs → lv_has ls 6 [(5, .int p20_5), (4, .int p12_4), (3, .int v3), (0, .ref a0), (1, .ref a1)] → W p l e { frames := 5, cells := 0, slots := 0, locals := 127 } s m [.ref a0, .ref a1, .int x2].toArray below meth c H locs 0 0 (MQ below (Tl D cs (fun _ u => u = (T, O, X)) A) [.ref a0, .ref a1, .int x2].toArray s 0 0 A) (F0 m 79 ls [.long k79_0, .int p20_5, .ref v43]) := by
                  intro k79_0 H locs ls  hH hS hl
                  refine t_lst hx hb hkb hH hS t_v43 (hO.no t_v43 (by decide)) (by omega) (by omega) dX10_howMany_79 (fun H locs hH hS => ?_)
                  exact J80  _ _ _  hH hS (lv_sub hl [0, 1, 2, 3, 4] rfl)
                refine lv_icmp_ne (tgt := 60) hx hb dX10_howMany_53 (by decide) (fun c53 => ?_) (fun c53 => ?_)
                · skip
                  have fuc53 := full_i p12_4
                  have fvc53 := full_i v52
                  have tc53 := g_ne c53
                  refine lv_aload_n hx hb dX10_howMany_60 rfl (lv_at hl 3 rfl) ?_
                  refine lv_aload_n hx hb dX10_howMany_61 rfl (lv_at hl 4 rfl) ?_
                  refine lv_iload hx hb dX10_howMany_62 (lv_at hl 0 rfl) ?_
                  refine lv_aload_n hx hb dX10_howMany_64 rfl (lv_at hl 3 rfl) ?_
                  refine t_get (ci := 10) (lst := ft10 0 0) (C := RX10) (F := TX10) (N := 7) hx hb hts uX10 hown hkb hH t_a0 (hO.no t_a0 (by decide)) (fun _ h9 => h9) rfl rfl 0 (by decide) rfl kw_272 (fun _ h9 => h9) dX10_howMany_65 (fun v9 h9 => ?_)
                  obtain ⟨v65, rfl, t_v65⟩ := h9
                  refine lv_iload hx hb dX10_howMany_68 (lv_at hl 1 rfl) ?_
                  refine lv_iconst (v := 1) hx hb dX10_howMany_70 (by decide) ?_
                  refine lv_iadd hx hb dX10_howMany_71 ?_
                  refine lv_topi (fun v71 ev71 => ?_)
                  have tv71 : v71.toInt = p12_4.toInt + (1) := by rw [ev71]; exact add_i rfl (by decide : (1 : Int32).toInt = 1) (by omega) (by omega)
                  refine t_ild hx hb hkb hH t_v65 (hO.no t_v65 (by decide)) (by omega) (by omega) dX10_howMany_72 (fun v72 h9 => ?_)
                  have tv72 : 0 ≤ v72.toInt ∧ v72.toInt ≤ 16383 := h9
                  refine tk_i hH hS hA (tr_V (n := 2) (As := [.int p20_5, .int v72]) hx hb hml hown hts hkb hH hOX hks hE hS hA (s_Rows_stepped l D cs kf T O X a1 p20_5 v72 t_a1 (hO.sub (by decide))) kw_920 kw_863 kw_864 kw_8 kw_865 (by decide +kernel) ⟨Nat.le_of_ble_eq_true rfl, Nat.le_of_ble_eq_true rfl⟩ (HT.recv (ci := 5) hkb hH t_a1 (hO.no t_a1 (by decide)) rfl) rfl rfl hl.1 (Nat.le_of_ble_eq_true rfl) dX10_howMany_73 ⟨Nat.le_of_ble_eq_true rfl, Nat.le_of_ble_eq_true rfl⟩) (fun v73 u H locs hz9 hH hS => ?_)
                  obtain ⟨rfl, l_v73, u_v73⟩ := hz9
                  have hH : HT D cs A T O X H := hH
                  refine W.widen (k := 0) (n := 0) (Nat.le_of_ble_eq_true rfl) (Nat.le_of_ble_eq_true rfl) ?_
                  refine tk_l hH hS hA (tr_V (n := 1) (As := [.int v73]) hx hb hml hown hts hkb hH hOX hks hE hS hA (s_Ways_numberFromAll l D cs kf T O X a0 v73 t_a0 (hO.sub (by decide))) kw_984 kw_986 ks_29 kw_9 kw_987 (by decide +kernel) ⟨Nat.le_of_ble_eq_true rfl, Nat.le_of_ble_eq_true rfl⟩ (HT.recv (ci := 10) hkb hH t_a0 (hO.no t_a0 (by decide)) rfl) rfl rfl hl.1 (Nat.le_of_ble_eq_true rfl) dX10_howMany_76 ⟨Nat.le_of_ble_eq_true rfl, Nat.le_of_ble_eq_true rfl⟩) (fun v76 u H locs hz9 hH hS => ?_)
                  have hz9 : u = (T, O, X) := hz9
                  subst hz9
                  have hH : HT D cs A T O X H := hH
                  refine W.widen (k := 0) (n := 0) (Nat.le_of_ble_eq_true rfl) (Nat.le_of_ble_eq_true rfl) ?_
                  exact J79 v76 _ _ _  hH hS (lv_sub hl [0, 1, 2, 3, 4] rfl)
                · skip
                  have fuc53 := full_i p12_4
                  have fvc53 := full_i v52
                  have tc53 := g_eq c53
                  refine lv_lconst (v := 1) hx hb dX10_howMany_56 (by decide) ?_
                  refine lv_goto (tgt := 79) hx hb dX10_howMany_57 (by decide) ?_
                  exact J79 1 _ _ _  hH hS (lv_sub hl [0, 1, 2, 3, 4] rfl)
        refine lv_istore (lv' := [(5, .int 0), (4, .int p12_4), (3, .int v3), (0, .ref a0), (1, .ref a1)]) hx hb dX10_howMany_18 hl (by decide) rfl (fun ls hl => ?_)
        exact J20 _ 0 _ _ _ rfl (by decide) (by decide) hH hS (lv_sub hl [0, 1, 2, 3, 4] rfl)
  refine lv_istore (lv' := [(4, .int v9), (3, .int v3), (0, .ref a0), (1, .ref a1), (2, .int x2)]) hx hb dX10_howMany_10 hl (by decide) rfl (fun ls hl => ?_)
  exact J12 _ v9 _ _ _ rfl (by omega) (by omega) (by omega) hH hS (lv_sub hl [0, 1, 2, 3] rfl)
set_option maxHeartbeats 4000000 in
set_option maxRecDepth 100000 in
theorem s_Ways_leastFromAny (l : Launch) (D : va_G) (cs : CS) (kf : KF) (T : TF) (O : List Nat) (X : va_W) (a0 : Nat) (x1 : Int32) (t_a0 : T a0 = some (20, 0, 0)) (hO : okO T O [1, 20]) : TK l D cs kf yX10_leastFromAny cX10_leastFromAny 4 (some (.int)) { frames := 1, cells := 0, slots := 0, locals := 13 } [.ref a0, .int x1] T O X (Ti D cs (fun r u => u = (T, O, X) ∧ r.toInt ≤ 16384)) := by
  refine tk_of (by decide) (Nat.le_of_ble_eq_true rfl) (fun p e s m below meth c ls A H locs hx hb hr hml hown hts hlocks hnm hkb hH hS hA hOX hks hE hl => ?_)
  have hown : s.vm.findClass RX10 = some m.cls := hown
  have hl : lv_has ls 4 [(0, .ref a0), (1, .int x1)] := hl
  refine lv_sipush (v := 16384) hx hb dX10_leastFromAny_0 (by decide) ?_
  refine lv_istore_n (lv' := [(2, .int 16384), (0, .ref a0), (1, .int x1)]) hx hb dX10_leastFromAny_3 rfl hl (by decide) rfl (fun ls hl => ?_)
  refine lv_iconst (v := 0) hx hb dX10_leastFromAny_4 (by decide) ?_
  have J6 : ∀ (n : Nat) (p6_3 : Int32) (p6_2 : Int32) (H : Heap) (locs : List Loc) (ls : Array Slot), (14 - p6_3.toInt).toNat = n → (0 ≤ p6_3.toInt) → (p6_3.toInt ≤ 14) → (p6_2.toInt ≤ 16384) → HT D cs A T O X H → va_S A s.heap H locs → lv_has ls 4 [(3, .int p6_3), (2, .int p6_2), (0, .ref a0), (1, .int x1)] → W p l e { frames := 1, cells := 0, slots := 0, locals := 13 } s m [.ref a0, .int x1].toArray below meth c H locs 0 0 (MQ below (Ti D cs (fun r u => u = (T, O, X) ∧ r.toInt ≤ 16384) A) [.ref a0, .int x1].toArray s 0 0 A) (F0 m 6 ls []) := by
    intro n
    induction n using Nat.strongRecOn with
    | _ n ih6 =>
      intro p6_3 p6_2 H locs ls hm6 l_p6_3 u_p6_3 u_p6_2 hH hS hl
      refine lv_iload_n hx hb dX10_leastFromAny_6 rfl (lv_at hl 0 rfl) ?_
      refine lv_bipush (v := 14) hx hb dX10_leastFromAny_7 (by decide) ?_
      refine lv_icmp_ge (tgt := 37) hx hb dX10_leastFromAny_9 (by decide) (fun c9 => ?_) (fun c9 => ?_)
      · skip
        have tc9 := f_ge (k := 14) (by decide) c9
        refine lv_iload_n hx hb dX10_leastFromAny_37 rfl (lv_at hl 1 rfl) ?_
        exact te_i hx hb hr hlocks hH hS (⟨rfl, by omega⟩) dX10_leastFromAny_38
      · skip
        have tc9 := f_nge (k := 14) (by decide) c9
        refine lv_iload_n hx hb dX10_leastFromAny_12 rfl (lv_at hl 3 rfl) ?_
        refine lv_iload_n hx hb dX10_leastFromAny_13 rfl (lv_at hl 0 rfl) ?_
        refine lv_ishr hx hb dX10_leastFromAny_14 ?_
        refine lv_topi (fun v14 ev14 => ?_)
        refine lv_iconst (v := 1) hx hb dX10_leastFromAny_15 (by decide) ?_
        refine lv_iand hx hb dX10_leastFromAny_16 ?_
        refine lv_topi (fun v16 ev16 => ?_)
        have tv16 : 0 ≤ v16.toInt ∧ v16.toInt ≤ 1 := by rw [ev16]; exact and_r (by decide)
        have J31 : ∀ (p31_2 : Int32) (H : Heap) (locs : List Loc) (ls : Array Slot), (p31_2.toInt ≤ 16384) → HT D cs A T O X H → va_S A s.heap H locs → lv_has ls 4 [(3, .int p6_3), (2, .int p31_2), (0, .ref a0), (1, .int x1)] → W p l e { frames := 1, cells := 0, slots := 0, locals := 13 } s m [.ref a0, .int x1].toArray below meth c H locs 0 0 (MQ below (Ti D cs (fun r u => u = (T, O, X) ∧ r.toInt ≤ 16384) A) [.ref a0, .int x1].toArray s 0 0 A) (F0 m 31 ls []) := by
          intro p31_2 H locs ls u_p31_2 hH hS hl
          obtain ⟨v31, ev31⟩ : ∃ y : Int32, y = p6_3 + 1 := ⟨_, rfl⟩
          have tv31 : v31.toInt = p6_3.toInt + (1) := by rw [ev31]; exact add_i rfl (by decide) (by omega) (by omega)
          refine lv_iinc (v := v31) (lv' := [(3, .int v31), (2, .int p31_2), (0, .ref a0), (1, .int x1)]) hx hb dX10_leastFromAny_31 hl (k := 0) rfl (by rw [ev31]; rfl) (by decide) rfl (fun ls hl => ?_)
          refine lv_goto (tgt := 6) hx hb dX10_leastFromAny_34 (by decide) ?_
          exact ih6 _ (by omega) v31 p31_2 _ _ _ rfl (by omega) (by omega) (by omega) hH hS (lv_sub hl [0, 1, 2, 3] rfl)
        refine lv_if_eq (tgt := 31) hx hb dX10_leastFromAny_17 (by decide) (fun c17 => ?_) (fun c17 => ?_)
        · skip
          have tc17 := f_eq (k := 0) (by decide) c17
          exact J31 p6_2 _ _ _ (by omega) hH hS (lv_sub hl [0, 1, 2, 3] rfl)
        · skip
          have tc17 := f_ne (k := 0) (by decide) c17
          refine lv_iload_n hx hb dX10_leastFromAny_20 rfl (lv_at hl 1 rfl) ?_
          refine lv_aload_n hx hb dX10_leastFromAny_21 rfl (lv_at hl 2 rfl) ?_
          refine t_get (ci := 10) (lst := ft10 0 0) (C := RX10) (F := TX10) (N := 7) hx hb hts uX10 hown hkb hH t_a0 (hO.no t_a0 (by decide)) (fun _ h9 => h9) rfl rfl 4 (by decide) rfl kw_277 (fun _ h9 => h9) dX10_leastFromAny_22 (fun v9 h9 => ?_)
          obtain ⟨v22, rfl, t_v22⟩ := h9
          refine lv_iload_n hx hb dX10_leastFromAny_25 rfl (lv_at hl 0 rfl) ?_
          refine t_ild hx hb hkb hH t_v22 (hO.no t_v22 (by decide)) (by omega) (by omega) dX10_leastFromAny_26 (fun v26 h9 => ?_)
          refine va_mmin hx hb (by rw [hml]; exact hl.1.symm) hown (hts _ kw_1159) (hts _ kw_450) (hts _ kw_6) (hts _ kw_451) (Nat.le_of_ble_eq_true rfl) (Nat.le_of_ble_eq_true rfl) (Nat.le_of_ble_eq_true rfl) (Nat.le_of_ble_eq_true rfl) dX10_leastFromAny_27 ?_
          refine lv_topi (fun v27 ev27 => ?_)
          have tv27 : v27.toInt = min p6_2.toInt v26.toInt := by rw [ev27]; exact min_i rfl rfl
          refine lv_istore_n (lv' := [(2, .int v27), (3, .int p6_3), (0, .ref a0), (1, .int x1)]) hx hb dX10_leastFromAny_30 rfl hl (by decide) rfl (fun ls hl => ?_)
          exact J31 v27 _ _ _ (by omega) hH hS (lv_sub hl [1, 0, 2, 3] rfl)
  refine lv_istore_n (lv' := [(3, .int 0), (2, .int 16384), (0, .ref a0), (1, .int x1)]) hx hb dX10_leastFromAny_5 rfl hl (by decide) rfl (fun ls hl => ?_)
  exact J6 _ 0 16384 _ _ _ rfl (by decide) (by decide) (by decide) hH hS (lv_sub hl [0, 1, 2, 3] rfl)
set_option maxHeartbeats 4000000 in
set_option maxRecDepth 100000 in
theorem s_Ways_leastUsed (l : Launch) (D : va_G) (cs : CS) (kf : KF) (T : TF) (O : List Nat) (X : va_W) (a0 : Nat) (a1 : Nat) (x2 : Int32) (t_a0 : T a0 = some (20, 0, 0)) (t_a1 : T a1 = some (15, 0, 0)) (hO : okO T O [1, 12, 15, 19, 20]) : TK l D cs kf yX10_leastUsed cX10_leastUsed 8 (some (.int)) { frames := 5, cells := 0, slots := 0, locals := 127 } [.ref a0, .ref a1, .int x2] T O X (Ti D cs (fun r u => u = (T, O, X) ∧ r.toInt ≤ 16384)) := by
  refine tk_of (by decide) (Nat.le_of_ble_eq_true rfl) (fun p e s m below meth c ls A H locs hx hb hr hml hown hts hlocks hnm hkb hH hS hA hOX hks hE hl => ?_)
  have hown : s.vm.findClass RX10 = some m.cls := hown
  have hl : lv_has ls 8 [(0, .ref a0), (1, .ref a1), (2, .int x2)] := hl
  refine lv_aload_n hx hb dX10_leastUsed_0 rfl (lv_at hl 0 rfl) ?_
  refine lv_aload_n hx hb dX10_leastUsed_1 rfl (lv_at hl 1 rfl) ?_
  refine lv_iload_n hx hb dX10_leastUsed_2 rfl (lv_at hl 2 rfl) ?_
  refine tk_i hH hS hA (tr_V (n := 2) (As := [.ref a1, .int x2]) hx hb hml hown hts hkb hH hOX hks hE hS hA (s_Ways_findLayers l D cs kf T O X a0 a1 x2 t_a0 t_a1 (hO.sub (by decide))) kw_916 kw_918 ks_27 kw_9 kw_919 (by decide +kernel) ⟨Nat.le_of_ble_eq_true rfl, Nat.le_of_ble_eq_true rfl⟩ (HT.recv (ci := 10) hkb hH t_a0 (hO.no t_a0 (by decide)) rfl) rfl rfl hl.1 (Nat.le_of_ble_eq_true rfl) dX10_leastUsed_3 ⟨Nat.le_of_ble_eq_true rfl, Nat.le_of_ble_eq_true rfl⟩) (fun v3 u H locs hz9 hH hS => ?_)
  obtain ⟨rfl, l_v3, u_v3⟩ := hz9
  have hH : HT D cs A T O X H := hH
  refine W.widen (k := 0) (n := 0) (Nat.le_of_ble_eq_true rfl) (Nat.le_of_ble_eq_true rfl) ?_
  refine lv_istore_n (lv' := [(3, .int v3), (0, .ref a0), (1, .ref a1), (2, .int x2)]) hx hb dX10_leastUsed_6 rfl hl (by decide) rfl (fun ls hl => ?_)
  refine lv_aload_n hx hb dX10_leastUsed_7 rfl (lv_at hl 1 rfl) ?_
  refine lv_aload_n hx hb dX10_leastUsed_8 rfl (lv_at hl 2 rfl) ?_
  refine lv_iload_n hx hb dX10_leastUsed_9 rfl (lv_at hl 0 rfl) ?_
  refine tk_v hH hS hA (tr_V (n := 2) (As := [.ref a1, .int v3]) hx hb hml hown hts hkb hH hOX hks hE hS hA (s_Ways_keepLeading l D cs kf T O X a0 a1 v3 t_a0 t_a1 (by omega) (by omega) (hO.sub (by decide))) kw_921 kw_923 ks_28 kw_9 kw_924 (by decide +kernel) ⟨Nat.le_of_ble_eq_true rfl, Nat.le_of_ble_eq_true rfl⟩ (HT.recv (ci := 10) hkb hH t_a0 (hO.no t_a0 (by decide)) rfl) rfl rfl hl.1 (Nat.le_of_ble_eq_true rfl) dX10_leastUsed_10 ⟨Nat.le_of_ble_eq_true rfl, Nat.le_of_ble_eq_true rfl⟩) (fun u H locs hz9 hH hS => ?_)
  have hz9 : u = (T, O, X) := hz9
  subst hz9
  have hH : HT D cs A T O X H := hH
  refine W.widen (k := 0) (n := 0) (Nat.le_of_ble_eq_true rfl) (Nat.le_of_ble_eq_true rfl) ?_
  refine lv_aload_n hx hb dX10_leastUsed_13 rfl (lv_at hl 2 rfl) ?_
  refine t_get (ci := 5) (lst := ft5 0 0) (C := RX5) (F := TX5) (N := 6) hx hb hts uX5 hown hkb hH t_a1 (hO.no t_a1 (by decide)) (fun _ h9 => h9) rfl rfl 0 (by decide) rfl kw_246 (fun _ h9 => h9) dX10_leastUsed_14 (fun v9 h9 => ?_)
  obtain ⟨v14, hv14, gv14, rfl, t_v14⟩ := h9
  refine tk_i hH hS hA (tr_V (n := 0) (As := []) hx hb hml hown hts hkb hH hOX hks hE hS hA (s_Wall_middles l D cs kf T O X v14 hv14 gv14 t_v14 (hO.sub (by decide))) kw_1154 kw_683 kw_684 kw_5 kw_685 (by decide +kernel) ⟨Nat.le_of_ble_eq_true rfl, Nat.le_of_ble_eq_true rfl⟩ (HT.recv (ci := 9) hkb hH t_v14.1 (hO.no t_v14.1 (by decide)) rfl) rfl rfl hl.1 (Nat.le_of_ble_eq_true rfl) dX10_leastUsed_17 ⟨Nat.le_of_ble_eq_true rfl, Nat.le_of_ble_eq_true rfl⟩) (fun v17 u H locs hz9 hH hS => ?_)
  obtain ⟨rfl, l_v17, u_v17⟩ := hz9
  have hH : HT D cs A T O X H := hH
  refine W.widen (k := 0) (n := 0) (Nat.le_of_ble_eq_true rfl) (Nat.le_of_ble_eq_true rfl) ?_
  refine lv_istore (lv' := [(4, .int v17), (3, .int v3), (0, .ref a0), (1, .ref a1), (2, .int x2)]) hx hb dX10_leastUsed_20 hl (by decide) rfl (fun ls hl => ?_)
  refine lv_iload_n hx hb dX10_leastUsed_22 rfl (lv_at hl 1 rfl) ?_
  refine lv_iconst (v := 1) hx hb dX10_leastUsed_23 (by decide) ?_
  refine lv_isub hx hb dX10_leastUsed_24 ?_
  refine lv_topi (fun v24 ev24 => ?_)
  have tv24 : v24.toInt = v3.toInt - (1) := by rw [ev24]; exact sub_i rfl (by decide : (1 : Int32).toInt = 1) (by omega) (by omega)
  have J27 : ∀ (n : Nat) (p27_5 : Int32) (H : Heap) (locs : List Loc) (ls : Array Slot), (p27_5.toInt - (-1)).toNat = n → (-1 ≤ p27_5.toInt) → (p27_5.toInt ≤ 13) → (p27_5.toInt < v3.toInt) → HT D cs A T O X H → va_S A s.heap H locs → lv_has ls 8 [(5, .int p27_5), (4, .int v17), (3, .int v3), (0, .ref a0), (1, .ref a1)] → W p l e { frames := 5, cells := 0, slots := 0, locals := 127 } s m [.ref a0, .ref a1, .int x2].toArray below meth c H locs 0 0 (MQ below (Ti D cs (fun r u => u = (T, O, X) ∧ r.toInt ≤ 16384) A) [.ref a0, .ref a1, .int x2].toArray s 0 0 A) (F0 m 27 ls []) := by
    intro n
    induction n using Nat.strongRecOn with
    | _ n ih27 =>
      intro p27_5 H locs ls hm27 l_p27_5 u_p27_5 i27 hH hS hl
      refine lv_iload hx hb dX10_leastUsed_27 (lv_at hl 0 rfl) ?_
      refine lv_if_lt (tgt := 119) hx hb dX10_leastUsed_29 (by decide) (fun c29 => ?_) (fun c29 => ?_)
      · skip
        have tc29 := f_lt (k := 0) (by decide) c29
        refine lv_iload_n hx hb dX10_leastUsed_119 rfl (lv_at hl 2 rfl) ?_
        have J137 : ∀ (k137_0 : Int32) (H : Heap) (locs : List Loc) (ls : Array Slot), (k137_0.toInt ≤ 16384) → HT D cs A T O X H → va_S A s.heap H locs → lv_has ls 8 [] → W p l e { frames := 5, cells := 0, slots := 0, locals := 127 } s m [.ref a0, .ref a1, .int x2].toArray below meth c H locs 0 0 (MQ below (Ti D cs (fun r u => u = (T, O, X) ∧ r.toInt ≤ 16384) A) [.ref a0, .ref a1, .int x2].toArray s 0 0 A) (F0 m 137 ls [.int k137_0]) := by
          intro k137_0 H locs ls u_k137_0 hH hS hl
          exact te_i hx hb hr hlocks hH hS (⟨rfl, by omega⟩) dX10_leastUsed_137
        refine lv_if_ne (tgt := 127) hx hb dX10_leastUsed_120 (by decide) (fun c120 => ?_) (fun c120 => ?_)
        · skip
          have tc120 := f_ne (k := 0) (by decide) c120
          refine lv_aload_n hx hb dX10_leastUsed_127 rfl (lv_at hl 3 rfl) ?_
          refine lv_aload_n hx hb dX10_leastUsed_128 rfl (lv_at hl 3 rfl) ?_
          refine t_get (ci := 10) (lst := ft10 0 0) (C := RX10) (F := TX10) (N := 7) hx hb hts uX10 hown hkb hH t_a0 (hO.no t_a0 (by decide)) (fun _ h9 => h9) rfl rfl 0 (by decide) rfl kw_272 (fun _ h9 => h9) dX10_leastUsed_129 (fun v9 h9 => ?_)
          obtain ⟨v129, rfl, t_v129⟩ := h9
          refine lv_iconst (v := 0) hx hb dX10_leastUsed_132 (by decide) ?_
          refine t_ild hx hb hkb hH t_v129 (hO.no t_v129 (by decide)) (by decide) (by decide) dX10_leastUsed_133 (fun v133 h9 => ?_)
          have tv133 : 0 ≤ v133.toInt ∧ v133.toInt ≤ 16383 := h9
          refine tk_i hH hS hA (tr_V (n := 1) (As := [.int v133]) hx hb hml hown hts hkb hH hOX hks hE hS hA (s_Ways_leastFromAny l D cs kf T O X a0 v133 t_a0 (hO.sub (by decide))) kw_1155 kw_1157 ks_41 kw_9 kw_1158 (by decide +kernel) ⟨Nat.le_of_ble_eq_true rfl, Nat.le_of_ble_eq_true rfl⟩ (HT.recv (ci := 10) hkb hH t_a0 (hO.no t_a0 (by decide)) rfl) rfl rfl hl.1 (Nat.le_of_ble_eq_true rfl) dX10_leastUsed_134 ⟨Nat.le_of_ble_eq_true rfl, Nat.le_of_ble_eq_true rfl⟩) (fun v134 u H locs hz9 hH hS => ?_)
          obtain ⟨rfl, u_v134⟩ := hz9
          have hH : HT D cs A T O X H := hH
          refine W.widen (k := 0) (n := 0) (Nat.le_of_ble_eq_true rfl) (Nat.le_of_ble_eq_true rfl) ?_
          exact J137 v134 _ _ _ (by omega) hH hS (lv_sub hl [] rfl)
        · skip
          have tc120 := f_eq (k := 0) (by decide) c120
          refine lv_iconst (v := (-1)) hx hb dX10_leastUsed_123 (by decide) ?_
          refine lv_goto (tgt := 137) hx hb dX10_leastUsed_124 (by decide) ?_
          exact J137 (-1) _ _ _ (by decide) hH hS (lv_sub hl [] rfl)
      · skip
        have tc29 := f_nlt (k := 0) (by decide) c29
        refine lv_iconst (v := 0) hx hb dX10_leastUsed_32 (by decide) ?_
        have J35 : ∀ (n : Nat) (p35_6 : Int32) (H : Heap) (locs : List Loc) (ls : Array Slot), (14 - p35_6.toInt).toNat = n → (0 ≤ p35_6.toInt) → (p35_6.toInt ≤ 14) → HT D cs A T O X H → va_S A s.heap H locs → lv_has ls 8 [(6, .int p35_6), (5, .int p27_5), (4, .int v17), (3, .int v3), (0, .ref a0), (1, .ref a1)] → W p l e { frames := 5, cells := 0, slots := 0, locals := 127 } s m [.ref a0, .ref a1, .int x2].toArray below meth c H locs 0 0 (MQ below (Ti D cs (fun r u => u = (T, O, X) ∧ r.toInt ≤ 16384) A) [.ref a0, .ref a1, .int x2].toArray s 0 0 A) (F0 m 35 ls []) := by
          intro n
          induction n using Nat.strongRecOn with
          | _ n ih35 =>
            intro p35_6 H locs ls hm35 l_p35_6 u_p35_6 hH hS hl
            refine lv_iload hx hb dX10_leastUsed_35 (lv_at hl 0 rfl) ?_
            refine lv_bipush (v := 14) hx hb dX10_leastUsed_37 (by decide) ?_
            refine lv_icmp_ge (tgt := 113) hx hb dX10_leastUsed_39 (by decide) (fun c39 => ?_) (fun c39 => ?_)
            · skip
              have tc39 := f_ge (k := 14) (by decide) c39
              obtain ⟨v113, ev113⟩ : ∃ y : Int32, y = p27_5 + (-1) := ⟨_, rfl⟩
              have tv113 : v113.toInt = p27_5.toInt + (-1) := by rw [ev113]; exact add_i rfl (by decide) (by omega) (by omega)
              refine lv_iinc (v := v113) (lv' := [(5, .int v113), (6, .int p35_6), (4, .int v17), (3, .int v3), (0, .ref a0), (1, .ref a1)]) hx hb dX10_leastUsed_113 hl (k := 1) rfl (by rw [ev113]; rfl) (by decide) rfl (fun ls hl => ?_)
              refine lv_goto (tgt := 27) hx hb dX10_leastUsed_116 (by decide) ?_
              exact ih27 _ (by omega) v113 _ _ _ rfl (by omega) (by omega) (by omega) hH hS (lv_sub hl [0, 2, 3, 4, 5] rfl)
            · skip
              have tc39 := f_nge (k := 14) (by decide) c39
              refine lv_aload_n hx hb dX10_leastUsed_42 rfl (lv_at hl 4 rfl) ?_
              refine t_get (ci := 10) (lst := ft10 0 0) (C := RX10) (F := TX10) (N := 7) hx hb hts uX10 hown hkb hH t_a0 (hO.no t_a0 (by decide)) (fun _ h9 => h9) rfl rfl 0 (by decide) rfl kw_272 (fun _ h9 => h9) dX10_leastUsed_43 (fun v9 h9 => ?_)
              obtain ⟨v43, rfl, t_v43⟩ := h9
              refine lv_iload hx hb dX10_leastUsed_46 (lv_at hl 1 rfl) ?_
              refine t_ild hx hb hkb hH t_v43 (hO.no t_v43 (by decide)) (by omega) (by omega) dX10_leastUsed_48 (fun v48 h9 => ?_)
              have tv48 : 0 ≤ v48.toInt ∧ v48.toInt ≤ 16383 := h9
              refine lv_iload hx hb dX10_leastUsed_49 (lv_at hl 0 rfl) ?_
              refine lv_ishr hx hb dX10_leastUsed_51 ?_
              refine lv_topi (fun v51 ev51 => ?_)
              have tv51 : 0 ≤ v51.toInt ∧ v51.toInt ≤ v48.toInt := by rw [ev51]; exact shr_b (by omega)
              refine lv_iconst (v := 1) hx hb dX10_leastUsed_52 (by decide) ?_
              refine lv_iand hx hb dX10_leastUsed_53 ?_
              refine lv_topi (fun v53 ev53 => ?_)
              have tv53 : 0 ≤ v53.toInt ∧ v53.toInt ≤ 1 := by rw [ev53]; exact and_r (by decide)
              have J107 : ∀  (H : Heap) (locs : List Loc) (ls : Array Slot), HT D cs A T O X H → va_S A s.heap H locs → lv_has ls 8 [(6, .int p35_6), (5, .int p27_5), (4, .int v17), (3, .int v3), (0, .ref a0), (1, .ref a1)] → W p l e { frames := 5, cells := 0, slots := 0, locals := 127 } s m [.ref a0, .ref a1, .int x2].toArray below meth c H locs 0 0 (MQ below (Ti D cs (fun r u => u = (T, O, X) ∧ r.toInt ≤ 16384) A) [.ref a0, .ref a1, .int x2].toArray s 0 0 A) (F0 m 107 ls []) := by
                intro  H locs ls  hH hS hl
                obtain ⟨v107, ev107⟩ : ∃ y : Int32, y = p35_6 + 1 := ⟨_, rfl⟩
                have tv107 : v107.toInt = p35_6.toInt + (1) := by rw [ev107]; exact add_i rfl (by decide) (by omega) (by omega)
                refine lv_iinc (v := v107) (lv' := [(6, .int v107), (5, .int p27_5), (4, .int v17), (3, .int v3), (0, .ref a0), (1, .ref a1)]) hx hb dX10_leastUsed_107 hl (k := 0) rfl (by rw [ev107]; rfl) (by decide) rfl (fun ls hl => ?_)
                refine lv_goto (tgt := 35) hx hb dX10_leastUsed_110 (by decide) ?_
                exact ih35 _ (by omega) v107 _ _ _ rfl (by omega) (by omega) hH hS (lv_sub hl [0, 1, 2, 3, 4, 5] rfl)
              refine lv_if_eq (tgt := 107) hx hb dX10_leastUsed_54 (by decide) (fun c54 => ?_) (fun c54 => ?_)
              · skip
                have tc54 := f_eq (k := 0) (by decide) c54
                exact J107  _ _ _  hH hS (lv_sub hl [0, 1, 2, 3, 4, 5] rfl)
              · skip
                have tc54 := f_ne (k := 0) (by decide) c54
                refine lv_iload hx hb dX10_leastUsed_57 (lv_at hl 1 rfl) ?_
                refine lv_iload_n hx hb dX10_leastUsed_59 rfl (lv_at hl 3 rfl) ?_
                refine lv_iconst (v := 1) hx hb dX10_leastUsed_60 (by decide) ?_
                refine lv_isub hx hb dX10_leastUsed_61 ?_
                refine lv_topi (fun v61 ev61 => ?_)
                have tv61 : v61.toInt = v3.toInt - (1) := by rw [ev61]; exact sub_i rfl (by decide : (1 : Int32).toInt = 1) (by omega) (by omega)
                have J88 : ∀ (k88_0 : Int32) (H : Heap) (locs : List Loc) (ls : Array Slot), (k88_0.toInt ≤ 16384) → HT D cs A T O X H → va_S A s.heap H locs → lv_has ls 8 [(6, .int p35_6), (5, .int p27_5), (4, .int v17), (3, .int v3), (0, .ref a0), (1, .ref a1)] → W p l e { frames := 5, cells := 0, slots := 0, locals := 127 } s m [.ref a0, .ref a1, .int x2].toArray below meth c H locs 0 0 (MQ below (Ti D cs (fun r u => u = (T, O, X) ∧ r.toInt ≤ 16384) A) [.ref a0, .ref a1, .int x2].toArray s 0 0 A) (F0 m 88 ls [.int k88_0]) := by
                  intro k88_0 H locs ls u_k88_0 hH hS hl
                  refine lv_istore (lv' := [(7, .int k88_0), (6, .int p35_6), (5, .int p27_5), (4, .int v17), (3, .int v3), (0, .ref a0), (1, .ref a1)]) hx hb dX10_leastUsed_88 hl (by decide) rfl (fun ls hl => ?_)
                  refine lv_aload_n hx hb dX10_leastUsed_90 rfl (lv_at hl 5 rfl) ?_
                  refine t_get (ci := 10) (lst := ft10 0 0) (C := RX10) (F := TX10) (N := 7) hx hb hts uX10 hown hkb hH t_a0 (hO.no t_a0 (by decide)) (fun _ h9 => h9) rfl rfl 4 (by decide) rfl kw_277 (fun _ h9 => h9) dX10_leastUsed_91 (fun v9 h9 => ?_)
                  obtain ⟨v91, rfl, t_v91⟩ := h9
                  refine lv_iload hx hb dX10_leastUsed_94 (lv_at hl 1 rfl) ?_
                  refine lv_iload hx hb dX10_leastUsed_96 (lv_at hl 0 rfl) ?_
                  refine lv_iload hx hb dX10_leastUsed_98 (lv_at hl 3 rfl) ?_
                  refine lv_iconst (v := 1) hx hb dX10_leastUsed_100 (by decide) ?_
                  refine lv_iload hx hb dX10_leastUsed_101 (lv_at hl 1 rfl) ?_
                  refine lv_ishl hx hb dX10_leastUsed_103 ?_
                  refine lv_topi (fun v103 ev103 => ?_)
                  have tv103 : 1 ≤ v103.toInt ∧ v103.toInt ≤ 8192 := by rw [ev103]; exact shl_b 13 (by decide) (by omega) (by omega)
                  refine lv_iand hx hb dX10_leastUsed_104 ?_
                  refine lv_topi (fun v104 ev104 => ?_)
                  have tv104 : 0 ≤ v104.toInt ∧ v104.toInt ≤ v17.toInt := by rw [ev104]; exact and_l (by omega)
                  have ttv104 : 0 ≤ v104.toInt ∧ v104.toInt ≤ v103.toInt := by rw [ev104]; exact and_r (by omega)
                  refine lv_ior hx hb dX10_leastUsed_105 ?_
                  refine lv_topi (fun v105 ev105 => ?_)
                  refine t_ist hx hb hkb hH hS t_v91 (hO.no t_v91 (by decide)) (by omega) (by omega) (cp_0 _) dX10_leastUsed_106 (fun H locs hH hS => ?_)
                  exact J107  _ _ _  hH hS (lv_sub hl [1, 2, 3, 4, 5, 6] rfl)
                refine lv_icmp_ne (tgt := 69) hx hb dX10_leastUsed_62 (by decide) (fun c62 => ?_) (fun c62 => ?_)
                · skip
                  have fuc62 := full_i p27_5
                  have fvc62 := full_i v61
                  have tc62 := g_ne c62
                  refine lv_aload_n hx hb dX10_leastUsed_69 rfl (lv_at hl 4 rfl) ?_
                  refine lv_aload_n hx hb dX10_leastUsed_70 rfl (lv_at hl 5 rfl) ?_
                  refine lv_iload hx hb dX10_leastUsed_71 (lv_at hl 0 rfl) ?_
                  refine lv_aload_n hx hb dX10_leastUsed_73 rfl (lv_at hl 4 rfl) ?_
                  refine t_get (ci := 10) (lst := ft10 0 0) (C := RX10) (F := TX10) (N := 7) hx hb hts uX10 hown hkb hH t_a0 (hO.no t_a0 (by decide)) (fun _ h9 => h9) rfl rfl 0 (by decide) rfl kw_272 (fun _ h9 => h9) dX10_leastUsed_74 (fun v9 h9 => ?_)
                  obtain ⟨v74, rfl, t_v74⟩ := h9
                  refine lv_iload hx hb dX10_leastUsed_77 (lv_at hl 1 rfl) ?_
                  refine lv_iconst (v := 1) hx hb dX10_leastUsed_79 (by decide) ?_
                  refine lv_iadd hx hb dX10_leastUsed_80 ?_
                  refine lv_topi (fun v80 ev80 => ?_)
                  have tv80 : v80.toInt = p27_5.toInt + (1) := by rw [ev80]; exact add_i rfl (by decide : (1 : Int32).toInt = 1) (by omega) (by omega)
                  refine t_ild hx hb hkb hH t_v74 (hO.no t_v74 (by decide)) (by omega) (by omega) dX10_leastUsed_81 (fun v81 h9 => ?_)
                  have tv81 : 0 ≤ v81.toInt ∧ v81.toInt ≤ 16383 := h9
                  refine tk_i hH hS hA (tr_V (n := 2) (As := [.int p35_6, .int v81]) hx hb hml hown hts hkb hH hOX hks hE hS hA (s_Rows_stepped l D cs kf T O X a1 p35_6 v81 t_a1 (hO.sub (by decide))) kw_920 kw_863 kw_864 kw_8 kw_865 (by decide +kernel) ⟨Nat.le_of_ble_eq_true rfl, Nat.le_of_ble_eq_true rfl⟩ (HT.recv (ci := 5) hkb hH t_a1 (hO.no t_a1 (by decide)) rfl) rfl rfl hl.1 (Nat.le_of_ble_eq_true rfl) dX10_leastUsed_82 ⟨Nat.le_of_ble_eq_true rfl, Nat.le_of_ble_eq_true rfl⟩) (fun v82 u H locs hz9 hH hS => ?_)
                  obtain ⟨rfl, l_v82, u_v82⟩ := hz9
                  have hH : HT D cs A T O X H := hH
                  refine W.widen (k := 0) (n := 0) (Nat.le_of_ble_eq_true rfl) (Nat.le_of_ble_eq_true rfl) ?_
                  refine tk_i hH hS hA (tr_V (n := 1) (As := [.int v82]) hx hb hml hown hts hkb hH hOX hks hE hS hA (s_Ways_leastFromAny l D cs kf T O X a0 v82 t_a0 (hO.sub (by decide))) kw_1155 kw_1157 ks_41 kw_9 kw_1158 (by decide +kernel) ⟨Nat.le_of_ble_eq_true rfl, Nat.le_of_ble_eq_true rfl⟩ (HT.recv (ci := 10) hkb hH t_a0 (hO.no t_a0 (by decide)) rfl) rfl rfl hl.1 (Nat.le_of_ble_eq_true rfl) dX10_leastUsed_85 ⟨Nat.le_of_ble_eq_true rfl, Nat.le_of_ble_eq_true rfl⟩) (fun v85 u H locs hz9 hH hS => ?_)
                  obtain ⟨rfl, u_v85⟩ := hz9
                  have hH : HT D cs A T O X H := hH
                  refine W.widen (k := 0) (n := 0) (Nat.le_of_ble_eq_true rfl) (Nat.le_of_ble_eq_true rfl) ?_
                  exact J88 v85 _ _ _ (by omega) hH hS (lv_sub hl [0, 1, 2, 3, 4, 5] rfl)
                · skip
                  have fuc62 := full_i p27_5
                  have fvc62 := full_i v61
                  have tc62 := g_eq c62
                  refine lv_iconst (v := 0) hx hb dX10_leastUsed_65 (by decide) ?_
                  refine lv_goto (tgt := 88) hx hb dX10_leastUsed_66 (by decide) ?_
                  exact J88 0 _ _ _ (by decide) hH hS (lv_sub hl [0, 1, 2, 3, 4, 5] rfl)
        refine lv_istore (lv' := [(6, .int 0), (5, .int p27_5), (4, .int v17), (3, .int v3), (0, .ref a0), (1, .ref a1)]) hx hb dX10_leastUsed_33 hl (by decide) rfl (fun ls hl => ?_)
        exact J35 _ 0 _ _ _ rfl (by decide) (by decide) hH hS (lv_sub hl [0, 1, 2, 3, 4, 5] rfl)
  refine lv_istore (lv' := [(5, .int v24), (4, .int v17), (3, .int v3), (0, .ref a0), (1, .ref a1), (2, .int x2)]) hx hb dX10_leastUsed_25 hl (by decide) rfl (fun ls hl => ?_)
  exact J27 _ v24 _ _ _ rfl (by omega) (by omega) (by omega) hH hS (lv_sub hl [0, 1, 2, 3, 4] rfl)
theorem dX10_climbsOn_0 : decode cX10_climbsOn 0 = .ok (.iload 4, 2) := by decide +kernel
theorem dX10_climbsOn_2 : decode cX10_climbsOn 2 = .ok (.ifCond .gt 5, 3) := by decide +kernel
theorem dX10_climbsOn_5 : decode cX10_climbsOn 5 = .ok (.lconst 0, 1) := by decide +kernel
theorem dX10_climbsOn_6 : decode cX10_climbsOn 6 = .ok (.lreturn, 1) := by decide +kernel
theorem dX10_climbsOn_7 : decode cX10_climbsOn 7 = .ok (.aload_n 0, 1) := by decide +kernel
theorem dX10_climbsOn_8 : decode cX10_climbsOn 8 = .ok (.iconst 1, 1) := by decide +kernel
theorem dX10_climbsOn_9 : decode cX10_climbsOn 9 = .ok (.iload_n 2, 1) := by decide +kernel
theorem dX10_climbsOn_10 : decode cX10_climbsOn 10 = .ok (.ishl, 1) := by decide +kernel
theorem dX10_climbsOn_11 : decode cX10_climbsOn 11 = .ok (.invokevirtual 92, 3) := by decide +kernel
theorem dX10_climbsOn_14 : decode cX10_climbsOn 14 = .ok (.i2l, 1) := by decide +kernel
theorem dX10_climbsOn_15 : decode cX10_climbsOn 15 = .ok (.lstore 5, 2) := by decide +kernel
theorem dX10_climbsOn_17 : decode cX10_climbsOn 17 = .ok (.aload_n 1, 1) := by decide +kernel
theorem dX10_climbsOn_18 : decode cX10_climbsOn 18 = .ok (.iload_n 2, 1) := by decide +kernel
theorem dX10_climbsOn_19 : decode cX10_climbsOn 19 = .ok (.iload_n 3, 1) := by decide +kernel
theorem dX10_climbsOn_20 : decode cX10_climbsOn 20 = .ok (.invokevirtual 49, 3) := by decide +kernel
theorem dX10_climbsOn_23 : decode cX10_climbsOn 23 = .ok (.istore 7, 2) := by decide +kernel
theorem dX10_climbsOn_25 : decode cX10_climbsOn 25 = .ok (.iload 4, 2) := by decide +kernel
theorem dX10_climbsOn_27 : decode cX10_climbsOn 27 = .ok (.iconst 2, 1) := by decide +kernel
theorem dX10_climbsOn_28 : decode cX10_climbsOn 28 = .ok (.if_icmp .gt 25, 3) := by decide +kernel
theorem dX10_climbsOn_31 : decode cX10_climbsOn 31 = .ok (.iload 4, 2) := by decide +kernel
theorem dX10_climbsOn_33 : decode cX10_climbsOn 33 = .ok (.iconst 1, 1) := by decide +kernel
theorem dX10_climbsOn_34 : decode cX10_climbsOn 34 = .ok (.if_icmp .ne 8, 3) := by decide +kernel
theorem dX10_climbsOn_37 : decode cX10_climbsOn 37 = .ok (.lload 5, 2) := by decide +kernel
theorem dX10_climbsOn_39 : decode cX10_climbsOn 39 = .ok (.goto 13, 3) := by decide +kernel
theorem dX10_climbsOn_42 : decode cX10_climbsOn 42 = .ok (.lload 5, 2) := by decide +kernel
theorem dX10_climbsOn_44 : decode cX10_climbsOn 44 = .ok (.aload_n 0, 1) := by decide +kernel
theorem dX10_climbsOn_45 : decode cX10_climbsOn 45 = .ok (.iload 7, 2) := by decide +kernel
theorem dX10_climbsOn_47 : decode cX10_climbsOn 47 = .ok (.invokevirtual 92, 3) := by decide +kernel
theorem dX10_climbsOn_50 : decode cX10_climbsOn 50 = .ok (.i2l, 1) := by decide +kernel
theorem dX10_climbsOn_51 : decode cX10_climbsOn 51 = .ok (.ladd, 1) := by decide +kernel
theorem dX10_climbsOn_52 : decode cX10_climbsOn 52 = .ok (.lreturn, 1) := by decide +kernel
theorem dX10_climbsOn_53 : decode cX10_climbsOn 53 = .ok (.iconst 0, 1) := by decide +kernel
theorem dX10_climbsOn_54 : decode cX10_climbsOn 54 = .ok (.istore 8, 2) := by decide +kernel
theorem dX10_climbsOn_56 : decode cX10_climbsOn 56 = .ok (.iload 8, 2) := by decide +kernel
theorem dX10_climbsOn_58 : decode cX10_climbsOn 58 = .ok (.bipush 14, 2) := by decide +kernel
theorem dX10_climbsOn_60 : decode cX10_climbsOn 60 = .ok (.if_icmp .ge 43, 3) := by decide +kernel
theorem dX10_climbsOn_63 : decode cX10_climbsOn 63 = .ok (.iload 7, 2) := by decide +kernel
theorem dX10_climbsOn_65 : decode cX10_climbsOn 65 = .ok (.iload 8, 2) := by decide +kernel
theorem dX10_climbsOn_67 : decode cX10_climbsOn 67 = .ok (.ishr, 1) := by decide +kernel
theorem dX10_climbsOn_68 : decode cX10_climbsOn 68 = .ok (.iconst 1, 1) := by decide +kernel
theorem dX10_climbsOn_69 : decode cX10_climbsOn 69 = .ok (.iand, 1) := by decide +kernel
theorem dX10_climbsOn_70 : decode cX10_climbsOn 70 = .ok (.ifCond .eq 27, 3) := by decide +kernel
theorem dX10_climbsOn_73 : decode cX10_climbsOn 73 = .ok (.lload 5, 2) := by decide +kernel
theorem dX10_climbsOn_75 : decode cX10_climbsOn 75 = .ok (.aload_n 0, 1) := by decide +kernel
theorem dX10_climbsOn_76 : decode cX10_climbsOn 76 = .ok (.aload_n 1, 1) := by decide +kernel
theorem dX10_climbsOn_77 : decode cX10_climbsOn 77 = .ok (.iload 8, 2) := by decide +kernel
theorem dX10_climbsOn_79 : decode cX10_climbsOn 79 = .ok (.iload_n 3, 1) := by decide +kernel
theorem dX10_climbsOn_80 : decode cX10_climbsOn 80 = .ok (.iconst 1, 1) := by decide +kernel
theorem dX10_climbsOn_81 : decode cX10_climbsOn 81 = .ok (.iload 8, 2) := by decide +kernel
theorem dX10_climbsOn_83 : decode cX10_climbsOn 83 = .ok (.ishl, 1) := by decide +kernel
theorem dX10_climbsOn_84 : decode cX10_climbsOn 84 = .ok (.iconst (-1), 1) := by decide +kernel
theorem dX10_climbsOn_85 : decode cX10_climbsOn 85 = .ok (.ixor, 1) := by decide +kernel
theorem dX10_climbsOn_86 : decode cX10_climbsOn 86 = .ok (.iand, 1) := by decide +kernel
theorem dX10_climbsOn_87 : decode cX10_climbsOn 87 = .ok (.iload 4, 2) := by decide +kernel
theorem dX10_climbsOn_89 : decode cX10_climbsOn 89 = .ok (.iconst 1, 1) := by decide +kernel
theorem dX10_climbsOn_90 : decode cX10_climbsOn 90 = .ok (.isub, 1) := by decide +kernel
theorem dX10_climbsOn_91 : decode cX10_climbsOn 91 = .ok (.invokevirtual 88, 3) := by decide +kernel
theorem dX10_climbsOn_94 : decode cX10_climbsOn 94 = .ok (.ladd, 1) := by decide +kernel
theorem dX10_climbsOn_95 : decode cX10_climbsOn 95 = .ok (.lstore 5, 2) := by decide +kernel
theorem dX10_climbsOn_97 : decode cX10_climbsOn 97 = .ok (.iinc 8 1, 3) := by decide +kernel
theorem dX10_climbsOn_100 : decode cX10_climbsOn 100 = .ok (.goto (-44), 3) := by decide +kernel
theorem dX10_climbsOn_103 : decode cX10_climbsOn 103 = .ok (.lload 5, 2) := by decide +kernel
theorem dX10_climbsOn_105 : decode cX10_climbsOn 105 = .ok (.lreturn, 1) := by decide +kernel
theorem dX10_endingFrom_0 : decode cX10_endingFrom 0 = .ok (.iconst 0, 1) := by decide +kernel
theorem dX10_endingFrom_1 : decode cX10_endingFrom 1 = .ok (.istore_n 2, 1) := by decide +kernel
theorem dX10_endingFrom_2 : decode cX10_endingFrom 2 = .ok (.iconst 0, 1) := by decide +kernel
theorem dX10_endingFrom_3 : decode cX10_endingFrom 3 = .ok (.istore_n 3, 1) := by decide +kernel
theorem dX10_endingFrom_4 : decode cX10_endingFrom 4 = .ok (.iload_n 3, 1) := by decide +kernel
theorem dX10_endingFrom_5 : decode cX10_endingFrom 5 = .ok (.aload_n 0, 1) := by decide +kernel
theorem dX10_endingFrom_6 : decode cX10_endingFrom 6 = .ok (.getfield 32, 3) := by decide +kernel
theorem dX10_endingFrom_9 : decode cX10_endingFrom 9 = .ok (.if_icmp .ge 23, 3) := by decide +kernel
theorem dX10_endingFrom_12 : decode cX10_endingFrom 12 = .ok (.iload_n 2, 1) := by decide +kernel
theorem dX10_endingFrom_13 : decode cX10_endingFrom 13 = .ok (.iload_n 1, 1) := by decide +kernel
theorem dX10_endingFrom_14 : decode cX10_endingFrom 14 = .ok (.aload_n 0, 1) := by decide +kernel
theorem dX10_endingFrom_15 : decode cX10_endingFrom 15 = .ok (.getfield 29, 3) := by decide +kernel
theorem dX10_endingFrom_18 : decode cX10_endingFrom 18 = .ok (.iload_n 3, 1) := by decide +kernel
theorem dX10_endingFrom_19 : decode cX10_endingFrom 19 = .ok (.iaload, 1) := by decide +kernel
theorem dX10_endingFrom_20 : decode cX10_endingFrom 20 = .ok (.iand, 1) := by decide +kernel
theorem dX10_endingFrom_21 : decode cX10_endingFrom 21 = .ok (.invokestatic 85, 3) := by decide +kernel
theorem dX10_endingFrom_24 : decode cX10_endingFrom 24 = .ok (.iadd, 1) := by decide +kernel
theorem dX10_endingFrom_25 : decode cX10_endingFrom 25 = .ok (.istore_n 2, 1) := by decide +kernel
theorem dX10_endingFrom_26 : decode cX10_endingFrom 26 = .ok (.iinc 3 1, 3) := by decide +kernel
theorem dX10_endingFrom_29 : decode cX10_endingFrom 29 = .ok (.goto (-25), 3) := by decide +kernel
theorem dX10_endingFrom_32 : decode cX10_endingFrom 32 = .ok (.iload_n 2, 1) := by decide +kernel
theorem dX10_endingFrom_33 : decode cX10_endingFrom 33 = .ok (.ireturn, 1) := by decide +kernel
theorem dX10_leadingTo_0 : decode cX10_leadingTo 0 = .ok (.iconst 0, 1) := by decide +kernel
theorem dX10_leadingTo_1 : decode cX10_leadingTo 1 = .ok (.istore_n 3, 1) := by decide +kernel
theorem dX10_leadingTo_2 : decode cX10_leadingTo 2 = .ok (.iconst 0, 1) := by decide +kernel
theorem dX10_leadingTo_3 : decode cX10_leadingTo 3 = .ok (.istore 4, 2) := by decide +kernel
theorem dX10_leadingTo_5 : decode cX10_leadingTo 5 = .ok (.iload 4, 2) := by decide +kernel
theorem dX10_leadingTo_7 : decode cX10_leadingTo 7 = .ok (.bipush 14, 2) := by decide +kernel
theorem dX10_leadingTo_9 : decode cX10_leadingTo 9 = .ok (.if_icmp .ge 37, 3) := by decide +kernel
theorem dX10_leadingTo_12 : decode cX10_leadingTo 12 = .ok (.iload_n 1, 1) := by decide +kernel
theorem dX10_leadingTo_13 : decode cX10_leadingTo 13 = .ok (.iload 4, 2) := by decide +kernel
theorem dX10_leadingTo_15 : decode cX10_leadingTo 15 = .ok (.ishr, 1) := by decide +kernel
theorem dX10_leadingTo_16 : decode cX10_leadingTo 16 = .ok (.iconst 1, 1) := by decide +kernel
theorem dX10_leadingTo_17 : decode cX10_leadingTo 17 = .ok (.iand, 1) := by decide +kernel
theorem dX10_leadingTo_18 : decode cX10_leadingTo 18 = .ok (.ifCond .eq 22, 3) := by decide +kernel
theorem dX10_leadingTo_21 : decode cX10_leadingTo 21 = .ok (.aload_n 0, 1) := by decide +kernel
theorem dX10_leadingTo_22 : decode cX10_leadingTo 22 = .ok (.iload 4, 2) := by decide +kernel
theorem dX10_leadingTo_24 : decode cX10_leadingTo 24 = .ok (.iconst 1, 1) := by decide +kernel
theorem dX10_leadingTo_25 : decode cX10_leadingTo 25 = .ok (.iload_n 2, 1) := by decide +kernel
theorem dX10_leadingTo_26 : decode cX10_leadingTo 26 = .ok (.ishl, 1) := by decide +kernel
theorem dX10_leadingTo_27 : decode cX10_leadingTo 27 = .ok (.invokevirtual 49, 3) := by decide +kernel
theorem dX10_leadingTo_30 : decode cX10_leadingTo 30 = .ok (.ifCond .eq 10, 3) := by decide +kernel
theorem dX10_leadingTo_33 : decode cX10_leadingTo 33 = .ok (.iload_n 3, 1) := by decide +kernel
theorem dX10_leadingTo_34 : decode cX10_leadingTo 34 = .ok (.iconst 1, 1) := by decide +kernel
theorem dX10_leadingTo_35 : decode cX10_leadingTo 35 = .ok (.iload 4, 2) := by decide +kernel
theorem dX10_leadingTo_37 : decode cX10_leadingTo 37 = .ok (.ishl, 1) := by decide +kernel
theorem dX10_leadingTo_38 : decode cX10_leadingTo 38 = .ok (.ior, 1) := by decide +kernel
theorem dX10_leadingTo_39 : decode cX10_leadingTo 39 = .ok (.istore_n 3, 1) := by decide +kernel
theorem dX10_leadingTo_40 : decode cX10_leadingTo 40 = .ok (.iinc 4 1, 3) := by decide +kernel
theorem dX10_leadingTo_43 : decode cX10_leadingTo 43 = .ok (.goto (-38), 3) := by decide +kernel
theorem dX10_leadingTo_46 : decode cX10_leadingTo 46 = .ok (.iload_n 3, 1) := by decide +kernel
theorem dX10_leadingTo_47 : decode cX10_leadingTo 47 = .ok (.ireturn, 1) := by decide +kernel
theorem kw_278 : Cond.fieldLink "FootholdWall$Ways" 29 "FootholdWall$Ways" "into" "[I" ∈ gw := gw_of (tb_of 278 (by decide +kernel)) (by decide +kernel)
theorem kw_279 : Cond.fieldLink "FootholdWall$Ways" 32 "FootholdWall$Ways" "tops" "I" ∈ gw := gw_of (tb_of 279 (by decide +kernel)) (by decide +kernel)
theorem kw_1001 : Cond.methodLink "FootholdWall$Ways" 85 yJ6_bitCount_0f7a4 ∈ gw := gw_of (tb_of 1001 (by decide +kernel)) (by decide +kernel)
theorem kw_1002 : Cond.methodLink "FootholdWall$Ways" 88 yX10_climbsOn ∈ gw := gw_of (tb_of 1002 (by decide +kernel)) (by decide +kernel)
theorem kw_1004 : Cond.instanceMethod yX10_climbsOn ∈ gw := gw_of (tb_of 1004 (by decide +kernel)) (by decide +kernel)
theorem kw_1005 : Cond.code yX10_climbsOn cX10_climbsOn 9 (some (.long)) ∈ gw := gw_of (tb_of 1005 (by decide +kernel)) (by decide +kernel)
theorem kw_1006 : Cond.methodLink "FootholdWall$Ways" 92 yX10_endingFrom ∈ gw := gw_of (tb_of 1006 (by decide +kernel)) (by decide +kernel)
theorem kw_1008 : Cond.instanceMethod yX10_endingFrom ∈ gw := gw_of (tb_of 1008 (by decide +kernel)) (by decide +kernel)
theorem kw_1009 : Cond.code yX10_endingFrom cX10_endingFrom 4 (some (.int)) ∈ gw := gw_of (tb_of 1009 (by decide +kernel)) (by decide +kernel)
theorem ks_30 : Cond.selects RX10 yX10_climbsOn yX10_climbsOn ∈ gw := gw_of (pv_of 30 (by decide +kernel)) (by decide +kernel)
theorem ks_31 : Cond.selects RX10 yX10_endingFrom yX10_endingFrom ∈ gw := gw_of (pv_of 31 (by decide +kernel)) (by decide +kernel)
set_option maxHeartbeats 4000000 in
set_option maxRecDepth 100000 in
theorem s_Ways_leadingTo (l : Launch) (D : va_G) (cs : CS) (kf : KF) (T : TF) (O : List Nat) (X : va_W) (a0 : Nat) (x1 : Int32) (x2 : Int32) (t_a0 : T a0 = some (15, 0, 0)) (hO : okO T O [1, 12, 15, 19]) : TK l D cs kf yX10_leadingTo cX10_leadingTo 5 (some (.int)) { frames := 4, cells := 0, slots := 0, locals := 101 } [.ref a0, .int x1, .int x2] T O X (Ti D cs (fun r u => u = (T, O, X) ∧ 0 ≤ r.toInt ∧ r.toInt ≤ 16383)) := by
  refine tk_of (by decide) (Nat.le_of_ble_eq_true rfl) (fun p e s m below meth c ls A H locs hx hb hr hml hown hts hlocks hnm hkb hH hS hA hOX hks hE hl => ?_)
  have hown : s.vm.findClass RX10 = some m.cls := hown
  have hl : lv_has ls 5 [(0, .ref a0), (1, .int x1), (2, .int x2)] := hl
  refine lv_iconst (v := 0) hx hb dX10_leadingTo_0 (by decide) ?_
  refine lv_istore_n (lv' := [(3, .int 0), (0, .ref a0), (1, .int x1), (2, .int x2)]) hx hb dX10_leadingTo_1 rfl hl (by decide) rfl (fun ls hl => ?_)
  refine lv_iconst (v := 0) hx hb dX10_leadingTo_2 (by decide) ?_
  have J5 : ∀ (n : Nat) (p5_4 : Int32) (p5_3 : Int32) (H : Heap) (locs : List Loc) (ls : Array Slot), (14 - p5_4.toInt).toNat = n → (0 ≤ p5_4.toInt) → (p5_4.toInt ≤ 14) → (0 ≤ p5_3.toInt) → (p5_3.toInt ≤ 16383) → HT D cs A T O X H → va_S A s.heap H locs → lv_has ls 5 [(4, .int p5_4), (3, .int p5_3), (0, .ref a0), (1, .int x1), (2, .int x2)] → W p l e { frames := 4, cells := 0, slots := 0, locals := 101 } s m [.ref a0, .int x1, .int x2].toArray below meth c H locs 0 0 (MQ below (Ti D cs (fun r u => u = (T, O, X) ∧ 0 ≤ r.toInt ∧ r.toInt ≤ 16383) A) [.ref a0, .int x1, .int x2].toArray s 0 0 A) (F0 m 5 ls []) := by
    intro n
    induction n using Nat.strongRecOn with
    | _ n ih5 =>
      intro p5_4 p5_3 H locs ls hm5 l_p5_4 u_p5_4 l_p5_3 u_p5_3 hH hS hl
      refine lv_iload hx hb dX10_leadingTo_5 (lv_at hl 0 rfl) ?_
      refine lv_bipush (v := 14) hx hb dX10_leadingTo_7 (by decide) ?_
      refine lv_icmp_ge (tgt := 46) hx hb dX10_leadingTo_9 (by decide) (fun c9 => ?_) (fun c9 => ?_)
      · skip
        have tc9 := f_ge (k := 14) (by decide) c9
        refine lv_iload_n hx hb dX10_leadingTo_46 rfl (lv_at hl 1 rfl) ?_
        exact te_i hx hb hr hlocks hH hS (⟨rfl, by omega, by omega⟩) dX10_leadingTo_47
      · skip
        have tc9 := f_nge (k := 14) (by decide) c9
        refine lv_iload_n hx hb dX10_leadingTo_12 rfl (lv_at hl 3 rfl) ?_
        refine lv_iload hx hb dX10_leadingTo_13 (lv_at hl 0 rfl) ?_
        refine lv_ishr hx hb dX10_leadingTo_15 ?_
        refine lv_topi (fun v15 ev15 => ?_)
        refine lv_iconst (v := 1) hx hb dX10_leadingTo_16 (by decide) ?_
        refine lv_iand hx hb dX10_leadingTo_17 ?_
        refine lv_topi (fun v17 ev17 => ?_)
        have tv17 : 0 ≤ v17.toInt ∧ v17.toInt ≤ 1 := by rw [ev17]; exact and_r (by decide)
        have J40 : ∀ (p40_3 : Int32) (H : Heap) (locs : List Loc) (ls : Array Slot), (0 ≤ p40_3.toInt) → (p40_3.toInt ≤ 16383) → HT D cs A T O X H → va_S A s.heap H locs → lv_has ls 5 [(4, .int p5_4), (3, .int p40_3), (0, .ref a0), (1, .int x1), (2, .int x2)] → W p l e { frames := 4, cells := 0, slots := 0, locals := 101 } s m [.ref a0, .int x1, .int x2].toArray below meth c H locs 0 0 (MQ below (Ti D cs (fun r u => u = (T, O, X) ∧ 0 ≤ r.toInt ∧ r.toInt ≤ 16383) A) [.ref a0, .int x1, .int x2].toArray s 0 0 A) (F0 m 40 ls []) := by
          intro p40_3 H locs ls l_p40_3 u_p40_3 hH hS hl
          obtain ⟨v40, ev40⟩ : ∃ y : Int32, y = p5_4 + 1 := ⟨_, rfl⟩
          have tv40 : v40.toInt = p5_4.toInt + (1) := by rw [ev40]; exact add_i rfl (by decide) (by omega) (by omega)
          refine lv_iinc (v := v40) (lv' := [(4, .int v40), (3, .int p40_3), (0, .ref a0), (1, .int x1), (2, .int x2)]) hx hb dX10_leadingTo_40 hl (k := 0) rfl (by rw [ev40]; rfl) (by decide) rfl (fun ls hl => ?_)
          refine lv_goto (tgt := 5) hx hb dX10_leadingTo_43 (by decide) ?_
          exact ih5 _ (by omega) v40 p40_3 _ _ _ rfl (by omega) (by omega) (by omega) (by omega) hH hS (lv_sub hl [0, 1, 2, 3, 4] rfl)
        refine lv_if_eq (tgt := 40) hx hb dX10_leadingTo_18 (by decide) (fun c18 => ?_) (fun c18 => ?_)
        · skip
          have tc18 := f_eq (k := 0) (by decide) c18
          exact J40 p5_3 _ _ _ (by omega) (by omega) hH hS (lv_sub hl [0, 1, 2, 3, 4] rfl)
        · skip
          have tc18 := f_ne (k := 0) (by decide) c18
          refine lv_aload_n hx hb dX10_leadingTo_21 rfl (lv_at hl 2 rfl) ?_
          refine lv_iload hx hb dX10_leadingTo_22 (lv_at hl 0 rfl) ?_
          refine lv_iconst (v := 1) hx hb dX10_leadingTo_24 (by decide) ?_
          refine lv_iload_n hx hb dX10_leadingTo_25 rfl (lv_at hl 4 rfl) ?_
          refine lv_ishl hx hb dX10_leadingTo_26 ?_
          refine lv_topi (fun v26 ev26 => ?_)
          refine tk_i hH hS hA (tr_V (n := 2) (As := [.int p5_4, .int v26]) hx hb hml hown hts hkb hH hOX hks hE hS hA (s_Rows_stepped l D cs kf T O X a0 p5_4 v26 t_a0 (hO.sub (by decide))) kw_920 kw_863 kw_864 kw_8 kw_865 (by decide +kernel) ⟨Nat.le_of_ble_eq_true rfl, Nat.le_of_ble_eq_true rfl⟩ (HT.recv (ci := 5) hkb hH t_a0 (hO.no t_a0 (by decide)) rfl) rfl rfl hl.1 (Nat.le_of_ble_eq_true rfl) dX10_leadingTo_27 ⟨Nat.le_of_ble_eq_true rfl, Nat.le_of_ble_eq_true rfl⟩) (fun v27 u H locs hz9 hH hS => ?_)
          obtain ⟨rfl, l_v27, u_v27⟩ := hz9
          have hH : HT D cs A T O X H := hH
          refine W.widen (k := 0) (n := 0) (Nat.le_of_ble_eq_true rfl) (Nat.le_of_ble_eq_true rfl) ?_
          refine lv_if_eq (tgt := 40) hx hb dX10_leadingTo_30 (by decide) (fun c30 => ?_) (fun c30 => ?_)
          · skip
            have tc30 := f_eq (k := 0) (by decide) c30
            exact J40 p5_3 _ _ _ (by omega) (by omega) hH hS (lv_sub hl [0, 1, 2, 3, 4] rfl)
          · skip
            have tc30 := f_ne (k := 0) (by decide) c30
            refine lv_iload_n hx hb dX10_leadingTo_33 rfl (lv_at hl 1 rfl) ?_
            refine lv_iconst (v := 1) hx hb dX10_leadingTo_34 (by decide) ?_
            refine lv_iload hx hb dX10_leadingTo_35 (lv_at hl 0 rfl) ?_
            refine lv_ishl hx hb dX10_leadingTo_37 ?_
            refine lv_topi (fun v37 ev37 => ?_)
            have tv37 : 1 ≤ v37.toInt ∧ v37.toInt ≤ 8192 := by rw [ev37]; exact shl_b 13 (by decide) (by omega) (by omega)
            refine lv_ior hx hb dX10_leadingTo_38 ?_
            refine lv_topi (fun v38 ev38 => ?_)
            have tv38 : 0 ≤ v38.toInt ∧ v38.toInt < 16384 := by rw [ev38]; exact or_b 14 (by decide) (by omega) (by omega) (by omega) (by omega)
            refine lv_istore_n (lv' := [(3, .int v38), (4, .int p5_4), (0, .ref a0), (1, .int x1), (2, .int x2)]) hx hb dX10_leadingTo_39 rfl hl (by decide) rfl (fun ls hl => ?_)
            exact J40 v38 _ _ _ (by omega) (by omega) hH hS (lv_sub hl [1, 0, 2, 3, 4] rfl)
  refine lv_istore (lv' := [(4, .int 0), (3, .int 0), (0, .ref a0), (1, .int x1), (2, .int x2)]) hx hb dX10_leadingTo_3 hl (by decide) rfl (fun ls hl => ?_)
  exact J5 _ 0 0 _ _ _ rfl (by decide) (by decide) (by decide) (by decide) hH hS (lv_sub hl [0, 1, 2, 3, 4] rfl)
set_option maxHeartbeats 4000000 in
set_option maxRecDepth 100000 in
theorem s_Ways_endingFrom (l : Launch) (D : va_G) (cs : CS) (kf : KF) (T : TF) (O : List Nat) (X : va_W) (a0 : Nat) (x1 : Int32) (t_a0 : T a0 = some (20, 0, 0)) (hO : okO T O [1, 20]) : TK l D cs kf yX10_endingFrom cX10_endingFrom 4 (some (.int)) { frames := 1, cells := 0, slots := 0, locals := 20 } [.ref a0, .int x1] T O X (Ti D cs (fun r u => u = (T, O, X))) := by
  refine tk_of (by decide) (Nat.le_of_ble_eq_true rfl) (fun p e s m below meth c ls A H locs hx hb hr hml hown hts hlocks hnm hkb hH hS hA hOX hks hE hl => ?_)
  have hown : s.vm.findClass RX10 = some m.cls := hown
  have hl : lv_has ls 4 [(0, .ref a0), (1, .int x1)] := hl
  refine lv_iconst (v := 0) hx hb dX10_endingFrom_0 (by decide) ?_
  refine lv_istore_n (lv' := [(2, .int 0), (0, .ref a0), (1, .int x1)]) hx hb dX10_endingFrom_1 rfl hl (by decide) rfl (fun ls hl => ?_)
  refine lv_iconst (v := 0) hx hb dX10_endingFrom_2 (by decide) ?_
  have J4 : ∀ (n : Nat) (p4_3 : Int32) (p4_2 : Int32) (H : Heap) (locs : List Loc) (ls : Array Slot), (14 - p4_3.toInt).toNat = n → (0 ≤ p4_3.toInt) → (p4_3.toInt ≤ 14) → HT D cs A T O X H → va_S A s.heap H locs → lv_has ls 4 [(3, .int p4_3), (2, .int p4_2), (0, .ref a0), (1, .int x1)] → W p l e { frames := 1, cells := 0, slots := 0, locals := 20 } s m [.ref a0, .int x1].toArray below meth c H locs 0 0 (MQ below (Ti D cs (fun r u => u = (T, O, X)) A) [.ref a0, .int x1].toArray s 0 0 A) (F0 m 4 ls []) := by
    intro n
    induction n using Nat.strongRecOn with
    | _ n ih4 =>
      intro p4_3 p4_2 H locs ls hm4 l_p4_3 u_p4_3 hH hS hl
      refine lv_iload_n hx hb dX10_endingFrom_4 rfl (lv_at hl 0 rfl) ?_
      refine lv_aload_n hx hb dX10_endingFrom_5 rfl (lv_at hl 2 rfl) ?_
      refine t_get (ci := 10) (lst := ft10 0 0) (C := RX10) (F := TX10) (N := 7) hx hb hts uX10 hown hkb hH t_a0 (hO.no t_a0 (by decide)) (fun _ h9 => h9) rfl rfl 6 (by decide) rfl kw_279 (fun _ h9 => h9) dX10_endingFrom_6 (fun v9 h9 => ?_)
      obtain ⟨v6, rfl, l_v6, u_v6⟩ := h9
      refine lv_icmp_ge (tgt := 32) hx hb dX10_endingFrom_9 (by decide) (fun c9 => ?_) (fun c9 => ?_)
      · skip
        have fuc9 := full_i p4_3
        have fvc9 := full_i v6
        have tc9 := g_le c9
        refine lv_iload_n hx hb dX10_endingFrom_32 rfl (lv_at hl 1 rfl) ?_
        exact te_i hx hb hr hlocks hH hS (rfl) dX10_endingFrom_33
      · skip
        have fuc9 := full_i p4_3
        have fvc9 := full_i v6
        have tc9 := g_nle c9
        refine lv_iload_n hx hb dX10_endingFrom_12 rfl (lv_at hl 1 rfl) ?_
        refine lv_iload_n hx hb dX10_endingFrom_13 rfl (lv_at hl 3 rfl) ?_
        refine lv_aload_n hx hb dX10_endingFrom_14 rfl (lv_at hl 2 rfl) ?_
        refine t_get (ci := 10) (lst := ft10 0 0) (C := RX10) (F := TX10) (N := 7) hx hb hts uX10 hown hkb hH t_a0 (hO.no t_a0 (by decide)) (fun _ h9 => h9) rfl rfl 5 (by decide) rfl kw_278 (fun _ h9 => h9) dX10_endingFrom_15 (fun v9 h9 => ?_)
        obtain ⟨v15, rfl, t_v15⟩ := h9
        refine lv_iload_n hx hb dX10_endingFrom_18 rfl (lv_at hl 0 rfl) ?_
        refine t_ild hx hb hkb hH t_v15 (hO.no t_v15 (by decide)) (by omega) (by omega) dX10_endingFrom_19 (fun v19 h9 => ?_)
        refine lv_iand hx hb dX10_endingFrom_20 ?_
        refine lv_topi (fun v20 ev20 => ?_)
        refine tk_i hH hS hA (tr_S (n := 1) (As := [.int v20]) hx hb hml hown hts hkb hH hOX hks hE hS hA (s_bitCount l D cs kf T O X v20  (hO.sub (by decide))) kw_1001 kw_692 kw_20 kw_693 (by decide +kernel) ⟨Nat.le_of_ble_eq_true rfl, Nat.le_of_ble_eq_true rfl⟩ rfl rfl hl.1 (Nat.le_of_ble_eq_true rfl) dX10_endingFrom_21 ⟨Nat.le_of_ble_eq_true rfl, Nat.le_of_ble_eq_true rfl⟩) (fun v21 u H locs hz9 hH hS => ?_)
        obtain ⟨rfl, l_v21, u_v21⟩ := hz9
        have hH : HT D cs A T O X H := hH
        refine W.widen (k := 0) (n := 0) (Nat.le_of_ble_eq_true rfl) (Nat.le_of_ble_eq_true rfl) ?_
        refine lv_iadd hx hb dX10_endingFrom_24 ?_
        refine lv_topi (fun v24 ev24 => ?_)
        refine lv_istore_n (lv' := [(2, .int v24), (3, .int p4_3), (0, .ref a0), (1, .int x1)]) hx hb dX10_endingFrom_25 rfl hl (by decide) rfl (fun ls hl => ?_)
        obtain ⟨v26, ev26⟩ : ∃ y : Int32, y = p4_3 + 1 := ⟨_, rfl⟩
        have tv26 : v26.toInt = p4_3.toInt + (1) := by rw [ev26]; exact add_i rfl (by decide) (by omega) (by omega)
        refine lv_iinc (v := v26) (lv' := [(3, .int v26), (2, .int v24), (0, .ref a0), (1, .int x1)]) hx hb dX10_endingFrom_26 hl (k := 1) rfl (by rw [ev26]; rfl) (by decide) rfl (fun ls hl => ?_)
        refine lv_goto (tgt := 4) hx hb dX10_endingFrom_29 (by decide) ?_
        exact ih4 _ (by omega) v26 v24 _ _ _ rfl (by omega) (by omega) hH hS (lv_sub hl [0, 1, 2, 3] rfl)
  refine lv_istore_n (lv' := [(3, .int 0), (2, .int 0), (0, .ref a0), (1, .int x1)]) hx hb dX10_endingFrom_3 rfl hl (by decide) rfl (fun ls hl => ?_)
  exact J4 _ 0 0 _ _ _ rfl (by decide) (by decide) hH hS (lv_sub hl [0, 1, 2, 3] rfl)
set_option maxHeartbeats 4000000 in
set_option maxRecDepth 100000 in
theorem s_Ways_climbsOn0 (l : Launch) (D : va_G) (cs : CS) (kf : KF) (T : TF) (O : List Nat) (X : va_W) (a0 : Nat) (a1 : Nat) (x2 : Int32) (x3 : Int32) (x4 : Int32) (t_a0 : T a0 = some (20, 0, 0)) (t_a1 : T a1 = some (15, 0, 0)) (u_x4 : x4.toInt ≤ 0) (hO : okO T O []) : TK l D cs kf yX10_climbsOn cX10_climbsOn 9 (some (.long)) { frames := 0, cells := 0, slots := 0, locals := 0 } [.ref a0, .ref a1, .int x2, .int x3, .int x4] T O X (Tl D cs (fun _ u => u = (T, O, X))) := by
  refine tk_of (by decide) (Nat.le_of_ble_eq_true rfl) (fun p e s m below meth c ls A H locs hx hb hr hml hown hts hlocks hnm hkb hH hS hA hOX hks hE hl => ?_)
  have hown : s.vm.findClass RX10 = some m.cls := hown
  have hl : lv_has ls 9 [(0, .ref a0), (1, .ref a1), (2, .int x2), (3, .int x3), (4, .int x4)] := hl
  refine lv_iload hx hb dX10_climbsOn_0 (lv_at hl 4 rfl) ?_
  refine lv_if_gt (tgt := 7) hx hb dX10_climbsOn_2 (by decide) (fun c2 => ?_) (fun c2 => ?_)
  · skip
    have tc2 := f_gt (k := 0) (by decide) c2
    exfalso; omega
  · skip
    have tc2 := f_ngt (k := 0) (by decide) c2
    refine lv_lconst (v := 0) hx hb dX10_climbsOn_5 (by decide) ?_
    exact te_l hx hb hr hlocks hH hS rfl dX10_climbsOn_6
set_option maxHeartbeats 4000000 in
set_option maxRecDepth 100000 in
theorem s_Ways_climbsOn1 (l : Launch) (D : va_G) (cs : CS) (kf : KF) (T : TF) (O : List Nat) (X : va_W) (a0 : Nat) (a1 : Nat) (x2 : Int32) (x3 : Int32) (x4 : Int32) (t_a0 : T a0 = some (20, 0, 0)) (t_a1 : T a1 = some (15, 0, 0)) (u_x4 : x4.toInt ≤ 1) (hO : okO T O [1, 12, 15, 19, 20]) : TK l D cs kf yX10_climbsOn cX10_climbsOn 9 (some (.long)) { frames := 4, cells := 0, slots := 0, locals := 101 } [.ref a0, .ref a1, .int x2, .int x3, .int x4] T O X (Tl D cs (fun _ u => u = (T, O, X))) := by
  refine tk_of (by decide) (Nat.le_of_ble_eq_true rfl) (fun p e s m below meth c ls A H locs hx hb hr hml hown hts hlocks hnm hkb hH hS hA hOX hks hE hl => ?_)
  have hown : s.vm.findClass RX10 = some m.cls := hown
  have hl : lv_has ls 9 [(0, .ref a0), (1, .ref a1), (2, .int x2), (3, .int x3), (4, .int x4)] := hl
  refine lv_iload hx hb dX10_climbsOn_0 (lv_at hl 4 rfl) ?_
  refine lv_if_gt (tgt := 7) hx hb dX10_climbsOn_2 (by decide) (fun c2 => ?_) (fun c2 => ?_)
  · skip
    have tc2 := f_gt (k := 0) (by decide) c2
    refine lv_aload_n hx hb dX10_climbsOn_7 rfl (lv_at hl 0 rfl) ?_
    refine lv_iconst (v := 1) hx hb dX10_climbsOn_8 (by decide) ?_
    refine lv_iload_n hx hb dX10_climbsOn_9 rfl (lv_at hl 2 rfl) ?_
    refine lv_ishl hx hb dX10_climbsOn_10 ?_
    refine lv_topi (fun v10 ev10 => ?_)
    refine tk_i hH hS hA (tr_V (n := 1) (As := [.int v10]) hx hb hml hown hts hkb hH hOX hks hE hS hA (s_Ways_endingFrom l D cs kf T O X a0 v10 t_a0 (hO.sub (by decide))) kw_1006 kw_1008 ks_31 kw_9 kw_1009 (by decide +kernel) ⟨Nat.le_of_ble_eq_true rfl, Nat.le_of_ble_eq_true rfl⟩ (HT.recv (ci := 10) hkb hH t_a0 (hO.no t_a0 (by decide)) rfl) rfl rfl hl.1 (Nat.le_of_ble_eq_true rfl) dX10_climbsOn_11 ⟨Nat.le_of_ble_eq_true rfl, Nat.le_of_ble_eq_true rfl⟩) (fun v11 u H locs hz9 hH hS => ?_)
    have hz9 : u = (T, O, X) := hz9
    subst hz9
    have hH : HT D cs A T O X H := hH
    refine W.widen (k := 0) (n := 0) (Nat.le_of_ble_eq_true rfl) (Nat.le_of_ble_eq_true rfl) ?_
    refine lv_i2l hx hb dX10_climbsOn_14 rfl ?_
    refine lv_lstore (lv' := [(5, .long v11.toInt64), (0, .ref a0), (1, .ref a1), (2, .int x2), (3, .int x3), (4, .int x4)]) hx hb dX10_climbsOn_15 hl (by decide) rfl (fun ls hl => ?_)
    refine lv_aload_n hx hb dX10_climbsOn_17 rfl (lv_at hl 2 rfl) ?_
    refine lv_iload_n hx hb dX10_climbsOn_18 rfl (lv_at hl 3 rfl) ?_
    refine lv_iload_n hx hb dX10_climbsOn_19 rfl (lv_at hl 4 rfl) ?_
    refine tk_i hH hS hA (tr_V (n := 2) (As := [.int x2, .int x3]) hx hb hml hown hts hkb hH hOX hks hE hS hA (s_Rows_stepped l D cs kf T O X a1 x2 x3 t_a1 (hO.sub (by decide))) kw_920 kw_863 kw_864 kw_8 kw_865 (by decide +kernel) ⟨Nat.le_of_ble_eq_true rfl, Nat.le_of_ble_eq_true rfl⟩ (HT.recv (ci := 5) hkb hH t_a1 (hO.no t_a1 (by decide)) rfl) rfl rfl hl.1 (Nat.le_of_ble_eq_true rfl) dX10_climbsOn_20 ⟨Nat.le_of_ble_eq_true rfl, Nat.le_of_ble_eq_true rfl⟩) (fun v20 u H locs hz9 hH hS => ?_)
    obtain ⟨rfl, l_v20, u_v20⟩ := hz9
    have hH : HT D cs A T O X H := hH
    refine W.widen (k := 0) (n := 0) (Nat.le_of_ble_eq_true rfl) (Nat.le_of_ble_eq_true rfl) ?_
    refine lv_istore (lv' := [(7, .int v20), (5, .long v11.toInt64), (0, .ref a0), (1, .ref a1), (2, .int x2), (3, .int x3), (4, .int x4)]) hx hb dX10_climbsOn_23 hl (by decide) rfl (fun ls hl => ?_)
    refine lv_iload hx hb dX10_climbsOn_25 (lv_at hl 6 rfl) ?_
    refine lv_iconst (v := 2) hx hb dX10_climbsOn_27 (by decide) ?_
    refine lv_icmp_gt (tgt := 53) hx hb dX10_climbsOn_28 (by decide) (fun c28 => ?_) (fun c28 => ?_)
    · skip
      have tc28 := f_gt (k := 2) (by decide) c28
      exfalso; omega
    · skip
      have tc28 := f_ngt (k := 2) (by decide) c28
      refine lv_iload hx hb dX10_climbsOn_31 (lv_at hl 6 rfl) ?_
      refine lv_iconst (v := 1) hx hb dX10_climbsOn_33 (by decide) ?_
      refine lv_icmp_ne (tgt := 42) hx hb dX10_climbsOn_34 (by decide) (fun c34 => ?_) (fun c34 => ?_)
      · skip
        have tc34 := f_ne (k := 1) (by decide) c34
        exfalso; omega
      · skip
        have tc34 := f_eq (k := 1) (by decide) c34
        refine lv_lload hx hb dX10_climbsOn_37 (lv_at hl 1 rfl) ?_
        refine lv_goto (tgt := 52) hx hb dX10_climbsOn_39 (by decide) ?_
        exact te_l hx hb hr hlocks hH hS rfl dX10_climbsOn_52
  · skip
    have tc2 := f_ngt (k := 0) (by decide) c2
    refine lv_lconst (v := 0) hx hb dX10_climbsOn_5 (by decide) ?_
    exact te_l hx hb hr hlocks hH hS rfl dX10_climbsOn_6
set_option maxHeartbeats 4000000 in
set_option maxRecDepth 100000 in
theorem s_Ways_climbsOn2 (l : Launch) (D : va_G) (cs : CS) (kf : KF) (T : TF) (O : List Nat) (X : va_W) (a0 : Nat) (a1 : Nat) (x2 : Int32) (x3 : Int32) (x4 : Int32) (t_a0 : T a0 = some (20, 0, 0)) (t_a1 : T a1 = some (15, 0, 0)) (u_x4 : x4.toInt ≤ 2) (hO : okO T O [1, 12, 15, 19, 20]) : TK l D cs kf yX10_climbsOn cX10_climbsOn 9 (some (.long)) { frames := 4, cells := 0, slots := 0, locals := 101 } [.ref a0, .ref a1, .int x2, .int x3, .int x4] T O X (Tl D cs (fun _ u => u = (T, O, X))) := by
  refine tk_of (by decide) (Nat.le_of_ble_eq_true rfl) (fun p e s m below meth c ls A H locs hx hb hr hml hown hts hlocks hnm hkb hH hS hA hOX hks hE hl => ?_)
  have hown : s.vm.findClass RX10 = some m.cls := hown
  have hl : lv_has ls 9 [(0, .ref a0), (1, .ref a1), (2, .int x2), (3, .int x3), (4, .int x4)] := hl
  refine lv_iload hx hb dX10_climbsOn_0 (lv_at hl 4 rfl) ?_
  refine lv_if_gt (tgt := 7) hx hb dX10_climbsOn_2 (by decide) (fun c2 => ?_) (fun c2 => ?_)
  · skip
    have tc2 := f_gt (k := 0) (by decide) c2
    refine lv_aload_n hx hb dX10_climbsOn_7 rfl (lv_at hl 0 rfl) ?_
    refine lv_iconst (v := 1) hx hb dX10_climbsOn_8 (by decide) ?_
    refine lv_iload_n hx hb dX10_climbsOn_9 rfl (lv_at hl 2 rfl) ?_
    refine lv_ishl hx hb dX10_climbsOn_10 ?_
    refine lv_topi (fun v10 ev10 => ?_)
    refine tk_i hH hS hA (tr_V (n := 1) (As := [.int v10]) hx hb hml hown hts hkb hH hOX hks hE hS hA (s_Ways_endingFrom l D cs kf T O X a0 v10 t_a0 (hO.sub (by decide))) kw_1006 kw_1008 ks_31 kw_9 kw_1009 (by decide +kernel) ⟨Nat.le_of_ble_eq_true rfl, Nat.le_of_ble_eq_true rfl⟩ (HT.recv (ci := 10) hkb hH t_a0 (hO.no t_a0 (by decide)) rfl) rfl rfl hl.1 (Nat.le_of_ble_eq_true rfl) dX10_climbsOn_11 ⟨Nat.le_of_ble_eq_true rfl, Nat.le_of_ble_eq_true rfl⟩) (fun v11 u H locs hz9 hH hS => ?_)
    have hz9 : u = (T, O, X) := hz9
    subst hz9
    have hH : HT D cs A T O X H := hH
    refine W.widen (k := 0) (n := 0) (Nat.le_of_ble_eq_true rfl) (Nat.le_of_ble_eq_true rfl) ?_
    refine lv_i2l hx hb dX10_climbsOn_14 rfl ?_
    refine lv_lstore (lv' := [(5, .long v11.toInt64), (0, .ref a0), (1, .ref a1), (2, .int x2), (3, .int x3), (4, .int x4)]) hx hb dX10_climbsOn_15 hl (by decide) rfl (fun ls hl => ?_)
    refine lv_aload_n hx hb dX10_climbsOn_17 rfl (lv_at hl 2 rfl) ?_
    refine lv_iload_n hx hb dX10_climbsOn_18 rfl (lv_at hl 3 rfl) ?_
    refine lv_iload_n hx hb dX10_climbsOn_19 rfl (lv_at hl 4 rfl) ?_
    refine tk_i hH hS hA (tr_V (n := 2) (As := [.int x2, .int x3]) hx hb hml hown hts hkb hH hOX hks hE hS hA (s_Rows_stepped l D cs kf T O X a1 x2 x3 t_a1 (hO.sub (by decide))) kw_920 kw_863 kw_864 kw_8 kw_865 (by decide +kernel) ⟨Nat.le_of_ble_eq_true rfl, Nat.le_of_ble_eq_true rfl⟩ (HT.recv (ci := 5) hkb hH t_a1 (hO.no t_a1 (by decide)) rfl) rfl rfl hl.1 (Nat.le_of_ble_eq_true rfl) dX10_climbsOn_20 ⟨Nat.le_of_ble_eq_true rfl, Nat.le_of_ble_eq_true rfl⟩) (fun v20 u H locs hz9 hH hS => ?_)
    obtain ⟨rfl, l_v20, u_v20⟩ := hz9
    have hH : HT D cs A T O X H := hH
    refine W.widen (k := 0) (n := 0) (Nat.le_of_ble_eq_true rfl) (Nat.le_of_ble_eq_true rfl) ?_
    refine lv_istore (lv' := [(7, .int v20), (5, .long v11.toInt64), (0, .ref a0), (1, .ref a1), (2, .int x2), (3, .int x3), (4, .int x4)]) hx hb dX10_climbsOn_23 hl (by decide) rfl (fun ls hl => ?_)
    refine lv_iload hx hb dX10_climbsOn_25 (lv_at hl 6 rfl) ?_
    refine lv_iconst (v := 2) hx hb dX10_climbsOn_27 (by decide) ?_
    refine lv_icmp_gt (tgt := 53) hx hb dX10_climbsOn_28 (by decide) (fun c28 => ?_) (fun c28 => ?_)
    · skip
      have tc28 := f_gt (k := 2) (by decide) c28
      exfalso; omega
    · skip
      have tc28 := f_ngt (k := 2) (by decide) c28
      refine lv_iload hx hb dX10_climbsOn_31 (lv_at hl 6 rfl) ?_
      refine lv_iconst (v := 1) hx hb dX10_climbsOn_33 (by decide) ?_
      have J52 : ∀ (k52_0 : Int64) (H : Heap) (locs : List Loc) (ls : Array Slot), HT D cs A T O X H → va_S A s.heap H locs → lv_has ls 9 [] → W p l e { frames := 4, cells := 0, slots := 0, locals := 101 } s m [.ref a0, .ref a1, .int x2, .int x3, .int x4].toArray below meth c H locs 0 0 (MQ below (Tl D cs (fun _ u => u = (T, O, X)) A) [.ref a0, .ref a1, .int x2, .int x3, .int x4].toArray s 0 0 A) (F0 m 52 ls [.long k52_0]) := by
        intro k52_0 H locs ls  hH hS hl
        exact te_l hx hb hr hlocks hH hS rfl dX10_climbsOn_52
      refine lv_icmp_ne (tgt := 42) hx hb dX10_climbsOn_34 (by decide) (fun c34 => ?_) (fun c34 => ?_)
      · skip
        have tc34 := f_ne (k := 1) (by decide) c34
        refine lv_lload hx hb dX10_climbsOn_42 (lv_at hl 1 rfl) ?_
        refine lv_aload_n hx hb dX10_climbsOn_44 rfl (lv_at hl 2 rfl) ?_
        refine lv_iload hx hb dX10_climbsOn_45 (lv_at hl 0 rfl) ?_
        refine tk_i hH hS hA (tr_V (n := 1) (As := [.int v20]) hx hb hml hown hts hkb hH hOX hks hE hS hA (s_Ways_endingFrom l D cs kf T O X a0 v20 t_a0 (hO.sub (by decide))) kw_1006 kw_1008 ks_31 kw_9 kw_1009 (by decide +kernel) ⟨Nat.le_of_ble_eq_true rfl, Nat.le_of_ble_eq_true rfl⟩ (HT.recv (ci := 10) hkb hH t_a0 (hO.no t_a0 (by decide)) rfl) rfl rfl hl.1 (Nat.le_of_ble_eq_true rfl) dX10_climbsOn_47 ⟨Nat.le_of_ble_eq_true rfl, Nat.le_of_ble_eq_true rfl⟩) (fun v47 u H locs hz9 hH hS => ?_)
        have hz9 : u = (T, O, X) := hz9
        subst hz9
        have hH : HT D cs A T O X H := hH
        refine W.widen (k := 0) (n := 0) (Nat.le_of_ble_eq_true rfl) (Nat.le_of_ble_eq_true rfl) ?_
        refine lv_i2l hx hb dX10_climbsOn_50 rfl ?_
        refine lv_ladd hx hb dX10_climbsOn_51 ?_
        refine lv_topl (fun v51 ev51 => ?_)
        exact J52 v51 _ _ _  hH hS (lv_sub hl [] rfl)
      · skip
        have tc34 := f_eq (k := 1) (by decide) c34
        refine lv_lload hx hb dX10_climbsOn_37 (lv_at hl 1 rfl) ?_
        refine lv_goto (tgt := 52) hx hb dX10_climbsOn_39 (by decide) ?_
        exact J52 v11.toInt64 _ _ _  hH hS (lv_sub hl [] rfl)
  · skip
    have tc2 := f_ngt (k := 0) (by decide) c2
    refine lv_lconst (v := 0) hx hb dX10_climbsOn_5 (by decide) ?_
    exact te_l hx hb hr hlocks hH hS rfl dX10_climbsOn_6
set_option maxHeartbeats 4000000 in
set_option maxRecDepth 100000 in
theorem s_Ways_climbsOn3 (l : Launch) (D : va_G) (cs : CS) (kf : KF) (T : TF) (O : List Nat) (X : va_W) (a0 : Nat) (a1 : Nat) (x2 : Int32) (x3 : Int32) (x4 : Int32) (t_a0 : T a0 = some (20, 0, 0)) (t_a1 : T a1 = some (15, 0, 0)) (u_x4 : x4.toInt ≤ 3) (hO : okO T O [1, 12, 15, 19, 20]) : TK l D cs kf yX10_climbsOn cX10_climbsOn 9 (some (.long)) { frames := 5, cells := 0, slots := 0, locals := 129 } [.ref a0, .ref a1, .int x2, .int x3, .int x4] T O X (Tl D cs (fun _ u => u = (T, O, X))) := by
  refine tk_of (by decide) (Nat.le_of_ble_eq_true rfl) (fun p e s m below meth c ls A H locs hx hb hr hml hown hts hlocks hnm hkb hH hS hA hOX hks hE hl => ?_)
  have hown : s.vm.findClass RX10 = some m.cls := hown
  have hl : lv_has ls 9 [(0, .ref a0), (1, .ref a1), (2, .int x2), (3, .int x3), (4, .int x4)] := hl
  refine lv_iload hx hb dX10_climbsOn_0 (lv_at hl 4 rfl) ?_
  refine lv_if_gt (tgt := 7) hx hb dX10_climbsOn_2 (by decide) (fun c2 => ?_) (fun c2 => ?_)
  · skip
    have tc2 := f_gt (k := 0) (by decide) c2
    refine lv_aload_n hx hb dX10_climbsOn_7 rfl (lv_at hl 0 rfl) ?_
    refine lv_iconst (v := 1) hx hb dX10_climbsOn_8 (by decide) ?_
    refine lv_iload_n hx hb dX10_climbsOn_9 rfl (lv_at hl 2 rfl) ?_
    refine lv_ishl hx hb dX10_climbsOn_10 ?_
    refine lv_topi (fun v10 ev10 => ?_)
    refine tk_i hH hS hA (tr_V (n := 1) (As := [.int v10]) hx hb hml hown hts hkb hH hOX hks hE hS hA (s_Ways_endingFrom l D cs kf T O X a0 v10 t_a0 (hO.sub (by decide))) kw_1006 kw_1008 ks_31 kw_9 kw_1009 (by decide +kernel) ⟨Nat.le_of_ble_eq_true rfl, Nat.le_of_ble_eq_true rfl⟩ (HT.recv (ci := 10) hkb hH t_a0 (hO.no t_a0 (by decide)) rfl) rfl rfl hl.1 (Nat.le_of_ble_eq_true rfl) dX10_climbsOn_11 ⟨Nat.le_of_ble_eq_true rfl, Nat.le_of_ble_eq_true rfl⟩) (fun v11 u H locs hz9 hH hS => ?_)
    have hz9 : u = (T, O, X) := hz9
    subst hz9
    have hH : HT D cs A T O X H := hH
    refine W.widen (k := 0) (n := 0) (Nat.le_of_ble_eq_true rfl) (Nat.le_of_ble_eq_true rfl) ?_
    refine lv_i2l hx hb dX10_climbsOn_14 rfl ?_
    refine lv_lstore (lv' := [(5, .long v11.toInt64), (0, .ref a0), (1, .ref a1), (2, .int x2), (3, .int x3), (4, .int x4)]) hx hb dX10_climbsOn_15 hl (by decide) rfl (fun ls hl => ?_)
    refine lv_aload_n hx hb dX10_climbsOn_17 rfl (lv_at hl 2 rfl) ?_
    refine lv_iload_n hx hb dX10_climbsOn_18 rfl (lv_at hl 3 rfl) ?_
    refine lv_iload_n hx hb dX10_climbsOn_19 rfl (lv_at hl 4 rfl) ?_
    refine tk_i hH hS hA (tr_V (n := 2) (As := [.int x2, .int x3]) hx hb hml hown hts hkb hH hOX hks hE hS hA (s_Rows_stepped l D cs kf T O X a1 x2 x3 t_a1 (hO.sub (by decide))) kw_920 kw_863 kw_864 kw_8 kw_865 (by decide +kernel) ⟨Nat.le_of_ble_eq_true rfl, Nat.le_of_ble_eq_true rfl⟩ (HT.recv (ci := 5) hkb hH t_a1 (hO.no t_a1 (by decide)) rfl) rfl rfl hl.1 (Nat.le_of_ble_eq_true rfl) dX10_climbsOn_20 ⟨Nat.le_of_ble_eq_true rfl, Nat.le_of_ble_eq_true rfl⟩) (fun v20 u H locs hz9 hH hS => ?_)
    obtain ⟨rfl, l_v20, u_v20⟩ := hz9
    have hH : HT D cs A T O X H := hH
    refine W.widen (k := 0) (n := 0) (Nat.le_of_ble_eq_true rfl) (Nat.le_of_ble_eq_true rfl) ?_
    refine lv_istore (lv' := [(7, .int v20), (5, .long v11.toInt64), (0, .ref a0), (1, .ref a1), (2, .int x2), (3, .int x3), (4, .int x4)]) hx hb dX10_climbsOn_23 hl (by decide) rfl (fun ls hl => ?_)
    refine lv_iload hx hb dX10_climbsOn_25 (lv_at hl 6 rfl) ?_
    refine lv_iconst (v := 2) hx hb dX10_climbsOn_27 (by decide) ?_
    refine lv_icmp_gt (tgt := 53) hx hb dX10_climbsOn_28 (by decide) (fun c28 => ?_) (fun c28 => ?_)
    · skip
      have tc28 := f_gt (k := 2) (by decide) c28
      refine lv_iconst (v := 0) hx hb dX10_climbsOn_53 (by decide) ?_
      have J56 : ∀ (n : Nat) (p56_8 : Int32) (p56_5 : Int64) (H : Heap) (locs : List Loc) (ls : Array Slot), (14 - p56_8.toInt).toNat = n → (0 ≤ p56_8.toInt) → (p56_8.toInt ≤ 14) → HT D cs A T O X H → va_S A s.heap H locs → lv_has ls 9 [(8, .int p56_8), (7, .int v20), (5, .long p56_5), (0, .ref a0), (1, .ref a1), (3, .int x3), (4, .int x4)] → W p l e { frames := 5, cells := 0, slots := 0, locals := 129 } s m [.ref a0, .ref a1, .int x2, .int x3, .int x4].toArray below meth c H locs 0 0 (MQ below (Tl D cs (fun _ u => u = (T, O, X)) A) [.ref a0, .ref a1, .int x2, .int x3, .int x4].toArray s 0 0 A) (F0 m 56 ls []) := by
        intro n
        induction n using Nat.strongRecOn with
        | _ n ih56 =>
          intro p56_8 p56_5 H locs ls hm56 l_p56_8 u_p56_8 hH hS hl
          refine lv_iload hx hb dX10_climbsOn_56 (lv_at hl 0 rfl) ?_
          refine lv_bipush (v := 14) hx hb dX10_climbsOn_58 (by decide) ?_
          refine lv_icmp_ge (tgt := 103) hx hb dX10_climbsOn_60 (by decide) (fun c60 => ?_) (fun c60 => ?_)
          · skip
            have tc60 := f_ge (k := 14) (by decide) c60
            refine lv_lload hx hb dX10_climbsOn_103 (lv_at hl 2 rfl) ?_
            exact te_l hx hb hr hlocks hH hS rfl dX10_climbsOn_105
          · skip
            have tc60 := f_nge (k := 14) (by decide) c60
            refine lv_iload hx hb dX10_climbsOn_63 (lv_at hl 1 rfl) ?_
            refine lv_iload hx hb dX10_climbsOn_65 (lv_at hl 0 rfl) ?_
            refine lv_ishr hx hb dX10_climbsOn_67 ?_
            refine lv_topi (fun v67 ev67 => ?_)
            have tv67 : 0 ≤ v67.toInt ∧ v67.toInt ≤ v20.toInt := by rw [ev67]; exact shr_b (by omega)
            refine lv_iconst (v := 1) hx hb dX10_climbsOn_68 (by decide) ?_
            refine lv_iand hx hb dX10_climbsOn_69 ?_
            refine lv_topi (fun v69 ev69 => ?_)
            have tv69 : 0 ≤ v69.toInt ∧ v69.toInt ≤ 1 := by rw [ev69]; exact and_r (by decide)
            have J97 : ∀ (p97_5 : Int64) (H : Heap) (locs : List Loc) (ls : Array Slot), HT D cs A T O X H → va_S A s.heap H locs → lv_has ls 9 [(8, .int p56_8), (7, .int v20), (5, .long p97_5), (0, .ref a0), (1, .ref a1), (3, .int x3), (4, .int x4)] → W p l e { frames := 5, cells := 0, slots := 0, locals := 129 } s m [.ref a0, .ref a1, .int x2, .int x3, .int x4].toArray below meth c H locs 0 0 (MQ below (Tl D cs (fun _ u => u = (T, O, X)) A) [.ref a0, .ref a1, .int x2, .int x3, .int x4].toArray s 0 0 A) (F0 m 97 ls []) := by
              intro p97_5 H locs ls  hH hS hl
              obtain ⟨v97, ev97⟩ : ∃ y : Int32, y = p56_8 + 1 := ⟨_, rfl⟩
              have tv97 : v97.toInt = p56_8.toInt + (1) := by rw [ev97]; exact add_i rfl (by decide) (by omega) (by omega)
              refine lv_iinc (v := v97) (lv' := [(8, .int v97), (7, .int v20), (5, .long p97_5), (0, .ref a0), (1, .ref a1), (3, .int x3), (4, .int x4)]) hx hb dX10_climbsOn_97 hl (k := 0) rfl (by rw [ev97]; rfl) (by decide) rfl (fun ls hl => ?_)
              refine lv_goto (tgt := 56) hx hb dX10_climbsOn_100 (by decide) ?_
              exact ih56 _ (by omega) v97 p97_5 _ _ _ rfl (by omega) (by omega) hH hS (lv_sub hl [0, 1, 2, 3, 4, 5, 6] rfl)
            refine lv_if_eq (tgt := 97) hx hb dX10_climbsOn_70 (by decide) (fun c70 => ?_) (fun c70 => ?_)
            · skip
              have tc70 := f_eq (k := 0) (by decide) c70
              exact J97 p56_5 _ _ _  hH hS (lv_sub hl [0, 1, 2, 3, 4, 5, 6] rfl)
            · skip
              have tc70 := f_ne (k := 0) (by decide) c70
              refine lv_lload hx hb dX10_climbsOn_73 (lv_at hl 2 rfl) ?_
              refine lv_aload_n hx hb dX10_climbsOn_75 rfl (lv_at hl 3 rfl) ?_
              refine lv_aload_n hx hb dX10_climbsOn_76 rfl (lv_at hl 4 rfl) ?_
              refine lv_iload hx hb dX10_climbsOn_77 (lv_at hl 0 rfl) ?_
              refine lv_iload_n hx hb dX10_climbsOn_79 rfl (lv_at hl 5 rfl) ?_
              refine lv_iconst (v := 1) hx hb dX10_climbsOn_80 (by decide) ?_
              refine lv_iload hx hb dX10_climbsOn_81 (lv_at hl 0 rfl) ?_
              refine lv_ishl hx hb dX10_climbsOn_83 ?_
              refine lv_topi (fun v83 ev83 => ?_)
              have tv83 : 1 ≤ v83.toInt ∧ v83.toInt ≤ 8192 := by rw [ev83]; exact shl_b 13 (by decide) (by omega) (by omega)
              refine lv_iconst (v := (-1)) hx hb dX10_climbsOn_84 (by decide) ?_
              refine lv_ixor hx hb dX10_climbsOn_85 ?_
              refine lv_topi (fun v85 ev85 => ?_)
              refine lv_iand hx hb dX10_climbsOn_86 ?_
              refine lv_topi (fun v86 ev86 => ?_)
              refine lv_iload hx hb dX10_climbsOn_87 (lv_at hl 6 rfl) ?_
              refine lv_iconst (v := 1) hx hb dX10_climbsOn_89 (by decide) ?_
              refine lv_isub hx hb dX10_climbsOn_90 ?_
              refine lv_topi (fun v90 ev90 => ?_)
              have tv90 : v90.toInt = x4.toInt - (1) := by rw [ev90]; exact sub_i rfl (by decide : (1 : Int32).toInt = 1) (by omega) (by omega)
              refine tk_l hH hS hA (tr_V (n := 4) (As := [.ref a1, .int p56_8, .int v86, .int v90]) hx hb hml hown hts hkb hH hOX hks hE hS hA (s_Ways_climbsOn2 l D cs kf T O X a0 a1 p56_8 v86 v90 t_a0 t_a1 (by omega) (hO.sub (by decide))) kw_1002 kw_1004 ks_30 kw_9 kw_1005 (by decide +kernel) ⟨Nat.le_of_ble_eq_true rfl, Nat.le_of_ble_eq_true rfl⟩ (HT.recv (ci := 10) hkb hH t_a0 (hO.no t_a0 (by decide)) rfl) rfl rfl hl.1 (Nat.le_of_ble_eq_true rfl) dX10_climbsOn_91 ⟨Nat.le_of_ble_eq_true rfl, Nat.le_of_ble_eq_true rfl⟩) (fun v91 u H locs hz9 hH hS => ?_)
              have hz9 : u = (T, O, X) := hz9
              subst hz9
              have hH : HT D cs A T O X H := hH
              refine W.widen (k := 0) (n := 0) (Nat.le_of_ble_eq_true rfl) (Nat.le_of_ble_eq_true rfl) ?_
              refine lv_ladd hx hb dX10_climbsOn_94 ?_
              refine lv_topl (fun v94 ev94 => ?_)
              refine lv_lstore (lv' := [(5, .long v94), (8, .int p56_8), (7, .int v20), (0, .ref a0), (1, .ref a1), (3, .int x3), (4, .int x4)]) hx hb dX10_climbsOn_95 hl (by decide) rfl (fun ls hl => ?_)
              exact J97 v94 _ _ _  hH hS (lv_sub hl [1, 2, 0, 3, 4, 5, 6] rfl)
      refine lv_istore (lv' := [(8, .int 0), (7, .int v20), (5, .long v11.toInt64), (0, .ref a0), (1, .ref a1), (2, .int x2), (3, .int x3), (4, .int x4)]) hx hb dX10_climbsOn_54 hl (by decide) rfl (fun ls hl => ?_)
      exact J56 _ 0 v11.toInt64 _ _ _ rfl (by decide) (by decide) hH hS (lv_sub hl [0, 1, 2, 3, 4, 6, 7] rfl)
    · skip
      have tc28 := f_ngt (k := 2) (by decide) c28
      refine lv_iload hx hb dX10_climbsOn_31 (lv_at hl 6 rfl) ?_
      refine lv_iconst (v := 1) hx hb dX10_climbsOn_33 (by decide) ?_
      have J52 : ∀ (k52_0 : Int64) (H : Heap) (locs : List Loc) (ls : Array Slot), HT D cs A T O X H → va_S A s.heap H locs → lv_has ls 9 [] → W p l e { frames := 5, cells := 0, slots := 0, locals := 129 } s m [.ref a0, .ref a1, .int x2, .int x3, .int x4].toArray below meth c H locs 0 0 (MQ below (Tl D cs (fun _ u => u = (T, O, X)) A) [.ref a0, .ref a1, .int x2, .int x3, .int x4].toArray s 0 0 A) (F0 m 52 ls [.long k52_0]) := by
        intro k52_0 H locs ls  hH hS hl
        exact te_l hx hb hr hlocks hH hS rfl dX10_climbsOn_52
      refine lv_icmp_ne (tgt := 42) hx hb dX10_climbsOn_34 (by decide) (fun c34 => ?_) (fun c34 => ?_)
      · skip
        have tc34 := f_ne (k := 1) (by decide) c34
        refine lv_lload hx hb dX10_climbsOn_42 (lv_at hl 1 rfl) ?_
        refine lv_aload_n hx hb dX10_climbsOn_44 rfl (lv_at hl 2 rfl) ?_
        refine lv_iload hx hb dX10_climbsOn_45 (lv_at hl 0 rfl) ?_
        refine tk_i hH hS hA (tr_V (n := 1) (As := [.int v20]) hx hb hml hown hts hkb hH hOX hks hE hS hA (s_Ways_endingFrom l D cs kf T O X a0 v20 t_a0 (hO.sub (by decide))) kw_1006 kw_1008 ks_31 kw_9 kw_1009 (by decide +kernel) ⟨Nat.le_of_ble_eq_true rfl, Nat.le_of_ble_eq_true rfl⟩ (HT.recv (ci := 10) hkb hH t_a0 (hO.no t_a0 (by decide)) rfl) rfl rfl hl.1 (Nat.le_of_ble_eq_true rfl) dX10_climbsOn_47 ⟨Nat.le_of_ble_eq_true rfl, Nat.le_of_ble_eq_true rfl⟩) (fun v47 u H locs hz9 hH hS => ?_)
        have hz9 : u = (T, O, X) := hz9
        subst hz9
        have hH : HT D cs A T O X H := hH
        refine W.widen (k := 0) (n := 0) (Nat.le_of_ble_eq_true rfl) (Nat.le_of_ble_eq_true rfl) ?_
        refine lv_i2l hx hb dX10_climbsOn_50 rfl ?_
        refine lv_ladd hx hb dX10_climbsOn_51 ?_
        refine lv_topl (fun v51 ev51 => ?_)
        exact J52 v51 _ _ _  hH hS (lv_sub hl [] rfl)
      · skip
        have tc34 := f_eq (k := 1) (by decide) c34
        refine lv_lload hx hb dX10_climbsOn_37 (lv_at hl 1 rfl) ?_
        refine lv_goto (tgt := 52) hx hb dX10_climbsOn_39 (by decide) ?_
        exact J52 v11.toInt64 _ _ _  hH hS (lv_sub hl [] rfl)
  · skip
    have tc2 := f_ngt (k := 0) (by decide) c2
    refine lv_lconst (v := 0) hx hb dX10_climbsOn_5 (by decide) ?_
    exact te_l hx hb hr hlocks hH hS rfl dX10_climbsOn_6
set_option maxHeartbeats 4000000 in
set_option maxRecDepth 100000 in
theorem s_Ways_climbsOn4 (l : Launch) (D : va_G) (cs : CS) (kf : KF) (T : TF) (O : List Nat) (X : va_W) (a0 : Nat) (a1 : Nat) (x2 : Int32) (x3 : Int32) (x4 : Int32) (t_a0 : T a0 = some (20, 0, 0)) (t_a1 : T a1 = some (15, 0, 0)) (u_x4 : x4.toInt ≤ 4) (hO : okO T O [1, 12, 15, 19, 20]) : TK l D cs kf yX10_climbsOn cX10_climbsOn 9 (some (.long)) { frames := 6, cells := 0, slots := 0, locals := 157 } [.ref a0, .ref a1, .int x2, .int x3, .int x4] T O X (Tl D cs (fun _ u => u = (T, O, X))) := by
  refine tk_of (by decide) (Nat.le_of_ble_eq_true rfl) (fun p e s m below meth c ls A H locs hx hb hr hml hown hts hlocks hnm hkb hH hS hA hOX hks hE hl => ?_)
  have hown : s.vm.findClass RX10 = some m.cls := hown
  have hl : lv_has ls 9 [(0, .ref a0), (1, .ref a1), (2, .int x2), (3, .int x3), (4, .int x4)] := hl
  refine lv_iload hx hb dX10_climbsOn_0 (lv_at hl 4 rfl) ?_
  refine lv_if_gt (tgt := 7) hx hb dX10_climbsOn_2 (by decide) (fun c2 => ?_) (fun c2 => ?_)
  · skip
    have tc2 := f_gt (k := 0) (by decide) c2
    refine lv_aload_n hx hb dX10_climbsOn_7 rfl (lv_at hl 0 rfl) ?_
    refine lv_iconst (v := 1) hx hb dX10_climbsOn_8 (by decide) ?_
    refine lv_iload_n hx hb dX10_climbsOn_9 rfl (lv_at hl 2 rfl) ?_
    refine lv_ishl hx hb dX10_climbsOn_10 ?_
    refine lv_topi (fun v10 ev10 => ?_)
    refine tk_i hH hS hA (tr_V (n := 1) (As := [.int v10]) hx hb hml hown hts hkb hH hOX hks hE hS hA (s_Ways_endingFrom l D cs kf T O X a0 v10 t_a0 (hO.sub (by decide))) kw_1006 kw_1008 ks_31 kw_9 kw_1009 (by decide +kernel) ⟨Nat.le_of_ble_eq_true rfl, Nat.le_of_ble_eq_true rfl⟩ (HT.recv (ci := 10) hkb hH t_a0 (hO.no t_a0 (by decide)) rfl) rfl rfl hl.1 (Nat.le_of_ble_eq_true rfl) dX10_climbsOn_11 ⟨Nat.le_of_ble_eq_true rfl, Nat.le_of_ble_eq_true rfl⟩) (fun v11 u H locs hz9 hH hS => ?_)
    have hz9 : u = (T, O, X) := hz9
    subst hz9
    have hH : HT D cs A T O X H := hH
    refine W.widen (k := 0) (n := 0) (Nat.le_of_ble_eq_true rfl) (Nat.le_of_ble_eq_true rfl) ?_
    refine lv_i2l hx hb dX10_climbsOn_14 rfl ?_
    refine lv_lstore (lv' := [(5, .long v11.toInt64), (0, .ref a0), (1, .ref a1), (2, .int x2), (3, .int x3), (4, .int x4)]) hx hb dX10_climbsOn_15 hl (by decide) rfl (fun ls hl => ?_)
    refine lv_aload_n hx hb dX10_climbsOn_17 rfl (lv_at hl 2 rfl) ?_
    refine lv_iload_n hx hb dX10_climbsOn_18 rfl (lv_at hl 3 rfl) ?_
    refine lv_iload_n hx hb dX10_climbsOn_19 rfl (lv_at hl 4 rfl) ?_
    refine tk_i hH hS hA (tr_V (n := 2) (As := [.int x2, .int x3]) hx hb hml hown hts hkb hH hOX hks hE hS hA (s_Rows_stepped l D cs kf T O X a1 x2 x3 t_a1 (hO.sub (by decide))) kw_920 kw_863 kw_864 kw_8 kw_865 (by decide +kernel) ⟨Nat.le_of_ble_eq_true rfl, Nat.le_of_ble_eq_true rfl⟩ (HT.recv (ci := 5) hkb hH t_a1 (hO.no t_a1 (by decide)) rfl) rfl rfl hl.1 (Nat.le_of_ble_eq_true rfl) dX10_climbsOn_20 ⟨Nat.le_of_ble_eq_true rfl, Nat.le_of_ble_eq_true rfl⟩) (fun v20 u H locs hz9 hH hS => ?_)
    obtain ⟨rfl, l_v20, u_v20⟩ := hz9
    have hH : HT D cs A T O X H := hH
    refine W.widen (k := 0) (n := 0) (Nat.le_of_ble_eq_true rfl) (Nat.le_of_ble_eq_true rfl) ?_
    refine lv_istore (lv' := [(7, .int v20), (5, .long v11.toInt64), (0, .ref a0), (1, .ref a1), (2, .int x2), (3, .int x3), (4, .int x4)]) hx hb dX10_climbsOn_23 hl (by decide) rfl (fun ls hl => ?_)
    refine lv_iload hx hb dX10_climbsOn_25 (lv_at hl 6 rfl) ?_
    refine lv_iconst (v := 2) hx hb dX10_climbsOn_27 (by decide) ?_
    refine lv_icmp_gt (tgt := 53) hx hb dX10_climbsOn_28 (by decide) (fun c28 => ?_) (fun c28 => ?_)
    · skip
      have tc28 := f_gt (k := 2) (by decide) c28
      refine lv_iconst (v := 0) hx hb dX10_climbsOn_53 (by decide) ?_
      have J56 : ∀ (n : Nat) (p56_8 : Int32) (p56_5 : Int64) (H : Heap) (locs : List Loc) (ls : Array Slot), (14 - p56_8.toInt).toNat = n → (0 ≤ p56_8.toInt) → (p56_8.toInt ≤ 14) → HT D cs A T O X H → va_S A s.heap H locs → lv_has ls 9 [(8, .int p56_8), (7, .int v20), (5, .long p56_5), (0, .ref a0), (1, .ref a1), (3, .int x3), (4, .int x4)] → W p l e { frames := 6, cells := 0, slots := 0, locals := 157 } s m [.ref a0, .ref a1, .int x2, .int x3, .int x4].toArray below meth c H locs 0 0 (MQ below (Tl D cs (fun _ u => u = (T, O, X)) A) [.ref a0, .ref a1, .int x2, .int x3, .int x4].toArray s 0 0 A) (F0 m 56 ls []) := by
        intro n
        induction n using Nat.strongRecOn with
        | _ n ih56 =>
          intro p56_8 p56_5 H locs ls hm56 l_p56_8 u_p56_8 hH hS hl
          refine lv_iload hx hb dX10_climbsOn_56 (lv_at hl 0 rfl) ?_
          refine lv_bipush (v := 14) hx hb dX10_climbsOn_58 (by decide) ?_
          refine lv_icmp_ge (tgt := 103) hx hb dX10_climbsOn_60 (by decide) (fun c60 => ?_) (fun c60 => ?_)
          · skip
            have tc60 := f_ge (k := 14) (by decide) c60
            refine lv_lload hx hb dX10_climbsOn_103 (lv_at hl 2 rfl) ?_
            exact te_l hx hb hr hlocks hH hS rfl dX10_climbsOn_105
          · skip
            have tc60 := f_nge (k := 14) (by decide) c60
            refine lv_iload hx hb dX10_climbsOn_63 (lv_at hl 1 rfl) ?_
            refine lv_iload hx hb dX10_climbsOn_65 (lv_at hl 0 rfl) ?_
            refine lv_ishr hx hb dX10_climbsOn_67 ?_
            refine lv_topi (fun v67 ev67 => ?_)
            have tv67 : 0 ≤ v67.toInt ∧ v67.toInt ≤ v20.toInt := by rw [ev67]; exact shr_b (by omega)
            refine lv_iconst (v := 1) hx hb dX10_climbsOn_68 (by decide) ?_
            refine lv_iand hx hb dX10_climbsOn_69 ?_
            refine lv_topi (fun v69 ev69 => ?_)
            have tv69 : 0 ≤ v69.toInt ∧ v69.toInt ≤ 1 := by rw [ev69]; exact and_r (by decide)
            have J97 : ∀ (p97_5 : Int64) (H : Heap) (locs : List Loc) (ls : Array Slot), HT D cs A T O X H → va_S A s.heap H locs → lv_has ls 9 [(8, .int p56_8), (7, .int v20), (5, .long p97_5), (0, .ref a0), (1, .ref a1), (3, .int x3), (4, .int x4)] → W p l e { frames := 6, cells := 0, slots := 0, locals := 157 } s m [.ref a0, .ref a1, .int x2, .int x3, .int x4].toArray below meth c H locs 0 0 (MQ below (Tl D cs (fun _ u => u = (T, O, X)) A) [.ref a0, .ref a1, .int x2, .int x3, .int x4].toArray s 0 0 A) (F0 m 97 ls []) := by
              intro p97_5 H locs ls  hH hS hl
              obtain ⟨v97, ev97⟩ : ∃ y : Int32, y = p56_8 + 1 := ⟨_, rfl⟩
              have tv97 : v97.toInt = p56_8.toInt + (1) := by rw [ev97]; exact add_i rfl (by decide) (by omega) (by omega)
              refine lv_iinc (v := v97) (lv' := [(8, .int v97), (7, .int v20), (5, .long p97_5), (0, .ref a0), (1, .ref a1), (3, .int x3), (4, .int x4)]) hx hb dX10_climbsOn_97 hl (k := 0) rfl (by rw [ev97]; rfl) (by decide) rfl (fun ls hl => ?_)
              refine lv_goto (tgt := 56) hx hb dX10_climbsOn_100 (by decide) ?_
              exact ih56 _ (by omega) v97 p97_5 _ _ _ rfl (by omega) (by omega) hH hS (lv_sub hl [0, 1, 2, 3, 4, 5, 6] rfl)
            refine lv_if_eq (tgt := 97) hx hb dX10_climbsOn_70 (by decide) (fun c70 => ?_) (fun c70 => ?_)
            · skip
              have tc70 := f_eq (k := 0) (by decide) c70
              exact J97 p56_5 _ _ _  hH hS (lv_sub hl [0, 1, 2, 3, 4, 5, 6] rfl)
            · skip
              have tc70 := f_ne (k := 0) (by decide) c70
              refine lv_lload hx hb dX10_climbsOn_73 (lv_at hl 2 rfl) ?_
              refine lv_aload_n hx hb dX10_climbsOn_75 rfl (lv_at hl 3 rfl) ?_
              refine lv_aload_n hx hb dX10_climbsOn_76 rfl (lv_at hl 4 rfl) ?_
              refine lv_iload hx hb dX10_climbsOn_77 (lv_at hl 0 rfl) ?_
              refine lv_iload_n hx hb dX10_climbsOn_79 rfl (lv_at hl 5 rfl) ?_
              refine lv_iconst (v := 1) hx hb dX10_climbsOn_80 (by decide) ?_
              refine lv_iload hx hb dX10_climbsOn_81 (lv_at hl 0 rfl) ?_
              refine lv_ishl hx hb dX10_climbsOn_83 ?_
              refine lv_topi (fun v83 ev83 => ?_)
              have tv83 : 1 ≤ v83.toInt ∧ v83.toInt ≤ 8192 := by rw [ev83]; exact shl_b 13 (by decide) (by omega) (by omega)
              refine lv_iconst (v := (-1)) hx hb dX10_climbsOn_84 (by decide) ?_
              refine lv_ixor hx hb dX10_climbsOn_85 ?_
              refine lv_topi (fun v85 ev85 => ?_)
              refine lv_iand hx hb dX10_climbsOn_86 ?_
              refine lv_topi (fun v86 ev86 => ?_)
              refine lv_iload hx hb dX10_climbsOn_87 (lv_at hl 6 rfl) ?_
              refine lv_iconst (v := 1) hx hb dX10_climbsOn_89 (by decide) ?_
              refine lv_isub hx hb dX10_climbsOn_90 ?_
              refine lv_topi (fun v90 ev90 => ?_)
              have tv90 : v90.toInt = x4.toInt - (1) := by rw [ev90]; exact sub_i rfl (by decide : (1 : Int32).toInt = 1) (by omega) (by omega)
              refine tk_l hH hS hA (tr_V (n := 4) (As := [.ref a1, .int p56_8, .int v86, .int v90]) hx hb hml hown hts hkb hH hOX hks hE hS hA (s_Ways_climbsOn3 l D cs kf T O X a0 a1 p56_8 v86 v90 t_a0 t_a1 (by omega) (hO.sub (by decide))) kw_1002 kw_1004 ks_30 kw_9 kw_1005 (by decide +kernel) ⟨Nat.le_of_ble_eq_true rfl, Nat.le_of_ble_eq_true rfl⟩ (HT.recv (ci := 10) hkb hH t_a0 (hO.no t_a0 (by decide)) rfl) rfl rfl hl.1 (Nat.le_of_ble_eq_true rfl) dX10_climbsOn_91 ⟨Nat.le_of_ble_eq_true rfl, Nat.le_of_ble_eq_true rfl⟩) (fun v91 u H locs hz9 hH hS => ?_)
              have hz9 : u = (T, O, X) := hz9
              subst hz9
              have hH : HT D cs A T O X H := hH
              refine W.widen (k := 0) (n := 0) (Nat.le_of_ble_eq_true rfl) (Nat.le_of_ble_eq_true rfl) ?_
              refine lv_ladd hx hb dX10_climbsOn_94 ?_
              refine lv_topl (fun v94 ev94 => ?_)
              refine lv_lstore (lv' := [(5, .long v94), (8, .int p56_8), (7, .int v20), (0, .ref a0), (1, .ref a1), (3, .int x3), (4, .int x4)]) hx hb dX10_climbsOn_95 hl (by decide) rfl (fun ls hl => ?_)
              exact J97 v94 _ _ _  hH hS (lv_sub hl [1, 2, 0, 3, 4, 5, 6] rfl)
      refine lv_istore (lv' := [(8, .int 0), (7, .int v20), (5, .long v11.toInt64), (0, .ref a0), (1, .ref a1), (2, .int x2), (3, .int x3), (4, .int x4)]) hx hb dX10_climbsOn_54 hl (by decide) rfl (fun ls hl => ?_)
      exact J56 _ 0 v11.toInt64 _ _ _ rfl (by decide) (by decide) hH hS (lv_sub hl [0, 1, 2, 3, 4, 6, 7] rfl)
    · skip
      have tc28 := f_ngt (k := 2) (by decide) c28
      refine lv_iload hx hb dX10_climbsOn_31 (lv_at hl 6 rfl) ?_
      refine lv_iconst (v := 1) hx hb dX10_climbsOn_33 (by decide) ?_
      have J52 : ∀ (k52_0 : Int64) (H : Heap) (locs : List Loc) (ls : Array Slot), HT D cs A T O X H → va_S A s.heap H locs → lv_has ls 9 [] → W p l e { frames := 6, cells := 0, slots := 0, locals := 157 } s m [.ref a0, .ref a1, .int x2, .int x3, .int x4].toArray below meth c H locs 0 0 (MQ below (Tl D cs (fun _ u => u = (T, O, X)) A) [.ref a0, .ref a1, .int x2, .int x3, .int x4].toArray s 0 0 A) (F0 m 52 ls [.long k52_0]) := by
        intro k52_0 H locs ls  hH hS hl
        exact te_l hx hb hr hlocks hH hS rfl dX10_climbsOn_52
      refine lv_icmp_ne (tgt := 42) hx hb dX10_climbsOn_34 (by decide) (fun c34 => ?_) (fun c34 => ?_)
      · skip
        have tc34 := f_ne (k := 1) (by decide) c34
        refine lv_lload hx hb dX10_climbsOn_42 (lv_at hl 1 rfl) ?_
        refine lv_aload_n hx hb dX10_climbsOn_44 rfl (lv_at hl 2 rfl) ?_
        refine lv_iload hx hb dX10_climbsOn_45 (lv_at hl 0 rfl) ?_
        refine tk_i hH hS hA (tr_V (n := 1) (As := [.int v20]) hx hb hml hown hts hkb hH hOX hks hE hS hA (s_Ways_endingFrom l D cs kf T O X a0 v20 t_a0 (hO.sub (by decide))) kw_1006 kw_1008 ks_31 kw_9 kw_1009 (by decide +kernel) ⟨Nat.le_of_ble_eq_true rfl, Nat.le_of_ble_eq_true rfl⟩ (HT.recv (ci := 10) hkb hH t_a0 (hO.no t_a0 (by decide)) rfl) rfl rfl hl.1 (Nat.le_of_ble_eq_true rfl) dX10_climbsOn_47 ⟨Nat.le_of_ble_eq_true rfl, Nat.le_of_ble_eq_true rfl⟩) (fun v47 u H locs hz9 hH hS => ?_)
        have hz9 : u = (T, O, X) := hz9
        subst hz9
        have hH : HT D cs A T O X H := hH
        refine W.widen (k := 0) (n := 0) (Nat.le_of_ble_eq_true rfl) (Nat.le_of_ble_eq_true rfl) ?_
        refine lv_i2l hx hb dX10_climbsOn_50 rfl ?_
        refine lv_ladd hx hb dX10_climbsOn_51 ?_
        refine lv_topl (fun v51 ev51 => ?_)
        exact J52 v51 _ _ _  hH hS (lv_sub hl [] rfl)
      · skip
        have tc34 := f_eq (k := 1) (by decide) c34
        refine lv_lload hx hb dX10_climbsOn_37 (lv_at hl 1 rfl) ?_
        refine lv_goto (tgt := 52) hx hb dX10_climbsOn_39 (by decide) ?_
        exact J52 v11.toInt64 _ _ _  hH hS (lv_sub hl [] rfl)
  · skip
    have tc2 := f_ngt (k := 0) (by decide) c2
    refine lv_lconst (v := 0) hx hb dX10_climbsOn_5 (by decide) ?_
    exact te_l hx hb hr hlocks hH hS rfl dX10_climbsOn_6
set_option maxHeartbeats 4000000 in
set_option maxRecDepth 100000 in
theorem s_Ways_climbsOn5 (l : Launch) (D : va_G) (cs : CS) (kf : KF) (T : TF) (O : List Nat) (X : va_W) (a0 : Nat) (a1 : Nat) (x2 : Int32) (x3 : Int32) (x4 : Int32) (t_a0 : T a0 = some (20, 0, 0)) (t_a1 : T a1 = some (15, 0, 0)) (u_x4 : x4.toInt ≤ 5) (hO : okO T O [1, 12, 15, 19, 20]) : TK l D cs kf yX10_climbsOn cX10_climbsOn 9 (some (.long)) { frames := 7, cells := 0, slots := 0, locals := 185 } [.ref a0, .ref a1, .int x2, .int x3, .int x4] T O X (Tl D cs (fun _ u => u = (T, O, X))) := by
  refine tk_of (by decide) (Nat.le_of_ble_eq_true rfl) (fun p e s m below meth c ls A H locs hx hb hr hml hown hts hlocks hnm hkb hH hS hA hOX hks hE hl => ?_)
  have hown : s.vm.findClass RX10 = some m.cls := hown
  have hl : lv_has ls 9 [(0, .ref a0), (1, .ref a1), (2, .int x2), (3, .int x3), (4, .int x4)] := hl
  refine lv_iload hx hb dX10_climbsOn_0 (lv_at hl 4 rfl) ?_
  refine lv_if_gt (tgt := 7) hx hb dX10_climbsOn_2 (by decide) (fun c2 => ?_) (fun c2 => ?_)
  · skip
    have tc2 := f_gt (k := 0) (by decide) c2
    refine lv_aload_n hx hb dX10_climbsOn_7 rfl (lv_at hl 0 rfl) ?_
    refine lv_iconst (v := 1) hx hb dX10_climbsOn_8 (by decide) ?_
    refine lv_iload_n hx hb dX10_climbsOn_9 rfl (lv_at hl 2 rfl) ?_
    refine lv_ishl hx hb dX10_climbsOn_10 ?_
    refine lv_topi (fun v10 ev10 => ?_)
    refine tk_i hH hS hA (tr_V (n := 1) (As := [.int v10]) hx hb hml hown hts hkb hH hOX hks hE hS hA (s_Ways_endingFrom l D cs kf T O X a0 v10 t_a0 (hO.sub (by decide))) kw_1006 kw_1008 ks_31 kw_9 kw_1009 (by decide +kernel) ⟨Nat.le_of_ble_eq_true rfl, Nat.le_of_ble_eq_true rfl⟩ (HT.recv (ci := 10) hkb hH t_a0 (hO.no t_a0 (by decide)) rfl) rfl rfl hl.1 (Nat.le_of_ble_eq_true rfl) dX10_climbsOn_11 ⟨Nat.le_of_ble_eq_true rfl, Nat.le_of_ble_eq_true rfl⟩) (fun v11 u H locs hz9 hH hS => ?_)
    have hz9 : u = (T, O, X) := hz9
    subst hz9
    have hH : HT D cs A T O X H := hH
    refine W.widen (k := 0) (n := 0) (Nat.le_of_ble_eq_true rfl) (Nat.le_of_ble_eq_true rfl) ?_
    refine lv_i2l hx hb dX10_climbsOn_14 rfl ?_
    refine lv_lstore (lv' := [(5, .long v11.toInt64), (0, .ref a0), (1, .ref a1), (2, .int x2), (3, .int x3), (4, .int x4)]) hx hb dX10_climbsOn_15 hl (by decide) rfl (fun ls hl => ?_)
    refine lv_aload_n hx hb dX10_climbsOn_17 rfl (lv_at hl 2 rfl) ?_
    refine lv_iload_n hx hb dX10_climbsOn_18 rfl (lv_at hl 3 rfl) ?_
    refine lv_iload_n hx hb dX10_climbsOn_19 rfl (lv_at hl 4 rfl) ?_
    refine tk_i hH hS hA (tr_V (n := 2) (As := [.int x2, .int x3]) hx hb hml hown hts hkb hH hOX hks hE hS hA (s_Rows_stepped l D cs kf T O X a1 x2 x3 t_a1 (hO.sub (by decide))) kw_920 kw_863 kw_864 kw_8 kw_865 (by decide +kernel) ⟨Nat.le_of_ble_eq_true rfl, Nat.le_of_ble_eq_true rfl⟩ (HT.recv (ci := 5) hkb hH t_a1 (hO.no t_a1 (by decide)) rfl) rfl rfl hl.1 (Nat.le_of_ble_eq_true rfl) dX10_climbsOn_20 ⟨Nat.le_of_ble_eq_true rfl, Nat.le_of_ble_eq_true rfl⟩) (fun v20 u H locs hz9 hH hS => ?_)
    obtain ⟨rfl, l_v20, u_v20⟩ := hz9
    have hH : HT D cs A T O X H := hH
    refine W.widen (k := 0) (n := 0) (Nat.le_of_ble_eq_true rfl) (Nat.le_of_ble_eq_true rfl) ?_
    refine lv_istore (lv' := [(7, .int v20), (5, .long v11.toInt64), (0, .ref a0), (1, .ref a1), (2, .int x2), (3, .int x3), (4, .int x4)]) hx hb dX10_climbsOn_23 hl (by decide) rfl (fun ls hl => ?_)
    refine lv_iload hx hb dX10_climbsOn_25 (lv_at hl 6 rfl) ?_
    refine lv_iconst (v := 2) hx hb dX10_climbsOn_27 (by decide) ?_
    refine lv_icmp_gt (tgt := 53) hx hb dX10_climbsOn_28 (by decide) (fun c28 => ?_) (fun c28 => ?_)
    · skip
      have tc28 := f_gt (k := 2) (by decide) c28
      refine lv_iconst (v := 0) hx hb dX10_climbsOn_53 (by decide) ?_
      have J56 : ∀ (n : Nat) (p56_8 : Int32) (p56_5 : Int64) (H : Heap) (locs : List Loc) (ls : Array Slot), (14 - p56_8.toInt).toNat = n → (0 ≤ p56_8.toInt) → (p56_8.toInt ≤ 14) → HT D cs A T O X H → va_S A s.heap H locs → lv_has ls 9 [(8, .int p56_8), (7, .int v20), (5, .long p56_5), (0, .ref a0), (1, .ref a1), (3, .int x3), (4, .int x4)] → W p l e { frames := 7, cells := 0, slots := 0, locals := 185 } s m [.ref a0, .ref a1, .int x2, .int x3, .int x4].toArray below meth c H locs 0 0 (MQ below (Tl D cs (fun _ u => u = (T, O, X)) A) [.ref a0, .ref a1, .int x2, .int x3, .int x4].toArray s 0 0 A) (F0 m 56 ls []) := by
        intro n
        induction n using Nat.strongRecOn with
        | _ n ih56 =>
          intro p56_8 p56_5 H locs ls hm56 l_p56_8 u_p56_8 hH hS hl
          refine lv_iload hx hb dX10_climbsOn_56 (lv_at hl 0 rfl) ?_
          refine lv_bipush (v := 14) hx hb dX10_climbsOn_58 (by decide) ?_
          refine lv_icmp_ge (tgt := 103) hx hb dX10_climbsOn_60 (by decide) (fun c60 => ?_) (fun c60 => ?_)
          · skip
            have tc60 := f_ge (k := 14) (by decide) c60
            refine lv_lload hx hb dX10_climbsOn_103 (lv_at hl 2 rfl) ?_
            exact te_l hx hb hr hlocks hH hS rfl dX10_climbsOn_105
          · skip
            have tc60 := f_nge (k := 14) (by decide) c60
            refine lv_iload hx hb dX10_climbsOn_63 (lv_at hl 1 rfl) ?_
            refine lv_iload hx hb dX10_climbsOn_65 (lv_at hl 0 rfl) ?_
            refine lv_ishr hx hb dX10_climbsOn_67 ?_
            refine lv_topi (fun v67 ev67 => ?_)
            have tv67 : 0 ≤ v67.toInt ∧ v67.toInt ≤ v20.toInt := by rw [ev67]; exact shr_b (by omega)
            refine lv_iconst (v := 1) hx hb dX10_climbsOn_68 (by decide) ?_
            refine lv_iand hx hb dX10_climbsOn_69 ?_
            refine lv_topi (fun v69 ev69 => ?_)
            have tv69 : 0 ≤ v69.toInt ∧ v69.toInt ≤ 1 := by rw [ev69]; exact and_r (by decide)
            have J97 : ∀ (p97_5 : Int64) (H : Heap) (locs : List Loc) (ls : Array Slot), HT D cs A T O X H → va_S A s.heap H locs → lv_has ls 9 [(8, .int p56_8), (7, .int v20), (5, .long p97_5), (0, .ref a0), (1, .ref a1), (3, .int x3), (4, .int x4)] → W p l e { frames := 7, cells := 0, slots := 0, locals := 185 } s m [.ref a0, .ref a1, .int x2, .int x3, .int x4].toArray below meth c H locs 0 0 (MQ below (Tl D cs (fun _ u => u = (T, O, X)) A) [.ref a0, .ref a1, .int x2, .int x3, .int x4].toArray s 0 0 A) (F0 m 97 ls []) := by
              intro p97_5 H locs ls  hH hS hl
              obtain ⟨v97, ev97⟩ : ∃ y : Int32, y = p56_8 + 1 := ⟨_, rfl⟩
              have tv97 : v97.toInt = p56_8.toInt + (1) := by rw [ev97]; exact add_i rfl (by decide) (by omega) (by omega)
              refine lv_iinc (v := v97) (lv' := [(8, .int v97), (7, .int v20), (5, .long p97_5), (0, .ref a0), (1, .ref a1), (3, .int x3), (4, .int x4)]) hx hb dX10_climbsOn_97 hl (k := 0) rfl (by rw [ev97]; rfl) (by decide) rfl (fun ls hl => ?_)
              refine lv_goto (tgt := 56) hx hb dX10_climbsOn_100 (by decide) ?_
              exact ih56 _ (by omega) v97 p97_5 _ _ _ rfl (by omega) (by omega) hH hS (lv_sub hl [0, 1, 2, 3, 4, 5, 6] rfl)
            refine lv_if_eq (tgt := 97) hx hb dX10_climbsOn_70 (by decide) (fun c70 => ?_) (fun c70 => ?_)
            · skip
              have tc70 := f_eq (k := 0) (by decide) c70
              exact J97 p56_5 _ _ _  hH hS (lv_sub hl [0, 1, 2, 3, 4, 5, 6] rfl)
            · skip
              have tc70 := f_ne (k := 0) (by decide) c70
              refine lv_lload hx hb dX10_climbsOn_73 (lv_at hl 2 rfl) ?_
              refine lv_aload_n hx hb dX10_climbsOn_75 rfl (lv_at hl 3 rfl) ?_
              refine lv_aload_n hx hb dX10_climbsOn_76 rfl (lv_at hl 4 rfl) ?_
              refine lv_iload hx hb dX10_climbsOn_77 (lv_at hl 0 rfl) ?_
              refine lv_iload_n hx hb dX10_climbsOn_79 rfl (lv_at hl 5 rfl) ?_
              refine lv_iconst (v := 1) hx hb dX10_climbsOn_80 (by decide) ?_
              refine lv_iload hx hb dX10_climbsOn_81 (lv_at hl 0 rfl) ?_
              refine lv_ishl hx hb dX10_climbsOn_83 ?_
              refine lv_topi (fun v83 ev83 => ?_)
              have tv83 : 1 ≤ v83.toInt ∧ v83.toInt ≤ 8192 := by rw [ev83]; exact shl_b 13 (by decide) (by omega) (by omega)
              refine lv_iconst (v := (-1)) hx hb dX10_climbsOn_84 (by decide) ?_
              refine lv_ixor hx hb dX10_climbsOn_85 ?_
              refine lv_topi (fun v85 ev85 => ?_)
              refine lv_iand hx hb dX10_climbsOn_86 ?_
              refine lv_topi (fun v86 ev86 => ?_)
              refine lv_iload hx hb dX10_climbsOn_87 (lv_at hl 6 rfl) ?_
              refine lv_iconst (v := 1) hx hb dX10_climbsOn_89 (by decide) ?_
              refine lv_isub hx hb dX10_climbsOn_90 ?_
              refine lv_topi (fun v90 ev90 => ?_)
              have tv90 : v90.toInt = x4.toInt - (1) := by rw [ev90]; exact sub_i rfl (by decide : (1 : Int32).toInt = 1) (by omega) (by omega)
              refine tk_l hH hS hA (tr_V (n := 4) (As := [.ref a1, .int p56_8, .int v86, .int v90]) hx hb hml hown hts hkb hH hOX hks hE hS hA (s_Ways_climbsOn4 l D cs kf T O X a0 a1 p56_8 v86 v90 t_a0 t_a1 (by omega) (hO.sub (by decide))) kw_1002 kw_1004 ks_30 kw_9 kw_1005 (by decide +kernel) ⟨Nat.le_of_ble_eq_true rfl, Nat.le_of_ble_eq_true rfl⟩ (HT.recv (ci := 10) hkb hH t_a0 (hO.no t_a0 (by decide)) rfl) rfl rfl hl.1 (Nat.le_of_ble_eq_true rfl) dX10_climbsOn_91 ⟨Nat.le_of_ble_eq_true rfl, Nat.le_of_ble_eq_true rfl⟩) (fun v91 u H locs hz9 hH hS => ?_)
              have hz9 : u = (T, O, X) := hz9
              subst hz9
              have hH : HT D cs A T O X H := hH
              refine W.widen (k := 0) (n := 0) (Nat.le_of_ble_eq_true rfl) (Nat.le_of_ble_eq_true rfl) ?_
              refine lv_ladd hx hb dX10_climbsOn_94 ?_
              refine lv_topl (fun v94 ev94 => ?_)
              refine lv_lstore (lv' := [(5, .long v94), (8, .int p56_8), (7, .int v20), (0, .ref a0), (1, .ref a1), (3, .int x3), (4, .int x4)]) hx hb dX10_climbsOn_95 hl (by decide) rfl (fun ls hl => ?_)
              exact J97 v94 _ _ _  hH hS (lv_sub hl [1, 2, 0, 3, 4, 5, 6] rfl)
      refine lv_istore (lv' := [(8, .int 0), (7, .int v20), (5, .long v11.toInt64), (0, .ref a0), (1, .ref a1), (2, .int x2), (3, .int x3), (4, .int x4)]) hx hb dX10_climbsOn_54 hl (by decide) rfl (fun ls hl => ?_)
      exact J56 _ 0 v11.toInt64 _ _ _ rfl (by decide) (by decide) hH hS (lv_sub hl [0, 1, 2, 3, 4, 6, 7] rfl)
    · skip
      have tc28 := f_ngt (k := 2) (by decide) c28
      refine lv_iload hx hb dX10_climbsOn_31 (lv_at hl 6 rfl) ?_
      refine lv_iconst (v := 1) hx hb dX10_climbsOn_33 (by decide) ?_
      have J52 : ∀ (k52_0 : Int64) (H : Heap) (locs : List Loc) (ls : Array Slot), HT D cs A T O X H → va_S A s.heap H locs → lv_has ls 9 [] → W p l e { frames := 7, cells := 0, slots := 0, locals := 185 } s m [.ref a0, .ref a1, .int x2, .int x3, .int x4].toArray below meth c H locs 0 0 (MQ below (Tl D cs (fun _ u => u = (T, O, X)) A) [.ref a0, .ref a1, .int x2, .int x3, .int x4].toArray s 0 0 A) (F0 m 52 ls [.long k52_0]) := by
        intro k52_0 H locs ls  hH hS hl
        exact te_l hx hb hr hlocks hH hS rfl dX10_climbsOn_52
      refine lv_icmp_ne (tgt := 42) hx hb dX10_climbsOn_34 (by decide) (fun c34 => ?_) (fun c34 => ?_)
      · skip
        have tc34 := f_ne (k := 1) (by decide) c34
        refine lv_lload hx hb dX10_climbsOn_42 (lv_at hl 1 rfl) ?_
        refine lv_aload_n hx hb dX10_climbsOn_44 rfl (lv_at hl 2 rfl) ?_
        refine lv_iload hx hb dX10_climbsOn_45 (lv_at hl 0 rfl) ?_
        refine tk_i hH hS hA (tr_V (n := 1) (As := [.int v20]) hx hb hml hown hts hkb hH hOX hks hE hS hA (s_Ways_endingFrom l D cs kf T O X a0 v20 t_a0 (hO.sub (by decide))) kw_1006 kw_1008 ks_31 kw_9 kw_1009 (by decide +kernel) ⟨Nat.le_of_ble_eq_true rfl, Nat.le_of_ble_eq_true rfl⟩ (HT.recv (ci := 10) hkb hH t_a0 (hO.no t_a0 (by decide)) rfl) rfl rfl hl.1 (Nat.le_of_ble_eq_true rfl) dX10_climbsOn_47 ⟨Nat.le_of_ble_eq_true rfl, Nat.le_of_ble_eq_true rfl⟩) (fun v47 u H locs hz9 hH hS => ?_)
        have hz9 : u = (T, O, X) := hz9
        subst hz9
        have hH : HT D cs A T O X H := hH
        refine W.widen (k := 0) (n := 0) (Nat.le_of_ble_eq_true rfl) (Nat.le_of_ble_eq_true rfl) ?_
        refine lv_i2l hx hb dX10_climbsOn_50 rfl ?_
        refine lv_ladd hx hb dX10_climbsOn_51 ?_
        refine lv_topl (fun v51 ev51 => ?_)
        exact J52 v51 _ _ _  hH hS (lv_sub hl [] rfl)
      · skip
        have tc34 := f_eq (k := 1) (by decide) c34
        refine lv_lload hx hb dX10_climbsOn_37 (lv_at hl 1 rfl) ?_
        refine lv_goto (tgt := 52) hx hb dX10_climbsOn_39 (by decide) ?_
        exact J52 v11.toInt64 _ _ _  hH hS (lv_sub hl [] rfl)
  · skip
    have tc2 := f_ngt (k := 0) (by decide) c2
    refine lv_lconst (v := 0) hx hb dX10_climbsOn_5 (by decide) ?_
    exact te_l hx hb hr hlocks hH hS rfl dX10_climbsOn_6
set_option maxHeartbeats 4000000 in
set_option maxRecDepth 100000 in
theorem s_Ways_climbsOn6 (l : Launch) (D : va_G) (cs : CS) (kf : KF) (T : TF) (O : List Nat) (X : va_W) (a0 : Nat) (a1 : Nat) (x2 : Int32) (x3 : Int32) (x4 : Int32) (t_a0 : T a0 = some (20, 0, 0)) (t_a1 : T a1 = some (15, 0, 0)) (u_x4 : x4.toInt ≤ 6) (hO : okO T O [1, 12, 15, 19, 20]) : TK l D cs kf yX10_climbsOn cX10_climbsOn 9 (some (.long)) { frames := 8, cells := 0, slots := 0, locals := 213 } [.ref a0, .ref a1, .int x2, .int x3, .int x4] T O X (Tl D cs (fun _ u => u = (T, O, X))) := by
  refine tk_of (by decide) (Nat.le_of_ble_eq_true rfl) (fun p e s m below meth c ls A H locs hx hb hr hml hown hts hlocks hnm hkb hH hS hA hOX hks hE hl => ?_)
  have hown : s.vm.findClass RX10 = some m.cls := hown
  have hl : lv_has ls 9 [(0, .ref a0), (1, .ref a1), (2, .int x2), (3, .int x3), (4, .int x4)] := hl
  refine lv_iload hx hb dX10_climbsOn_0 (lv_at hl 4 rfl) ?_
  refine lv_if_gt (tgt := 7) hx hb dX10_climbsOn_2 (by decide) (fun c2 => ?_) (fun c2 => ?_)
  · skip
    have tc2 := f_gt (k := 0) (by decide) c2
    refine lv_aload_n hx hb dX10_climbsOn_7 rfl (lv_at hl 0 rfl) ?_
    refine lv_iconst (v := 1) hx hb dX10_climbsOn_8 (by decide) ?_
    refine lv_iload_n hx hb dX10_climbsOn_9 rfl (lv_at hl 2 rfl) ?_
    refine lv_ishl hx hb dX10_climbsOn_10 ?_
    refine lv_topi (fun v10 ev10 => ?_)
    refine tk_i hH hS hA (tr_V (n := 1) (As := [.int v10]) hx hb hml hown hts hkb hH hOX hks hE hS hA (s_Ways_endingFrom l D cs kf T O X a0 v10 t_a0 (hO.sub (by decide))) kw_1006 kw_1008 ks_31 kw_9 kw_1009 (by decide +kernel) ⟨Nat.le_of_ble_eq_true rfl, Nat.le_of_ble_eq_true rfl⟩ (HT.recv (ci := 10) hkb hH t_a0 (hO.no t_a0 (by decide)) rfl) rfl rfl hl.1 (Nat.le_of_ble_eq_true rfl) dX10_climbsOn_11 ⟨Nat.le_of_ble_eq_true rfl, Nat.le_of_ble_eq_true rfl⟩) (fun v11 u H locs hz9 hH hS => ?_)
    have hz9 : u = (T, O, X) := hz9
    subst hz9
    have hH : HT D cs A T O X H := hH
    refine W.widen (k := 0) (n := 0) (Nat.le_of_ble_eq_true rfl) (Nat.le_of_ble_eq_true rfl) ?_
    refine lv_i2l hx hb dX10_climbsOn_14 rfl ?_
    refine lv_lstore (lv' := [(5, .long v11.toInt64), (0, .ref a0), (1, .ref a1), (2, .int x2), (3, .int x3), (4, .int x4)]) hx hb dX10_climbsOn_15 hl (by decide) rfl (fun ls hl => ?_)
    refine lv_aload_n hx hb dX10_climbsOn_17 rfl (lv_at hl 2 rfl) ?_
    refine lv_iload_n hx hb dX10_climbsOn_18 rfl (lv_at hl 3 rfl) ?_
    refine lv_iload_n hx hb dX10_climbsOn_19 rfl (lv_at hl 4 rfl) ?_
    refine tk_i hH hS hA (tr_V (n := 2) (As := [.int x2, .int x3]) hx hb hml hown hts hkb hH hOX hks hE hS hA (s_Rows_stepped l D cs kf T O X a1 x2 x3 t_a1 (hO.sub (by decide))) kw_920 kw_863 kw_864 kw_8 kw_865 (by decide +kernel) ⟨Nat.le_of_ble_eq_true rfl, Nat.le_of_ble_eq_true rfl⟩ (HT.recv (ci := 5) hkb hH t_a1 (hO.no t_a1 (by decide)) rfl) rfl rfl hl.1 (Nat.le_of_ble_eq_true rfl) dX10_climbsOn_20 ⟨Nat.le_of_ble_eq_true rfl, Nat.le_of_ble_eq_true rfl⟩) (fun v20 u H locs hz9 hH hS => ?_)
    obtain ⟨rfl, l_v20, u_v20⟩ := hz9
    have hH : HT D cs A T O X H := hH
    refine W.widen (k := 0) (n := 0) (Nat.le_of_ble_eq_true rfl) (Nat.le_of_ble_eq_true rfl) ?_
    refine lv_istore (lv' := [(7, .int v20), (5, .long v11.toInt64), (0, .ref a0), (1, .ref a1), (2, .int x2), (3, .int x3), (4, .int x4)]) hx hb dX10_climbsOn_23 hl (by decide) rfl (fun ls hl => ?_)
    refine lv_iload hx hb dX10_climbsOn_25 (lv_at hl 6 rfl) ?_
    refine lv_iconst (v := 2) hx hb dX10_climbsOn_27 (by decide) ?_
    refine lv_icmp_gt (tgt := 53) hx hb dX10_climbsOn_28 (by decide) (fun c28 => ?_) (fun c28 => ?_)
    · skip
      have tc28 := f_gt (k := 2) (by decide) c28
      refine lv_iconst (v := 0) hx hb dX10_climbsOn_53 (by decide) ?_
      have J56 : ∀ (n : Nat) (p56_8 : Int32) (p56_5 : Int64) (H : Heap) (locs : List Loc) (ls : Array Slot), (14 - p56_8.toInt).toNat = n → (0 ≤ p56_8.toInt) → (p56_8.toInt ≤ 14) → HT D cs A T O X H → va_S A s.heap H locs → lv_has ls 9 [(8, .int p56_8), (7, .int v20), (5, .long p56_5), (0, .ref a0), (1, .ref a1), (3, .int x3), (4, .int x4)] → W p l e { frames := 8, cells := 0, slots := 0, locals := 213 } s m [.ref a0, .ref a1, .int x2, .int x3, .int x4].toArray below meth c H locs 0 0 (MQ below (Tl D cs (fun _ u => u = (T, O, X)) A) [.ref a0, .ref a1, .int x2, .int x3, .int x4].toArray s 0 0 A) (F0 m 56 ls []) := by
        intro n
        induction n using Nat.strongRecOn with
        | _ n ih56 =>
          intro p56_8 p56_5 H locs ls hm56 l_p56_8 u_p56_8 hH hS hl
          refine lv_iload hx hb dX10_climbsOn_56 (lv_at hl 0 rfl) ?_
          refine lv_bipush (v := 14) hx hb dX10_climbsOn_58 (by decide) ?_
          refine lv_icmp_ge (tgt := 103) hx hb dX10_climbsOn_60 (by decide) (fun c60 => ?_) (fun c60 => ?_)
          · skip
            have tc60 := f_ge (k := 14) (by decide) c60
            refine lv_lload hx hb dX10_climbsOn_103 (lv_at hl 2 rfl) ?_
            exact te_l hx hb hr hlocks hH hS rfl dX10_climbsOn_105
          · skip
            have tc60 := f_nge (k := 14) (by decide) c60
            refine lv_iload hx hb dX10_climbsOn_63 (lv_at hl 1 rfl) ?_
            refine lv_iload hx hb dX10_climbsOn_65 (lv_at hl 0 rfl) ?_
            refine lv_ishr hx hb dX10_climbsOn_67 ?_
            refine lv_topi (fun v67 ev67 => ?_)
            have tv67 : 0 ≤ v67.toInt ∧ v67.toInt ≤ v20.toInt := by rw [ev67]; exact shr_b (by omega)
            refine lv_iconst (v := 1) hx hb dX10_climbsOn_68 (by decide) ?_
            refine lv_iand hx hb dX10_climbsOn_69 ?_
            refine lv_topi (fun v69 ev69 => ?_)
            have tv69 : 0 ≤ v69.toInt ∧ v69.toInt ≤ 1 := by rw [ev69]; exact and_r (by decide)
            have J97 : ∀ (p97_5 : Int64) (H : Heap) (locs : List Loc) (ls : Array Slot), HT D cs A T O X H → va_S A s.heap H locs → lv_has ls 9 [(8, .int p56_8), (7, .int v20), (5, .long p97_5), (0, .ref a0), (1, .ref a1), (3, .int x3), (4, .int x4)] → W p l e { frames := 8, cells := 0, slots := 0, locals := 213 } s m [.ref a0, .ref a1, .int x2, .int x3, .int x4].toArray below meth c H locs 0 0 (MQ below (Tl D cs (fun _ u => u = (T, O, X)) A) [.ref a0, .ref a1, .int x2, .int x3, .int x4].toArray s 0 0 A) (F0 m 97 ls []) := by
              intro p97_5 H locs ls  hH hS hl
              obtain ⟨v97, ev97⟩ : ∃ y : Int32, y = p56_8 + 1 := ⟨_, rfl⟩
              have tv97 : v97.toInt = p56_8.toInt + (1) := by rw [ev97]; exact add_i rfl (by decide) (by omega) (by omega)
              refine lv_iinc (v := v97) (lv' := [(8, .int v97), (7, .int v20), (5, .long p97_5), (0, .ref a0), (1, .ref a1), (3, .int x3), (4, .int x4)]) hx hb dX10_climbsOn_97 hl (k := 0) rfl (by rw [ev97]; rfl) (by decide) rfl (fun ls hl => ?_)
              refine lv_goto (tgt := 56) hx hb dX10_climbsOn_100 (by decide) ?_
              exact ih56 _ (by omega) v97 p97_5 _ _ _ rfl (by omega) (by omega) hH hS (lv_sub hl [0, 1, 2, 3, 4, 5, 6] rfl)
            refine lv_if_eq (tgt := 97) hx hb dX10_climbsOn_70 (by decide) (fun c70 => ?_) (fun c70 => ?_)
            · skip
              have tc70 := f_eq (k := 0) (by decide) c70
              exact J97 p56_5 _ _ _  hH hS (lv_sub hl [0, 1, 2, 3, 4, 5, 6] rfl)
            · skip
              have tc70 := f_ne (k := 0) (by decide) c70
              refine lv_lload hx hb dX10_climbsOn_73 (lv_at hl 2 rfl) ?_
              refine lv_aload_n hx hb dX10_climbsOn_75 rfl (lv_at hl 3 rfl) ?_
              refine lv_aload_n hx hb dX10_climbsOn_76 rfl (lv_at hl 4 rfl) ?_
              refine lv_iload hx hb dX10_climbsOn_77 (lv_at hl 0 rfl) ?_
              refine lv_iload_n hx hb dX10_climbsOn_79 rfl (lv_at hl 5 rfl) ?_
              refine lv_iconst (v := 1) hx hb dX10_climbsOn_80 (by decide) ?_
              refine lv_iload hx hb dX10_climbsOn_81 (lv_at hl 0 rfl) ?_
              refine lv_ishl hx hb dX10_climbsOn_83 ?_
              refine lv_topi (fun v83 ev83 => ?_)
              have tv83 : 1 ≤ v83.toInt ∧ v83.toInt ≤ 8192 := by rw [ev83]; exact shl_b 13 (by decide) (by omega) (by omega)
              refine lv_iconst (v := (-1)) hx hb dX10_climbsOn_84 (by decide) ?_
              refine lv_ixor hx hb dX10_climbsOn_85 ?_
              refine lv_topi (fun v85 ev85 => ?_)
              refine lv_iand hx hb dX10_climbsOn_86 ?_
              refine lv_topi (fun v86 ev86 => ?_)
              refine lv_iload hx hb dX10_climbsOn_87 (lv_at hl 6 rfl) ?_
              refine lv_iconst (v := 1) hx hb dX10_climbsOn_89 (by decide) ?_
              refine lv_isub hx hb dX10_climbsOn_90 ?_
              refine lv_topi (fun v90 ev90 => ?_)
              have tv90 : v90.toInt = x4.toInt - (1) := by rw [ev90]; exact sub_i rfl (by decide : (1 : Int32).toInt = 1) (by omega) (by omega)
              refine tk_l hH hS hA (tr_V (n := 4) (As := [.ref a1, .int p56_8, .int v86, .int v90]) hx hb hml hown hts hkb hH hOX hks hE hS hA (s_Ways_climbsOn5 l D cs kf T O X a0 a1 p56_8 v86 v90 t_a0 t_a1 (by omega) (hO.sub (by decide))) kw_1002 kw_1004 ks_30 kw_9 kw_1005 (by decide +kernel) ⟨Nat.le_of_ble_eq_true rfl, Nat.le_of_ble_eq_true rfl⟩ (HT.recv (ci := 10) hkb hH t_a0 (hO.no t_a0 (by decide)) rfl) rfl rfl hl.1 (Nat.le_of_ble_eq_true rfl) dX10_climbsOn_91 ⟨Nat.le_of_ble_eq_true rfl, Nat.le_of_ble_eq_true rfl⟩) (fun v91 u H locs hz9 hH hS => ?_)
              have hz9 : u = (T, O, X) := hz9
              subst hz9
              have hH : HT D cs A T O X H := hH
              refine W.widen (k := 0) (n := 0) (Nat.le_of_ble_eq_true rfl) (Nat.le_of_ble_eq_true rfl) ?_
              refine lv_ladd hx hb dX10_climbsOn_94 ?_
              refine lv_topl (fun v94 ev94 => ?_)
              refine lv_lstore (lv' := [(5, .long v94), (8, .int p56_8), (7, .int v20), (0, .ref a0), (1, .ref a1), (3, .int x3), (4, .int x4)]) hx hb dX10_climbsOn_95 hl (by decide) rfl (fun ls hl => ?_)
              exact J97 v94 _ _ _  hH hS (lv_sub hl [1, 2, 0, 3, 4, 5, 6] rfl)
      refine lv_istore (lv' := [(8, .int 0), (7, .int v20), (5, .long v11.toInt64), (0, .ref a0), (1, .ref a1), (2, .int x2), (3, .int x3), (4, .int x4)]) hx hb dX10_climbsOn_54 hl (by decide) rfl (fun ls hl => ?_)
      exact J56 _ 0 v11.toInt64 _ _ _ rfl (by decide) (by decide) hH hS (lv_sub hl [0, 1, 2, 3, 4, 6, 7] rfl)
    · skip
      have tc28 := f_ngt (k := 2) (by decide) c28
      refine lv_iload hx hb dX10_climbsOn_31 (lv_at hl 6 rfl) ?_
      refine lv_iconst (v := 1) hx hb dX10_climbsOn_33 (by decide) ?_
      have J52 : ∀ (k52_0 : Int64) (H : Heap) (locs : List Loc) (ls : Array Slot), HT D cs A T O X H → va_S A s.heap H locs → lv_has ls 9 [] → W p l e { frames := 8, cells := 0, slots := 0, locals := 213 } s m [.ref a0, .ref a1, .int x2, .int x3, .int x4].toArray below meth c H locs 0 0 (MQ below (Tl D cs (fun _ u => u = (T, O, X)) A) [.ref a0, .ref a1, .int x2, .int x3, .int x4].toArray s 0 0 A) (F0 m 52 ls [.long k52_0]) := by
        intro k52_0 H locs ls  hH hS hl
        exact te_l hx hb hr hlocks hH hS rfl dX10_climbsOn_52
      refine lv_icmp_ne (tgt := 42) hx hb dX10_climbsOn_34 (by decide) (fun c34 => ?_) (fun c34 => ?_)
      · skip
        have tc34 := f_ne (k := 1) (by decide) c34
        refine lv_lload hx hb dX10_climbsOn_42 (lv_at hl 1 rfl) ?_
        refine lv_aload_n hx hb dX10_climbsOn_44 rfl (lv_at hl 2 rfl) ?_
        refine lv_iload hx hb dX10_climbsOn_45 (lv_at hl 0 rfl) ?_
        refine tk_i hH hS hA (tr_V (n := 1) (As := [.int v20]) hx hb hml hown hts hkb hH hOX hks hE hS hA (s_Ways_endingFrom l D cs kf T O X a0 v20 t_a0 (hO.sub (by decide))) kw_1006 kw_1008 ks_31 kw_9 kw_1009 (by decide +kernel) ⟨Nat.le_of_ble_eq_true rfl, Nat.le_of_ble_eq_true rfl⟩ (HT.recv (ci := 10) hkb hH t_a0 (hO.no t_a0 (by decide)) rfl) rfl rfl hl.1 (Nat.le_of_ble_eq_true rfl) dX10_climbsOn_47 ⟨Nat.le_of_ble_eq_true rfl, Nat.le_of_ble_eq_true rfl⟩) (fun v47 u H locs hz9 hH hS => ?_)
        have hz9 : u = (T, O, X) := hz9
        subst hz9
        have hH : HT D cs A T O X H := hH
        refine W.widen (k := 0) (n := 0) (Nat.le_of_ble_eq_true rfl) (Nat.le_of_ble_eq_true rfl) ?_
        refine lv_i2l hx hb dX10_climbsOn_50 rfl ?_
        refine lv_ladd hx hb dX10_climbsOn_51 ?_
        refine lv_topl (fun v51 ev51 => ?_)
        exact J52 v51 _ _ _  hH hS (lv_sub hl [] rfl)
      · skip
        have tc34 := f_eq (k := 1) (by decide) c34
        refine lv_lload hx hb dX10_climbsOn_37 (lv_at hl 1 rfl) ?_
        refine lv_goto (tgt := 52) hx hb dX10_climbsOn_39 (by decide) ?_
        exact J52 v11.toInt64 _ _ _  hH hS (lv_sub hl [] rfl)
  · skip
    have tc2 := f_ngt (k := 0) (by decide) c2
    refine lv_lconst (v := 0) hx hb dX10_climbsOn_5 (by decide) ?_
    exact te_l hx hb hr hlocks hH hS rfl dX10_climbsOn_6
theorem dX1_fewest_0 : decode cX1_fewest 0 = .ok (.iload_n 2, 1) := by decide +kernel
theorem dX1_fewest_1 : decode cX1_fewest 1 = .ok (.aload_n 1, 1) := by decide +kernel
theorem dX1_fewest_2 : decode cX1_fewest 2 = .ok (.getfield 34, 3) := by decide +kernel
theorem dX1_fewest_5 : decode cX1_fewest 5 = .ok (.getfield 40, 3) := by decide +kernel
theorem dX1_fewest_8 : decode cX1_fewest 8 = .ok (.iand, 1) := by decide +kernel
theorem dX1_fewest_9 : decode cX1_fewest 9 = .ok (.istore 4, 2) := by decide +kernel
theorem dX1_fewest_11 : decode cX1_fewest 11 = .ok (.iload_n 2, 1) := by decide +kernel
theorem dX1_fewest_12 : decode cX1_fewest 12 = .ok (.iload 4, 2) := by decide +kernel
theorem dX1_fewest_14 : decode cX1_fewest 14 = .ok (.iconst (-1), 1) := by decide +kernel
theorem dX1_fewest_15 : decode cX1_fewest 15 = .ok (.ixor, 1) := by decide +kernel
theorem dX1_fewest_16 : decode cX1_fewest 16 = .ok (.iand, 1) := by decide +kernel
theorem dX1_fewest_17 : decode cX1_fewest 17 = .ok (.iload_n 3, 1) := by decide +kernel
theorem dX1_fewest_18 : decode cX1_fewest 18 = .ok (.iconst (-1), 1) := by decide +kernel
theorem dX1_fewest_19 : decode cX1_fewest 19 = .ok (.ixor, 1) := by decide +kernel
theorem dX1_fewest_20 : decode cX1_fewest 20 = .ok (.iand, 1) := by decide +kernel
theorem dX1_fewest_21 : decode cX1_fewest 21 = .ok (.istore 5, 2) := by decide +kernel
theorem dX1_fewest_23 : decode cX1_fewest 23 = .ok (.aload_n 1, 1) := by decide +kernel
theorem dX1_fewest_24 : decode cX1_fewest 24 = .ok (.iload_n 2, 1) := by decide +kernel
theorem dX1_fewest_25 : decode cX1_fewest 25 = .ok (.aload_n 1, 1) := by decide +kernel
theorem dX1_fewest_26 : decode cX1_fewest 26 = .ok (.getfield 34, 3) := by decide +kernel
theorem dX1_fewest_29 : decode cX1_fewest 29 = .ok (.getfield 45, 3) := by decide +kernel
theorem dX1_fewest_32 : decode cX1_fewest 32 = .ok (.iand, 1) := by decide +kernel
theorem dX1_fewest_33 : decode cX1_fewest 33 = .ok (.iload 5, 2) := by decide +kernel
theorem dX1_fewest_35 : decode cX1_fewest 35 = .ok (.iload_n 2, 1) := by decide +kernel
theorem dX1_fewest_36 : decode cX1_fewest 36 = .ok (.iconst 0, 1) := by decide +kernel
theorem dX1_fewest_37 : decode cX1_fewest 37 = .ok (.invokevirtual 48, 3) := by decide +kernel
theorem dX1_fewest_40 : decode cX1_fewest 40 = .ok (.istore 6, 2) := by decide +kernel
theorem dX1_fewest_42 : decode cX1_fewest 42 = .ok (.iload 6, 2) := by decide +kernel
theorem dX1_fewest_44 : decode cX1_fewest 44 = .ok (.iload 4, 2) := by decide +kernel
theorem dX1_fewest_46 : decode cX1_fewest 46 = .ok (.iand, 1) := by decide +kernel
theorem dX1_fewest_47 : decode cX1_fewest 47 = .ok (.ifCond .eq 6, 3) := by decide +kernel
theorem dX1_fewest_50 : decode cX1_fewest 50 = .ok (.bipush 99, 2) := by decide +kernel
theorem dX1_fewest_52 : decode cX1_fewest 52 = .ok (.ireturn, 1) := by decide +kernel
theorem dX1_fewest_53 : decode cX1_fewest 53 = .ok (.iconst 0, 1) := by decide +kernel
theorem dX1_fewest_54 : decode cX1_fewest 54 = .ok (.istore 7, 2) := by decide +kernel
theorem dX1_fewest_56 : decode cX1_fewest 56 = .ok (.iload 7, 2) := by decide +kernel
theorem dX1_fewest_58 : decode cX1_fewest 58 = .ok (.bipush 14, 2) := by decide +kernel
theorem dX1_fewest_60 : decode cX1_fewest 60 = .ok (.if_icmp .ge 54, 3) := by decide +kernel
theorem dX1_fewest_63 : decode cX1_fewest 63 = .ok (.iload_n 2, 1) := by decide +kernel
theorem dX1_fewest_64 : decode cX1_fewest 64 = .ok (.iload_n 3, 1) := by decide +kernel
theorem dX1_fewest_65 : decode cX1_fewest 65 = .ok (.iand, 1) := by decide +kernel
theorem dX1_fewest_66 : decode cX1_fewest 66 = .ok (.iconst 1, 1) := by decide +kernel
theorem dX1_fewest_67 : decode cX1_fewest 67 = .ok (.iload 7, 2) := by decide +kernel
theorem dX1_fewest_69 : decode cX1_fewest 69 = .ok (.ishl, 1) := by decide +kernel
theorem dX1_fewest_70 : decode cX1_fewest 70 = .ok (.iand, 1) := by decide +kernel
theorem dX1_fewest_71 : decode cX1_fewest 71 = .ok (.ifCond .eq 37, 3) := by decide +kernel
theorem dX1_fewest_74 : decode cX1_fewest 74 = .ok (.aload_n 0, 1) := by decide +kernel
theorem dX1_fewest_75 : decode cX1_fewest 75 = .ok (.getfield 9, 3) := by decide +kernel
theorem dX1_fewest_78 : decode cX1_fewest 78 = .ok (.iload 7, 2) := by decide +kernel
theorem dX1_fewest_80 : decode cX1_fewest 80 = .ok (.aload_n 1, 1) := by decide +kernel
theorem dX1_fewest_81 : decode cX1_fewest 81 = .ok (.aload_n 1, 1) := by decide +kernel
theorem dX1_fewest_82 : decode cX1_fewest 82 = .ok (.iload 7, 2) := by decide +kernel
theorem dX1_fewest_84 : decode cX1_fewest 84 = .ok (.iload_n 2, 1) := by decide +kernel
theorem dX1_fewest_85 : decode cX1_fewest 85 = .ok (.invokevirtual 52, 3) := by decide +kernel
theorem dX1_fewest_88 : decode cX1_fewest 88 = .ok (.iload 5, 2) := by decide +kernel
theorem dX1_fewest_90 : decode cX1_fewest 90 = .ok (.iload_n 2, 1) := by decide +kernel
theorem dX1_fewest_91 : decode cX1_fewest 91 = .ok (.iconst 0, 1) := by decide +kernel
theorem dX1_fewest_92 : decode cX1_fewest 92 = .ok (.invokevirtual 48, 3) := by decide +kernel
theorem dX1_fewest_95 : decode cX1_fewest 95 = .ok (.iload_n 3, 1) := by decide +kernel
theorem dX1_fewest_96 : decode cX1_fewest 96 = .ok (.iload 4, 2) := by decide +kernel
theorem dX1_fewest_98 : decode cX1_fewest 98 = .ok (.ior, 1) := by decide +kernel
theorem dX1_fewest_99 : decode cX1_fewest 99 = .ok (.iand, 1) := by decide +kernel
theorem dX1_fewest_100 : decode cX1_fewest 100 = .ok (.iconst 1, 1) := by decide +kernel
theorem dX1_fewest_101 : decode cX1_fewest 101 = .ok (.iload 7, 2) := by decide +kernel
theorem dX1_fewest_103 : decode cX1_fewest 103 = .ok (.ishl, 1) := by decide +kernel
theorem dX1_fewest_104 : decode cX1_fewest 104 = .ok (.iconst (-1), 1) := by decide +kernel
theorem dX1_fewest_105 : decode cX1_fewest 105 = .ok (.ixor, 1) := by decide +kernel
theorem dX1_fewest_106 : decode cX1_fewest 106 = .ok (.iand, 1) := by decide +kernel
theorem dX1_fewest_107 : decode cX1_fewest 107 = .ok (.iastore, 1) := by decide +kernel
theorem dX1_fewest_108 : decode cX1_fewest 108 = .ok (.iinc 7 1, 3) := by decide +kernel
theorem dX1_fewest_111 : decode cX1_fewest 111 = .ok (.goto (-55), 3) := by decide +kernel
theorem dX1_fewest_114 : decode cX1_fewest 114 = .ok (.aload_n 0, 1) := by decide +kernel
theorem dX1_fewest_115 : decode cX1_fewest 115 = .ok (.iconst 0, 1) := by decide +kernel
theorem dX1_fewest_116 : decode cX1_fewest 116 = .ok (.putfield 18, 3) := by decide +kernel
theorem dX1_fewest_119 : decode cX1_fewest 119 = .ok (.iconst 0, 1) := by decide +kernel
theorem dX1_fewest_120 : decode cX1_fewest 120 = .ok (.istore 7, 2) := by decide +kernel
theorem dX1_fewest_122 : decode cX1_fewest 122 = .ok (.iload 7, 2) := by decide +kernel
theorem dX1_fewest_124 : decode cX1_fewest 124 = .ok (.bipush 14, 2) := by decide +kernel
theorem dX1_fewest_126 : decode cX1_fewest 126 = .ok (.if_icmp .ge 22, 3) := by decide +kernel
theorem dX1_fewest_129 : decode cX1_fewest 129 = .ok (.aload_n 0, 1) := by decide +kernel
theorem dX1_fewest_130 : decode cX1_fewest 130 = .ok (.iload 6, 2) := by decide +kernel
theorem dX1_fewest_132 : decode cX1_fewest 132 = .ok (.iload_n 3, 1) := by decide +kernel
theorem dX1_fewest_133 : decode cX1_fewest 133 = .ok (.iand, 1) := by decide +kernel
theorem dX1_fewest_134 : decode cX1_fewest 134 = .ok (.iload 4, 2) := by decide +kernel
theorem dX1_fewest_136 : decode cX1_fewest 136 = .ok (.invokevirtual 56, 3) := by decide +kernel
theorem dX1_fewest_139 : decode cX1_fewest 139 = .ok (.ifCond .eq 9, 3) := by decide +kernel
theorem dX1_fewest_142 : decode cX1_fewest 142 = .ok (.iinc 7 1, 3) := by decide +kernel
theorem dX1_fewest_145 : decode cX1_fewest 145 = .ok (.goto (-23), 3) := by decide +kernel
theorem dX1_fewest_148 : decode cX1_fewest 148 = .ok (.iload 7, 2) := by decide +kernel
theorem dX1_fewest_150 : decode cX1_fewest 150 = .ok (.ireturn, 1) := by decide +kernel
theorem dX1_lay_0 : decode cX1_lay 0 = .ok (.iload_n 1, 1) := by decide +kernel
theorem dX1_lay_1 : decode cX1_lay 1 = .ok (.istore_n 2, 1) := by decide +kernel
theorem dX1_lay_2 : decode cX1_lay 2 = .ok (.iconst 0, 1) := by decide +kernel
theorem dX1_lay_3 : decode cX1_lay 3 = .ok (.istore_n 3, 1) := by decide +kernel
theorem dX1_lay_4 : decode cX1_lay 4 = .ok (.iload_n 3, 1) := by decide +kernel
theorem dX1_lay_5 : decode cX1_lay 5 = .ok (.bipush 28, 2) := by decide +kernel
theorem dX1_lay_7 : decode cX1_lay 7 = .ok (.if_icmp .ge 110, 3) := by decide +kernel
theorem dX1_lay_10 : decode cX1_lay 10 = .ok (.iload_n 2, 1) := by decide +kernel
theorem dX1_lay_11 : decode cX1_lay 11 = .ok (.iconst (-1), 1) := by decide +kernel
theorem dX1_lay_12 : decode cX1_lay 12 = .ok (.if_icmp .eq 105, 3) := by decide +kernel
theorem dX1_lay_15 : decode cX1_lay 15 = .ok (.aload_n 0, 1) := by decide +kernel
theorem dX1_lay_16 : decode cX1_lay 16 = .ok (.getfield 31, 3) := by decide +kernel
theorem dX1_lay_19 : decode cX1_lay 19 = .ok (.iload_n 2, 1) := by decide +kernel
theorem dX1_lay_20 : decode cX1_lay 20 = .ok (.iaload, 1) := by decide +kernel
theorem dX1_lay_21 : decode cX1_lay 21 = .ok (.istore 4, 2) := by decide +kernel
theorem dX1_lay_23 : decode cX1_lay 23 = .ok (.iload_n 2, 1) := by decide +kernel
theorem dX1_lay_24 : decode cX1_lay 24 = .ok (.bipush 14, 2) := by decide +kernel
theorem dX1_lay_26 : decode cX1_lay 26 = .ok (.irem, 1) := by decide +kernel
theorem dX1_lay_27 : decode cX1_lay 27 = .ok (.istore 5, 2) := by decide +kernel
theorem dX1_lay_29 : decode cX1_lay 29 = .ok (.iload_n 2, 1) := by decide +kernel
theorem dX1_lay_30 : decode cX1_lay 30 = .ok (.bipush 14, 2) := by decide +kernel
theorem dX1_lay_32 : decode cX1_lay 32 = .ok (.if_icmp .lt 26, 3) := by decide +kernel
theorem dX1_lay_35 : decode cX1_lay 35 = .ok (.iload 4, 2) := by decide +kernel
theorem dX1_lay_37 : decode cX1_lay 37 = .ok (.iload 5, 2) := by decide +kernel
theorem dX1_lay_39 : decode cX1_lay 39 = .ok (.if_icmp .ne 69, 3) := by decide +kernel
theorem dX1_lay_42 : decode cX1_lay 42 = .ok (.aload_n 0, 1) := by decide +kernel
theorem dX1_lay_43 : decode cX1_lay 43 = .ok (.dup, 1) := by decide +kernel
theorem dX1_lay_44 : decode cX1_lay 44 = .ok (.getfield 18, 3) := by decide +kernel
theorem dX1_lay_47 : decode cX1_lay 47 = .ok (.iconst 1, 1) := by decide +kernel
theorem dX1_lay_48 : decode cX1_lay 48 = .ok (.iload 5, 2) := by decide +kernel
theorem dX1_lay_50 : decode cX1_lay 50 = .ok (.ishl, 1) := by decide +kernel
theorem dX1_lay_51 : decode cX1_lay 51 = .ok (.ior, 1) := by decide +kernel
theorem dX1_lay_52 : decode cX1_lay 52 = .ok (.putfield 18, 3) := by decide +kernel
theorem dX1_lay_55 : decode cX1_lay 55 = .ok (.goto 53, 3) := by decide +kernel
theorem dX1_lay_58 : decode cX1_lay 58 = .ok (.iload 4, 2) := by decide +kernel
theorem dX1_lay_60 : decode cX1_lay 60 = .ok (.bipush 14, 2) := by decide +kernel
theorem dX1_lay_62 : decode cX1_lay 62 = .ok (.iload 5, 2) := by decide +kernel
theorem dX1_lay_64 : decode cX1_lay 64 = .ok (.iadd, 1) := by decide +kernel
theorem dX1_lay_65 : decode cX1_lay 65 = .ok (.if_icmp .ne 21, 3) := by decide +kernel
theorem dX1_lay_68 : decode cX1_lay 68 = .ok (.aload_n 0, 1) := by decide +kernel
theorem dX1_lay_69 : decode cX1_lay 69 = .ok (.dup, 1) := by decide +kernel
theorem dX1_lay_70 : decode cX1_lay 70 = .ok (.getfield 18, 3) := by decide +kernel
theorem dX1_lay_73 : decode cX1_lay 73 = .ok (.iconst 1, 1) := by decide +kernel
theorem dX1_lay_74 : decode cX1_lay 74 = .ok (.iload 5, 2) := by decide +kernel
theorem dX1_lay_76 : decode cX1_lay 76 = .ok (.ishl, 1) := by decide +kernel
theorem dX1_lay_77 : decode cX1_lay 77 = .ok (.iconst (-1), 1) := by decide +kernel
theorem dX1_lay_78 : decode cX1_lay 78 = .ok (.ixor, 1) := by decide +kernel
theorem dX1_lay_79 : decode cX1_lay 79 = .ok (.iand, 1) := by decide +kernel
theorem dX1_lay_80 : decode cX1_lay 80 = .ok (.putfield 18, 3) := by decide +kernel
theorem dX1_lay_83 : decode cX1_lay 83 = .ok (.goto 25, 3) := by decide +kernel
theorem dX1_lay_86 : decode cX1_lay 86 = .ok (.aload_n 0, 1) := by decide +kernel
theorem dX1_lay_87 : decode cX1_lay 87 = .ok (.getfield 15, 3) := by decide +kernel
theorem dX1_lay_90 : decode cX1_lay 90 = .ok (.iload 5, 2) := by decide +kernel
theorem dX1_lay_92 : decode cX1_lay 92 = .ok (.iload 4, 2) := by decide +kernel
theorem dX1_lay_94 : decode cX1_lay 94 = .ok (.iconst (-1), 1) := by decide +kernel
theorem dX1_lay_95 : decode cX1_lay 95 = .ok (.if_icmp .ne 7, 3) := by decide +kernel
theorem dX1_lay_98 : decode cX1_lay 98 = .ok (.iconst (-1), 1) := by decide +kernel
theorem dX1_lay_99 : decode cX1_lay 99 = .ok (.goto 8, 3) := by decide +kernel
theorem dX1_lay_102 : decode cX1_lay 102 = .ok (.iload 4, 2) := by decide +kernel
theorem dX1_lay_104 : decode cX1_lay 104 = .ok (.bipush 14, 2) := by decide +kernel
theorem dX1_lay_106 : decode cX1_lay 106 = .ok (.isub, 1) := by decide +kernel
theorem dX1_lay_107 : decode cX1_lay 107 = .ok (.iastore, 1) := by decide +kernel
theorem dX1_lay_108 : decode cX1_lay 108 = .ok (.iload 4, 2) := by decide +kernel
theorem dX1_lay_110 : decode cX1_lay 110 = .ok (.istore_n 2, 1) := by decide +kernel
theorem dX1_lay_111 : decode cX1_lay 111 = .ok (.iinc 3 1, 3) := by decide +kernel
theorem dX1_lay_114 : decode cX1_lay 114 = .ok (.goto (-110), 3) := by decide +kernel
theorem dX1_lay_117 : decode cX1_lay 117 = .ok (.return_, 1) := by decide +kernel
theorem dX1_layOneMore_0 : decode cX1_layOneMore 0 = .ok (.aload_n 0, 1) := by decide +kernel
theorem dX1_layOneMore_1 : decode cX1_layOneMore 1 = .ok (.iconst 0, 1) := by decide +kernel
theorem dX1_layOneMore_2 : decode cX1_layOneMore 2 = .ok (.putfield 25, 3) := by decide +kernel
theorem dX1_layOneMore_5 : decode cX1_layOneMore 5 = .ok (.aload_n 0, 1) := by decide +kernel
theorem dX1_layOneMore_6 : decode cX1_layOneMore 6 = .ok (.iconst 0, 1) := by decide +kernel
theorem dX1_layOneMore_7 : decode cX1_layOneMore 7 = .ok (.putfield 28, 3) := by decide +kernel
theorem dX1_layOneMore_10 : decode cX1_layOneMore 10 = .ok (.iconst 0, 1) := by decide +kernel
theorem dX1_layOneMore_11 : decode cX1_layOneMore 11 = .ok (.istore_n 3, 1) := by decide +kernel
theorem dX1_layOneMore_12 : decode cX1_layOneMore 12 = .ok (.iload_n 3, 1) := by decide +kernel
theorem dX1_layOneMore_13 : decode cX1_layOneMore 13 = .ok (.bipush 14, 2) := by decide +kernel
theorem dX1_layOneMore_15 : decode cX1_layOneMore 15 = .ok (.if_icmp .ge 23, 3) := by decide +kernel
theorem dX1_layOneMore_18 : decode cX1_layOneMore 18 = .ok (.iload_n 1, 1) := by decide +kernel
theorem dX1_layOneMore_19 : decode cX1_layOneMore 19 = .ok (.iload_n 3, 1) := by decide +kernel
theorem dX1_layOneMore_20 : decode cX1_layOneMore 20 = .ok (.ishr, 1) := by decide +kernel
theorem dX1_layOneMore_21 : decode cX1_layOneMore 21 = .ok (.iconst 1, 1) := by decide +kernel
theorem dX1_layOneMore_22 : decode cX1_layOneMore 22 = .ok (.iand, 1) := by decide +kernel
theorem dX1_layOneMore_23 : decode cX1_layOneMore 23 = .ok (.ifCond .eq 9, 3) := by decide +kernel
theorem dX1_layOneMore_26 : decode cX1_layOneMore 26 = .ok (.aload_n 0, 1) := by decide +kernel
theorem dX1_layOneMore_27 : decode cX1_layOneMore 27 = .ok (.iload_n 3, 1) := by decide +kernel
theorem dX1_layOneMore_28 : decode cX1_layOneMore 28 = .ok (.iconst (-1), 1) := by decide +kernel
theorem dX1_layOneMore_29 : decode cX1_layOneMore 29 = .ok (.invokevirtual 74, 3) := by decide +kernel
theorem dX1_layOneMore_32 : decode cX1_layOneMore 32 = .ok (.iinc 3 1, 3) := by decide +kernel
theorem dX1_layOneMore_35 : decode cX1_layOneMore 35 = .ok (.goto (-23), 3) := by decide +kernel
theorem dX1_layOneMore_38 : decode cX1_layOneMore 38 = .ok (.iconst 0, 1) := by decide +kernel
theorem dX1_layOneMore_39 : decode cX1_layOneMore 39 = .ok (.istore_n 3, 1) := by decide +kernel
theorem dX1_layOneMore_40 : decode cX1_layOneMore 40 = .ok (.iload_n 3, 1) := by decide +kernel
theorem dX1_layOneMore_41 : decode cX1_layOneMore 41 = .ok (.bipush 28, 2) := by decide +kernel
theorem dX1_layOneMore_43 : decode cX1_layOneMore 43 = .ok (.if_icmp .ge 135, 3) := by decide +kernel
theorem dX1_layOneMore_46 : decode cX1_layOneMore 46 = .ok (.iload_n 3, 1) := by decide +kernel
theorem dX1_layOneMore_47 : decode cX1_layOneMore 47 = .ok (.aload_n 0, 1) := by decide +kernel
theorem dX1_layOneMore_48 : decode cX1_layOneMore 48 = .ok (.getfield 25, 3) := by decide +kernel
theorem dX1_layOneMore_51 : decode cX1_layOneMore 51 = .ok (.if_icmp .ge 127, 3) := by decide +kernel
theorem dX1_layOneMore_54 : decode cX1_layOneMore 54 = .ok (.aload_n 0, 1) := by decide +kernel
theorem dX1_layOneMore_55 : decode cX1_layOneMore 55 = .ok (.getfield 22, 3) := by decide +kernel
theorem dX1_layOneMore_58 : decode cX1_layOneMore 58 = .ok (.iload_n 3, 1) := by decide +kernel
theorem dX1_layOneMore_59 : decode cX1_layOneMore 59 = .ok (.iaload, 1) := by decide +kernel
theorem dX1_layOneMore_60 : decode cX1_layOneMore 60 = .ok (.istore 4, 2) := by decide +kernel
theorem dX1_layOneMore_62 : decode cX1_layOneMore 62 = .ok (.iload 4, 2) := by decide +kernel
theorem dX1_layOneMore_64 : decode cX1_layOneMore 64 = .ok (.bipush 14, 2) := by decide +kernel
theorem dX1_layOneMore_66 : decode cX1_layOneMore 66 = .ok (.irem, 1) := by decide +kernel
theorem dX1_layOneMore_67 : decode cX1_layOneMore 67 = .ok (.istore 5, 2) := by decide +kernel
theorem dX1_layOneMore_69 : decode cX1_layOneMore 69 = .ok (.aload_n 0, 1) := by decide +kernel
theorem dX1_layOneMore_70 : decode cX1_layOneMore 70 = .ok (.getfield 18, 3) := by decide +kernel
theorem dX1_layOneMore_73 : decode cX1_layOneMore 73 = .ok (.iload 5, 2) := by decide +kernel
theorem dX1_layOneMore_75 : decode cX1_layOneMore 75 = .ok (.ishr, 1) := by decide +kernel
theorem dX1_layOneMore_76 : decode cX1_layOneMore 76 = .ok (.iconst 1, 1) := by decide +kernel
theorem dX1_layOneMore_77 : decode cX1_layOneMore 77 = .ok (.iand, 1) := by decide +kernel
theorem dX1_layOneMore_78 : decode cX1_layOneMore 78 = .ok (.ifCond .eq 7, 3) := by decide +kernel
theorem dX1_layOneMore_81 : decode cX1_layOneMore 81 = .ok (.iconst 1, 1) := by decide +kernel
theorem dX1_layOneMore_82 : decode cX1_layOneMore 82 = .ok (.goto 4, 3) := by decide +kernel
theorem dX1_layOneMore_85 : decode cX1_layOneMore 85 = .ok (.iconst 0, 1) := by decide +kernel
theorem dX1_layOneMore_86 : decode cX1_layOneMore 86 = .ok (.istore 6, 2) := by decide +kernel
theorem dX1_layOneMore_88 : decode cX1_layOneMore 88 = .ok (.iload 4, 2) := by decide +kernel
theorem dX1_layOneMore_90 : decode cX1_layOneMore 90 = .ok (.bipush 14, 2) := by decide +kernel
theorem dX1_layOneMore_92 : decode cX1_layOneMore 92 = .ok (.if_icmp .ge 29, 3) := by decide +kernel
theorem dX1_layOneMore_95 : decode cX1_layOneMore 95 = .ok (.aload_n 0, 1) := by decide +kernel
theorem dX1_layOneMore_96 : decode cX1_layOneMore 96 = .ok (.iload 4, 2) := by decide +kernel
theorem dX1_layOneMore_98 : decode cX1_layOneMore 98 = .ok (.iload 6, 2) := by decide +kernel
theorem dX1_layOneMore_100 : decode cX1_layOneMore 100 = .ok (.ifCond .eq 13, 3) := by decide +kernel
theorem dX1_layOneMore_103 : decode cX1_layOneMore 103 = .ok (.aload_n 0, 1) := by decide +kernel
theorem dX1_layOneMore_104 : decode cX1_layOneMore 104 = .ok (.getfield 15, 3) := by decide +kernel
theorem dX1_layOneMore_107 : decode cX1_layOneMore 107 = .ok (.iload 5, 2) := by decide +kernel
theorem dX1_layOneMore_109 : decode cX1_layOneMore 109 = .ok (.iaload, 1) := by decide +kernel
theorem dX1_layOneMore_110 : decode cX1_layOneMore 110 = .ok (.goto 5, 3) := by decide +kernel
theorem dX1_layOneMore_113 : decode cX1_layOneMore 113 = .ok (.iload 5, 2) := by decide +kernel
theorem dX1_layOneMore_115 : decode cX1_layOneMore 115 = .ok (.invokevirtual 78, 3) := by decide +kernel
theorem dX1_layOneMore_118 : decode cX1_layOneMore 118 = .ok (.goto 54, 3) := by decide +kernel
theorem dX1_layOneMore_121 : decode cX1_layOneMore 121 = .ok (.aload_n 0, 1) := by decide +kernel
theorem dX1_layOneMore_122 : decode cX1_layOneMore 122 = .ok (.getfield 9, 3) := by decide +kernel
theorem dX1_layOneMore_125 : decode cX1_layOneMore 125 = .ok (.iload 5, 2) := by decide +kernel
theorem dX1_layOneMore_127 : decode cX1_layOneMore 127 = .ok (.iaload, 1) := by decide +kernel
theorem dX1_layOneMore_128 : decode cX1_layOneMore 128 = .ok (.iload_n 2, 1) := by decide +kernel
theorem dX1_layOneMore_129 : decode cX1_layOneMore 129 = .ok (.iand, 1) := by decide +kernel
theorem dX1_layOneMore_130 : decode cX1_layOneMore 130 = .ok (.ifCond .eq 11, 3) := by decide +kernel
theorem dX1_layOneMore_133 : decode cX1_layOneMore 133 = .ok (.aload_n 0, 1) := by decide +kernel
theorem dX1_layOneMore_134 : decode cX1_layOneMore 134 = .ok (.iload 4, 2) := by decide +kernel
theorem dX1_layOneMore_136 : decode cX1_layOneMore 136 = .ok (.invokevirtual 81, 3) := by decide +kernel
theorem dX1_layOneMore_139 : decode cX1_layOneMore 139 = .ok (.iconst 1, 1) := by decide +kernel
theorem dX1_layOneMore_140 : decode cX1_layOneMore 140 = .ok (.ireturn, 1) := by decide +kernel
theorem dX1_layOneMore_141 : decode cX1_layOneMore 141 = .ok (.aload_n 0, 1) := by decide +kernel
theorem dX1_layOneMore_142 : decode cX1_layOneMore 142 = .ok (.iload 4, 2) := by decide +kernel
theorem dX1_layOneMore_144 : decode cX1_layOneMore 144 = .ok (.aload_n 0, 1) := by decide +kernel
theorem dX1_layOneMore_145 : decode cX1_layOneMore 145 = .ok (.getfield 9, 3) := by decide +kernel
theorem dX1_layOneMore_148 : decode cX1_layOneMore 148 = .ok (.iload 5, 2) := by decide +kernel
theorem dX1_layOneMore_150 : decode cX1_layOneMore 150 = .ok (.iaload, 1) := by decide +kernel
theorem dX1_layOneMore_151 : decode cX1_layOneMore 151 = .ok (.iload_n 2, 1) := by decide +kernel
theorem dX1_layOneMore_152 : decode cX1_layOneMore 152 = .ok (.iconst (-1), 1) := by decide +kernel
theorem dX1_layOneMore_153 : decode cX1_layOneMore 153 = .ok (.ixor, 1) := by decide +kernel
theorem dX1_layOneMore_154 : decode cX1_layOneMore 154 = .ok (.iand, 1) := by decide +kernel
theorem dX1_layOneMore_155 : decode cX1_layOneMore 155 = .ok (.iload 6, 2) := by decide +kernel
theorem dX1_layOneMore_157 : decode cX1_layOneMore 157 = .ok (.ifCond .eq 10, 3) := by decide +kernel
theorem dX1_layOneMore_160 : decode cX1_layOneMore 160 = .ok (.iconst 1, 1) := by decide +kernel
theorem dX1_layOneMore_161 : decode cX1_layOneMore 161 = .ok (.iload 5, 2) := by decide +kernel
theorem dX1_layOneMore_163 : decode cX1_layOneMore 163 = .ok (.ishl, 1) := by decide +kernel
theorem dX1_layOneMore_164 : decode cX1_layOneMore 164 = .ok (.goto 4, 3) := by decide +kernel
theorem dX1_layOneMore_167 : decode cX1_layOneMore 167 = .ok (.iconst 0, 1) := by decide +kernel
theorem dX1_layOneMore_168 : decode cX1_layOneMore 168 = .ok (.ior, 1) := by decide +kernel
theorem dX1_layOneMore_169 : decode cX1_layOneMore 169 = .ok (.invokevirtual 85, 3) := by decide +kernel
theorem dX1_layOneMore_172 : decode cX1_layOneMore 172 = .ok (.iinc 3 1, 3) := by decide +kernel
theorem dX1_layOneMore_175 : decode cX1_layOneMore 175 = .ok (.goto (-135), 3) := by decide +kernel
theorem dX1_layOneMore_178 : decode cX1_layOneMore 178 = .ok (.iconst 0, 1) := by decide +kernel
theorem dX1_layOneMore_179 : decode cX1_layOneMore 179 = .ok (.ireturn, 1) := by decide +kernel
theorem dX1_leastSet_0 : decode cX1_leastSet 0 = .ok (.iload_n 2, 1) := by decide +kernel
theorem dX1_leastSet_1 : decode cX1_leastSet 1 = .ok (.aload_n 1, 1) := by decide +kernel
theorem dX1_leastSet_2 : decode cX1_leastSet 2 = .ok (.getfield 34, 3) := by decide +kernel
theorem dX1_leastSet_5 : decode cX1_leastSet 5 = .ok (.invokevirtual 60, 3) := by decide +kernel
theorem dX1_leastSet_8 : decode cX1_leastSet 8 = .ok (.iand, 1) := by decide +kernel
theorem dX1_leastSet_9 : decode cX1_leastSet 9 = .ok (.istore_n 3, 1) := by decide +kernel
theorem dX1_leastSet_10 : decode cX1_leastSet 10 = .ok (.aload_n 0, 1) := by decide +kernel
theorem dX1_leastSet_11 : decode cX1_leastSet 11 = .ok (.aload_n 1, 1) := by decide +kernel
theorem dX1_leastSet_12 : decode cX1_leastSet 12 = .ok (.iload_n 2, 1) := by decide +kernel
theorem dX1_leastSet_13 : decode cX1_leastSet 13 = .ok (.iload_n 3, 1) := by decide +kernel
theorem dX1_leastSet_14 : decode cX1_leastSet 14 = .ok (.invokevirtual 64, 3) := by decide +kernel
theorem dX1_leastSet_17 : decode cX1_leastSet 17 = .ok (.istore 4, 2) := by decide +kernel
theorem dX1_leastSet_19 : decode cX1_leastSet 19 = .ok (.iload 4, 2) := by decide +kernel
theorem dX1_leastSet_21 : decode cX1_leastSet 21 = .ok (.bipush 99, 2) := by decide +kernel
theorem dX1_leastSet_23 : decode cX1_leastSet 23 = .ok (.if_icmp .ne 5, 3) := by decide +kernel
theorem dX1_leastSet_26 : decode cX1_leastSet 26 = .ok (.iconst (-1), 1) := by decide +kernel
theorem dX1_leastSet_27 : decode cX1_leastSet 27 = .ok (.ireturn, 1) := by decide +kernel
theorem dX1_leastSet_28 : decode cX1_leastSet 28 = .ok (.bipush 13, 2) := by decide +kernel
theorem dX1_leastSet_30 : decode cX1_leastSet 30 = .ok (.istore 5, 2) := by decide +kernel
theorem dX1_leastSet_32 : decode cX1_leastSet 32 = .ok (.iload 5, 2) := by decide +kernel
theorem dX1_leastSet_34 : decode cX1_leastSet 34 = .ok (.ifCond .lt 50, 3) := by decide +kernel
theorem dX1_leastSet_37 : decode cX1_leastSet 37 = .ok (.iload_n 3, 1) := by decide +kernel
theorem dX1_leastSet_38 : decode cX1_leastSet 38 = .ok (.invokestatic 68, 3) := by decide +kernel
theorem dX1_leastSet_41 : decode cX1_leastSet 41 = .ok (.iload 4, 2) := by decide +kernel
theorem dX1_leastSet_43 : decode cX1_leastSet 43 = .ok (.if_icmp .le 41, 3) := by decide +kernel
theorem dX1_leastSet_46 : decode cX1_leastSet 46 = .ok (.iload_n 3, 1) := by decide +kernel
theorem dX1_leastSet_47 : decode cX1_leastSet 47 = .ok (.iconst 1, 1) := by decide +kernel
theorem dX1_leastSet_48 : decode cX1_leastSet 48 = .ok (.iload 5, 2) := by decide +kernel
theorem dX1_leastSet_50 : decode cX1_leastSet 50 = .ok (.ishl, 1) := by decide +kernel
theorem dX1_leastSet_51 : decode cX1_leastSet 51 = .ok (.iconst (-1), 1) := by decide +kernel
theorem dX1_leastSet_52 : decode cX1_leastSet 52 = .ok (.ixor, 1) := by decide +kernel
theorem dX1_leastSet_53 : decode cX1_leastSet 53 = .ok (.iand, 1) := by decide +kernel
theorem dX1_leastSet_54 : decode cX1_leastSet 54 = .ok (.istore 6, 2) := by decide +kernel
theorem dX1_leastSet_56 : decode cX1_leastSet 56 = .ok (.iload 6, 2) := by decide +kernel
theorem dX1_leastSet_58 : decode cX1_leastSet 58 = .ok (.iload_n 3, 1) := by decide +kernel
theorem dX1_leastSet_59 : decode cX1_leastSet 59 = .ok (.if_icmp .eq 19, 3) := by decide +kernel
theorem dX1_leastSet_62 : decode cX1_leastSet 62 = .ok (.aload_n 0, 1) := by decide +kernel
theorem dX1_leastSet_63 : decode cX1_leastSet 63 = .ok (.aload_n 1, 1) := by decide +kernel
theorem dX1_leastSet_64 : decode cX1_leastSet 64 = .ok (.iload_n 2, 1) := by decide +kernel
theorem dX1_leastSet_65 : decode cX1_leastSet 65 = .ok (.iload 6, 2) := by decide +kernel
theorem dX1_leastSet_67 : decode cX1_leastSet 67 = .ok (.invokevirtual 64, 3) := by decide +kernel
theorem dX1_leastSet_70 : decode cX1_leastSet 70 = .ok (.iload 4, 2) := by decide +kernel
theorem dX1_leastSet_72 : decode cX1_leastSet 72 = .ok (.if_icmp .ne 6, 3) := by decide +kernel
theorem dX1_leastSet_75 : decode cX1_leastSet 75 = .ok (.iload 6, 2) := by decide +kernel
theorem dX1_leastSet_77 : decode cX1_leastSet 77 = .ok (.istore_n 3, 1) := by decide +kernel
theorem dX1_leastSet_78 : decode cX1_leastSet 78 = .ok (.iinc 5 (-1), 3) := by decide +kernel
theorem dX1_leastSet_81 : decode cX1_leastSet 81 = .ok (.goto (-49), 3) := by decide +kernel
theorem dX1_leastSet_84 : decode cX1_leastSet 84 = .ok (.iload_n 3, 1) := by decide +kernel
theorem dX1_leastSet_85 : decode cX1_leastSet 85 = .ok (.ireturn, 1) := by decide +kernel
theorem dX1_visit_0 : decode cX1_visit 0 = .ok (.aload_n 0, 1) := by decide +kernel
theorem dX1_visit_1 : decode cX1_visit 1 = .ok (.getfield 28, 3) := by decide +kernel
theorem dX1_visit_4 : decode cX1_visit 4 = .ok (.iload_n 1, 1) := by decide +kernel
theorem dX1_visit_5 : decode cX1_visit 5 = .ok (.ishr, 1) := by decide +kernel
theorem dX1_visit_6 : decode cX1_visit 6 = .ok (.iconst 1, 1) := by decide +kernel
theorem dX1_visit_7 : decode cX1_visit 7 = .ok (.iand, 1) := by decide +kernel
theorem dX1_visit_8 : decode cX1_visit 8 = .ok (.ifCond .ne 51, 3) := by decide +kernel
theorem dX1_visit_11 : decode cX1_visit 11 = .ok (.aload_n 0, 1) := by decide +kernel
theorem dX1_visit_12 : decode cX1_visit 12 = .ok (.getfield 25, 3) := by decide +kernel
theorem dX1_visit_15 : decode cX1_visit 15 = .ok (.bipush 28, 2) := by decide +kernel
theorem dX1_visit_17 : decode cX1_visit 17 = .ok (.if_icmp .ge 42, 3) := by decide +kernel
theorem dX1_visit_20 : decode cX1_visit 20 = .ok (.aload_n 0, 1) := by decide +kernel
theorem dX1_visit_21 : decode cX1_visit 21 = .ok (.dup, 1) := by decide +kernel
theorem dX1_visit_22 : decode cX1_visit 22 = .ok (.getfield 28, 3) := by decide +kernel
theorem dX1_visit_25 : decode cX1_visit 25 = .ok (.iconst 1, 1) := by decide +kernel
theorem dX1_visit_26 : decode cX1_visit 26 = .ok (.iload_n 1, 1) := by decide +kernel
theorem dX1_visit_27 : decode cX1_visit 27 = .ok (.ishl, 1) := by decide +kernel
theorem dX1_visit_28 : decode cX1_visit 28 = .ok (.ior, 1) := by decide +kernel
theorem dX1_visit_29 : decode cX1_visit 29 = .ok (.putfield 28, 3) := by decide +kernel
theorem dX1_visit_32 : decode cX1_visit 32 = .ok (.aload_n 0, 1) := by decide +kernel
theorem dX1_visit_33 : decode cX1_visit 33 = .ok (.getfield 31, 3) := by decide +kernel
theorem dX1_visit_36 : decode cX1_visit 36 = .ok (.iload_n 1, 1) := by decide +kernel
theorem dX1_visit_37 : decode cX1_visit 37 = .ok (.iload_n 2, 1) := by decide +kernel
theorem dX1_visit_38 : decode cX1_visit 38 = .ok (.iastore, 1) := by decide +kernel
theorem dX1_visit_39 : decode cX1_visit 39 = .ok (.aload_n 0, 1) := by decide +kernel
theorem dX1_visit_40 : decode cX1_visit 40 = .ok (.getfield 22, 3) := by decide +kernel
theorem dX1_visit_43 : decode cX1_visit 43 = .ok (.aload_n 0, 1) := by decide +kernel
theorem dX1_visit_44 : decode cX1_visit 44 = .ok (.getfield 25, 3) := by decide +kernel
theorem dX1_visit_47 : decode cX1_visit 47 = .ok (.iload_n 1, 1) := by decide +kernel
theorem dX1_visit_48 : decode cX1_visit 48 = .ok (.iastore, 1) := by decide +kernel
theorem dX1_visit_49 : decode cX1_visit 49 = .ok (.aload_n 0, 1) := by decide +kernel
theorem dX1_visit_50 : decode cX1_visit 50 = .ok (.dup, 1) := by decide +kernel
theorem dX1_visit_51 : decode cX1_visit 51 = .ok (.getfield 25, 3) := by decide +kernel
theorem dX1_visit_54 : decode cX1_visit 54 = .ok (.iconst 1, 1) := by decide +kernel
theorem dX1_visit_55 : decode cX1_visit 55 = .ok (.iadd, 1) := by decide +kernel
theorem dX1_visit_56 : decode cX1_visit 56 = .ok (.putfield 25, 3) := by decide +kernel
theorem dX1_visit_59 : decode cX1_visit 59 = .ok (.return_, 1) := by decide +kernel
theorem dX1_visitBeyond_0 : decode cX1_visitBeyond 0 = .ok (.iload_n 2, 1) := by decide +kernel
theorem dX1_visitBeyond_1 : decode cX1_visitBeyond 1 = .ok (.iconst (-1), 1) := by decide +kernel
theorem dX1_visitBeyond_2 : decode cX1_visitBeyond 2 = .ok (.if_icmp .eq 12, 3) := by decide +kernel
theorem dX1_visitBeyond_5 : decode cX1_visitBeyond 5 = .ok (.aload_n 0, 1) := by decide +kernel
theorem dX1_visitBeyond_6 : decode cX1_visitBeyond 6 = .ok (.bipush 14, 2) := by decide +kernel
theorem dX1_visitBeyond_8 : decode cX1_visitBeyond 8 = .ok (.iload_n 2, 1) := by decide +kernel
theorem dX1_visitBeyond_9 : decode cX1_visitBeyond 9 = .ok (.iadd, 1) := by decide +kernel
theorem dX1_visitBeyond_10 : decode cX1_visitBeyond 10 = .ok (.iload_n 1, 1) := by decide +kernel
theorem dX1_visitBeyond_11 : decode cX1_visitBeyond 11 = .ok (.invokevirtual 74, 3) := by decide +kernel
theorem dX1_visitBeyond_14 : decode cX1_visitBeyond 14 = .ok (.return_, 1) := by decide +kernel
theorem dX1_visitNear_0 : decode cX1_visitNear 0 = .ok (.iconst 0, 1) := by decide +kernel
theorem dX1_visitNear_1 : decode cX1_visitNear 1 = .ok (.istore_n 3, 1) := by decide +kernel
theorem dX1_visitNear_2 : decode cX1_visitNear 2 = .ok (.iload_n 3, 1) := by decide +kernel
theorem dX1_visitNear_3 : decode cX1_visitNear 3 = .ok (.bipush 14, 2) := by decide +kernel
theorem dX1_visitNear_5 : decode cX1_visitNear 5 = .ok (.if_icmp .ge 23, 3) := by decide +kernel
theorem dX1_visitNear_8 : decode cX1_visitNear 8 = .ok (.iload_n 2, 1) := by decide +kernel
theorem dX1_visitNear_9 : decode cX1_visitNear 9 = .ok (.iload_n 3, 1) := by decide +kernel
theorem dX1_visitNear_10 : decode cX1_visitNear 10 = .ok (.ishr, 1) := by decide +kernel
theorem dX1_visitNear_11 : decode cX1_visitNear 11 = .ok (.iconst 1, 1) := by decide +kernel
theorem dX1_visitNear_12 : decode cX1_visitNear 12 = .ok (.iand, 1) := by decide +kernel
theorem dX1_visitNear_13 : decode cX1_visitNear 13 = .ok (.ifCond .eq 9, 3) := by decide +kernel
theorem dX1_visitNear_16 : decode cX1_visitNear 16 = .ok (.aload_n 0, 1) := by decide +kernel
theorem dX1_visitNear_17 : decode cX1_visitNear 17 = .ok (.iload_n 3, 1) := by decide +kernel
theorem dX1_visitNear_18 : decode cX1_visitNear 18 = .ok (.iload_n 1, 1) := by decide +kernel
theorem dX1_visitNear_19 : decode cX1_visitNear 19 = .ok (.invokevirtual 74, 3) := by decide +kernel
theorem dX1_visitNear_22 : decode cX1_visitNear 22 = .ok (.iinc 3 1, 3) := by decide +kernel
theorem dX1_visitNear_25 : decode cX1_visitNear 25 = .ok (.goto (-23), 3) := by decide +kernel
theorem dX1_visitNear_28 : decode cX1_visitNear 28 = .ok (.return_, 1) := by decide +kernel
theorem kw_10 : Cond.initialized "FootholdWall$Cut" ∈ gw := gw_of (tb_of 10 (by decide +kernel)) (by decide +kernel)
theorem kw_117 : Cond.fieldLink "FootholdWall$Cut" 45 "FootholdWall$Wall" "starts" "I" ∈ gw := gw_of (tb_of 117 (by decide +kernel)) (by decide +kernel)
theorem kw_124 : Cond.fieldLink "FootholdWall$Cut" 40 "FootholdWall$Wall" "tops" "I" ∈ gw := gw_of (tb_of 124 (by decide +kernel)) (by decide +kernel)
theorem kw_245 : Cond.fieldLink "FootholdWall$Cut" 34 "FootholdWall$Rows" "wall" "LFootholdWall$Wall;" ∈ gw := gw_of (tb_of 245 (by decide +kernel)) (by decide +kernel)
theorem kw_302 : Cond.fieldLink "FootholdWall$Cut" 9 "FootholdWall$Cut" "near" "[I" ∈ gw := gw_of (tb_of 302 (by decide +kernel)) (by decide +kernel)
theorem kw_303 : Cond.fieldLink "FootholdWall$Cut" 15 "FootholdWall$Cut" "ahead" "[I" ∈ gw := gw_of (tb_of 303 (by decide +kernel)) (by decide +kernel)
theorem kw_304 : Cond.fieldLink "FootholdWall$Cut" 18 "FootholdWall$Cut" "laid" "I" ∈ gw := gw_of (tb_of 304 (by decide +kernel)) (by decide +kernel)
theorem kw_305 : Cond.fieldLink "FootholdWall$Cut" 22 "FootholdWall$Cut" "queue" "[I" ∈ gw := gw_of (tb_of 305 (by decide +kernel)) (by decide +kernel)
theorem kw_306 : Cond.fieldLink "FootholdWall$Cut" 25 "FootholdWall$Cut" "queued" "I" ∈ gw := gw_of (tb_of 306 (by decide +kernel)) (by decide +kernel)
theorem kw_307 : Cond.fieldLink "FootholdWall$Cut" 28 "FootholdWall$Cut" "seen" "I" ∈ gw := gw_of (tb_of 307 (by decide +kernel)) (by decide +kernel)
theorem kw_308 : Cond.fieldLink "FootholdWall$Cut" 31 "FootholdWall$Cut" "cameFrom" "[I" ∈ gw := gw_of (tb_of 308 (by decide +kernel)) (by decide +kernel)
theorem kw_1015 : Cond.instanceMethod yX1_fewest ∈ gw := gw_of (tb_of 1015 (by decide +kernel)) (by decide +kernel)
theorem kw_1016 : Cond.selects "FootholdWall$Cut" yX1_fewest yX1_fewest ∈ gw := gw_of (tb_of 1016 (by decide +kernel)) (by decide +kernel)
theorem kw_1017 : Cond.code yX1_fewest cX1_fewest 8 (some (.int)) ∈ gw := gw_of (tb_of 1017 (by decide +kernel)) (by decide +kernel)
theorem kw_1018 : Cond.methodLink "FootholdWall$Cut" 48 yX5_spread ∈ gw := gw_of (tb_of 1018 (by decide +kernel)) (by decide +kernel)
theorem kw_1019 : Cond.methodLink "FootholdWall$Cut" 52 yX5_stepped ∈ gw := gw_of (tb_of 1019 (by decide +kernel)) (by decide +kernel)
theorem kw_1020 : Cond.methodLink "FootholdWall$Cut" 56 yX1_layOneMore ∈ gw := gw_of (tb_of 1020 (by decide +kernel)) (by decide +kernel)
theorem kw_1022 : Cond.instanceMethod yX1_layOneMore ∈ gw := gw_of (tb_of 1022 (by decide +kernel)) (by decide +kernel)
theorem kw_1023 : Cond.code yX1_layOneMore cX1_layOneMore 7 (some (.boolean)) ∈ gw := gw_of (tb_of 1023 (by decide +kernel)) (by decide +kernel)
theorem kw_1024 : Cond.methodLink "FootholdWall$Cut" 74 yX1_visit ∈ gw := gw_of (tb_of 1024 (by decide +kernel)) (by decide +kernel)
theorem kw_1026 : Cond.instanceMethod yX1_visit ∈ gw := gw_of (tb_of 1026 (by decide +kernel)) (by decide +kernel)
theorem kw_1027 : Cond.code yX1_visit cX1_visit 3 none ∈ gw := gw_of (tb_of 1027 (by decide +kernel)) (by decide +kernel)
theorem kw_1028 : Cond.methodLink "FootholdWall$Cut" 78 yX1_visitBeyond ∈ gw := gw_of (tb_of 1028 (by decide +kernel)) (by decide +kernel)
theorem kw_1030 : Cond.instanceMethod yX1_visitBeyond ∈ gw := gw_of (tb_of 1030 (by decide +kernel)) (by decide +kernel)
theorem kw_1031 : Cond.code yX1_visitBeyond cX1_visitBeyond 3 none ∈ gw := gw_of (tb_of 1031 (by decide +kernel)) (by decide +kernel)
theorem kw_1032 : Cond.methodLink "FootholdWall$Cut" 81 yX1_lay ∈ gw := gw_of (tb_of 1032 (by decide +kernel)) (by decide +kernel)
theorem kw_1034 : Cond.instanceMethod yX1_lay ∈ gw := gw_of (tb_of 1034 (by decide +kernel)) (by decide +kernel)
theorem kw_1035 : Cond.code yX1_lay cX1_lay 6 none ∈ gw := gw_of (tb_of 1035 (by decide +kernel)) (by decide +kernel)
theorem kw_1036 : Cond.methodLink "FootholdWall$Cut" 85 yX1_visitNear ∈ gw := gw_of (tb_of 1036 (by decide +kernel)) (by decide +kernel)
theorem kw_1038 : Cond.instanceMethod yX1_visitNear ∈ gw := gw_of (tb_of 1038 (by decide +kernel)) (by decide +kernel)
theorem kw_1039 : Cond.code yX1_visitNear cX1_visitNear 4 none ∈ gw := gw_of (tb_of 1039 (by decide +kernel)) (by decide +kernel)
theorem kw_1048 : Cond.methodLink "FootholdWall$Cut" 60 yX9_middles ∈ gw := gw_of (tb_of 1048 (by decide +kernel)) (by decide +kernel)
theorem kw_1049 : Cond.methodLink "FootholdWall$Cut" 64 yX1_fewest ∈ gw := gw_of (tb_of 1049 (by decide +kernel)) (by decide +kernel)
theorem kw_1050 : Cond.methodLink "FootholdWall$Cut" 68 yJ6_bitCount_0f7a4 ∈ gw := gw_of (tb_of 1050 (by decide +kernel)) (by decide +kernel)
theorem ks_32 : Cond.selects RX1 yX1_layOneMore yX1_layOneMore ∈ gw := gw_of (pv_of 32 (by decide +kernel)) (by decide +kernel)
theorem ks_33 : Cond.selects RX1 yX1_visit yX1_visit ∈ gw := gw_of (pv_of 33 (by decide +kernel)) (by decide +kernel)
theorem ks_34 : Cond.selects RX1 yX1_visitBeyond yX1_visitBeyond ∈ gw := gw_of (pv_of 34 (by decide +kernel)) (by decide +kernel)
theorem ks_35 : Cond.selects RX1 yX1_lay yX1_lay ∈ gw := gw_of (pv_of 35 (by decide +kernel)) (by decide +kernel)
theorem ks_36 : Cond.selects RX1 yX1_visitNear yX1_visitNear ∈ gw := gw_of (pv_of 36 (by decide +kernel)) (by decide +kernel)
set_option maxHeartbeats 4000000 in
set_option maxRecDepth 100000 in
theorem s_Cut_visit (l : Launch) (D : va_G) (cs : CS) (kf : KF) (T : TF) (O : List Nat) (X : va_W) (a0 : Nat) (x1 : Int32) (x2 : Int32) (t_a0 : T a0 = some (11, 0, 0)) (l_x1 : 0 ≤ x1.toInt) (u_x1 : x1.toInt ≤ 27) (l_x2 : -1 ≤ x2.toInt) (u_x2 : x2.toInt ≤ 27) (hO : okO T O [1, 11]) : TK l D cs kf yX1_visit cX1_visit 3 none { frames := 0, cells := 0, slots := 0, locals := 0 } [.ref a0, .int x1, .int x2] T O X (Tv D cs (fun u => u = (T, O, X))) := by
  refine tk_of (by decide) (Nat.le_of_ble_eq_true rfl) (fun p e s m below meth c ls A H locs hx hb hr hml hown hts hlocks hnm hkb hH hS hA hOX hks hE hl => ?_)
  have hown : s.vm.findClass RX1 = some m.cls := hown
  have hl : lv_has ls 3 [(0, .ref a0), (1, .int x1), (2, .int x2)] := hl
  have hO0 := hO
  obtain ⟨fs9, ho9, hH⟩ := hH.take t_a0 (hO0.no t_a0 (by decide))
  have hp0 : okL T (ft1 0 0) fs9 := ho9
  clear ho9
  obtain ⟨v9, fs9, rfl, h9, hp1⟩ := okL_i hp0
  obtain ⟨q0_0, rfl, t_q0_0⟩ := h9
  obtain ⟨v9, fs9, rfl, h9, hp2⟩ := okL_i hp1
  obtain ⟨q0_1, rfl, t_q0_1⟩ := h9
  obtain ⟨v9, fs9, rfl, h9, hp3⟩ := okL_i hp2
  obtain ⟨q0_2, rfl⟩ := h9
  obtain ⟨v9, fs9, rfl, h9, hp4⟩ := okL_i hp3
  obtain ⟨q0_3, rfl, t_q0_3⟩ := h9
  obtain ⟨v9, fs9, rfl, h9, hp5⟩ := okL_i hp4
  obtain ⟨q0_4, rfl, l_q0_4, u_q0_4⟩ := h9
  obtain ⟨v9, fs9, rfl, h9, hp6⟩ := okL_i hp5
  obtain ⟨q0_5, rfl⟩ := h9
  obtain ⟨v9, fs9, rfl, h9, hp7⟩ := okL_i hp6
  obtain ⟨q0_6, rfl, t_q0_6⟩ := h9
  have hpz := okL_z hp7
  subst hpz
  have hH : HT D cs A T (a0 :: O) ((a0, .inr (1, [.ref q0_0, .ref q0_1, .int q0_2, .ref q0_3, .int q0_4, .int q0_5, .ref q0_6])) :: X) H := hH
  have hO : okO T (a0 :: O) [1] := okO.cons (hO0.sub (by decide)) t_a0 (by decide)
  refine lv_aload_n hx hb dX1_visit_0 rfl (lv_at hl 0 rfl) ?_
  refine x_get (ci := 1) (C := RX1) (F := TX1) (N := 7) (v := .int q0_5) hx hb hts uX1 hown hkb hH rfl 5 (by decide) rfl kw_307 (fun _ h9 => h9) dX1_visit_1 ?_
  refine lv_iload_n hx hb dX1_visit_4 rfl (lv_at hl 1 rfl) ?_
  refine lv_ishr hx hb dX1_visit_5 ?_
  refine lv_topi (fun v5 ev5 => ?_)
  refine lv_iconst (v := 1) hx hb dX1_visit_6 (by decide) ?_
  refine lv_iand hx hb dX1_visit_7 ?_
  refine lv_topi (fun v7 ev7 => ?_)
  have tv7 : 0 ≤ v7.toInt ∧ v7.toInt ≤ 1 := by rw [ev7]; exact and_r (by decide)
  have J59 : ∀ (f59_4 : Int32) (f59_5 : Int32) (H : Heap) (locs : List Loc) (ls : Array Slot), (0 ≤ f59_4.toInt) → (f59_4.toInt ≤ 28) → HT D cs A T (a0 :: O) ((a0, .inr (1, [.ref q0_0, .ref q0_1, .int q0_2, .ref q0_3, .int f59_4, .int f59_5, .ref q0_6])) :: X) H → va_S A s.heap H locs → lv_has ls 3 [] → W p l e { frames := 0, cells := 0, slots := 0, locals := 0 } s m [.ref a0, .int x1, .int x2].toArray below meth c H locs 0 0 (MQ below (Tv D cs (fun u => u = (T, O, X)) A) [.ref a0, .int x1, .int x2].toArray s 0 0 A) (F0 m 59 ls []) := by
    intro f59_4 f59_5 H locs ls l_f59_4 u_f59_4 hH hS hl
    have hH : HT D cs A T O X H := HT.lay (ci := 1) hH t_a0 (okL_c (⟨_, rfl, t_q0_0⟩) (okL_c (⟨_, rfl, t_q0_1⟩) (okL_c (⟨_, rfl⟩) (okL_c (⟨_, rfl, t_q0_3⟩) (okL_c (⟨_, rfl, by omega, by omega⟩) (okL_c (⟨_, rfl⟩) (okL_c (⟨_, rfl, t_q0_6⟩) (okL_n))))))))
    have hO := hO0
    exact te_v hx hb hr hlocks hH hS rfl dX1_visit_59
  refine lv_if_ne (tgt := 59) hx hb dX1_visit_8 (by decide) (fun c8 => ?_) (fun c8 => ?_)
  · skip
    have tc8 := f_ne (k := 0) (by decide) c8
    exact J59 q0_4 q0_5 _ _ _ (by omega) (by omega) hH hS (lv_sub hl [] rfl)
  · skip
    have tc8 := f_eq (k := 0) (by decide) c8
    refine lv_aload_n hx hb dX1_visit_11 rfl (lv_at hl 0 rfl) ?_
    refine x_get (ci := 1) (C := RX1) (F := TX1) (N := 7) (v := .int q0_4) hx hb hts uX1 hown hkb hH rfl 4 (by decide) rfl kw_306 (fun _ h9 => h9) dX1_visit_12 ?_
    refine lv_bipush (v := 28) hx hb dX1_visit_15 (by decide) ?_
    refine lv_icmp_ge (tgt := 59) hx hb dX1_visit_17 (by decide) (fun c17 => ?_) (fun c17 => ?_)
    · skip
      have tc17 := f_ge (k := 28) (by decide) c17
      exact J59 q0_4 q0_5 _ _ _ (by omega) (by omega) hH hS (lv_sub hl [] rfl)
    · skip
      have tc17 := f_nge (k := 28) (by decide) c17
      refine lv_aload_n hx hb dX1_visit_20 rfl (lv_at hl 0 rfl) ?_
      refine lv_dup hx hb dX1_visit_21 rfl ?_
      refine x_get (ci := 1) (C := RX1) (F := TX1) (N := 7) (v := .int q0_5) hx hb hts uX1 hown hkb hH rfl 5 (by decide) rfl kw_307 (fun _ h9 => h9) dX1_visit_22 ?_
      refine lv_iconst (v := 1) hx hb dX1_visit_25 (by decide) ?_
      refine lv_iload_n hx hb dX1_visit_26 rfl (lv_at hl 1 rfl) ?_
      refine lv_ishl hx hb dX1_visit_27 ?_
      refine lv_topi (fun v27 ev27 => ?_)
      have tv27 : 1 ≤ v27.toInt ∧ v27.toInt ≤ 134217728 := by rw [ev27]; exact shl_b 27 (by decide) (by omega) (by omega)
      refine lv_ior hx hb dX1_visit_28 ?_
      refine lv_topi (fun v28 ev28 => ?_)
      refine x_put (ci := 1) (v := .int v28) (ty := tyX1 5) (C := RX1) (F := TX1) (N := 7) hx hb hts uX1 tyX1 tyX1_ok nmX1 hown hkb hH hS rfl 5 (by decide) kw_307 (fun _ h9 => h9) rfl (tyX1_ok 5 (by decide)) rfl rfl (Nat.le_of_ble_eq_true rfl) dX1_visit_29 (fun H locs hH hS => ?_)
      have hH : HT D cs A T (a0 :: O) ((a0, .inr (1, [.ref q0_0, .ref q0_1, .int q0_2, .ref q0_3, .int q0_4, .int v28, .ref q0_6])) :: X) H := hH
      refine lv_aload_n hx hb dX1_visit_32 rfl (lv_at hl 0 rfl) ?_
      refine x_get (ci := 1) (C := RX1) (F := TX1) (N := 7) (v := .ref q0_6) hx hb hts uX1 hown hkb hH rfl 6 (by decide) rfl kw_308 (fun _ h9 => h9) dX1_visit_33 ?_
      refine lv_iload_n hx hb dX1_visit_36 rfl (lv_at hl 1 rfl) ?_
      refine lv_iload_n hx hb dX1_visit_37 rfl (lv_at hl 2 rfl) ?_
      refine t_ist hx hb hkb hH hS t_q0_6 (hO.no t_q0_6 (by decide)) (by omega) (by omega) (show -1 ≤ x2.toInt ∧ x2.toInt ≤ 27 from by omega) dX1_visit_38 (fun H locs hH hS => ?_)
      refine lv_aload_n hx hb dX1_visit_39 rfl (lv_at hl 0 rfl) ?_
      refine x_get (ci := 1) (C := RX1) (F := TX1) (N := 7) (v := .ref q0_3) hx hb hts uX1 hown hkb hH rfl 3 (by decide) rfl kw_305 (fun _ h9 => h9) dX1_visit_40 ?_
      refine lv_aload_n hx hb dX1_visit_43 rfl (lv_at hl 0 rfl) ?_
      refine x_get (ci := 1) (C := RX1) (F := TX1) (N := 7) (v := .int q0_4) hx hb hts uX1 hown hkb hH rfl 4 (by decide) rfl kw_306 (fun _ h9 => h9) dX1_visit_44 ?_
      refine lv_iload_n hx hb dX1_visit_47 rfl (lv_at hl 1 rfl) ?_
      refine t_ist hx hb hkb hH hS t_q0_3 (hO.no t_q0_3 (by decide)) (by omega) (by omega) (show 0 ≤ x1.toInt ∧ x1.toInt ≤ 27 from by omega) dX1_visit_48 (fun H locs hH hS => ?_)
      refine lv_aload_n hx hb dX1_visit_49 rfl (lv_at hl 0 rfl) ?_
      refine lv_dup hx hb dX1_visit_50 rfl ?_
      refine x_get (ci := 1) (C := RX1) (F := TX1) (N := 7) (v := .int q0_4) hx hb hts uX1 hown hkb hH rfl 4 (by decide) rfl kw_306 (fun _ h9 => h9) dX1_visit_51 ?_
      refine lv_iconst (v := 1) hx hb dX1_visit_54 (by decide) ?_
      refine lv_iadd hx hb dX1_visit_55 ?_
      refine lv_topi (fun v55 ev55 => ?_)
      have tv55 : v55.toInt = q0_4.toInt + (1) := by rw [ev55]; exact add_i rfl (by decide : (1 : Int32).toInt = 1) (by omega) (by omega)
      refine x_put (ci := 1) (v := .int v55) (ty := tyX1 4) (C := RX1) (F := TX1) (N := 7) hx hb hts uX1 tyX1 tyX1_ok nmX1 hown hkb hH hS rfl 4 (by decide) kw_306 (fun _ h9 => h9) rfl (tyX1_ok 4 (by decide)) rfl rfl (Nat.le_of_ble_eq_true rfl) dX1_visit_56 (fun H locs hH hS => ?_)
      have hH : HT D cs A T (a0 :: O) ((a0, .inr (1, [.ref q0_0, .ref q0_1, .int q0_2, .ref q0_3, .int v55, .int v28, .ref q0_6])) :: X) H := hH
      exact J59 v55 v28 _ _ _ (by omega) (by omega) hH hS (lv_sub hl [] rfl)
set_option maxHeartbeats 4000000 in
set_option maxRecDepth 100000 in
theorem s_Cut_visitBeyond (l : Launch) (D : va_G) (cs : CS) (kf : KF) (T : TF) (O : List Nat) (X : va_W) (a0 : Nat) (x1 : Int32) (x2 : Int32) (t_a0 : T a0 = some (11, 0, 0)) (l_x1 : 0 ≤ x1.toInt) (u_x1 : x1.toInt ≤ 27) (l_x2 : -14 ≤ x2.toInt) (u_x2 : x2.toInt ≤ 13) (hO : okO T O [1, 11]) : TK l D cs kf yX1_visitBeyond cX1_visitBeyond 3 none { frames := 1, cells := 0, slots := 0, locals := 22 } [.ref a0, .int x1, .int x2] T O X (Tv D cs (fun u => u = (T, O, X))) := by
  refine tk_of (by decide) (Nat.le_of_ble_eq_true rfl) (fun p e s m below meth c ls A H locs hx hb hr hml hown hts hlocks hnm hkb hH hS hA hOX hks hE hl => ?_)
  have hown : s.vm.findClass RX1 = some m.cls := hown
  have hl : lv_has ls 3 [(0, .ref a0), (1, .int x1), (2, .int x2)] := hl
  refine lv_iload_n hx hb dX1_visitBeyond_0 rfl (lv_at hl 2 rfl) ?_
  refine lv_iconst (v := (-1)) hx hb dX1_visitBeyond_1 (by decide) ?_
  have J14 : ∀  (H : Heap) (locs : List Loc) (ls : Array Slot), HT D cs A T O X H → va_S A s.heap H locs → lv_has ls 3 [] → W p l e { frames := 1, cells := 0, slots := 0, locals := 22 } s m [.ref a0, .int x1, .int x2].toArray below meth c H locs 0 0 (MQ below (Tv D cs (fun u => u = (T, O, X)) A) [.ref a0, .int x1, .int x2].toArray s 0 0 A) (F0 m 14 ls []) := by
    intro  H locs ls  hH hS hl
    exact te_v hx hb hr hlocks hH hS rfl dX1_visitBeyond_14
  refine lv_icmp_eq (tgt := 14) hx hb dX1_visitBeyond_2 (by decide) (fun c2 => ?_) (fun c2 => ?_)
  · skip
    have tc2 := f_eq (k := -1) (by decide) c2
    exact J14  _ _ _  hH hS (lv_sub hl [] rfl)
  · skip
    have tc2 := f_ne (k := -1) (by decide) c2
    refine lv_aload_n hx hb dX1_visitBeyond_5 rfl (lv_at hl 0 rfl) ?_
    refine lv_bipush (v := 14) hx hb dX1_visitBeyond_6 (by decide) ?_
    refine lv_iload_n hx hb dX1_visitBeyond_8 rfl (lv_at hl 2 rfl) ?_
    refine lv_iadd hx hb dX1_visitBeyond_9 ?_
    refine lv_topi (fun v9 ev9 => ?_)
    have tv9 : v9.toInt = (14) + x2.toInt := by rw [ev9]; exact add_i (by decide : (14 : Int32).toInt = 14) rfl (by omega) (by omega)
    refine lv_iload_n hx hb dX1_visitBeyond_10 rfl (lv_at hl 1 rfl) ?_
    refine tk_v hH hS hA (tr_V (n := 2) (As := [.int v9, .int x1]) hx hb hml hown hts hkb hH hOX hks hE hS hA (s_Cut_visit l D cs kf T O X a0 v9 x1 t_a0 (by omega) (by omega) (by omega) (by omega) (hO.sub (by decide))) kw_1024 kw_1026 ks_33 kw_10 kw_1027 (by decide +kernel) ⟨Nat.le_of_ble_eq_true rfl, Nat.le_of_ble_eq_true rfl⟩ (HT.recv (ci := 1) hkb hH t_a0 (hO.no t_a0 (by decide)) rfl) rfl rfl hl.1 (Nat.le_of_ble_eq_true rfl) dX1_visitBeyond_11 ⟨Nat.le_of_ble_eq_true rfl, Nat.le_of_ble_eq_true rfl⟩) (fun u H locs hz9 hH hS => ?_)
    have hz9 : u = (T, O, X) := hz9
    subst hz9
    have hH : HT D cs A T O X H := hH
    refine W.widen (k := 0) (n := 0) (Nat.le_of_ble_eq_true rfl) (Nat.le_of_ble_eq_true rfl) ?_
    exact J14  _ _ _  hH hS (lv_sub hl [] rfl)
set_option maxHeartbeats 4000000 in
set_option maxRecDepth 100000 in
theorem s_Cut_visitNear (l : Launch) (D : va_G) (cs : CS) (kf : KF) (T : TF) (O : List Nat) (X : va_W) (a0 : Nat) (x1 : Int32) (x2 : Int32) (t_a0 : T a0 = some (11, 0, 0)) (l_x1 : 0 ≤ x1.toInt) (u_x1 : x1.toInt ≤ 27) (hO : okO T O [1, 11]) : TK l D cs kf yX1_visitNear cX1_visitNear 4 none { frames := 1, cells := 0, slots := 0, locals := 22 } [.ref a0, .int x1, .int x2] T O X (Tv D cs (fun u => u = (T, O, X))) := by
  refine tk_of (by decide) (Nat.le_of_ble_eq_true rfl) (fun p e s m below meth c ls A H locs hx hb hr hml hown hts hlocks hnm hkb hH hS hA hOX hks hE hl => ?_)
  have hown : s.vm.findClass RX1 = some m.cls := hown
  have hl : lv_has ls 4 [(0, .ref a0), (1, .int x1), (2, .int x2)] := hl
  refine lv_iconst (v := 0) hx hb dX1_visitNear_0 (by decide) ?_
  have J2 : ∀ (n : Nat) (p2_3 : Int32) (H : Heap) (locs : List Loc) (ls : Array Slot), (14 - p2_3.toInt).toNat = n → (0 ≤ p2_3.toInt) → (p2_3.toInt ≤ 14) → HT D cs A T O X H → va_S A s.heap H locs → lv_has ls 4 [(3, .int p2_3), (0, .ref a0), (1, .int x1), (2, .int x2)] → W p l e { frames := 1, cells := 0, slots := 0, locals := 22 } s m [.ref a0, .int x1, .int x2].toArray below meth c H locs 0 0 (MQ below (Tv D cs (fun u => u = (T, O, X)) A) [.ref a0, .int x1, .int x2].toArray s 0 0 A) (F0 m 2 ls []) := by
    intro n
    induction n using Nat.strongRecOn with
    | _ n ih2 =>
      intro p2_3 H locs ls hm2 l_p2_3 u_p2_3 hH hS hl
      refine lv_iload_n hx hb dX1_visitNear_2 rfl (lv_at hl 0 rfl) ?_
      refine lv_bipush (v := 14) hx hb dX1_visitNear_3 (by decide) ?_
      refine lv_icmp_ge (tgt := 28) hx hb dX1_visitNear_5 (by decide) (fun c5 => ?_) (fun c5 => ?_)
      · skip
        have tc5 := f_ge (k := 14) (by decide) c5
        exact te_v hx hb hr hlocks hH hS rfl dX1_visitNear_28
      · skip
        have tc5 := f_nge (k := 14) (by decide) c5
        refine lv_iload_n hx hb dX1_visitNear_8 rfl (lv_at hl 3 rfl) ?_
        refine lv_iload_n hx hb dX1_visitNear_9 rfl (lv_at hl 0 rfl) ?_
        refine lv_ishr hx hb dX1_visitNear_10 ?_
        refine lv_topi (fun v10 ev10 => ?_)
        refine lv_iconst (v := 1) hx hb dX1_visitNear_11 (by decide) ?_
        refine lv_iand hx hb dX1_visitNear_12 ?_
        refine lv_topi (fun v12 ev12 => ?_)
        have tv12 : 0 ≤ v12.toInt ∧ v12.toInt ≤ 1 := by rw [ev12]; exact and_r (by decide)
        have J22 : ∀  (H : Heap) (locs : List Loc) (ls : Array Slot), HT D cs A T O X H → va_S A s.heap H locs → lv_has ls 4 [(3, .int p2_3), (0, .ref a0), (1, .int x1), (2, .int x2)] → W p l e { frames := 1, cells := 0, slots := 0, locals := 22 } s m [.ref a0, .int x1, .int x2].toArray below meth c H locs 0 0 (MQ below (Tv D cs (fun u => u = (T, O, X)) A) [.ref a0, .int x1, .int x2].toArray s 0 0 A) (F0 m 22 ls []) := by
          intro  H locs ls  hH hS hl
          obtain ⟨v22, ev22⟩ : ∃ y : Int32, y = p2_3 + 1 := ⟨_, rfl⟩
          have tv22 : v22.toInt = p2_3.toInt + (1) := by rw [ev22]; exact add_i rfl (by decide) (by omega) (by omega)
          refine lv_iinc (v := v22) (lv' := [(3, .int v22), (0, .ref a0), (1, .int x1), (2, .int x2)]) hx hb dX1_visitNear_22 hl (k := 0) rfl (by rw [ev22]; rfl) (by decide) rfl (fun ls hl => ?_)
          refine lv_goto (tgt := 2) hx hb dX1_visitNear_25 (by decide) ?_
          exact ih2 _ (by omega) v22 _ _ _ rfl (by omega) (by omega) hH hS (lv_sub hl [0, 1, 2, 3] rfl)
        refine lv_if_eq (tgt := 22) hx hb dX1_visitNear_13 (by decide) (fun c13 => ?_) (fun c13 => ?_)
        · skip
          have tc13 := f_eq (k := 0) (by decide) c13
          exact J22  _ _ _  hH hS (lv_sub hl [0, 1, 2, 3] rfl)
        · skip
          have tc13 := f_ne (k := 0) (by decide) c13
          refine lv_aload_n hx hb dX1_visitNear_16 rfl (lv_at hl 1 rfl) ?_
          refine lv_iload_n hx hb dX1_visitNear_17 rfl (lv_at hl 0 rfl) ?_
          refine lv_iload_n hx hb dX1_visitNear_18 rfl (lv_at hl 2 rfl) ?_
          refine tk_v hH hS hA (tr_V (n := 2) (As := [.int p2_3, .int x1]) hx hb hml hown hts hkb hH hOX hks hE hS hA (s_Cut_visit l D cs kf T O X a0 p2_3 x1 t_a0 (by omega) (by omega) (by omega) (by omega) (hO.sub (by decide))) kw_1024 kw_1026 ks_33 kw_10 kw_1027 (by decide +kernel) ⟨Nat.le_of_ble_eq_true rfl, Nat.le_of_ble_eq_true rfl⟩ (HT.recv (ci := 1) hkb hH t_a0 (hO.no t_a0 (by decide)) rfl) rfl rfl hl.1 (Nat.le_of_ble_eq_true rfl) dX1_visitNear_19 ⟨Nat.le_of_ble_eq_true rfl, Nat.le_of_ble_eq_true rfl⟩) (fun u H locs hz9 hH hS => ?_)
          have hz9 : u = (T, O, X) := hz9
          subst hz9
          have hH : HT D cs A T O X H := hH
          refine W.widen (k := 0) (n := 0) (Nat.le_of_ble_eq_true rfl) (Nat.le_of_ble_eq_true rfl) ?_
          exact J22  _ _ _  hH hS (lv_sub hl [0, 1, 2, 3] rfl)
  refine lv_istore_n (lv' := [(3, .int 0), (0, .ref a0), (1, .int x1), (2, .int x2)]) hx hb dX1_visitNear_1 rfl hl (by decide) rfl (fun ls hl => ?_)
  exact J2 _ 0 _ _ _ rfl (by decide) (by decide) hH hS (lv_sub hl [0, 1, 2, 3] rfl)
set_option maxHeartbeats 4000000 in
set_option maxRecDepth 100000 in
theorem s_Cut_lay (l : Launch) (D : va_G) (cs : CS) (kf : KF) (T : TF) (O : List Nat) (X : va_W) (a0 : Nat) (x1 : Int32) (t_a0 : T a0 = some (11, 0, 0)) (l_x1 : 0 ≤ x1.toInt) (u_x1 : x1.toInt ≤ 27) (hO : okO T O [1, 11]) : TK l D cs kf yX1_lay cX1_lay 6 none { frames := 0, cells := 0, slots := 0, locals := 0 } [.ref a0, .int x1] T O X (Tv D cs (fun u => u = (T, O, X))) := by
  refine tk_of (by decide) (Nat.le_of_ble_eq_true rfl) (fun p e s m below meth c ls A H locs hx hb hr hml hown hts hlocks hnm hkb hH hS hA hOX hks hE hl => ?_)
  have hown : s.vm.findClass RX1 = some m.cls := hown
  have hl : lv_has ls 6 [(0, .ref a0), (1, .int x1)] := hl
  refine lv_iload_n hx hb dX1_lay_0 rfl (lv_at hl 1 rfl) ?_
  refine lv_istore_n (lv' := [(2, .int x1), (0, .ref a0), (1, .int x1)]) hx hb dX1_lay_1 rfl hl (by decide) rfl (fun ls hl => ?_)
  refine lv_iconst (v := 0) hx hb dX1_lay_2 (by decide) ?_
  have J4 : ∀ (n : Nat) (p4_3 : Int32) (p4_2 : Int32) (H : Heap) (locs : List Loc) (ls : Array Slot), (28 - p4_3.toInt).toNat = n → (0 ≤ p4_3.toInt) → (p4_3.toInt ≤ 28) → (-1 ≤ p4_2.toInt) → (p4_2.toInt ≤ 27) → HT D cs A T O X H → va_S A s.heap H locs → lv_has ls 6 [(3, .int p4_3), (2, .int p4_2), (0, .ref a0)] → W p l e { frames := 0, cells := 0, slots := 0, locals := 0 } s m [.ref a0, .int x1].toArray below meth c H locs 0 0 (MQ below (Tv D cs (fun u => u = (T, O, X)) A) [.ref a0, .int x1].toArray s 0 0 A) (F0 m 4 ls []) := by
    intro n
    induction n using Nat.strongRecOn with
    | _ n ih4 =>
      intro p4_3 p4_2 H locs ls hm4 l_p4_3 u_p4_3 l_p4_2 u_p4_2 hH hS hl
      refine lv_iload_n hx hb dX1_lay_4 rfl (lv_at hl 0 rfl) ?_
      refine lv_bipush (v := 28) hx hb dX1_lay_5 (by decide) ?_
      have J117 : ∀  (H : Heap) (locs : List Loc) (ls : Array Slot), HT D cs A T O X H → va_S A s.heap H locs → lv_has ls 6 [] → W p l e { frames := 0, cells := 0, slots := 0, locals := 0 } s m [.ref a0, .int x1].toArray below meth c H locs 0 0 (MQ below (Tv D cs (fun u => u = (T, O, X)) A) [.ref a0, .int x1].toArray s 0 0 A) (F0 m 117 ls []) := by
        intro  H locs ls  hH hS hl
        exact te_v hx hb hr hlocks hH hS rfl dX1_lay_117
      refine lv_icmp_ge (tgt := 117) hx hb dX1_lay_7 (by decide) (fun c7 => ?_) (fun c7 => ?_)
      · skip
        have tc7 := f_ge (k := 28) (by decide) c7
        exact J117  _ _ _  hH hS (lv_sub hl [] rfl)
      · skip
        have tc7 := f_nge (k := 28) (by decide) c7
        refine lv_iload_n hx hb dX1_lay_10 rfl (lv_at hl 1 rfl) ?_
        refine lv_iconst (v := (-1)) hx hb dX1_lay_11 (by decide) ?_
        refine lv_icmp_eq (tgt := 117) hx hb dX1_lay_12 (by decide) (fun c12 => ?_) (fun c12 => ?_)
        · skip
          have tc12 := f_eq (k := -1) (by decide) c12
          exact J117  _ _ _  hH hS (lv_sub hl [] rfl)
        · skip
          have tc12 := f_ne (k := -1) (by decide) c12
          refine lv_aload_n hx hb dX1_lay_15 rfl (lv_at hl 2 rfl) ?_
          refine t_get (ci := 1) (lst := ft1 0 0) (C := RX1) (F := TX1) (N := 7) hx hb hts uX1 hown hkb hH t_a0 (hO.no t_a0 (by decide)) (fun _ h9 => h9) rfl rfl 6 (by decide) rfl kw_308 (fun _ h9 => h9) dX1_lay_16 (fun v9 h9 => ?_)
          obtain ⟨v16, rfl, t_v16⟩ := h9
          refine lv_iload_n hx hb dX1_lay_19 rfl (lv_at hl 1 rfl) ?_
          refine t_ild hx hb hkb hH t_v16 (hO.no t_v16 (by decide)) (by omega) (by omega) dX1_lay_20 (fun v20 h9 => ?_)
          have tv20 : -1 ≤ v20.toInt ∧ v20.toInt ≤ 27 := h9
          refine lv_istore (lv' := [(4, .int v20), (3, .int p4_3), (2, .int p4_2), (0, .ref a0)]) hx hb dX1_lay_21 hl (by decide) rfl (fun ls hl => ?_)
          refine lv_iload_n hx hb dX1_lay_23 rfl (lv_at hl 2 rfl) ?_
          refine lv_bipush (v := 14) hx hb dX1_lay_24 (by decide) ?_
          refine lv_irem hx hb dX1_lay_26 (by decide) ?_
          refine lv_topi (fun v26 ev26 => ?_)
          have tv26 : (0 ≤ p4_2.toInt → 0 ≤ v26.toInt) ∧ v26.toInt < 14 ∧ -14 < v26.toInt ∧ (p4_2.toInt ≤ 0 → v26.toInt ≤ 0) := by rw [ev26]; exact irem_b (by decide) (by decide)
          refine lv_istore (lv' := [(5, .int v26), (4, .int v20), (3, .int p4_3), (2, .int p4_2), (0, .ref a0)]) hx hb dX1_lay_27 hl (by decide) rfl (fun ls hl => ?_)
          refine lv_iload_n hx hb dX1_lay_29 rfl (lv_at hl 3 rfl) ?_
          refine lv_bipush (v := 14) hx hb dX1_lay_30 (by decide) ?_
          have J108 : ∀  (H : Heap) (locs : List Loc) (ls : Array Slot), HT D cs A T O X H → va_S A s.heap H locs → lv_has ls 6 [(4, .int v20), (3, .int p4_3), (0, .ref a0)] → W p l e { frames := 0, cells := 0, slots := 0, locals := 0 } s m [.ref a0, .int x1].toArray below meth c H locs 0 0 (MQ below (Tv D cs (fun u => u = (T, O, X)) A) [.ref a0, .int x1].toArray s 0 0 A) (F0 m 108 ls []) := by
            intro  H locs ls  hH hS hl
            refine lv_iload hx hb dX1_lay_108 (lv_at hl 0 rfl) ?_
            refine lv_istore_n (lv' := [(2, .int v20), (4, .int v20), (3, .int p4_3), (0, .ref a0)]) hx hb dX1_lay_110 rfl hl (by decide) rfl (fun ls hl => ?_)
            obtain ⟨v111, ev111⟩ : ∃ y : Int32, y = p4_3 + 1 := ⟨_, rfl⟩
            have tv111 : v111.toInt = p4_3.toInt + (1) := by rw [ev111]; exact add_i rfl (by decide) (by omega) (by omega)
            refine lv_iinc (v := v111) (lv' := [(3, .int v111), (2, .int v20), (4, .int v20), (0, .ref a0)]) hx hb dX1_lay_111 hl (k := 2) rfl (by rw [ev111]; rfl) (by decide) rfl (fun ls hl => ?_)
            refine lv_goto (tgt := 4) hx hb dX1_lay_114 (by decide) ?_
            exact ih4 _ (by omega) v111 v20 _ _ _ rfl (by omega) (by omega) (by omega) (by omega) hH hS (lv_sub hl [0, 1, 3] rfl)
          refine lv_icmp_lt (tgt := 58) hx hb dX1_lay_32 (by decide) (fun c32 => ?_) (fun c32 => ?_)
          · skip
            have tc32 := f_lt (k := 14) (by decide) c32
            refine lv_iload hx hb dX1_lay_58 (lv_at hl 1 rfl) ?_
            refine lv_bipush (v := 14) hx hb dX1_lay_60 (by decide) ?_
            refine lv_iload hx hb dX1_lay_62 (lv_at hl 0 rfl) ?_
            refine lv_iadd hx hb dX1_lay_64 ?_
            refine lv_topi (fun v64 ev64 => ?_)
            have tv64 : v64.toInt = (14) + v26.toInt := by rw [ev64]; exact add_i (by decide : (14 : Int32).toInt = 14) rfl (by omega) (by omega)
            refine lv_icmp_ne (tgt := 86) hx hb dX1_lay_65 (by decide) (fun c65 => ?_) (fun c65 => ?_)
            · skip
              have fuc65 := full_i v20
              have fvc65 := full_i v64
              have tc65 := g_ne c65
              refine lv_aload_n hx hb dX1_lay_86 rfl (lv_at hl 4 rfl) ?_
              refine t_get (ci := 1) (lst := ft1 0 0) (C := RX1) (F := TX1) (N := 7) hx hb hts uX1 hown hkb hH t_a0 (hO.no t_a0 (by decide)) (fun _ h9 => h9) rfl rfl 1 (by decide) rfl kw_303 (fun _ h9 => h9) dX1_lay_87 (fun v9 h9 => ?_)
              obtain ⟨v87, rfl, t_v87⟩ := h9
              refine lv_iload hx hb dX1_lay_90 (lv_at hl 0 rfl) ?_
              refine lv_iload hx hb dX1_lay_92 (lv_at hl 1 rfl) ?_
              refine lv_iconst (v := (-1)) hx hb dX1_lay_94 (by decide) ?_
              have J107 : ∀ (k107_0 : Int32) (H : Heap) (locs : List Loc) (ls : Array Slot), (-14 ≤ k107_0.toInt) → (k107_0.toInt ≤ 13) → HT D cs A T O X H → va_S A s.heap H locs → lv_has ls 6 [(4, .int v20), (3, .int p4_3), (0, .ref a0)] → W p l e { frames := 0, cells := 0, slots := 0, locals := 0 } s m [.ref a0, .int x1].toArray below meth c H locs 0 0 (MQ below (Tv D cs (fun u => u = (T, O, X)) A) [.ref a0, .int x1].toArray s 0 0 A) (F0 m 107 ls [.int k107_0, .int v26, .ref v87]) := by
                intro k107_0 H locs ls l_k107_0 u_k107_0 hH hS hl
                refine t_ist hx hb hkb hH hS t_v87 (hO.no t_v87 (by decide)) (by omega) (by omega) (show -14 ≤ k107_0.toInt ∧ k107_0.toInt ≤ 13 from by omega) dX1_lay_107 (fun H locs hH hS => ?_)
                exact J108  _ _ _  hH hS (lv_sub hl [0, 1, 2] rfl)
              refine lv_icmp_ne (tgt := 102) hx hb dX1_lay_95 (by decide) (fun c95 => ?_) (fun c95 => ?_)
              · skip
                have tc95 := f_ne (k := -1) (by decide) c95
                refine lv_iload hx hb dX1_lay_102 (lv_at hl 1 rfl) ?_
                refine lv_bipush (v := 14) hx hb dX1_lay_104 (by decide) ?_
                refine lv_isub hx hb dX1_lay_106 ?_
                refine lv_topi (fun v106 ev106 => ?_)
                have tv106 : v106.toInt = v20.toInt - (14) := by rw [ev106]; exact sub_i rfl (by decide : (14 : Int32).toInt = 14) (by omega) (by omega)
                exact J107 v106 _ _ _ (by omega) (by omega) hH hS (lv_sub hl [1, 2, 4] rfl)
              · skip
                have tc95 := f_eq (k := -1) (by decide) c95
                refine lv_iconst (v := (-1)) hx hb dX1_lay_98 (by decide) ?_
                refine lv_goto (tgt := 107) hx hb dX1_lay_99 (by decide) ?_
                exact J107 (-1) _ _ _ (by decide) (by decide) hH hS (lv_sub hl [1, 2, 4] rfl)
            · skip
              have fuc65 := full_i v20
              have fvc65 := full_i v64
              have tc65 := g_eq c65
              refine lv_aload_n hx hb dX1_lay_68 rfl (lv_at hl 4 rfl) ?_
              refine lv_dup hx hb dX1_lay_69 rfl ?_
              refine t_get (ci := 1) (lst := ft1 0 0) (C := RX1) (F := TX1) (N := 7) hx hb hts uX1 hown hkb hH t_a0 (hO.no t_a0 (by decide)) (fun _ h9 => h9) rfl rfl 2 (by decide) rfl kw_304 (fun _ h9 => h9) dX1_lay_70 (fun v9 h9 => ?_)
              obtain ⟨v70, rfl⟩ := h9
              refine lv_iconst (v := 1) hx hb dX1_lay_73 (by decide) ?_
              refine lv_iload hx hb dX1_lay_74 (lv_at hl 0 rfl) ?_
              refine lv_ishl hx hb dX1_lay_76 ?_
              refine lv_topi (fun v76 ev76 => ?_)
              have tv76 : 1 ≤ v76.toInt ∧ v76.toInt ≤ 8192 := by rw [ev76]; exact shl_b 13 (by decide) (by omega) (by omega)
              refine lv_iconst (v := (-1)) hx hb dX1_lay_77 (by decide) ?_
              refine lv_ixor hx hb dX1_lay_78 ?_
              refine lv_topi (fun v78 ev78 => ?_)
              refine lv_iand hx hb dX1_lay_79 ?_
              refine lv_topi (fun v79 ev79 => ?_)
              refine t_put (ci := 1) (lst := ft1 0 0) (v := .int v79) (ty := tyX1 2) (C := RX1) (F := TX1) (N := 7) hx hb hts uX1 tyX1 tyX1_ok nmX1 hown hkb hH hS t_a0 (hO.no t_a0 (by decide)) (fun _ => Iff.rfl) rfl rfl 2 (by decide) rfl (⟨_, rfl⟩) kw_304 (fun _ h9 => h9) rfl (tyX1_ok 2 (by decide)) rfl rfl dX1_lay_80 (fun H locs hH hS => ?_)
              refine lv_goto (tgt := 108) hx hb dX1_lay_83 (by decide) ?_
              exact J108  _ _ _  hH hS (lv_sub hl [1, 2, 4] rfl)
          · skip
            have tc32 := f_nlt (k := 14) (by decide) c32
            refine lv_iload hx hb dX1_lay_35 (lv_at hl 1 rfl) ?_
            refine lv_iload hx hb dX1_lay_37 (lv_at hl 0 rfl) ?_
            refine lv_icmp_ne (tgt := 108) hx hb dX1_lay_39 (by decide) (fun c39 => ?_) (fun c39 => ?_)
            · skip
              have fuc39 := full_i v20
              have fvc39 := full_i v26
              have tc39 := g_ne c39
              exact J108  _ _ _  hH hS (lv_sub hl [1, 2, 4] rfl)
            · skip
              have fuc39 := full_i v20
              have fvc39 := full_i v26
              have tc39 := g_eq c39
              refine lv_aload_n hx hb dX1_lay_42 rfl (lv_at hl 4 rfl) ?_
              refine lv_dup hx hb dX1_lay_43 rfl ?_
              refine t_get (ci := 1) (lst := ft1 0 0) (C := RX1) (F := TX1) (N := 7) hx hb hts uX1 hown hkb hH t_a0 (hO.no t_a0 (by decide)) (fun _ h9 => h9) rfl rfl 2 (by decide) rfl kw_304 (fun _ h9 => h9) dX1_lay_44 (fun v9 h9 => ?_)
              obtain ⟨v44, rfl⟩ := h9
              refine lv_iconst (v := 1) hx hb dX1_lay_47 (by decide) ?_
              refine lv_iload hx hb dX1_lay_48 (lv_at hl 0 rfl) ?_
              refine lv_ishl hx hb dX1_lay_50 ?_
              refine lv_topi (fun v50 ev50 => ?_)
              have tv50 : 1 ≤ v50.toInt ∧ v50.toInt ≤ 8192 := by rw [ev50]; exact shl_b 13 (by decide) (by omega) (by omega)
              refine lv_ior hx hb dX1_lay_51 ?_
              refine lv_topi (fun v51 ev51 => ?_)
              refine t_put (ci := 1) (lst := ft1 0 0) (v := .int v51) (ty := tyX1 2) (C := RX1) (F := TX1) (N := 7) hx hb hts uX1 tyX1 tyX1_ok nmX1 hown hkb hH hS t_a0 (hO.no t_a0 (by decide)) (fun _ => Iff.rfl) rfl rfl 2 (by decide) rfl (⟨_, rfl⟩) kw_304 (fun _ h9 => h9) rfl (tyX1_ok 2 (by decide)) rfl rfl dX1_lay_52 (fun H locs hH hS => ?_)
              refine lv_goto (tgt := 108) hx hb dX1_lay_55 (by decide) ?_
              exact J108  _ _ _  hH hS (lv_sub hl [1, 2, 4] rfl)
  refine lv_istore_n (lv' := [(3, .int 0), (2, .int x1), (0, .ref a0), (1, .int x1)]) hx hb dX1_lay_3 rfl hl (by decide) rfl (fun ls hl => ?_)
  exact J4 _ 0 x1 _ _ _ rfl (by decide) (by decide) (by omega) (by omega) hH hS (lv_sub hl [0, 1, 2] rfl)
set_option maxHeartbeats 4000000 in
set_option maxRecDepth 100000 in
theorem s_Cut_layOneMore (l : Launch) (D : va_G) (cs : CS) (kf : KF) (T : TF) (O : List Nat) (X : va_W) (a0 : Nat) (x1 : Int32) (x2 : Int32) (t_a0 : T a0 = some (11, 0, 0)) (hO : okO T O [1, 11]) : TK l D cs kf yX1_layOneMore cX1_layOneMore 7 (some (.boolean)) { frames := 2, cells := 0, slots := 0, locals := 45 } [.ref a0, .int x1, .int x2] T O X (Ti D cs (fun r u => u = (T, O, X) ∧ 0 ≤ r.toInt ∧ r.toInt ≤ 1)) := by
  refine tk_of (by decide) (Nat.le_of_ble_eq_true rfl) (fun p e s m below meth c ls A H locs hx hb hr hml hown hts hlocks hnm hkb hH hS hA hOX hks hE hl => ?_)
  have hown : s.vm.findClass RX1 = some m.cls := hown
  have hl : lv_has ls 7 [(0, .ref a0), (1, .int x1), (2, .int x2)] := hl
  refine lv_aload_n hx hb dX1_layOneMore_0 rfl (lv_at hl 0 rfl) ?_
  refine lv_iconst (v := 0) hx hb dX1_layOneMore_1 (by decide) ?_
  refine t_put (ci := 1) (lst := ft1 0 0) (v := .int 0) (ty := tyX1 4) (C := RX1) (F := TX1) (N := 7) hx hb hts uX1 tyX1 tyX1_ok nmX1 hown hkb hH hS t_a0 (hO.no t_a0 (by decide)) (fun _ => Iff.rfl) rfl rfl 4 (by decide) rfl (⟨_, rfl, by decide, by decide⟩) kw_306 (fun _ h9 => h9) rfl (tyX1_ok 4 (by decide)) rfl rfl dX1_layOneMore_2 (fun H locs hH hS => ?_)
  refine lv_aload_n hx hb dX1_layOneMore_5 rfl (lv_at hl 0 rfl) ?_
  refine lv_iconst (v := 0) hx hb dX1_layOneMore_6 (by decide) ?_
  refine t_put (ci := 1) (lst := ft1 0 0) (v := .int 0) (ty := tyX1 5) (C := RX1) (F := TX1) (N := 7) hx hb hts uX1 tyX1 tyX1_ok nmX1 hown hkb hH hS t_a0 (hO.no t_a0 (by decide)) (fun _ => Iff.rfl) rfl rfl 5 (by decide) rfl (⟨_, rfl⟩) kw_307 (fun _ h9 => h9) rfl (tyX1_ok 5 (by decide)) rfl rfl dX1_layOneMore_7 (fun H locs hH hS => ?_)
  refine lv_iconst (v := 0) hx hb dX1_layOneMore_10 (by decide) ?_
  have J12 : ∀ (n : Nat) (p12_3 : Int32) (H : Heap) (locs : List Loc) (ls : Array Slot), (14 - p12_3.toInt).toNat = n → (0 ≤ p12_3.toInt) → (p12_3.toInt ≤ 14) → HT D cs A T O X H → va_S A s.heap H locs → lv_has ls 7 [(3, .int p12_3), (0, .ref a0), (1, .int x1), (2, .int x2)] → W p l e { frames := 2, cells := 0, slots := 0, locals := 45 } s m [.ref a0, .int x1, .int x2].toArray below meth c H locs 0 0 (MQ below (Ti D cs (fun r u => u = (T, O, X) ∧ 0 ≤ r.toInt ∧ r.toInt ≤ 1) A) [.ref a0, .int x1, .int x2].toArray s 0 0 A) (F0 m 12 ls []) := by
    intro n
    induction n using Nat.strongRecOn with
    | _ n ih12 =>
      intro p12_3 H locs ls hm12 l_p12_3 u_p12_3 hH hS hl
      refine lv_iload_n hx hb dX1_layOneMore_12 rfl (lv_at hl 0 rfl) ?_
      refine lv_bipush (v := 14) hx hb dX1_layOneMore_13 (by decide) ?_
      refine lv_icmp_ge (tgt := 38) hx hb dX1_layOneMore_15 (by decide) (fun c15 => ?_) (fun c15 => ?_)
      · skip
        have tc15 := f_ge (k := 14) (by decide) c15
        refine lv_iconst (v := 0) hx hb dX1_layOneMore_38 (by decide) ?_
        have J40 : ∀ (n : Nat) (p40_3 : Int32) (H : Heap) (locs : List Loc) (ls : Array Slot), (28 - p40_3.toInt).toNat = n → (0 ≤ p40_3.toInt) → (p40_3.toInt ≤ 28) → HT D cs A T O X H → va_S A s.heap H locs → lv_has ls 7 [(3, .int p40_3), (0, .ref a0), (2, .int x2)] → W p l e { frames := 2, cells := 0, slots := 0, locals := 45 } s m [.ref a0, .int x1, .int x2].toArray below meth c H locs 0 0 (MQ below (Ti D cs (fun r u => u = (T, O, X) ∧ 0 ≤ r.toInt ∧ r.toInt ≤ 1) A) [.ref a0, .int x1, .int x2].toArray s 0 0 A) (F0 m 40 ls []) := by
          intro n
          induction n using Nat.strongRecOn with
          | _ n ih40 =>
            intro p40_3 H locs ls hm40 l_p40_3 u_p40_3 hH hS hl
            refine lv_iload_n hx hb dX1_layOneMore_40 rfl (lv_at hl 0 rfl) ?_
            refine lv_bipush (v := 28) hx hb dX1_layOneMore_41 (by decide) ?_
            have J178 : ∀  (H : Heap) (locs : List Loc) (ls : Array Slot), HT D cs A T O X H → va_S A s.heap H locs → lv_has ls 7 [] → W p l e { frames := 2, cells := 0, slots := 0, locals := 45 } s m [.ref a0, .int x1, .int x2].toArray below meth c H locs 0 0 (MQ below (Ti D cs (fun r u => u = (T, O, X) ∧ 0 ≤ r.toInt ∧ r.toInt ≤ 1) A) [.ref a0, .int x1, .int x2].toArray s 0 0 A) (F0 m 178 ls []) := by
              intro  H locs ls  hH hS hl
              refine lv_iconst (v := 0) hx hb dX1_layOneMore_178 (by decide) ?_
              exact te_z hx hb hr hlocks (by rfl) hH hS (⟨rfl, by decide, by decide⟩) dX1_layOneMore_179
            refine lv_icmp_ge (tgt := 178) hx hb dX1_layOneMore_43 (by decide) (fun c43 => ?_) (fun c43 => ?_)
            · skip
              have tc43 := f_ge (k := 28) (by decide) c43
              exact J178  _ _ _  hH hS (lv_sub hl [] rfl)
            · skip
              have tc43 := f_nge (k := 28) (by decide) c43
              refine lv_iload_n hx hb dX1_layOneMore_46 rfl (lv_at hl 0 rfl) ?_
              refine lv_aload_n hx hb dX1_layOneMore_47 rfl (lv_at hl 1 rfl) ?_
              refine t_get (ci := 1) (lst := ft1 0 0) (C := RX1) (F := TX1) (N := 7) hx hb hts uX1 hown hkb hH t_a0 (hO.no t_a0 (by decide)) (fun _ h9 => h9) rfl rfl 4 (by decide) rfl kw_306 (fun _ h9 => h9) dX1_layOneMore_48 (fun v9 h9 => ?_)
              obtain ⟨v48, rfl, l_v48, u_v48⟩ := h9
              refine lv_icmp_ge (tgt := 178) hx hb dX1_layOneMore_51 (by decide) (fun c51 => ?_) (fun c51 => ?_)
              · skip
                have fuc51 := full_i p40_3
                have fvc51 := full_i v48
                have tc51 := g_le c51
                exact J178  _ _ _  hH hS (lv_sub hl [] rfl)
              · skip
                have fuc51 := full_i p40_3
                have fvc51 := full_i v48
                have tc51 := g_nle c51
                refine lv_aload_n hx hb dX1_layOneMore_54 rfl (lv_at hl 1 rfl) ?_
                refine t_get (ci := 1) (lst := ft1 0 0) (C := RX1) (F := TX1) (N := 7) hx hb hts uX1 hown hkb hH t_a0 (hO.no t_a0 (by decide)) (fun _ h9 => h9) rfl rfl 3 (by decide) rfl kw_305 (fun _ h9 => h9) dX1_layOneMore_55 (fun v9 h9 => ?_)
                obtain ⟨v55, rfl, t_v55⟩ := h9
                refine lv_iload_n hx hb dX1_layOneMore_58 rfl (lv_at hl 0 rfl) ?_
                refine t_ild hx hb hkb hH t_v55 (hO.no t_v55 (by decide)) (by omega) (by omega) dX1_layOneMore_59 (fun v59 h9 => ?_)
                have tv59 : 0 ≤ v59.toInt ∧ v59.toInt ≤ 27 := h9
                refine lv_istore (lv' := [(4, .int v59), (3, .int p40_3), (0, .ref a0), (2, .int x2)]) hx hb dX1_layOneMore_60 hl (by decide) rfl (fun ls hl => ?_)
                refine lv_iload hx hb dX1_layOneMore_62 (lv_at hl 0 rfl) ?_
                refine lv_bipush (v := 14) hx hb dX1_layOneMore_64 (by decide) ?_
                refine lv_irem hx hb dX1_layOneMore_66 (by decide) ?_
                refine lv_topi (fun v66 ev66 => ?_)
                have tv66 : (0 ≤ v59.toInt → 0 ≤ v66.toInt) ∧ v66.toInt < 14 ∧ -14 < v66.toInt ∧ (v59.toInt ≤ 0 → v66.toInt ≤ 0) := by rw [ev66]; exact irem_b (by decide) (by decide)
                refine lv_istore (lv' := [(5, .int v66), (4, .int v59), (3, .int p40_3), (0, .ref a0), (2, .int x2)]) hx hb dX1_layOneMore_67 hl (by decide) rfl (fun ls hl => ?_)
                refine lv_aload_n hx hb dX1_layOneMore_69 rfl (lv_at hl 3 rfl) ?_
                refine t_get (ci := 1) (lst := ft1 0 0) (C := RX1) (F := TX1) (N := 7) hx hb hts uX1 hown hkb hH t_a0 (hO.no t_a0 (by decide)) (fun _ h9 => h9) rfl rfl 2 (by decide) rfl kw_304 (fun _ h9 => h9) dX1_layOneMore_70 (fun v9 h9 => ?_)
                obtain ⟨v70, rfl⟩ := h9
                refine lv_iload hx hb dX1_layOneMore_73 (lv_at hl 0 rfl) ?_
                refine lv_ishr hx hb dX1_layOneMore_75 ?_
                refine lv_topi (fun v75 ev75 => ?_)
                refine lv_iconst (v := 1) hx hb dX1_layOneMore_76 (by decide) ?_
                refine lv_iand hx hb dX1_layOneMore_77 ?_
                refine lv_topi (fun v77 ev77 => ?_)
                have tv77 : 0 ≤ v77.toInt ∧ v77.toInt ≤ 1 := by rw [ev77]; exact and_r (by decide)
                have J86 : ∀ (k86_0 : Int32) (H : Heap) (locs : List Loc) (ls : Array Slot), (0 ≤ k86_0.toInt) → (k86_0.toInt ≤ 1) → HT D cs A T O X H → va_S A s.heap H locs → lv_has ls 7 [(5, .int v66), (4, .int v59), (3, .int p40_3), (0, .ref a0), (2, .int x2)] → W p l e { frames := 2, cells := 0, slots := 0, locals := 45 } s m [.ref a0, .int x1, .int x2].toArray below meth c H locs 0 0 (MQ below (Ti D cs (fun r u => u = (T, O, X) ∧ 0 ≤ r.toInt ∧ r.toInt ≤ 1) A) [.ref a0, .int x1, .int x2].toArray s 0 0 A) (F0 m 86 ls [.int k86_0]) := by
                  intro k86_0 H locs ls l_k86_0 u_k86_0 hH hS hl
                  refine lv_istore (lv' := [(6, .int k86_0), (5, .int v66), (4, .int v59), (3, .int p40_3), (0, .ref a0), (2, .int x2)]) hx hb dX1_layOneMore_86 hl (by decide) rfl (fun ls hl => ?_)
                  refine lv_iload hx hb dX1_layOneMore_88 (lv_at hl 2 rfl) ?_
                  refine lv_bipush (v := 14) hx hb dX1_layOneMore_90 (by decide) ?_
                  have J172 : ∀  (H : Heap) (locs : List Loc) (ls : Array Slot), HT D cs A T O X H → va_S A s.heap H locs → lv_has ls 7 [(3, .int p40_3), (0, .ref a0), (2, .int x2)] → W p l e { frames := 2, cells := 0, slots := 0, locals := 45 } s m [.ref a0, .int x1, .int x2].toArray below meth c H locs 0 0 (MQ below (Ti D cs (fun r u => u = (T, O, X) ∧ 0 ≤ r.toInt ∧ r.toInt ≤ 1) A) [.ref a0, .int x1, .int x2].toArray s 0 0 A) (F0 m 172 ls []) := by
                    intro  H locs ls  hH hS hl
                    obtain ⟨v172, ev172⟩ : ∃ y : Int32, y = p40_3 + 1 := ⟨_, rfl⟩
                    have tv172 : v172.toInt = p40_3.toInt + (1) := by rw [ev172]; exact add_i rfl (by decide) (by omega) (by omega)
                    refine lv_iinc (v := v172) (lv' := [(3, .int v172), (0, .ref a0), (2, .int x2)]) hx hb dX1_layOneMore_172 hl (k := 0) rfl (by rw [ev172]; rfl) (by decide) rfl (fun ls hl => ?_)
                    refine lv_goto (tgt := 40) hx hb dX1_layOneMore_175 (by decide) ?_
                    exact ih40 _ (by omega) v172 _ _ _ rfl (by omega) (by omega) hH hS (lv_sub hl [0, 1, 2] rfl)
                  refine lv_icmp_ge (tgt := 121) hx hb dX1_layOneMore_92 (by decide) (fun c92 => ?_) (fun c92 => ?_)
                  · skip
                    have tc92 := f_ge (k := 14) (by decide) c92
                    refine lv_aload_n hx hb dX1_layOneMore_121 rfl (lv_at hl 4 rfl) ?_
                    refine t_get (ci := 1) (lst := ft1 0 0) (C := RX1) (F := TX1) (N := 7) hx hb hts uX1 hown hkb hH t_a0 (hO.no t_a0 (by decide)) (fun _ h9 => h9) rfl rfl 0 (by decide) rfl kw_302 (fun _ h9 => h9) dX1_layOneMore_122 (fun v9 h9 => ?_)
                    obtain ⟨v122, rfl, t_v122⟩ := h9
                    refine lv_iload hx hb dX1_layOneMore_125 (lv_at hl 1 rfl) ?_
                    refine t_ild hx hb hkb hH t_v122 (hO.no t_v122 (by decide)) (by omega) (by omega) dX1_layOneMore_127 (fun v127 h9 => ?_)
                    refine lv_iload_n hx hb dX1_layOneMore_128 rfl (lv_at hl 5 rfl) ?_
                    refine lv_iand hx hb dX1_layOneMore_129 ?_
                    refine lv_topi (fun v129 ev129 => ?_)
                    refine lv_if_eq (tgt := 141) hx hb dX1_layOneMore_130 (by decide) (fun c130 => ?_) (fun c130 => ?_)
                    · skip
                      have tc130 := f_eq (k := 0) (by decide) c130
                      refine lv_aload_n hx hb dX1_layOneMore_141 rfl (lv_at hl 4 rfl) ?_
                      refine lv_iload hx hb dX1_layOneMore_142 (lv_at hl 2 rfl) ?_
                      refine lv_aload_n hx hb dX1_layOneMore_144 rfl (lv_at hl 4 rfl) ?_
                      refine t_get (ci := 1) (lst := ft1 0 0) (C := RX1) (F := TX1) (N := 7) hx hb hts uX1 hown hkb hH t_a0 (hO.no t_a0 (by decide)) (fun _ h9 => h9) rfl rfl 0 (by decide) rfl kw_302 (fun _ h9 => h9) dX1_layOneMore_145 (fun v9 h9 => ?_)
                      obtain ⟨v145, rfl, t_v145⟩ := h9
                      refine lv_iload hx hb dX1_layOneMore_148 (lv_at hl 1 rfl) ?_
                      refine t_ild hx hb hkb hH t_v145 (hO.no t_v145 (by decide)) (by omega) (by omega) dX1_layOneMore_150 (fun v150 h9 => ?_)
                      refine lv_iload_n hx hb dX1_layOneMore_151 rfl (lv_at hl 5 rfl) ?_
                      refine lv_iconst (v := (-1)) hx hb dX1_layOneMore_152 (by decide) ?_
                      refine lv_ixor hx hb dX1_layOneMore_153 ?_
                      refine lv_topi (fun v153 ev153 => ?_)
                      refine lv_iand hx hb dX1_layOneMore_154 ?_
                      refine lv_topi (fun v154 ev154 => ?_)
                      refine lv_iload hx hb dX1_layOneMore_155 (lv_at hl 0 rfl) ?_
                      have J168 : ∀ (k168_0 : Int32) (H : Heap) (locs : List Loc) (ls : Array Slot), (0 ≤ k168_0.toInt) → (k168_0.toInt ≤ 8192) → HT D cs A T O X H → va_S A s.heap H locs → lv_has ls 7 [(3, .int p40_3), (0, .ref a0), (2, .int x2)] → W p l e { frames := 2, cells := 0, slots := 0, locals := 45 } s m [.ref a0, .int x1, .int x2].toArray below meth c H locs 0 0 (MQ below (Ti D cs (fun r u => u = (T, O, X) ∧ 0 ≤ r.toInt ∧ r.toInt ≤ 1) A) [.ref a0, .int x1, .int x2].toArray s 0 0 A) (F0 m 168 ls [.int k168_0, .int v154, .int v59, .ref a0]) := by
                        intro k168_0 H locs ls l_k168_0 u_k168_0 hH hS hl
                        refine lv_ior hx hb dX1_layOneMore_168 ?_
                        refine lv_topi (fun v168 ev168 => ?_)
                        refine tk_v hH hS hA (tr_V (n := 2) (As := [.int v59, .int v168]) hx hb hml hown hts hkb hH hOX hks hE hS hA (s_Cut_visitNear l D cs kf T O X a0 v59 v168 t_a0 (by omega) (by omega) (hO.sub (by decide))) kw_1036 kw_1038 ks_36 kw_10 kw_1039 (by decide +kernel) ⟨Nat.le_of_ble_eq_true rfl, Nat.le_of_ble_eq_true rfl⟩ (HT.recv (ci := 1) hkb hH t_a0 (hO.no t_a0 (by decide)) rfl) rfl rfl hl.1 (Nat.le_of_ble_eq_true rfl) dX1_layOneMore_169 ⟨Nat.le_of_ble_eq_true rfl, Nat.le_of_ble_eq_true rfl⟩) (fun u H locs hz9 hH hS => ?_)
                        have hz9 : u = (T, O, X) := hz9
                        subst hz9
                        have hH : HT D cs A T O X H := hH
                        refine W.widen (k := 0) (n := 0) (Nat.le_of_ble_eq_true rfl) (Nat.le_of_ble_eq_true rfl) ?_
                        exact J172  _ _ _  hH hS (lv_sub hl [0, 1, 2] rfl)
                      refine lv_if_eq (tgt := 167) hx hb dX1_layOneMore_157 (by decide) (fun c157 => ?_) (fun c157 => ?_)
                      · skip
                        have tc157 := f_eq (k := 0) (by decide) c157
                        refine lv_iconst (v := 0) hx hb dX1_layOneMore_167 (by decide) ?_
                        exact J168 0 _ _ _ (by decide) (by decide) hH hS (lv_sub hl [3, 4, 5] rfl)
                      · skip
                        have tc157 := f_ne (k := 0) (by decide) c157
                        refine lv_iconst (v := 1) hx hb dX1_layOneMore_160 (by decide) ?_
                        refine lv_iload hx hb dX1_layOneMore_161 (lv_at hl 1 rfl) ?_
                        refine lv_ishl hx hb dX1_layOneMore_163 ?_
                        refine lv_topi (fun v163 ev163 => ?_)
                        have tv163 : 1 ≤ v163.toInt ∧ v163.toInt ≤ 8192 := by rw [ev163]; exact shl_b 13 (by decide) (by omega) (by omega)
                        refine lv_goto (tgt := 168) hx hb dX1_layOneMore_164 (by decide) ?_
                        exact J168 v163 _ _ _ (by omega) (by omega) hH hS (lv_sub hl [3, 4, 5] rfl)
                    · skip
                      have tc130 := f_ne (k := 0) (by decide) c130
                      refine lv_aload_n hx hb dX1_layOneMore_133 rfl (lv_at hl 4 rfl) ?_
                      refine lv_iload hx hb dX1_layOneMore_134 (lv_at hl 2 rfl) ?_
                      refine tk_v hH hS hA (tr_V (n := 1) (As := [.int v59]) hx hb hml hown hts hkb hH hOX hks hE hS hA (s_Cut_lay l D cs kf T O X a0 v59 t_a0 (by omega) (by omega) (hO.sub (by decide))) kw_1032 kw_1034 ks_35 kw_10 kw_1035 (by decide +kernel) ⟨Nat.le_of_ble_eq_true rfl, Nat.le_of_ble_eq_true rfl⟩ (HT.recv (ci := 1) hkb hH t_a0 (hO.no t_a0 (by decide)) rfl) rfl rfl hl.1 (Nat.le_of_ble_eq_true rfl) dX1_layOneMore_136 ⟨Nat.le_of_ble_eq_true rfl, Nat.le_of_ble_eq_true rfl⟩) (fun u H locs hz9 hH hS => ?_)
                      have hz9 : u = (T, O, X) := hz9
                      subst hz9
                      have hH : HT D cs A T O X H := hH
                      refine W.widen (k := 0) (n := 0) (Nat.le_of_ble_eq_true rfl) (Nat.le_of_ble_eq_true rfl) ?_
                      refine lv_iconst (v := 1) hx hb dX1_layOneMore_139 (by decide) ?_
                      exact te_z hx hb hr hlocks (by rfl) hH hS (⟨rfl, by decide, by decide⟩) dX1_layOneMore_140
                  · skip
                    have tc92 := f_nge (k := 14) (by decide) c92
                    refine lv_aload_n hx hb dX1_layOneMore_95 rfl (lv_at hl 4 rfl) ?_
                    refine lv_iload hx hb dX1_layOneMore_96 (lv_at hl 2 rfl) ?_
                    refine lv_iload hx hb dX1_layOneMore_98 (lv_at hl 0 rfl) ?_
                    have J115 : ∀ (k115_0 : Int32) (H : Heap) (locs : List Loc) (ls : Array Slot), (-14 ≤ k115_0.toInt) → (k115_0.toInt ≤ 13) → HT D cs A T O X H → va_S A s.heap H locs → lv_has ls 7 [(3, .int p40_3), (0, .ref a0), (2, .int x2)] → W p l e { frames := 2, cells := 0, slots := 0, locals := 45 } s m [.ref a0, .int x1, .int x2].toArray below meth c H locs 0 0 (MQ below (Ti D cs (fun r u => u = (T, O, X) ∧ 0 ≤ r.toInt ∧ r.toInt ≤ 1) A) [.ref a0, .int x1, .int x2].toArray s 0 0 A) (F0 m 115 ls [.int k115_0, .int v59, .ref a0]) := by
                      intro k115_0 H locs ls l_k115_0 u_k115_0 hH hS hl
                      refine tk_v hH hS hA (tr_V (n := 2) (As := [.int v59, .int k115_0]) hx hb hml hown hts hkb hH hOX hks hE hS hA (s_Cut_visitBeyond l D cs kf T O X a0 v59 k115_0 t_a0 (by omega) (by omega) (by omega) (by omega) (hO.sub (by decide))) kw_1028 kw_1030 ks_34 kw_10 kw_1031 (by decide +kernel) ⟨Nat.le_of_ble_eq_true rfl, Nat.le_of_ble_eq_true rfl⟩ (HT.recv (ci := 1) hkb hH t_a0 (hO.no t_a0 (by decide)) rfl) rfl rfl hl.1 (Nat.le_of_ble_eq_true rfl) dX1_layOneMore_115 ⟨Nat.le_of_ble_eq_true rfl, Nat.le_of_ble_eq_true rfl⟩) (fun u H locs hz9 hH hS => ?_)
                      have hz9 : u = (T, O, X) := hz9
                      subst hz9
                      have hH : HT D cs A T O X H := hH
                      refine W.widen (k := 0) (n := 0) (Nat.le_of_ble_eq_true rfl) (Nat.le_of_ble_eq_true rfl) ?_
                      refine lv_goto (tgt := 172) hx hb dX1_layOneMore_118 (by decide) ?_
                      exact J172  _ _ _  hH hS (lv_sub hl [0, 1, 2] rfl)
                    refine lv_if_eq (tgt := 113) hx hb dX1_layOneMore_100 (by decide) (fun c100 => ?_) (fun c100 => ?_)
                    · skip
                      have tc100 := f_eq (k := 0) (by decide) c100
                      refine lv_iload hx hb dX1_layOneMore_113 (lv_at hl 1 rfl) ?_
                      exact J115 v66 _ _ _ (by omega) (by omega) hH hS (lv_sub hl [3, 4, 5] rfl)
                    · skip
                      have tc100 := f_ne (k := 0) (by decide) c100
                      refine lv_aload_n hx hb dX1_layOneMore_103 rfl (lv_at hl 4 rfl) ?_
                      refine t_get (ci := 1) (lst := ft1 0 0) (C := RX1) (F := TX1) (N := 7) hx hb hts uX1 hown hkb hH t_a0 (hO.no t_a0 (by decide)) (fun _ h9 => h9) rfl rfl 1 (by decide) rfl kw_303 (fun _ h9 => h9) dX1_layOneMore_104 (fun v9 h9 => ?_)
                      obtain ⟨v104, rfl, t_v104⟩ := h9
                      refine lv_iload hx hb dX1_layOneMore_107 (lv_at hl 1 rfl) ?_
                      refine t_ild hx hb hkb hH t_v104 (hO.no t_v104 (by decide)) (by omega) (by omega) dX1_layOneMore_109 (fun v109 h9 => ?_)
                      have tv109 : -14 ≤ v109.toInt ∧ v109.toInt ≤ 13 := h9
                      refine lv_goto (tgt := 115) hx hb dX1_layOneMore_110 (by decide) ?_
                      exact J115 v109 _ _ _ (by omega) (by omega) hH hS (lv_sub hl [3, 4, 5] rfl)
                refine lv_if_eq (tgt := 85) hx hb dX1_layOneMore_78 (by decide) (fun c78 => ?_) (fun c78 => ?_)
                · skip
                  have tc78 := f_eq (k := 0) (by decide) c78
                  refine lv_iconst (v := 0) hx hb dX1_layOneMore_85 (by decide) ?_
                  exact J86 0 _ _ _ (by decide) (by decide) hH hS (lv_sub hl [0, 1, 2, 3, 4] rfl)
                · skip
                  have tc78 := f_ne (k := 0) (by decide) c78
                  refine lv_iconst (v := 1) hx hb dX1_layOneMore_81 (by decide) ?_
                  refine lv_goto (tgt := 86) hx hb dX1_layOneMore_82 (by decide) ?_
                  exact J86 1 _ _ _ (by decide) (by decide) hH hS (lv_sub hl [0, 1, 2, 3, 4] rfl)
        refine lv_istore_n (lv' := [(3, .int 0), (0, .ref a0), (1, .int x1), (2, .int x2)]) hx hb dX1_layOneMore_39 rfl hl (by decide) rfl (fun ls hl => ?_)
        exact J40 _ 0 _ _ _ rfl (by decide) (by decide) hH hS (lv_sub hl [0, 1, 3] rfl)
      · skip
        have tc15 := f_nge (k := 14) (by decide) c15
        refine lv_iload_n hx hb dX1_layOneMore_18 rfl (lv_at hl 2 rfl) ?_
        refine lv_iload_n hx hb dX1_layOneMore_19 rfl (lv_at hl 0 rfl) ?_
        refine lv_ishr hx hb dX1_layOneMore_20 ?_
        refine lv_topi (fun v20 ev20 => ?_)
        refine lv_iconst (v := 1) hx hb dX1_layOneMore_21 (by decide) ?_
        refine lv_iand hx hb dX1_layOneMore_22 ?_
        refine lv_topi (fun v22 ev22 => ?_)
        have tv22 : 0 ≤ v22.toInt ∧ v22.toInt ≤ 1 := by rw [ev22]; exact and_r (by decide)
        have J32 : ∀  (H : Heap) (locs : List Loc) (ls : Array Slot), HT D cs A T O X H → va_S A s.heap H locs → lv_has ls 7 [(3, .int p12_3), (0, .ref a0), (1, .int x1), (2, .int x2)] → W p l e { frames := 2, cells := 0, slots := 0, locals := 45 } s m [.ref a0, .int x1, .int x2].toArray below meth c H locs 0 0 (MQ below (Ti D cs (fun r u => u = (T, O, X) ∧ 0 ≤ r.toInt ∧ r.toInt ≤ 1) A) [.ref a0, .int x1, .int x2].toArray s 0 0 A) (F0 m 32 ls []) := by
          intro  H locs ls  hH hS hl
          obtain ⟨v32, ev32⟩ : ∃ y : Int32, y = p12_3 + 1 := ⟨_, rfl⟩
          have tv32 : v32.toInt = p12_3.toInt + (1) := by rw [ev32]; exact add_i rfl (by decide) (by omega) (by omega)
          refine lv_iinc (v := v32) (lv' := [(3, .int v32), (0, .ref a0), (1, .int x1), (2, .int x2)]) hx hb dX1_layOneMore_32 hl (k := 0) rfl (by rw [ev32]; rfl) (by decide) rfl (fun ls hl => ?_)
          refine lv_goto (tgt := 12) hx hb dX1_layOneMore_35 (by decide) ?_
          exact ih12 _ (by omega) v32 _ _ _ rfl (by omega) (by omega) hH hS (lv_sub hl [0, 1, 2, 3] rfl)
        refine lv_if_eq (tgt := 32) hx hb dX1_layOneMore_23 (by decide) (fun c23 => ?_) (fun c23 => ?_)
        · skip
          have tc23 := f_eq (k := 0) (by decide) c23
          exact J32  _ _ _  hH hS (lv_sub hl [0, 1, 2, 3] rfl)
        · skip
          have tc23 := f_ne (k := 0) (by decide) c23
          refine lv_aload_n hx hb dX1_layOneMore_26 rfl (lv_at hl 1 rfl) ?_
          refine lv_iload_n hx hb dX1_layOneMore_27 rfl (lv_at hl 0 rfl) ?_
          refine lv_iconst (v := (-1)) hx hb dX1_layOneMore_28 (by decide) ?_
          refine tk_v hH hS hA (tr_V (n := 2) (As := [.int p12_3, .int (-1)]) hx hb hml hown hts hkb hH hOX hks hE hS hA (s_Cut_visit l D cs kf T O X a0 p12_3 ((-1)) t_a0 (by omega) (by omega) (by decide) (by decide) (hO.sub (by decide))) kw_1024 kw_1026 ks_33 kw_10 kw_1027 (by decide +kernel) ⟨Nat.le_of_ble_eq_true rfl, Nat.le_of_ble_eq_true rfl⟩ (HT.recv (ci := 1) hkb hH t_a0 (hO.no t_a0 (by decide)) rfl) rfl rfl hl.1 (Nat.le_of_ble_eq_true rfl) dX1_layOneMore_29 ⟨Nat.le_of_ble_eq_true rfl, Nat.le_of_ble_eq_true rfl⟩) (fun u H locs hz9 hH hS => ?_)
          have hz9 : u = (T, O, X) := hz9
          subst hz9
          have hH : HT D cs A T O X H := hH
          refine W.widen (k := 0) (n := 0) (Nat.le_of_ble_eq_true rfl) (Nat.le_of_ble_eq_true rfl) ?_
          exact J32  _ _ _  hH hS (lv_sub hl [0, 1, 2, 3] rfl)
  refine lv_istore_n (lv' := [(3, .int 0), (0, .ref a0), (1, .int x1), (2, .int x2)]) hx hb dX1_layOneMore_11 rfl hl (by decide) rfl (fun ls hl => ?_)
  exact J12 _ 0 _ _ _ rfl (by decide) (by decide) hH hS (lv_sub hl [0, 1, 2, 3] rfl)
set_option maxHeartbeats 4000000 in
set_option maxRecDepth 100000 in
theorem s_Cut_fewest (l : Launch) (D : va_G) (cs : CS) (kf : KF) (T : TF) (O : List Nat) (X : va_W) (a0 : Nat) (a1 : Nat) (x2 : Int32) (x3 : Int32) (t_a0 : T a0 = some (11, 0, 0)) (t_a1 : T a1 = some (15, 0, 0)) (hO : okO T O [1, 11, 12, 15, 19]) : TK l D cs kf yX1_fewest cX1_fewest 8 (some (.int)) { frames := 5, cells := 0, slots := 0, locals := 129 } [.ref a0, .ref a1, .int x2, .int x3] T O X (Ti D cs (fun r u => u = (T, O, X) ∧ 0 ≤ r.toInt ∧ r.toInt ≤ 99)) := by
  refine tk_of (by decide) (Nat.le_of_ble_eq_true rfl) (fun p e s m below meth c ls A H locs hx hb hr hml hown hts hlocks hnm hkb hH hS hA hOX hks hE hl => ?_)
  have hown : s.vm.findClass RX1 = some m.cls := hown
  have hl : lv_has ls 8 [(0, .ref a0), (1, .ref a1), (2, .int x2), (3, .int x3)] := hl
  refine lv_iload_n hx hb dX1_fewest_0 rfl (lv_at hl 2 rfl) ?_
  refine lv_aload_n hx hb dX1_fewest_1 rfl (lv_at hl 1 rfl) ?_
  refine t_get (ci := 5) (lst := ft5 0 0) (C := RX5) (F := TX5) (N := 6) hx hb hts uX5 hown hkb hH t_a1 (hO.no t_a1 (by decide)) (fun _ h9 => h9) rfl rfl 0 (by decide) rfl kw_245 (fun _ h9 => h9) dX1_fewest_2 (fun v9 h9 => ?_)
  obtain ⟨v2, hv2, gv2, rfl, t_v2⟩ := h9
  refine t_get (ci := 9) (lst := ft9w hv2 gv2) (C := RX9) (F := TX9) (N := 14) hx hb hts uX9 hown hkb hH t_v2.1 (hO.no t_v2.1 (by decide)) (fun fs => (ob9w t_v2 fs).mp) rfl rfl 4 (by decide) rfl kw_124 (fun _ h9 => h9) dX1_fewest_5 (fun v9 h9 => ?_)
  obtain ⟨v5, rfl, l_v5, u_v5⟩ := h9
  refine lv_iand hx hb dX1_fewest_8 ?_
  refine lv_topi (fun v8 ev8 => ?_)
  have tv8 : 0 ≤ v8.toInt ∧ v8.toInt ≤ v5.toInt := by rw [ev8]; exact and_r (by omega)
  refine lv_istore (lv' := [(4, .int v8), (0, .ref a0), (1, .ref a1), (2, .int x2), (3, .int x3)]) hx hb dX1_fewest_9 hl (by decide) rfl (fun ls hl => ?_)
  refine lv_iload_n hx hb dX1_fewest_11 rfl (lv_at hl 3 rfl) ?_
  refine lv_iload hx hb dX1_fewest_12 (lv_at hl 0 rfl) ?_
  refine lv_iconst (v := (-1)) hx hb dX1_fewest_14 (by decide) ?_
  refine lv_ixor hx hb dX1_fewest_15 ?_
  refine lv_topi (fun v15 ev15 => ?_)
  refine lv_iand hx hb dX1_fewest_16 ?_
  refine lv_topi (fun v16 ev16 => ?_)
  refine lv_iload_n hx hb dX1_fewest_17 rfl (lv_at hl 4 rfl) ?_
  refine lv_iconst (v := (-1)) hx hb dX1_fewest_18 (by decide) ?_
  refine lv_ixor hx hb dX1_fewest_19 ?_
  refine lv_topi (fun v19 ev19 => ?_)
  refine lv_iand hx hb dX1_fewest_20 ?_
  refine lv_topi (fun v20 ev20 => ?_)
  refine lv_istore (lv' := [(5, .int v20), (4, .int v8), (0, .ref a0), (1, .ref a1), (2, .int x2), (3, .int x3)]) hx hb dX1_fewest_21 hl (by decide) rfl (fun ls hl => ?_)
  refine lv_aload_n hx hb dX1_fewest_23 rfl (lv_at hl 3 rfl) ?_
  refine lv_iload_n hx hb dX1_fewest_24 rfl (lv_at hl 4 rfl) ?_
  refine lv_aload_n hx hb dX1_fewest_25 rfl (lv_at hl 3 rfl) ?_
  refine t_get (ci := 5) (lst := ft5 0 0) (C := RX5) (F := TX5) (N := 6) hx hb hts uX5 hown hkb hH t_a1 (hO.no t_a1 (by decide)) (fun _ h9 => h9) rfl rfl 0 (by decide) rfl kw_245 (fun _ h9 => h9) dX1_fewest_26 (fun v9 h9 => ?_)
  obtain ⟨v26, hv26, gv26, rfl, t_v26⟩ := h9
  refine t_get (ci := 9) (lst := ft9w hv26 gv26) (C := RX9) (F := TX9) (N := 14) hx hb hts uX9 hown hkb hH t_v26.1 (hO.no t_v26.1 (by decide)) (fun fs => (ob9w t_v26 fs).mp) rfl rfl 3 (by decide) rfl kw_117 (fun _ h9 => h9) dX1_fewest_29 (fun v9 h9 => ?_)
  obtain ⟨v29, rfl, l_v29, u_v29⟩ := h9
  refine lv_iand hx hb dX1_fewest_32 ?_
  refine lv_topi (fun v32 ev32 => ?_)
  have tv32 : 0 ≤ v32.toInt ∧ v32.toInt ≤ v29.toInt := by rw [ev32]; exact and_r (by omega)
  refine lv_iload hx hb dX1_fewest_33 (lv_at hl 0 rfl) ?_
  refine lv_iload_n hx hb dX1_fewest_35 rfl (lv_at hl 4 rfl) ?_
  refine lv_iconst (v := 0) hx hb dX1_fewest_36 (by decide) ?_
  refine tk_i hH hS hA (tr_V (n := 4) (As := [.int v32, .int v20, .int x2, .int 0]) hx hb hml hown hts hkb hH hOX hks hE hS hA (s_Rows_spread l D cs kf T O X a1 v32 v20 x2 (0) t_a1 (by omega) (by omega) (hO.sub (by decide))) kw_1018 kw_855 kw_856 kw_8 kw_857 (by decide +kernel) ⟨Nat.le_of_ble_eq_true rfl, Nat.le_of_ble_eq_true rfl⟩ (HT.recv (ci := 5) hkb hH t_a1 (hO.no t_a1 (by decide)) rfl) rfl rfl hl.1 (Nat.le_of_ble_eq_true rfl) dX1_fewest_37 ⟨Nat.le_of_ble_eq_true rfl, Nat.le_of_ble_eq_true rfl⟩) (fun v37 u H locs hz9 hH hS => ?_)
  obtain ⟨rfl, l_v37, u_v37⟩ := hz9
  have hH : HT D cs A T O X H := hH
  refine W.widen (k := 0) (n := 0) (Nat.le_of_ble_eq_true rfl) (Nat.le_of_ble_eq_true rfl) ?_
  refine lv_istore (lv' := [(6, .int v37), (5, .int v20), (4, .int v8), (0, .ref a0), (1, .ref a1), (2, .int x2), (3, .int x3)]) hx hb dX1_fewest_40 hl (by decide) rfl (fun ls hl => ?_)
  refine lv_iload hx hb dX1_fewest_42 (lv_at hl 0 rfl) ?_
  refine lv_iload hx hb dX1_fewest_44 (lv_at hl 2 rfl) ?_
  refine lv_iand hx hb dX1_fewest_46 ?_
  refine lv_topi (fun v46 ev46 => ?_)
  have tv46 : 0 ≤ v46.toInt ∧ v46.toInt ≤ v37.toInt := by rw [ev46]; exact and_l (by omega)
  have ttv46 : 0 ≤ v46.toInt ∧ v46.toInt ≤ v8.toInt := by rw [ev46]; exact and_r (by omega)
  refine lv_if_eq (tgt := 53) hx hb dX1_fewest_47 (by decide) (fun c47 => ?_) (fun c47 => ?_)
  · skip
    have tc47 := f_eq (k := 0) (by decide) c47
    refine lv_iconst (v := 0) hx hb dX1_fewest_53 (by decide) ?_
    have J56 : ∀ (n : Nat) (p56_7 : Int32) (H : Heap) (locs : List Loc) (ls : Array Slot), (14 - p56_7.toInt).toNat = n → (0 ≤ p56_7.toInt) → (p56_7.toInt ≤ 14) → HT D cs A T O X H → va_S A s.heap H locs → lv_has ls 8 [(7, .int p56_7), (6, .int v37), (5, .int v20), (4, .int v8), (0, .ref a0), (1, .ref a1), (2, .int x2), (3, .int x3)] → W p l e { frames := 5, cells := 0, slots := 0, locals := 129 } s m [.ref a0, .ref a1, .int x2, .int x3].toArray below meth c H locs 0 0 (MQ below (Ti D cs (fun r u => u = (T, O, X) ∧ 0 ≤ r.toInt ∧ r.toInt ≤ 99) A) [.ref a0, .ref a1, .int x2, .int x3].toArray s 0 0 A) (F0 m 56 ls []) := by
      intro n
      induction n using Nat.strongRecOn with
      | _ n ih56 =>
        intro p56_7 H locs ls hm56 l_p56_7 u_p56_7 hH hS hl
        refine lv_iload hx hb dX1_fewest_56 (lv_at hl 0 rfl) ?_
        refine lv_bipush (v := 14) hx hb dX1_fewest_58 (by decide) ?_
        refine lv_icmp_ge (tgt := 114) hx hb dX1_fewest_60 (by decide) (fun c60 => ?_) (fun c60 => ?_)
        · skip
          have tc60 := f_ge (k := 14) (by decide) c60
          refine lv_aload_n hx hb dX1_fewest_114 rfl (lv_at hl 4 rfl) ?_
          refine lv_iconst (v := 0) hx hb dX1_fewest_115 (by decide) ?_
          refine t_put (ci := 1) (lst := ft1 0 0) (v := .int 0) (ty := tyX1 2) (C := RX1) (F := TX1) (N := 7) hx hb hts uX1 tyX1 tyX1_ok nmX1 hown hkb hH hS t_a0 (hO.no t_a0 (by decide)) (fun _ => Iff.rfl) rfl rfl 2 (by decide) rfl (⟨_, rfl⟩) kw_304 (fun _ h9 => h9) rfl (tyX1_ok 2 (by decide)) rfl rfl dX1_fewest_116 (fun H locs hH hS => ?_)
          refine lv_iconst (v := 0) hx hb dX1_fewest_119 (by decide) ?_
          have J122 : ∀ (n : Nat) (p122_7 : Int32) (H : Heap) (locs : List Loc) (ls : Array Slot), (14 - p122_7.toInt).toNat = n → (0 ≤ p122_7.toInt) → (p122_7.toInt ≤ 14) → HT D cs A T O X H → va_S A s.heap H locs → lv_has ls 8 [(7, .int p122_7), (6, .int v37), (4, .int v8), (0, .ref a0), (3, .int x3)] → W p l e { frames := 5, cells := 0, slots := 0, locals := 129 } s m [.ref a0, .ref a1, .int x2, .int x3].toArray below meth c H locs 0 0 (MQ below (Ti D cs (fun r u => u = (T, O, X) ∧ 0 ≤ r.toInt ∧ r.toInt ≤ 99) A) [.ref a0, .ref a1, .int x2, .int x3].toArray s 0 0 A) (F0 m 122 ls []) := by
            intro n
            induction n using Nat.strongRecOn with
            | _ n ih122 =>
              intro p122_7 H locs ls hm122 l_p122_7 u_p122_7 hH hS hl
              refine lv_iload hx hb dX1_fewest_122 (lv_at hl 0 rfl) ?_
              refine lv_bipush (v := 14) hx hb dX1_fewest_124 (by decide) ?_
              have J148 : ∀  (H : Heap) (locs : List Loc) (ls : Array Slot), HT D cs A T O X H → va_S A s.heap H locs → lv_has ls 8 [(7, .int p122_7)] → W p l e { frames := 5, cells := 0, slots := 0, locals := 129 } s m [.ref a0, .ref a1, .int x2, .int x3].toArray below meth c H locs 0 0 (MQ below (Ti D cs (fun r u => u = (T, O, X) ∧ 0 ≤ r.toInt ∧ r.toInt ≤ 99) A) [.ref a0, .ref a1, .int x2, .int x3].toArray s 0 0 A) (F0 m 148 ls []) := by
                intro  H locs ls  hH hS hl
                refine lv_iload hx hb dX1_fewest_148 (lv_at hl 0 rfl) ?_
                exact te_i hx hb hr hlocks hH hS (⟨rfl, by omega, by omega⟩) dX1_fewest_150
              refine lv_icmp_ge (tgt := 148) hx hb dX1_fewest_126 (by decide) (fun c126 => ?_) (fun c126 => ?_)
              · skip
                have tc126 := f_ge (k := 14) (by decide) c126
                exact J148  _ _ _  hH hS (lv_sub hl [0] rfl)
              · skip
                have tc126 := f_nge (k := 14) (by decide) c126
                refine lv_aload_n hx hb dX1_fewest_129 rfl (lv_at hl 3 rfl) ?_
                refine lv_iload hx hb dX1_fewest_130 (lv_at hl 1 rfl) ?_
                refine lv_iload_n hx hb dX1_fewest_132 rfl (lv_at hl 4 rfl) ?_
                refine lv_iand hx hb dX1_fewest_133 ?_
                refine lv_topi (fun v133 ev133 => ?_)
                have tv133 : 0 ≤ v133.toInt ∧ v133.toInt ≤ v37.toInt := by rw [ev133]; exact and_l (by omega)
                refine lv_iload hx hb dX1_fewest_134 (lv_at hl 2 rfl) ?_
                refine tk_i hH hS hA (tr_V (n := 2) (As := [.int v133, .int v8]) hx hb hml hown hts hkb hH hOX hks hE hS hA (s_Cut_layOneMore l D cs kf T O X a0 v133 v8 t_a0 (hO.sub (by decide))) kw_1020 kw_1022 ks_32 kw_10 kw_1023 (by decide +kernel) ⟨Nat.le_of_ble_eq_true rfl, Nat.le_of_ble_eq_true rfl⟩ (HT.recv (ci := 1) hkb hH t_a0 (hO.no t_a0 (by decide)) rfl) rfl rfl hl.1 (Nat.le_of_ble_eq_true rfl) dX1_fewest_136 ⟨Nat.le_of_ble_eq_true rfl, Nat.le_of_ble_eq_true rfl⟩) (fun v136 u H locs hz9 hH hS => ?_)
                obtain ⟨rfl, l_v136, u_v136⟩ := hz9
                have hH : HT D cs A T O X H := hH
                refine W.widen (k := 0) (n := 0) (Nat.le_of_ble_eq_true rfl) (Nat.le_of_ble_eq_true rfl) ?_
                refine lv_if_eq (tgt := 148) hx hb dX1_fewest_139 (by decide) (fun c139 => ?_) (fun c139 => ?_)
                · skip
                  have tc139 := f_eq (k := 0) (by decide) c139
                  exact J148  _ _ _  hH hS (lv_sub hl [0] rfl)
                · skip
                  have tc139 := f_ne (k := 0) (by decide) c139
                  obtain ⟨v142, ev142⟩ : ∃ y : Int32, y = p122_7 + 1 := ⟨_, rfl⟩
                  have tv142 : v142.toInt = p122_7.toInt + (1) := by rw [ev142]; exact add_i rfl (by decide) (by omega) (by omega)
                  refine lv_iinc (v := v142) (lv' := [(7, .int v142), (6, .int v37), (4, .int v8), (0, .ref a0), (3, .int x3)]) hx hb dX1_fewest_142 hl (k := 0) rfl (by rw [ev142]; rfl) (by decide) rfl (fun ls hl => ?_)
                  refine lv_goto (tgt := 122) hx hb dX1_fewest_145 (by decide) ?_
                  exact ih122 _ (by omega) v142 _ _ _ rfl (by omega) (by omega) hH hS (lv_sub hl [0, 1, 2, 3, 4] rfl)
          refine lv_istore (lv' := [(7, .int 0), (6, .int v37), (5, .int v20), (4, .int v8), (0, .ref a0), (1, .ref a1), (2, .int x2), (3, .int x3)]) hx hb dX1_fewest_120 hl (by decide) rfl (fun ls hl => ?_)
          exact J122 _ 0 _ _ _ rfl (by decide) (by decide) hH hS (lv_sub hl [0, 1, 3, 4, 7] rfl)
        · skip
          have tc60 := f_nge (k := 14) (by decide) c60
          refine lv_iload_n hx hb dX1_fewest_63 rfl (lv_at hl 6 rfl) ?_
          refine lv_iload_n hx hb dX1_fewest_64 rfl (lv_at hl 7 rfl) ?_
          refine lv_iand hx hb dX1_fewest_65 ?_
          refine lv_topi (fun v65 ev65 => ?_)
          refine lv_iconst (v := 1) hx hb dX1_fewest_66 (by decide) ?_
          refine lv_iload hx hb dX1_fewest_67 (lv_at hl 0 rfl) ?_
          refine lv_ishl hx hb dX1_fewest_69 ?_
          refine lv_topi (fun v69 ev69 => ?_)
          have tv69 : 1 ≤ v69.toInt ∧ v69.toInt ≤ 8192 := by rw [ev69]; exact shl_b 13 (by decide) (by omega) (by omega)
          refine lv_iand hx hb dX1_fewest_70 ?_
          refine lv_topi (fun v70 ev70 => ?_)
          have tv70 : 0 ≤ v70.toInt ∧ v70.toInt ≤ v69.toInt := by rw [ev70]; exact and_r (by omega)
          have J108 : ∀  (H : Heap) (locs : List Loc) (ls : Array Slot), HT D cs A T O X H → va_S A s.heap H locs → lv_has ls 8 [(7, .int p56_7), (6, .int v37), (5, .int v20), (4, .int v8), (0, .ref a0), (1, .ref a1), (2, .int x2), (3, .int x3)] → W p l e { frames := 5, cells := 0, slots := 0, locals := 129 } s m [.ref a0, .ref a1, .int x2, .int x3].toArray below meth c H locs 0 0 (MQ below (Ti D cs (fun r u => u = (T, O, X) ∧ 0 ≤ r.toInt ∧ r.toInt ≤ 99) A) [.ref a0, .ref a1, .int x2, .int x3].toArray s 0 0 A) (F0 m 108 ls []) := by
            intro  H locs ls  hH hS hl
            obtain ⟨v108, ev108⟩ : ∃ y : Int32, y = p56_7 + 1 := ⟨_, rfl⟩
            have tv108 : v108.toInt = p56_7.toInt + (1) := by rw [ev108]; exact add_i rfl (by decide) (by omega) (by omega)
            refine lv_iinc (v := v108) (lv' := [(7, .int v108), (6, .int v37), (5, .int v20), (4, .int v8), (0, .ref a0), (1, .ref a1), (2, .int x2), (3, .int x3)]) hx hb dX1_fewest_108 hl (k := 0) rfl (by rw [ev108]; rfl) (by decide) rfl (fun ls hl => ?_)
            refine lv_goto (tgt := 56) hx hb dX1_fewest_111 (by decide) ?_
            exact ih56 _ (by omega) v108 _ _ _ rfl (by omega) (by omega) hH hS (lv_sub hl [0, 1, 2, 3, 4, 5, 6, 7] rfl)
          refine lv_if_eq (tgt := 108) hx hb dX1_fewest_71 (by decide) (fun c71 => ?_) (fun c71 => ?_)
          · skip
            have tc71 := f_eq (k := 0) (by decide) c71
            exact J108  _ _ _  hH hS (lv_sub hl [0, 1, 2, 3, 4, 5, 6, 7] rfl)
          · skip
            have tc71 := f_ne (k := 0) (by decide) c71
            refine lv_aload_n hx hb dX1_fewest_74 rfl (lv_at hl 4 rfl) ?_
            refine t_get (ci := 1) (lst := ft1 0 0) (C := RX1) (F := TX1) (N := 7) hx hb hts uX1 hown hkb hH t_a0 (hO.no t_a0 (by decide)) (fun _ h9 => h9) rfl rfl 0 (by decide) rfl kw_302 (fun _ h9 => h9) dX1_fewest_75 (fun v9 h9 => ?_)
            obtain ⟨v75, rfl, t_v75⟩ := h9
            refine lv_iload hx hb dX1_fewest_78 (lv_at hl 0 rfl) ?_
            refine lv_aload_n hx hb dX1_fewest_80 rfl (lv_at hl 5 rfl) ?_
            refine lv_aload_n hx hb dX1_fewest_81 rfl (lv_at hl 5 rfl) ?_
            refine lv_iload hx hb dX1_fewest_82 (lv_at hl 0 rfl) ?_
            refine lv_iload_n hx hb dX1_fewest_84 rfl (lv_at hl 6 rfl) ?_
            refine tk_i hH hS hA (tr_V (n := 2) (As := [.int p56_7, .int x2]) hx hb hml hown hts hkb hH hOX hks hE hS hA (s_Rows_stepped l D cs kf T O X a1 p56_7 x2 t_a1 (hO.sub (by decide))) kw_1019 kw_863 kw_864 kw_8 kw_865 (by decide +kernel) ⟨Nat.le_of_ble_eq_true rfl, Nat.le_of_ble_eq_true rfl⟩ (HT.recv (ci := 5) hkb hH t_a1 (hO.no t_a1 (by decide)) rfl) rfl rfl hl.1 (Nat.le_of_ble_eq_true rfl) dX1_fewest_85 ⟨Nat.le_of_ble_eq_true rfl, Nat.le_of_ble_eq_true rfl⟩) (fun v85 u H locs hz9 hH hS => ?_)
            obtain ⟨rfl, l_v85, u_v85⟩ := hz9
            have hH : HT D cs A T O X H := hH
            refine W.widen (k := 0) (n := 0) (Nat.le_of_ble_eq_true rfl) (Nat.le_of_ble_eq_true rfl) ?_
            refine lv_iload hx hb dX1_fewest_88 (lv_at hl 2 rfl) ?_
            refine lv_iload_n hx hb dX1_fewest_90 rfl (lv_at hl 6 rfl) ?_
            refine lv_iconst (v := 0) hx hb dX1_fewest_91 (by decide) ?_
            refine tk_i hH hS hA (tr_V (n := 4) (As := [.int v85, .int v20, .int x2, .int 0]) hx hb hml hown hts hkb hH hOX hks hE hS hA (s_Rows_spread l D cs kf T O X a1 v85 v20 x2 (0) t_a1 (by omega) (by omega) (hO.sub (by decide))) kw_1018 kw_855 kw_856 kw_8 kw_857 (by decide +kernel) ⟨Nat.le_of_ble_eq_true rfl, Nat.le_of_ble_eq_true rfl⟩ (HT.recv (ci := 5) hkb hH t_a1 (hO.no t_a1 (by decide)) rfl) rfl rfl hl.1 (Nat.le_of_ble_eq_true rfl) dX1_fewest_92 ⟨Nat.le_of_ble_eq_true rfl, Nat.le_of_ble_eq_true rfl⟩) (fun v92 u H locs hz9 hH hS => ?_)
            obtain ⟨rfl, l_v92, u_v92⟩ := hz9
            have hH : HT D cs A T O X H := hH
            refine W.widen (k := 0) (n := 0) (Nat.le_of_ble_eq_true rfl) (Nat.le_of_ble_eq_true rfl) ?_
            refine lv_iload_n hx hb dX1_fewest_95 rfl (lv_at hl 7 rfl) ?_
            refine lv_iload hx hb dX1_fewest_96 (lv_at hl 3 rfl) ?_
            refine lv_ior hx hb dX1_fewest_98 ?_
            refine lv_topi (fun v98 ev98 => ?_)
            refine lv_iand hx hb dX1_fewest_99 ?_
            refine lv_topi (fun v99 ev99 => ?_)
            have tv99 : 0 ≤ v99.toInt ∧ v99.toInt ≤ v92.toInt := by rw [ev99]; exact and_l (by omega)
            refine lv_iconst (v := 1) hx hb dX1_fewest_100 (by decide) ?_
            refine lv_iload hx hb dX1_fewest_101 (lv_at hl 0 rfl) ?_
            refine lv_ishl hx hb dX1_fewest_103 ?_
            refine lv_topi (fun v103 ev103 => ?_)
            have tv103 : 1 ≤ v103.toInt ∧ v103.toInt ≤ 8192 := by rw [ev103]; exact shl_b 13 (by decide) (by omega) (by omega)
            refine lv_iconst (v := (-1)) hx hb dX1_fewest_104 (by decide) ?_
            refine lv_ixor hx hb dX1_fewest_105 ?_
            refine lv_topi (fun v105 ev105 => ?_)
            refine lv_iand hx hb dX1_fewest_106 ?_
            refine lv_topi (fun v106 ev106 => ?_)
            have tv106 : 0 ≤ v106.toInt ∧ v106.toInt ≤ v99.toInt := by rw [ev106]; exact and_l (by omega)
            refine t_ist hx hb hkb hH hS t_v75 (hO.no t_v75 (by decide)) (by omega) (by omega) (cp_0 _) dX1_fewest_107 (fun H locs hH hS => ?_)
            exact J108  _ _ _  hH hS (lv_sub hl [0, 1, 2, 3, 4, 5, 6, 7] rfl)
    refine lv_istore (lv' := [(7, .int 0), (6, .int v37), (5, .int v20), (4, .int v8), (0, .ref a0), (1, .ref a1), (2, .int x2), (3, .int x3)]) hx hb dX1_fewest_54 hl (by decide) rfl (fun ls hl => ?_)
    exact J56 _ 0 _ _ _ rfl (by decide) (by decide) hH hS (lv_sub hl [0, 1, 2, 3, 4, 5, 6, 7] rfl)
  · skip
    have tc47 := f_ne (k := 0) (by decide) c47
    refine lv_bipush (v := 99) hx hb dX1_fewest_50 (by decide) ?_
    exact te_i hx hb hr hlocks hH hS (⟨rfl, by decide, by decide⟩) dX1_fewest_52
set_option maxHeartbeats 4000000 in
set_option maxRecDepth 100000 in
theorem s_Cut_leastSet (l : Launch) (D : va_G) (cs : CS) (kf : KF) (T : TF) (O : List Nat) (X : va_W) (a0 : Nat) (a1 : Nat) (x2 : Int32) (t_a0 : T a0 = some (11, 0, 0)) (t_a1 : T a1 = some (15, 0, 0)) (hO : okO T O [1, 11, 12, 15, 19]) : TK l D cs kf yX1_leastSet cX1_leastSet 7 (some (.int)) { frames := 6, cells := 0, slots := 0, locals := 156 } [.ref a0, .ref a1, .int x2] T O X (Ti D cs (fun r u => u = (T, O, X) ∧ -1 ≤ r.toInt ∧ r.toInt ≤ 16383)) := by
  refine tk_of (by decide) (Nat.le_of_ble_eq_true rfl) (fun p e s m below meth c ls A H locs hx hb hr hml hown hts hlocks hnm hkb hH hS hA hOX hks hE hl => ?_)
  have hown : s.vm.findClass RX1 = some m.cls := hown
  have hl : lv_has ls 7 [(0, .ref a0), (1, .ref a1), (2, .int x2)] := hl
  refine lv_iload_n hx hb dX1_leastSet_0 rfl (lv_at hl 2 rfl) ?_
  refine lv_aload_n hx hb dX1_leastSet_1 rfl (lv_at hl 1 rfl) ?_
  refine t_get (ci := 5) (lst := ft5 0 0) (C := RX5) (F := TX5) (N := 6) hx hb hts uX5 hown hkb hH t_a1 (hO.no t_a1 (by decide)) (fun _ h9 => h9) rfl rfl 0 (by decide) rfl kw_245 (fun _ h9 => h9) dX1_leastSet_2 (fun v9 h9 => ?_)
  obtain ⟨v2, hv2, gv2, rfl, t_v2⟩ := h9
  refine tk_i hH hS hA (tr_V (n := 0) (As := []) hx hb hml hown hts hkb hH hOX hks hE hS hA (s_Wall_middles l D cs kf T O X v2 hv2 gv2 t_v2 (hO.sub (by decide))) kw_1048 kw_683 kw_684 kw_5 kw_685 (by decide +kernel) ⟨Nat.le_of_ble_eq_true rfl, Nat.le_of_ble_eq_true rfl⟩ (HT.recv (ci := 9) hkb hH t_v2.1 (hO.no t_v2.1 (by decide)) rfl) rfl rfl hl.1 (Nat.le_of_ble_eq_true rfl) dX1_leastSet_5 ⟨Nat.le_of_ble_eq_true rfl, Nat.le_of_ble_eq_true rfl⟩) (fun v5 u H locs hz9 hH hS => ?_)
  obtain ⟨rfl, l_v5, u_v5⟩ := hz9
  have hH : HT D cs A T O X H := hH
  refine W.widen (k := 0) (n := 0) (Nat.le_of_ble_eq_true rfl) (Nat.le_of_ble_eq_true rfl) ?_
  refine lv_iand hx hb dX1_leastSet_8 ?_
  refine lv_topi (fun v8 ev8 => ?_)
  have tv8 : 0 ≤ v8.toInt ∧ v8.toInt ≤ v5.toInt := by rw [ev8]; exact and_r (by omega)
  refine lv_istore_n (lv' := [(3, .int v8), (0, .ref a0), (1, .ref a1), (2, .int x2)]) hx hb dX1_leastSet_9 rfl hl (by decide) rfl (fun ls hl => ?_)
  refine lv_aload_n hx hb dX1_leastSet_10 rfl (lv_at hl 1 rfl) ?_
  refine lv_aload_n hx hb dX1_leastSet_11 rfl (lv_at hl 2 rfl) ?_
  refine lv_iload_n hx hb dX1_leastSet_12 rfl (lv_at hl 3 rfl) ?_
  refine lv_iload_n hx hb dX1_leastSet_13 rfl (lv_at hl 0 rfl) ?_
  refine tk_i hH hS hA (tr_V (n := 3) (As := [.ref a1, .int x2, .int v8]) hx hb hml hown hts hkb hH hOX hks hE hS hA (s_Cut_fewest l D cs kf T O X a0 a1 x2 v8 t_a0 t_a1 (hO.sub (by decide))) kw_1049 kw_1015 kw_1016 kw_10 kw_1017 (by decide +kernel) ⟨Nat.le_of_ble_eq_true rfl, Nat.le_of_ble_eq_true rfl⟩ (HT.recv (ci := 1) hkb hH t_a0 (hO.no t_a0 (by decide)) rfl) rfl rfl hl.1 (Nat.le_of_ble_eq_true rfl) dX1_leastSet_14 ⟨Nat.le_of_ble_eq_true rfl, Nat.le_of_ble_eq_true rfl⟩) (fun v14 u H locs hz9 hH hS => ?_)
  obtain ⟨rfl, l_v14, u_v14⟩ := hz9
  have hH : HT D cs A T O X H := hH
  refine W.widen (k := 0) (n := 0) (Nat.le_of_ble_eq_true rfl) (Nat.le_of_ble_eq_true rfl) ?_
  refine lv_istore (lv' := [(4, .int v14), (3, .int v8), (0, .ref a0), (1, .ref a1), (2, .int x2)]) hx hb dX1_leastSet_17 hl (by decide) rfl (fun ls hl => ?_)
  refine lv_iload hx hb dX1_leastSet_19 (lv_at hl 0 rfl) ?_
  refine lv_bipush (v := 99) hx hb dX1_leastSet_21 (by decide) ?_
  refine lv_icmp_ne (tgt := 28) hx hb dX1_leastSet_23 (by decide) (fun c23 => ?_) (fun c23 => ?_)
  · skip
    have tc23 := f_ne (k := 99) (by decide) c23
    refine lv_bipush (v := 13) hx hb dX1_leastSet_28 (by decide) ?_
    have J32 : ∀ (n : Nat) (p32_5 : Int32) (p32_3 : Int32) (H : Heap) (locs : List Loc) (ls : Array Slot), (p32_5.toInt - (-1)).toNat = n → (-1 ≤ p32_5.toInt) → (p32_5.toInt ≤ 13) → (0 ≤ p32_3.toInt) → (p32_3.toInt ≤ 16383) → HT D cs A T O X H → va_S A s.heap H locs → lv_has ls 7 [(5, .int p32_5), (4, .int v14), (3, .int p32_3), (0, .ref a0), (1, .ref a1), (2, .int x2)] → W p l e { frames := 6, cells := 0, slots := 0, locals := 156 } s m [.ref a0, .ref a1, .int x2].toArray below meth c H locs 0 0 (MQ below (Ti D cs (fun r u => u = (T, O, X) ∧ -1 ≤ r.toInt ∧ r.toInt ≤ 16383) A) [.ref a0, .ref a1, .int x2].toArray s 0 0 A) (F0 m 32 ls []) := by
      intro n
      induction n using Nat.strongRecOn with
      | _ n ih32 =>
        intro p32_5 p32_3 H locs ls hm32 l_p32_5 u_p32_5 l_p32_3 u_p32_3 hH hS hl
        refine lv_iload hx hb dX1_leastSet_32 (lv_at hl 0 rfl) ?_
        have J84 : ∀  (H : Heap) (locs : List Loc) (ls : Array Slot), HT D cs A T O X H → va_S A s.heap H locs → lv_has ls 7 [(3, .int p32_3)] → W p l e { frames := 6, cells := 0, slots := 0, locals := 156 } s m [.ref a0, .ref a1, .int x2].toArray below meth c H locs 0 0 (MQ below (Ti D cs (fun r u => u = (T, O, X) ∧ -1 ≤ r.toInt ∧ r.toInt ≤ 16383) A) [.ref a0, .ref a1, .int x2].toArray s 0 0 A) (F0 m 84 ls []) := by
          intro  H locs ls  hH hS hl
          refine lv_iload_n hx hb dX1_leastSet_84 rfl (lv_at hl 0 rfl) ?_
          exact te_i hx hb hr hlocks hH hS (⟨rfl, by omega, by omega⟩) dX1_leastSet_85
        refine lv_if_lt (tgt := 84) hx hb dX1_leastSet_34 (by decide) (fun c34 => ?_) (fun c34 => ?_)
        · skip
          have tc34 := f_lt (k := 0) (by decide) c34
          exact J84  _ _ _  hH hS (lv_sub hl [2] rfl)
        · skip
          have tc34 := f_nlt (k := 0) (by decide) c34
          refine lv_iload_n hx hb dX1_leastSet_37 rfl (lv_at hl 2 rfl) ?_
          refine tk_i hH hS hA (tr_S (n := 1) (As := [.int p32_3]) hx hb hml hown hts hkb hH hOX hks hE hS hA (s_bitCount l D cs kf T O X p32_3  (hO.sub (by decide))) kw_1050 kw_692 kw_20 kw_693 (by decide +kernel) ⟨Nat.le_of_ble_eq_true rfl, Nat.le_of_ble_eq_true rfl⟩ rfl rfl hl.1 (Nat.le_of_ble_eq_true rfl) dX1_leastSet_38 ⟨Nat.le_of_ble_eq_true rfl, Nat.le_of_ble_eq_true rfl⟩) (fun v38 u H locs hz9 hH hS => ?_)
          obtain ⟨rfl, l_v38, u_v38⟩ := hz9
          have hH : HT D cs A T O X H := hH
          refine W.widen (k := 0) (n := 0) (Nat.le_of_ble_eq_true rfl) (Nat.le_of_ble_eq_true rfl) ?_
          refine lv_iload hx hb dX1_leastSet_41 (lv_at hl 1 rfl) ?_
          refine lv_icmp_le (tgt := 84) hx hb dX1_leastSet_43 (by decide) (fun c43 => ?_) (fun c43 => ?_)
          · skip
            have fuc43 := full_i v38
            have fvc43 := full_i v14
            have tc43 := g_le c43
            exact J84  _ _ _  hH hS (lv_sub hl [2] rfl)
          · skip
            have fuc43 := full_i v38
            have fvc43 := full_i v14
            have tc43 := g_nle c43
            refine lv_iload_n hx hb dX1_leastSet_46 rfl (lv_at hl 2 rfl) ?_
            refine lv_iconst (v := 1) hx hb dX1_leastSet_47 (by decide) ?_
            refine lv_iload hx hb dX1_leastSet_48 (lv_at hl 0 rfl) ?_
            refine lv_ishl hx hb dX1_leastSet_50 ?_
            refine lv_topi (fun v50 ev50 => ?_)
            have tv50 : 1 ≤ v50.toInt ∧ v50.toInt ≤ 8192 := by rw [ev50]; exact shl_b 13 (by decide) (by omega) (by omega)
            refine lv_iconst (v := (-1)) hx hb dX1_leastSet_51 (by decide) ?_
            refine lv_ixor hx hb dX1_leastSet_52 ?_
            refine lv_topi (fun v52 ev52 => ?_)
            refine lv_iand hx hb dX1_leastSet_53 ?_
            refine lv_topi (fun v53 ev53 => ?_)
            have tv53 : 0 ≤ v53.toInt ∧ v53.toInt ≤ p32_3.toInt := by rw [ev53]; exact and_l (by omega)
            refine lv_istore (lv' := [(6, .int v53), (5, .int p32_5), (4, .int v14), (3, .int p32_3), (0, .ref a0), (1, .ref a1), (2, .int x2)]) hx hb dX1_leastSet_54 hl (by decide) rfl (fun ls hl => ?_)
            refine lv_iload hx hb dX1_leastSet_56 (lv_at hl 0 rfl) ?_
            refine lv_iload_n hx hb dX1_leastSet_58 rfl (lv_at hl 3 rfl) ?_
            have J78 : ∀ (p78_3 : Int32) (H : Heap) (locs : List Loc) (ls : Array Slot), (0 ≤ p78_3.toInt) → (p78_3.toInt ≤ 16383) → HT D cs A T O X H → va_S A s.heap H locs → lv_has ls 7 [(5, .int p32_5), (4, .int v14), (3, .int p78_3), (0, .ref a0), (1, .ref a1), (2, .int x2)] → W p l e { frames := 6, cells := 0, slots := 0, locals := 156 } s m [.ref a0, .ref a1, .int x2].toArray below meth c H locs 0 0 (MQ below (Ti D cs (fun r u => u = (T, O, X) ∧ -1 ≤ r.toInt ∧ r.toInt ≤ 16383) A) [.ref a0, .ref a1, .int x2].toArray s 0 0 A) (F0 m 78 ls []) := by
              intro p78_3 H locs ls l_p78_3 u_p78_3 hH hS hl
              obtain ⟨v78, ev78⟩ : ∃ y : Int32, y = p32_5 + (-1) := ⟨_, rfl⟩
              have tv78 : v78.toInt = p32_5.toInt + (-1) := by rw [ev78]; exact add_i rfl (by decide) (by omega) (by omega)
              refine lv_iinc (v := v78) (lv' := [(5, .int v78), (4, .int v14), (3, .int p78_3), (0, .ref a0), (1, .ref a1), (2, .int x2)]) hx hb dX1_leastSet_78 hl (k := 0) rfl (by rw [ev78]; rfl) (by decide) rfl (fun ls hl => ?_)
              refine lv_goto (tgt := 32) hx hb dX1_leastSet_81 (by decide) ?_
              exact ih32 _ (by omega) v78 p78_3 _ _ _ rfl (by omega) (by omega) (by omega) (by omega) hH hS (lv_sub hl [0, 1, 2, 3, 4, 5] rfl)
            refine lv_icmp_eq (tgt := 78) hx hb dX1_leastSet_59 (by decide) (fun c59 => ?_) (fun c59 => ?_)
            · skip
              have fuc59 := full_i v53
              have fvc59 := full_i p32_3
              have tc59 := g_eq c59
              exact J78 p32_3 _ _ _ (by omega) (by omega) hH hS (lv_sub hl [1, 2, 3, 4, 5, 6] rfl)
            · skip
              have fuc59 := full_i v53
              have fvc59 := full_i p32_3
              have tc59 := g_ne c59
              refine lv_aload_n hx hb dX1_leastSet_62 rfl (lv_at hl 4 rfl) ?_
              refine lv_aload_n hx hb dX1_leastSet_63 rfl (lv_at hl 5 rfl) ?_
              refine lv_iload_n hx hb dX1_leastSet_64 rfl (lv_at hl 6 rfl) ?_
              refine lv_iload hx hb dX1_leastSet_65 (lv_at hl 0 rfl) ?_
              refine tk_i hH hS hA (tr_V (n := 3) (As := [.ref a1, .int x2, .int v53]) hx hb hml hown hts hkb hH hOX hks hE hS hA (s_Cut_fewest l D cs kf T O X a0 a1 x2 v53 t_a0 t_a1 (hO.sub (by decide))) kw_1049 kw_1015 kw_1016 kw_10 kw_1017 (by decide +kernel) ⟨Nat.le_of_ble_eq_true rfl, Nat.le_of_ble_eq_true rfl⟩ (HT.recv (ci := 1) hkb hH t_a0 (hO.no t_a0 (by decide)) rfl) rfl rfl hl.1 (Nat.le_of_ble_eq_true rfl) dX1_leastSet_67 ⟨Nat.le_of_ble_eq_true rfl, Nat.le_of_ble_eq_true rfl⟩) (fun v67 u H locs hz9 hH hS => ?_)
              obtain ⟨rfl, l_v67, u_v67⟩ := hz9
              have hH : HT D cs A T O X H := hH
              refine W.widen (k := 0) (n := 0) (Nat.le_of_ble_eq_true rfl) (Nat.le_of_ble_eq_true rfl) ?_
              refine lv_iload hx hb dX1_leastSet_70 (lv_at hl 2 rfl) ?_
              refine lv_icmp_ne (tgt := 78) hx hb dX1_leastSet_72 (by decide) (fun c72 => ?_) (fun c72 => ?_)
              · skip
                have fuc72 := full_i v67
                have fvc72 := full_i v14
                have tc72 := g_ne c72
                exact J78 p32_3 _ _ _ (by omega) (by omega) hH hS (lv_sub hl [1, 2, 3, 4, 5, 6] rfl)
              · skip
                have fuc72 := full_i v67
                have fvc72 := full_i v14
                have tc72 := g_eq c72
                refine lv_iload hx hb dX1_leastSet_75 (lv_at hl 0 rfl) ?_
                refine lv_istore_n (lv' := [(3, .int v53), (6, .int v53), (5, .int p32_5), (4, .int v14), (0, .ref a0), (1, .ref a1), (2, .int x2)]) hx hb dX1_leastSet_77 rfl hl (by decide) rfl (fun ls hl => ?_)
                exact J78 v53 _ _ _ (by omega) (by omega) hH hS (lv_sub hl [2, 3, 0, 4, 5, 6] rfl)
    refine lv_istore (lv' := [(5, .int 13), (4, .int v14), (3, .int v8), (0, .ref a0), (1, .ref a1), (2, .int x2)]) hx hb dX1_leastSet_30 hl (by decide) rfl (fun ls hl => ?_)
    exact J32 _ 13 v8 _ _ _ rfl (by decide) (by decide) (by omega) (by omega) hH hS (lv_sub hl [0, 1, 2, 3, 4, 5] rfl)
  · skip
    have tc23 := f_eq (k := 99) (by decide) c23
    refine lv_iconst (v := (-1)) hx hb dX1_leastSet_26 (by decide) ?_
    exact te_i hx hb hr hlocks hH hS (⟨rfl, by decide, by decide⟩) dX1_leastSet_27
theorem dX11_asksRow_0 : decode cX11_asksRow 0 = .ok (.iload_n 0, 1) := by decide +kernel
theorem dX11_asksRow_1 : decode cX11_asksRow 1 = .ok (.ifCond .eq 17, 3) := by decide +kernel
theorem dX11_asksRow_4 : decode cX11_asksRow 4 = .ok (.iload_n 0, 1) := by decide +kernel
theorem dX11_asksRow_5 : decode cX11_asksRow 5 = .ok (.bipush 10, 2) := by decide +kernel
theorem dX11_asksRow_7 : decode cX11_asksRow 7 = .ok (.if_icmp .lt 15, 3) := by decide +kernel
theorem dX11_asksRow_10 : decode cX11_asksRow 10 = .ok (.iload_n 0, 1) := by decide +kernel
theorem dX11_asksRow_11 : decode cX11_asksRow 11 = .ok (.bipush 10, 2) := by decide +kernel
theorem dX11_asksRow_13 : decode cX11_asksRow 13 = .ok (.iload_n 1, 1) := by decide +kernel
theorem dX11_asksRow_14 : decode cX11_asksRow 14 = .ok (.iadd, 1) := by decide +kernel
theorem dX11_asksRow_15 : decode cX11_asksRow 15 = .ok (.if_icmp .ge 7, 3) := by decide +kernel
theorem dX11_asksRow_18 : decode cX11_asksRow 18 = .ok (.iconst 1, 1) := by decide +kernel
theorem dX11_asksRow_19 : decode cX11_asksRow 19 = .ok (.goto 4, 3) := by decide +kernel
theorem dX11_asksRow_22 : decode cX11_asksRow 22 = .ok (.iconst 0, 1) := by decide +kernel
theorem dX11_asksRow_23 : decode cX11_asksRow 23 = .ok (.ireturn, 1) := by decide +kernel
theorem dX11_drawn_0 : decode cX11_drawn 0 = .ok (.ldc_w 298, 3) := by decide +kernel
theorem dX11_drawn_3 : decode cX11_drawn 3 = .ok (.iload_n 0, 1) := by decide +kernel
theorem dX11_drawn_4 : decode cX11_drawn 4 = .ok (.imul, 1) := by decide +kernel
theorem dX11_drawn_5 : decode cX11_drawn 5 = .ok (.sipush 12345, 3) := by decide +kernel
theorem dX11_drawn_8 : decode cX11_drawn 8 = .ok (.iadd, 1) := by decide +kernel
theorem dX11_drawn_9 : decode cX11_drawn 9 = .ok (.ireturn, 1) := by decide +kernel
theorem dX11_isGuide_0 : decode cX11_isGuide 0 = .ok (.iload_n 1, 1) := by decide +kernel
theorem dX11_isGuide_1 : decode cX11_isGuide 1 = .ok (.ifCond .lt 18, 3) := by decide +kernel
theorem dX11_isGuide_4 : decode cX11_isGuide 4 = .ok (.iload_n 1, 1) := by decide +kernel
theorem dX11_isGuide_5 : decode cX11_isGuide 5 = .ok (.aload_n 0, 1) := by decide +kernel
theorem dX11_isGuide_6 : decode cX11_isGuide 6 = .ok (.getfield 29, 3) := by decide +kernel
theorem dX11_isGuide_9 : decode cX11_isGuide 9 = .ok (.getfield 216, 3) := by decide +kernel
theorem dX11_isGuide_12 : decode cX11_isGuide 12 = .ok (.if_icmp .ge 7, 3) := by decide +kernel
theorem dX11_isGuide_15 : decode cX11_isGuide 15 = .ok (.iconst 1, 1) := by decide +kernel
theorem dX11_isGuide_16 : decode cX11_isGuide 16 = .ok (.goto 4, 3) := by decide +kernel
theorem dX11_isGuide_19 : decode cX11_isGuide 19 = .ok (.iconst 0, 1) := by decide +kernel
theorem dX11_isGuide_20 : decode cX11_isGuide 20 = .ok (.ireturn, 1) := by decide +kernel
theorem dX11_isHold_0 : decode cX11_isHold 0 = .ok (.iload_n 1, 1) := by decide +kernel
theorem dX11_isHold_1 : decode cX11_isHold 1 = .ok (.ifCond .lt 18, 3) := by decide +kernel
theorem dX11_isHold_4 : decode cX11_isHold 4 = .ok (.iload_n 1, 1) := by decide +kernel
theorem dX11_isHold_5 : decode cX11_isHold 5 = .ok (.aload_n 0, 1) := by decide +kernel
theorem dX11_isHold_6 : decode cX11_isHold 6 = .ok (.getfield 29, 3) := by decide +kernel
theorem dX11_isHold_9 : decode cX11_isHold 9 = .ok (.getfield 213, 3) := by decide +kernel
theorem dX11_isHold_12 : decode cX11_isHold 12 = .ok (.if_icmp .ge 7, 3) := by decide +kernel
theorem dX11_isHold_15 : decode cX11_isHold 15 = .ok (.iconst 1, 1) := by decide +kernel
theorem dX11_isHold_16 : decode cX11_isHold 16 = .ok (.goto 4, 3) := by decide +kernel
theorem dX11_isHold_19 : decode cX11_isHold 19 = .ok (.iconst 0, 1) := by decide +kernel
theorem dX11_isHold_20 : decode cX11_isHold 20 = .ok (.ireturn, 1) := by decide +kernel
theorem dX11_isImage_0 : decode cX11_isImage 0 = .ok (.iload_n 0, 1) := by decide +kernel
theorem dX11_isImage_1 : decode cX11_isImage 1 = .ok (.ifCond .lt 12, 3) := by decide +kernel
theorem dX11_isImage_4 : decode cX11_isImage 4 = .ok (.iload_n 0, 1) := by decide +kernel
theorem dX11_isImage_5 : decode cX11_isImage 5 = .ok (.iconst 2, 1) := by decide +kernel
theorem dX11_isImage_6 : decode cX11_isImage 6 = .ok (.if_icmp .ge 7, 3) := by decide +kernel
theorem dX11_isImage_9 : decode cX11_isImage 9 = .ok (.iconst 1, 1) := by decide +kernel
theorem dX11_isImage_10 : decode cX11_isImage 10 = .ok (.goto 4, 3) := by decide +kernel
theorem dX11_isImage_13 : decode cX11_isImage 13 = .ok (.iconst 0, 1) := by decide +kernel
theorem dX11_isImage_14 : decode cX11_isImage 14 = .ok (.ireturn, 1) := by decide +kernel
theorem dX11_isTray_0 : decode cX11_isTray 0 = .ok (.iload_n 0, 1) := by decide +kernel
theorem dX11_isTray_1 : decode cX11_isTray 1 = .ok (.ifCond .lt 12, 3) := by decide +kernel
theorem dX11_isTray_4 : decode cX11_isTray 4 = .ok (.iload_n 0, 1) := by decide +kernel
theorem dX11_isTray_5 : decode cX11_isTray 5 = .ok (.iconst 4, 1) := by decide +kernel
theorem dX11_isTray_6 : decode cX11_isTray 6 = .ok (.if_icmp .ge 7, 3) := by decide +kernel
theorem dX11_isTray_9 : decode cX11_isTray 9 = .ok (.iconst 1, 1) := by decide +kernel
theorem dX11_isTray_10 : decode cX11_isTray 10 = .ok (.goto 4, 3) := by decide +kernel
theorem dX11_isTray_13 : decode cX11_isTray 13 = .ok (.iconst 0, 1) := by decide +kernel
theorem dX11_isTray_14 : decode cX11_isTray 14 = .ok (.ireturn, 1) := by decide +kernel
theorem dX11_ofRow_0 : decode cX11_ofRow 0 = .ok (.iload_n 1, 1) := by decide +kernel
theorem dX11_ofRow_1 : decode cX11_ofRow 1 = .ok (.ifCond .ne 5, 3) := by decide +kernel
theorem dX11_ofRow_4 : decode cX11_ofRow 4 = .ok (.iconst (-1), 1) := by decide +kernel
theorem dX11_ofRow_5 : decode cX11_ofRow 5 = .ok (.ireturn, 1) := by decide +kernel
theorem dX11_ofRow_6 : decode cX11_ofRow 6 = .ok (.iload_n 2, 1) := by decide +kernel
theorem dX11_ofRow_7 : decode cX11_ofRow 7 = .ok (.ifCond .ne 5, 3) := by decide +kernel
theorem dX11_ofRow_10 : decode cX11_ofRow 10 = .ok (.iload_n 1, 1) := by decide +kernel
theorem dX11_ofRow_11 : decode cX11_ofRow 11 = .ok (.ireturn, 1) := by decide +kernel
theorem dX11_ofRow_12 : decode cX11_ofRow 12 = .ok (.iload_n 2, 1) := by decide +kernel
theorem dX11_ofRow_13 : decode cX11_ofRow 13 = .ok (.bipush 10, 2) := by decide +kernel
theorem dX11_ofRow_15 : decode cX11_ofRow 15 = .ok (.isub, 1) := by decide +kernel
theorem dX11_ofRow_16 : decode cX11_ofRow 16 = .ok (.istore_n 3, 1) := by decide +kernel
theorem dX11_ofRow_17 : decode cX11_ofRow 17 = .ok (.iload_n 3, 1) := by decide +kernel
theorem dX11_ofRow_18 : decode cX11_ofRow 18 = .ok (.ifCond .lt 20, 3) := by decide +kernel
theorem dX11_ofRow_21 : decode cX11_ofRow 21 = .ok (.iload_n 3, 1) := by decide +kernel
theorem dX11_ofRow_22 : decode cX11_ofRow 22 = .ok (.iload_n 1, 1) := by decide +kernel
theorem dX11_ofRow_23 : decode cX11_ofRow 23 = .ok (.if_icmp .ge 15, 3) := by decide +kernel
theorem dX11_ofRow_26 : decode cX11_ofRow 26 = .ok (.iload_n 3, 1) := by decide +kernel
theorem dX11_ofRow_27 : decode cX11_ofRow 27 = .ok (.aload_n 0, 1) := by decide +kernel
theorem dX11_ofRow_28 : decode cX11_ofRow 28 = .ok (.arraylength, 1) := by decide +kernel
theorem dX11_ofRow_29 : decode cX11_ofRow 29 = .ok (.if_icmp .ge 9, 3) := by decide +kernel
theorem dX11_ofRow_32 : decode cX11_ofRow 32 = .ok (.aload_n 0, 1) := by decide +kernel
theorem dX11_ofRow_33 : decode cX11_ofRow 33 = .ok (.iload_n 3, 1) := by decide +kernel
theorem dX11_ofRow_34 : decode cX11_ofRow 34 = .ok (.iaload, 1) := by decide +kernel
theorem dX11_ofRow_35 : decode cX11_ofRow 35 = .ok (.goto 4, 3) := by decide +kernel
theorem dX11_ofRow_38 : decode cX11_ofRow 38 = .ok (.iconst (-1), 1) := by decide +kernel
theorem dX11_ofRow_39 : decode cX11_ofRow 39 = .ok (.ireturn, 1) := by decide +kernel
theorem dX11_openNow_0 : decode cX11_openNow 0 = .ok (.aload_n 0, 1) := by decide +kernel
theorem dX11_openNow_1 : decode cX11_openNow 1 = .ok (.aload_n 0, 1) := by decide +kernel
theorem dX11_openNow_2 : decode cX11_openNow 2 = .ok (.getfield 36, 3) := by decide +kernel
theorem dX11_openNow_5 : decode cX11_openNow 5 = .ok (.getfield 161, 3) := by decide +kernel
theorem dX11_openNow_8 : decode cX11_openNow 8 = .ok (.invokevirtual 168, 3) := by decide +kernel
theorem dX11_openNow_11 : decode cX11_openNow 11 = .ok (.ireturn, 1) := by decide +kernel
theorem dX11_openOn_0 : decode cX11_openOn 0 = .ok (.aload_n 0, 1) := by decide +kernel
theorem dX11_openOn_1 : decode cX11_openOn 1 = .ok (.iload_n 1, 1) := by decide +kernel
theorem dX11_openOn_2 : decode cX11_openOn 2 = .ok (.invokevirtual 164, 3) := by decide +kernel
theorem dX11_openOn_5 : decode cX11_openOn 5 = .ok (.aload_n 0, 1) := by decide +kernel
theorem dX11_openOn_6 : decode cX11_openOn 6 = .ok (.getfield 36, 3) := by decide +kernel
theorem dX11_openOn_9 : decode cX11_openOn 9 = .ok (.getfield 222, 3) := by decide +kernel
theorem dX11_openOn_12 : decode cX11_openOn 12 = .ok (.iconst (-1), 1) := by decide +kernel
theorem dX11_openOn_13 : decode cX11_openOn 13 = .ok (.ixor, 1) := by decide +kernel
theorem dX11_openOn_14 : decode cX11_openOn 14 = .ok (.iand, 1) := by decide +kernel
theorem dX11_openOn_15 : decode cX11_openOn 15 = .ok (.ireturn, 1) := by decide +kernel
theorem dX11_rowsOf_0 : decode cX11_rowsOf 0 = .ok (.aload_n 0, 1) := by decide +kernel
theorem dX11_rowsOf_1 : decode cX11_rowsOf 1 = .ok (.getfield 68, 3) := by decide +kernel
theorem dX11_rowsOf_4 : decode cX11_rowsOf 4 = .ok (.iload_n 1, 1) := by decide +kernel
theorem dX11_rowsOf_5 : decode cX11_rowsOf 5 = .ok (.aaload, 1) := by decide +kernel
theorem dX11_rowsOf_6 : decode cX11_rowsOf 6 = .ok (.astore_n 2, 1) := by decide +kernel
theorem dX11_rowsOf_7 : decode cX11_rowsOf 7 = .ok (.aload_n 2, 1) := by decide +kernel
theorem dX11_rowsOf_8 : decode cX11_rowsOf 8 = .ok (.aload_n 0, 1) := by decide +kernel
theorem dX11_rowsOf_9 : decode cX11_rowsOf 9 = .ok (.getfield 29, 3) := by decide +kernel
theorem dX11_rowsOf_12 : decode cX11_rowsOf 12 = .ok (.aload_n 0, 1) := by decide +kernel
theorem dX11_rowsOf_13 : decode cX11_rowsOf 13 = .ok (.getfield 29, 3) := by decide +kernel
theorem dX11_rowsOf_16 : decode cX11_rowsOf 16 = .ok (.getfield 189, 3) := by decide +kernel
theorem dX11_rowsOf_19 : decode cX11_rowsOf 19 = .ok (.iload_n 1, 1) := by decide +kernel
theorem dX11_rowsOf_20 : decode cX11_rowsOf 20 = .ok (.iaload, 1) := by decide +kernel
theorem dX11_rowsOf_21 : decode cX11_rowsOf 21 = .ok (.aload_n 0, 1) := by decide +kernel
theorem dX11_rowsOf_22 : decode cX11_rowsOf 22 = .ok (.getfield 29, 3) := by decide +kernel
theorem dX11_rowsOf_25 : decode cX11_rowsOf 25 = .ok (.getfield 192, 3) := by decide +kernel
theorem dX11_rowsOf_28 : decode cX11_rowsOf 28 = .ok (.iload_n 1, 1) := by decide +kernel
theorem dX11_rowsOf_29 : decode cX11_rowsOf 29 = .ok (.iaload, 1) := by decide +kernel
theorem dX11_rowsOf_30 : decode cX11_rowsOf 30 = .ok (.aload_n 0, 1) := by decide +kernel
theorem dX11_rowsOf_31 : decode cX11_rowsOf 31 = .ok (.getfield 36, 3) := by decide +kernel
theorem dX11_rowsOf_34 : decode cX11_rowsOf 34 = .ok (.getfield 161, 3) := by decide +kernel
theorem dX11_rowsOf_37 : decode cX11_rowsOf 37 = .ok (.invokevirtual 225, 3) := by decide +kernel
theorem dX11_rowsOf_40 : decode cX11_rowsOf 40 = .ok (.aload_n 2, 1) := by decide +kernel
theorem dX11_rowsOf_41 : decode cX11_rowsOf 41 = .ok (.areturn, 1) := by decide +kernel
theorem dX11_thereOn_0 : decode cX11_thereOn 0 = .ok (.aload_n 0, 1) := by decide +kernel
theorem dX11_thereOn_1 : decode cX11_thereOn 1 = .ok (.getfield 29, 3) := by decide +kernel
theorem dX11_thereOn_4 : decode cX11_thereOn 4 = .ok (.iload_n 1, 1) := by decide +kernel
theorem dX11_thereOn_5 : decode cX11_thereOn 5 = .ok (.invokevirtual 219, 3) := by decide +kernel
theorem dX11_thereOn_8 : decode cX11_thereOn 8 = .ok (.aload_n 0, 1) := by decide +kernel
theorem dX11_thereOn_9 : decode cX11_thereOn 9 = .ok (.getfield 36, 3) := by decide +kernel
theorem dX11_thereOn_12 : decode cX11_thereOn 12 = .ok (.getfield 180, 3) := by decide +kernel
theorem dX11_thereOn_15 : decode cX11_thereOn 15 = .ok (.iconst (-1), 1) := by decide +kernel
theorem dX11_thereOn_16 : decode cX11_thereOn 16 = .ok (.ixor, 1) := by decide +kernel
theorem dX11_thereOn_17 : decode cX11_thereOn 17 = .ok (.iand, 1) := by decide +kernel
theorem dX11_thereOn_18 : decode cX11_thereOn 18 = .ok (.ireturn, 1) := by decide +kernel
theorem kw_1 : Cond.initialized "FootholdWall" ∈ gw := gw_of (tb_of 1 (by decide +kernel)) (by decide +kernel)
theorem kw_109 : Cond.fieldLink "FootholdWall" 213 "FootholdWall$Wall" "holds" "I" ∈ gw := gw_of (tb_of 109 (by decide +kernel)) (by decide +kernel)
theorem kw_112 : Cond.fieldLink "FootholdWall" 216 "FootholdWall$Wall" "guides" "I" ∈ gw := gw_of (tb_of 112 (by decide +kernel)) (by decide +kernel)
theorem kw_142 : Cond.fieldLink "FootholdWall" 189 "FootholdWall$Wall" "leg" "[I" ∈ gw := gw_of (tb_of 142 (by decide +kernel)) (by decide +kernel)
theorem kw_145 : Cond.fieldLink "FootholdWall" 192 "FootholdWall$Wall" "weight" "[I" ∈ gw := gw_of (tb_of 145 (by decide +kernel)) (by decide +kernel)
theorem kw_186 : Cond.fieldLink "FootholdWall" 222 "FootholdWall$State" "used" "I" ∈ gw := gw_of (tb_of 186 (by decide +kernel)) (by decide +kernel)
theorem kw_188 : Cond.fieldLink "FootholdWall" 180 "FootholdWall$State" "broken" "I" ∈ gw := gw_of (tb_of 188 (by decide +kernel)) (by decide +kernel)
theorem kw_191 : Cond.fieldLink "FootholdWall" 161 "FootholdWall$State" "day" "I" ∈ gw := gw_of (tb_of 191 (by decide +kernel)) (by decide +kernel)
theorem kw_363 : Cond.fieldLink "FootholdWall" 29 "FootholdWall" "wall" "LFootholdWall$Wall;" ∈ gw := gw_of (tb_of 363 (by decide +kernel)) (by decide +kernel)
theorem kw_364 : Cond.fieldLink "FootholdWall" 36 "FootholdWall" "state" "LFootholdWall$State;" ∈ gw := gw_of (tb_of 364 (by decide +kernel)) (by decide +kernel)
theorem kw_372 : Cond.fieldLink "FootholdWall" 68 "FootholdWall" "rows" "[LFootholdWall$Rows;" ∈ gw := gw_of (tb_of 372 (by decide +kernel)) (by decide +kernel)
theorem kw_774 : Cond.methodLink "FootholdWall" 164 yX11_thereOn ∈ gw := gw_of (tb_of 774 (by decide +kernel)) (by decide +kernel)
theorem kw_776 : Cond.instanceMethod yX11_thereOn ∈ gw := gw_of (tb_of 776 (by decide +kernel)) (by decide +kernel)
theorem kw_777 : Cond.code yX11_thereOn cX11_thereOn 2 (some (.int)) ∈ gw := gw_of (tb_of 777 (by decide +kernel)) (by decide +kernel)
theorem kw_778 : Cond.methodLink "FootholdWall" 219 yX9_comeBy ∈ gw := gw_of (tb_of 778 (by decide +kernel)) (by decide +kernel)
theorem kw_779 : Cond.instanceMethod yX9_comeBy ∈ gw := gw_of (tb_of 779 (by decide +kernel)) (by decide +kernel)
theorem kw_780 : Cond.selects "FootholdWall$Wall" yX9_comeBy yX9_comeBy ∈ gw := gw_of (tb_of 780 (by decide +kernel)) (by decide +kernel)
theorem kw_781 : Cond.code yX9_comeBy cX9_comeBy 4 (some (.int)) ∈ gw := gw_of (tb_of 781 (by decide +kernel)) (by decide +kernel)
theorem kw_782 : Cond.methodLink "FootholdWall" 168 yX11_openOn ∈ gw := gw_of (tb_of 782 (by decide +kernel)) (by decide +kernel)
theorem kw_784 : Cond.instanceMethod yX11_openOn ∈ gw := gw_of (tb_of 784 (by decide +kernel)) (by decide +kernel)
theorem kw_785 : Cond.code yX11_openOn cX11_openOn 2 (some (.int)) ∈ gw := gw_of (tb_of 785 (by decide +kernel)) (by decide +kernel)
theorem kw_834 : Cond.methodLink "FootholdWall" 225 yX5_aim ∈ gw := gw_of (tb_of 834 (by decide +kernel)) (by decide +kernel)
theorem kw_835 : Cond.instanceMethod yX5_aim ∈ gw := gw_of (tb_of 835 (by decide +kernel)) (by decide +kernel)
theorem kw_836 : Cond.selects "FootholdWall$Rows" yX5_aim yX5_aim ∈ gw := gw_of (tb_of 836 (by decide +kernel)) (by decide +kernel)
theorem kw_837 : Cond.code yX5_aim cX5_aim 7 none ∈ gw := gw_of (tb_of 837 (by decide +kernel)) (by decide +kernel)
theorem kw_965 : Cond.constant "FootholdWall" 298 1103515245 ∈ gw := gw_of (tb_of 965 (by decide +kernel)) (by decide +kernel)
theorem ks_18 : Cond.selects RX11 yX11_thereOn yX11_thereOn ∈ gw := gw_of (pv_of 18 (by decide +kernel)) (by decide +kernel)
theorem ks_19 : Cond.selects RX11 yX11_openOn yX11_openOn ∈ gw := gw_of (pv_of 19 (by decide +kernel)) (by decide +kernel)
set_option maxHeartbeats 4000000 in
set_option maxRecDepth 100000 in
theorem s_FW_isHold (l : Launch) (D : va_G) (cs : CS) (kf : KF) (T : TF) (O : List Nat) (X : va_W) (a0 w hw gw ch gq : Nat) (x1 : Int32) (t_a0 : T a0 = some (21, w, ch)) (t_w : isW T w hw gw) (t_ch : T ch = some (10, gq, 0)) (hO : okO T O [19, 21]) : TK l D cs kf yX11_isHold cX11_isHold 2 (some (.boolean)) { frames := 0, cells := 0, slots := 0, locals := 0 } [.ref a0, .int x1] T O X (Ti D cs (fun r u => u = (T, O, X) ∧ 0 ≤ r.toInt ∧ r.toInt ≤ 1 ∧ (r.toInt = 0 ∨ (0 ≤ x1.toInt ∧ x1.toInt < hw)))) := by
  refine tk_of (by decide) (Nat.le_of_ble_eq_true rfl) (fun p e s m below meth c ls A H locs hx hb hr hml hown hts hlocks hnm hkb hH hS hA hOX hks hE hl => ?_)
  have hown : s.vm.findClass RX11 = some m.cls := hown
  have hl : lv_has ls 2 [(0, .ref a0), (1, .int x1)] := hl
  have b1_w := t_w.2.1
  have b2_w := t_w.2.2
  refine lv_iload_n hx hb dX11_isHold_0 rfl (lv_at hl 1 rfl) ?_
  have J20 : ∀ (k20_0 : Int32) (H : Heap) (locs : List Loc) (ls : Array Slot), (0 ≤ k20_0.toInt) → (k20_0.toInt ≤ 1) → (k20_0.toInt = 0 ∨ (0 ≤ x1.toInt ∧ x1.toInt < hw)) → HT D cs A T O X H → va_S A s.heap H locs → lv_has ls 2 [] → W p l e { frames := 0, cells := 0, slots := 0, locals := 0 } s m [.ref a0, .int x1].toArray below meth c H locs 0 0 (MQ below (Ti D cs (fun r u => u = (T, O, X) ∧ 0 ≤ r.toInt ∧ r.toInt ≤ 1 ∧ (r.toInt = 0 ∨ (0 ≤ x1.toInt ∧ x1.toInt < hw))) A) [.ref a0, .int x1].toArray s 0 0 A) (F0 m 20 ls [.int k20_0]) := by
    intro k20_0 H locs ls l_k20_0 u_k20_0 ix20_0 hH hS hl
    exact te_z hx hb hr hlocks (nar01 (by omega) (by omega)) hH hS (⟨rfl, by omega, by omega, by omega⟩) dX11_isHold_20
  have J19 : ∀  (H : Heap) (locs : List Loc) (ls : Array Slot), HT D cs A T O X H → va_S A s.heap H locs → lv_has ls 2 [] → W p l e { frames := 0, cells := 0, slots := 0, locals := 0 } s m [.ref a0, .int x1].toArray below meth c H locs 0 0 (MQ below (Ti D cs (fun r u => u = (T, O, X) ∧ 0 ≤ r.toInt ∧ r.toInt ≤ 1 ∧ (r.toInt = 0 ∨ (0 ≤ x1.toInt ∧ x1.toInt < hw))) A) [.ref a0, .int x1].toArray s 0 0 A) (F0 m 19 ls []) := by
    intro  H locs ls  hH hS hl
    refine lv_iconst (v := 0) hx hb dX11_isHold_19 (by decide) ?_
    have z_0 : (0 : Int32).toInt = 0 := by decide
    exact J20 0 _ _ _ (by decide) (by decide) (by omega) hH hS (lv_sub hl [] rfl)
  refine lv_if_lt (tgt := 19) hx hb dX11_isHold_1 (by decide) (fun c1 => ?_) (fun c1 => ?_)
  · skip
    have tc1 := f_lt (k := 0) (by decide) c1
    exact J19  _ _ _  hH hS (lv_sub hl [] rfl)
  · skip
    have tc1 := f_nlt (k := 0) (by decide) c1
    refine lv_iload_n hx hb dX11_isHold_4 rfl (lv_at hl 1 rfl) ?_
    refine lv_aload_n hx hb dX11_isHold_5 rfl (lv_at hl 0 rfl) ?_
    refine t_get (ci := 11) (lst := ft11 w ch) (C := RX11) (F := TX11) (N := 20) hx hb hts uX11 hown hkb hH t_a0 (hO.no t_a0 (by decide)) (fun _ h9 => h9) rfl rfl 3 (by decide) rfl kw_363 (fun _ h9 => h9) dX11_isHold_6 (fun v9 h9 => ?_)
    have h9 : v9 = .ref w := h9
    subst h9
    refine t_get (ci := 9) (lst := ft9w hw gw) (C := RX9) (F := TX9) (N := 14) hx hb hts uX9 hown hkb hH t_w.1 (hO.no t_w.1 (by decide)) (fun fs => (ob9w t_w fs).mp) rfl rfl 0 (by decide) rfl kw_109 (fun _ h9 => h9) dX11_isHold_9 (fun v9 h9 => ?_)
    have h9 : v9 = .int (nI hw) := h9
    subst h9
    have e_hw : (nI hw).toInt = hw := nI_toInt (by have := t_w.2.1; omega)
    have b_hw := t_w.2.1
    refine lv_icmp_ge (tgt := 19) hx hb dX11_isHold_12 (by decide) (fun c12 => ?_) (fun c12 => ?_)
    · skip
      have fuc12 := full_i x1
      have fvc12 := full_i (nI hw)
      have tc12 := g_le c12
      exact J19  _ _ _  hH hS (lv_sub hl [] rfl)
    · skip
      have fuc12 := full_i x1
      have fvc12 := full_i (nI hw)
      have tc12 := g_nle c12
      refine lv_iconst (v := 1) hx hb dX11_isHold_15 (by decide) ?_
      refine lv_goto (tgt := 20) hx hb dX11_isHold_16 (by decide) ?_
      have z_1 : (1 : Int32).toInt = 1 := by decide
      exact J20 1 _ _ _ (by decide) (by decide) (by omega) hH hS (lv_sub hl [] rfl)
set_option maxHeartbeats 4000000 in
set_option maxRecDepth 100000 in
theorem s_FW_isGuide (l : Launch) (D : va_G) (cs : CS) (kf : KF) (T : TF) (O : List Nat) (X : va_W) (a0 w hw gw ch gq : Nat) (x1 : Int32) (t_a0 : T a0 = some (21, w, ch)) (t_w : isW T w hw gw) (t_ch : T ch = some (10, gq, 0)) (hO : okO T O [19, 21]) : TK l D cs kf yX11_isGuide cX11_isGuide 2 (some (.boolean)) { frames := 0, cells := 0, slots := 0, locals := 0 } [.ref a0, .int x1] T O X (Ti D cs (fun r u => u = (T, O, X) ∧ 0 ≤ r.toInt ∧ r.toInt ≤ 1 ∧ (r.toInt = 0 ∨ (0 ≤ x1.toInt ∧ x1.toInt < gw)))) := by
  refine tk_of (by decide) (Nat.le_of_ble_eq_true rfl) (fun p e s m below meth c ls A H locs hx hb hr hml hown hts hlocks hnm hkb hH hS hA hOX hks hE hl => ?_)
  have hown : s.vm.findClass RX11 = some m.cls := hown
  have hl : lv_has ls 2 [(0, .ref a0), (1, .int x1)] := hl
  have b1_w := t_w.2.1
  have b2_w := t_w.2.2
  refine lv_iload_n hx hb dX11_isGuide_0 rfl (lv_at hl 1 rfl) ?_
  have J20 : ∀ (k20_0 : Int32) (H : Heap) (locs : List Loc) (ls : Array Slot), (0 ≤ k20_0.toInt) → (k20_0.toInt ≤ 1) → (k20_0.toInt = 0 ∨ (0 ≤ x1.toInt ∧ x1.toInt < gw)) → HT D cs A T O X H → va_S A s.heap H locs → lv_has ls 2 [] → W p l e { frames := 0, cells := 0, slots := 0, locals := 0 } s m [.ref a0, .int x1].toArray below meth c H locs 0 0 (MQ below (Ti D cs (fun r u => u = (T, O, X) ∧ 0 ≤ r.toInt ∧ r.toInt ≤ 1 ∧ (r.toInt = 0 ∨ (0 ≤ x1.toInt ∧ x1.toInt < gw))) A) [.ref a0, .int x1].toArray s 0 0 A) (F0 m 20 ls [.int k20_0]) := by
    intro k20_0 H locs ls l_k20_0 u_k20_0 ix20_0 hH hS hl
    exact te_z hx hb hr hlocks (nar01 (by omega) (by omega)) hH hS (⟨rfl, by omega, by omega, by omega⟩) dX11_isGuide_20
  have J19 : ∀  (H : Heap) (locs : List Loc) (ls : Array Slot), HT D cs A T O X H → va_S A s.heap H locs → lv_has ls 2 [] → W p l e { frames := 0, cells := 0, slots := 0, locals := 0 } s m [.ref a0, .int x1].toArray below meth c H locs 0 0 (MQ below (Ti D cs (fun r u => u = (T, O, X) ∧ 0 ≤ r.toInt ∧ r.toInt ≤ 1 ∧ (r.toInt = 0 ∨ (0 ≤ x1.toInt ∧ x1.toInt < gw))) A) [.ref a0, .int x1].toArray s 0 0 A) (F0 m 19 ls []) := by
    intro  H locs ls  hH hS hl
    refine lv_iconst (v := 0) hx hb dX11_isGuide_19 (by decide) ?_
    have z_0 : (0 : Int32).toInt = 0 := by decide
    exact J20 0 _ _ _ (by decide) (by decide) (by omega) hH hS (lv_sub hl [] rfl)
  refine lv_if_lt (tgt := 19) hx hb dX11_isGuide_1 (by decide) (fun c1 => ?_) (fun c1 => ?_)
  · skip
    have tc1 := f_lt (k := 0) (by decide) c1
    exact J19  _ _ _  hH hS (lv_sub hl [] rfl)
  · skip
    have tc1 := f_nlt (k := 0) (by decide) c1
    refine lv_iload_n hx hb dX11_isGuide_4 rfl (lv_at hl 1 rfl) ?_
    refine lv_aload_n hx hb dX11_isGuide_5 rfl (lv_at hl 0 rfl) ?_
    refine t_get (ci := 11) (lst := ft11 w ch) (C := RX11) (F := TX11) (N := 20) hx hb hts uX11 hown hkb hH t_a0 (hO.no t_a0 (by decide)) (fun _ h9 => h9) rfl rfl 3 (by decide) rfl kw_363 (fun _ h9 => h9) dX11_isGuide_6 (fun v9 h9 => ?_)
    have h9 : v9 = .ref w := h9
    subst h9
    refine t_get (ci := 9) (lst := ft9w hw gw) (C := RX9) (F := TX9) (N := 14) hx hb hts uX9 hown hkb hH t_w.1 (hO.no t_w.1 (by decide)) (fun fs => (ob9w t_w fs).mp) rfl rfl 1 (by decide) rfl kw_112 (fun _ h9 => h9) dX11_isGuide_9 (fun v9 h9 => ?_)
    have h9 : v9 = .int (nI gw) := h9
    subst h9
    have e_gw : (nI gw).toInt = gw := nI_toInt (by have := t_w.2.2; omega)
    have b_gw := t_w.2.2
    refine lv_icmp_ge (tgt := 19) hx hb dX11_isGuide_12 (by decide) (fun c12 => ?_) (fun c12 => ?_)
    · skip
      have fuc12 := full_i x1
      have fvc12 := full_i (nI gw)
      have tc12 := g_le c12
      exact J19  _ _ _  hH hS (lv_sub hl [] rfl)
    · skip
      have fuc12 := full_i x1
      have fvc12 := full_i (nI gw)
      have tc12 := g_nle c12
      refine lv_iconst (v := 1) hx hb dX11_isGuide_15 (by decide) ?_
      refine lv_goto (tgt := 20) hx hb dX11_isGuide_16 (by decide) ?_
      have z_1 : (1 : Int32).toInt = 1 := by decide
      exact J20 1 _ _ _ (by decide) (by decide) (by omega) hH hS (lv_sub hl [] rfl)
set_option maxHeartbeats 4000000 in
set_option maxRecDepth 100000 in
theorem s_FW_isTray (l : Launch) (D : va_G) (cs : CS) (kf : KF) (T : TF) (O : List Nat) (X : va_W) (x0 : Int32)  (hO : okO T O []) : TK l D cs kf yX11_isTray cX11_isTray 1 (some (.boolean)) { frames := 0, cells := 0, slots := 0, locals := 0 } [.int x0] T O X (Ti D cs (fun r u => u = (T, O, X) ∧ 0 ≤ r.toInt ∧ r.toInt ≤ 1 ∧ (r.toInt = 0 ∨ (0 ≤ x0.toInt ∧ x0.toInt ≤ 3)))) := by
  refine tk_of (by decide) (Nat.le_of_ble_eq_true rfl) (fun p e s m below meth c ls A H locs hx hb hr hml hown hts hlocks hnm hkb hH hS hA hOX hks hE hl => ?_)
  have hown : s.vm.findClass RX11 = some m.cls := hown
  have hl : lv_has ls 1 [(0, .int x0)] := hl
  refine lv_iload_n hx hb dX11_isTray_0 rfl (lv_at hl 0 rfl) ?_
  have J14 : ∀ (k14_0 : Int32) (H : Heap) (locs : List Loc) (ls : Array Slot), (0 ≤ k14_0.toInt) → (k14_0.toInt ≤ 1) → (k14_0.toInt = 0 ∨ (0 ≤ x0.toInt ∧ x0.toInt ≤ 3)) → HT D cs A T O X H → va_S A s.heap H locs → lv_has ls 1 [] → W p l e { frames := 0, cells := 0, slots := 0, locals := 0 } s m [.int x0].toArray below meth c H locs 0 0 (MQ below (Ti D cs (fun r u => u = (T, O, X) ∧ 0 ≤ r.toInt ∧ r.toInt ≤ 1 ∧ (r.toInt = 0 ∨ (0 ≤ x0.toInt ∧ x0.toInt ≤ 3))) A) [.int x0].toArray s 0 0 A) (F0 m 14 ls [.int k14_0]) := by
    intro k14_0 H locs ls l_k14_0 u_k14_0 ix14_0 hH hS hl
    exact te_z hx hb hr hlocks (nar01 (by omega) (by omega)) hH hS (⟨rfl, by omega, by omega, by omega⟩) dX11_isTray_14
  have J13 : ∀  (H : Heap) (locs : List Loc) (ls : Array Slot), HT D cs A T O X H → va_S A s.heap H locs → lv_has ls 1 [] → W p l e { frames := 0, cells := 0, slots := 0, locals := 0 } s m [.int x0].toArray below meth c H locs 0 0 (MQ below (Ti D cs (fun r u => u = (T, O, X) ∧ 0 ≤ r.toInt ∧ r.toInt ≤ 1 ∧ (r.toInt = 0 ∨ (0 ≤ x0.toInt ∧ x0.toInt ≤ 3))) A) [.int x0].toArray s 0 0 A) (F0 m 13 ls []) := by
    intro  H locs ls  hH hS hl
    refine lv_iconst (v := 0) hx hb dX11_isTray_13 (by decide) ?_
    have z_0 : (0 : Int32).toInt = 0 := by decide
    exact J14 0 _ _ _ (by decide) (by decide) (by omega) hH hS (lv_sub hl [] rfl)
  refine lv_if_lt (tgt := 13) hx hb dX11_isTray_1 (by decide) (fun c1 => ?_) (fun c1 => ?_)
  · skip
    have tc1 := f_lt (k := 0) (by decide) c1
    exact J13  _ _ _  hH hS (lv_sub hl [] rfl)
  · skip
    have tc1 := f_nlt (k := 0) (by decide) c1
    refine lv_iload_n hx hb dX11_isTray_4 rfl (lv_at hl 0 rfl) ?_
    refine lv_iconst (v := 4) hx hb dX11_isTray_5 (by decide) ?_
    refine lv_icmp_ge (tgt := 13) hx hb dX11_isTray_6 (by decide) (fun c6 => ?_) (fun c6 => ?_)
    · skip
      have tc6 := f_ge (k := 4) (by decide) c6
      exact J13  _ _ _  hH hS (lv_sub hl [] rfl)
    · skip
      have tc6 := f_nge (k := 4) (by decide) c6
      refine lv_iconst (v := 1) hx hb dX11_isTray_9 (by decide) ?_
      refine lv_goto (tgt := 14) hx hb dX11_isTray_10 (by decide) ?_
      have z_1 : (1 : Int32).toInt = 1 := by decide
      exact J14 1 _ _ _ (by decide) (by decide) (by omega) hH hS (lv_sub hl [] rfl)
set_option maxHeartbeats 4000000 in
set_option maxRecDepth 100000 in
theorem s_FW_isImage (l : Launch) (D : va_G) (cs : CS) (kf : KF) (T : TF) (O : List Nat) (X : va_W) (x0 : Int32)  (hO : okO T O []) : TK l D cs kf yX11_isImage cX11_isImage 1 (some (.boolean)) { frames := 0, cells := 0, slots := 0, locals := 0 } [.int x0] T O X (Ti D cs (fun r u => u = (T, O, X) ∧ 0 ≤ r.toInt ∧ r.toInt ≤ 1 ∧ (r.toInt = 0 ∨ (0 ≤ x0.toInt ∧ x0.toInt ≤ 1)))) := by
  refine tk_of (by decide) (Nat.le_of_ble_eq_true rfl) (fun p e s m below meth c ls A H locs hx hb hr hml hown hts hlocks hnm hkb hH hS hA hOX hks hE hl => ?_)
  have hown : s.vm.findClass RX11 = some m.cls := hown
  have hl : lv_has ls 1 [(0, .int x0)] := hl
  refine lv_iload_n hx hb dX11_isImage_0 rfl (lv_at hl 0 rfl) ?_
  have J14 : ∀ (k14_0 : Int32) (H : Heap) (locs : List Loc) (ls : Array Slot), (0 ≤ k14_0.toInt) → (k14_0.toInt ≤ 1) → (k14_0.toInt = 0 ∨ (0 ≤ x0.toInt ∧ x0.toInt ≤ 1)) → HT D cs A T O X H → va_S A s.heap H locs → lv_has ls 1 [] → W p l e { frames := 0, cells := 0, slots := 0, locals := 0 } s m [.int x0].toArray below meth c H locs 0 0 (MQ below (Ti D cs (fun r u => u = (T, O, X) ∧ 0 ≤ r.toInt ∧ r.toInt ≤ 1 ∧ (r.toInt = 0 ∨ (0 ≤ x0.toInt ∧ x0.toInt ≤ 1))) A) [.int x0].toArray s 0 0 A) (F0 m 14 ls [.int k14_0]) := by
    intro k14_0 H locs ls l_k14_0 u_k14_0 ix14_0 hH hS hl
    exact te_z hx hb hr hlocks (nar01 (by omega) (by omega)) hH hS (⟨rfl, by omega, by omega, by omega⟩) dX11_isImage_14
  have J13 : ∀  (H : Heap) (locs : List Loc) (ls : Array Slot), HT D cs A T O X H → va_S A s.heap H locs → lv_has ls 1 [] → W p l e { frames := 0, cells := 0, slots := 0, locals := 0 } s m [.int x0].toArray below meth c H locs 0 0 (MQ below (Ti D cs (fun r u => u = (T, O, X) ∧ 0 ≤ r.toInt ∧ r.toInt ≤ 1 ∧ (r.toInt = 0 ∨ (0 ≤ x0.toInt ∧ x0.toInt ≤ 1))) A) [.int x0].toArray s 0 0 A) (F0 m 13 ls []) := by
    intro  H locs ls  hH hS hl
    refine lv_iconst (v := 0) hx hb dX11_isImage_13 (by decide) ?_
    have z_0 : (0 : Int32).toInt = 0 := by decide
    exact J14 0 _ _ _ (by decide) (by decide) (by omega) hH hS (lv_sub hl [] rfl)
  refine lv_if_lt (tgt := 13) hx hb dX11_isImage_1 (by decide) (fun c1 => ?_) (fun c1 => ?_)
  · skip
    have tc1 := f_lt (k := 0) (by decide) c1
    exact J13  _ _ _  hH hS (lv_sub hl [] rfl)
  · skip
    have tc1 := f_nlt (k := 0) (by decide) c1
    refine lv_iload_n hx hb dX11_isImage_4 rfl (lv_at hl 0 rfl) ?_
    refine lv_iconst (v := 2) hx hb dX11_isImage_5 (by decide) ?_
    refine lv_icmp_ge (tgt := 13) hx hb dX11_isImage_6 (by decide) (fun c6 => ?_) (fun c6 => ?_)
    · skip
      have tc6 := f_ge (k := 2) (by decide) c6
      exact J13  _ _ _  hH hS (lv_sub hl [] rfl)
    · skip
      have tc6 := f_nge (k := 2) (by decide) c6
      refine lv_iconst (v := 1) hx hb dX11_isImage_9 (by decide) ?_
      refine lv_goto (tgt := 14) hx hb dX11_isImage_10 (by decide) ?_
      have z_1 : (1 : Int32).toInt = 1 := by decide
      exact J14 1 _ _ _ (by decide) (by decide) (by omega) hH hS (lv_sub hl [] rfl)
set_option maxHeartbeats 4000000 in
set_option maxRecDepth 100000 in
theorem s_FW_asksRow (l : Launch) (D : va_G) (cs : CS) (kf : KF) (T : TF) (O : List Nat) (X : va_W) (x0 : Int32) (x1 : Int32) (l_x1 : 5 ≤ x1.toInt) (u_x1 : x1.toInt ≤ 14) (hO : okO T O []) : TK l D cs kf yX11_asksRow cX11_asksRow 2 (some (.boolean)) { frames := 0, cells := 0, slots := 0, locals := 0 } [.int x0, .int x1] T O X (Ti D cs (fun r u => u = (T, O, X) ∧ 0 ≤ r.toInt ∧ r.toInt ≤ 1)) := by
  refine tk_of (by decide) (Nat.le_of_ble_eq_true rfl) (fun p e s m below meth c ls A H locs hx hb hr hml hown hts hlocks hnm hkb hH hS hA hOX hks hE hl => ?_)
  have hown : s.vm.findClass RX11 = some m.cls := hown
  have hl : lv_has ls 2 [(0, .int x0), (1, .int x1)] := hl
  refine lv_iload_n hx hb dX11_asksRow_0 rfl (lv_at hl 0 rfl) ?_
  have J23 : ∀ (k23_0 : Int32) (H : Heap) (locs : List Loc) (ls : Array Slot), (0 ≤ k23_0.toInt) → (k23_0.toInt ≤ 1) → HT D cs A T O X H → va_S A s.heap H locs → lv_has ls 2 [] → W p l e { frames := 0, cells := 0, slots := 0, locals := 0 } s m [.int x0, .int x1].toArray below meth c H locs 0 0 (MQ below (Ti D cs (fun r u => u = (T, O, X) ∧ 0 ≤ r.toInt ∧ r.toInt ≤ 1) A) [.int x0, .int x1].toArray s 0 0 A) (F0 m 23 ls [.int k23_0]) := by
    intro k23_0 H locs ls l_k23_0 u_k23_0 hH hS hl
    exact te_z hx hb hr hlocks (nar01 (by omega) (by omega)) hH hS (⟨rfl, by omega, by omega⟩) dX11_asksRow_23
  have J18 : ∀  (H : Heap) (locs : List Loc) (ls : Array Slot), HT D cs A T O X H → va_S A s.heap H locs → lv_has ls 2 [] → W p l e { frames := 0, cells := 0, slots := 0, locals := 0 } s m [.int x0, .int x1].toArray below meth c H locs 0 0 (MQ below (Ti D cs (fun r u => u = (T, O, X) ∧ 0 ≤ r.toInt ∧ r.toInt ≤ 1) A) [.int x0, .int x1].toArray s 0 0 A) (F0 m 18 ls []) := by
    intro  H locs ls  hH hS hl
    refine lv_iconst (v := 1) hx hb dX11_asksRow_18 (by decide) ?_
    refine lv_goto (tgt := 23) hx hb dX11_asksRow_19 (by decide) ?_
    exact J23 1 _ _ _ (by decide) (by decide) hH hS (lv_sub hl [] rfl)
  refine lv_if_eq (tgt := 18) hx hb dX11_asksRow_1 (by decide) (fun c1 => ?_) (fun c1 => ?_)
  · skip
    have tc1 := f_eq (k := 0) (by decide) c1
    exact J18  _ _ _  hH hS (lv_sub hl [] rfl)
  · skip
    have tc1 := f_ne (k := 0) (by decide) c1
    refine lv_iload_n hx hb dX11_asksRow_4 rfl (lv_at hl 0 rfl) ?_
    refine lv_bipush (v := 10) hx hb dX11_asksRow_5 (by decide) ?_
    have J22 : ∀  (H : Heap) (locs : List Loc) (ls : Array Slot), HT D cs A T O X H → va_S A s.heap H locs → lv_has ls 2 [] → W p l e { frames := 0, cells := 0, slots := 0, locals := 0 } s m [.int x0, .int x1].toArray below meth c H locs 0 0 (MQ below (Ti D cs (fun r u => u = (T, O, X) ∧ 0 ≤ r.toInt ∧ r.toInt ≤ 1) A) [.int x0, .int x1].toArray s 0 0 A) (F0 m 22 ls []) := by
      intro  H locs ls  hH hS hl
      refine lv_iconst (v := 0) hx hb dX11_asksRow_22 (by decide) ?_
      exact J23 0 _ _ _ (by decide) (by decide) hH hS (lv_sub hl [] rfl)
    refine lv_icmp_lt (tgt := 22) hx hb dX11_asksRow_7 (by decide) (fun c7 => ?_) (fun c7 => ?_)
    · skip
      have tc7 := f_lt (k := 10) (by decide) c7
      exact J22  _ _ _  hH hS (lv_sub hl [] rfl)
    · skip
      have tc7 := f_nlt (k := 10) (by decide) c7
      refine lv_iload_n hx hb dX11_asksRow_10 rfl (lv_at hl 0 rfl) ?_
      refine lv_bipush (v := 10) hx hb dX11_asksRow_11 (by decide) ?_
      refine lv_iload_n hx hb dX11_asksRow_13 rfl (lv_at hl 1 rfl) ?_
      refine lv_iadd hx hb dX11_asksRow_14 ?_
      refine lv_topi (fun v14 ev14 => ?_)
      have tv14 : v14.toInt = (10) + x1.toInt := by rw [ev14]; exact add_i (by decide : (10 : Int32).toInt = 10) rfl (by omega) (by omega)
      refine lv_icmp_ge (tgt := 22) hx hb dX11_asksRow_15 (by decide) (fun c15 => ?_) (fun c15 => ?_)
      · skip
        have fuc15 := full_i x0
        have fvc15 := full_i v14
        have tc15 := g_le c15
        exact J22  _ _ _  hH hS (lv_sub hl [] rfl)
      · skip
        have fuc15 := full_i x0
        have fvc15 := full_i v14
        have tc15 := g_nle c15
        exact J18  _ _ _  hH hS (lv_sub hl [] rfl)
set_option maxHeartbeats 4000000 in
set_option maxRecDepth 100000 in
theorem s_FW_ofRow14 (l : Launch) (D : va_G) (cs : CS) (kf : KF) (T : TF) (O : List Nat) (X : va_W) (a0 : Nat) (x1 : Int32) (x2 : Int32) (t_a0 : T a0 = some (1, 14, 0)) (l_x1 : 0 ≤ x1.toInt) (u_x1 : x1.toInt ≤ 14) (hO : okO T O [1]) : TK l D cs kf yX11_ofRow cX11_ofRow 4 (some (.int)) { frames := 0, cells := 0, slots := 0, locals := 0 } [.ref a0, .int x1, .int x2] T O X (Ti D cs (fun r u => u = (T, O, X))) := by
  refine tk_of (by decide) (Nat.le_of_ble_eq_true rfl) (fun p e s m below meth c ls A H locs hx hb hr hml hown hts hlocks hnm hkb hH hS hA hOX hks hE hl => ?_)
  have hown : s.vm.findClass RX11 = some m.cls := hown
  have hl : lv_has ls 4 [(0, .ref a0), (1, .int x1), (2, .int x2)] := hl
  refine lv_iload_n hx hb dX11_ofRow_0 rfl (lv_at hl 1 rfl) ?_
  refine lv_if_ne (tgt := 6) hx hb dX11_ofRow_1 (by decide) (fun c1 => ?_) (fun c1 => ?_)
  · skip
    have tc1 := f_ne (k := 0) (by decide) c1
    refine lv_iload_n hx hb dX11_ofRow_6 rfl (lv_at hl 2 rfl) ?_
    refine lv_if_ne (tgt := 12) hx hb dX11_ofRow_7 (by decide) (fun c7 => ?_) (fun c7 => ?_)
    · skip
      have tc7 := f_ne (k := 0) (by decide) c7
      refine lv_iload_n hx hb dX11_ofRow_12 rfl (lv_at hl 2 rfl) ?_
      refine lv_bipush (v := 10) hx hb dX11_ofRow_13 (by decide) ?_
      refine lv_isub hx hb dX11_ofRow_15 ?_
      refine lv_topi (fun v15 ev15 => ?_)
      refine lv_istore_n (lv' := [(3, .int v15), (0, .ref a0), (1, .int x1), (2, .int x2)]) hx hb dX11_ofRow_16 rfl hl (by decide) rfl (fun ls hl => ?_)
      refine lv_iload_n hx hb dX11_ofRow_17 rfl (lv_at hl 0 rfl) ?_
      have J39 : ∀ (k39_0 : Int32) (H : Heap) (locs : List Loc) (ls : Array Slot), HT D cs A T O X H → va_S A s.heap H locs → lv_has ls 4 [] → W p l e { frames := 0, cells := 0, slots := 0, locals := 0 } s m [.ref a0, .int x1, .int x2].toArray below meth c H locs 0 0 (MQ below (Ti D cs (fun r u => u = (T, O, X)) A) [.ref a0, .int x1, .int x2].toArray s 0 0 A) (F0 m 39 ls [.int k39_0]) := by
        intro k39_0 H locs ls  hH hS hl
        exact te_i hx hb hr hlocks hH hS (rfl) dX11_ofRow_39
      have J38 : ∀  (H : Heap) (locs : List Loc) (ls : Array Slot), HT D cs A T O X H → va_S A s.heap H locs → lv_has ls 4 [] → W p l e { frames := 0, cells := 0, slots := 0, locals := 0 } s m [.ref a0, .int x1, .int x2].toArray below meth c H locs 0 0 (MQ below (Ti D cs (fun r u => u = (T, O, X)) A) [.ref a0, .int x1, .int x2].toArray s 0 0 A) (F0 m 38 ls []) := by
        intro  H locs ls  hH hS hl
        refine lv_iconst (v := (-1)) hx hb dX11_ofRow_38 (by decide) ?_
        exact J39 (-1) _ _ _  hH hS (lv_sub hl [] rfl)
      refine lv_if_lt (tgt := 38) hx hb dX11_ofRow_18 (by decide) (fun c18 => ?_) (fun c18 => ?_)
      · skip
        have tc18 := f_lt (k := 0) (by decide) c18
        exact J38  _ _ _  hH hS (lv_sub hl [] rfl)
      · skip
        have tc18 := f_nlt (k := 0) (by decide) c18
        refine lv_iload_n hx hb dX11_ofRow_21 rfl (lv_at hl 0 rfl) ?_
        refine lv_iload_n hx hb dX11_ofRow_22 rfl (lv_at hl 2 rfl) ?_
        refine lv_icmp_ge (tgt := 38) hx hb dX11_ofRow_23 (by decide) (fun c23 => ?_) (fun c23 => ?_)
        · skip
          have fuc23 := full_i v15
          have fvc23 := full_i x1
          have tc23 := g_le c23
          exact J38  _ _ _  hH hS (lv_sub hl [] rfl)
        · skip
          have fuc23 := full_i v15
          have fvc23 := full_i x1
          have tc23 := g_nle c23
          refine lv_iload_n hx hb dX11_ofRow_26 rfl (lv_at hl 0 rfl) ?_
          refine lv_aload_n hx hb dX11_ofRow_27 rfl (lv_at hl 1 rfl) ?_
          refine t_len1 hx hb hkb hH t_a0 (hO.no t_a0 (by decide)) dX11_ofRow_28 ?_
          refine lv_topc (y := 14) (by rfl) ?_
          refine lv_icmp_ge (tgt := 38) hx hb dX11_ofRow_29 (by decide) (fun c29 => ?_) (fun c29 => ?_)
          · skip
            have tc29 := f_ge (k := 14) (by decide) c29
            exfalso; omega
          · skip
            have tc29 := f_nge (k := 14) (by decide) c29
            refine lv_aload_n hx hb dX11_ofRow_32 rfl (lv_at hl 1 rfl) ?_
            refine lv_iload_n hx hb dX11_ofRow_33 rfl (lv_at hl 0 rfl) ?_
            refine t_ild hx hb hkb hH t_a0 (hO.no t_a0 (by decide)) (by omega) (by omega) dX11_ofRow_34 (fun v34 h9 => ?_)
            refine lv_goto (tgt := 39) hx hb dX11_ofRow_35 (by decide) ?_
            exact J39 v34 _ _ _  hH hS (lv_sub hl [] rfl)
    · skip
      have tc7 := f_eq (k := 0) (by decide) c7
      refine lv_iload_n hx hb dX11_ofRow_10 rfl (lv_at hl 1 rfl) ?_
      exact te_i hx hb hr hlocks hH hS (rfl) dX11_ofRow_11
  · skip
    have tc1 := f_eq (k := 0) (by decide) c1
    refine lv_iconst (v := (-1)) hx hb dX11_ofRow_4 (by decide) ?_
    exact te_i hx hb hr hlocks hH hS (rfl) dX11_ofRow_5
set_option maxHeartbeats 4000000 in
set_option maxRecDepth 100000 in
theorem s_FW_ofRow5 (l : Launch) (D : va_G) (cs : CS) (kf : KF) (T : TF) (O : List Nat) (X : va_W) (a0 : Nat) (x1 : Int32) (x2 : Int32) (t_a0 : T a0 = some (1, 5, 0)) (hO : okO T O [1]) : TK l D cs kf yX11_ofRow cX11_ofRow 4 (some (.int)) { frames := 0, cells := 0, slots := 0, locals := 0 } [.ref a0, .int x1, .int x2] T O X (Ti D cs (fun r u => u = (T, O, X))) := by
  refine tk_of (by decide) (Nat.le_of_ble_eq_true rfl) (fun p e s m below meth c ls A H locs hx hb hr hml hown hts hlocks hnm hkb hH hS hA hOX hks hE hl => ?_)
  have hown : s.vm.findClass RX11 = some m.cls := hown
  have hl : lv_has ls 4 [(0, .ref a0), (1, .int x1), (2, .int x2)] := hl
  refine lv_iload_n hx hb dX11_ofRow_0 rfl (lv_at hl 1 rfl) ?_
  refine lv_if_ne (tgt := 6) hx hb dX11_ofRow_1 (by decide) (fun c1 => ?_) (fun c1 => ?_)
  · skip
    have tc1 := f_ne (k := 0) (by decide) c1
    refine lv_iload_n hx hb dX11_ofRow_6 rfl (lv_at hl 2 rfl) ?_
    refine lv_if_ne (tgt := 12) hx hb dX11_ofRow_7 (by decide) (fun c7 => ?_) (fun c7 => ?_)
    · skip
      have tc7 := f_ne (k := 0) (by decide) c7
      refine lv_iload_n hx hb dX11_ofRow_12 rfl (lv_at hl 2 rfl) ?_
      refine lv_bipush (v := 10) hx hb dX11_ofRow_13 (by decide) ?_
      refine lv_isub hx hb dX11_ofRow_15 ?_
      refine lv_topi (fun v15 ev15 => ?_)
      refine lv_istore_n (lv' := [(3, .int v15), (0, .ref a0), (1, .int x1), (2, .int x2)]) hx hb dX11_ofRow_16 rfl hl (by decide) rfl (fun ls hl => ?_)
      refine lv_iload_n hx hb dX11_ofRow_17 rfl (lv_at hl 0 rfl) ?_
      have J39 : ∀ (k39_0 : Int32) (H : Heap) (locs : List Loc) (ls : Array Slot), HT D cs A T O X H → va_S A s.heap H locs → lv_has ls 4 [] → W p l e { frames := 0, cells := 0, slots := 0, locals := 0 } s m [.ref a0, .int x1, .int x2].toArray below meth c H locs 0 0 (MQ below (Ti D cs (fun r u => u = (T, O, X)) A) [.ref a0, .int x1, .int x2].toArray s 0 0 A) (F0 m 39 ls [.int k39_0]) := by
        intro k39_0 H locs ls  hH hS hl
        exact te_i hx hb hr hlocks hH hS (rfl) dX11_ofRow_39
      have J38 : ∀  (H : Heap) (locs : List Loc) (ls : Array Slot), HT D cs A T O X H → va_S A s.heap H locs → lv_has ls 4 [] → W p l e { frames := 0, cells := 0, slots := 0, locals := 0 } s m [.ref a0, .int x1, .int x2].toArray below meth c H locs 0 0 (MQ below (Ti D cs (fun r u => u = (T, O, X)) A) [.ref a0, .int x1, .int x2].toArray s 0 0 A) (F0 m 38 ls []) := by
        intro  H locs ls  hH hS hl
        refine lv_iconst (v := (-1)) hx hb dX11_ofRow_38 (by decide) ?_
        exact J39 (-1) _ _ _  hH hS (lv_sub hl [] rfl)
      refine lv_if_lt (tgt := 38) hx hb dX11_ofRow_18 (by decide) (fun c18 => ?_) (fun c18 => ?_)
      · skip
        have tc18 := f_lt (k := 0) (by decide) c18
        exact J38  _ _ _  hH hS (lv_sub hl [] rfl)
      · skip
        have tc18 := f_nlt (k := 0) (by decide) c18
        refine lv_iload_n hx hb dX11_ofRow_21 rfl (lv_at hl 0 rfl) ?_
        refine lv_iload_n hx hb dX11_ofRow_22 rfl (lv_at hl 2 rfl) ?_
        refine lv_icmp_ge (tgt := 38) hx hb dX11_ofRow_23 (by decide) (fun c23 => ?_) (fun c23 => ?_)
        · skip
          have fuc23 := full_i v15
          have fvc23 := full_i x1
          have tc23 := g_le c23
          exact J38  _ _ _  hH hS (lv_sub hl [] rfl)
        · skip
          have fuc23 := full_i v15
          have fvc23 := full_i x1
          have tc23 := g_nle c23
          refine lv_iload_n hx hb dX11_ofRow_26 rfl (lv_at hl 0 rfl) ?_
          refine lv_aload_n hx hb dX11_ofRow_27 rfl (lv_at hl 1 rfl) ?_
          refine t_len1 hx hb hkb hH t_a0 (hO.no t_a0 (by decide)) dX11_ofRow_28 ?_
          refine lv_topc (y := 5) (by rfl) ?_
          refine lv_icmp_ge (tgt := 38) hx hb dX11_ofRow_29 (by decide) (fun c29 => ?_) (fun c29 => ?_)
          · skip
            have tc29 := f_ge (k := 5) (by decide) c29
            exact J38  _ _ _  hH hS (lv_sub hl [] rfl)
          · skip
            have tc29 := f_nge (k := 5) (by decide) c29
            refine lv_aload_n hx hb dX11_ofRow_32 rfl (lv_at hl 1 rfl) ?_
            refine lv_iload_n hx hb dX11_ofRow_33 rfl (lv_at hl 0 rfl) ?_
            refine t_ild hx hb hkb hH t_a0 (hO.no t_a0 (by decide)) (by omega) (by omega) dX11_ofRow_34 (fun v34 h9 => ?_)
            refine lv_goto (tgt := 39) hx hb dX11_ofRow_35 (by decide) ?_
            exact J39 v34 _ _ _  hH hS (lv_sub hl [] rfl)
    · skip
      have tc7 := f_eq (k := 0) (by decide) c7
      refine lv_iload_n hx hb dX11_ofRow_10 rfl (lv_at hl 1 rfl) ?_
      exact te_i hx hb hr hlocks hH hS (rfl) dX11_ofRow_11
  · skip
    have tc1 := f_eq (k := 0) (by decide) c1
    refine lv_iconst (v := (-1)) hx hb dX11_ofRow_4 (by decide) ?_
    exact te_i hx hb hr hlocks hH hS (rfl) dX11_ofRow_5
set_option maxHeartbeats 4000000 in
set_option maxRecDepth 100000 in
theorem s_FW_drawn (l : Launch) (D : va_G) (cs : CS) (kf : KF) (T : TF) (O : List Nat) (X : va_W) (x0 : Int32)  (hO : okO T O []) : TK l D cs kf yX11_drawn cX11_drawn 1 (some (.int)) { frames := 0, cells := 0, slots := 0, locals := 0 } [.int x0] T O X (Ti D cs (fun r u => u = (T, O, X))) := by
  refine tk_of (by decide) (Nat.le_of_ble_eq_true rfl) (fun p e s m below meth c ls A H locs hx hb hr hml hown hts hlocks hnm hkb hH hS hA hOX hks hE hl => ?_)
  have hown : s.vm.findClass RX11 = some m.cls := hown
  have hl : lv_has ls 1 [(0, .int x0)] := hl
  refine lv_ldcw hx hb hown (hts _ kw_965) dX11_drawn_0 ?_
  refine lv_iload_n hx hb dX11_drawn_3 rfl (lv_at hl 0 rfl) ?_
  refine lv_imul hx hb dX11_drawn_4 ?_
  refine lv_topi (fun v4 ev4 => ?_)
  refine lv_sipush (v := 12345) hx hb dX11_drawn_5 (by decide) ?_
  refine lv_iadd hx hb dX11_drawn_8 ?_
  refine lv_topi (fun v8 ev8 => ?_)
  exact te_i hx hb hr hlocks hH hS (rfl) dX11_drawn_9
set_option maxHeartbeats 4000000 in
set_option maxRecDepth 100000 in
theorem s_FW_thereOn (l : Launch) (D : va_G) (cs : CS) (kf : KF) (T : TF) (O : List Nat) (X : va_W) (a0 w hw gw ch gq : Nat) (x1 : Int32) (t_a0 : T a0 = some (21, w, ch)) (t_w : isW T w hw gw) (t_ch : T ch = some (10, gq, 0)) (hO : okO T O [1, 16, 19, 21]) : TK l D cs kf yX11_thereOn cX11_thereOn 2 (some (.int)) { frames := 1, cells := 0, slots := 0, locals := 23 } [.ref a0, .int x1] T O X (Ti D cs (fun r u => u = (T, O, X) ∧ 0 ≤ r.toInt ∧ r.toInt ≤ 16383)) := by
  refine tk_of (by decide) (Nat.le_of_ble_eq_true rfl) (fun p e s m below meth c ls A H locs hx hb hr hml hown hts hlocks hnm hkb hH hS hA hOX hks hE hl => ?_)
  have hown : s.vm.findClass RX11 = some m.cls := hown
  have hl : lv_has ls 2 [(0, .ref a0), (1, .int x1)] := hl
  have b1_w := t_w.2.1
  have b2_w := t_w.2.2
  refine lv_aload_n hx hb dX11_thereOn_0 rfl (lv_at hl 0 rfl) ?_
  refine t_get (ci := 11) (lst := ft11 w ch) (C := RX11) (F := TX11) (N := 20) hx hb hts uX11 hown hkb hH t_a0 (hO.no t_a0 (by decide)) (fun _ h9 => h9) rfl rfl 3 (by decide) rfl kw_363 (fun _ h9 => h9) dX11_thereOn_1 (fun v9 h9 => ?_)
  have h9 : v9 = .ref w := h9
  subst h9
  refine lv_iload_n hx hb dX11_thereOn_4 rfl (lv_at hl 1 rfl) ?_
  refine tk_i hH hS hA (tr_V (n := 1) (As := [.int x1]) hx hb hml hown hts hkb hH hOX hks hE hS hA (s_Wall_comeBy l D cs kf T O X w hw gw x1 t_w (hO.sub (by decide))) kw_778 kw_779 kw_780 kw_5 kw_781 (by decide +kernel) ⟨Nat.le_of_ble_eq_true rfl, Nat.le_of_ble_eq_true rfl⟩ (HT.recv (ci := 9) hkb hH t_w.1 (hO.no t_w.1 (by decide)) rfl) rfl rfl hl.1 (Nat.le_of_ble_eq_true rfl) dX11_thereOn_5 ⟨Nat.le_of_ble_eq_true rfl, Nat.le_of_ble_eq_true rfl⟩) (fun v5 u H locs hz9 hH hS => ?_)
  obtain ⟨rfl, l_v5, u_v5⟩ := hz9
  have hH : HT D cs A T O X H := hH
  refine W.widen (k := 0) (n := 0) (Nat.le_of_ble_eq_true rfl) (Nat.le_of_ble_eq_true rfl) ?_
  refine lv_aload_n hx hb dX11_thereOn_8 rfl (lv_at hl 0 rfl) ?_
  refine t_get (ci := 11) (lst := ft11 w ch) (C := RX11) (F := TX11) (N := 20) hx hb hts uX11 hown hkb hH t_a0 (hO.no t_a0 (by decide)) (fun _ h9 => h9) rfl rfl 4 (by decide) rfl kw_364 (fun _ h9 => h9) dX11_thereOn_9 (fun v9 h9 => ?_)
  obtain ⟨v9, rfl, t_v9⟩ := h9
  refine t_get (ci := 6) (lst := ft6 0 0) (C := RX6) (F := TX6) (N := 6) hx hb hts uX6 hown hkb hH t_v9 (hO.no t_v9 (by decide)) (fun _ h9 => h9) rfl rfl 1 (by decide) rfl kw_188 (fun _ h9 => h9) dX11_thereOn_12 (fun v9 h9 => ?_)
  obtain ⟨v12, rfl⟩ := h9
  refine lv_iconst (v := (-1)) hx hb dX11_thereOn_15 (by decide) ?_
  refine lv_ixor hx hb dX11_thereOn_16 ?_
  refine lv_topi (fun v16 ev16 => ?_)
  refine lv_iand hx hb dX11_thereOn_17 ?_
  refine lv_topi (fun v17 ev17 => ?_)
  have tv17 : 0 ≤ v17.toInt ∧ v17.toInt ≤ v5.toInt := by rw [ev17]; exact and_l (by omega)
  exact te_i hx hb hr hlocks hH hS (⟨rfl, by omega, by omega⟩) dX11_thereOn_18
set_option maxHeartbeats 4000000 in
set_option maxRecDepth 100000 in
theorem s_FW_openOn (l : Launch) (D : va_G) (cs : CS) (kf : KF) (T : TF) (O : List Nat) (X : va_W) (a0 w hw gw ch gq : Nat) (x1 : Int32) (t_a0 : T a0 = some (21, w, ch)) (t_w : isW T w hw gw) (t_ch : T ch = some (10, gq, 0)) (hO : okO T O [1, 16, 19, 21]) : TK l D cs kf yX11_openOn cX11_openOn 2 (some (.int)) { frames := 2, cells := 0, slots := 0, locals := 44 } [.ref a0, .int x1] T O X (Ti D cs (fun r u => u = (T, O, X) ∧ 0 ≤ r.toInt ∧ r.toInt ≤ 16383)) := by
  refine tk_of (by decide) (Nat.le_of_ble_eq_true rfl) (fun p e s m below meth c ls A H locs hx hb hr hml hown hts hlocks hnm hkb hH hS hA hOX hks hE hl => ?_)
  have hown : s.vm.findClass RX11 = some m.cls := hown
  have hl : lv_has ls 2 [(0, .ref a0), (1, .int x1)] := hl
  have b1_w := t_w.2.1
  have b2_w := t_w.2.2
  refine lv_aload_n hx hb dX11_openOn_0 rfl (lv_at hl 0 rfl) ?_
  refine lv_iload_n hx hb dX11_openOn_1 rfl (lv_at hl 1 rfl) ?_
  refine tk_i hH hS hA (tr_V (n := 1) (As := [.int x1]) hx hb hml hown hts hkb hH hOX hks hE hS hA (s_FW_thereOn l D cs kf T O X a0 w hw gw ch gq x1 t_a0 t_w t_ch (hO.sub (by decide))) kw_774 kw_776 ks_18 kw_1 kw_777 (by decide +kernel) ⟨Nat.le_of_ble_eq_true rfl, Nat.le_of_ble_eq_true rfl⟩ (HT.recv (ci := 11) hkb hH t_a0 (hO.no t_a0 (by decide)) rfl) rfl rfl hl.1 (Nat.le_of_ble_eq_true rfl) dX11_openOn_2 ⟨Nat.le_of_ble_eq_true rfl, Nat.le_of_ble_eq_true rfl⟩) (fun v2 u H locs hz9 hH hS => ?_)
  obtain ⟨rfl, l_v2, u_v2⟩ := hz9
  have hH : HT D cs A T O X H := hH
  refine W.widen (k := 0) (n := 0) (Nat.le_of_ble_eq_true rfl) (Nat.le_of_ble_eq_true rfl) ?_
  refine lv_aload_n hx hb dX11_openOn_5 rfl (lv_at hl 0 rfl) ?_
  refine t_get (ci := 11) (lst := ft11 w ch) (C := RX11) (F := TX11) (N := 20) hx hb hts uX11 hown hkb hH t_a0 (hO.no t_a0 (by decide)) (fun _ h9 => h9) rfl rfl 4 (by decide) rfl kw_364 (fun _ h9 => h9) dX11_openOn_6 (fun v9 h9 => ?_)
  obtain ⟨v6, rfl, t_v6⟩ := h9
  refine t_get (ci := 6) (lst := ft6 0 0) (C := RX6) (F := TX6) (N := 6) hx hb hts uX6 hown hkb hH t_v6 (hO.no t_v6 (by decide)) (fun _ h9 => h9) rfl rfl 0 (by decide) rfl kw_186 (fun _ h9 => h9) dX11_openOn_9 (fun v9 h9 => ?_)
  obtain ⟨v9, rfl⟩ := h9
  refine lv_iconst (v := (-1)) hx hb dX11_openOn_12 (by decide) ?_
  refine lv_ixor hx hb dX11_openOn_13 ?_
  refine lv_topi (fun v13 ev13 => ?_)
  refine lv_iand hx hb dX11_openOn_14 ?_
  refine lv_topi (fun v14 ev14 => ?_)
  have tv14 : 0 ≤ v14.toInt ∧ v14.toInt ≤ v2.toInt := by rw [ev14]; exact and_l (by omega)
  exact te_i hx hb hr hlocks hH hS (⟨rfl, by omega, by omega⟩) dX11_openOn_15
set_option maxHeartbeats 4000000 in
set_option maxRecDepth 100000 in
theorem s_FW_openNow (l : Launch) (D : va_G) (cs : CS) (kf : KF) (T : TF) (O : List Nat) (X : va_W) (a0 w hw gw ch gq : Nat) (t_a0 : T a0 = some (21, w, ch)) (t_w : isW T w hw gw) (t_ch : T ch = some (10, gq, 0)) (hO : okO T O [1, 16, 19, 21]) : TK l D cs kf yX11_openNow cX11_openNow 1 (some (.int)) { frames := 3, cells := 0, slots := 0, locals := 65 } [.ref a0] T O X (Ti D cs (fun r u => u = (T, O, X) ∧ 0 ≤ r.toInt ∧ r.toInt ≤ 16383)) := by
  refine tk_of (by decide) (Nat.le_of_ble_eq_true rfl) (fun p e s m below meth c ls A H locs hx hb hr hml hown hts hlocks hnm hkb hH hS hA hOX hks hE hl => ?_)
  have hown : s.vm.findClass RX11 = some m.cls := hown
  have hl : lv_has ls 1 [(0, .ref a0)] := hl
  have b1_w := t_w.2.1
  have b2_w := t_w.2.2
  refine lv_aload_n hx hb dX11_openNow_0 rfl (lv_at hl 0 rfl) ?_
  refine lv_aload_n hx hb dX11_openNow_1 rfl (lv_at hl 0 rfl) ?_
  refine t_get (ci := 11) (lst := ft11 w ch) (C := RX11) (F := TX11) (N := 20) hx hb hts uX11 hown hkb hH t_a0 (hO.no t_a0 (by decide)) (fun _ h9 => h9) rfl rfl 4 (by decide) rfl kw_364 (fun _ h9 => h9) dX11_openNow_2 (fun v9 h9 => ?_)
  obtain ⟨v2, rfl, t_v2⟩ := h9
  refine t_get (ci := 6) (lst := ft6 0 0) (C := RX6) (F := TX6) (N := 6) hx hb hts uX6 hown hkb hH t_v2 (hO.no t_v2 (by decide)) (fun _ h9 => h9) rfl rfl 2 (by decide) rfl kw_191 (fun _ h9 => h9) dX11_openNow_5 (fun v9 h9 => ?_)
  obtain ⟨v5, rfl⟩ := h9
  refine tk_i hH hS hA (tr_V (n := 1) (As := [.int v5]) hx hb hml hown hts hkb hH hOX hks hE hS hA (s_FW_openOn l D cs kf T O X a0 w hw gw ch gq v5 t_a0 t_w t_ch (hO.sub (by decide))) kw_782 kw_784 ks_19 kw_1 kw_785 (by decide +kernel) ⟨Nat.le_of_ble_eq_true rfl, Nat.le_of_ble_eq_true rfl⟩ (HT.recv (ci := 11) hkb hH t_a0 (hO.no t_a0 (by decide)) rfl) rfl rfl hl.1 (Nat.le_of_ble_eq_true rfl) dX11_openNow_8 ⟨Nat.le_of_ble_eq_true rfl, Nat.le_of_ble_eq_true rfl⟩) (fun v8 u H locs hz9 hH hS => ?_)
  obtain ⟨rfl, l_v8, u_v8⟩ := hz9
  have hH : HT D cs A T O X H := hH
  refine W.widen (k := 0) (n := 0) (Nat.le_of_ble_eq_true rfl) (Nat.le_of_ble_eq_true rfl) ?_
  exact te_i hx hb hr hlocks hH hS (⟨rfl, by omega, by omega⟩) dX11_openNow_11
set_option maxHeartbeats 4000000 in
set_option maxRecDepth 100000 in
theorem s_FW_rowsOf (l : Launch) (D : va_G) (cs : CS) (kf : KF) (T : TF) (O : List Nat) (X : va_W) (a0 w hw gw ch gq : Nat) (x1 : Int32) (t_a0 : T a0 = some (21, w, ch)) (t_w : isW T w hw gw) (t_ch : T ch = some (10, gq, 0)) (l_x1 : 0 ≤ x1.toInt) (u_x1 : x1.toInt < gw) (hO : okO T O [1, 7, 15, 16, 19, 21]) : TK l D cs kf yX11_rowsOf cX11_rowsOf 3 (some (.object "FootholdWall$Rows")) { frames := 2, cells := 0, slots := 0, locals := 46 } [.ref a0, .int x1] T O X (Tr D cs (fun u => u.1 = (T, O, X) ∧ T u.2 = some (15, 0, 0))) := by
  refine tk_of (by decide) (Nat.le_of_ble_eq_true rfl) (fun p e s m below meth c ls A H locs hx hb hr hml hown hts hlocks hnm hkb hH hS hA hOX hks hE hl => ?_)
  have hown : s.vm.findClass RX11 = some m.cls := hown
  have hl : lv_has ls 3 [(0, .ref a0), (1, .int x1)] := hl
  have b1_w := t_w.2.1
  have b2_w := t_w.2.2
  refine lv_aload_n hx hb dX11_rowsOf_0 rfl (lv_at hl 0 rfl) ?_
  refine t_get (ci := 11) (lst := ft11 w ch) (C := RX11) (F := TX11) (N := 20) hx hb hts uX11 hown hkb hH t_a0 (hO.no t_a0 (by decide)) (fun _ h9 => h9) rfl rfl 12 (by decide) rfl kw_372 (fun _ h9 => h9) dX11_rowsOf_1 (fun v9 h9 => ?_)
  obtain ⟨v1, rfl, t_v1⟩ := h9
  refine lv_iload_n hx hb dX11_rowsOf_4 rfl (lv_at hl 1 rfl) ?_
  refine t_qld7 hx hb hkb hH t_v1 (hO.no t_v1 (by decide)) (by omega) (by omega) dX11_rowsOf_5 (fun v5 t_v5 => ?_)
  refine lv_astore_n (lv' := [(2, .ref v5), (0, .ref a0), (1, .int x1)]) hx hb dX11_rowsOf_6 rfl hl (by decide) rfl (fun ls hl => ?_)
  refine lv_aload_n hx hb dX11_rowsOf_7 rfl (lv_at hl 0 rfl) ?_
  refine lv_aload_n hx hb dX11_rowsOf_8 rfl (lv_at hl 1 rfl) ?_
  refine t_get (ci := 11) (lst := ft11 w ch) (C := RX11) (F := TX11) (N := 20) hx hb hts uX11 hown hkb hH t_a0 (hO.no t_a0 (by decide)) (fun _ h9 => h9) rfl rfl 3 (by decide) rfl kw_363 (fun _ h9 => h9) dX11_rowsOf_9 (fun v9 h9 => ?_)
  have h9 : v9 = .ref w := h9
  subst h9
  refine lv_aload_n hx hb dX11_rowsOf_12 rfl (lv_at hl 1 rfl) ?_
  refine t_get (ci := 11) (lst := ft11 w ch) (C := RX11) (F := TX11) (N := 20) hx hb hts uX11 hown hkb hH t_a0 (hO.no t_a0 (by decide)) (fun _ h9 => h9) rfl rfl 3 (by decide) rfl kw_363 (fun _ h9 => h9) dX11_rowsOf_13 (fun v9 h9 => ?_)
  have h9 : v9 = .ref w := h9
  subst h9
  refine t_get (ci := 9) (lst := ft9w hw gw) (C := RX9) (F := TX9) (N := 14) hx hb hts uX9 hown hkb hH t_w.1 (hO.no t_w.1 (by decide)) (fun fs => (ob9w t_w fs).mp) rfl rfl 9 (by decide) rfl kw_142 (fun _ h9 => h9) dX11_rowsOf_16 (fun v9 h9 => ?_)
  obtain ⟨v16, rfl, t_v16⟩ := h9
  refine lv_iload_n hx hb dX11_rowsOf_19 rfl (lv_at hl 2 rfl) ?_
  refine t_ild hx hb hkb hH t_v16 (hO.no t_v16 (by decide)) (by omega) (by omega) dX11_rowsOf_20 (fun v20 h9 => ?_)
  refine lv_aload_n hx hb dX11_rowsOf_21 rfl (lv_at hl 1 rfl) ?_
  refine t_get (ci := 11) (lst := ft11 w ch) (C := RX11) (F := TX11) (N := 20) hx hb hts uX11 hown hkb hH t_a0 (hO.no t_a0 (by decide)) (fun _ h9 => h9) rfl rfl 3 (by decide) rfl kw_363 (fun _ h9 => h9) dX11_rowsOf_22 (fun v9 h9 => ?_)
  have h9 : v9 = .ref w := h9
  subst h9
  refine t_get (ci := 9) (lst := ft9w hw gw) (C := RX9) (F := TX9) (N := 14) hx hb hts uX9 hown hkb hH t_w.1 (hO.no t_w.1 (by decide)) (fun fs => (ob9w t_w fs).mp) rfl rfl 10 (by decide) rfl kw_145 (fun _ h9 => h9) dX11_rowsOf_25 (fun v9 h9 => ?_)
  obtain ⟨v25, rfl, t_v25⟩ := h9
  refine lv_iload_n hx hb dX11_rowsOf_28 rfl (lv_at hl 2 rfl) ?_
  refine t_ild hx hb hkb hH t_v25 (hO.no t_v25 (by decide)) (by omega) (by omega) dX11_rowsOf_29 (fun v29 h9 => ?_)
  refine lv_aload_n hx hb dX11_rowsOf_30 rfl (lv_at hl 1 rfl) ?_
  refine t_get (ci := 11) (lst := ft11 w ch) (C := RX11) (F := TX11) (N := 20) hx hb hts uX11 hown hkb hH t_a0 (hO.no t_a0 (by decide)) (fun _ h9 => h9) rfl rfl 4 (by decide) rfl kw_364 (fun _ h9 => h9) dX11_rowsOf_31 (fun v9 h9 => ?_)
  obtain ⟨v31, rfl, t_v31⟩ := h9
  refine t_get (ci := 6) (lst := ft6 0 0) (C := RX6) (F := TX6) (N := 6) hx hb hts uX6 hown hkb hH t_v31 (hO.no t_v31 (by decide)) (fun _ h9 => h9) rfl rfl 2 (by decide) rfl kw_191 (fun _ h9 => h9) dX11_rowsOf_34 (fun v9 h9 => ?_)
  obtain ⟨v34, rfl⟩ := h9
  refine tk_v hH hS hA (tr_V (n := 4) (As := [.ref w, .int v20, .int v29, .int v34]) hx hb hml hown hts hkb hH hOX hks hE hS hA (s_Rows_aim l D cs kf T O X v5 w hw gw v20 v29 v34 t_v5 t_w (hO.sub (by decide))) kw_834 kw_835 kw_836 kw_8 kw_837 (by decide +kernel) ⟨Nat.le_of_ble_eq_true rfl, Nat.le_of_ble_eq_true rfl⟩ (HT.recv (ci := 5) hkb hH t_v5 (hO.no t_v5 (by decide)) rfl) rfl rfl hl.1 (Nat.le_of_ble_eq_true rfl) dX11_rowsOf_37 ⟨Nat.le_of_ble_eq_true rfl, Nat.le_of_ble_eq_true rfl⟩) (fun u H locs hz9 hH hS => ?_)
  have hz9 : u = (T, O, X) := hz9
  subst hz9
  have hH : HT D cs A T O X H := hH
  refine W.widen (k := 0) (n := 0) (Nat.le_of_ble_eq_true rfl) (Nat.le_of_ble_eq_true rfl) ?_
  refine lv_aload_n hx hb dX11_rowsOf_40 rfl (lv_at hl 0 rfl) ?_
  exact te_r hx hb hr hlocks hH hS ⟨rfl, t_v5⟩ dX11_rowsOf_41
theorem dX11_guide_0 : decode cX11_guide 0 = .ok (.aload_n 0, 1) := by decide +kernel
theorem dX11_guide_1 : decode cX11_guide 1 = .ok (.iload_n 1, 1) := by decide +kernel
theorem dX11_guide_2 : decode cX11_guide 2 = .ok (.invokevirtual 186, 3) := by decide +kernel
theorem dX11_guide_5 : decode cX11_guide 5 = .ok (.ifCond .ne 6, 3) := by decide +kernel
theorem dX11_guide_8 : decode cX11_guide 8 = .ok (.bipush (-2), 2) := by decide +kernel
theorem dX11_guide_10 : decode cX11_guide 10 = .ok (.ireturn, 1) := by decide +kernel
theorem dX11_guide_11 : decode cX11_guide 11 = .ok (.iload_n 2, 1) := by decide +kernel
theorem dX11_guide_12 : decode cX11_guide 12 = .ok (.tableswitch 57 0 2 #[28, 38, 48], 28) := by decide +kernel
theorem dX11_guide_40 : decode cX11_guide 40 = .ok (.aload_n 0, 1) := by decide +kernel
theorem dX11_guide_41 : decode cX11_guide 41 = .ok (.getfield 29, 3) := by decide +kernel
theorem dX11_guide_44 : decode cX11_guide 44 = .ok (.getfield 189, 3) := by decide +kernel
theorem dX11_guide_47 : decode cX11_guide 47 = .ok (.iload_n 1, 1) := by decide +kernel
theorem dX11_guide_48 : decode cX11_guide 48 = .ok (.iaload, 1) := by decide +kernel
theorem dX11_guide_49 : decode cX11_guide 49 = .ok (.ireturn, 1) := by decide +kernel
theorem dX11_guide_50 : decode cX11_guide 50 = .ok (.aload_n 0, 1) := by decide +kernel
theorem dX11_guide_51 : decode cX11_guide 51 = .ok (.getfield 29, 3) := by decide +kernel
theorem dX11_guide_54 : decode cX11_guide 54 = .ok (.getfield 192, 3) := by decide +kernel
theorem dX11_guide_57 : decode cX11_guide 57 = .ok (.iload_n 1, 1) := by decide +kernel
theorem dX11_guide_58 : decode cX11_guide 58 = .ok (.iaload, 1) := by decide +kernel
theorem dX11_guide_59 : decode cX11_guide 59 = .ok (.ireturn, 1) := by decide +kernel
theorem dX11_guide_60 : decode cX11_guide 60 = .ok (.aload_n 0, 1) := by decide +kernel
theorem dX11_guide_61 : decode cX11_guide 61 = .ok (.getfield 36, 3) := by decide +kernel
theorem dX11_guide_64 : decode cX11_guide 64 = .ok (.iload_n 1, 1) := by decide +kernel
theorem dX11_guide_65 : decode cX11_guide 65 = .ok (.invokevirtual 195, 3) := by decide +kernel
theorem dX11_guide_68 : decode cX11_guide 68 = .ok (.ireturn, 1) := by decide +kernel
theorem dX11_guide_69 : decode cX11_guide 69 = .ok (.bipush (-2), 2) := by decide +kernel
theorem dX11_guide_71 : decode cX11_guide 71 = .ok (.ireturn, 1) := by decide +kernel
theorem dX11_hold_0 : decode cX11_hold 0 = .ok (.aload_n 0, 1) := by decide +kernel
theorem dX11_hold_1 : decode cX11_hold 1 = .ok (.iload_n 1, 1) := by decide +kernel
theorem dX11_hold_2 : decode cX11_hold 2 = .ok (.invokevirtual 145, 3) := by decide +kernel
theorem dX11_hold_5 : decode cX11_hold 5 = .ok (.ifCond .ne 6, 3) := by decide +kernel
theorem dX11_hold_8 : decode cX11_hold 8 = .ok (.bipush (-8), 2) := by decide +kernel
theorem dX11_hold_10 : decode cX11_hold 10 = .ok (.ireturn, 1) := by decide +kernel
theorem dX11_hold_11 : decode cX11_hold 11 = .ok (.iload_n 2, 1) := by decide +kernel
theorem dX11_hold_12 : decode cX11_hold 12 = .ok (.tableswitch 204 0 9 #[56, 66, 76, 88, 100, 116, 132, 157, 182, 194], 56) := by decide +kernel
theorem dX11_hold_68 : decode cX11_hold 68 = .ok (.aload_n 0, 1) := by decide +kernel
theorem dX11_hold_69 : decode cX11_hold 69 = .ok (.getfield 29, 3) := by decide +kernel
theorem dX11_hold_72 : decode cX11_hold 72 = .ok (.getfield 149, 3) := by decide +kernel
theorem dX11_hold_75 : decode cX11_hold 75 = .ok (.iload_n 1, 1) := by decide +kernel
theorem dX11_hold_76 : decode cX11_hold 76 = .ok (.iaload, 1) := by decide +kernel
theorem dX11_hold_77 : decode cX11_hold 77 = .ok (.ireturn, 1) := by decide +kernel
theorem dX11_hold_78 : decode cX11_hold 78 = .ok (.aload_n 0, 1) := by decide +kernel
theorem dX11_hold_79 : decode cX11_hold 79 = .ok (.getfield 29, 3) := by decide +kernel
theorem dX11_hold_82 : decode cX11_hold 82 = .ok (.getfield 152, 3) := by decide +kernel
theorem dX11_hold_85 : decode cX11_hold 85 = .ok (.iload_n 1, 1) := by decide +kernel
theorem dX11_hold_86 : decode cX11_hold 86 = .ok (.iaload, 1) := by decide +kernel
theorem dX11_hold_87 : decode cX11_hold 87 = .ok (.ireturn, 1) := by decide +kernel
theorem dX11_hold_88 : decode cX11_hold 88 = .ok (.aload_n 0, 1) := by decide +kernel
theorem dX11_hold_89 : decode cX11_hold 89 = .ok (.getfield 29, 3) := by decide +kernel
theorem dX11_hold_92 : decode cX11_hold 92 = .ok (.getfield 155, 3) := by decide +kernel
theorem dX11_hold_95 : decode cX11_hold 95 = .ok (.iload_n 1, 1) := by decide +kernel
theorem dX11_hold_96 : decode cX11_hold 96 = .ok (.ishr, 1) := by decide +kernel
theorem dX11_hold_97 : decode cX11_hold 97 = .ok (.iconst 1, 1) := by decide +kernel
theorem dX11_hold_98 : decode cX11_hold 98 = .ok (.iand, 1) := by decide +kernel
theorem dX11_hold_99 : decode cX11_hold 99 = .ok (.ireturn, 1) := by decide +kernel
theorem dX11_hold_100 : decode cX11_hold 100 = .ok (.aload_n 0, 1) := by decide +kernel
theorem dX11_hold_101 : decode cX11_hold 101 = .ok (.getfield 29, 3) := by decide +kernel
theorem dX11_hold_104 : decode cX11_hold 104 = .ok (.getfield 158, 3) := by decide +kernel
theorem dX11_hold_107 : decode cX11_hold 107 = .ok (.iload_n 1, 1) := by decide +kernel
theorem dX11_hold_108 : decode cX11_hold 108 = .ok (.ishr, 1) := by decide +kernel
theorem dX11_hold_109 : decode cX11_hold 109 = .ok (.iconst 1, 1) := by decide +kernel
theorem dX11_hold_110 : decode cX11_hold 110 = .ok (.iand, 1) := by decide +kernel
theorem dX11_hold_111 : decode cX11_hold 111 = .ok (.ireturn, 1) := by decide +kernel
theorem dX11_hold_112 : decode cX11_hold 112 = .ok (.aload_n 0, 1) := by decide +kernel
theorem dX11_hold_113 : decode cX11_hold 113 = .ok (.aload_n 0, 1) := by decide +kernel
theorem dX11_hold_114 : decode cX11_hold 114 = .ok (.getfield 36, 3) := by decide +kernel
theorem dX11_hold_117 : decode cX11_hold 117 = .ok (.getfield 161, 3) := by decide +kernel
theorem dX11_hold_120 : decode cX11_hold 120 = .ok (.invokevirtual 164, 3) := by decide +kernel
theorem dX11_hold_123 : decode cX11_hold 123 = .ok (.iload_n 1, 1) := by decide +kernel
theorem dX11_hold_124 : decode cX11_hold 124 = .ok (.ishr, 1) := by decide +kernel
theorem dX11_hold_125 : decode cX11_hold 125 = .ok (.iconst 1, 1) := by decide +kernel
theorem dX11_hold_126 : decode cX11_hold 126 = .ok (.iand, 1) := by decide +kernel
theorem dX11_hold_127 : decode cX11_hold 127 = .ok (.ireturn, 1) := by decide +kernel
theorem dX11_hold_128 : decode cX11_hold 128 = .ok (.aload_n 0, 1) := by decide +kernel
theorem dX11_hold_129 : decode cX11_hold 129 = .ok (.aload_n 0, 1) := by decide +kernel
theorem dX11_hold_130 : decode cX11_hold 130 = .ok (.getfield 36, 3) := by decide +kernel
theorem dX11_hold_133 : decode cX11_hold 133 = .ok (.getfield 161, 3) := by decide +kernel
theorem dX11_hold_136 : decode cX11_hold 136 = .ok (.invokevirtual 168, 3) := by decide +kernel
theorem dX11_hold_139 : decode cX11_hold 139 = .ok (.iload_n 1, 1) := by decide +kernel
theorem dX11_hold_140 : decode cX11_hold 140 = .ok (.ishr, 1) := by decide +kernel
theorem dX11_hold_141 : decode cX11_hold 141 = .ok (.iconst 1, 1) := by decide +kernel
theorem dX11_hold_142 : decode cX11_hold 142 = .ok (.iand, 1) := by decide +kernel
theorem dX11_hold_143 : decode cX11_hold 143 = .ok (.ireturn, 1) := by decide +kernel
theorem dX11_hold_144 : decode cX11_hold 144 = .ok (.aload_n 0, 1) := by decide +kernel
theorem dX11_hold_145 : decode cX11_hold 145 = .ok (.getfield 36, 3) := by decide +kernel
theorem dX11_hold_148 : decode cX11_hold 148 = .ok (.iload_n 1, 1) := by decide +kernel
theorem dX11_hold_149 : decode cX11_hold 149 = .ok (.invokevirtual 171, 3) := by decide +kernel
theorem dX11_hold_152 : decode cX11_hold 152 = .ok (.ifCond .eq 15, 3) := by decide +kernel
theorem dX11_hold_155 : decode cX11_hold 155 = .ok (.aload_n 0, 1) := by decide +kernel
theorem dX11_hold_156 : decode cX11_hold 156 = .ok (.getfield 36, 3) := by decide +kernel
theorem dX11_hold_159 : decode cX11_hold 159 = .ok (.getfield 174, 3) := by decide +kernel
theorem dX11_hold_162 : decode cX11_hold 162 = .ok (.iload_n 1, 1) := by decide +kernel
theorem dX11_hold_163 : decode cX11_hold 163 = .ok (.iaload, 1) := by decide +kernel
theorem dX11_hold_164 : decode cX11_hold 164 = .ok (.goto 4, 3) := by decide +kernel
theorem dX11_hold_167 : decode cX11_hold 167 = .ok (.iconst (-1), 1) := by decide +kernel
theorem dX11_hold_168 : decode cX11_hold 168 = .ok (.ireturn, 1) := by decide +kernel
theorem dX11_hold_169 : decode cX11_hold 169 = .ok (.aload_n 0, 1) := by decide +kernel
theorem dX11_hold_170 : decode cX11_hold 170 = .ok (.getfield 36, 3) := by decide +kernel
theorem dX11_hold_173 : decode cX11_hold 173 = .ok (.iload_n 1, 1) := by decide +kernel
theorem dX11_hold_174 : decode cX11_hold 174 = .ok (.invokevirtual 171, 3) := by decide +kernel
theorem dX11_hold_177 : decode cX11_hold 177 = .ok (.ifCond .eq 15, 3) := by decide +kernel
theorem dX11_hold_180 : decode cX11_hold 180 = .ok (.aload_n 0, 1) := by decide +kernel
theorem dX11_hold_181 : decode cX11_hold 181 = .ok (.getfield 36, 3) := by decide +kernel
theorem dX11_hold_184 : decode cX11_hold 184 = .ok (.getfield 177, 3) := by decide +kernel
theorem dX11_hold_187 : decode cX11_hold 187 = .ok (.iload_n 1, 1) := by decide +kernel
theorem dX11_hold_188 : decode cX11_hold 188 = .ok (.iaload, 1) := by decide +kernel
theorem dX11_hold_189 : decode cX11_hold 189 = .ok (.goto 4, 3) := by decide +kernel
theorem dX11_hold_192 : decode cX11_hold 192 = .ok (.iconst (-1), 1) := by decide +kernel
theorem dX11_hold_193 : decode cX11_hold 193 = .ok (.ireturn, 1) := by decide +kernel
theorem dX11_hold_194 : decode cX11_hold 194 = .ok (.aload_n 0, 1) := by decide +kernel
theorem dX11_hold_195 : decode cX11_hold 195 = .ok (.getfield 36, 3) := by decide +kernel
theorem dX11_hold_198 : decode cX11_hold 198 = .ok (.getfield 180, 3) := by decide +kernel
theorem dX11_hold_201 : decode cX11_hold 201 = .ok (.iload_n 1, 1) := by decide +kernel
theorem dX11_hold_202 : decode cX11_hold 202 = .ok (.ishr, 1) := by decide +kernel
theorem dX11_hold_203 : decode cX11_hold 203 = .ok (.iconst 1, 1) := by decide +kernel
theorem dX11_hold_204 : decode cX11_hold 204 = .ok (.iand, 1) := by decide +kernel
theorem dX11_hold_205 : decode cX11_hold 205 = .ok (.ireturn, 1) := by decide +kernel
theorem dX11_hold_206 : decode cX11_hold 206 = .ok (.aload_n 0, 1) := by decide +kernel
theorem dX11_hold_207 : decode cX11_hold 207 = .ok (.getfield 29, 3) := by decide +kernel
theorem dX11_hold_210 : decode cX11_hold 210 = .ok (.getfield 183, 3) := by decide +kernel
theorem dX11_hold_213 : decode cX11_hold 213 = .ok (.iload_n 1, 1) := by decide +kernel
theorem dX11_hold_214 : decode cX11_hold 214 = .ok (.iaload, 1) := by decide +kernel
theorem dX11_hold_215 : decode cX11_hold 215 = .ok (.ireturn, 1) := by decide +kernel
theorem dX11_hold_216 : decode cX11_hold 216 = .ok (.bipush (-8), 2) := by decide +kernel
theorem dX11_hold_218 : decode cX11_hold 218 = .ok (.ireturn, 1) := by decide +kernel
theorem dX11_reach_0 : decode cX11_reach 0 = .ok (.aload_n 0, 1) := by decide +kernel
theorem dX11_reach_1 : decode cX11_reach 1 = .ok (.iload_n 1, 1) := by decide +kernel
theorem dX11_reach_2 : decode cX11_reach 2 = .ok (.invokevirtual 186, 3) := by decide +kernel
theorem dX11_reach_5 : decode cX11_reach 5 = .ok (.ifCond .eq 18, 3) := by decide +kernel
theorem dX11_reach_8 : decode cX11_reach 8 = .ok (.aload_n 0, 1) := by decide +kernel
theorem dX11_reach_9 : decode cX11_reach 9 = .ok (.iload_n 1, 1) := by decide +kernel
theorem dX11_reach_10 : decode cX11_reach 10 = .ok (.invokevirtual 202, 3) := by decide +kernel
theorem dX11_reach_13 : decode cX11_reach 13 = .ok (.aload_n 0, 1) := by decide +kernel
theorem dX11_reach_14 : decode cX11_reach 14 = .ok (.invokevirtual 206, 3) := by decide +kernel
theorem dX11_reach_17 : decode cX11_reach 17 = .ok (.invokevirtual 210, 3) := by decide +kernel
theorem dX11_reach_20 : decode cX11_reach 20 = .ok (.goto 5, 3) := by decide +kernel
theorem dX11_reach_23 : decode cX11_reach 23 = .ok (.bipush (-2), 2) := by decide +kernel
theorem dX11_reach_25 : decode cX11_reach 25 = .ok (.ireturn, 1) := by decide +kernel
theorem dX11_steps_0 : decode cX11_steps 0 = .ok (.aload_n 0, 1) := by decide +kernel
theorem dX11_steps_1 : decode cX11_steps 1 = .ok (.iload_n 1, 1) := by decide +kernel
theorem dX11_steps_2 : decode cX11_steps 2 = .ok (.invokevirtual 186, 3) := by decide +kernel
theorem dX11_steps_5 : decode cX11_steps 5 = .ok (.ifCond .eq 24, 3) := by decide +kernel
theorem dX11_steps_8 : decode cX11_steps 8 = .ok (.aload_n 0, 1) := by decide +kernel
theorem dX11_steps_9 : decode cX11_steps 9 = .ok (.iload_n 2, 1) := by decide +kernel
theorem dX11_steps_10 : decode cX11_steps 10 = .ok (.invokevirtual 145, 3) := by decide +kernel
theorem dX11_steps_13 : decode cX11_steps 13 = .ok (.ifCond .eq 16, 3) := by decide +kernel
theorem dX11_steps_16 : decode cX11_steps 16 = .ok (.aload_n 0, 1) := by decide +kernel
theorem dX11_steps_17 : decode cX11_steps 17 = .ok (.iload_n 3, 1) := by decide +kernel
theorem dX11_steps_18 : decode cX11_steps 18 = .ok (.invokevirtual 145, 3) := by decide +kernel
theorem dX11_steps_21 : decode cX11_steps 21 = .ok (.ifCond .eq 8, 3) := by decide +kernel
theorem dX11_steps_24 : decode cX11_steps 24 = .ok (.iload_n 2, 1) := by decide +kernel
theorem dX11_steps_25 : decode cX11_steps 25 = .ok (.iload_n 3, 1) := by decide +kernel
theorem dX11_steps_26 : decode cX11_steps 26 = .ok (.if_icmp .ne 6, 3) := by decide +kernel
theorem dX11_steps_29 : decode cX11_steps 29 = .ok (.bipush (-2), 2) := by decide +kernel
theorem dX11_steps_31 : decode cX11_steps 31 = .ok (.ireturn, 1) := by decide +kernel
theorem dX11_steps_32 : decode cX11_steps 32 = .ok (.aload_n 0, 1) := by decide +kernel
theorem dX11_steps_33 : decode cX11_steps 33 = .ok (.getfield 29, 3) := by decide +kernel
theorem dX11_steps_36 : decode cX11_steps 36 = .ok (.iload_n 2, 1) := by decide +kernel
theorem dX11_steps_37 : decode cX11_steps 37 = .ok (.iload_n 3, 1) := by decide +kernel
theorem dX11_steps_38 : decode cX11_steps 38 = .ok (.aload_n 0, 1) := by decide +kernel
theorem dX11_steps_39 : decode cX11_steps 39 = .ok (.getfield 29, 3) := by decide +kernel
theorem dX11_steps_42 : decode cX11_steps 42 = .ok (.getfield 189, 3) := by decide +kernel
theorem dX11_steps_45 : decode cX11_steps 45 = .ok (.iload_n 1, 1) := by decide +kernel
theorem dX11_steps_46 : decode cX11_steps 46 = .ok (.iaload, 1) := by decide +kernel
theorem dX11_steps_47 : decode cX11_steps 47 = .ok (.aload_n 0, 1) := by decide +kernel
theorem dX11_steps_48 : decode cX11_steps 48 = .ok (.getfield 29, 3) := by decide +kernel
theorem dX11_steps_51 : decode cX11_steps 51 = .ok (.getfield 192, 3) := by decide +kernel
theorem dX11_steps_54 : decode cX11_steps 54 = .ok (.iload_n 1, 1) := by decide +kernel
theorem dX11_steps_55 : decode cX11_steps 55 = .ok (.iaload, 1) := by decide +kernel
theorem dX11_steps_56 : decode cX11_steps 56 = .ok (.aload_n 0, 1) := by decide +kernel
theorem dX11_steps_57 : decode cX11_steps 57 = .ok (.getfield 36, 3) := by decide +kernel
theorem dX11_steps_60 : decode cX11_steps 60 = .ok (.getfield 161, 3) := by decide +kernel
theorem dX11_steps_63 : decode cX11_steps 63 = .ok (.invokevirtual 198, 3) := by decide +kernel
theorem dX11_steps_66 : decode cX11_steps 66 = .ok (.ifCond .eq 7, 3) := by decide +kernel
theorem dX11_steps_69 : decode cX11_steps 69 = .ok (.iconst 1, 1) := by decide +kernel
theorem dX11_steps_70 : decode cX11_steps 70 = .ok (.goto 4, 3) := by decide +kernel
theorem dX11_steps_73 : decode cX11_steps 73 = .ok (.iconst 0, 1) := by decide +kernel
theorem dX11_steps_74 : decode cX11_steps 74 = .ok (.ireturn, 1) := by decide +kernel
theorem kw_122 : Cond.fieldLink "FootholdWall" 155 "FootholdWall$Wall" "starts" "I" ∈ gw := gw_of (tb_of 122 (by decide +kernel)) (by decide +kernel)
theorem kw_128 : Cond.fieldLink "FootholdWall" 158 "FootholdWall$Wall" "tops" "I" ∈ gw := gw_of (tb_of 128 (by decide +kernel)) (by decide +kernel)
theorem kw_134 : Cond.fieldLink "FootholdWall" 149 "FootholdWall$Wall" "x" "[I" ∈ gw := gw_of (tb_of 134 (by decide +kernel)) (by decide +kernel)
theorem kw_137 : Cond.fieldLink "FootholdWall" 152 "FootholdWall$Wall" "y" "[I" ∈ gw := gw_of (tb_of 137 (by decide +kernel)) (by decide +kernel)
theorem kw_140 : Cond.fieldLink "FootholdWall" 183 "FootholdWall$Wall" "ice" "[I" ∈ gw := gw_of (tb_of 140 (by decide +kernel)) (by decide +kernel)
theorem kw_195 : Cond.fieldLink "FootholdWall" 174 "FootholdWall$State" "by" "[I" ∈ gw := gw_of (tb_of 195 (by decide +kernel)) (by decide +kernel)
theorem kw_197 : Cond.fieldLink "FootholdWall" 177 "FootholdWall$State" "since" "[I" ∈ gw := gw_of (tb_of 197 (by decide +kernel)) (by decide +kernel)
theorem kw_770 : Cond.methodLink "FootholdWall" 145 yX11_isHold ∈ gw := gw_of (tb_of 770 (by decide +kernel)) (by decide +kernel)
theorem kw_772 : Cond.instanceMethod yX11_isHold ∈ gw := gw_of (tb_of 772 (by decide +kernel)) (by decide +kernel)
theorem kw_773 : Cond.code yX11_isHold cX11_isHold 2 (some (.boolean)) ∈ gw := gw_of (tb_of 773 (by decide +kernel)) (by decide +kernel)
theorem kw_786 : Cond.methodLink "FootholdWall" 171 yX6_isUsed ∈ gw := gw_of (tb_of 786 (by decide +kernel)) (by decide +kernel)
theorem kw_794 : Cond.methodLink "FootholdWall" 186 yX11_isGuide ∈ gw := gw_of (tb_of 794 (by decide +kernel)) (by decide +kernel)
theorem kw_796 : Cond.instanceMethod yX11_isGuide ∈ gw := gw_of (tb_of 796 (by decide +kernel)) (by decide +kernel)
theorem kw_797 : Cond.code yX11_isGuide cX11_isGuide 2 (some (.boolean)) ∈ gw := gw_of (tb_of 797 (by decide +kernel)) (by decide +kernel)
theorem kw_798 : Cond.methodLink "FootholdWall" 195 yX6_usedBy ∈ gw := gw_of (tb_of 798 (by decide +kernel)) (by decide +kernel)
theorem kw_799 : Cond.instanceMethod yX6_usedBy ∈ gw := gw_of (tb_of 799 (by decide +kernel)) (by decide +kernel)
theorem kw_800 : Cond.selects "FootholdWall$State" yX6_usedBy yX6_usedBy ∈ gw := gw_of (tb_of 800 (by decide +kernel)) (by decide +kernel)
theorem kw_801 : Cond.code yX6_usedBy cX6_usedBy 4 (some (.int)) ∈ gw := gw_of (tb_of 801 (by decide +kernel)) (by decide +kernel)
theorem kw_807 : Cond.methodLink "FootholdWall" 198 yX9_mayStep ∈ gw := gw_of (tb_of 807 (by decide +kernel)) (by decide +kernel)
theorem kw_830 : Cond.methodLink "FootholdWall" 202 yX11_rowsOf ∈ gw := gw_of (tb_of 830 (by decide +kernel)) (by decide +kernel)
theorem kw_832 : Cond.instanceMethod yX11_rowsOf ∈ gw := gw_of (tb_of 832 (by decide +kernel)) (by decide +kernel)
theorem kw_833 : Cond.code yX11_rowsOf cX11_rowsOf 3 (some (.object "FootholdWall$Rows")) ∈ gw := gw_of (tb_of 833 (by decide +kernel)) (by decide +kernel)
theorem kw_846 : Cond.methodLink "FootholdWall" 206 yX11_openNow ∈ gw := gw_of (tb_of 846 (by decide +kernel)) (by decide +kernel)
theorem kw_848 : Cond.instanceMethod yX11_openNow ∈ gw := gw_of (tb_of 848 (by decide +kernel)) (by decide +kernel)
theorem kw_849 : Cond.code yX11_openNow cX11_openNow 1 (some (.int)) ∈ gw := gw_of (tb_of 849 (by decide +kernel)) (by decide +kernel)
theorem kw_850 : Cond.methodLink "FootholdWall" 210 yX5_reached ∈ gw := gw_of (tb_of 850 (by decide +kernel)) (by decide +kernel)
theorem kw_851 : Cond.instanceMethod yX5_reached ∈ gw := gw_of (tb_of 851 (by decide +kernel)) (by decide +kernel)
theorem kw_852 : Cond.selects "FootholdWall$Rows" yX5_reached yX5_reached ∈ gw := gw_of (tb_of 852 (by decide +kernel)) (by decide +kernel)
theorem kw_853 : Cond.code yX5_reached cX5_reached 2 (some (.int)) ∈ gw := gw_of (tb_of 853 (by decide +kernel)) (by decide +kernel)
theorem ks_17 : Cond.selects RX11 yX11_isHold yX11_isHold ∈ gw := gw_of (pv_of 17 (by decide +kernel)) (by decide +kernel)
theorem ks_20 : Cond.selects RX11 yX11_isGuide yX11_isGuide ∈ gw := gw_of (pv_of 20 (by decide +kernel)) (by decide +kernel)
theorem ks_21 : Cond.selects RX11 yX11_rowsOf yX11_rowsOf ∈ gw := gw_of (pv_of 21 (by decide +kernel)) (by decide +kernel)
theorem ks_22 : Cond.selects RX11 yX11_openNow yX11_openNow ∈ gw := gw_of (pv_of 22 (by decide +kernel)) (by decide +kernel)
