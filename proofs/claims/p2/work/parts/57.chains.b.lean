set_option maxHeartbeats 4000000 in
set_option maxRecDepth 100000 in
theorem s_Ch_leadingOn (l : Launch) (D : va_G) (cs : CS) (kf : KF) (T : TF) (O : List Nat) (X : va_W) (a0 : Nat) (x1 : Int32) (x2 : Int32) (t_a0 : T a0 = some (15, 0, 0)) (l_x2 : 0 ≤ x2.toInt) (u_x2 : x2.toInt ≤ 16383) (hO : okO T O [1, 12, 15, 19]) : TK l D cs kf yX0_leadingOn cX0_leadingOn 8 (some (.int)) { frames := 4, cells := 0, slots := 0, locals := 101 } [.ref a0, .int x1, .int x2] T O X (Ti D cs (fun r u => u = (T, O, X) ∧ 0 ≤ r.toInt ∧ r.toInt ≤ 16383)) := by
  refine tk_of (by decide) (Nat.le_of_ble_eq_true rfl) (fun p e s m below meth c ls A H locs hx hb hr hml hown hts hlocks hnm hkb hH hS hA hOX hks hE hl => ?_)
  have hown : s.vm.findClass RX0 = some m.cls := hown
  have hl : lv_has ls 8 [(0, .ref a0), (1, .int x1), (2, .int x2)] := hl
  refine lv_iload_n hx hb dX0_leadingOn_0 rfl (lv_at hl 2 rfl) ?_
  refine lv_istore_n (lv' := [(3, .int x2), (0, .ref a0), (1, .int x1), (2, .int x2)]) hx hb dX0_leadingOn_1 rfl hl (by decide) rfl (fun ls hl => ?_)
  refine lv_iconst (v := 1) hx hb dX0_leadingOn_2 (by decide) ?_
  refine lv_istore (lv' := [(4, .int 1), (3, .int x2), (0, .ref a0), (1, .int x1), (2, .int x2)]) hx hb dX0_leadingOn_3 hl (by decide) rfl (fun ls hl => ?_)
  refine lv_iconst (v := 0) hx hb dX0_leadingOn_5 (by decide) ?_
  have J8 : ∀ (n : Nat) (p8_5 : Int32) (p8_4 : Int32) (p8_3 : Int32) (H : Heap) (locs : List Loc) (ls : Array Slot), (14 - p8_5.toInt).toNat = n → (0 ≤ p8_5.toInt) → (p8_5.toInt ≤ 14) → (0 ≤ p8_4.toInt) → (p8_4.toInt ≤ 1) → (0 ≤ p8_3.toInt) → (p8_3.toInt ≤ 16383) → HT D cs A T O X H → va_S A s.heap H locs → lv_has ls 8 [(5, .int p8_5), (4, .int p8_4), (3, .int p8_3), (0, .ref a0), (1, .int x1), (2, .int x2)] → W p l e { frames := 4, cells := 0, slots := 0, locals := 101 } s m [.ref a0, .int x1, .int x2].toArray below meth c H locs 0 0 (MQ below (Ti D cs (fun r u => u = (T, O, X) ∧ 0 ≤ r.toInt ∧ r.toInt ≤ 16383) A) [.ref a0, .int x1, .int x2].toArray s 0 0 A) (F0 m 8 ls []) := by
    intro n
    induction n using Nat.strongRecOn with
    | _ n ih8 =>
      intro p8_5 p8_4 p8_3 H locs ls hm8 l_p8_5 u_p8_5 l_p8_4 u_p8_4 l_p8_3 u_p8_3 hH hS hl
      refine lv_iload hx hb dX0_leadingOn_8 (lv_at hl 0 rfl) ?_
      refine lv_bipush (v := 14) hx hb dX0_leadingOn_10 (by decide) ?_
      have J88 : ∀  (H : Heap) (locs : List Loc) (ls : Array Slot), HT D cs A T O X H → va_S A s.heap H locs → lv_has ls 8 [(3, .int p8_3), (2, .int x2)] → W p l e { frames := 4, cells := 0, slots := 0, locals := 101 } s m [.ref a0, .int x1, .int x2].toArray below meth c H locs 0 0 (MQ below (Ti D cs (fun r u => u = (T, O, X) ∧ 0 ≤ r.toInt ∧ r.toInt ≤ 16383) A) [.ref a0, .int x1, .int x2].toArray s 0 0 A) (F0 m 88 ls []) := by
        intro  H locs ls  hH hS hl
        refine lv_iload_n hx hb dX0_leadingOn_88 rfl (lv_at hl 0 rfl) ?_
        refine lv_iload_n hx hb dX0_leadingOn_89 rfl (lv_at hl 1 rfl) ?_
        refine lv_iconst (v := (-1)) hx hb dX0_leadingOn_90 (by decide) ?_
        refine lv_ixor hx hb dX0_leadingOn_91 ?_
        refine lv_topi (fun v91 ev91 => ?_)
        refine lv_iand hx hb dX0_leadingOn_92 ?_
        refine lv_topi (fun v92 ev92 => ?_)
        have tv92 : 0 ≤ v92.toInt ∧ v92.toInt ≤ p8_3.toInt := by rw [ev92]; exact and_l (by omega)
        exact te_i hx hb hr hlocks hH hS (⟨rfl, by omega, by omega⟩) dX0_leadingOn_93
      refine lv_icmp_ge (tgt := 88) hx hb dX0_leadingOn_12 (by decide) (fun c12 => ?_) (fun c12 => ?_)
      · skip
        have tc12 := f_ge (k := 14) (by decide) c12
        exact J88  _ _ _  hH hS (lv_sub hl [2, 5] rfl)
      · skip
        have tc12 := f_nge (k := 14) (by decide) c12
        refine lv_iload hx hb dX0_leadingOn_15 (lv_at hl 1 rfl) ?_
        refine lv_if_eq (tgt := 88) hx hb dX0_leadingOn_17 (by decide) (fun c17 => ?_) (fun c17 => ?_)
        · skip
          have tc17 := f_eq (k := 0) (by decide) c17
          exact J88  _ _ _  hH hS (lv_sub hl [2, 5] rfl)
        · skip
          have tc17 := f_ne (k := 0) (by decide) c17
          refine lv_iload_n hx hb dX0_leadingOn_20 rfl (lv_at hl 2 rfl) ?_
          refine lv_istore (lv' := [(6, .int p8_3), (5, .int p8_5), (4, .int p8_4), (3, .int p8_3), (0, .ref a0), (1, .int x1), (2, .int x2)]) hx hb dX0_leadingOn_21 hl (by decide) rfl (fun ls hl => ?_)
          refine lv_iconst (v := 0) hx hb dX0_leadingOn_23 (by decide) ?_
          have J26 : ∀ (n : Nat) (p26_7 : Int32) (p26_3 : Int32) (H : Heap) (locs : List Loc) (ls : Array Slot), (14 - p26_7.toInt).toNat = n → (0 ≤ p26_7.toInt) → (p26_7.toInt ≤ 14) → (0 ≤ p26_3.toInt) → (p26_3.toInt ≤ 16383) → HT D cs A T O X H → va_S A s.heap H locs → lv_has ls 8 [(7, .int p26_7), (6, .int p8_3), (5, .int p8_5), (3, .int p26_3), (0, .ref a0), (1, .int x1), (2, .int x2)] → W p l e { frames := 4, cells := 0, slots := 0, locals := 101 } s m [.ref a0, .int x1, .int x2].toArray below meth c H locs 0 0 (MQ below (Ti D cs (fun r u => u = (T, O, X) ∧ 0 ≤ r.toInt ∧ r.toInt ≤ 16383) A) [.ref a0, .int x1, .int x2].toArray s 0 0 A) (F0 m 26 ls []) := by
            intro n
            induction n using Nat.strongRecOn with
            | _ n ih26 =>
              intro p26_7 p26_3 H locs ls hm26 l_p26_7 u_p26_7 l_p26_3 u_p26_3 hH hS hl
              refine lv_iload hx hb dX0_leadingOn_26 (lv_at hl 0 rfl) ?_
              refine lv_bipush (v := 14) hx hb dX0_leadingOn_28 (by decide) ?_
              refine lv_icmp_ge (tgt := 69) hx hb dX0_leadingOn_30 (by decide) (fun c30 => ?_) (fun c30 => ?_)
              · skip
                have tc30 := f_ge (k := 14) (by decide) c30
                refine lv_iload_n hx hb dX0_leadingOn_69 rfl (lv_at hl 3 rfl) ?_
                refine lv_iload hx hb dX0_leadingOn_70 (lv_at hl 1 rfl) ?_
                have J80 : ∀ (k80_0 : Int32) (H : Heap) (locs : List Loc) (ls : Array Slot), (0 ≤ k80_0.toInt) → (k80_0.toInt ≤ 1) → HT D cs A T O X H → va_S A s.heap H locs → lv_has ls 8 [(5, .int p8_5), (3, .int p26_3), (0, .ref a0), (1, .int x1), (2, .int x2)] → W p l e { frames := 4, cells := 0, slots := 0, locals := 101 } s m [.ref a0, .int x1, .int x2].toArray below meth c H locs 0 0 (MQ below (Ti D cs (fun r u => u = (T, O, X) ∧ 0 ≤ r.toInt ∧ r.toInt ≤ 16383) A) [.ref a0, .int x1, .int x2].toArray s 0 0 A) (F0 m 80 ls [.int k80_0]) := by
                  intro k80_0 H locs ls l_k80_0 u_k80_0 hH hS hl
                  refine lv_istore (lv' := [(4, .int k80_0), (5, .int p8_5), (3, .int p26_3), (0, .ref a0), (1, .int x1), (2, .int x2)]) hx hb dX0_leadingOn_80 hl (by decide) rfl (fun ls hl => ?_)
                  obtain ⟨v82, ev82⟩ : ∃ y : Int32, y = p8_5 + 1 := ⟨_, rfl⟩
                  have tv82 : v82.toInt = p8_5.toInt + (1) := by rw [ev82]; exact add_i rfl (by decide) (by omega) (by omega)
                  refine lv_iinc (v := v82) (lv' := [(5, .int v82), (4, .int k80_0), (3, .int p26_3), (0, .ref a0), (1, .int x1), (2, .int x2)]) hx hb dX0_leadingOn_82 hl (k := 1) rfl (by rw [ev82]; rfl) (by decide) rfl (fun ls hl => ?_)
                  refine lv_goto (tgt := 8) hx hb dX0_leadingOn_85 (by decide) ?_
                  exact ih8 _ (by omega) v82 k80_0 p26_3 _ _ _ rfl (by omega) (by omega) (by omega) (by omega) (by omega) (by omega) hH hS (lv_sub hl [0, 1, 2, 3, 4, 5] rfl)
                refine lv_icmp_eq (tgt := 79) hx hb dX0_leadingOn_72 (by decide) (fun c72 => ?_) (fun c72 => ?_)
                · skip
                  have fuc72 := full_i p26_3
                  have fvc72 := full_i p8_3
                  have tc72 := g_eq c72
                  refine lv_iconst (v := 0) hx hb dX0_leadingOn_79 (by decide) ?_
                  exact J80 0 _ _ _ (by decide) (by decide) hH hS (lv_sub hl [2, 3, 4, 5, 6] rfl)
                · skip
                  have fuc72 := full_i p26_3
                  have fvc72 := full_i p8_3
                  have tc72 := g_ne c72
                  refine lv_iconst (v := 1) hx hb dX0_leadingOn_75 (by decide) ?_
                  refine lv_goto (tgt := 80) hx hb dX0_leadingOn_76 (by decide) ?_
                  exact J80 1 _ _ _ (by decide) (by decide) hH hS (lv_sub hl [2, 3, 4, 5, 6] rfl)
              · skip
                have tc30 := f_nge (k := 14) (by decide) c30
                refine lv_iload_n hx hb dX0_leadingOn_33 rfl (lv_at hl 5 rfl) ?_
                refine lv_iload_n hx hb dX0_leadingOn_34 rfl (lv_at hl 3 rfl) ?_
                refine lv_iconst (v := (-1)) hx hb dX0_leadingOn_35 (by decide) ?_
                refine lv_ixor hx hb dX0_leadingOn_36 ?_
                refine lv_topi (fun v36 ev36 => ?_)
                refine lv_iand hx hb dX0_leadingOn_37 ?_
                refine lv_topi (fun v37 ev37 => ?_)
                refine lv_iload hx hb dX0_leadingOn_38 (lv_at hl 0 rfl) ?_
                refine lv_ishr hx hb dX0_leadingOn_40 ?_
                refine lv_topi (fun v40 ev40 => ?_)
                refine lv_iconst (v := 1) hx hb dX0_leadingOn_41 (by decide) ?_
                refine lv_iand hx hb dX0_leadingOn_42 ?_
                refine lv_topi (fun v42 ev42 => ?_)
                have tv42 : 0 ≤ v42.toInt ∧ v42.toInt ≤ 1 := by rw [ev42]; exact and_r (by decide)
                have J63 : ∀ (p63_3 : Int32) (H : Heap) (locs : List Loc) (ls : Array Slot), (0 ≤ p63_3.toInt) → (p63_3.toInt ≤ 16383) → HT D cs A T O X H → va_S A s.heap H locs → lv_has ls 8 [(7, .int p26_7), (6, .int p8_3), (5, .int p8_5), (3, .int p63_3), (0, .ref a0), (1, .int x1), (2, .int x2)] → W p l e { frames := 4, cells := 0, slots := 0, locals := 101 } s m [.ref a0, .int x1, .int x2].toArray below meth c H locs 0 0 (MQ below (Ti D cs (fun r u => u = (T, O, X) ∧ 0 ≤ r.toInt ∧ r.toInt ≤ 16383) A) [.ref a0, .int x1, .int x2].toArray s 0 0 A) (F0 m 63 ls []) := by
                  intro p63_3 H locs ls l_p63_3 u_p63_3 hH hS hl
                  obtain ⟨v63, ev63⟩ : ∃ y : Int32, y = p26_7 + 1 := ⟨_, rfl⟩
                  have tv63 : v63.toInt = p26_7.toInt + (1) := by rw [ev63]; exact add_i rfl (by decide) (by omega) (by omega)
                  refine lv_iinc (v := v63) (lv' := [(7, .int v63), (6, .int p8_3), (5, .int p8_5), (3, .int p63_3), (0, .ref a0), (1, .int x1), (2, .int x2)]) hx hb dX0_leadingOn_63 hl (k := 0) rfl (by rw [ev63]; rfl) (by decide) rfl (fun ls hl => ?_)
                  refine lv_goto (tgt := 26) hx hb dX0_leadingOn_66 (by decide) ?_
                  exact ih26 _ (by omega) v63 p63_3 _ _ _ rfl (by omega) (by omega) (by omega) (by omega) hH hS (lv_sub hl [0, 1, 2, 3, 4, 5, 6] rfl)
                refine lv_if_eq (tgt := 63) hx hb dX0_leadingOn_43 (by decide) (fun c43 => ?_) (fun c43 => ?_)
                · skip
                  have tc43 := f_eq (k := 0) (by decide) c43
                  exact J63 p26_3 _ _ _ (by omega) (by omega) hH hS (lv_sub hl [0, 1, 2, 3, 4, 5, 6] rfl)
                · skip
                  have tc43 := f_ne (k := 0) (by decide) c43
                  refine lv_aload_n hx hb dX0_leadingOn_46 rfl (lv_at hl 4 rfl) ?_
                  refine lv_iload hx hb dX0_leadingOn_47 (lv_at hl 0 rfl) ?_
                  refine lv_iload_n hx hb dX0_leadingOn_49 rfl (lv_at hl 3 rfl) ?_
                  refine tk_i hH hS hA (tr_V (n := 2) (As := [.int p26_7, .int p26_3]) hx hb hml hown hts hkb hH hOX hks hE hS hA (s_Rows_stepped l D cs kf T O X a0 p26_7 p26_3 t_a0 (hO.sub (by decide))) kw_1075 kw_863 kw_864 kw_8 kw_865 (by decide +kernel) ⟨Nat.le_of_ble_eq_true rfl, Nat.le_of_ble_eq_true rfl⟩ (HT.recv (ci := 5) hkb hH t_a0 (hO.no t_a0 (by decide)) rfl) rfl rfl hl.1 (Nat.le_of_ble_eq_true rfl) dX0_leadingOn_50 ⟨Nat.le_of_ble_eq_true rfl, Nat.le_of_ble_eq_true rfl⟩) (fun v50 u H locs hz9 hH hS => ?_)
                  obtain ⟨rfl, l_v50, u_v50⟩ := hz9
                  have hH : HT D cs A T O X H := hH
                  refine W.widen (k := 0) (n := 0) (Nat.le_of_ble_eq_true rfl) (Nat.le_of_ble_eq_true rfl) ?_
                  refine lv_if_eq (tgt := 63) hx hb dX0_leadingOn_53 (by decide) (fun c53 => ?_) (fun c53 => ?_)
                  · skip
                    have tc53 := f_eq (k := 0) (by decide) c53
                    exact J63 p26_3 _ _ _ (by omega) (by omega) hH hS (lv_sub hl [0, 1, 2, 3, 4, 5, 6] rfl)
                  · skip
                    have tc53 := f_ne (k := 0) (by decide) c53
                    refine lv_iload_n hx hb dX0_leadingOn_56 rfl (lv_at hl 3 rfl) ?_
                    refine lv_iconst (v := 1) hx hb dX0_leadingOn_57 (by decide) ?_
                    refine lv_iload hx hb dX0_leadingOn_58 (lv_at hl 0 rfl) ?_
                    refine lv_ishl hx hb dX0_leadingOn_60 ?_
                    refine lv_topi (fun v60 ev60 => ?_)
                    have tv60 : 1 ≤ v60.toInt ∧ v60.toInt ≤ 8192 := by rw [ev60]; exact shl_b 13 (by decide) (by omega) (by omega)
                    refine lv_ior hx hb dX0_leadingOn_61 ?_
                    refine lv_topi (fun v61 ev61 => ?_)
                    have tv61 : 0 ≤ v61.toInt ∧ v61.toInt < 16384 := by rw [ev61]; exact or_b 14 (by decide) (by omega) (by omega) (by omega) (by omega)
                    refine lv_istore_n (lv' := [(3, .int v61), (7, .int p26_7), (6, .int p8_3), (5, .int p8_5), (0, .ref a0), (1, .int x1), (2, .int x2)]) hx hb dX0_leadingOn_62 rfl hl (by decide) rfl (fun ls hl => ?_)
                    exact J63 v61 _ _ _ (by omega) (by omega) hH hS (lv_sub hl [1, 2, 3, 0, 4, 5, 6] rfl)
          refine lv_istore (lv' := [(7, .int 0), (6, .int p8_3), (5, .int p8_5), (4, .int p8_4), (3, .int p8_3), (0, .ref a0), (1, .int x1), (2, .int x2)]) hx hb dX0_leadingOn_24 hl (by decide) rfl (fun ls hl => ?_)
          exact J26 _ 0 p8_3 _ _ _ rfl (by decide) (by decide) (by omega) (by omega) hH hS (lv_sub hl [0, 1, 2, 4, 5, 6, 7] rfl)
  refine lv_istore (lv' := [(5, .int 0), (4, .int 1), (3, .int x2), (0, .ref a0), (1, .int x1), (2, .int x2)]) hx hb dX0_leadingOn_6 hl (by decide) rfl (fun ls hl => ?_)
  exact J8 _ 0 1 x2 _ _ _ rfl (by decide) (by decide) (by decide) (by decide) (by omega) (by omega) hH hS (lv_sub hl [0, 1, 2, 3, 4, 5] rfl)
set_option maxHeartbeats 4000000 in
set_option maxRecDepth 100000 in
theorem s_Ch_growFrom (l : Launch) (D : va_G) (cs : CS) (kf : KF) (T : TF) (O : List Nat) (X : va_W) (a0 : Nat) (x1 : Int32) (y0 : Nat) (y1 : Int32) (y2 : Nat) (y3 : Nat) (nn j gq : Nat) (t_a0 : T a0 = some (10, gq, 0)) (l_x1 : 0 ≤ x1.toInt) (u_x1 : x1.toInt ≤ 16383) (t_y0 : T y0 = some (1, nn, 0)) (l_y1 : 0 ≤ y1.toInt) (u_y1 : y1.toInt ≤ 16383) (t_y2 : T y2 = some (1, 14, 1)) (t_y3 : T y3 = some (1, 14, 0)) (hn : nn = 2 ^ j) (hj : j ≤ 14) (h1 : x1.toInt < nn) (h2 : y1.toInt < nn) (hO : okO T (a0 :: O) [1]) : TK l D cs kf yX0_growFrom cX0_growFrom 4 none { frames := 0, cells := 0, slots := 0, locals := 0 } [.ref a0, .int x1] T (a0 :: O) ((a0, .inr (0, [.ref y0, .int y1, .ref y2, .ref y3])) :: X) (Tv D cs (fun u => u = (T, a0 :: O, (a0, .inr (0, [.ref y0, .int y1, .ref y2, .ref y3])) :: X))) := by
  refine tk_of (by decide) (Nat.le_of_ble_eq_true rfl) (fun p e s m below meth c ls A H locs hx hb hr hml hown hts hlocks hnm hkb hH hS hA hOX hks hE hl => ?_)
  have hown : s.vm.findClass RX0 = some m.cls := hown
  have hl : lv_has ls 4 [(0, .ref a0), (1, .int x1)] := hl
  have hOXf := hOX
  have hnb := p2_le hn hj
  refine lv_aload_n hx hb dX0_growFrom_0 rfl (lv_at hl 0 rfl) ?_
  refine x_getk (ci := 0) (C := RX0) (F := TX0) (N := 4) (v := .ref y0) hx hb hts uX0 hown hkb hH 0 rfl rfl 0 (by decide) rfl kw_330 (fun _ h9 => h9) dX0_growFrom_1 ?_
  refine lv_iload_n hx hb dX0_growFrom_4 rfl (lv_at hl 1 rfl) ?_
  refine t_ild hx hb hkb hH t_y0 (hO.no t_y0 (by decide)) (by omega) (by omega) dX0_growFrom_5 (fun v5 h9 => ?_)
  refine lv_istore_n (lv' := [(2, .int v5), (0, .ref a0), (1, .int x1)]) hx hb dX0_growFrom_6 rfl hl (by decide) rfl (fun ls hl => ?_)
  refine lv_iconst (v := 0) hx hb dX0_growFrom_7 (by decide) ?_
  have J9 : ∀ (n : Nat) (p9_3 : Int32) (H : Heap) (locs : List Loc) (ls : Array Slot), (14 - p9_3.toInt).toNat = n → (0 ≤ p9_3.toInt) → (p9_3.toInt ≤ 14) → HT D cs A T (a0 :: O) ((a0, .inr (0, [.ref y0, .int y1, .ref y2, .ref y3])) :: X) H → va_S A s.heap H locs → lv_has ls 4 [(3, .int p9_3), (2, .int v5), (0, .ref a0), (1, .int x1)] → W p l e { frames := 0, cells := 0, slots := 0, locals := 0 } s m [.ref a0, .int x1].toArray below meth c H locs 0 0 (MQ below (Tv D cs (fun u => u = (T, a0 :: O, (a0, .inr (0, [.ref y0, .int y1, .ref y2, .ref y3])) :: X)) A) [.ref a0, .int x1].toArray s 0 0 A) (F0 m 9 ls []) := by
    intro n
    induction n using Nat.strongRecOn with
    | _ n ih9 =>
      intro p9_3 H locs ls hm9 l_p9_3 u_p9_3 hH hS hl
      refine lv_iload_n hx hb dX0_growFrom_9 rfl (lv_at hl 0 rfl) ?_
      refine lv_bipush (v := 14) hx hb dX0_growFrom_10 (by decide) ?_
      have J67 : ∀  (H : Heap) (locs : List Loc) (ls : Array Slot), HT D cs A T (a0 :: O) ((a0, .inr (0, [.ref y0, .int y1, .ref y2, .ref y3])) :: X) H → va_S A s.heap H locs → lv_has ls 4 [] → W p l e { frames := 0, cells := 0, slots := 0, locals := 0 } s m [.ref a0, .int x1].toArray below meth c H locs 0 0 (MQ below (Tv D cs (fun u => u = (T, a0 :: O, (a0, .inr (0, [.ref y0, .int y1, .ref y2, .ref y3])) :: X)) A) [.ref a0, .int x1].toArray s 0 0 A) (F0 m 67 ls []) := by
        intro  H locs ls  hH hS hl
        exact te_v hx hb hr hlocks hH hS (rfl) dX0_growFrom_67
      refine lv_icmp_ge (tgt := 67) hx hb dX0_growFrom_12 (by decide) (fun c12 => ?_) (fun c12 => ?_)
      · skip
        have tc12 := f_ge (k := 14) (by decide) c12
        exact J67  _ _ _  hH hS (lv_sub hl [] rfl)
      · skip
        have tc12 := f_nge (k := 14) (by decide) c12
        refine lv_iload_n hx hb dX0_growFrom_15 rfl (lv_at hl 1 rfl) ?_
        refine lv_if_eq (tgt := 67) hx hb dX0_growFrom_16 (by decide) (fun c16 => ?_) (fun c16 => ?_)
        · skip
          have tc16 := f_eq (k := 0) (by decide) c16
          exact J67  _ _ _  hH hS (lv_sub hl [] rfl)
        · skip
          have tc16 := f_ne (k := 0) (by decide) c16
          refine lv_aload_n hx hb dX0_growFrom_19 rfl (lv_at hl 2 rfl) ?_
          refine x_getk (ci := 0) (C := RX0) (F := TX0) (N := 4) (v := .int y1) hx hb hts uX0 hown hkb hH 0 rfl rfl 1 (by decide) rfl kw_331 (fun _ h9 => h9) dX0_growFrom_20 ?_
          refine lv_iload_n hx hb dX0_growFrom_23 rfl (lv_at hl 3 rfl) ?_
          refine lv_iconst (v := (-1)) hx hb dX0_growFrom_24 (by decide) ?_
          refine lv_ixor hx hb dX0_growFrom_25 ?_
          refine lv_topi (fun v25 ev25 => ?_)
          refine lv_iand hx hb dX0_growFrom_26 ?_
          refine lv_topi (fun v26 ev26 => ?_)
          have tv26 : 0 ≤ v26.toInt ∧ v26.toInt ≤ y1.toInt := by rw [ev26]; exact and_l (by omega)
          refine lv_iload_n hx hb dX0_growFrom_27 rfl (lv_at hl 0 rfl) ?_
          refine lv_ishr hx hb dX0_growFrom_28 ?_
          refine lv_topi (fun v28 ev28 => ?_)
          have tv28 : 0 ≤ v28.toInt ∧ v28.toInt ≤ v26.toInt := by rw [ev28]; exact shr_b (by omega)
          refine lv_iconst (v := 1) hx hb dX0_growFrom_29 (by decide) ?_
          refine lv_iand hx hb dX0_growFrom_30 ?_
          refine lv_topi (fun v30 ev30 => ?_)
          have tv30 : 0 ≤ v30.toInt ∧ v30.toInt ≤ 1 := by rw [ev30]; exact and_r (by decide)
          have J61 : ∀  (H : Heap) (locs : List Loc) (ls : Array Slot), HT D cs A T (a0 :: O) ((a0, .inr (0, [.ref y0, .int y1, .ref y2, .ref y3])) :: X) H → va_S A s.heap H locs → lv_has ls 4 [(3, .int p9_3), (2, .int v5), (0, .ref a0), (1, .int x1)] → W p l e { frames := 0, cells := 0, slots := 0, locals := 0 } s m [.ref a0, .int x1].toArray below meth c H locs 0 0 (MQ below (Tv D cs (fun u => u = (T, a0 :: O, (a0, .inr (0, [.ref y0, .int y1, .ref y2, .ref y3])) :: X)) A) [.ref a0, .int x1].toArray s 0 0 A) (F0 m 61 ls []) := by
            intro  H locs ls  hH hS hl
            obtain ⟨v61, ev61⟩ : ∃ y : Int32, y = p9_3 + 1 := ⟨_, rfl⟩
            have tv61 : v61.toInt = p9_3.toInt + (1) := by rw [ev61]; exact add_i rfl (by decide) (by omega) (by omega)
            refine lv_iinc (v := v61) (lv' := [(3, .int v61), (2, .int v5), (0, .ref a0), (1, .int x1)]) hx hb dX0_growFrom_61 hl (k := 0) rfl (by rw [ev61]; rfl) (by decide) rfl (fun ls hl => ?_)
            refine lv_goto (tgt := 9) hx hb dX0_growFrom_64 (by decide) ?_
            exact ih9 _ (by omega) v61 _ _ _ rfl (by omega) (by omega) hH hS (lv_sub hl [0, 1, 2, 3] rfl)
          refine lv_if_eq (tgt := 61) hx hb dX0_growFrom_31 (by decide) (fun c31 => ?_) (fun c31 => ?_)
          · skip
            have tc31 := f_eq (k := 0) (by decide) c31
            exact J61  _ _ _  hH hS (lv_sub hl [0, 1, 2, 3] rfl)
          · skip
            have tc31 := f_ne (k := 0) (by decide) c31
            have hb9 := bit_le (by omega) (by omega) (by omega) ev28 ev30 (by omega)
            refine lv_aload_n hx hb dX0_growFrom_34 rfl (lv_at hl 2 rfl) ?_
            refine x_getk (ci := 0) (C := RX0) (F := TX0) (N := 4) (v := .ref y2) hx hb hts uX0 hown hkb hH 0 rfl rfl 2 (by decide) rfl kw_332 (fun _ h9 => h9) dX0_growFrom_35 ?_
            refine lv_iload_n hx hb dX0_growFrom_38 rfl (lv_at hl 0 rfl) ?_
            refine t_ild hx hb hkb hH t_y2 (hO.no t_y2 (by decide)) (by omega) (by omega) dX0_growFrom_39 (fun v39 h9 => ?_)
            have tv39 : 0 ≤ v39.toInt ∧ v39.toInt ≤ 16383 := h9
            refine lv_iload_n hx hb dX0_growFrom_40 rfl (lv_at hl 1 rfl) ?_
            refine lv_iand hx hb dX0_growFrom_41 ?_
            refine lv_topi (fun v41 ev41 => ?_)
            have tv41 : 0 ≤ v41.toInt ∧ v41.toInt ≤ v39.toInt := by rw [ev41]; exact and_l (by omega)
            refine lv_if_eq (tgt := 61) hx hb dX0_growFrom_42 (by decide) (fun c42 => ?_) (fun c42 => ?_)
            · skip
              have tc42 := f_eq (k := 0) (by decide) c42
              exact J61  _ _ _  hH hS (lv_sub hl [0, 1, 2, 3] rfl)
            · skip
              have tc42 := f_ne (k := 0) (by decide) c42
              refine lv_aload_n hx hb dX0_growFrom_45 rfl (lv_at hl 2 rfl) ?_
              refine x_getk (ci := 0) (C := RX0) (F := TX0) (N := 4) (v := .ref y0) hx hb hts uX0 hown hkb hH 0 rfl rfl 0 (by decide) rfl kw_330 (fun _ h9 => h9) dX0_growFrom_46 ?_
              refine lv_iload_n hx hb dX0_growFrom_49 rfl (lv_at hl 3 rfl) ?_
              refine lv_iconst (v := 1) hx hb dX0_growFrom_50 (by decide) ?_
              refine lv_iload_n hx hb dX0_growFrom_51 rfl (lv_at hl 0 rfl) ?_
              refine lv_ishl hx hb dX0_growFrom_52 ?_
              refine lv_topi (fun v52 ev52 => ?_)
              have tv52 : 1 ≤ v52.toInt ∧ v52.toInt ≤ 8192 := by rw [ev52]; exact shl_b 13 (by decide) (by omega) (by omega)
              refine lv_ior hx hb dX0_growFrom_53 ?_
              refine lv_topi (fun v53 ev53 => ?_)
              have tv53 : 0 ≤ v53.toInt ∧ v53.toInt < 16384 := by rw [ev53]; exact or_b 14 (by decide) (by omega) (by omega) (by omega) (by omega)
              rw [← ev52] at hb9
              have ho9 := or_b j (by omega) (x := x1) (y := v52) (by omega) (by omega) (by have := hn; exact_mod_cast (show x1.toInt < ((2 ^ j : Nat) : Int) by omega)) (by have := hn; exact_mod_cast (show v52.toInt < ((2 ^ j : Nat) : Int) by omega))
              have ho8 : v53.toInt < nn := by
                have q9 := ho9.2
                rw [← ev53] at q9
                have e8 : ((2 ^ j : Nat) : Int) = 2 ^ j := by norm_cast
                omega
              refine lv_dup2_11 hx hb dX0_growFrom_54 rfl rfl ?_
              refine t_ild hx hb hkb hH t_y0 (hO.no t_y0 (by decide)) (by omega) (by omega) dX0_growFrom_55 (fun v55 h9 => ?_)
              refine lv_iconst (v := 1) hx hb dX0_growFrom_56 (by decide) ?_
              refine lv_iload_n hx hb dX0_growFrom_57 rfl (lv_at hl 0 rfl) ?_
              refine lv_ishl hx hb dX0_growFrom_58 ?_
              refine lv_topi (fun v58 ev58 => ?_)
              have tv58 : 1 ≤ v58.toInt ∧ v58.toInt ≤ 8192 := by rw [ev58]; exact shl_b 13 (by decide) (by omega) (by omega)
              refine lv_ior hx hb dX0_growFrom_59 ?_
              refine lv_topi (fun v59 ev59 => ?_)
              refine t_ist hx hb hkb hH hS t_y0 (hO.no t_y0 (by decide)) (by omega) (by omega) (cp_0 _) dX0_growFrom_60 (fun H locs hH hS => ?_)
              exact J61  _ _ _  hH hS (lv_sub hl [0, 1, 2, 3] rfl)
  refine lv_istore_n (lv' := [(3, .int 0), (2, .int v5), (0, .ref a0), (1, .int x1)]) hx hb dX0_growFrom_8 rfl hl (by decide) rfl (fun ls hl => ?_)
  exact J9 _ 0 _ _ _ rfl (by decide) (by decide) hH hS (lv_sub hl [0, 1, 2, 3] rfl)
set_option maxHeartbeats 4000000 in
set_option maxRecDepth 100000 in
theorem s_Ch_begunOver (l : Launch) (D : va_G) (cs : CS) (kf : KF) (T : TF) (O : List Nat) (X : va_W) (a0 : Nat) (x1 : Int32) (x2 : Int32) (x3 : Int32) (y0 : Nat) (y1 : Int32) (y2 : Nat) (y3 : Nat) (nn j gq : Nat) (t_a0 : T a0 = some (10, gq, 0)) (t_y0 : T y0 = some (1, nn, 0)) (l_y1 : 0 ≤ y1.toInt) (u_y1 : y1.toInt ≤ 16383) (t_y2 : T y2 = some (1, 14, 1)) (t_y3 : T y3 = some (1, 14, 0)) (hn : nn = 2 ^ j) (hj : j ≤ 14) (hO : okO T (a0 :: O) [1]) : TK l D cs kf yX0_begunOver cX0_begunOver 9 (some (.int)) { frames := 1, cells := 0, slots := 0, locals := 20 } [.ref a0, .int x1, .int x2, .int x3] T (a0 :: O) ((a0, .inr (0, [.ref y0, .int y1, .ref y2, .ref y3])) :: X) (Ti D cs (fun r u => u = (T, a0 :: O, (a0, .inr (0, [.ref y0, .int y1, .ref y2, .ref y3])) :: X))) := by
  refine tk_of (by decide) (Nat.le_of_ble_eq_true rfl) (fun p e s m below meth c ls A H locs hx hb hr hml hown hts hlocks hnm hkb hH hS hA hOX hks hE hl => ?_)
  have hown : s.vm.findClass RX0 = some m.cls := hown
  have hl : lv_has ls 9 [(0, .ref a0), (1, .int x1), (2, .int x2), (3, .int x3)] := hl
  have hOXf := hOX
  have hnb := p2_le hn hj
  refine lv_iconst (v := 0) hx hb dX0_begunOver_0 (by decide) ?_
  refine lv_istore (lv' := [(4, .int 0), (0, .ref a0), (1, .int x1), (2, .int x2), (3, .int x3)]) hx hb dX0_begunOver_1 hl (by decide) rfl (fun ls hl => ?_)
  refine lv_iconst (v := 1) hx hb dX0_begunOver_3 (by decide) ?_
  refine lv_iload_n hx hb dX0_begunOver_4 rfl (lv_at hl 3 rfl) ?_
  refine tk_i hH hS hA (tr_S (n := 1) (As := [.int x2]) hx hb hml hown hts hkb hH (ox_map hOX rfl) hks hE hS hA (s_bitCount l D cs kf T (a0 :: O) ((a0, .inr (0, [.ref y0, .int y1, .ref y2, .ref y3])) :: X) x2  (hO.sub (by decide))) kw_1088 kw_692 kw_20 kw_693 (by decide +kernel) ⟨Nat.le_of_ble_eq_true rfl, Nat.le_of_ble_eq_true rfl⟩ rfl rfl hl.1 (Nat.le_of_ble_eq_true rfl) dX0_begunOver_5 ⟨Nat.le_of_ble_eq_true rfl, Nat.le_of_ble_eq_true rfl⟩) (fun v5 u H locs hz9 hH hS => ?_)
  obtain ⟨rfl, l_v5, u_v5⟩ := hz9
  have hH : HT D cs A T (a0 :: O) ((a0, .inr (0, [.ref y0, .int y1, .ref y2, .ref y3])) :: X) H := hH
  refine W.widen (k := 0) (n := 0) (Nat.le_of_ble_eq_true rfl) (Nat.le_of_ble_eq_true rfl) ?_
  refine lv_ishl hx hb dX0_begunOver_8 ?_
  refine lv_topi (fun v8 ev8 => ?_)
  refine lv_istore (lv' := [(5, .int v8), (4, .int 0), (0, .ref a0), (1, .int x1), (2, .int x2), (3, .int x3)]) hx hb dX0_begunOver_9 hl (by decide) rfl (fun ls hl => ?_)
  refine lv_iconst (v := 0) hx hb dX0_begunOver_11 (by decide) ?_
  refine lv_istore (lv' := [(6, .int 0), (5, .int v8), (4, .int 0), (0, .ref a0), (1, .int x1), (2, .int x2), (3, .int x3)]) hx hb dX0_begunOver_12 hl (by decide) rfl (fun ls hl => ?_)
  refine lv_iconst (v := 0) hx hb dX0_begunOver_14 (by decide) ?_
  have J17 : ∀ (n : Nat) (p17_7 : Int32) (p17_6 : Int32) (p17_4 : Int32) (H : Heap) (locs : List Loc) (ls : Array Slot), (2147483647 - p17_7.toInt).toNat = n → (0 ≤ p17_7.toInt) → HT D cs A T (a0 :: O) ((a0, .inr (0, [.ref y0, .int y1, .ref y2, .ref y3])) :: X) H → va_S A s.heap H locs → lv_has ls 9 [(7, .int p17_7), (6, .int p17_6), (5, .int v8), (4, .int p17_4), (0, .ref a0), (1, .int x1), (2, .int x2), (3, .int x3)] → W p l e { frames := 1, cells := 0, slots := 0, locals := 20 } s m [.ref a0, .int x1, .int x2, .int x3].toArray below meth c H locs 0 0 (MQ below (Ti D cs (fun r u => u = (T, a0 :: O, (a0, .inr (0, [.ref y0, .int y1, .ref y2, .ref y3])) :: X)) A) [.ref a0, .int x1, .int x2, .int x3].toArray s 0 0 A) (F0 m 17 ls []) := by
    intro n
    induction n using Nat.strongRecOn with
    | _ n ih17 =>
      intro p17_7 p17_6 p17_4 H locs ls hm17 l_p17_7 hH hS hl
      refine lv_iload hx hb dX0_begunOver_17 (lv_at hl 0 rfl) ?_
      refine lv_iload hx hb dX0_begunOver_19 (lv_at hl 2 rfl) ?_
      refine lv_icmp_ge (tgt := 80) hx hb dX0_begunOver_21 (by decide) (fun c21 => ?_) (fun c21 => ?_)
      · skip
        have fuc21 := full_i p17_7
        have fvc21 := full_i v8
        have tc21 := g_le c21
        refine lv_iload hx hb dX0_begunOver_80 (lv_at hl 3 rfl) ?_
        exact te_i hx hb hr hlocks hH hS (rfl) dX0_begunOver_82
      · skip
        have fuc21 := full_i p17_7
        have fvc21 := full_i v8
        have tc21 := g_nle c21
        refine lv_iload_n hx hb dX0_begunOver_24 rfl (lv_at hl 5 rfl) ?_
        refine lv_iload hx hb dX0_begunOver_25 (lv_at hl 1 rfl) ?_
        refine lv_ior hx hb dX0_begunOver_27 ?_
        refine lv_topi (fun v27 ev27 => ?_)
        refine lv_istore (lv' := [(8, .int v27), (7, .int p17_7), (6, .int p17_6), (5, .int v8), (4, .int p17_4), (0, .ref a0), (1, .int x1), (2, .int x2), (3, .int x3)]) hx hb dX0_begunOver_28 hl (by decide) rfl (fun ls hl => ?_)
        refine lv_iload hx hb dX0_begunOver_30 (lv_at hl 0 rfl) ?_
        refine tk_i hH hS hA (tr_S (n := 1) (As := [.int v27]) hx hb hml hown hts hkb hH (ox_map hOX rfl) hks hE hS hA (s_bitCount l D cs kf T (a0 :: O) ((a0, .inr (0, [.ref y0, .int y1, .ref y2, .ref y3])) :: X) v27  (hO.sub (by decide))) kw_1088 kw_692 kw_20 kw_693 (by decide +kernel) ⟨Nat.le_of_ble_eq_true rfl, Nat.le_of_ble_eq_true rfl⟩ rfl rfl hl.1 (Nat.le_of_ble_eq_true rfl) dX0_begunOver_32 ⟨Nat.le_of_ble_eq_true rfl, Nat.le_of_ble_eq_true rfl⟩) (fun v32 u H locs hz9 hH hS => ?_)
        obtain ⟨rfl, l_v32, u_v32⟩ := hz9
        have hH : HT D cs A T (a0 :: O) ((a0, .inr (0, [.ref y0, .int y1, .ref y2, .ref y3])) :: X) H := hH
        refine W.widen (k := 0) (n := 0) (Nat.le_of_ble_eq_true rfl) (Nat.le_of_ble_eq_true rfl) ?_
        refine lv_iload_n hx hb dX0_begunOver_35 rfl (lv_at hl 8 rfl) ?_
        have J66 : ∀ (p66_4 : Int32) (H : Heap) (locs : List Loc) (ls : Array Slot), HT D cs A T (a0 :: O) ((a0, .inr (0, [.ref y0, .int y1, .ref y2, .ref y3])) :: X) H → va_S A s.heap H locs → lv_has ls 9 [(7, .int p17_7), (6, .int p17_6), (5, .int v8), (4, .int p66_4), (0, .ref a0), (1, .int x1), (2, .int x2), (3, .int x3)] → W p l e { frames := 1, cells := 0, slots := 0, locals := 20 } s m [.ref a0, .int x1, .int x2, .int x3].toArray below meth c H locs 0 0 (MQ below (Ti D cs (fun r u => u = (T, a0 :: O, (a0, .inr (0, [.ref y0, .int y1, .ref y2, .ref y3])) :: X)) A) [.ref a0, .int x1, .int x2, .int x3].toArray s 0 0 A) (F0 m 66 ls []) := by
          intro p66_4 H locs ls  hH hS hl
          refine lv_iload hx hb dX0_begunOver_66 (lv_at hl 1 rfl) ?_
          refine lv_iload_n hx hb dX0_begunOver_68 rfl (lv_at hl 6 rfl) ?_
          refine lv_isub hx hb dX0_begunOver_69 ?_
          refine lv_topi (fun v69 ev69 => ?_)
          refine lv_iload_n hx hb dX0_begunOver_70 rfl (lv_at hl 6 rfl) ?_
          refine lv_iand hx hb dX0_begunOver_71 ?_
          refine lv_topi (fun v71 ev71 => ?_)
          refine lv_istore (lv' := [(6, .int v71), (7, .int p17_7), (5, .int v8), (4, .int p66_4), (0, .ref a0), (1, .int x1), (2, .int x2), (3, .int x3)]) hx hb dX0_begunOver_72 hl (by decide) rfl (fun ls hl => ?_)
          obtain ⟨v74, ev74⟩ : ∃ y : Int32, y = p17_7 + 1 := ⟨_, rfl⟩
          have tv74 : v74.toInt = p17_7.toInt + (1) := by rw [ev74]; exact add_i rfl (by decide) (by omega) (by omega)
          refine lv_iinc (v := v74) (lv' := [(7, .int v74), (6, .int v71), (5, .int v8), (4, .int p66_4), (0, .ref a0), (1, .int x1), (2, .int x2), (3, .int x3)]) hx hb dX0_begunOver_74 hl (k := 1) rfl (by rw [ev74]; rfl) (by decide) rfl (fun ls hl => ?_)
          refine lv_goto (tgt := 17) hx hb dX0_begunOver_77 (by decide) ?_
          exact ih17 _ (by omega) v74 v71 p66_4 _ _ _ rfl (by omega) hH hS (lv_sub hl [0, 1, 2, 3, 4, 5, 6, 7] rfl)
        refine lv_icmp_ne (tgt := 66) hx hb dX0_begunOver_36 (by decide) (fun c36 => ?_) (fun c36 => ?_)
        · skip
          have fuc36 := full_i v32
          have fvc36 := full_i x3
          have tc36 := g_ne c36
          exact J66 p17_4 _ _ _  hH hS (lv_sub hl [1, 2, 3, 4, 5, 6, 7, 8] rfl)
        · skip
          have fuc36 := full_i v32
          have fvc36 := full_i x3
          have tc36 := g_eq c36
          refine lv_iload hx hb dX0_begunOver_39 (lv_at hl 0 rfl) ?_
          refine lv_if_lt (tgt := 66) hx hb dX0_begunOver_41 (by decide) (fun c41 => ?_) (fun c41 => ?_)
          · skip
            have tc41 := f_lt (k := 0) (by decide) c41
            exact J66 p17_4 _ _ _  hH hS (lv_sub hl [1, 2, 3, 4, 5, 6, 7, 8] rfl)
          · skip
            have tc41 := f_nlt (k := 0) (by decide) c41
            refine lv_iload hx hb dX0_begunOver_44 (lv_at hl 0 rfl) ?_
            refine lv_aload_n hx hb dX0_begunOver_46 rfl (lv_at hl 5 rfl) ?_
            refine x_getk (ci := 0) (C := RX0) (F := TX0) (N := 4) (v := .ref y0) hx hb hts uX0 hown hkb hH 0 rfl rfl 0 (by decide) rfl kw_330 (fun _ h9 => h9) dX0_begunOver_47 ?_
            refine t_len1 hx hb hkb hH t_y0 (hO.no t_y0 (by decide)) dX0_begunOver_50 ?_
            have e_nn : (nI nn).toInt = nn := nI_toInt (by omega)
            refine lv_icmp_ge (tgt := 66) hx hb dX0_begunOver_51 (by decide) (fun c51 => ?_) (fun c51 => ?_)
            · skip
              have fuc51 := full_i v27
              have fvc51 := full_i (nI nn)
              have tc51 := g_le c51
              exact J66 p17_4 _ _ _  hH hS (lv_sub hl [1, 2, 3, 4, 5, 6, 7, 8] rfl)
            · skip
              have fuc51 := full_i v27
              have fvc51 := full_i (nI nn)
              have tc51 := g_nle c51
              refine lv_iload hx hb dX0_begunOver_54 (lv_at hl 4 rfl) ?_
              refine lv_aload_n hx hb dX0_begunOver_56 rfl (lv_at hl 5 rfl) ?_
              refine x_getk (ci := 0) (C := RX0) (F := TX0) (N := 4) (v := .ref y0) hx hb hts uX0 hown hkb hH 0 rfl rfl 0 (by decide) rfl kw_330 (fun _ h9 => h9) dX0_begunOver_57 ?_
              refine lv_iload hx hb dX0_begunOver_60 (lv_at hl 0 rfl) ?_
              refine t_ild hx hb hkb hH t_y0 (hO.no t_y0 (by decide)) (by omega) (by omega) dX0_begunOver_62 (fun v62 h9 => ?_)
              refine lv_ior hx hb dX0_begunOver_63 ?_
              refine lv_topi (fun v63 ev63 => ?_)
              refine lv_istore (lv' := [(4, .int v63), (8, .int v27), (7, .int p17_7), (6, .int p17_6), (5, .int v8), (0, .ref a0), (1, .int x1), (2, .int x2), (3, .int x3)]) hx hb dX0_begunOver_64 hl (by decide) rfl (fun ls hl => ?_)
              exact J66 v63 _ _ _  hH hS (lv_sub hl [2, 3, 4, 0, 5, 6, 7, 8] rfl)
  refine lv_istore (lv' := [(7, .int 0), (6, .int 0), (5, .int v8), (4, .int 0), (0, .ref a0), (1, .int x1), (2, .int x2), (3, .int x3)]) hx hb dX0_begunOver_15 hl (by decide) rfl (fun ls hl => ?_)
  exact J17 _ 0 0 0 _ _ _ rfl (by decide) hH hS (lv_sub hl [0, 1, 2, 3, 4, 5, 6, 7] rfl)
