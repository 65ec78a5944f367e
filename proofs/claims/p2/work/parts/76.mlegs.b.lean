set_option maxHeartbeats 4000000 in
set_option maxRecDepth 100000 in
theorem s_M_together (l : Launch) (D : va_G) (cs : CS) (kf : KF) (T : TF) (O : List Nat) (X : va_W) (a0 hg mq : Nat) (x1 : Int32) (x2 : Int32) (t_a0 : T a0 = some (22, hg, mq)) (b_hg : hg < 90) (hO : okO T O [1, 2, 3, 8, 9, 22]) : TK l D cs kf yX12_together cX12_together 5 (some (.int)) { frames := 6, cells := 0, slots := 0, locals := 140 } [.ref a0, .int x1, .int x2] T O X (Ti D cs (fun r u => u = (T, O, X) ∧ -2 ≤ r.toInt ∧ r.toInt ≤ 1)) := by
  refine tk_of (by decide) (Nat.le_of_ble_eq_true rfl) (fun p e s m below meth c ls A H locs hx hb hr hml hown hts hlocks hnm hkb hH hS hA hOX hks hE hl => ?_)
  have hown : s.vm.findClass RX12 = some m.cls := hown
  have hl : lv_has ls 5 [(0, .ref a0), (1, .int x1), (2, .int x2)] := hl
  refine lv_aload_n hx hb dX12_together_0 rfl (lv_at hl 0 rfl) ?_
  refine lv_iconst (v := 0) hx hb dX12_together_1 (by decide) ?_
  refine t_put (ci := 12) (lst := ft12 hg mq) (v := .int 0) (ty := tyX12 0) (C := RX12) (F := TX12) (N := 36) hx hb hts uX12 tyX12 tyX12_ok nmX12 hown hkb hH hS t_a0 (hO.no t_a0 (by decide)) (fun _ => Iff.rfl) rfl rfl 0 (by decide) rfl (⟨_, rfl⟩) kw_1223 (fun _ h9 => h9) rfl (tyX12_ok 0 (by decide)) rfl rfl dX12_together_2 (fun H locs hH hS => ?_)
  refine lv_aload_n hx hb dX12_together_5 rfl (lv_at hl 0 rfl) ?_
  refine lv_iload_n hx hb dX12_together_6 rfl (lv_at hl 1 rfl) ?_
  refine lv_i2l hx hb dX12_together_7 rfl ?_
  refine tk_i hH hS hA (tr_V (n := 1) (As := [.long x1.toInt64]) hx hb hml hown hts hkb hH hOX hks hE hS hA (s_M_isGuide l D cs kf T O X a0 hg mq x1.toInt64 t_a0 b_hg (hO.sub (by decide))) kw_1470 kw_1472 ks_67 kw_13 kw_1473 (by decide +kernel) ⟨Nat.le_of_ble_eq_true rfl, Nat.le_of_ble_eq_true rfl⟩ (HT.recv (ci := 12) hkb hH t_a0 (hO.no t_a0 (by decide)) rfl) rfl rfl hl.1 (Nat.le_of_ble_eq_true rfl) dX12_together_8 ⟨Nat.le_of_ble_eq_true rfl, Nat.le_of_ble_eq_true rfl⟩) (fun v8 u H locs hz9 hH hS => ?_)
  obtain ⟨rfl, l_v8, u_v8, x_v80⟩ := hz9
  simp only [Int32.toInt_toInt64] at x_v80
  have hH : HT D cs A T O X H := hH
  refine W.widen (k := 0) (n := 0) (Nat.le_of_ble_eq_true rfl) (Nat.le_of_ble_eq_true rfl) ?_
  have J23 : ∀  (H : Heap) (locs : List Loc) (ls : Array Slot), HT D cs A T O X H → va_S A s.heap H locs → lv_has ls 5 [] → W p l e { frames := 6, cells := 0, slots := 0, locals := 140 } s m [.ref a0, .int x1, .int x2].toArray below meth c H locs 0 0 (MQ below (Ti D cs (fun r u => u = (T, O, X) ∧ -2 ≤ r.toInt ∧ r.toInt ≤ 1) A) [.ref a0, .int x1, .int x2].toArray s 0 0 A) (F0 m 23 ls []) := by
    intro  H locs ls  hH hS hl
    refine lv_bipush (v := (-2)) hx hb dX12_together_23 (by decide) ?_
    exact te_i hx hb hr hlocks hH hS (⟨rfl, by decide, by decide⟩) dX12_together_25
  refine lv_if_eq (tgt := 23) hx hb dX12_together_11 (by decide) (fun c11 => ?_) (fun c11 => ?_)
  · skip
    have tc11 := f_eq (k := 0) (by decide) c11
    clear x_v80
    exact J23  _ _ _  hH hS (lv_sub hl [] rfl)
  · skip
    have tc11 := f_ne (k := 0) (by decide) c11
    replace x_v80 := x_v80.resolve_left tc11
    refine lv_aload_n hx hb dX12_together_14 rfl (lv_at hl 0 rfl) ?_
    refine lv_iload_n hx hb dX12_together_15 rfl (lv_at hl 2 rfl) ?_
    refine lv_i2l hx hb dX12_together_16 rfl ?_
    refine tk_i hH hS hA (tr_V (n := 1) (As := [.long x2.toInt64]) hx hb hml hown hts hkb hH hOX hks hE hS hA (s_M_isGuide l D cs kf T O X a0 hg mq x2.toInt64 t_a0 b_hg (hO.sub (by decide))) kw_1470 kw_1472 ks_67 kw_13 kw_1473 (by decide +kernel) ⟨Nat.le_of_ble_eq_true rfl, Nat.le_of_ble_eq_true rfl⟩ (HT.recv (ci := 12) hkb hH t_a0 (hO.no t_a0 (by decide)) rfl) rfl rfl hl.1 (Nat.le_of_ble_eq_true rfl) dX12_together_17 ⟨Nat.le_of_ble_eq_true rfl, Nat.le_of_ble_eq_true rfl⟩) (fun v17 u H locs hz9 hH hS => ?_)
    obtain ⟨rfl, l_v17, u_v17, x_v170⟩ := hz9
    simp only [Int32.toInt_toInt64] at x_v170
    have hH : HT D cs A T O X H := hH
    refine W.widen (k := 0) (n := 0) (Nat.le_of_ble_eq_true rfl) (Nat.le_of_ble_eq_true rfl) ?_
    refine lv_if_ne (tgt := 26) hx hb dX12_together_20 (by decide) (fun c20 => ?_) (fun c20 => ?_)
    · skip
      have tc20 := f_ne (k := 0) (by decide) c20
      replace x_v170 := x_v170.resolve_left tc20
      refine lv_aload_n hx hb dX12_together_26 rfl (lv_at hl 0 rfl) ?_
      refine lv_iload_n hx hb dX12_together_27 rfl (lv_at hl 1 rfl) ?_
      refine tk_v hH hS hA (tr_V (n := 1) (As := [.int x1]) hx hb hml hown hts hkb hH hOX hks hE hS hA (s_M_laysClimbsOf l D cs kf T O X a0 hg mq x1 t_a0 b_hg (by omega) (by omega) (hO.sub (by decide))) kw_1644 kw_1646 ks_91 kw_13 kw_1647 (by decide +kernel) ⟨Nat.le_of_ble_eq_true rfl, Nat.le_of_ble_eq_true rfl⟩ (HT.recv (ci := 12) hkb hH t_a0 (hO.no t_a0 (by decide)) rfl) rfl rfl hl.1 (Nat.le_of_ble_eq_true rfl) dX12_together_28 ⟨Nat.le_of_ble_eq_true rfl, Nat.le_of_ble_eq_true rfl⟩) (fun u H locs hz9 hH hS => ?_)
      have hz9 : u = (T, O, X) := hz9
      subst hz9
      have hH : HT D cs A T O X H := hH
      refine W.widen (k := 0) (n := 0) (Nat.le_of_ble_eq_true rfl) (Nat.le_of_ble_eq_true rfl) ?_
      refine lv_iconst (v := 0) hx hb dX12_together_31 (by decide) ?_
      have J33 : ∀ (n : Nat) (p33_3 : Int32) (H : Heap) (locs : List Loc) (ls : Array Slot), (16384 - p33_3.toInt).toNat = n → (0 ≤ p33_3.toInt) → (p33_3.toInt ≤ 16384) → HT D cs A T O X H → va_S A s.heap H locs → lv_has ls 5 [(3, .int p33_3), (0, .ref a0), (2, .int x2)] → W p l e { frames := 6, cells := 0, slots := 0, locals := 140 } s m [.ref a0, .int x1, .int x2].toArray below meth c H locs 0 0 (MQ below (Ti D cs (fun r u => u = (T, O, X) ∧ -2 ≤ r.toInt ∧ r.toInt ≤ 1) A) [.ref a0, .int x1, .int x2].toArray s 0 0 A) (F0 m 33 ls []) := by
        intro n
        induction n using Nat.strongRecOn with
        | _ n ih33 =>
          intro p33_3 H locs ls hm33 l_p33_3 u_p33_3 hH hS hl
          refine lv_iload_n hx hb dX12_together_33 rfl (lv_at hl 0 rfl) ?_
          refine lv_iconst (v := 1) hx hb dX12_together_34 (by decide) ?_
          refine lv_aload_n hx hb dX12_together_35 rfl (lv_at hl 1 rfl) ?_
          refine t_get (ci := 12) (lst := ft12 hg mq) (C := RX12) (F := TX12) (N := 36) hx hb hts uX12 hown hkb hH t_a0 (hO.no t_a0 (by decide)) (fun _ h9 => h9) rfl rfl 1 (by decide) rfl kw_1224 (fun _ h9 => h9) dX12_together_36 (fun v9 h9 => ?_)
          obtain ⟨v36, rfl, t_v36⟩ := h9
          refine lv_iconst (v := 1) hx hb dX12_together_39 (by decide) ?_
          refine t_ild8 hx hb hkb hH t_v36 (hO.no t_v36 (by decide)) (by decide) (by decide) (by decide) dX12_together_40 (fun v40 h9 h8 => ?_)
          have q9 := (h8 rfl).1 rfl
          subst q9
          have eH9 : (nI (hg / 6)).toInt = (((hg / 6) : Nat) : Int) := nI_toInt (by omega)
          refine lv_ishl hx hb dX12_together_41 ?_
          refine lv_topi (fun v41 ev41 => ?_)
          have tv41 : 1 ≤ v41.toInt ∧ v41.toInt ≤ 16384 := by rw [ev41]; exact shl_b 14 (by decide) (by omega) (by omega)
          refine lv_icmp_ge (tgt := 58) hx hb dX12_together_42 (by decide) (fun c42 => ?_) (fun c42 => ?_)
          · skip
            have fuc42 := full_i p33_3
            have fvc42 := full_i v41
            have tc42 := g_le c42
            refine lv_iconst (v := 0) hx hb dX12_together_58 (by decide) ?_
            have J60 : ∀ (n : Nat) (p60_3 : Int32) (H : Heap) (locs : List Loc) (ls : Array Slot), (16384 - p60_3.toInt).toNat = n → (0 ≤ p60_3.toInt) → (p60_3.toInt ≤ 16384) → HT D cs A T O X H → va_S A s.heap H locs → lv_has ls 5 [(3, .int p60_3), (0, .ref a0), (2, .int x2)] → W p l e { frames := 6, cells := 0, slots := 0, locals := 140 } s m [.ref a0, .int x1, .int x2].toArray below meth c H locs 0 0 (MQ below (Ti D cs (fun r u => u = (T, O, X) ∧ -2 ≤ r.toInt ∧ r.toInt ≤ 1) A) [.ref a0, .int x1, .int x2].toArray s 0 0 A) (F0 m 60 ls []) := by
              intro n
              induction n using Nat.strongRecOn with
              | _ n ih60 =>
                intro p60_3 H locs ls hm60 l_p60_3 u_p60_3 hH hS hl
                refine lv_iload_n hx hb dX12_together_60 rfl (lv_at hl 0 rfl) ?_
                refine lv_iconst (v := 1) hx hb dX12_together_61 (by decide) ?_
                refine lv_aload_n hx hb dX12_together_62 rfl (lv_at hl 1 rfl) ?_
                refine t_get (ci := 12) (lst := ft12 hg mq) (C := RX12) (F := TX12) (N := 36) hx hb hts uX12 hown hkb hH t_a0 (hO.no t_a0 (by decide)) (fun _ h9 => h9) rfl rfl 1 (by decide) rfl kw_1224 (fun _ h9 => h9) dX12_together_63 (fun v9 h9 => ?_)
                obtain ⟨v63, rfl, t_v63⟩ := h9
                refine lv_iconst (v := 1) hx hb dX12_together_66 (by decide) ?_
                refine t_ild8 hx hb hkb hH t_v63 (hO.no t_v63 (by decide)) (by decide) (by decide) (by decide) dX12_together_67 (fun v67 h9 h8 => ?_)
                have q9 := (h8 rfl).1 rfl
                subst q9
                have eH9 : (nI (hg / 6)).toInt = (((hg / 6) : Nat) : Int) := nI_toInt (by omega)
                refine lv_ishl hx hb dX12_together_68 ?_
                refine lv_topi (fun v68 ev68 => ?_)
                have tv68 : 1 ≤ v68.toInt ∧ v68.toInt ≤ 16384 := by rw [ev68]; exact shl_b 14 (by decide) (by omega) (by omega)
                refine lv_icmp_ge (tgt := 102) hx hb dX12_together_69 (by decide) (fun c69 => ?_) (fun c69 => ?_)
                · skip
                  have fuc69 := full_i p60_3
                  have fvc69 := full_i v68
                  have tc69 := g_le c69
                  refine lv_aload_n hx hb dX12_together_102 rfl (lv_at hl 1 rfl) ?_
                  refine lv_iload_n hx hb dX12_together_103 rfl (lv_at hl 2 rfl) ?_
                  refine tk_v hH hS hA (tr_V (n := 1) (As := [.int x2]) hx hb hml hown hts hkb hH hOX hks hE hS hA (s_M_laysGuide l D cs kf T O X a0 hg mq x2 t_a0 b_hg (by omega) (by omega) (hO.sub (by decide))) kw_1502 kw_1504 ks_71 kw_13 kw_1505 (by decide +kernel) ⟨Nat.le_of_ble_eq_true rfl, Nat.le_of_ble_eq_true rfl⟩ (HT.recv (ci := 12) hkb hH t_a0 (hO.no t_a0 (by decide)) rfl) rfl rfl hl.1 (Nat.le_of_ble_eq_true rfl) dX12_together_104 ⟨Nat.le_of_ble_eq_true rfl, Nat.le_of_ble_eq_true rfl⟩) (fun u H locs hz9 hH hS => ?_)
                  have hz9 : u = (T, O, X) := hz9
                  subst hz9
                  have hH : HT D cs A T O X H := hH
                  refine W.widen (k := 0) (n := 0) (Nat.le_of_ble_eq_true rfl) (Nat.le_of_ble_eq_true rfl) ?_
                  refine lv_aload_n hx hb dX12_together_107 rfl (lv_at hl 1 rfl) ?_
                  refine tk_i hH hS hA (tr_V (n := 0) (As := []) hx hb hml hown hts hkb hH hOX hks hE hS hA (s_M_openSet l D cs kf T O X a0 hg mq t_a0 b_hg (hO.sub (by decide))) kw_1510 kw_1512 ks_73 kw_13 kw_1513 (by decide +kernel) ⟨Nat.le_of_ble_eq_true rfl, Nat.le_of_ble_eq_true rfl⟩ (HT.recv (ci := 12) hkb hH t_a0 (hO.no t_a0 (by decide)) rfl) rfl rfl hl.1 (Nat.le_of_ble_eq_true rfl) dX12_together_108 ⟨Nat.le_of_ble_eq_true rfl, Nat.le_of_ble_eq_true rfl⟩) (fun v108 u H locs hz9 hH hS => ?_)
                  obtain ⟨rfl, l_v108, u_v108⟩ := hz9
                  have hH : HT D cs A T O X H := hH
                  refine W.widen (k := 0) (n := 0) (Nat.le_of_ble_eq_true rfl) (Nat.le_of_ble_eq_true rfl) ?_
                  refine lv_istore_n (lv' := [(3, .int v108), (0, .ref a0), (2, .int x2)]) hx hb dX12_together_111 rfl hl (by decide) rfl (fun ls hl => ?_)
                  refine lv_iconst (v := 0) hx hb dX12_together_112 (by decide) ?_
                  have J115 : ∀ (n : Nat) (p115_4 : Int32) (H : Heap) (locs : List Loc) (ls : Array Slot), (16384 - p115_4.toInt).toNat = n → (0 ≤ p115_4.toInt) → (p115_4.toInt ≤ 16384) → HT D cs A T O X H → va_S A s.heap H locs → lv_has ls 5 [(4, .int p115_4), (3, .int v108), (0, .ref a0)] → W p l e { frames := 6, cells := 0, slots := 0, locals := 140 } s m [.ref a0, .int x1, .int x2].toArray below meth c H locs 0 0 (MQ below (Ti D cs (fun r u => u = (T, O, X) ∧ -2 ≤ r.toInt ∧ r.toInt ≤ 1) A) [.ref a0, .int x1, .int x2].toArray s 0 0 A) (F0 m 115 ls []) := by
                    intro n
                    induction n using Nat.strongRecOn with
                    | _ n ih115 =>
                      intro p115_4 H locs ls hm115 l_p115_4 u_p115_4 hH hS hl
                      refine lv_iload hx hb dX12_together_115 (lv_at hl 0 rfl) ?_
                      refine lv_iconst (v := 1) hx hb dX12_together_117 (by decide) ?_
                      refine lv_aload_n hx hb dX12_together_118 rfl (lv_at hl 2 rfl) ?_
                      refine t_get (ci := 12) (lst := ft12 hg mq) (C := RX12) (F := TX12) (N := 36) hx hb hts uX12 hown hkb hH t_a0 (hO.no t_a0 (by decide)) (fun _ h9 => h9) rfl rfl 1 (by decide) rfl kw_1224 (fun _ h9 => h9) dX12_together_119 (fun v9 h9 => ?_)
                      obtain ⟨v119, rfl, t_v119⟩ := h9
                      refine lv_iconst (v := 1) hx hb dX12_together_122 (by decide) ?_
                      refine t_ild8 hx hb hkb hH t_v119 (hO.no t_v119 (by decide)) (by decide) (by decide) (by decide) dX12_together_123 (fun v123 h9 h8 => ?_)
                      have q9 := (h8 rfl).1 rfl
                      subst q9
                      have eH9 : (nI (hg / 6)).toInt = (((hg / 6) : Nat) : Int) := nI_toInt (by omega)
                      refine lv_ishl hx hb dX12_together_124 ?_
                      refine lv_topi (fun v124 ev124 => ?_)
                      have tv124 : 1 ≤ v124.toInt ∧ v124.toInt ≤ 16384 := by rw [ev124]; exact shl_b 14 (by decide) (by omega) (by omega)
                      refine lv_icmp_ge (tgt := 159) hx hb dX12_together_125 (by decide) (fun c125 => ?_) (fun c125 => ?_)
                      · skip
                        have fuc125 := full_i p115_4
                        have fvc125 := full_i v124
                        have tc125 := g_le c125
                        refine lv_iconst (v := 0) hx hb dX12_together_159 (by decide) ?_
                        exact te_i hx hb hr hlocks hH hS (⟨rfl, by decide, by decide⟩) dX12_together_160
                      · skip
                        have fuc125 := full_i p115_4
                        have fvc125 := full_i v124
                        have tc125 := g_nle c125
                        refine lv_aload_n hx hb dX12_together_128 rfl (lv_at hl 2 rfl) ?_
                        refine t_get (ci := 12) (lst := ft12 hg mq) (C := RX12) (F := TX12) (N := 36) hx hb hts uX12 hown hkb hH t_a0 (hO.no t_a0 (by decide)) (fun _ h9 => h9) rfl rfl 27 (by decide) rfl kw_1250 (fun _ h9 => h9) dX12_together_129 (fun v9 h9 => ?_)
                        obtain ⟨v129, rfl, t_v129⟩ := h9
                        refine lv_iload hx hb dX12_together_132 (lv_at hl 0 rfl) ?_
                        refine t_zld hx hb hkb hH t_v129 (hO.no t_v129 (by decide)) (by omega) (by omega) dX12_together_134 (fun v134 => ?_)
                        have J153 : ∀  (H : Heap) (locs : List Loc) (ls : Array Slot), HT D cs A T O X H → va_S A s.heap H locs → lv_has ls 5 [(4, .int p115_4), (3, .int v108), (0, .ref a0)] → W p l e { frames := 6, cells := 0, slots := 0, locals := 140 } s m [.ref a0, .int x1, .int x2].toArray below meth c H locs 0 0 (MQ below (Ti D cs (fun r u => u = (T, O, X) ∧ -2 ≤ r.toInt ∧ r.toInt ≤ 1) A) [.ref a0, .int x1, .int x2].toArray s 0 0 A) (F0 m 153 ls []) := by
                          intro  H locs ls  hH hS hl
                          obtain ⟨v153, ev153⟩ : ∃ y : Int32, y = p115_4 + 1 := ⟨_, rfl⟩
                          have tv153 : v153.toInt = p115_4.toInt + (1) := by rw [ev153]; exact add_i rfl (by decide) (by omega) (by omega)
                          refine lv_iinc (v := v153) (lv' := [(4, .int v153), (3, .int v108), (0, .ref a0)]) hx hb dX12_together_153 hl (k := 0) rfl (by rw [ev153]; rfl) (by decide) rfl (fun ls hl => ?_)
                          refine lv_goto (tgt := 115) hx hb dX12_together_156 (by decide) ?_
                          exact ih115 _ (by omega) v153 _ _ _ rfl (by omega) (by omega) hH hS (lv_sub hl [0, 1, 2] rfl)
                        refine lv_if_eq (tgt := 153) hx hb dX12_together_135 (by decide) (fun c135 => ?_) (fun c135 => ?_)
                        · skip
                          have tc135 := f_eq (k := 0) (by decide) c135
                          exact J153  _ _ _  hH hS (lv_sub hl [0, 1, 2] rfl)
                        · skip
                          have tc135 := f_ne (k := 0) (by decide) c135
                          refine lv_aload_n hx hb dX12_together_138 rfl (lv_at hl 2 rfl) ?_
                          refine lv_iload_n hx hb dX12_together_139 rfl (lv_at hl 1 rfl) ?_
                          refine lv_iload hx hb dX12_together_140 (lv_at hl 0 rfl) ?_
                          refine lv_iconst (v := (-1)) hx hb dX12_together_142 (by decide) ?_
                          refine lv_ixor hx hb dX12_together_143 ?_
                          refine lv_topi (fun v143 ev143 => ?_)
                          refine lv_iand hx hb dX12_together_144 ?_
                          refine lv_topi (fun v144 ev144 => ?_)
                          have tv144 : 0 ≤ v144.toInt ∧ v144.toInt ≤ v108.toInt := by rw [ev144]; exact and_l (by omega)
                          refine tk_i hH hS hA (tr_V (n := 1) (As := [.int v144]) hx hb hml hown hts hkb hH hOX hks hE hS hA (s_M_hasClimb l D cs kf T O X a0 hg mq v144 t_a0 b_hg (hO.sub (by decide))) kw_1660 kw_1662 ks_94 kw_13 kw_1663 (by decide +kernel) ⟨Nat.le_of_ble_eq_true rfl, Nat.le_of_ble_eq_true rfl⟩ (HT.recv (ci := 12) hkb hH t_a0 (hO.no t_a0 (by decide)) rfl) rfl rfl hl.1 (Nat.le_of_ble_eq_true rfl) dX12_together_145 ⟨Nat.le_of_ble_eq_true rfl, Nat.le_of_ble_eq_true rfl⟩) (fun v145 u H locs hz9 hH hS => ?_)
                          obtain ⟨rfl, l_v145, u_v145⟩ := hz9
                          have hH : HT D cs A T O X H := hH
                          refine W.widen (k := 0) (n := 0) (Nat.le_of_ble_eq_true rfl) (Nat.le_of_ble_eq_true rfl) ?_
                          refine lv_if_eq (tgt := 153) hx hb dX12_together_148 (by decide) (fun c148 => ?_) (fun c148 => ?_)
                          · skip
                            have tc148 := f_eq (k := 0) (by decide) c148
                            exact J153  _ _ _  hH hS (lv_sub hl [0, 1, 2] rfl)
                          · skip
                            have tc148 := f_ne (k := 0) (by decide) c148
                            refine lv_iconst (v := 1) hx hb dX12_together_151 (by decide) ?_
                            exact te_i hx hb hr hlocks hH hS (⟨rfl, by decide, by decide⟩) dX12_together_152
                  refine lv_istore (lv' := [(4, .int 0), (3, .int v108), (0, .ref a0), (2, .int x2)]) hx hb dX12_together_113 hl (by decide) rfl (fun ls hl => ?_)
                  exact J115 _ 0 _ _ _ rfl (by decide) (by decide) hH hS (lv_sub hl [0, 1, 2] rfl)
                · skip
                  have fuc69 := full_i p60_3
                  have fvc69 := full_i v68
                  have tc69 := g_nle c69
                  refine lv_aload_n hx hb dX12_together_72 rfl (lv_at hl 1 rfl) ?_
                  refine lv_iload_n hx hb dX12_together_73 rfl (lv_at hl 0 rfl) ?_
                  refine tk_l hH hS hA (tr_V (n := 1) (As := [.int p60_3]) hx hb hml hown hts hkb hH hOX hks hE hS hA (s_M_climbsBy l D cs kf T O X a0 hg mq p60_3 t_a0 b_hg (by omega) (by omega) (hO.sub (by decide))) kw_1634 kw_1636 ks_90 kw_13 kw_1637 (by decide +kernel) ⟨Nat.le_of_ble_eq_true rfl, Nat.le_of_ble_eq_true rfl⟩ (HT.recv (ci := 12) hkb hH t_a0 (hO.no t_a0 (by decide)) rfl) rfl rfl hl.1 (Nat.le_of_ble_eq_true rfl) dX12_together_74 ⟨Nat.le_of_ble_eq_true rfl, Nat.le_of_ble_eq_true rfl⟩) (fun v74 u H locs hz9 hH hS => ?_)
                  have hz9 : u = (T, O, X) := hz9
                  subst hz9
                  have hH : HT D cs A T O X H := hH
                  refine W.widen (k := 0) (n := 0) (Nat.le_of_ble_eq_true rfl) (Nat.le_of_ble_eq_true rfl) ?_
                  refine lv_lconst (v := 0) hx hb dX12_together_77 (by decide) ?_
                  refine W.lcmp hx hb dX12_together_78 ?_
                  have J96 : ∀  (H : Heap) (locs : List Loc) (ls : Array Slot), HT D cs A T O X H → va_S A s.heap H locs → lv_has ls 5 [(3, .int p60_3), (0, .ref a0), (2, .int x2)] → W p l e { frames := 6, cells := 0, slots := 0, locals := 140 } s m [.ref a0, .int x1, .int x2].toArray below meth c H locs 0 0 (MQ below (Ti D cs (fun r u => u = (T, O, X) ∧ -2 ≤ r.toInt ∧ r.toInt ≤ 1) A) [.ref a0, .int x1, .int x2].toArray s 0 0 A) (F0 m 96 ls []) := by
                    intro  H locs ls  hH hS hl
                    obtain ⟨v96, ev96⟩ : ∃ y : Int32, y = p60_3 + 1 := ⟨_, rfl⟩
                    have tv96 : v96.toInt = p60_3.toInt + (1) := by rw [ev96]; exact add_i rfl (by decide) (by omega) (by omega)
                    refine lv_iinc (v := v96) (lv' := [(3, .int v96), (0, .ref a0), (2, .int x2)]) hx hb dX12_together_96 hl (k := 0) rfl (by rw [ev96]; rfl) (by decide) rfl (fun ls hl => ?_)
                    refine lv_goto (tgt := 60) hx hb dX12_together_99 (by decide) ?_
                    exact ih60 _ (by omega) v96 _ _ _ rfl (by omega) (by omega) hH hS (lv_sub hl [0, 1, 2] rfl)
                  refine lv_if_le (tgt := 96) hx hb dX12_together_79 (by decide) (fun c79 => ?_) (fun c79 => ?_)
                  · skip
                    have tc79 := le_l c79
                    have kc79_0 : (0 : Int64).toInt = 0 := by decide
                    exact J96  _ _ _  hH hS (lv_sub hl [0, 1, 2] rfl)
                  · skip
                    have tc79 := nle_l c79
                    have kc79_0 : (0 : Int64).toInt = 0 := by decide
                    refine lv_aload_n hx hb dX12_together_82 rfl (lv_at hl 1 rfl) ?_
                    refine t_get (ci := 12) (lst := ft12 hg mq) (C := RX12) (F := TX12) (N := 36) hx hb hts uX12 hown hkb hH t_a0 (hO.no t_a0 (by decide)) (fun _ h9 => h9) rfl rfl 27 (by decide) rfl kw_1250 (fun _ h9 => h9) dX12_together_83 (fun v9 h9 => ?_)
                    obtain ⟨v83, rfl, t_v83⟩ := h9
                    refine lv_iload_n hx hb dX12_together_86 rfl (lv_at hl 0 rfl) ?_
                    refine lv_aload_n hx hb dX12_together_87 rfl (lv_at hl 1 rfl) ?_
                    refine tk_i hH hS hA (tr_V (n := 0) (As := []) hx hb hml hown hts hkb hH hOX hks hE hS hA (s_M_ends l D cs kf T O X a0 hg mq t_a0 b_hg (hO.sub (by decide))) kw_1536 kw_1538 ks_78 kw_13 kw_1539 (by decide +kernel) ⟨Nat.le_of_ble_eq_true rfl, Nat.le_of_ble_eq_true rfl⟩ (HT.recv (ci := 12) hkb hH t_a0 (hO.no t_a0 (by decide)) rfl) rfl rfl hl.1 (Nat.le_of_ble_eq_true rfl) dX12_together_88 ⟨Nat.le_of_ble_eq_true rfl, Nat.le_of_ble_eq_true rfl⟩) (fun v88 u H locs hz9 hH hS => ?_)
                    obtain ⟨rfl, l_v88, u_v88⟩ := hz9
                    have hH : HT D cs A T O X H := hH
                    refine W.widen (k := 0) (n := 0) (Nat.le_of_ble_eq_true rfl) (Nat.le_of_ble_eq_true rfl) ?_
                    refine lv_iconst (v := (-1)) hx hb dX12_together_91 (by decide) ?_
                    refine lv_ixor hx hb dX12_together_92 ?_
                    refine lv_topi (fun v92 ev92 => ?_)
                    refine lv_iand hx hb dX12_together_93 ?_
                    refine lv_topi (fun v93 ev93 => ?_)
                    have tv93 : 0 ≤ v93.toInt ∧ v93.toInt ≤ p60_3.toInt := by rw [ev93]; exact and_l (by omega)
                    refine lv_iconst (v := 1) hx hb dX12_together_94 (by decide) ?_
                    refine t_zst hx hb hkb hH hS t_v83 (hO.no t_v83 (by decide)) (by omega) (by omega) dX12_together_95 (fun H locs hH hS => ?_)
                    exact J96  _ _ _  hH hS (lv_sub hl [0, 1, 2] rfl)
            refine lv_istore_n (lv' := [(3, .int 0), (0, .ref a0), (2, .int x2)]) hx hb dX12_together_59 rfl hl (by decide) rfl (fun ls hl => ?_)
            exact J60 _ 0 _ _ _ rfl (by decide) (by decide) hH hS (lv_sub hl [0, 1, 2] rfl)
          · skip
            have fuc42 := full_i p33_3
            have fvc42 := full_i v41
            have tc42 := g_nle c42
            refine lv_aload_n hx hb dX12_together_45 rfl (lv_at hl 1 rfl) ?_
            refine t_get (ci := 12) (lst := ft12 hg mq) (C := RX12) (F := TX12) (N := 36) hx hb hts uX12 hown hkb hH t_a0 (hO.no t_a0 (by decide)) (fun _ h9 => h9) rfl rfl 27 (by decide) rfl kw_1250 (fun _ h9 => h9) dX12_together_46 (fun v9 h9 => ?_)
            obtain ⟨v46, rfl, t_v46⟩ := h9
            refine lv_iload_n hx hb dX12_together_49 rfl (lv_at hl 0 rfl) ?_
            refine lv_iconst (v := 0) hx hb dX12_together_50 (by decide) ?_
            refine t_zst hx hb hkb hH hS t_v46 (hO.no t_v46 (by decide)) (by omega) (by omega) dX12_together_51 (fun H locs hH hS => ?_)
            obtain ⟨v52, ev52⟩ : ∃ y : Int32, y = p33_3 + 1 := ⟨_, rfl⟩
            have tv52 : v52.toInt = p33_3.toInt + (1) := by rw [ev52]; exact add_i rfl (by decide) (by omega) (by omega)
            refine lv_iinc (v := v52) (lv' := [(3, .int v52), (0, .ref a0), (2, .int x2)]) hx hb dX12_together_52 hl (k := 0) rfl (by rw [ev52]; rfl) (by decide) rfl (fun ls hl => ?_)
            refine lv_goto (tgt := 33) hx hb dX12_together_55 (by decide) ?_
            exact ih33 _ (by omega) v52 _ _ _ rfl (by omega) (by omega) hH hS (lv_sub hl [0, 1, 2] rfl)
      refine lv_istore_n (lv' := [(3, .int 0), (0, .ref a0), (1, .int x1), (2, .int x2)]) hx hb dX12_together_32 rfl hl (by decide) rfl (fun ls hl => ?_)
      exact J33 _ 0 _ _ _ rfl (by decide) (by decide) hH hS (lv_sub hl [0, 1, 3] rfl)
    · skip
      have tc20 := f_eq (k := 0) (by decide) c20
      clear x_v170
      exact J23  _ _ _  hH hS (lv_sub hl [] rfl)
set_option maxHeartbeats 4000000 in
set_option maxRecDepth 100000 in
theorem s_M_idle (l : Launch) (D : va_G) (cs : CS) (kf : KF) (T : TF) (O : List Nat) (X : va_W) (a0 hg mq : Nat) (x1 : Int32) (t_a0 : T a0 = some (22, hg, mq)) (b_hg : hg < 90) (hO : okO T O [1, 2, 8, 9, 22]) : TK l D cs kf yX12_idle cX12_idle 4 (some (.int)) { frames := 6, cells := 0, slots := 0, locals := 140 } [.ref a0, .int x1] T O X (Ti D cs (fun r u => u = (T, O, X) ∧ -2 ≤ r.toInt ∧ r.toInt ≤ 16383)) := by
  refine tk_of (by decide) (Nat.le_of_ble_eq_true rfl) (fun p e s m below meth c ls A H locs hx hb hr hml hown hts hlocks hnm hkb hH hS hA hOX hks hE hl => ?_)
  have hown : s.vm.findClass RX12 = some m.cls := hown
  have hl : lv_has ls 4 [(0, .ref a0), (1, .int x1)] := hl
  refine lv_aload_n hx hb dX12_idle_0 rfl (lv_at hl 0 rfl) ?_
  refine lv_iconst (v := 0) hx hb dX12_idle_1 (by decide) ?_
  refine t_put (ci := 12) (lst := ft12 hg mq) (v := .int 0) (ty := tyX12 0) (C := RX12) (F := TX12) (N := 36) hx hb hts uX12 tyX12 tyX12_ok nmX12 hown hkb hH hS t_a0 (hO.no t_a0 (by decide)) (fun _ => Iff.rfl) rfl rfl 0 (by decide) rfl (⟨_, rfl⟩) kw_1223 (fun _ h9 => h9) rfl (tyX12_ok 0 (by decide)) rfl rfl dX12_idle_2 (fun H locs hH hS => ?_)
  refine lv_aload_n hx hb dX12_idle_5 rfl (lv_at hl 0 rfl) ?_
  refine lv_iload_n hx hb dX12_idle_6 rfl (lv_at hl 1 rfl) ?_
  refine lv_i2l hx hb dX12_idle_7 rfl ?_
  refine tk_i hH hS hA (tr_V (n := 1) (As := [.long x1.toInt64]) hx hb hml hown hts hkb hH hOX hks hE hS hA (s_M_isGuide l D cs kf T O X a0 hg mq x1.toInt64 t_a0 b_hg (hO.sub (by decide))) kw_1470 kw_1472 ks_67 kw_13 kw_1473 (by decide +kernel) ⟨Nat.le_of_ble_eq_true rfl, Nat.le_of_ble_eq_true rfl⟩ (HT.recv (ci := 12) hkb hH t_a0 (hO.no t_a0 (by decide)) rfl) rfl rfl hl.1 (Nat.le_of_ble_eq_true rfl) dX12_idle_8 ⟨Nat.le_of_ble_eq_true rfl, Nat.le_of_ble_eq_true rfl⟩) (fun v8 u H locs hz9 hH hS => ?_)
  obtain ⟨rfl, l_v8, u_v8, x_v80⟩ := hz9
  simp only [Int32.toInt_toInt64] at x_v80
  have hH : HT D cs A T O X H := hH
  refine W.widen (k := 0) (n := 0) (Nat.le_of_ble_eq_true rfl) (Nat.le_of_ble_eq_true rfl) ?_
  refine lv_if_ne (tgt := 17) hx hb dX12_idle_11 (by decide) (fun c11 => ?_) (fun c11 => ?_)
  · skip
    have tc11 := f_ne (k := 0) (by decide) c11
    replace x_v80 := x_v80.resolve_left tc11
    refine lv_aload_n hx hb dX12_idle_17 rfl (lv_at hl 0 rfl) ?_
    refine lv_iload_n hx hb dX12_idle_18 rfl (lv_at hl 1 rfl) ?_
    refine tk_v hH hS hA (tr_V (n := 1) (As := [.int x1]) hx hb hml hown hts hkb hH hOX hks hE hS hA (s_M_laysClimbsOf l D cs kf T O X a0 hg mq x1 t_a0 b_hg (by omega) (by omega) (hO.sub (by decide))) kw_1644 kw_1646 ks_91 kw_13 kw_1647 (by decide +kernel) ⟨Nat.le_of_ble_eq_true rfl, Nat.le_of_ble_eq_true rfl⟩ (HT.recv (ci := 12) hkb hH t_a0 (hO.no t_a0 (by decide)) rfl) rfl rfl hl.1 (Nat.le_of_ble_eq_true rfl) dX12_idle_19 ⟨Nat.le_of_ble_eq_true rfl, Nat.le_of_ble_eq_true rfl⟩) (fun u H locs hz9 hH hS => ?_)
    have hz9 : u = (T, O, X) := hz9
    subst hz9
    have hH : HT D cs A T O X H := hH
    refine W.widen (k := 0) (n := 0) (Nat.le_of_ble_eq_true rfl) (Nat.le_of_ble_eq_true rfl) ?_
    refine lv_iconst (v := 0) hx hb dX12_idle_22 (by decide) ?_
    refine lv_istore_n (lv' := [(2, .int 0), (0, .ref a0), (1, .int x1)]) hx hb dX12_idle_23 rfl hl (by decide) rfl (fun ls hl => ?_)
    refine lv_iconst (v := 0) hx hb dX12_idle_24 (by decide) ?_
    have J26 : ∀ (n : Nat) (p26_3 : Int32) (p26_2 : Int32) (H : Heap) (locs : List Loc) (ls : Array Slot), (16384 - p26_3.toInt).toNat = n → (0 ≤ p26_3.toInt) → (p26_3.toInt ≤ 16384) → (0 ≤ p26_2.toInt) → (p26_2.toInt ≤ 16383) → HT D cs A T O X H → va_S A s.heap H locs → lv_has ls 4 [(3, .int p26_3), (2, .int p26_2), (0, .ref a0)] → W p l e { frames := 6, cells := 0, slots := 0, locals := 140 } s m [.ref a0, .int x1].toArray below meth c H locs 0 0 (MQ below (Ti D cs (fun r u => u = (T, O, X) ∧ -2 ≤ r.toInt ∧ r.toInt ≤ 16383) A) [.ref a0, .int x1].toArray s 0 0 A) (F0 m 26 ls []) := by
      intro n
      induction n using Nat.strongRecOn with
      | _ n ih26 =>
        intro p26_3 p26_2 H locs ls hm26 l_p26_3 u_p26_3 l_p26_2 u_p26_2 hH hS hl
        refine lv_iload_n hx hb dX12_idle_26 rfl (lv_at hl 0 rfl) ?_
        refine lv_iconst (v := 1) hx hb dX12_idle_27 (by decide) ?_
        refine lv_aload_n hx hb dX12_idle_28 rfl (lv_at hl 2 rfl) ?_
        refine t_get (ci := 12) (lst := ft12 hg mq) (C := RX12) (F := TX12) (N := 36) hx hb hts uX12 hown hkb hH t_a0 (hO.no t_a0 (by decide)) (fun _ h9 => h9) rfl rfl 1 (by decide) rfl kw_1224 (fun _ h9 => h9) dX12_idle_29 (fun v9 h9 => ?_)
        obtain ⟨v29, rfl, t_v29⟩ := h9
        refine lv_iconst (v := 1) hx hb dX12_idle_32 (by decide) ?_
        refine t_ild8 hx hb hkb hH t_v29 (hO.no t_v29 (by decide)) (by decide) (by decide) (by decide) dX12_idle_33 (fun v33 h9 h8 => ?_)
        have q9 := (h8 rfl).1 rfl
        subst q9
        have eH9 : (nI (hg / 6)).toInt = (((hg / 6) : Nat) : Int) := nI_toInt (by omega)
        refine lv_ishl hx hb dX12_idle_34 ?_
        refine lv_topi (fun v34 ev34 => ?_)
        have tv34 : 1 ≤ v34.toInt ∧ v34.toInt ≤ 16384 := by rw [ev34]; exact shl_b 14 (by decide) (by omega) (by omega)
        refine lv_icmp_ge (tgt := 58) hx hb dX12_idle_35 (by decide) (fun c35 => ?_) (fun c35 => ?_)
        · skip
          have fuc35 := full_i p26_3
          have fvc35 := full_i v34
          have tc35 := g_le c35
          refine lv_aload_n hx hb dX12_idle_58 rfl (lv_at hl 2 rfl) ?_
          refine tk_i hH hS hA (tr_V (n := 0) (As := []) hx hb hml hown hts hkb hH hOX hks hE hS hA (s_M_openSet l D cs kf T O X a0 hg mq t_a0 b_hg (hO.sub (by decide))) kw_1510 kw_1512 ks_73 kw_13 kw_1513 (by decide +kernel) ⟨Nat.le_of_ble_eq_true rfl, Nat.le_of_ble_eq_true rfl⟩ (HT.recv (ci := 12) hkb hH t_a0 (hO.no t_a0 (by decide)) rfl) rfl rfl hl.1 (Nat.le_of_ble_eq_true rfl) dX12_idle_59 ⟨Nat.le_of_ble_eq_true rfl, Nat.le_of_ble_eq_true rfl⟩) (fun v59 u H locs hz9 hH hS => ?_)
          obtain ⟨rfl, l_v59, u_v59⟩ := hz9
          have hH : HT D cs A T O X H := hH
          refine W.widen (k := 0) (n := 0) (Nat.le_of_ble_eq_true rfl) (Nat.le_of_ble_eq_true rfl) ?_
          refine lv_iload_n hx hb dX12_idle_62 rfl (lv_at hl 1 rfl) ?_
          refine lv_iconst (v := (-1)) hx hb dX12_idle_63 (by decide) ?_
          refine lv_ixor hx hb dX12_idle_64 ?_
          refine lv_topi (fun v64 ev64 => ?_)
          refine lv_iand hx hb dX12_idle_65 ?_
          refine lv_topi (fun v65 ev65 => ?_)
          have tv65 : 0 ≤ v65.toInt ∧ v65.toInt ≤ v59.toInt := by rw [ev65]; exact and_l (by omega)
          exact te_i hx hb hr hlocks hH hS (⟨rfl, by omega, by omega⟩) dX12_idle_66
        · skip
          have fuc35 := full_i p26_3
          have fvc35 := full_i v34
          have tc35 := g_nle c35
          refine lv_aload_n hx hb dX12_idle_38 rfl (lv_at hl 2 rfl) ?_
          refine lv_iload_n hx hb dX12_idle_39 rfl (lv_at hl 0 rfl) ?_
          refine tk_l hH hS hA (tr_V (n := 1) (As := [.int p26_3]) hx hb hml hown hts hkb hH hOX hks hE hS hA (s_M_climbsBy l D cs kf T O X a0 hg mq p26_3 t_a0 b_hg (by omega) (by omega) (hO.sub (by decide))) kw_1634 kw_1636 ks_90 kw_13 kw_1637 (by decide +kernel) ⟨Nat.le_of_ble_eq_true rfl, Nat.le_of_ble_eq_true rfl⟩ (HT.recv (ci := 12) hkb hH t_a0 (hO.no t_a0 (by decide)) rfl) rfl rfl hl.1 (Nat.le_of_ble_eq_true rfl) dX12_idle_40 ⟨Nat.le_of_ble_eq_true rfl, Nat.le_of_ble_eq_true rfl⟩) (fun v40 u H locs hz9 hH hS => ?_)
          have hz9 : u = (T, O, X) := hz9
          subst hz9
          have hH : HT D cs A T O X H := hH
          refine W.widen (k := 0) (n := 0) (Nat.le_of_ble_eq_true rfl) (Nat.le_of_ble_eq_true rfl) ?_
          refine lv_lconst (v := 0) hx hb dX12_idle_43 (by decide) ?_
          refine W.lcmp hx hb dX12_idle_44 ?_
          have J52 : ∀ (p52_2 : Int32) (H : Heap) (locs : List Loc) (ls : Array Slot), (0 ≤ p52_2.toInt) → (p52_2.toInt ≤ 16383) → HT D cs A T O X H → va_S A s.heap H locs → lv_has ls 4 [(3, .int p26_3), (2, .int p52_2), (0, .ref a0)] → W p l e { frames := 6, cells := 0, slots := 0, locals := 140 } s m [.ref a0, .int x1].toArray below meth c H locs 0 0 (MQ below (Ti D cs (fun r u => u = (T, O, X) ∧ -2 ≤ r.toInt ∧ r.toInt ≤ 16383) A) [.ref a0, .int x1].toArray s 0 0 A) (F0 m 52 ls []) := by
            intro p52_2 H locs ls l_p52_2 u_p52_2 hH hS hl
            obtain ⟨v52, ev52⟩ : ∃ y : Int32, y = p26_3 + 1 := ⟨_, rfl⟩
            have tv52 : v52.toInt = p26_3.toInt + (1) := by rw [ev52]; exact add_i rfl (by decide) (by omega) (by omega)
            refine lv_iinc (v := v52) (lv' := [(3, .int v52), (2, .int p52_2), (0, .ref a0)]) hx hb dX12_idle_52 hl (k := 0) rfl (by rw [ev52]; rfl) (by decide) rfl (fun ls hl => ?_)
            refine lv_goto (tgt := 26) hx hb dX12_idle_55 (by decide) ?_
            exact ih26 _ (by omega) v52 p52_2 _ _ _ rfl (by omega) (by omega) (by omega) (by omega) hH hS (lv_sub hl [0, 1, 2] rfl)
          refine lv_if_le (tgt := 52) hx hb dX12_idle_45 (by decide) (fun c45 => ?_) (fun c45 => ?_)
          · skip
            have tc45 := le_l c45
            have kc45_0 : (0 : Int64).toInt = 0 := by decide
            exact J52 p26_2 _ _ _ (by omega) (by omega) hH hS (lv_sub hl [0, 1, 2] rfl)
          · skip
            have tc45 := nle_l c45
            have kc45_0 : (0 : Int64).toInt = 0 := by decide
            refine lv_iload_n hx hb dX12_idle_48 rfl (lv_at hl 1 rfl) ?_
            refine lv_iload_n hx hb dX12_idle_49 rfl (lv_at hl 0 rfl) ?_
            refine lv_ior hx hb dX12_idle_50 ?_
            refine lv_topi (fun v50 ev50 => ?_)
            have tv50 : 0 ≤ v50.toInt ∧ v50.toInt < 16384 := by rw [ev50]; exact or_b 14 (by decide) (by omega) (by omega) (by omega) (by omega)
            refine lv_istore_n (lv' := [(2, .int v50), (3, .int p26_3), (0, .ref a0)]) hx hb dX12_idle_51 rfl hl (by decide) rfl (fun ls hl => ?_)
            exact J52 v50 _ _ _ (by omega) (by omega) hH hS (lv_sub hl [1, 0, 2] rfl)
    refine lv_istore_n (lv' := [(3, .int 0), (2, .int 0), (0, .ref a0), (1, .int x1)]) hx hb dX12_idle_25 rfl hl (by decide) rfl (fun ls hl => ?_)
    exact J26 _ 0 0 _ _ _ rfl (by decide) (by decide) (by decide) (by decide) hH hS (lv_sub hl [0, 1, 2] rfl)
  · skip
    have tc11 := f_eq (k := 0) (by decide) c11
    clear x_v80
    refine lv_bipush (v := (-2)) hx hb dX12_idle_14 (by decide) ?_
    exact te_i hx hb hr hlocks hH hS (⟨rfl, by decide, by decide⟩) dX12_idle_16
set_option maxHeartbeats 4000000 in
set_option maxRecDepth 100000 in
theorem s_M_able (l : Launch) (D : va_G) (cs : CS) (kf : KF) (T : TF) (O : List Nat) (X : va_W) (a0 hg mq : Nat) (t_a0 : T a0 = some (22, hg, mq)) (b_hg : hg < 90) (hO : okO T O [1, 8, 9, 22]) : TK l D cs kf yX12_able cX12_able 3 (some (.int)) { frames := 5, cells := 0, slots := 0, locals := 119 } [.ref a0] T O X (Ti D cs (fun r u => u = (T, O, X) ∧ 0 ≤ r.toInt ∧ r.toInt ≤ 16383)) := by
  refine tk_of (by decide) (Nat.le_of_ble_eq_true rfl) (fun p e s m below meth c ls A H locs hx hb hr hml hown hts hlocks hnm hkb hH hS hA hOX hks hE hl => ?_)
  have hown : s.vm.findClass RX12 = some m.cls := hown
  have hl : lv_has ls 3 [(0, .ref a0)] := hl
  refine lv_aload_n hx hb dX12_able_0 rfl (lv_at hl 0 rfl) ?_
  refine lv_iconst (v := 0) hx hb dX12_able_1 (by decide) ?_
  refine t_put (ci := 12) (lst := ft12 hg mq) (v := .int 0) (ty := tyX12 0) (C := RX12) (F := TX12) (N := 36) hx hb hts uX12 tyX12 tyX12_ok nmX12 hown hkb hH hS t_a0 (hO.no t_a0 (by decide)) (fun _ => Iff.rfl) rfl rfl 0 (by decide) rfl (⟨_, rfl⟩) kw_1223 (fun _ h9 => h9) rfl (tyX12_ok 0 (by decide)) rfl rfl dX12_able_2 (fun H locs hH hS => ?_)
  refine lv_iconst (v := 0) hx hb dX12_able_5 (by decide) ?_
  refine lv_istore_n (lv' := [(1, .int 0), (0, .ref a0)]) hx hb dX12_able_6 rfl hl (by decide) rfl (fun ls hl => ?_)
  refine lv_iconst (v := 0) hx hb dX12_able_7 (by decide) ?_
  have J9 : ∀ (n : Nat) (p9_2 : Int32) (p9_1 : Int32) (H : Heap) (locs : List Loc) (ls : Array Slot), (5 - p9_2.toInt).toNat = n → (0 ≤ p9_2.toInt) → (p9_2.toInt ≤ 5) → (0 ≤ p9_1.toInt) → (p9_1.toInt ≤ 16383) → HT D cs A T O X H → va_S A s.heap H locs → lv_has ls 3 [(2, .int p9_2), (1, .int p9_1), (0, .ref a0)] → W p l e { frames := 5, cells := 0, slots := 0, locals := 119 } s m [.ref a0].toArray below meth c H locs 0 0 (MQ below (Ti D cs (fun r u => u = (T, O, X) ∧ 0 ≤ r.toInt ∧ r.toInt ≤ 16383) A) [.ref a0].toArray s 0 0 A) (F0 m 9 ls []) := by
    intro n
    induction n using Nat.strongRecOn with
    | _ n ih9 =>
      intro p9_2 p9_1 H locs ls hm9 l_p9_2 u_p9_2 l_p9_1 u_p9_1 hH hS hl
      refine lv_iload_n hx hb dX12_able_9 rfl (lv_at hl 0 rfl) ?_
      refine lv_aload_n hx hb dX12_able_10 rfl (lv_at hl 2 rfl) ?_
      refine t_get (ci := 12) (lst := ft12 hg mq) (C := RX12) (F := TX12) (N := 36) hx hb hts uX12 hown hkb hH t_a0 (hO.no t_a0 (by decide)) (fun _ h9 => h9) rfl rfl 1 (by decide) rfl kw_1224 (fun _ h9 => h9) dX12_able_11 (fun v9 h9 => ?_)
      obtain ⟨v11, rfl, t_v11⟩ := h9
      refine lv_iconst (v := 2) hx hb dX12_able_14 (by decide) ?_
      refine t_ild8 hx hb hkb hH t_v11 (hO.no t_v11 (by decide)) (by decide) (by decide) (by decide) dX12_able_15 (fun v15 h9 h8 => ?_)
      have q9 := (h8 rfl).2 rfl
      subst q9
      have eG9 : (nI (hg % 6)).toInt = (((hg % 6) : Nat) : Int) := nI_toInt (by omega)
      refine lv_icmp_ge (tgt := 51) hx hb dX12_able_16 (by decide) (fun c16 => ?_) (fun c16 => ?_)
      · skip
        have fuc16 := full_i p9_2
        have fvc16 := full_i (nI (hg % 6))
        have tc16 := g_le c16
        refine lv_iload_n hx hb dX12_able_51 rfl (lv_at hl 1 rfl) ?_
        exact te_i hx hb hr hlocks hH hS (⟨rfl, by omega, by omega⟩) dX12_able_52
      · skip
        have fuc16 := full_i p9_2
        have fvc16 := full_i (nI (hg % 6))
        have tc16 := g_nle c16
        refine lv_aload_n hx hb dX12_able_19 rfl (lv_at hl 2 rfl) ?_
        refine lv_iload_n hx hb dX12_able_20 rfl (lv_at hl 0 rfl) ?_
        refine tk_v hH hS hA (tr_V (n := 1) (As := [.int p9_2]) hx hb hml hown hts hkb hH hOX hks hE hS hA (s_M_laysGuide l D cs kf T O X a0 hg mq p9_2 t_a0 b_hg (by omega) (by omega) (hO.sub (by decide))) kw_1502 kw_1504 ks_71 kw_13 kw_1505 (by decide +kernel) ⟨Nat.le_of_ble_eq_true rfl, Nat.le_of_ble_eq_true rfl⟩ (HT.recv (ci := 12) hkb hH t_a0 (hO.no t_a0 (by decide)) rfl) rfl rfl hl.1 (Nat.le_of_ble_eq_true rfl) dX12_able_21 ⟨Nat.le_of_ble_eq_true rfl, Nat.le_of_ble_eq_true rfl⟩) (fun u H locs hz9 hH hS => ?_)
        have hz9 : u = (T, O, X) := hz9
        subst hz9
        have hH : HT D cs A T O X H := hH
        refine W.widen (k := 0) (n := 0) (Nat.le_of_ble_eq_true rfl) (Nat.le_of_ble_eq_true rfl) ?_
        refine lv_iload_n hx hb dX12_able_24 rfl (lv_at hl 1 rfl) ?_
        refine lv_aload_n hx hb dX12_able_25 rfl (lv_at hl 2 rfl) ?_
        refine lv_aload_n hx hb dX12_able_26 rfl (lv_at hl 2 rfl) ?_
        refine tk_i hH hS hA (tr_V (n := 0) (As := []) hx hb hml hown hts hkb hH hOX hks hE hS hA (s_M_openSet l D cs kf T O X a0 hg mq t_a0 b_hg (hO.sub (by decide))) kw_1510 kw_1512 ks_73 kw_13 kw_1513 (by decide +kernel) ⟨Nat.le_of_ble_eq_true rfl, Nat.le_of_ble_eq_true rfl⟩ (HT.recv (ci := 12) hkb hH t_a0 (hO.no t_a0 (by decide)) rfl) rfl rfl hl.1 (Nat.le_of_ble_eq_true rfl) dX12_able_27 ⟨Nat.le_of_ble_eq_true rfl, Nat.le_of_ble_eq_true rfl⟩) (fun v27 u H locs hz9 hH hS => ?_)
        obtain ⟨rfl, l_v27, u_v27⟩ := hz9
        have hH : HT D cs A T O X H := hH
        refine W.widen (k := 0) (n := 0) (Nat.le_of_ble_eq_true rfl) (Nat.le_of_ble_eq_true rfl) ?_
        refine tk_i hH hS hA (tr_V (n := 1) (As := [.int v27]) hx hb hml hown hts hkb hH hOX hks hE hS hA (s_M_hasClimb l D cs kf T O X a0 hg mq v27 t_a0 b_hg (hO.sub (by decide))) kw_1660 kw_1662 ks_94 kw_13 kw_1663 (by decide +kernel) ⟨Nat.le_of_ble_eq_true rfl, Nat.le_of_ble_eq_true rfl⟩ (HT.recv (ci := 12) hkb hH t_a0 (hO.no t_a0 (by decide)) rfl) rfl rfl hl.1 (Nat.le_of_ble_eq_true rfl) dX12_able_30 ⟨Nat.le_of_ble_eq_true rfl, Nat.le_of_ble_eq_true rfl⟩) (fun v30 u H locs hz9 hH hS => ?_)
        obtain ⟨rfl, l_v30, u_v30⟩ := hz9
        have hH : HT D cs A T O X H := hH
        refine W.widen (k := 0) (n := 0) (Nat.le_of_ble_eq_true rfl) (Nat.le_of_ble_eq_true rfl) ?_
        have J43 : ∀ (k43_0 : Int32) (H : Heap) (locs : List Loc) (ls : Array Slot), (0 ≤ k43_0.toInt) → (k43_0.toInt ≤ 16) → HT D cs A T O X H → va_S A s.heap H locs → lv_has ls 3 [(2, .int p9_2), (0, .ref a0)] → W p l e { frames := 5, cells := 0, slots := 0, locals := 119 } s m [.ref a0].toArray below meth c H locs 0 0 (MQ below (Ti D cs (fun r u => u = (T, O, X) ∧ 0 ≤ r.toInt ∧ r.toInt ≤ 16383) A) [.ref a0].toArray s 0 0 A) (F0 m 43 ls [.int k43_0, .int p9_1]) := by
          intro k43_0 H locs ls l_k43_0 u_k43_0 hH hS hl
          refine lv_ior hx hb dX12_able_43 ?_
          refine lv_topi (fun v43 ev43 => ?_)
          have tv43 : 0 ≤ v43.toInt ∧ v43.toInt < 16384 := by rw [ev43]; exact or_b 14 (by decide) (by omega) (by omega) (by omega) (by omega)
          refine lv_istore_n (lv' := [(1, .int v43), (2, .int p9_2), (0, .ref a0)]) hx hb dX12_able_44 rfl hl (by decide) rfl (fun ls hl => ?_)
          obtain ⟨v45, ev45⟩ : ∃ y : Int32, y = p9_2 + 1 := ⟨_, rfl⟩
          have tv45 : v45.toInt = p9_2.toInt + (1) := by rw [ev45]; exact add_i rfl (by decide) (by omega) (by omega)
          refine lv_iinc (v := v45) (lv' := [(2, .int v45), (1, .int v43), (0, .ref a0)]) hx hb dX12_able_45 hl (k := 1) rfl (by rw [ev45]; rfl) (by decide) rfl (fun ls hl => ?_)
          refine lv_goto (tgt := 9) hx hb dX12_able_48 (by decide) ?_
          exact ih9 _ (by omega) v45 v43 _ _ _ rfl (by omega) (by omega) (by omega) (by omega) hH hS (lv_sub hl [0, 1, 2] rfl)
        refine lv_if_eq (tgt := 42) hx hb dX12_able_33 (by decide) (fun c33 => ?_) (fun c33 => ?_)
        · skip
          have tc33 := f_eq (k := 0) (by decide) c33
          refine lv_iconst (v := 0) hx hb dX12_able_42 (by decide) ?_
          exact J43 0 _ _ _ (by decide) (by decide) hH hS (lv_sub hl [0, 2] rfl)
        · skip
          have tc33 := f_ne (k := 0) (by decide) c33
          refine lv_iconst (v := 1) hx hb dX12_able_36 (by decide) ?_
          refine lv_iload_n hx hb dX12_able_37 rfl (lv_at hl 0 rfl) ?_
          refine lv_ishl hx hb dX12_able_38 ?_
          refine lv_topi (fun v38 ev38 => ?_)
          have tv38 : 1 ≤ v38.toInt ∧ v38.toInt ≤ 16 := by rw [ev38]; exact shl_b 4 (by decide) (by omega) (by omega)
          refine lv_goto (tgt := 43) hx hb dX12_able_39 (by decide) ?_
          exact J43 v38 _ _ _ (by omega) (by omega) hH hS (lv_sub hl [0, 2] rfl)
  refine lv_istore_n (lv' := [(2, .int 0), (1, .int 0), (0, .ref a0)]) hx hb dX12_able_8 rfl hl (by decide) rfl (fun ls hl => ?_)
  exact J9 _ 0 0 _ _ _ rfl (by decide) (by decide) (by decide) (by decide) hH hS (lv_sub hl [0, 1, 2] rfl)
set_option maxHeartbeats 4000000 in
set_option maxRecDepth 100000 in
theorem s_M_leastLeg (l : Launch) (D : va_G) (cs : CS) (kf : KF) (T : TF) (O : List Nat) (X : va_W) (a0 hg mq : Nat) (x1 : Int32) (t_a0 : T a0 = some (22, hg, mq)) (b_hg : hg < 90) (hO : okO T O [1, 8, 9, 22]) : TK l D cs kf yX12_leastLeg cX12_leastLeg 3 (some (.int)) { frames := 4, cells := 0, slots := 0, locals := 98 } [.ref a0, .int x1] T O X (Ti D cs (fun r u => u = (T, O, X) ∧ -2 ≤ r.toInt ∧ r.toInt ≤ 99)) := by
  refine tk_of (by decide) (Nat.le_of_ble_eq_true rfl) (fun p e s m below meth c ls A H locs hx hb hr hml hown hts hlocks hnm hkb hH hS hA hOX hks hE hl => ?_)
  have hown : s.vm.findClass RX12 = some m.cls := hown
  have hl : lv_has ls 3 [(0, .ref a0), (1, .int x1)] := hl
  refine lv_aload_n hx hb dX12_leastLeg_0 rfl (lv_at hl 0 rfl) ?_
  refine lv_iconst (v := 0) hx hb dX12_leastLeg_1 (by decide) ?_
  refine t_put (ci := 12) (lst := ft12 hg mq) (v := .int 0) (ty := tyX12 0) (C := RX12) (F := TX12) (N := 36) hx hb hts uX12 tyX12 tyX12_ok nmX12 hown hkb hH hS t_a0 (hO.no t_a0 (by decide)) (fun _ => Iff.rfl) rfl rfl 0 (by decide) rfl (⟨_, rfl⟩) kw_1223 (fun _ h9 => h9) rfl (tyX12_ok 0 (by decide)) rfl rfl dX12_leastLeg_2 (fun H locs hH hS => ?_)
  refine lv_aload_n hx hb dX12_leastLeg_5 rfl (lv_at hl 0 rfl) ?_
  refine lv_iload_n hx hb dX12_leastLeg_6 rfl (lv_at hl 1 rfl) ?_
  refine lv_i2l hx hb dX12_leastLeg_7 rfl ?_
  refine tk_i hH hS hA (tr_V (n := 1) (As := [.long x1.toInt64]) hx hb hml hown hts hkb hH hOX hks hE hS hA (s_M_isGuide l D cs kf T O X a0 hg mq x1.toInt64 t_a0 b_hg (hO.sub (by decide))) kw_1470 kw_1472 ks_67 kw_13 kw_1473 (by decide +kernel) ⟨Nat.le_of_ble_eq_true rfl, Nat.le_of_ble_eq_true rfl⟩ (HT.recv (ci := 12) hkb hH t_a0 (hO.no t_a0 (by decide)) rfl) rfl rfl hl.1 (Nat.le_of_ble_eq_true rfl) dX12_leastLeg_8 ⟨Nat.le_of_ble_eq_true rfl, Nat.le_of_ble_eq_true rfl⟩) (fun v8 u H locs hz9 hH hS => ?_)
  obtain ⟨rfl, l_v8, u_v8, x_v80⟩ := hz9
  simp only [Int32.toInt_toInt64] at x_v80
  have hH : HT D cs A T O X H := hH
  refine W.widen (k := 0) (n := 0) (Nat.le_of_ble_eq_true rfl) (Nat.le_of_ble_eq_true rfl) ?_
  refine lv_if_ne (tgt := 17) hx hb dX12_leastLeg_11 (by decide) (fun c11 => ?_) (fun c11 => ?_)
  · skip
    have tc11 := f_ne (k := 0) (by decide) c11
    replace x_v80 := x_v80.resolve_left tc11
    refine lv_iconst (v := 0) hx hb dX12_leastLeg_17 (by decide) ?_
    have J19 : ∀ (n : Nat) (p19_2 : Int32) (H : Heap) (locs : List Loc) (ls : Array Slot), (100 - p19_2.toInt).toNat = n → (0 ≤ p19_2.toInt) → (p19_2.toInt ≤ 100) → HT D cs A T O X H → va_S A s.heap H locs → lv_has ls 3 [(2, .int p19_2), (0, .ref a0), (1, .int x1)] → W p l e { frames := 4, cells := 0, slots := 0, locals := 98 } s m [.ref a0, .int x1].toArray below meth c H locs 0 0 (MQ below (Ti D cs (fun r u => u = (T, O, X) ∧ -2 ≤ r.toInt ∧ r.toInt ≤ 99) A) [.ref a0, .int x1].toArray s 0 0 A) (F0 m 19 ls []) := by
      intro n
      induction n using Nat.strongRecOn with
      | _ n ih19 =>
        intro p19_2 H locs ls hm19 l_p19_2 u_p19_2 hH hS hl
        refine lv_iload_n hx hb dX12_leastLeg_19 rfl (lv_at hl 0 rfl) ?_
        refine lv_bipush (v := 100) hx hb dX12_leastLeg_20 (by decide) ?_
        refine lv_icmp_ge (tgt := 50) hx hb dX12_leastLeg_22 (by decide) (fun c22 => ?_) (fun c22 => ?_)
        · skip
          have tc22 := f_ge (k := 100) (by decide) c22
          refine lv_iconst (v := (-1)) hx hb dX12_leastLeg_50 (by decide) ?_
          exact te_i hx hb hr hlocks hH hS (⟨rfl, by decide, by decide⟩) dX12_leastLeg_51
        · skip
          have tc22 := f_nge (k := 100) (by decide) c22
          refine lv_aload_n hx hb dX12_leastLeg_25 rfl (lv_at hl 1 rfl) ?_
          refine lv_iload_n hx hb dX12_leastLeg_26 rfl (lv_at hl 2 rfl) ?_
          refine lv_iload_n hx hb dX12_leastLeg_27 rfl (lv_at hl 0 rfl) ?_
          refine tk_v hH hS hA (tr_V (n := 2) (As := [.int x1, .int p19_2]) hx hb hml hown hts hkb hH hOX hks hE hS hA (s_M_laysSteps l D cs kf T O X a0 hg mq x1 p19_2 t_a0 b_hg (by omega) (by omega) (hO.sub (by decide))) kw_1506 kw_1508 ks_72 kw_13 kw_1509 (by decide +kernel) ⟨Nat.le_of_ble_eq_true rfl, Nat.le_of_ble_eq_true rfl⟩ (HT.recv (ci := 12) hkb hH t_a0 (hO.no t_a0 (by decide)) rfl) rfl rfl hl.1 (Nat.le_of_ble_eq_true rfl) dX12_leastLeg_28 ⟨Nat.le_of_ble_eq_true rfl, Nat.le_of_ble_eq_true rfl⟩) (fun u H locs hz9 hH hS => ?_)
          have hz9 : u = (T, O, X) := hz9
          subst hz9
          have hH : HT D cs A T O X H := hH
          refine W.widen (k := 0) (n := 0) (Nat.le_of_ble_eq_true rfl) (Nat.le_of_ble_eq_true rfl) ?_
          refine lv_aload_n hx hb dX12_leastLeg_31 rfl (lv_at hl 1 rfl) ?_
          refine lv_aload_n hx hb dX12_leastLeg_32 rfl (lv_at hl 1 rfl) ?_
          refine tk_i hH hS hA (tr_V (n := 0) (As := []) hx hb hml hown hts hkb hH hOX hks hE hS hA (s_M_openSet l D cs kf T O X a0 hg mq t_a0 b_hg (hO.sub (by decide))) kw_1510 kw_1512 ks_73 kw_13 kw_1513 (by decide +kernel) ⟨Nat.le_of_ble_eq_true rfl, Nat.le_of_ble_eq_true rfl⟩ (HT.recv (ci := 12) hkb hH t_a0 (hO.no t_a0 (by decide)) rfl) rfl rfl hl.1 (Nat.le_of_ble_eq_true rfl) dX12_leastLeg_33 ⟨Nat.le_of_ble_eq_true rfl, Nat.le_of_ble_eq_true rfl⟩) (fun v33 u H locs hz9 hH hS => ?_)
          obtain ⟨rfl, l_v33, u_v33⟩ := hz9
          have hH : HT D cs A T O X H := hH
          refine W.widen (k := 0) (n := 0) (Nat.le_of_ble_eq_true rfl) (Nat.le_of_ble_eq_true rfl) ?_
          refine tk_i hH hS hA (tr_V (n := 1) (As := [.int v33]) hx hb hml hown hts hkb hH hOX hks hE hS hA (s_M_hasClimb l D cs kf T O X a0 hg mq v33 t_a0 b_hg (hO.sub (by decide))) kw_1660 kw_1662 ks_94 kw_13 kw_1663 (by decide +kernel) ⟨Nat.le_of_ble_eq_true rfl, Nat.le_of_ble_eq_true rfl⟩ (HT.recv (ci := 12) hkb hH t_a0 (hO.no t_a0 (by decide)) rfl) rfl rfl hl.1 (Nat.le_of_ble_eq_true rfl) dX12_leastLeg_36 ⟨Nat.le_of_ble_eq_true rfl, Nat.le_of_ble_eq_true rfl⟩) (fun v36 u H locs hz9 hH hS => ?_)
          obtain ⟨rfl, l_v36, u_v36⟩ := hz9
          have hH : HT D cs A T O X H := hH
          refine W.widen (k := 0) (n := 0) (Nat.le_of_ble_eq_true rfl) (Nat.le_of_ble_eq_true rfl) ?_
          refine lv_if_eq (tgt := 44) hx hb dX12_leastLeg_39 (by decide) (fun c39 => ?_) (fun c39 => ?_)
          · skip
            have tc39 := f_eq (k := 0) (by decide) c39
            obtain ⟨v44, ev44⟩ : ∃ y : Int32, y = p19_2 + 1 := ⟨_, rfl⟩
            have tv44 : v44.toInt = p19_2.toInt + (1) := by rw [ev44]; exact add_i rfl (by decide) (by omega) (by omega)
            refine lv_iinc (v := v44) (lv' := [(2, .int v44), (0, .ref a0), (1, .int x1)]) hx hb dX12_leastLeg_44 hl (k := 0) rfl (by rw [ev44]; rfl) (by decide) rfl (fun ls hl => ?_)
            refine lv_goto (tgt := 19) hx hb dX12_leastLeg_47 (by decide) ?_
            exact ih19 _ (by omega) v44 _ _ _ rfl (by omega) (by omega) hH hS (lv_sub hl [0, 1, 2] rfl)
          · skip
            have tc39 := f_ne (k := 0) (by decide) c39
            refine lv_iload_n hx hb dX12_leastLeg_42 rfl (lv_at hl 0 rfl) ?_
            exact te_i hx hb hr hlocks hH hS (⟨rfl, by omega, by omega⟩) dX12_leastLeg_43
    refine lv_istore_n (lv' := [(2, .int 0), (0, .ref a0), (1, .int x1)]) hx hb dX12_leastLeg_18 rfl hl (by decide) rfl (fun ls hl => ?_)
    exact J19 _ 0 _ _ _ rfl (by decide) (by decide) hH hS (lv_sub hl [0, 1, 2] rfl)
  · skip
    have tc11 := f_eq (k := 0) (by decide) c11
    clear x_v80
    refine lv_bipush (v := (-2)) hx hb dX12_leastLeg_14 (by decide) ?_
    exact te_i hx hb hr hlocks hH hS (⟨rfl, by decide, by decide⟩) dX12_leastLeg_16
set_option maxHeartbeats 4000000 in
set_option maxRecDepth 100000 in
theorem s_M_opens (l : Launch) (D : va_G) (cs : CS) (kf : KF) (T : TF) (O : List Nat) (X : va_W) (a0 hg mq : Nat) (x1 : Int32) (t_a0 : T a0 = some (22, hg, mq)) (b_hg : hg < 90) (hO : okO T O [1, 8, 9, 22]) : TK l D cs kf yX12_opens cX12_opens 4 (some (.int)) { frames := 5, cells := 0, slots := 0, locals := 119 } [.ref a0, .int x1] T O X (Ti D cs (fun r u => u = (T, O, X))) := by
  refine tk_of (by decide) (Nat.le_of_ble_eq_true rfl) (fun p e s m below meth c ls A H locs hx hb hr hml hown hts hlocks hnm hkb hH hS hA hOX hks hE hl => ?_)
  have hown : s.vm.findClass RX12 = some m.cls := hown
  have hl : lv_has ls 4 [(0, .ref a0), (1, .int x1)] := hl
  refine lv_aload_n hx hb dX12_opens_0 rfl (lv_at hl 0 rfl) ?_
  refine lv_iconst (v := 0) hx hb dX12_opens_1 (by decide) ?_
  refine t_put (ci := 12) (lst := ft12 hg mq) (v := .int 0) (ty := tyX12 0) (C := RX12) (F := TX12) (N := 36) hx hb hts uX12 tyX12 tyX12_ok nmX12 hown hkb hH hS t_a0 (hO.no t_a0 (by decide)) (fun _ => Iff.rfl) rfl rfl 0 (by decide) rfl (⟨_, rfl⟩) kw_1223 (fun _ h9 => h9) rfl (tyX12_ok 0 (by decide)) rfl rfl dX12_opens_2 (fun H locs hH hS => ?_)
  refine lv_aload_n hx hb dX12_opens_5 rfl (lv_at hl 0 rfl) ?_
  refine lv_iload_n hx hb dX12_opens_6 rfl (lv_at hl 1 rfl) ?_
  refine lv_i2l hx hb dX12_opens_7 rfl ?_
  refine tk_i hH hS hA (tr_V (n := 1) (As := [.long x1.toInt64]) hx hb hml hown hts hkb hH hOX hks hE hS hA (s_M_isGuide l D cs kf T O X a0 hg mq x1.toInt64 t_a0 b_hg (hO.sub (by decide))) kw_1470 kw_1472 ks_67 kw_13 kw_1473 (by decide +kernel) ⟨Nat.le_of_ble_eq_true rfl, Nat.le_of_ble_eq_true rfl⟩ (HT.recv (ci := 12) hkb hH t_a0 (hO.no t_a0 (by decide)) rfl) rfl rfl hl.1 (Nat.le_of_ble_eq_true rfl) dX12_opens_8 ⟨Nat.le_of_ble_eq_true rfl, Nat.le_of_ble_eq_true rfl⟩) (fun v8 u H locs hz9 hH hS => ?_)
  obtain ⟨rfl, l_v8, u_v8, x_v80⟩ := hz9
  simp only [Int32.toInt_toInt64] at x_v80
  have hH : HT D cs A T O X H := hH
  refine W.widen (k := 0) (n := 0) (Nat.le_of_ble_eq_true rfl) (Nat.le_of_ble_eq_true rfl) ?_
  refine lv_if_ne (tgt := 17) hx hb dX12_opens_11 (by decide) (fun c11 => ?_) (fun c11 => ?_)
  · skip
    have tc11 := f_ne (k := 0) (by decide) c11
    replace x_v80 := x_v80.resolve_left tc11
    refine lv_aload_n hx hb dX12_opens_17 rfl (lv_at hl 0 rfl) ?_
    refine tk_v hH hS hA (tr_V (n := 0) (As := []) hx hb hml hown hts hkb hH hOX hks hE hS hA (s_M_keepsAhead l D cs kf T O X a0 hg mq t_a0 b_hg (hO.sub (by decide))) kw_1704 kw_1706 ks_96 kw_13 kw_1707 (by decide +kernel) ⟨Nat.le_of_ble_eq_true rfl, Nat.le_of_ble_eq_true rfl⟩ (HT.recv (ci := 12) hkb hH t_a0 (hO.no t_a0 (by decide)) rfl) rfl rfl hl.1 (Nat.le_of_ble_eq_true rfl) dX12_opens_18 ⟨Nat.le_of_ble_eq_true rfl, Nat.le_of_ble_eq_true rfl⟩) (fun u H locs hz9 hH hS => ?_)
    have hz9 : u = (T, O, X) := hz9
    subst hz9
    have hH : HT D cs A T O X H := hH
    refine W.widen (k := 0) (n := 0) (Nat.le_of_ble_eq_true rfl) (Nat.le_of_ble_eq_true rfl) ?_
    refine lv_iconst (v := (-1)) hx hb dX12_opens_21 (by decide) ?_
    refine lv_istore_n (lv' := [(2, .int (-1)), (0, .ref a0), (1, .int x1)]) hx hb dX12_opens_22 rfl hl (by decide) rfl (fun ls hl => ?_)
    refine lv_iconst (v := 0) hx hb dX12_opens_23 (by decide) ?_
    have J25 : ∀ (n : Nat) (p25_3 : Int32) (p25_2 : Int32) (H : Heap) (locs : List Loc) (ls : Array Slot), (201 - p25_3.toInt).toNat = n → (0 ≤ p25_3.toInt) → (p25_3.toInt ≤ 201) → HT D cs A T O X H → va_S A s.heap H locs → lv_has ls 4 [(3, .int p25_3), (2, .int p25_2), (0, .ref a0), (1, .int x1)] → W p l e { frames := 5, cells := 0, slots := 0, locals := 119 } s m [.ref a0, .int x1].toArray below meth c H locs 0 0 (MQ below (Ti D cs (fun r u => u = (T, O, X)) A) [.ref a0, .int x1].toArray s 0 0 A) (F0 m 25 ls []) := by
      intro n
      induction n using Nat.strongRecOn with
      | _ n ih25 =>
        intro p25_3 p25_2 H locs ls hm25 l_p25_3 u_p25_3 hH hS hl
        refine lv_iload_n hx hb dX12_opens_25 rfl (lv_at hl 0 rfl) ?_
        refine lv_sipush (v := 200) hx hb dX12_opens_26 (by decide) ?_
        have J78 : ∀  (H : Heap) (locs : List Loc) (ls : Array Slot), HT D cs A T O X H → va_S A s.heap H locs → lv_has ls 4 [(2, .int p25_2), (0, .ref a0)] → W p l e { frames := 5, cells := 0, slots := 0, locals := 119 } s m [.ref a0, .int x1].toArray below meth c H locs 0 0 (MQ below (Ti D cs (fun r u => u = (T, O, X)) A) [.ref a0, .int x1].toArray s 0 0 A) (F0 m 78 ls []) := by
          intro  H locs ls  hH hS hl
          refine lv_aload_n hx hb dX12_opens_78 rfl (lv_at hl 1 rfl) ?_
          refine tk_v hH hS hA (tr_V (n := 0) (As := []) hx hb hml hown hts hkb hH hOX hks hE hS hA (s_M_isAhead l D cs kf T O X a0 hg mq t_a0 b_hg (hO.sub (by decide))) kw_1708 kw_1710 ks_97 kw_13 kw_1711 (by decide +kernel) ⟨Nat.le_of_ble_eq_true rfl, Nat.le_of_ble_eq_true rfl⟩ (HT.recv (ci := 12) hkb hH t_a0 (hO.no t_a0 (by decide)) rfl) rfl rfl hl.1 (Nat.le_of_ble_eq_true rfl) dX12_opens_79 ⟨Nat.le_of_ble_eq_true rfl, Nat.le_of_ble_eq_true rfl⟩) (fun u H locs hz9 hH hS => ?_)
          have hz9 : u = (T, O, X) := hz9
          subst hz9
          have hH : HT D cs A T O X H := hH
          refine W.widen (k := 0) (n := 0) (Nat.le_of_ble_eq_true rfl) (Nat.le_of_ble_eq_true rfl) ?_
          refine lv_iload_n hx hb dX12_opens_82 rfl (lv_at hl 0 rfl) ?_
          exact te_i hx hb hr hlocks hH hS (rfl) dX12_opens_83
        refine lv_icmp_gt (tgt := 78) hx hb dX12_opens_29 (by decide) (fun c29 => ?_) (fun c29 => ?_)
        · skip
          have tc29 := f_gt (k := 200) (by decide) c29
          exact J78  _ _ _  hH hS (lv_sub hl [1, 2] rfl)
        · skip
          have tc29 := f_ngt (k := 200) (by decide) c29
          refine lv_iload_n hx hb dX12_opens_32 rfl (lv_at hl 1 rfl) ?_
          refine lv_iconst (v := (-1)) hx hb dX12_opens_33 (by decide) ?_
          refine lv_icmp_ne (tgt := 78) hx hb dX12_opens_34 (by decide) (fun c34 => ?_) (fun c34 => ?_)
          · skip
            have tc34 := f_ne (k := -1) (by decide) c34
            exact J78  _ _ _  hH hS (lv_sub hl [1, 2] rfl)
          · skip
            have tc34 := f_eq (k := -1) (by decide) c34
            refine lv_aload_n hx hb dX12_opens_37 rfl (lv_at hl 2 rfl) ?_
            refine lv_iload_n hx hb dX12_opens_38 rfl (lv_at hl 3 rfl) ?_
            refine tk_v hH hS hA (tr_V (n := 1) (As := [.int x1]) hx hb hml hown hts hkb hH hOX hks hE hS hA (s_M_laysGuide l D cs kf T O X a0 hg mq x1 t_a0 b_hg (by omega) (by omega) (hO.sub (by decide))) kw_1502 kw_1504 ks_71 kw_13 kw_1505 (by decide +kernel) ⟨Nat.le_of_ble_eq_true rfl, Nat.le_of_ble_eq_true rfl⟩ (HT.recv (ci := 12) hkb hH t_a0 (hO.no t_a0 (by decide)) rfl) rfl rfl hl.1 (Nat.le_of_ble_eq_true rfl) dX12_opens_39 ⟨Nat.le_of_ble_eq_true rfl, Nat.le_of_ble_eq_true rfl⟩) (fun u H locs hz9 hH hS => ?_)
            have hz9 : u = (T, O, X) := hz9
            subst hz9
            have hH : HT D cs A T O X H := hH
            refine W.widen (k := 0) (n := 0) (Nat.le_of_ble_eq_true rfl) (Nat.le_of_ble_eq_true rfl) ?_
            refine lv_aload_n hx hb dX12_opens_42 rfl (lv_at hl 2 rfl) ?_
            refine lv_aload_n hx hb dX12_opens_43 rfl (lv_at hl 2 rfl) ?_
            refine tk_i hH hS hA (tr_V (n := 0) (As := []) hx hb hml hown hts hkb hH hOX hks hE hS hA (s_M_openSet l D cs kf T O X a0 hg mq t_a0 b_hg (hO.sub (by decide))) kw_1510 kw_1512 ks_73 kw_13 kw_1513 (by decide +kernel) ⟨Nat.le_of_ble_eq_true rfl, Nat.le_of_ble_eq_true rfl⟩ (HT.recv (ci := 12) hkb hH t_a0 (hO.no t_a0 (by decide)) rfl) rfl rfl hl.1 (Nat.le_of_ble_eq_true rfl) dX12_opens_44 ⟨Nat.le_of_ble_eq_true rfl, Nat.le_of_ble_eq_true rfl⟩) (fun v44 u H locs hz9 hH hS => ?_)
            obtain ⟨rfl, l_v44, u_v44⟩ := hz9
            have hH : HT D cs A T O X H := hH
            refine W.widen (k := 0) (n := 0) (Nat.le_of_ble_eq_true rfl) (Nat.le_of_ble_eq_true rfl) ?_
            refine tk_i hH hS hA (tr_V (n := 1) (As := [.int v44]) hx hb hml hown hts hkb hH hOX hks hE hS hA (s_M_hasClimb l D cs kf T O X a0 hg mq v44 t_a0 b_hg (hO.sub (by decide))) kw_1660 kw_1662 ks_94 kw_13 kw_1663 (by decide +kernel) ⟨Nat.le_of_ble_eq_true rfl, Nat.le_of_ble_eq_true rfl⟩ (HT.recv (ci := 12) hkb hH t_a0 (hO.no t_a0 (by decide)) rfl) rfl rfl hl.1 (Nat.le_of_ble_eq_true rfl) dX12_opens_47 ⟨Nat.le_of_ble_eq_true rfl, Nat.le_of_ble_eq_true rfl⟩) (fun v47 u H locs hz9 hH hS => ?_)
            obtain ⟨rfl, l_v47, u_v47⟩ := hz9
            have hH : HT D cs A T O X H := hH
            refine W.widen (k := 0) (n := 0) (Nat.le_of_ble_eq_true rfl) (Nat.le_of_ble_eq_true rfl) ?_
            have J61 : ∀ (p61_2 : Int32) (H : Heap) (locs : List Loc) (ls : Array Slot), HT D cs A T O X H → va_S A s.heap H locs → lv_has ls 4 [(3, .int p25_3), (2, .int p61_2), (0, .ref a0), (1, .int x1)] → W p l e { frames := 5, cells := 0, slots := 0, locals := 119 } s m [.ref a0, .int x1].toArray below meth c H locs 0 0 (MQ below (Ti D cs (fun r u => u = (T, O, X)) A) [.ref a0, .int x1].toArray s 0 0 A) (F0 m 61 ls []) := by
              intro p61_2 H locs ls  hH hS hl
              refine lv_aload_n hx hb dX12_opens_61 rfl (lv_at hl 2 rfl) ?_
              refine t_get (ci := 12) (lst := ft12 hg mq) (C := RX12) (F := TX12) (N := 36) hx hb hts uX12 hown hkb hH t_a0 (hO.no t_a0 (by decide)) (fun _ h9 => h9) rfl rfl 1 (by decide) rfl kw_1224 (fun _ h9 => h9) dX12_opens_62 (fun v9 h9 => ?_)
              obtain ⟨v62, rfl, t_v62⟩ := h9
              refine lv_bipush (v := 88) hx hb dX12_opens_65 (by decide) ?_
              refine lv_dup2_11 hx hb dX12_opens_67 rfl rfl ?_
              refine t_ild8 hx hb hkb hH t_v62 (hO.no t_v62 (by decide)) (by decide) (by decide) (by decide) dX12_opens_68 (fun v68 h9 h8 => ?_)
              refine lv_iconst (v := 1) hx hb dX12_opens_69 (by decide) ?_
              refine lv_iadd hx hb dX12_opens_70 ?_
              refine lv_topi (fun v70 ev70 => ?_)
              refine t_ist8 hx hb hkb hH hS t_v62 (hO.no t_v62 (by decide)) (by decide) (by decide) (by decide) (by decide) (by decide) (p8_far (by decide) (by decide)) dX12_opens_71 (fun H locs hH hS => ?_)
              obtain ⟨v72, ev72⟩ : ∃ y : Int32, y = p25_3 + 1 := ⟨_, rfl⟩
              have tv72 : v72.toInt = p25_3.toInt + (1) := by rw [ev72]; exact add_i rfl (by decide) (by omega) (by omega)
              refine lv_iinc (v := v72) (lv' := [(3, .int v72), (2, .int p61_2), (0, .ref a0), (1, .int x1)]) hx hb dX12_opens_72 hl (k := 0) rfl (by rw [ev72]; rfl) (by decide) rfl (fun ls hl => ?_)
              refine lv_goto (tgt := 25) hx hb dX12_opens_75 (by decide) ?_
              exact ih25 _ (by omega) v72 p61_2 _ _ _ rfl (by omega) (by omega) hH hS (lv_sub hl [0, 1, 2, 3] rfl)
            refine lv_if_eq (tgt := 61) hx hb dX12_opens_50 (by decide) (fun c50 => ?_) (fun c50 => ?_)
            · skip
              have tc50 := f_eq (k := 0) (by decide) c50
              exact J61 p25_2 _ _ _  hH hS (lv_sub hl [0, 1, 2, 3] rfl)
            · skip
              have tc50 := f_ne (k := 0) (by decide) c50
              refine lv_aload_n hx hb dX12_opens_53 rfl (lv_at hl 2 rfl) ?_
              refine t_get (ci := 12) (lst := ft12 hg mq) (C := RX12) (F := TX12) (N := 36) hx hb hts uX12 hown hkb hH t_a0 (hO.no t_a0 (by decide)) (fun _ h9 => h9) rfl rfl 1 (by decide) rfl kw_1224 (fun _ h9 => h9) dX12_opens_54 (fun v9 h9 => ?_)
              obtain ⟨v54, rfl, t_v54⟩ := h9
              refine lv_bipush (v := 88) hx hb dX12_opens_57 (by decide) ?_
              refine t_ild8 hx hb hkb hH t_v54 (hO.no t_v54 (by decide)) (by decide) (by decide) (by decide) dX12_opens_59 (fun v59 h9 h8 => ?_)
              refine lv_istore_n (lv' := [(2, .int v59), (3, .int p25_3), (0, .ref a0), (1, .int x1)]) hx hb dX12_opens_60 rfl hl (by decide) rfl (fun ls hl => ?_)
              exact J61 v59 _ _ _  hH hS (lv_sub hl [1, 0, 2, 3] rfl)
    refine lv_istore_n (lv' := [(3, .int 0), (2, .int (-1)), (0, .ref a0), (1, .int x1)]) hx hb dX12_opens_24 rfl hl (by decide) rfl (fun ls hl => ?_)
    exact J25 _ 0 (-1) _ _ _ rfl (by decide) (by decide) hH hS (lv_sub hl [0, 1, 2, 3] rfl)
  · skip
    have tc11 := f_eq (k := 0) (by decide) c11
    clear x_v80
    refine lv_bipush (v := (-2)) hx hb dX12_opens_14 (by decide) ?_
    exact te_i hx hb hr hlocks hH hS (rfl) dX12_opens_16
set_option maxHeartbeats 4000000 in
set_option maxRecDepth 100000 in
theorem s_M_dearest (l : Launch) (D : va_G) (cs : CS) (kf : KF) (T : TF) (O : List Nat) (X : va_W) (a0 hg mq : Nat) (x1 : Int32) (t_a0 : T a0 = some (22, hg, mq)) (b_hg : hg < 90) (hO : okO T O [1, 8, 9, 22]) : TK l D cs kf yX12_dearest cX12_dearest 5 (some (.int)) { frames := 5, cells := 0, slots := 0, locals := 119 } [.ref a0, .int x1] T O X (Ti D cs (fun r u => u = (T, O, X) ∧ -2 ≤ r.toInt ∧ r.toInt ≤ 13)) := by
  refine tk_of (by decide) (Nat.le_of_ble_eq_true rfl) (fun p e s m below meth c ls A H locs hx hb hr hml hown hts hlocks hnm hkb hH hS hA hOX hks hE hl => ?_)
  have hown : s.vm.findClass RX12 = some m.cls := hown
  have hl : lv_has ls 5 [(0, .ref a0), (1, .int x1)] := hl
  refine lv_aload_n hx hb dX12_dearest_0 rfl (lv_at hl 0 rfl) ?_
  refine lv_iconst (v := 0) hx hb dX12_dearest_1 (by decide) ?_
  refine t_put (ci := 12) (lst := ft12 hg mq) (v := .int 0) (ty := tyX12 0) (C := RX12) (F := TX12) (N := 36) hx hb hts uX12 tyX12 tyX12_ok nmX12 hown hkb hH hS t_a0 (hO.no t_a0 (by decide)) (fun _ => Iff.rfl) rfl rfl 0 (by decide) rfl (⟨_, rfl⟩) kw_1223 (fun _ h9 => h9) rfl (tyX12_ok 0 (by decide)) rfl rfl dX12_dearest_2 (fun H locs hH hS => ?_)
  refine lv_aload_n hx hb dX12_dearest_5 rfl (lv_at hl 0 rfl) ?_
  refine lv_iload_n hx hb dX12_dearest_6 rfl (lv_at hl 1 rfl) ?_
  refine lv_i2l hx hb dX12_dearest_7 rfl ?_
  refine tk_i hH hS hA (tr_V (n := 1) (As := [.long x1.toInt64]) hx hb hml hown hts hkb hH hOX hks hE hS hA (s_M_isGuide l D cs kf T O X a0 hg mq x1.toInt64 t_a0 b_hg (hO.sub (by decide))) kw_1470 kw_1472 ks_67 kw_13 kw_1473 (by decide +kernel) ⟨Nat.le_of_ble_eq_true rfl, Nat.le_of_ble_eq_true rfl⟩ (HT.recv (ci := 12) hkb hH t_a0 (hO.no t_a0 (by decide)) rfl) rfl rfl hl.1 (Nat.le_of_ble_eq_true rfl) dX12_dearest_8 ⟨Nat.le_of_ble_eq_true rfl, Nat.le_of_ble_eq_true rfl⟩) (fun v8 u H locs hz9 hH hS => ?_)
  obtain ⟨rfl, l_v8, u_v8, x_v80⟩ := hz9
  simp only [Int32.toInt_toInt64] at x_v80
  have hH : HT D cs A T O X H := hH
  refine W.widen (k := 0) (n := 0) (Nat.le_of_ble_eq_true rfl) (Nat.le_of_ble_eq_true rfl) ?_
  refine lv_if_ne (tgt := 17) hx hb dX12_dearest_11 (by decide) (fun c11 => ?_) (fun c11 => ?_)
  · skip
    have tc11 := f_ne (k := 0) (by decide) c11
    replace x_v80 := x_v80.resolve_left tc11
    refine lv_aload_n hx hb dX12_dearest_17 rfl (lv_at hl 0 rfl) ?_
    refine lv_iload_n hx hb dX12_dearest_18 rfl (lv_at hl 1 rfl) ?_
    refine tk_v hH hS hA (tr_V (n := 1) (As := [.int x1]) hx hb hml hown hts hkb hH hOX hks hE hS hA (s_M_laysGuide l D cs kf T O X a0 hg mq x1 t_a0 b_hg (by omega) (by omega) (hO.sub (by decide))) kw_1502 kw_1504 ks_71 kw_13 kw_1505 (by decide +kernel) ⟨Nat.le_of_ble_eq_true rfl, Nat.le_of_ble_eq_true rfl⟩ (HT.recv (ci := 12) hkb hH t_a0 (hO.no t_a0 (by decide)) rfl) rfl rfl hl.1 (Nat.le_of_ble_eq_true rfl) dX12_dearest_19 ⟨Nat.le_of_ble_eq_true rfl, Nat.le_of_ble_eq_true rfl⟩) (fun u H locs hz9 hH hS => ?_)
    have hz9 : u = (T, O, X) := hz9
    subst hz9
    have hH : HT D cs A T O X H := hH
    refine W.widen (k := 0) (n := 0) (Nat.le_of_ble_eq_true rfl) (Nat.le_of_ble_eq_true rfl) ?_
    refine lv_aload_n hx hb dX12_dearest_22 rfl (lv_at hl 0 rfl) ?_
    refine tk_i hH hS hA (tr_V (n := 0) (As := []) hx hb hml hown hts hkb hH hOX hks hE hS hA (s_M_openSet l D cs kf T O X a0 hg mq t_a0 b_hg (hO.sub (by decide))) kw_1510 kw_1512 ks_73 kw_13 kw_1513 (by decide +kernel) ⟨Nat.le_of_ble_eq_true rfl, Nat.le_of_ble_eq_true rfl⟩ (HT.recv (ci := 12) hkb hH t_a0 (hO.no t_a0 (by decide)) rfl) rfl rfl hl.1 (Nat.le_of_ble_eq_true rfl) dX12_dearest_23 ⟨Nat.le_of_ble_eq_true rfl, Nat.le_of_ble_eq_true rfl⟩) (fun v23 u H locs hz9 hH hS => ?_)
    obtain ⟨rfl, l_v23, u_v23⟩ := hz9
    have hH : HT D cs A T O X H := hH
    refine W.widen (k := 0) (n := 0) (Nat.le_of_ble_eq_true rfl) (Nat.le_of_ble_eq_true rfl) ?_
    refine lv_istore_n (lv' := [(2, .int v23), (0, .ref a0), (1, .int x1)]) hx hb dX12_dearest_26 rfl hl (by decide) rfl (fun ls hl => ?_)
    refine lv_aload_n hx hb dX12_dearest_27 rfl (lv_at hl 1 rfl) ?_
    refine lv_iload_n hx hb dX12_dearest_28 rfl (lv_at hl 0 rfl) ?_
    refine tk_i hH hS hA (tr_V (n := 1) (As := [.int v23]) hx hb hml hown hts hkb hH hOX hks hE hS hA (s_M_partiesBy l D cs kf T O X a0 hg mq v23 t_a0 b_hg (by omega) (by omega) (hO.sub (by decide))) kw_1652 kw_1654 ks_92 kw_13 kw_1655 (by decide +kernel) ⟨Nat.le_of_ble_eq_true rfl, Nat.le_of_ble_eq_true rfl⟩ (HT.recv (ci := 12) hkb hH t_a0 (hO.no t_a0 (by decide)) rfl) rfl rfl hl.1 (Nat.le_of_ble_eq_true rfl) dX12_dearest_29 ⟨Nat.le_of_ble_eq_true rfl, Nat.le_of_ble_eq_true rfl⟩) (fun v29 u H locs hz9 hH hS => ?_)
    have hz9 : u = (T, O, X) := hz9
    subst hz9
    have hH : HT D cs A T O X H := hH
    refine W.widen (k := 0) (n := 0) (Nat.le_of_ble_eq_true rfl) (Nat.le_of_ble_eq_true rfl) ?_
    refine lv_istore_n (lv' := [(3, .int v29), (2, .int v23), (0, .ref a0), (1, .int x1)]) hx hb dX12_dearest_32 rfl hl (by decide) rfl (fun ls hl => ?_)
    refine lv_iconst (v := 0) hx hb dX12_dearest_33 (by decide) ?_
    have J36 : ∀ (n : Nat) (p36_4 : Int32) (H : Heap) (locs : List Loc) (ls : Array Slot), (14 - p36_4.toInt).toNat = n → (0 ≤ p36_4.toInt) → (p36_4.toInt ≤ 14) → HT D cs A T O X H → va_S A s.heap H locs → lv_has ls 5 [(4, .int p36_4), (3, .int v29), (2, .int v23), (0, .ref a0)] → W p l e { frames := 5, cells := 0, slots := 0, locals := 119 } s m [.ref a0, .int x1].toArray below meth c H locs 0 0 (MQ below (Ti D cs (fun r u => u = (T, O, X) ∧ -2 ≤ r.toInt ∧ r.toInt ≤ 13) A) [.ref a0, .int x1].toArray s 0 0 A) (F0 m 36 ls []) := by
      intro n
      induction n using Nat.strongRecOn with
      | _ n ih36 =>
        intro p36_4 H locs ls hm36 l_p36_4 u_p36_4 hH hS hl
        refine lv_iload hx hb dX12_dearest_36 (lv_at hl 0 rfl) ?_
        refine lv_aload_n hx hb dX12_dearest_38 rfl (lv_at hl 3 rfl) ?_
        refine t_get (ci := 12) (lst := ft12 hg mq) (C := RX12) (F := TX12) (N := 36) hx hb hts uX12 hown hkb hH t_a0 (hO.no t_a0 (by decide)) (fun _ h9 => h9) rfl rfl 1 (by decide) rfl kw_1224 (fun _ h9 => h9) dX12_dearest_39 (fun v9 h9 => ?_)
        obtain ⟨v39, rfl, t_v39⟩ := h9
        refine lv_iconst (v := 1) hx hb dX12_dearest_42 (by decide) ?_
        refine t_ild8 hx hb hkb hH t_v39 (hO.no t_v39 (by decide)) (by decide) (by decide) (by decide) dX12_dearest_43 (fun v43 h9 h8 => ?_)
        have q9 := (h8 rfl).1 rfl
        subst q9
        have eH9 : (nI (hg / 6)).toInt = (((hg / 6) : Nat) : Int) := nI_toInt (by omega)
        refine lv_icmp_ge (tgt := 89) hx hb dX12_dearest_44 (by decide) (fun c44 => ?_) (fun c44 => ?_)
        · skip
          have fuc44 := full_i p36_4
          have fvc44 := full_i (nI (hg / 6))
          have tc44 := g_le c44
          refine lv_iconst (v := (-1)) hx hb dX12_dearest_89 (by decide) ?_
          exact te_i hx hb hr hlocks hH hS (⟨rfl, by decide, by decide⟩) dX12_dearest_90
        · skip
          have fuc44 := full_i p36_4
          have fvc44 := full_i (nI (hg / 6))
          have tc44 := g_nle c44
          refine lv_iload_n hx hb dX12_dearest_47 rfl (lv_at hl 2 rfl) ?_
          refine lv_aload_n hx hb dX12_dearest_48 rfl (lv_at hl 3 rfl) ?_
          refine tk_i hH hS hA (tr_V (n := 0) (As := []) hx hb hml hown hts hkb hH hOX hks hE hS hA (s_M_ends l D cs kf T O X a0 hg mq t_a0 b_hg (hO.sub (by decide))) kw_1536 kw_1538 ks_78 kw_13 kw_1539 (by decide +kernel) ⟨Nat.le_of_ble_eq_true rfl, Nat.le_of_ble_eq_true rfl⟩ (HT.recv (ci := 12) hkb hH t_a0 (hO.no t_a0 (by decide)) rfl) rfl rfl hl.1 (Nat.le_of_ble_eq_true rfl) dX12_dearest_49 ⟨Nat.le_of_ble_eq_true rfl, Nat.le_of_ble_eq_true rfl⟩) (fun v49 u H locs hz9 hH hS => ?_)
          obtain ⟨rfl, l_v49, u_v49⟩ := hz9
          have hH : HT D cs A T O X H := hH
          refine W.widen (k := 0) (n := 0) (Nat.le_of_ble_eq_true rfl) (Nat.le_of_ble_eq_true rfl) ?_
          refine lv_iconst (v := (-1)) hx hb dX12_dearest_52 (by decide) ?_
          refine lv_ixor hx hb dX12_dearest_53 ?_
          refine lv_topi (fun v53 ev53 => ?_)
          refine lv_iand hx hb dX12_dearest_54 ?_
          refine lv_topi (fun v54 ev54 => ?_)
          have tv54 : 0 ≤ v54.toInt ∧ v54.toInt ≤ v23.toInt := by rw [ev54]; exact and_l (by omega)
          refine lv_i2l hx hb dX12_dearest_55 rfl ?_
          refine lv_iload hx hb dX12_dearest_56 (lv_at hl 0 rfl) ?_
          refine tk_i hH hS hA (tr_S (n := 2) (As := [.long v54.toInt64, .int p36_4]) hx hb hml hown hts hkb hH hOX hks hE hS hA (s_M_isIn2 l D cs kf T O X v54.toInt64 p36_4  (hO.sub (by decide))) kw_1440 kw_1441 kw_13 kw_1442 (by decide +kernel) ⟨Nat.le_of_ble_eq_true rfl, Nat.le_of_ble_eq_true rfl⟩ rfl rfl hl.1 (Nat.le_of_ble_eq_true rfl) dX12_dearest_58 ⟨Nat.le_of_ble_eq_true rfl, Nat.le_of_ble_eq_true rfl⟩) (fun v58 u H locs hz9 hH hS => ?_)
          obtain ⟨rfl, l_v58, u_v58, x_v580⟩ := hz9
          have hH : HT D cs A T O X H := hH
          refine W.widen (k := 0) (n := 0) (Nat.le_of_ble_eq_true rfl) (Nat.le_of_ble_eq_true rfl) ?_
          have J83 : ∀  (H : Heap) (locs : List Loc) (ls : Array Slot), HT D cs A T O X H → va_S A s.heap H locs → lv_has ls 5 [(4, .int p36_4), (3, .int v29), (2, .int v23), (0, .ref a0)] → W p l e { frames := 5, cells := 0, slots := 0, locals := 119 } s m [.ref a0, .int x1].toArray below meth c H locs 0 0 (MQ below (Ti D cs (fun r u => u = (T, O, X) ∧ -2 ≤ r.toInt ∧ r.toInt ≤ 13) A) [.ref a0, .int x1].toArray s 0 0 A) (F0 m 83 ls []) := by
            intro  H locs ls  hH hS hl
            obtain ⟨v83, ev83⟩ : ∃ y : Int32, y = p36_4 + 1 := ⟨_, rfl⟩
            have tv83 : v83.toInt = p36_4.toInt + (1) := by rw [ev83]; exact add_i rfl (by decide) (by omega) (by omega)
            refine lv_iinc (v := v83) (lv' := [(4, .int v83), (3, .int v29), (2, .int v23), (0, .ref a0)]) hx hb dX12_dearest_83 hl (k := 0) rfl (by rw [ev83]; rfl) (by decide) rfl (fun ls hl => ?_)
            refine lv_goto (tgt := 36) hx hb dX12_dearest_86 (by decide) ?_
            exact ih36 _ (by omega) v83 _ _ _ rfl (by omega) (by omega) hH hS (lv_sub hl [0, 1, 2, 3] rfl)
          refine lv_if_eq (tgt := 83) hx hb dX12_dearest_61 (by decide) (fun c61 => ?_) (fun c61 => ?_)
          · skip
            have tc61 := f_eq (k := 0) (by decide) c61
            exact J83  _ _ _  hH hS (lv_sub hl [0, 1, 2, 3] rfl)
          · skip
            have tc61 := f_ne (k := 0) (by decide) c61
            refine lv_aload_n hx hb dX12_dearest_64 rfl (lv_at hl 3 rfl) ?_
            refine lv_iload_n hx hb dX12_dearest_65 rfl (lv_at hl 2 rfl) ?_
            refine lv_iconst (v := 1) hx hb dX12_dearest_66 (by decide) ?_
            refine lv_iload hx hb dX12_dearest_67 (lv_at hl 0 rfl) ?_
            refine lv_ishl hx hb dX12_dearest_69 ?_
            refine lv_topi (fun v69 ev69 => ?_)
            have tv69 : 1 ≤ v69.toInt ∧ v69.toInt ≤ 8192 := by rw [ev69]; exact shl_b 13 (by decide) (by omega) (by omega)
            refine lv_iconst (v := (-1)) hx hb dX12_dearest_70 (by decide) ?_
            refine lv_ixor hx hb dX12_dearest_71 ?_
            refine lv_topi (fun v71 ev71 => ?_)
            refine lv_iand hx hb dX12_dearest_72 ?_
            refine lv_topi (fun v72 ev72 => ?_)
            have tv72 : 0 ≤ v72.toInt ∧ v72.toInt ≤ v23.toInt := by rw [ev72]; exact and_l (by omega)
            refine tk_i hH hS hA (tr_V (n := 1) (As := [.int v72]) hx hb hml hown hts hkb hH hOX hks hE hS hA (s_M_partiesBy l D cs kf T O X a0 hg mq v72 t_a0 b_hg (by omega) (by omega) (hO.sub (by decide))) kw_1652 kw_1654 ks_92 kw_13 kw_1655 (by decide +kernel) ⟨Nat.le_of_ble_eq_true rfl, Nat.le_of_ble_eq_true rfl⟩ (HT.recv (ci := 12) hkb hH t_a0 (hO.no t_a0 (by decide)) rfl) rfl rfl hl.1 (Nat.le_of_ble_eq_true rfl) dX12_dearest_73 ⟨Nat.le_of_ble_eq_true rfl, Nat.le_of_ble_eq_true rfl⟩) (fun v73 u H locs hz9 hH hS => ?_)
            have hz9 : u = (T, O, X) := hz9
            subst hz9
            have hH : HT D cs A T O X H := hH
            refine W.widen (k := 0) (n := 0) (Nat.le_of_ble_eq_true rfl) (Nat.le_of_ble_eq_true rfl) ?_
            refine lv_iload_n hx hb dX12_dearest_76 rfl (lv_at hl 1 rfl) ?_
            refine lv_icmp_ge (tgt := 83) hx hb dX12_dearest_77 (by decide) (fun c77 => ?_) (fun c77 => ?_)
            · skip
              have fuc77 := full_i v73
              have fvc77 := full_i v29
              have tc77 := g_le c77
              exact J83  _ _ _  hH hS (lv_sub hl [0, 1, 2, 3] rfl)
            · skip
              have fuc77 := full_i v73
              have fvc77 := full_i v29
              have tc77 := g_nle c77
              refine lv_iload hx hb dX12_dearest_80 (lv_at hl 0 rfl) ?_
              exact te_i hx hb hr hlocks hH hS (⟨rfl, by omega, by omega⟩) dX12_dearest_82
    refine lv_istore (lv' := [(4, .int 0), (3, .int v29), (2, .int v23), (0, .ref a0), (1, .int x1)]) hx hb dX12_dearest_34 hl (by decide) rfl (fun ls hl => ?_)
    exact J36 _ 0 _ _ _ rfl (by decide) (by decide) hH hS (lv_sub hl [0, 1, 2, 3] rfl)
  · skip
    have tc11 := f_eq (k := 0) (by decide) c11
    clear x_v80
    refine lv_bipush (v := (-2)) hx hb dX12_dearest_14 (by decide) ?_
    exact te_i hx hb hr hlocks hH hS (⟨rfl, by decide, by decide⟩) dX12_dearest_16
set_option maxHeartbeats 4000000 in
set_option maxRecDepth 100000 in
theorem s_M_saved (l : Launch) (D : va_G) (cs : CS) (kf : KF) (T : TF) (O : List Nat) (X : va_W) (a0 hg mq : Nat) (x1 : Int32) (t_a0 : T a0 = some (22, hg, mq)) (b_hg : hg < 90) (hO : okO T O [1, 2, 8, 9, 22]) : TK l D cs kf yX12_saved cX12_saved 5 (some (.int)) { frames := 6, cells := 0, slots := 0, locals := 140 } [.ref a0, .int x1] T O X (Ti D cs (fun r u => u = (T, O, X) ∧ -2 ≤ r.toInt ∧ r.toInt ≤ 16383)) := by
  refine tk_of (by decide) (Nat.le_of_ble_eq_true rfl) (fun p e s m below meth c ls A H locs hx hb hr hml hown hts hlocks hnm hkb hH hS hA hOX hks hE hl => ?_)
  have hown : s.vm.findClass RX12 = some m.cls := hown
  have hl : lv_has ls 5 [(0, .ref a0), (1, .int x1)] := hl
  refine lv_aload_n hx hb dX12_saved_0 rfl (lv_at hl 0 rfl) ?_
  refine lv_iconst (v := 0) hx hb dX12_saved_1 (by decide) ?_
  refine t_put (ci := 12) (lst := ft12 hg mq) (v := .int 0) (ty := tyX12 0) (C := RX12) (F := TX12) (N := 36) hx hb hts uX12 tyX12 tyX12_ok nmX12 hown hkb hH hS t_a0 (hO.no t_a0 (by decide)) (fun _ => Iff.rfl) rfl rfl 0 (by decide) rfl (⟨_, rfl⟩) kw_1223 (fun _ h9 => h9) rfl (tyX12_ok 0 (by decide)) rfl rfl dX12_saved_2 (fun H locs hH hS => ?_)
  refine lv_aload_n hx hb dX12_saved_5 rfl (lv_at hl 0 rfl) ?_
  refine lv_iload_n hx hb dX12_saved_6 rfl (lv_at hl 1 rfl) ?_
  refine lv_i2l hx hb dX12_saved_7 rfl ?_
  refine tk_i hH hS hA (tr_V (n := 1) (As := [.long x1.toInt64]) hx hb hml hown hts hkb hH hOX hks hE hS hA (s_M_isGuide l D cs kf T O X a0 hg mq x1.toInt64 t_a0 b_hg (hO.sub (by decide))) kw_1470 kw_1472 ks_67 kw_13 kw_1473 (by decide +kernel) ⟨Nat.le_of_ble_eq_true rfl, Nat.le_of_ble_eq_true rfl⟩ (HT.recv (ci := 12) hkb hH t_a0 (hO.no t_a0 (by decide)) rfl) rfl rfl hl.1 (Nat.le_of_ble_eq_true rfl) dX12_saved_8 ⟨Nat.le_of_ble_eq_true rfl, Nat.le_of_ble_eq_true rfl⟩) (fun v8 u H locs hz9 hH hS => ?_)
  obtain ⟨rfl, l_v8, u_v8, x_v80⟩ := hz9
  simp only [Int32.toInt_toInt64] at x_v80
  have hH : HT D cs A T O X H := hH
  refine W.widen (k := 0) (n := 0) (Nat.le_of_ble_eq_true rfl) (Nat.le_of_ble_eq_true rfl) ?_
  refine lv_if_ne (tgt := 17) hx hb dX12_saved_11 (by decide) (fun c11 => ?_) (fun c11 => ?_)
  · skip
    have tc11 := f_ne (k := 0) (by decide) c11
    replace x_v80 := x_v80.resolve_left tc11
    refine lv_aload_n hx hb dX12_saved_17 rfl (lv_at hl 0 rfl) ?_
    refine lv_iload_n hx hb dX12_saved_18 rfl (lv_at hl 1 rfl) ?_
    refine tk_v hH hS hA (tr_V (n := 1) (As := [.int x1]) hx hb hml hown hts hkb hH hOX hks hE hS hA (s_M_laysClimbsOf l D cs kf T O X a0 hg mq x1 t_a0 b_hg (by omega) (by omega) (hO.sub (by decide))) kw_1644 kw_1646 ks_91 kw_13 kw_1647 (by decide +kernel) ⟨Nat.le_of_ble_eq_true rfl, Nat.le_of_ble_eq_true rfl⟩ (HT.recv (ci := 12) hkb hH t_a0 (hO.no t_a0 (by decide)) rfl) rfl rfl hl.1 (Nat.le_of_ble_eq_true rfl) dX12_saved_19 ⟨Nat.le_of_ble_eq_true rfl, Nat.le_of_ble_eq_true rfl⟩) (fun u H locs hz9 hH hS => ?_)
    have hz9 : u = (T, O, X) := hz9
    subst hz9
    have hH : HT D cs A T O X H := hH
    refine W.widen (k := 0) (n := 0) (Nat.le_of_ble_eq_true rfl) (Nat.le_of_ble_eq_true rfl) ?_
    refine lv_iconst (v := (-1)) hx hb dX12_saved_22 (by decide) ?_
    refine lv_istore_n (lv' := [(2, .int (-1)), (0, .ref a0), (1, .int x1)]) hx hb dX12_saved_23 rfl hl (by decide) rfl (fun ls hl => ?_)
    refine lv_iconst (v := 0) hx hb dX12_saved_24 (by decide) ?_
    have J26 : ∀ (n : Nat) (p26_3 : Int32) (p26_2 : Int32) (H : Heap) (locs : List Loc) (ls : Array Slot), (16384 - p26_3.toInt).toNat = n → (0 ≤ p26_3.toInt) → (p26_3.toInt ≤ 16384) → (-1 ≤ p26_2.toInt) → (p26_2.toInt ≤ 16383) → HT D cs A T O X H → va_S A s.heap H locs → lv_has ls 5 [(3, .int p26_3), (2, .int p26_2), (0, .ref a0)] → W p l e { frames := 6, cells := 0, slots := 0, locals := 140 } s m [.ref a0, .int x1].toArray below meth c H locs 0 0 (MQ below (Ti D cs (fun r u => u = (T, O, X) ∧ -2 ≤ r.toInt ∧ r.toInt ≤ 16383) A) [.ref a0, .int x1].toArray s 0 0 A) (F0 m 26 ls []) := by
      intro n
      induction n using Nat.strongRecOn with
      | _ n ih26 =>
        intro p26_3 p26_2 H locs ls hm26 l_p26_3 u_p26_3 l_p26_2 u_p26_2 hH hS hl
        refine lv_iload_n hx hb dX12_saved_26 rfl (lv_at hl 0 rfl) ?_
        refine lv_iconst (v := 1) hx hb dX12_saved_27 (by decide) ?_
        refine lv_aload_n hx hb dX12_saved_28 rfl (lv_at hl 2 rfl) ?_
        refine t_get (ci := 12) (lst := ft12 hg mq) (C := RX12) (F := TX12) (N := 36) hx hb hts uX12 hown hkb hH t_a0 (hO.no t_a0 (by decide)) (fun _ h9 => h9) rfl rfl 1 (by decide) rfl kw_1224 (fun _ h9 => h9) dX12_saved_29 (fun v9 h9 => ?_)
        obtain ⟨v29, rfl, t_v29⟩ := h9
        refine lv_iconst (v := 1) hx hb dX12_saved_32 (by decide) ?_
        refine t_ild8 hx hb hkb hH t_v29 (hO.no t_v29 (by decide)) (by decide) (by decide) (by decide) dX12_saved_33 (fun v33 h9 h8 => ?_)
        have q9 := (h8 rfl).1 rfl
        subst q9
        have eH9 : (nI (hg / 6)).toInt = (((hg / 6) : Nat) : Int) := nI_toInt (by omega)
        refine lv_ishl hx hb dX12_saved_34 ?_
        refine lv_topi (fun v34 ev34 => ?_)
        have tv34 : 1 ≤ v34.toInt ∧ v34.toInt ≤ 16384 := by rw [ev34]; exact shl_b 14 (by decide) (by omega) (by omega)
        refine lv_icmp_ge (tgt := 105) hx hb dX12_saved_35 (by decide) (fun c35 => ?_) (fun c35 => ?_)
        · skip
          have fuc35 := full_i p26_3
          have fvc35 := full_i v34
          have tc35 := g_le c35
          refine lv_iload_n hx hb dX12_saved_105 rfl (lv_at hl 1 rfl) ?_
          exact te_i hx hb hr hlocks hH hS (⟨rfl, by omega, by omega⟩) dX12_saved_106
        · skip
          have fuc35 := full_i p26_3
          have fvc35 := full_i v34
          have tc35 := g_nle c35
          refine lv_iload_n hx hb dX12_saved_38 rfl (lv_at hl 0 rfl) ?_
          refine lv_aload_n hx hb dX12_saved_39 rfl (lv_at hl 2 rfl) ?_
          refine tk_i hH hS hA (tr_V (n := 0) (As := []) hx hb hml hown hts hkb hH hOX hks hE hS hA (s_M_ends l D cs kf T O X a0 hg mq t_a0 b_hg (hO.sub (by decide))) kw_1536 kw_1538 ks_78 kw_13 kw_1539 (by decide +kernel) ⟨Nat.le_of_ble_eq_true rfl, Nat.le_of_ble_eq_true rfl⟩ (HT.recv (ci := 12) hkb hH t_a0 (hO.no t_a0 (by decide)) rfl) rfl rfl hl.1 (Nat.le_of_ble_eq_true rfl) dX12_saved_40 ⟨Nat.le_of_ble_eq_true rfl, Nat.le_of_ble_eq_true rfl⟩) (fun v40 u H locs hz9 hH hS => ?_)
          obtain ⟨rfl, l_v40, u_v40⟩ := hz9
          have hH : HT D cs A T O X H := hH
          refine W.widen (k := 0) (n := 0) (Nat.le_of_ble_eq_true rfl) (Nat.le_of_ble_eq_true rfl) ?_
          refine lv_iconst (v := (-1)) hx hb dX12_saved_43 (by decide) ?_
          refine lv_ixor hx hb dX12_saved_44 ?_
          refine lv_topi (fun v44 ev44 => ?_)
          refine lv_iand hx hb dX12_saved_45 ?_
          refine lv_topi (fun v45 ev45 => ?_)
          have tv45 : 0 ≤ v45.toInt ∧ v45.toInt ≤ p26_3.toInt := by rw [ev45]; exact and_l (by omega)
          refine lv_istore (lv' := [(4, .int v45), (3, .int p26_3), (2, .int p26_2), (0, .ref a0)]) hx hb dX12_saved_46 hl (by decide) rfl (fun ls hl => ?_)
          refine lv_aload_n hx hb dX12_saved_48 rfl (lv_at hl 3 rfl) ?_
          refine lv_iload_n hx hb dX12_saved_49 rfl (lv_at hl 1 rfl) ?_
          refine tk_l hH hS hA (tr_V (n := 1) (As := [.int p26_3]) hx hb hml hown hts hkb hH hOX hks hE hS hA (s_M_climbsBy l D cs kf T O X a0 hg mq p26_3 t_a0 b_hg (by omega) (by omega) (hO.sub (by decide))) kw_1634 kw_1636 ks_90 kw_13 kw_1637 (by decide +kernel) ⟨Nat.le_of_ble_eq_true rfl, Nat.le_of_ble_eq_true rfl⟩ (HT.recv (ci := 12) hkb hH t_a0 (hO.no t_a0 (by decide)) rfl) rfl rfl hl.1 (Nat.le_of_ble_eq_true rfl) dX12_saved_50 ⟨Nat.le_of_ble_eq_true rfl, Nat.le_of_ble_eq_true rfl⟩) (fun v50 u H locs hz9 hH hS => ?_)
          have hz9 : u = (T, O, X) := hz9
          subst hz9
          have hH : HT D cs A T O X H := hH
          refine W.widen (k := 0) (n := 0) (Nat.le_of_ble_eq_true rfl) (Nat.le_of_ble_eq_true rfl) ?_
          refine lv_lconst (v := 0) hx hb dX12_saved_53 (by decide) ?_
          refine W.lcmp hx hb dX12_saved_54 ?_
          have J99 : ∀ (p99_2 : Int32) (H : Heap) (locs : List Loc) (ls : Array Slot), (-1 ≤ p99_2.toInt) → (p99_2.toInt ≤ 16383) → HT D cs A T O X H → va_S A s.heap H locs → lv_has ls 5 [(3, .int p26_3), (2, .int p99_2), (0, .ref a0)] → W p l e { frames := 6, cells := 0, slots := 0, locals := 140 } s m [.ref a0, .int x1].toArray below meth c H locs 0 0 (MQ below (Ti D cs (fun r u => u = (T, O, X) ∧ -2 ≤ r.toInt ∧ r.toInt ≤ 16383) A) [.ref a0, .int x1].toArray s 0 0 A) (F0 m 99 ls []) := by
            intro p99_2 H locs ls l_p99_2 u_p99_2 hH hS hl
            obtain ⟨v99, ev99⟩ : ∃ y : Int32, y = p26_3 + 1 := ⟨_, rfl⟩
            have tv99 : v99.toInt = p26_3.toInt + (1) := by rw [ev99]; exact add_i rfl (by decide) (by omega) (by omega)
            refine lv_iinc (v := v99) (lv' := [(3, .int v99), (2, .int p99_2), (0, .ref a0)]) hx hb dX12_saved_99 hl (k := 0) rfl (by rw [ev99]; rfl) (by decide) rfl (fun ls hl => ?_)
            refine lv_goto (tgt := 26) hx hb dX12_saved_102 (by decide) ?_
            exact ih26 _ (by omega) v99 p99_2 _ _ _ rfl (by omega) (by omega) (by omega) (by omega) hH hS (lv_sub hl [0, 1, 2] rfl)
          refine lv_if_ne (tgt := 61) hx hb dX12_saved_55 (by decide) (fun c55 => ?_) (fun c55 => ?_)
          · skip
            have tc55 := ne_l c55
            have kc55_0 : (0 : Int64).toInt = 0 := by decide
            refine lv_iload_n hx hb dX12_saved_61 rfl (lv_at hl 2 rfl) ?_
            refine lv_iconst (v := (-1)) hx hb dX12_saved_62 (by decide) ?_
            have J96 : ∀  (H : Heap) (locs : List Loc) (ls : Array Slot), HT D cs A T O X H → va_S A s.heap H locs → lv_has ls 5 [(4, .int v45), (3, .int p26_3), (0, .ref a0)] → W p l e { frames := 6, cells := 0, slots := 0, locals := 140 } s m [.ref a0, .int x1].toArray below meth c H locs 0 0 (MQ below (Ti D cs (fun r u => u = (T, O, X) ∧ -2 ≤ r.toInt ∧ r.toInt ≤ 16383) A) [.ref a0, .int x1].toArray s 0 0 A) (F0 m 96 ls []) := by
              intro  H locs ls  hH hS hl
              refine lv_iload hx hb dX12_saved_96 (lv_at hl 0 rfl) ?_
              refine lv_istore_n (lv' := [(2, .int v45), (4, .int v45), (3, .int p26_3), (0, .ref a0)]) hx hb dX12_saved_98 rfl hl (by decide) rfl (fun ls hl => ?_)
              exact J99 v45 _ _ _ (by omega) (by omega) hH hS (lv_sub hl [2, 0, 3] rfl)
            refine lv_icmp_eq (tgt := 96) hx hb dX12_saved_63 (by decide) (fun c63 => ?_) (fun c63 => ?_)
            · skip
              have tc63 := f_eq (k := -1) (by decide) c63
              exact J96  _ _ _  hH hS (lv_sub hl [0, 1, 3] rfl)
            · skip
              have tc63 := f_ne (k := -1) (by decide) c63
              refine lv_iload hx hb dX12_saved_66 (lv_at hl 0 rfl) ?_
              refine tk_i hH hS hA (tr_S (n := 1) (As := [.int v45]) hx hb hml hown hts hkb hH hOX hks hE hS hA (s_M_bitsOf l D cs kf T O X v45  (hO.sub (by decide))) kw_1631 kw_1632 kw_13 kw_1633 (by decide +kernel) ⟨Nat.le_of_ble_eq_true rfl, Nat.le_of_ble_eq_true rfl⟩ rfl rfl hl.1 (Nat.le_of_ble_eq_true rfl) dX12_saved_68 ⟨Nat.le_of_ble_eq_true rfl, Nat.le_of_ble_eq_true rfl⟩) (fun v68 u H locs hz9 hH hS => ?_)
              have hz9 : u = (T, O, X) := hz9
              subst hz9
              have hH : HT D cs A T O X H := hH
              refine W.widen (k := 0) (n := 0) (Nat.le_of_ble_eq_true rfl) (Nat.le_of_ble_eq_true rfl) ?_
              refine lv_iload_n hx hb dX12_saved_71 rfl (lv_at hl 2 rfl) ?_
              refine tk_i hH hS hA (tr_S (n := 1) (As := [.int p26_2]) hx hb hml hown hts hkb hH hOX hks hE hS hA (s_M_bitsOf l D cs kf T O X p26_2  (hO.sub (by decide))) kw_1631 kw_1632 kw_13 kw_1633 (by decide +kernel) ⟨Nat.le_of_ble_eq_true rfl, Nat.le_of_ble_eq_true rfl⟩ rfl rfl hl.1 (Nat.le_of_ble_eq_true rfl) dX12_saved_72 ⟨Nat.le_of_ble_eq_true rfl, Nat.le_of_ble_eq_true rfl⟩) (fun v72 u H locs hz9 hH hS => ?_)
              have hz9 : u = (T, O, X) := hz9
              subst hz9
              have hH : HT D cs A T O X H := hH
              refine W.widen (k := 0) (n := 0) (Nat.le_of_ble_eq_true rfl) (Nat.le_of_ble_eq_true rfl) ?_
              refine lv_icmp_lt (tgt := 96) hx hb dX12_saved_75 (by decide) (fun c75 => ?_) (fun c75 => ?_)
              · skip
                have fuc75 := full_i v68
                have fvc75 := full_i v72
                have tc75 := g_lt c75
                exact J96  _ _ _  hH hS (lv_sub hl [0, 1, 3] rfl)
              · skip
                have fuc75 := full_i v68
                have fvc75 := full_i v72
                have tc75 := g_nlt c75
                refine lv_iload hx hb dX12_saved_78 (lv_at hl 0 rfl) ?_
                refine tk_i hH hS hA (tr_S (n := 1) (As := [.int v45]) hx hb hml hown hts hkb hH hOX hks hE hS hA (s_M_bitsOf l D cs kf T O X v45  (hO.sub (by decide))) kw_1631 kw_1632 kw_13 kw_1633 (by decide +kernel) ⟨Nat.le_of_ble_eq_true rfl, Nat.le_of_ble_eq_true rfl⟩ rfl rfl hl.1 (Nat.le_of_ble_eq_true rfl) dX12_saved_80 ⟨Nat.le_of_ble_eq_true rfl, Nat.le_of_ble_eq_true rfl⟩) (fun v80 u H locs hz9 hH hS => ?_)
                have hz9 : u = (T, O, X) := hz9
                subst hz9
                have hH : HT D cs A T O X H := hH
                refine W.widen (k := 0) (n := 0) (Nat.le_of_ble_eq_true rfl) (Nat.le_of_ble_eq_true rfl) ?_
                refine lv_iload_n hx hb dX12_saved_83 rfl (lv_at hl 2 rfl) ?_
                refine tk_i hH hS hA (tr_S (n := 1) (As := [.int p26_2]) hx hb hml hown hts hkb hH hOX hks hE hS hA (s_M_bitsOf l D cs kf T O X p26_2  (hO.sub (by decide))) kw_1631 kw_1632 kw_13 kw_1633 (by decide +kernel) ⟨Nat.le_of_ble_eq_true rfl, Nat.le_of_ble_eq_true rfl⟩ rfl rfl hl.1 (Nat.le_of_ble_eq_true rfl) dX12_saved_84 ⟨Nat.le_of_ble_eq_true rfl, Nat.le_of_ble_eq_true rfl⟩) (fun v84 u H locs hz9 hH hS => ?_)
                have hz9 : u = (T, O, X) := hz9
                subst hz9
                have hH : HT D cs A T O X H := hH
                refine W.widen (k := 0) (n := 0) (Nat.le_of_ble_eq_true rfl) (Nat.le_of_ble_eq_true rfl) ?_
                refine lv_icmp_ne (tgt := 99) hx hb dX12_saved_87 (by decide) (fun c87 => ?_) (fun c87 => ?_)
                · skip
                  have fuc87 := full_i v80
                  have fvc87 := full_i v84
                  have tc87 := g_ne c87
                  exact J99 p26_2 _ _ _ (by omega) (by omega) hH hS (lv_sub hl [1, 2, 3] rfl)
                · skip
                  have fuc87 := full_i v80
                  have fvc87 := full_i v84
                  have tc87 := g_eq c87
                  refine lv_iload hx hb dX12_saved_90 (lv_at hl 0 rfl) ?_
                  refine lv_iload_n hx hb dX12_saved_92 rfl (lv_at hl 2 rfl) ?_
                  refine lv_icmp_ge (tgt := 99) hx hb dX12_saved_93 (by decide) (fun c93 => ?_) (fun c93 => ?_)
                  · skip
                    have fuc93 := full_i v45
                    have fvc93 := full_i p26_2
                    have tc93 := g_le c93
                    exact J99 p26_2 _ _ _ (by omega) (by omega) hH hS (lv_sub hl [1, 2, 3] rfl)
                  · skip
                    have fuc93 := full_i v45
                    have fvc93 := full_i p26_2
                    have tc93 := g_nle c93
                    exact J96  _ _ _  hH hS (lv_sub hl [0, 1, 3] rfl)
          · skip
            have tc55 := eq_l c55
            have kc55_0 : (0 : Int64).toInt = 0 := by decide
            refine lv_goto (tgt := 99) hx hb dX12_saved_58 (by decide) ?_
            exact J99 p26_2 _ _ _ (by omega) (by omega) hH hS (lv_sub hl [1, 2, 3] rfl)
    refine lv_istore_n (lv' := [(3, .int 0), (2, .int (-1)), (0, .ref a0), (1, .int x1)]) hx hb dX12_saved_25 rfl hl (by decide) rfl (fun ls hl => ?_)
    exact J26 _ 0 (-1) _ _ _ rfl (by decide) (by decide) (by decide) (by decide) hH hS (lv_sub hl [0, 1, 2] rfl)
  · skip
    have tc11 := f_eq (k := 0) (by decide) c11
    clear x_v80
    refine lv_bipush (v := (-2)) hx hb dX12_saved_14 (by decide) ?_
    exact te_i hx hb hr hlocks hH hS (⟨rfl, by decide, by decide⟩) dX12_saved_16
set_option maxHeartbeats 4000000 in
set_option maxRecDepth 100000 in
theorem s_M_isSetOf (l : Launch) (D : va_G) (cs : CS) (kf : KF) (T : TF) (O : List Nat) (X : va_W) (a0 hg mq : Nat) (x1 : Int32) (t_a0 : T a0 = some (22, hg, mq)) (b_hg : hg < 90) (hO : okO T O [8, 22]) : TK l D cs kf yX12_isSetOf cX12_isSetOf 2 (some (.boolean)) { frames := 3, cells := 0, slots := 0, locals := 65 } [.ref a0, .int x1] T O X (Ti D cs (fun r u => u = (T, O, X) ∧ 0 ≤ r.toInt ∧ r.toInt ≤ 1)) := by
  refine tk_of (by decide) (Nat.le_of_ble_eq_true rfl) (fun p e s m below meth c ls A H locs hx hb hr hml hown hts hlocks hnm hkb hH hS hA hOX hks hE hl => ?_)
  have hown : s.vm.findClass RX12 = some m.cls := hown
  have hl : lv_has ls 2 [(0, .ref a0), (1, .int x1)] := hl
  refine lv_iload_n hx hb dX12_isSetOf_0 rfl (lv_at hl 1 rfl) ?_
  refine lv_aload_n hx hb dX12_isSetOf_1 rfl (lv_at hl 0 rfl) ?_
  refine tk_i hH hS hA (tr_V (n := 0) (As := []) hx hb hml hown hts hkb hH hOX hks hE hS hA (s_M_thereSet l D cs kf T O X a0 hg mq t_a0 b_hg (hO.sub (by decide))) kw_1724 kw_1726 ks_99 kw_13 kw_1727 (by decide +kernel) ⟨Nat.le_of_ble_eq_true rfl, Nat.le_of_ble_eq_true rfl⟩ (HT.recv (ci := 12) hkb hH t_a0 (hO.no t_a0 (by decide)) rfl) rfl rfl hl.1 (Nat.le_of_ble_eq_true rfl) dX12_isSetOf_2 ⟨Nat.le_of_ble_eq_true rfl, Nat.le_of_ble_eq_true rfl⟩) (fun v2 u H locs hz9 hH hS => ?_)
  obtain ⟨rfl, l_v2, u_v2⟩ := hz9
  have hH : HT D cs A T O X H := hH
  refine W.widen (k := 0) (n := 0) (Nat.le_of_ble_eq_true rfl) (Nat.le_of_ble_eq_true rfl) ?_
  refine lv_aload_n hx hb dX12_isSetOf_5 rfl (lv_at hl 0 rfl) ?_
  refine tk_i hH hS hA (tr_V (n := 0) (As := []) hx hb hml hown hts hkb hH hOX hks hE hS hA (s_M_ends l D cs kf T O X a0 hg mq t_a0 b_hg (hO.sub (by decide))) kw_1536 kw_1538 ks_78 kw_13 kw_1539 (by decide +kernel) ⟨Nat.le_of_ble_eq_true rfl, Nat.le_of_ble_eq_true rfl⟩ (HT.recv (ci := 12) hkb hH t_a0 (hO.no t_a0 (by decide)) rfl) rfl rfl hl.1 (Nat.le_of_ble_eq_true rfl) dX12_isSetOf_6 ⟨Nat.le_of_ble_eq_true rfl, Nat.le_of_ble_eq_true rfl⟩) (fun v6 u H locs hz9 hH hS => ?_)
  obtain ⟨rfl, l_v6, u_v6⟩ := hz9
  have hH : HT D cs A T O X H := hH
  refine W.widen (k := 0) (n := 0) (Nat.le_of_ble_eq_true rfl) (Nat.le_of_ble_eq_true rfl) ?_
  refine lv_iconst (v := (-1)) hx hb dX12_isSetOf_9 (by decide) ?_
  refine lv_ixor hx hb dX12_isSetOf_10 ?_
  refine lv_topi (fun v10 ev10 => ?_)
  refine lv_iand hx hb dX12_isSetOf_11 ?_
  refine lv_topi (fun v11 ev11 => ?_)
  have tv11 : 0 ≤ v11.toInt ∧ v11.toInt ≤ v2.toInt := by rw [ev11]; exact and_l (by omega)
  refine lv_iconst (v := (-1)) hx hb dX12_isSetOf_12 (by decide) ?_
  refine lv_ixor hx hb dX12_isSetOf_13 ?_
  refine lv_topi (fun v13 ev13 => ?_)
  refine lv_iand hx hb dX12_isSetOf_14 ?_
  refine lv_topi (fun v14 ev14 => ?_)
  have J23 : ∀ (k23_0 : Int32) (H : Heap) (locs : List Loc) (ls : Array Slot), (0 ≤ k23_0.toInt) → (k23_0.toInt ≤ 1) → HT D cs A T O X H → va_S A s.heap H locs → lv_has ls 2 [] → W p l e { frames := 3, cells := 0, slots := 0, locals := 65 } s m [.ref a0, .int x1].toArray below meth c H locs 0 0 (MQ below (Ti D cs (fun r u => u = (T, O, X) ∧ 0 ≤ r.toInt ∧ r.toInt ≤ 1) A) [.ref a0, .int x1].toArray s 0 0 A) (F0 m 23 ls [.int k23_0]) := by
    intro k23_0 H locs ls l_k23_0 u_k23_0 hH hS hl
    exact te_z hx hb hr hlocks (nar01 (by omega) (by omega)) hH hS (⟨rfl, by omega, by omega⟩) dX12_isSetOf_23
  refine lv_if_ne (tgt := 22) hx hb dX12_isSetOf_15 (by decide) (fun c15 => ?_) (fun c15 => ?_)
  · skip
    have tc15 := f_ne (k := 0) (by decide) c15
    refine lv_iconst (v := 0) hx hb dX12_isSetOf_22 (by decide) ?_
    exact J23 0 _ _ _ (by decide) (by decide) hH hS (lv_sub hl [] rfl)
  · skip
    have tc15 := f_eq (k := 0) (by decide) c15
    refine lv_iconst (v := 1) hx hb dX12_isSetOf_18 (by decide) ?_
    refine lv_goto (tgt := 23) hx hb dX12_isSetOf_19 (by decide) ?_
    exact J23 1 _ _ _ (by decide) (by decide) hH hS (lv_sub hl [] rfl)
