set_option maxHeartbeats 4000000 in
set_option maxRecDepth 100000 in
theorem s_M_together (l : Launch) (D : va_G) (cs : CS) (kf : KF) (T : TF) (O : List Nat) (X : va_W) (a0 hg mq : Nat) (x1 : Int32) (x2 : Int32) (t_a0 : T a0 = some (22, hg, mq)) (b_hg : hg < 90) (hO : okO T O [1, 2, 3, 8, 9, 22]) : TK l D cs kf yX12_together cX12_together 5 (some (.int)) { frames := 6, cells := 0, slots := 0, locals := 140 } [.ref a0, .int x1, .int x2] T O X (Ti D cs (fun r u => u = (T, O, X) ∧ -2 ≤ r.toInt ∧ r.toInt ≤ 1)) := by
  refine tk_of (by decide) (Nat.le_of_ble_eq_true rfl) (fun p e s m below meth c ls A H locs hx hb hr hml hown hts hlocks hnm hkb hH hS hA hOX hks hE hl => ?_)
  have hown : s.vm.findClass RX12 = some m.cls := hown
  have hl : lv_has ls 5 [(0, .ref a0), (1, .int x1), (2, .int x2)] := hl
  refine lv_aload_n hx hb dX12_together_0 rfl (lv_at hl 0 rfl) ?_
  refine lv_iconst (v := 0) hx hb dX12_together_1 (by decide) ?_
  refine t_put (ci := 12) (lst := ft12 hg mq) (v := .int 0) (ty := tyX12 0) (C := RX12) (F := TX12) (N := 36) hx hb hts uX12 tyX12 tyX12_ok nmX12 hown hkb hH hS t_a0 (hO.no t_a0 (by decide)) (fun _ => Iff.rfl) rfl rfl 0 (by decide) rfl (⟨_, rfl⟩) kw_1223 (fun _ h9 => h9) rfl (tyX12_ok 0 (by decide)) rfl rfl dX12_together_2 (fun H locs hH hS => ?_)
  refine lv_aload_n hx hb dX12_together_5 rfl (lv_at hl 0 rfl) ?_
  refine lv_iload_n hx hb dX12_together_6 rfl (lv_at hl 1 rfl) ?_
  refine lv_i2l hx hb dX12_together_7 rfl ?_
  refine tk_i hH hS hA (tr_V (n := 1) (As := [.long x1.toInt64]) hx hb hml hown hts hkb hH hOX hks hE hS hA (s_M_isGuide l D cs kf T O X a0 hg mq x1.toInt64 t_a0 b_hg (hO.sub (by decide))) kw_1470 kw_1472 ks_67 kw_13 kw_1473 (by decide +kernel) ⟨Nat.le_of_ble_eq_true rfl, Nat.le_of_ble_eq_true rfl⟩ (HT.recv (ci := 12) hkb hH t_a0 (hO.no t_a0 (by decide)) rfl) rfl rfl hl.1 (Nat.le_of_ble_eq_true rfl) dX12_together_8 ⟨Nat.le_of_ble_eq_true rfl, Nat.le_of_ble_eq_true rfl⟩) (fun v8 u H locs hz9 hH hS => ?_)
  obtain ⟨rfl, l_v8, u_v8, x_v80⟩ := hz9
  simp only [Int32.toInt_toInt64] at x_v80
  have hH : HT D cs A T O X H := hH
  refine W.widen (k := 0) (n := 0) (Nat.le_of_ble_eq_true rfl) (Nat.le_of_ble_eq_true rfl) ?_
  have J23 : ∀  (H : Heap) (locs : List Loc) (ls : Array Slot), HT D cs A T O X H → va_S A s.heap H locs → lv_has ls 5 [] → W p l e { frames := 6, cells := 0, slots := 0, locals := 140 } s m [.ref a0, .int x1, .int x2].toArray below meth c H locs 0 0 (MQ below (Ti D cs (fun r u => u = (T, O, X) ∧ -2 ≤ r.toInt ∧ r.toInt ≤ 1) A) [.ref a0, .int x1, .int x2].toArray s 0 0 A) (F0 m 23 ls []) := by
    intro  H locs ls  hH hS hl
    refine lv_bipush (v := (-2)) hx hb dX12_together_23 (by decide) ?_
    exact te_i hx hb hr hlocks hH hS (⟨rfl, by decide, by decide⟩) dX12_together_25
  refine lv_if_eq (tgt := 23) hx hb dX12_together_11 (by decide) (fun c11 => ?_) (fun c11 => ?_)
  · skip
    have tc11 := f_eq (k := 0) (by decide) c11
    clear x_v80
    exact J23  _ _ _  hH hS (lv_sub hl [] rfl)
  · skip
    have tc11 := f_ne (k := 0) (by decide) c11
    replace x_v80 := x_v80.resolve_left tc11
    refine lv_aload_n hx hb dX12_together_14 rfl (lv_at hl 0 rfl) ?_
    refine lv_iload_n hx hb dX12_together_15 rfl (lv_at hl 2 rfl) ?_
    refine lv_i2l hx hb dX12_together_16 rfl ?_
    refine tk_i hH hS hA (tr_V (n := 1) (As := [.long x2.toInt64]) hx hb hml hown hts hkb hH hOX hks hE hS hA (s_M_isGuide l D cs kf T O X a0 hg mq x2.toInt64 t_a0 b_hg (hO.sub (by decide))) kw_1470 kw_1472 ks_67 kw_13 kw_1473 (by decide +kernel) ⟨Nat.le_of_ble_eq_true rfl, Nat.le_of_ble_eq_true rfl⟩ (HT.recv (ci := 12) hkb hH t_a0 (hO.no t_a0 (by decide)) rfl) rfl rfl hl.1 (Nat.le_of_ble_eq_true rfl) dX12_together_17 ⟨Nat.le_of_ble_eq_true rfl, Nat.le_of_ble_eq_true rfl⟩) (fun v17 u H locs hz9 hH hS => ?_)
    obtain ⟨rfl, l_v17, u_v17, x_v170⟩ := hz9
    simp only [Int32.toInt_toInt64] at x_v170
    have hH : HT D cs A T O X H := hH
    refine W.widen (k := 0) (n := 0) (Nat.le_of_ble_eq_true rfl) (Nat.le_of_ble_eq_true rfl) ?_
    refine lv_if_ne (tgt := 26) hx hb dX12_together_20 (by decide) (fun c20 => ?_) (fun c20 => ?_)
    · skip
      have tc20 := f_ne (k := 0) (by decide) c20
      replace x_v170 := x_v170.resolve_left tc20
      refine lv_aload_n hx hb dX12_together_26 rfl (lv_at hl 0 rfl) ?_
      refine lv_iload_n hx hb dX12_together_27 rfl (lv_at hl 1 rfl) ?_
      refine tk_v hH hS hA (tr_V (n := 1) (As := [.int x1]) hx hb hml hown hts hkb hH hOX hks hE hS hA (s_M_laysClimbsOf l D cs kf T O X a0 hg mq x1 t_a0 b_hg (by omega) (by omega) (hO.sub (by decide))) kw_1644 kw_1646 ks_91 kw_13 kw_1647 (by decide +kernel) ⟨Nat.le_of_ble_eq_true rfl, Nat.le_of_ble_eq_true rfl⟩ (HT.recv (ci := 12) hkb hH t_a0 (hO.no t_a0 (by decide)) rfl) rfl rfl hl.1 (Nat.le_of_ble_eq_true rfl) dX12_together_28 ⟨Nat.le_of_ble_eq_true rfl, Nat.le_of_ble_eq_true rfl⟩) (fun u H locs hz9 hH hS => ?_)
      have hz9 : u = (T, O, X) := hz9
      subst hz9
      have hH : HT D cs A T O X H := hH
      refine W.widen (k := 0) (n := 0) (Nat.le_of_ble_eq_true rfl) (Nat.le_of_ble_eq_true rfl) ?_
      refine lv_iconst (v := 0) hx hb dX12_together_31 (by decide) ?_
      have J33 : ∀ (n : Nat) (p33_3 : Int32) (H : Heap) (locs : List Loc) (ls : Array Slot), (16384 - p33_3.toInt).toNat = n → (0 ≤ p33_3.toInt) → (p33_3.toInt ≤ 16384) → HT D cs A T O X H → va_S A s.heap H locs → lv_has ls 5 [(3, .int p33_3), (0, .ref a0), (2, .int x2)] → W p l e { frames := 6, cells := 0, slots := 0, locals := 140 } s m [.ref a0, .int x1, .int x2].toArray below meth c H locs 0 0 (MQ below (Ti D cs (fun r u => u = (T, O, X) ∧ -2 ≤ r.toInt ∧ r.toInt ≤ 1) A) [.ref a0, .int x1, .int x2].toArray s 0 0 A) (F0 m 33 ls []) := by
        intro n
        induction n using Nat.strongRecOn with
        | _ n ih33 =>
          intro p33_3 H locs ls hm33 l_p33_3 u_p33_3 hH hS hl
          refine lv_iload_n hx hb dX12_together_33 rfl (lv_at hl 0 rfl) ?_
          refine lv_iconst (v := 1) hx hb dX12_together_34 (by decide) ?_
          refine lv_aload_n hx hb dX12_together_35 rfl (lv_at hl 1 rfl) ?_
          refine t_get (ci := 12) (lst := ft12 hg mq) (C := RX12) (F := TX12) (N := 36) hx hb hts uX12 hown hkb hH t_a0 (hO.no t_a0 (by decide)) (fun _ h9 => h9) rfl rfl 1 (by decide) rfl kw_1224 (fun _ h9 => h9) dX12_together_36 (fun v9 h9 => ?_)
          obtain ⟨v36, rfl, t_v36⟩ := h9
          refine lv_iconst (v := 1) hx hb dX12_together_39 (by decide) ?_
          refine t_ild8 hx hb hkb hH t_v36 (hO.no t_v36 (by decide)) (by decide) (by decide) (by decide) dX12_together_40 (fun v40 h9 h8 => ?_)
          have q9 := (h8 rfl).1 rfl
          subst q9
          have eH9 : (nI (hg / 6)).toInt = (((hg / 6) : Nat) : Int) := nI_toInt (by omega)
          refine lv_ishl hx hb dX12_together_41 ?_
          refine lv_topi (fun v41 ev41 => ?_)
          have tv41 : 1 ≤ v41.toInt ∧ v41.toInt ≤ 16384 := by rw [ev41]; exact shl_b 14 (by decide) (by omega) (by omega)
          refine lv_icmp_ge (tgt := 58) hx hb dX12_together_42 (by decide) (fun c42 => ?_) (fun c42 => ?_)
          · skip
            have fuc42 := full_i p33_3
            have fvc42 := full_i v41
            have tc42 := g_le c42
            refine lv_iconst (v := 0) hx hb dX12_together_58 (by decide) ?_
            have J60 : ∀ (n : Nat) (p60_3 : Int32) (H : Heap) (locs : List Loc) (ls : Array Slot), (16384 - p60_3.toInt).toNat = n → (0 ≤ p60_3.toInt) → (p60_3.toInt ≤ 16384) → HT D cs A T O X H → va_S A s.heap H locs → lv_has ls 5 [(3, .int p60_3), (0, .ref a0), (2, .int x2)] → W p l e { frames := 6, cells := 0, slots := 0, locals := 140 } s m [.ref a0, .int x1, .int x2].toArray below meth c H locs 0 0 (MQ below (Ti D cs (fun r u => u = (T, O, X) ∧ -2 ≤ r.toInt ∧ r.toInt ≤ 1) A) [.ref a0, .int x1, .int x2].toArray s 0 0 A) (F0 m 60 ls []) := by
              intro n
              induction n using Nat.strongRecOn with
              | _ n ih60 =>
                intro p60_3 H locs ls hm60 l_p60_3 u_p60_3 hH hS hl
                refine lv_iload_n hx hb dX12_together_60 rfl (lv_at hl 0 rfl) ?_
                refine lv_iconst (v := 1) hx hb dX12_together_61 (by decide) ?_
                refine lv_aload_n hx hb dX12_together_62 rfl (lv_at hl 1 rfl) ?_
                refine t_get (ci := 12) (lst := ft12 hg mq) (C := RX12) (F := TX12) (N := 36) hx hb hts uX12 hown hkb hH t_a0 (hO.no t_a0 (by decide)) (fun _ h9 => h9) rfl rfl 1 (by decide) rfl kw_1224 (fun _ h9 => h9) dX12_together_63 (fun v9 h9 => ?_)
                obtain ⟨v63, rfl, t_v63⟩ := h9
                refine lv_iconst (v := 1) hx hb dX12_together_66 (by decide) ?_
                refine t_ild8 hx hb hkb hH t_v63 (hO.no t_v63 (by decide)) (by decide) (by decide) (by decide) dX12_together_67 (fun v67 h9 h8 => ?_)
                have q9 := (h8 rfl).1 rfl
                subst q9
                have eH9 : (nI (hg / 6)).toInt = (((hg / 6) : Nat) : Int) := nI_toInt (by omega)
                refine lv_ishl hx hb dX12_together_68 ?_
                refine lv_topi (fun v68 ev68 => ?_)
                have tv68 : 1 ≤ v68.toInt ∧ v68.toInt ≤ 16384 := by rw [ev68]; exact shl_b 14 (by decide) (by omega) (by omega)
                refine lv_icmp_ge (tgt := 102) hx hb dX12_together_69 (by decide) (fun c69 => ?_) (fun c69 => ?_)
                · skip
                  have fuc69 := full_i p60_3
                  have fvc69 := full_i v68
                  have tc69 := g_le c69
                  refine lv_aload_n hx hb dX12_together_102 rfl (lv_at hl 1 rfl) ?_
                  refine lv_iload_n hx hb dX12_together_103 rfl (lv_at hl 2 rfl) ?_
                  refine tk_v hH hS hA (tr_V (n := 1) (As := [.int x2]) hx hb hml hown hts hkb hH hOX hks hE hS hA (s_M_laysGuide l D cs kf T O X a0 hg mq x2 t_a0 b_hg (by omega) (by omega) (hO.sub (by decide))) kw_1502 kw_1504 ks_71 kw_13 kw_1505 (by decide +kernel) ⟨Nat.le_of_ble_eq_true rfl, Nat.le_of_ble_eq_true rfl⟩ (HT.recv (ci := 12) hkb hH t_a0 (hO.no t_a0 (by decide)) rfl) rfl rfl hl.1 (Nat.le_of_ble_eq_true rfl) dX12_together_104 ⟨Nat.le_of_ble_eq_true rfl, Nat.le_of_ble_eq_true rfl⟩) (fun u H locs hz9 hH hS => ?_)
                  have hz9 : u = (T, O, X) := hz9
                  subst hz9
                  have hH : HT D cs A T O X H := hH
                  refine W.widen (k := 0) (n := 0) (Nat.le_of_ble_eq_true rfl) (Nat.le_of_ble_eq_true rfl) ?_
                  refine lv_aload_n hx hb dX12_together_107 rfl (lv_at hl 1 rfl) ?_
                  refine tk_i hH hS hA (tr_V (n := 0) (As := []) hx hb hml hown hts hkb hH hOX hks hE hS hA (s_M_openSet l D cs kf T O X a0 hg mq t_a0 b_hg (hO.sub (by decide))) kw_1510 kw_1512 ks_73 kw_13 kw_1513 (by decide +kernel) ⟨Nat.le_of_ble_eq_true rfl, Nat.le_of_ble_eq_true rfl⟩ (HT.recv (ci := 12) hkb hH t_a0 (hO.no t_a0 (by decide)) rfl) rfl rfl hl.1 (Nat.le_of_ble_eq_true rfl) dX12_together_108 ⟨Nat.le_of_ble_eq_true rfl, Nat.le_of_ble_eq_true rfl⟩) (fun v108 u H locs hz9 hH hS => ?_)
                  obtain ⟨rfl, l_v108, u_v108⟩ := hz9
                  have hH : HT D cs A T O X H := hH
                  refine W.widen (k := 0) (n := 0) (Nat.le_of_ble_eq_true rfl) (Nat.le_of_ble_eq_true rfl) ?_
                  refine lv_istore_n (lv' := [(3, .int v108), (0, .ref a0), (2, .int x2)]) hx hb dX12_together_111 rfl hl (by decide) rfl (fun ls hl => ?_)
                  refine lv_iconst (v := 0) hx hb dX12_together_112 (by decide) ?_
                  have J115 : ∀ (n : Nat) (p115_4 : Int32) (H : Heap) (locs : List Loc) (ls : Array Slot), (16384 - p115_4.toInt).toNat = n → (0 ≤ p115_4.toInt) → (p115_4.toInt ≤ 16384) → HT D cs A T O X H → va_S A s.heap H locs → lv_has ls 5 [(4, .int p115_4), (3, .int v108), (0, .ref a0)] → W p l e { frames := 6, cells := 0, slots := 0, locals := 140 } s m [.ref a0, .int x1, .int x2].toArray below meth c H locs 0 0 (MQ below (Ti D cs (fun r u => u = (T, O, X) ∧ -2 ≤ r.toInt ∧ r.toInt ≤ 1) A) [.ref a0, .int x1, .int x2].toArray s 0 0 A) (F0 m 115 ls []) := by
                    intro n
                    induction n using Nat.strongRecOn with
                    | _ n ih115 =>
                      intro p115_4 H locs ls hm115 l_p115_4 u_p115_4 hH hS hl
                      refine lv_iload hx hb dX12_together_115 (lv_at hl 0 rfl) ?_
                      refine lv_iconst (v := 1) hx hb dX12_together_117 (by decide) ?_
                      refine lv_aload_n hx hb dX12_together_118 rfl (lv_at hl 2 rfl) ?_
                      refine t_get (ci := 12) (lst := ft12 hg mq) (C := RX12) (F := TX12) (N := 36) hx hb hts uX12 hown hkb hH t_a0 (hO.no t_a0 (by decide)) (fun _ h9 => h9) rfl rfl 1 (by decide) rfl kw_1224 (fun _ h9 => h9) dX12_together_119 (fun v9 h9 => ?_)
                      obtain ⟨v119, rfl, t_v119⟩ := h9
                      refine lv_iconst (v := 1) hx hb dX12_together_122 (by decide) ?_
                      refine t_ild8 hx hb hkb hH t_v119 (hO.no t_v119 (by decide)) (by decide) (by decide) (by decide) dX12_together_123 (fun v123 h9 h8 => ?_)
                      have q9 := (h8 rfl).1 rfl
                      subst q9
                      have eH9 : (nI (hg / 6)).toInt = (((hg / 6) : Nat) : Int) := nI_toInt (by omega)
                      refine lv_ishl hx hb dX12_together_124 ?_
                      refine lv_topi (fun v124 ev124 => ?_)
                      have tv124 : 1 ≤ v124.toInt ∧ v124.toInt ≤ 16384 := by rw [ev124]; exact shl_b 14 (by decide) (by omega) (by omega)
                      refine lv_icmp_ge (tgt := 159) hx hb dX12_together_125 (by decide) (fun c125 => ?_) (fun c125 => ?_)
                      · skip
                        have fuc125 := full_i p115_4
                        have fvc125 := full_i v124
                        have tc125 := g_le c125
                        refine lv_iconst (v := 0) hx hb dX12_together_159 (by decide) ?_
                        exact te_i hx hb hr hlocks hH hS (⟨rfl, by decide, by decide⟩) dX12_together_160
                      · skip
                        have fuc125 := full_i p115_4
                        have fvc125 := full_i v124
                        have tc125 := g_nle c125
                        refine lv_aload_n hx hb dX12_together_128 rfl (lv_at hl 2 rfl) ?_
                        refine t_get (ci := 12) (lst := ft12 hg mq) (C := RX12) (F := TX12) (N := 36) hx hb hts uX12 hown hkb hH t_a0 (hO.no t_a0 (by decide)) (fun _ h9 => h9) rfl rfl 27 (by decide) rfl kw_1250 (fun _ h9 => h9) dX12_together_129 (fun v9 h9 => ?_)
                        obtain ⟨v129, rfl, t_v129⟩ := h9
                        refine lv_iload hx hb dX12_together_132 (lv_at hl 0 rfl) ?_
                        refine t_zld hx hb hkb hH t_v129 (hO.no t_v129 (by decide)) (by omega) (by omega) dX12_together_134 (fun v134 => ?_)
                        have J153 : ∀  (H : Heap) (locs : List Loc) (ls : Array Slot), HT D cs A T O X H → va_S A s.heap H locs → lv_has ls 5 [(4, .int p115_4), (3, .int v108), (0, .ref a0)] → W p l e { frames := 6, cells := 0, slots := 0, locals := 140 } s m [.ref a0, .int x1, .int x2].toArray below meth c H locs 0 0 (MQ below (Ti D cs (fun r u => u = (T, O, X) ∧ -2 ≤ r.toInt ∧ r.toInt ≤ 1) A) [.ref a0, .int x1, .int x2].toArray s 0 0 A) (F0 m 153 ls []) := by
                          intro  H locs ls  hH hS hl
                          obtain ⟨v153, ev153⟩ : ∃ y : Int32, y = p115_4 + 1 := ⟨_, rfl⟩
                          have tv153 : v153.toInt = p115_4.toInt + (1) := by rw [ev153]; exact add_i rfl (by decide) (by omega) (by omega)
                          refine lv_iinc (v := v153) (lv' := [(4, .int v153), (3, .int v108), (0, .ref a0)]) hx hb dX12_together_153 hl (k := 0) rfl (by rw [ev153]; rfl) (by decide) rfl (fun ls hl => ?_)
                          refine lv_goto (tgt := 115) hx hb dX12_together_156 (by decide) ?_
                          exact ih115 _ (by omega) v153 _ _ _ rfl (by omega) (by omega) hH hS (lv_sub hl [0, 1, 2] rfl)
                        refine lv_if_eq (tgt := 153) hx hb dX12_together_135 (by decide) (fun c135 => ?_) (fun c135 => ?_)
                        · skip
                          have tc135 := f_eq (k := 0) (by decide) c135
                          exact J153  _ _ _  hH hS (lv_sub hl [0, 1, 2] rfl)
                        · skip
                          have tc135 := f_ne (k := 0) (by decide) c135
                          refine lv_aload_n hx hb dX12_together_138 rfl (lv_at hl 2 rfl) ?_
                          refine lv_iload_n hx hb dX12_together_139 rfl (lv_at hl 1 rfl) ?_
                          refine lv_iload hx hb dX12_together_140 (lv_at hl 0 rfl) ?_
                          refine lv_iconst (v := (-1)) hx hb dX12_together_142 (by decide) ?_
                          refine lv_ixor hx hb dX12_together_143 ?_
                          refine lv_topi (fun v143 ev143 => ?_)
                          refine lv_iand hx hb dX12_together_144 ?_
                          refine lv_topi (fun v144 ev144 => ?_)
                          have tv144 : 0 ≤ v144.toInt ∧ v144.toInt ≤ v108.toInt := by rw [ev144]; exact and_l (by omega)
                          refine tk_i hH hS hA (tr_V (n := 1) (As := [.int v144]) hx hb hml hown hts hkb hH hOX hks hE hS hA (s_M_hasClimb l D cs kf T O X a0 hg mq v144 t_a0 b_hg (hO.sub (by decide))) kw_1660 kw_1662 ks_94 kw_13 kw_1663 (by decide +kernel) ⟨Nat.le_of_ble_eq_true rfl, Nat.le_of_ble_eq_true rfl⟩ (HT.recv (ci := 12) hkb hH t_a0 (hO.no t_a0 (by decide)) rfl) rfl rfl hl.1 (Nat.le_of_ble_eq_true rfl) dX12_together_145 ⟨Nat.le_of_ble_eq_true rfl, Nat.le_of_ble_eq_true rfl⟩) (fun v145 u H locs hz9 hH hS => ?_)
                          obtain ⟨rfl, l_v145, u_v145⟩ := hz9
                          have hH : HT D cs A T O X H := hH
                          refine W.widen (k := 0) (n := 0) (Nat.le_of_ble_eq_true rfl) (Nat.le_of_ble_eq_true rfl) ?_
                          refine lv_if_eq (tgt := 153) hx hb dX12_together_148 (by decide) (fun c148 => ?_) (fun c148 => ?_)
                          · skip
                            have tc148 := f_eq (k := 0) (by decide) c148
                            exact J153  _ _ _  hH hS (lv_sub hl [0, 1, 2] rfl)
                          · skip
                            have tc148 := f_ne (k := 0) (by decide) c148
                            refine lv_iconst (v := 1) hx hb dX12_together_151 (by decide) ?_
                            exact te_i hx hb hr hlocks hH hS (⟨rfl, by decide, by decide⟩) dX12_together_152
                  refine lv_istore (lv' := [(4, .int 0), (3, .int v108), (0, .ref a0), (2, .int x2)]) hx hb dX12_together_113 hl (by decide) rfl (fun ls hl => ?_)
                  exact J115 _ 0 _ _ _ rfl (by decide) (by decide) hH hS (lv_sub hl [0, 1, 2] rfl)
                · skip
                  have fuc69 := full_i p60_3
                  have fvc69 := full_i v68
                  have tc69 := g_nle c69
                  refine lv_aload_n hx hb dX12_together_72 rfl (lv_at hl 1 rfl) ?_
                  refine lv_iload_n hx hb dX12_together_73 rfl (lv_at hl 0 rfl) ?_
                  refine tk_l hH hS hA (tr_V (n := 1) (As := [.int p60_3]) hx hb hml hown hts hkb hH hOX hks hE hS hA (s_M_climbsBy l D cs kf T O X a0 hg mq p60_3 t_a0 b_hg (by omega) (by omega) (hO.sub (by decide))) kw_1634 kw_1636 ks_90 kw_13 kw_1637 (by decide +kernel) ⟨Nat.le_of_ble_eq_true rfl, Nat.le_of_ble_eq_true rfl⟩ (HT.recv (ci := 12) hkb hH t_a0 (hO.no t_a0 (by decide)) rfl) rfl rfl hl.1 (Nat.le_of_ble_eq_true rfl) dX12_together_74 ⟨Nat.le_of_ble_eq_true rfl, Nat.le_of_ble_eq_true rfl⟩) (fun v74 u H locs hz9 hH hS => ?_)
                  have hz9 : u = (T, O, X) := hz9
                  subst hz9
                  have hH : HT D cs A T O X H := hH
                  refine W.widen (k := 0) (n := 0) (Nat.le_of_ble_eq_true rfl) (Nat.le_of_ble_eq_true rfl) ?_
                  refine lv_lconst (v := 0) hx hb dX12_together_77 (by decide) ?_
                  refine W.lcmp hx hb dX12_together_78 ?_
                  have J96 : ∀  (H : Heap) (locs : List Loc) (ls : Array Slot), HT D cs A T O X H → va_S A s.heap H locs → lv_has ls 5 [(3, .int p60_3), (0, .ref a0), (2, .int x2)] → W p l e { frames := 6, cells := 0, slots := 0, locals := 140 } s m [.ref a0, .int x1, .int x2].toArray below meth c H locs 0 0 (MQ below (Ti D cs (fun r u => u = (T, O, X) ∧ -2 ≤ r.toInt ∧ r.toInt ≤ 1) A) [.ref a0, .int x1, .int x2].toArray s 0 0 A) (F0 m 96 ls []) := by
                    intro  H locs ls  hH hS hl
                    obtain ⟨v96, ev96⟩ : ∃ y : Int32, y = p60_3 + 1 := ⟨_, rfl⟩
                    have tv96 : v96.toInt = p60_3.toInt + (1) := by rw [ev96]; exact add_i rfl (by decide) (by omega) (by omega)
                    refine lv_iinc (v := v96) (lv' := [(3, .int v96), (0, .ref a0), (2, .int x2)]) hx hb dX12_together_96 hl (k := 0) rfl (by rw [ev96]; rfl) (by decide) rfl (fun ls hl => ?_)
                    refine lv_goto (tgt := 60) hx hb dX12_together_99 (by decide) ?_
                    exact ih60 _ (by omega) v96 _ _ _ rfl (by omega) (by omega) hH hS (lv_sub hl [0, 1, 2] rfl)
                  refine lv_if_le (tgt := 96) hx hb dX12_together_79 (by decide) (fun c79 => ?_) (fun c79 => ?_)
                  · skip
                    have tc79 := le_l c79
                    have kc79_0 : (0 : Int64).toInt = 0 := by decide
                    exact J96  _ _ _  hH hS (lv_sub hl [0, 1, 2] rfl)
                  · skip
                    have tc79 := nle_l c79
                    have kc79_0 : (0 : Int64).toInt = 0 := by decide
                    refine lv_aload_n hx hb dX12_together_82 rfl (lv_at hl 1 rfl) ?_
                    refine t_get (ci := 12) (lst := ft12 hg mq) (C := RX12) (F := TX12) (N := 36) hx hb hts uX12 hown hkb hH t_a0 (hO.no t_a0 (by decide)) (fun _ h9 => h9) rfl rfl 27 (by decide) rfl kw_1250 (fun _ h9 => h9) dX12_together_83 (fun v9 h9 => ?_)
                    obtain ⟨v83, rfl, t_v83⟩ := h9
                    refine lv_iload_n hx hb dX12_together_86 rfl (lv_at hl 0 rfl) ?_
                    refine lv_aload_n hx hb dX12_together_87 rfl (lv_at hl 1 rfl) ?_
                    refine tk_i hH hS hA (tr_V (n := 0) (As := []) hx hb hml hown hts hkb hH hOX hks hE hS hA (s_M_ends l D cs kf T O X a0 hg mq t_a0 b_hg (hO.sub (by decide))) kw_1536 kw_1538 ks_78 kw_13 kw_1539 (by decide +kernel) ⟨Nat.le_of_ble_eq_true rfl, Nat.le_of_ble_eq_true rfl⟩ (HT.recv (ci := 12) hkb hH t_a0 (hO.no t_a0 (by decide)) rfl) rfl rfl hl.1 (Nat.le_of_ble_eq_true rfl) dX12_together_88 ⟨Nat.le_of_ble_eq_true rfl, Nat.le_of_ble_eq_true rfl⟩) (fun v88 u H locs hz9 hH hS => ?_)
                    obtain ⟨rfl, l_v88, u_v88⟩ := hz9
                    have hH : HT D cs A T O X H := hH
                    refine W.widen (k := 0) (n := 0) (Nat.le_of_ble_eq_true rfl) (Nat.le_of_ble_eq_true rfl) ?_
                    refine lv_iconst (v := (-1)) hx hb dX12_together_91 (by decide) ?_
                    refine lv_ixor hx hb dX12_together_92 ?_
                    refine lv_topi (fun v92 ev92 => ?_)
                    refine lv_iand hx hb dX12_together_93 ?_
                    refine lv_topi (fun v93 ev93 => ?_)
                    have tv93 : 0 ≤ v93.toInt ∧ v93.toInt ≤ p60_3.toInt := by rw [ev93]; exact and_l (by omega)
                    refine lv_iconst (v := 1) hx hb dX12_together_94 (by decide) ?_
                    refine t_zst hx hb hkb hH hS t_v83 (hO.no t_v83 (by decide)) (by omega) (by omega) dX12_together_95 (fun H locs hH hS => ?_)
                    exact J96  _ _ _  hH hS (lv_sub hl [0, 1, 2] rfl)
            refine lv_istore_n (lv' := [(3, .int 0), (0, .ref a0), (2, .int x2)]) hx hb dX12_together_59 rfl hl (by decide) rfl (fun ls hl => ?_)
            exact J60 _ 0 _ _ _ rfl (by decide) (by decide) hH hS (lv_sub hl [0, 1, 2] rfl)
          · skip
            have fuc42 := full_i p33_3
            have fvc42 := full_i v41
            have tc42 := g_nle c42
            refine lv_aload_n hx hb dX12_together_45 rfl (lv_at hl 1 rfl) ?_
            refine t_get (ci := 12) (lst := ft12 hg mq) (C := RX12) (F := TX12) (N := 36) hx hb hts uX12 hown hkb hH t_a0 (hO.no t_a0 (by decide)) (fun _ h9 => h9) rfl rfl 27 (by decide) rfl kw_1250 (fun _ h9 => h9) dX12_together_46 (fun v9 h9 => ?_)
            obtain ⟨v46, rfl, t_v46⟩ := h9
            refine lv_iload_n hx hb dX12_together_49 rfl (lv_at hl 0 rfl) ?_
            refine lv_iconst (v := 0) hx hb dX12_together_50 (by decide) ?_
            refine t_zst hx hb hkb hH hS t_v46 (hO.no t_v46 (by decide)) (by omega) (by omega) dX12_together_51 (fun H locs hH hS => ?_)
            obtain ⟨v52, ev52⟩ : ∃ y : Int32, y = p33_3 + 1 := ⟨_, rfl⟩
            have tv52 : v52.toInt = p33_3.toInt + (1) := by rw [ev52]; exact add_i rfl (by decide) (by omega) (by omega)
            refine lv_iinc (v := v52) (lv' := [(3, .int v52), (0, .ref a0), (2, .int x2)]) hx hb dX12_together_52 hl (k := 0) rfl (by rw [ev52]; rfl) (by decide) rfl (fun ls hl => ?_)
            refine lv_goto (tgt := 33) hx hb dX12_together_55 (by decide) ?_
            exact ih33 _ (by omega) v52 _ _ _ rfl (by omega) (by omega) hH hS (lv_sub hl [0, 1, 2] rfl)
      refine lv_istore_n (lv' := [(3, .int 0), (0, .ref a0), (1, .int x1), (2, .int x2)]) hx hb dX12_together_32 rfl hl (by decide) rfl (fun ls hl => ?_)
      exact J33 _ 0 _ _ _ rfl (by decide) (by decide) hH hS (lv_sub hl [0, 1, 3] rfl)
    · skip
      have tc20 := f_eq (k := 0) (by decide) c20
      clear x_v170
      exact J23  _ _ _  hH hS (lv_sub hl [] rfl)
set_option maxHeartbeats 4000000 in
set_option maxRecDepth 100000 in
theorem s_M_idle (l : Launch) (D : va_G) (cs : CS) (kf : KF) (T : TF) (O : List Nat) (X : va_W) (a0 hg mq : Nat) (x1 : Int32) (t_a0 : T a0 = some (22, hg, mq)) (b_hg : hg < 90) (hO : okO T O [1, 2, 8, 9, 22]) : TK l D cs kf yX12_idle cX12_idle 4 (some (.int)) { frames := 6, cells := 0, slots := 0, locals := 140 } [.ref a0, .int x1] T O X (Ti D cs (fun r u => u = (T, O, X) ∧ -2 ≤ r.toInt ∧ r.toInt ≤ 16383)) := by
  refine tk_of (by decide) (Nat.le_of_ble_eq_true rfl) (fun p e s m below meth c ls A H locs hx hb hr hml hown hts hlocks hnm hkb hH hS hA hOX hks hE hl => ?_)
  have hown : s.vm.findClass RX12 = some m.cls := hown
  have hl : lv_has ls 4 [(0, .ref a0), (1, .int x1)] := hl
  refine lv_aload_n hx hb dX12_idle_0 rfl (lv_at hl 0 rfl) ?_
  refine lv_iconst (v := 0) hx hb dX12_idle_1 (by decide) ?_
  refine t_put (ci := 12) (lst := ft12 hg mq) (v := .int 0) (ty := tyX12 0) (C := RX12) (F := TX12) (N := 36) hx hb hts uX12 tyX12 tyX12_ok nmX12 hown hkb hH hS t_a0 (hO.no t_a0 (by decide)) (fun _ => Iff.rfl) rfl rfl 0 (by decide) rfl (⟨_, rfl⟩) kw_1223 (fun _ h9 => h9) rfl (tyX12_ok 0 (by decide)) rfl rfl dX12_idle_2 (fun H locs hH hS => ?_)
  refine lv_aload_n hx hb dX12_idle_5 rfl (lv_at hl 0 rfl) ?_
  refine lv_iload_n hx hb dX12_idle_6 rfl (lv_at hl 1 rfl) ?_
  refine lv_i2l hx hb dX12_idle_7 rfl ?_
  refine tk_i hH hS hA (tr_V (n := 1) (As := [.long x1.toInt64]) hx hb hml hown hts hkb hH hOX hks hE hS hA (s_M_isGuide l D cs kf T O X a0 hg mq x1.toInt64 t_a0 b_hg (hO.sub (by decide))) kw_1470 kw_1472 ks_67 kw_13 kw_1473 (by decide +kernel) ⟨Nat.le_of_ble_eq_true rfl, Nat.le_of_ble_eq_true rfl⟩ (HT.recv (ci := 12) hkb hH t_a0 (hO.no t_a0 (by decide)) rfl) rfl rfl hl.1 (Nat.le_of_ble_eq_true rfl) dX12_idle_8 ⟨Nat.le_of_ble_eq_true rfl, Nat.le_of_ble_eq_true rfl⟩) (fun v8 u H locs hz9 hH hS => ?_)
  obtain ⟨rfl, l_v8, u_v8, x_v80⟩ := hz9
  simp only [Int32.toInt_toInt64] at x_v80
  have hH : HT D cs A T O X H := hH
  refine W.widen (k := 0) (n := 0) (Nat.le_of_ble_eq_true rfl) (Nat.le_of_ble_eq_true rfl) ?_
  refine lv_if_ne (tgt := 17) hx hb dX12_idle_11 (by decide) (fun c11 => ?_) (fun c11 => ?_)
  · skip
    have tc11 := f_ne (k := 0) (by decide) c11
    replace x_v80 := x_v80.resolve_left tc11
    refine lv_aload_n hx hb dX12_idle_17 rfl (lv_at hl 0 rfl) ?_
    refine lv_iload_n hx hb dX12_idle_18 rfl (lv_at hl 1 rfl) ?_
    refine tk_v hH hS hA (tr_V (n := 1) (As := [.int x1]) hx hb hml hown hts hkb hH hOX hks hE hS hA (s_M_laysClimbsOf l D cs kf T O X a0 hg mq x1 t_a0 b_hg (by omega) (by omega) (hO.sub (by decide))) kw_1644 kw_1646 ks_91 kw_13 kw_1647 (by decide +kernel) ⟨Nat.le_of_ble_eq_true rfl, Nat.le_of_ble_eq_true rfl⟩ (HT.recv (ci := 12) hkb hH t_a0 (hO.no t_a0 (by decide)) rfl) rfl rfl hl.1 (Nat.le_of_ble_eq_true rfl) dX12_idle_19 ⟨Nat.le_of_ble_eq_true rfl, Nat.le_of_ble_eq_true rfl⟩) (fun u H locs hz9 hH hS => ?_)
    have hz9 : u = (T, O, X) := hz9
    subst hz9
    have hH : HT D cs A T O X H := hH
    refine W.widen (k := 0) (n := 0) (Nat.le_of_ble_eq_true rfl) (Nat.le_of_ble_eq_true rfl) ?_
    refine lv_iconst (v := 0) hx hb dX12_idle_22 (by decide) ?_
    refine lv_istore_n (lv' := [(2, .int 0), (0, .ref a0), (1, .int x1)]) hx hb dX12_idle_23 rfl hl (by decide) rfl (fun ls hl => ?_)
    refine lv_iconst (v := 0) hx hb dX12_idle_24 (by decide) ?_
    have J26 : ∀ (n : Nat) (p26_3 : Int32) (p26_2 : Int32) (H : Heap) (locs : List Loc) (ls : Array Slot), (16384 - p26_3.toInt).toNat = n → (0 ≤ p26_3.toInt) → (p26_3.toInt ≤ 16384) → (0 ≤ p26_2.toInt) → (p26_2.toInt ≤ 16383) → HT D cs A T O X H → va_S A s.heap H locs → lv_has ls 4 [(3, .int p26_3), (2, .int p26_2), (0, .ref a0)] → W p l e { frames := 6, cells := 0, slots := 0, locals := 140 } s m [.ref a0, .int x1].toArray below meth c H locs 0 0 (MQ below (Ti D cs (fun r u => u = (T, O, X) ∧ -2 ≤ r.toInt ∧ r.toInt ≤ 16383) A) [.ref a0, .int x1].toArray s 0 0 A) (F0 m 26 ls []) := by
      intro n
      induction n using Nat.strongRecOn with
      | _ n ih26 =>
        intro p26_3 p26_2 H locs ls hm26 l_p26_3 u_p26_3 l_p26_2 u_p26_2 hH hS hl
        refine lv_iload_n hx hb dX12_idle_26 rfl (lv_at hl 0 rfl) ?_
        refine lv_iconst (v := 1) hx hb dX12_idle_27 (by decide) ?_
        refine lv_aload_n hx hb dX12_idle_28 rfl (lv_at hl 2 rfl) ?_
        refine t_get (ci := 12) (lst := ft12 hg mq) (C := RX12) (F := TX12) (N := 36) hx hb hts uX12 hown hkb hH t_a0 (hO.no t_a0 (by decide)) (fun _ h9 => h9) rfl rfl 1 (by decide) rfl kw_1224 (fun _ h9 => h9) dX12_idle_29 (fun v9 h9 => ?_)
        obtain ⟨v29, rfl, t_v29⟩ := h9
        refine lv_iconst (v := 1) hx hb dX12_idle_32 (by decide) ?_
        refine t_ild8 hx hb hkb hH t_v29 (hO.no t_v29 (by decide)) (by decide) (by decide) (by decide) dX12_idle_33 (fun v33 h9 h8 => ?_)
        have q9 := (h8 rfl).1 rfl
        subst q9
        have eH9 : (nI (hg / 6)).toInt = (((hg / 6) : Nat) : Int) := nI_toInt (by omega)
        refine lv_ishl hx hb dX12_idle_34 ?_
        refine lv_topi (fun v34 ev34 => ?_)
        have tv34 : 1 ≤ v34.toInt ∧ v34.toInt ≤ 16384 := by rw [ev34]; exact shl_b 14 (by decide) (by omega) (by omega)
        refine lv_icmp_ge (tgt := 58) hx hb dX12_idle_35 (by decide) (fun c35 => ?_) (fun c35 => ?_)
        · skip
          have fuc35 := full_i p26_3
          have fvc35 := full_i v34
          have tc35 := g_le c35
          refine lv_aload_n hx hb dX12_idle_58 rfl (lv_at hl 2 rfl) ?_
          refine tk_i hH hS hA (tr_V (n := 0) (As := []) hx hb hml hown hts hkb hH hOX hks hE hS hA (s_M_openSet l D cs kf T O X a0 hg mq t_a0 b_hg (hO.sub (by decide))) kw_1510 kw_1512 ks_73 kw_13 kw_1513 (by decide +kernel) ⟨Nat.le_of_ble_eq_true rfl, Nat.le_of_ble_eq_true rfl⟩ (HT.recv (ci := 12) hkb hH t_a0 (hO.no t_a0 (by decide)) rfl) rfl rfl hl.1 (Nat.le_of_ble_eq_true rfl) dX12_idle_59 ⟨Nat.le_of_ble_eq_true rfl, Nat.le_of_ble_eq_true rfl⟩) (fun v59 u H locs hz9 hH hS => ?_)
          obtain ⟨rfl, l_v59, u_v59⟩ := hz9
          have hH : HT D cs A T O X H := hH
          refine W.widen (k := 0) (n := 0) (Nat.le_of_ble_eq_true rfl) (Nat.le_of_ble_eq_true rfl) ?_
          refine lv_iload_n hx hb dX12_idle_62 rfl (lv_at hl 1 rfl) ?_
          refine lv_iconst (v := (-1)) hx hb dX12_idle_63 (by decide) ?_
          refine lv_ixor hx hb dX12_idle_64 ?_
          refine lv_topi (fun v64 ev64 => ?_)
          refine lv_iand hx hb dX12_idle_65 ?_
          refine lv_topi (fun v65 ev65 => ?_)
          have tv65 : 0 ≤ v65.toInt ∧ v65.toInt ≤ v59.toInt := by rw [ev65]; exact and_l (by omega)
          exact te_i hx hb hr hlocks hH hS (⟨rfl, by omega, by omega⟩) dX12_idle_66
        · skip
          have fuc35 := full_i p26_3
          have fvc35 := full_i v34
          have tc35 := g_nle c35
          refine lv_aload_n hx hb dX12_idle_38 rfl (lv_at hl 2 rfl) ?_
          refine lv_iload_n hx hb dX12_idle_39 rfl (lv_at hl 0 rfl) ?_
          refine tk_l hH hS hA (tr_V (n := 1) (As := [.int p26_3]) hx hb hml hown hts hkb hH hOX hks hE hS hA (s_M_climbsBy l D cs kf T O X a0 hg mq p26_3 t_a0 b_hg (by omega) (by omega) (hO.sub (by decide))) kw_1634 kw_1636 ks_90 kw_13 kw_1637 (by decide +kernel) ⟨Nat.le_of_ble_eq_true rfl, Nat.le_of_ble_eq_true rfl⟩ (HT.recv (ci := 12) hkb hH t_a0 (hO.no t_a0 (by decide)) rfl) rfl rfl hl.1 (Nat.le_of_ble_eq_true rfl) dX12_idle_40 ⟨Nat.le_of_ble_eq_true rfl, Nat.le_of_ble_eq_true rfl⟩) (fun v40 u H locs hz9 hH hS => ?_)
          have hz9 : u = (T, O, X) := hz9
          subst hz9
          have hH : HT D cs A T O X H := hH
          refine W.widen (k := 0) (n := 0) (Nat.le_of_ble_eq_true rfl) (Nat.le_of_ble_eq_true rfl) ?_
          refine lv_lconst (v := 0) hx hb dX12_idle_43 (by decide) ?_
          refine W.lcmp hx hb dX12_idle_44 ?_
          have J52 : ∀ (p52_2 : Int32) (H : Heap) (locs : List Loc) (ls : Array Slot), (0 ≤ p52_2.toInt) → (p52_2.toInt ≤ 16383) → HT D cs A T O X H → va_S A s.heap H locs → lv_has ls 4 [(3, .int p26_3), (2, .int p52_2), (0, .ref a0)] → W p l e { frames := 6, cells := 0, slots := 0, locals := 140 } s m [.ref a0, .int x1].toArray below meth c H locs 0 0 (MQ below (Ti D cs (fun r u => u = (T, O, X) ∧ -2 ≤ r.toInt ∧ r.toInt ≤ 16383) A) [.ref a0, .int x1].toArray s 0 0 A) (F0 m 52 ls []) := by
            intro p52_2 H locs ls l_p52_2 u_p52_2 hH hS hl
            obtain ⟨v52, ev52⟩ : ∃ y : Int32, y = p26_3 + 1 := ⟨_, rfl⟩
            have tv52 : v52.toInt = p26_3.toInt + (1) := by rw [ev52]; exact add_i rfl (by decide) (by omega) (by omega)
            refine lv_iinc (v := v52) (lv' := [(3, .int v52), (2, .int p52_2), (0, .ref a0)]) hx hb dX12_idle_52 hl (k := 0) rfl (by rw [ev52]; rfl) (by decide) rfl (fun ls hl => ?_)
            refine lv_goto (tgt := 26) hx hb dX12_idle_55 (by decide) ?_
            exact ih26 _ (by omega) v52 p52_2 _ _ _ rfl (by omega) (by omega) (by omega) (by omega) hH hS (lv_sub hl [0, 1, 2] rfl)
          refine lv_if_le (tgt := 52) hx hb dX12_idle_45 (by decide) (fun c45 => ?_) (fun c45 => ?_)
          · skip
            have tc45 := le_l c45
            have kc45_0 : (0 : Int64).toInt = 0 := by decide
            exact J52 p26_2 _ _ _ (by omega) (by omega) hH hS (lv_sub hl [0, 1, 2] rfl)
          · skip
            have tc45 := nle_l c45
            have kc45_0 : (0 : Int64).toInt = 0 := by decide
            refine lv_iload_n hx hb dX12_idle_48 rfl (lv_at hl 1 rfl) ?_
            refine lv_iload_n hx hb dX12_idle_49 rfl (lv_at hl 0 rfl) ?_
            refine lv_ior hx hb dX12_idle_50 ?_
            refine lv_topi (fun v50 ev50 => ?_)
            have tv50 : 0 ≤ v50.toInt ∧ v50.toInt < 16384 := by rw [ev50]; exact or_b 14 (by decide) (by omega) (by omega) (by omega) (by omega)
            refine lv_istore_n (lv' := [(2, .int v50), (3, .int p26_3), (0, .ref a0)]) hx hb dX12_idle_51 rfl hl (by decide) rfl (fun ls hl => ?_)
            exact J52 v50 _ _ _ (by omega) (by omega) hH hS (lv_sub hl [1, 0, 2] rfl)
    refine lv_istore_n (lv' := [(3, .int 0), (2, .int 0), (0, .ref a0), (1, .int x1)]) hx hb dX12_idle_25 rfl hl (by decide) rfl (fun ls hl => ?_)
    exact J26 _ 0 0 _ _ _ rfl (by decide) (by decide) (by decide) (by decide) hH hS (lv_sub hl [0, 1, 2] rfl)
  · skip
    have tc11 := f_eq (k := 0) (by decide) c11
    clear x_v80
    refine lv_bipush (v := (-2)) hx hb dX12_idle_14 (by decide) ?_
    exact te_i hx hb hr hlocks hH hS (⟨rfl, by decide, by decide⟩) dX12_idle_16
set_option maxHeartbeats 4000000 in
set_option maxRecDepth 100000 in
theorem s_M_able (l : Launch) (D : va_G) (cs : CS) (kf : KF) (T : TF) (O : List Nat) (X : va_W) (a0 hg mq : Nat) (t_a0 : T a0 = some (22, hg, mq)) (b_hg : hg < 90) (hO : okO T O [1, 8, 9, 22]) : TK l D cs kf yX12_able cX12_able 3 (some (.int)) { frames := 5, cells := 0, slots := 0, locals := 119 } [.ref a0] T O X (Ti D cs (fun r u => u = (T, O, X) ∧ 0 ≤ r.toInt ∧ r.toInt ≤ 16383)) := by
  refine tk_of (by decide) (Nat.le_of_ble_eq_true rfl) (fun p e s m below meth c ls A H locs hx hb hr hml hown hts hlocks hnm hkb hH hS hA hOX hks hE hl => ?_)
  have hown : s.vm.findClass RX12 = some m.cls := hown
  have hl : lv_has ls 3 [(0, .ref a0)] := hl
  refine lv_aload_n hx hb dX12_able_0 rfl (lv_at hl 0 rfl) ?_
  refine lv_iconst (v := 0) hx hb dX12_able_1 (by decide) ?_
  refine t_put (ci := 12) (lst := ft12 hg mq) (v := .int 0) (ty := tyX12 0) (C := RX12) (F := TX12) (N := 36) hx hb hts uX12 tyX12 tyX12_ok nmX12 hown hkb hH hS t_a0 (hO.no t_a0 (by decide)) (fun _ => Iff.rfl) rfl rfl 0 (by decide) rfl (⟨_, rfl⟩) kw_1223 (fun _ h9 => h9) rfl (tyX12_ok 0 (by decide)) rfl rfl dX12_able_2 (fun H locs hH hS => ?_)
  refine lv_iconst (v := 0) hx hb dX12_able_5 (by decide) ?_
  refine lv_istore_n (lv' := [(1, .int 0), (0, .ref a0)]) hx hb dX12_able_6 rfl hl (by decide) rfl (fun ls hl => ?_)
  refine lv_iconst (v := 0) hx hb dX12_able_7 (by decide) ?_
  have J9 : ∀ (n : Nat) (p9_2 : Int32) (p9_1 : Int32) (H : Heap) (locs : List Loc) (ls : Array Slot), (5 - p9_2.toInt).toNat = n → (0 ≤ p9_2.toInt) → (p9_2.toInt ≤ 5) → (0 ≤ p9_1.toInt) → (p9_1.toInt ≤ 16383) → HT D cs A T O X H → va_S A s.heap H locs → lv_has ls 3 [(2, .int p9_2), (1, .int p9_1), (0, .ref a0)] → W p l e { frames := 5, cells := 0, slots := 0, locals := 119 } s m [.ref a0].toArray below meth c H locs 0 0 (MQ below (Ti D cs (fun r u => u = (T, O, X) ∧ 0 ≤ r.toInt ∧ r.toInt ≤ 16383) A) [.ref a0].toArray s 0 0 A) (F0 m 9 ls []) := by
    intro n
    induction n using Nat.strongRecOn with
    | _ n ih9 =>
      intro p9_2 p9_1 H locs ls hm9 l_p9_2 u_p9_2 l_p9_1 u_p9_1 hH hS hl
      refine lv_iload_n hx hb dX12_able_9 rfl (lv_at hl 0 rfl) ?_
      refine lv_aload_n hx hb dX12_able_10 rfl (lv_at hl 2 rfl) ?_
      refine t_get (ci := 12) (lst := ft12 hg mq) (C := RX12) (F := TX12) (N := 36) hx hb hts uX12 hown hkb hH t_a0 (hO.no t_a0 (by decide)) (fun _ h9 => h9) rfl rfl 1 (by decide) rfl kw_1224 (fun _ h9 => h9) dX12_able_11 (fun v9 h9 => ?_)
      obtain ⟨v11, rfl, t_v11⟩ := h9
      refine lv_iconst (v := 2) hx hb dX12_able_14 (by decide) ?_
      refine t_ild8 hx hb hkb hH t_v11 (hO.no t_v11 (by decide)) (by decide) (by decide) (by decide) dX12_able_15 (fun v15 h9 h8 => ?_)
      have q9 := (h8 rfl).2 rfl
      subst q9
      have eG9 : (nI (hg % 6)).toInt = (((hg % 6) : Nat) : Int) := nI_toInt (by omega)
      refine lv_icmp_ge (tgt := 51) hx hb dX12_able_16 (by decide) (fun c16 => ?_) (fun c16 => ?_)
      · skip
        have fuc16 := full_i p9_2
        have fvc16 := full_i (nI (hg % 6))
        have tc16 := g_le c16
        refine lv_iload_n hx hb dX12_able_51 rfl (lv_at hl 1 rfl) ?_
        exact te_i hx hb hr hlocks hH hS (⟨rfl, by omega, by omega⟩) dX12_able_52
      · skip
        have fuc16 := full_i p9_2
        have fvc16 := full_i (nI (hg % 6))
        have tc16 := g_nle c16
        refine lv_aload_n hx hb dX12_able_19 rfl (lv_at hl 2 rfl) ?_
        refine lv_iload_n hx hb dX12_able_20 rfl (lv_at hl 0 rfl) ?_
        refine tk_v hH hS hA (tr_V (n := 1) (As := [.int p9_2]) hx hb hml hown hts hkb hH hOX hks hE hS hA (s_M_laysGuide l D cs kf T O X a0 hg mq p9_2 t_a0 b_hg (by omega) (by omega) (hO.sub (by decide))) kw_1502 kw_1504 ks_71 kw_13 kw_1505 (by decide +kernel) ⟨Nat.le_of_ble_eq_true rfl, Nat.le_of_ble_eq_true rfl⟩ (HT.recv (ci := 12) hkb hH t_a0 (hO.no t_a0 (by decide)) rfl) rfl rfl hl.1 (Nat.le_of_ble_eq_true rfl) dX12_able_21 ⟨Nat.le_of_ble_eq_true rfl, Nat.le_of_ble_eq_true rfl⟩) (fun u H locs hz9 hH hS => ?_)
        have hz9 : u = (T, O, X) := hz9
        subst hz9
        have hH : HT D cs A T O X H := hH
        refine W.widen (k := 0) (n := 0) (Nat.le_of_ble_eq_true rfl) (Nat.le_of_ble_eq_true rfl) ?_
        refine lv_iload_n hx hb dX12_able_24 rfl (lv_at hl 1 rfl) ?_
        refine lv_aload_n hx hb dX12_able_25 rfl (lv_at hl 2 rfl) ?_
        refine lv_aload_n hx hb dX12_able_26 rfl (lv_at hl 2 rfl) ?_
        refine tk_i hH hS hA (tr_V (n := 0) (As := []) hx hb hml hown hts hkb hH hOX hks hE hS hA (s_M_openSet l D cs kf T O X a0 hg mq t_a0 b_hg (hO.sub (by decide))) kw_1510 kw_1512 ks_73 kw_13 kw_1513 (by decide +kernel) ⟨Nat.le_of_ble_eq_true rfl, Nat.le_of_ble_eq_true rfl⟩ (HT.recv (ci := 12) hkb hH t_a0 (hO.no t_a0 (by decide)) rfl) rfl rfl hl.1 (Nat.le_of_ble_eq_true rfl) dX12_able_27 ⟨Nat.le_of_ble_eq_true rfl, Nat.le_of_ble_eq_true rfl⟩) (fun v27 u H locs hz9 hH hS => ?_)
        obtain ⟨rfl, l_v27, u_v27⟩ := hz9
        have hH : HT D cs A T O X H := hH
        refine W.widen (k := 0) (n := 0) (Nat.le_of_ble_eq_true rfl) (Nat.le_of_ble_eq_true rfl) ?_
        refine tk_i hH hS hA (tr_V (n := 1) (As := [.int v27]) hx hb hml hown hts hkb hH hOX hks hE hS hA (s_M_hasClimb l D cs kf T O X a0 hg mq v27 t_a0 b_hg (hO.sub (by decide))) kw_1660 kw_1662 ks_94 kw_13 kw_1663 (by decide +kernel) ⟨Nat.le_of_ble_eq_true rfl, Nat.le_of_ble_eq_true rfl⟩ (HT.recv (ci := 12) hkb hH t_a0 (hO.no t_a0 (by decide)) rfl) rfl rfl hl.1 (Nat.le_of_ble_eq_true rfl) dX12_able_30 ⟨Nat.le_of_ble_eq_true rfl, Nat.le_of_ble_eq_true rfl⟩) (fun v30 u H locs hz9 hH hS => ?_)
        obtain ⟨rfl, l_v30, u_v30⟩ := hz9
        have hH : HT D cs A T O X H := hH
        refine W.widen (k := 0) (n := 0) (Nat.le_of_ble_eq_true rfl) (Nat.le_of_ble_eq_true rfl) ?_
        have J43 : ∀ (k43_0 : Int32) (H : Heap) (locs : List Loc) (ls : Array Slot), (0 ≤ k43_0.toInt) → (k43_0.toInt ≤ 16) → HT D cs A T O X H → va_S A s.heap H locs → lv_has ls 3 [(2, .int p9_2), (0, .ref a0)] → W p l e { frames := 5, cells := 0, slots := 0, locals := 119 } s m [.ref a0].toArray below meth c H locs 0 0 (MQ below (Ti D cs (fun r u => u = (T, O, X) ∧ 0 ≤ r.toInt ∧ r.toInt ≤ 16383) A) [.ref a0].toArray s 0 0 A) (F0 m 43 ls [.int k43_0, .int p9_1]) := by
          intro k43_0 H locs ls l_k43_0 u_k43_0 hH hS hl
          refine lv_ior hx hb dX12_able_43 ?_
          refine lv_topi (fun v43 ev43 => ?_)
          have tv43 : 0 ≤ v43.toInt ∧ v43.toInt < 16384 := by rw [ev43]; exact or_b 14 (by decide) (by omega) (by omega) (by omega) (by omega)
          refine lv_istore_n (lv' := [(1, .int v43), (2, .int p9_2), (0, .ref a0)]) hx hb dX12_able_44 rfl hl (by decide) rfl (fun ls hl => ?_)
          obtain ⟨v45, ev45⟩ : ∃ y : Int32, y = p9_2 + 1 := ⟨_, rfl⟩
          have tv45 : v45.toInt = p9_2.toInt + (1) := by rw [ev45]; exact add_i rfl (by decide) (by omega) (by omega)
          refine lv_iinc (v := v45) (lv' := [(2, .int v45), (1, .int v43), (0, .ref a0)]) hx hb dX12_able_45 hl (k := 1) rfl (by rw [ev45]; rfl) (by decide) rfl (fun ls hl => ?_)
          refine lv_goto (tgt := 9) hx hb dX12_able_48 (by decide) ?_
          exact ih9 _ (by omega) v45 v43 _ _ _ rfl (by omega) (by omega) (by omega) (by omega) hH hS (lv_sub hl [0, 1, 2] rfl)
        refine lv_if_eq (tgt := 42) hx hb dX12_able_33 (by decide) (fun c33 => ?_) (fun c33 => ?_)
        · skip
          have tc33 := f_eq (k := 0) (by decide) c33
          refine lv_iconst (v := 0) hx hb dX12_able_42 (by decide) ?_
          exact J43 0 _ _ _ (by decide) (by decide) hH hS (lv_sub hl [0, 2] rfl)
        · skip
          have tc33 := f_ne (k := 0) (by decide) c33
          refine lv_iconst (v := 1) hx hb dX12_able_36 (by decide) ?_
          refine lv_iload_n hx hb dX12_able_37 rfl (lv_at hl 0 rfl) ?_
          refine lv_ishl hx hb dX12_able_38 ?_
          refine lv_topi (fun v38 ev38 => ?_)
          have tv38 : 1 ≤ v38.toInt ∧ v38.toInt ≤ 16 := by rw [ev38]; exact shl_b 4 (by decide) (by omega) (by omega)
          refine lv_goto (tgt := 43) hx hb dX12_able_39 (by decide) ?_
          exact J43 v38 _ _ _ (by omega) (by omega) hH hS (lv_sub hl [0, 2] rfl)
  refine lv_istore_n (lv' := [(2, .int 0), (1, .int 0), (0, .ref a0)]) hx hb dX12_able_8 rfl hl (by decide) rfl (fun ls hl => ?_)
  exact J9 _ 0 0 _ _ _ rfl (by decide) (by decide) (by decide) (by decide) hH hS (lv_sub hl [0, 1, 2] rfl)
set_option maxHeartbeats 4000000 in
set_option maxRecDepth 100000 in
theorem s_M_leastLeg (l : Launch) (D : va_G) (cs : CS) (kf : KF) (T : TF) (O : List Nat) (X : va_W) (a0 hg mq : Nat) (x1 : Int32) (t_a0 : T a0 = some (22, hg, mq)) (b_hg : hg < 90) (hO : okO T O [1, 8, 9, 22]) : TK l D cs kf yX12_leastLeg cX12_leastLeg 3 (some (.int)) { frames := 4, cells := 0, slots := 0, locals := 98 } [.ref a0, .int x1] T O X (Ti D cs (fun r u => u = (T, O, X) ∧ -2 ≤ r.toInt ∧ r.toInt ≤ 99)) := by
  refine tk_of (by decide) (Nat.le_of_ble_eq_true rfl) (fun p e s m below meth c ls A H locs hx hb hr hml hown hts hlocks hnm hkb hH hS hA hOX hks hE hl => ?_)
  have hown : s.vm.findClass RX12 = some m.cls := hown
  have hl : lv_has ls 3 [(0, .ref a0), (1, .int x1)] := hl
  refine lv_aload_n hx hb dX12_leastLeg_0 rfl (lv_at hl 0 rfl) ?_
  refine lv_iconst (v := 0) hx hb dX12_leastLeg_1 (by decide) ?_
  refine t_put (ci := 12) (lst := ft12 hg mq) (v := .int 0) (ty := tyX12 0) (C := RX12) (F := TX12) (N := 36) hx hb hts uX12 tyX12 tyX12_ok nmX12 hown hkb hH hS t_a0 (hO.no t_a0 (by decide)) (fun _ => Iff.rfl) rfl rfl 0 (by decide) rfl (⟨_, rfl⟩) kw_1223 (fun _ h9 => h9) rfl (tyX12_ok 0 (by decide)) rfl rfl dX12_leastLeg_2 (fun H locs hH hS => ?_)
  refine lv_aload_n hx hb dX12_leastLeg_5 rfl (lv_at hl 0 rfl) ?_
  refine lv_iload_n hx hb dX12_leastLeg_6 rfl (lv_at hl 1 rfl) ?_
  refine lv_i2l hx hb dX12_leastLeg_7 rfl ?_
  refine tk_i hH hS hA (tr_V (n := 1) (As := [.long x1.toInt64]) hx hb hml hown hts hkb hH hOX hks hE hS hA (s_M_isGuide l D cs kf T O X a0 hg mq x1.toInt64 t_a0 b_hg (hO.sub (by decide))) kw_1470 kw_1472 ks_67 kw_13 kw_1473 (by decide +kernel) ⟨Nat.le_of_ble_eq_true rfl, Nat.le_of_ble_eq_true rfl⟩ (HT.recv (ci := 12) hkb hH t_a0 (hO.no t_a0 (by decide)) rfl) rfl rfl hl.1 (Nat.le_of_ble_eq_true rfl) dX12_leastLeg_8 ⟨Nat.le_of_ble_eq_true rfl, Nat.le_of_ble_eq_true rfl⟩) (fun v8 u H locs hz9 hH hS => ?_)
  obtain ⟨rfl, l_v8, u_v8, x_v80⟩ := hz9
  simp only [Int32.toInt_toInt64] at x_v80
  have hH : HT D cs A T O X H := hH
  refine W.widen (k := 0) (n := 0) (Nat.le_of_ble_eq_true rfl) (Nat.le_of_ble_eq_true rfl) ?_
  refine lv_if_ne (tgt := 17) hx hb dX12_leastLeg_11 (by decide) (fun c11 => ?_) (fun c11 => ?_)
  · skip
    have tc11 := f_ne (k := 0) (by decide) c11
    replace x_v80 := x_v80.resolve_left tc11
    refine lv_iconst (v := 0) hx hb dX12_leastLeg_17 (by decide) ?_
    have J19 : ∀ (n : Nat) (p19_2 : Int32) (H : Heap) (locs : List Loc) (ls : Array Slot), (100 - p19_2.toInt).toNat = n → (0 ≤ p19_2.toInt) → (p19_2.toInt ≤ 100) → HT D cs A T O X H → va_S A s.heap H locs → lv_has ls 3 [(2, .int p19_2), (0, .ref a0), (1, .int x1)] → W p l e { frames := 4, cells := 0, slots := 0, locals := 98 } s m [.ref a0, .int x1].toArray below meth c H locs 0 0 (MQ below (Ti D cs (fun r u => u = (T, O, X) ∧ -2 ≤ r.toInt ∧ r.toInt ≤ 99) A) [.ref a0, .int x1].toArray s 0 0 A) (F0 m 19 ls []) := by
      intro n
      induction n using Nat.strongRecOn with
      | _ n ih19 =>
        intro p19_2 H locs ls hm19 l_p19_2 u_p19_2 hH hS hl
        refine lv_iload_n hx hb dX12_leastLeg_19 rfl (lv_at hl 0 rfl) ?_
        refine lv_bipush (v := 100) hx hb dX12_leastLeg_20 (by decide) ?_
        refine lv_icmp_ge (tgt := 50) hx hb dX12_leastLeg_22 (by decide) (fun c22 => ?_) (fun c22 => ?_)
        · skip
          have tc22 := f_ge (k := 100) (by decide) c22
          refine lv_iconst (v := (-1)) hx hb dX12_leastLeg_50 (by decide) ?_
          exact te_i hx hb hr hlocks hH hS (⟨rfl, by decide, by decide⟩) dX12_leastLeg_51
        · skip
          have tc22 := f_nge (k := 100) (by decide) c22
          refine lv_aload_n hx hb dX12_leastLeg_25 rfl (lv_at hl 1 rfl) ?_
          refine lv_iload_n hx hb dX12_leastLeg_26 rfl (lv_at hl 2 rfl) ?_
          refine lv_iload_n hx hb dX12_leastLeg_27 rfl (lv_at hl 0 rfl) ?_
          refine tk_v hH hS hA (tr_V (n := 2) (As := [.int x1, .int p19_2]) hx hb hml hown hts hkb hH hOX hks hE hS hA (s_M_laysSteps l D cs kf T O X a0 hg mq x1 p19_2 t_a0 b_hg (by omega) (by omega) (hO.sub (by decide))) kw_1506 kw_1508 ks_72 kw_13 kw_1509 (by decide +kernel) ⟨Nat.le_of_ble_eq_true rfl, Nat.le_of_ble_eq_true rfl⟩ (HT.recv (ci := 12) hkb hH t_a0 (hO.no t_a0 (by decide)) rfl) rfl rfl hl.1 (Nat.le_of_ble_eq_true rfl) dX12_leastLeg_28 ⟨Nat.le_of_ble_eq_true rfl, Nat.le_of_ble_eq_true rfl⟩) (fun u H locs hz9 hH hS => ?_)
          have hz9 : u = (T, O, X) := hz9
          subst hz9
          have hH : HT D cs A T O X H := hH
          refine W.widen (k := 0) (n := 0) (Nat.le_of_ble_eq_true rfl) (Nat.le_of_ble_eq_true rfl) ?_
          refine lv_aload_n hx hb dX12_leastLeg_31 rfl (lv_at hl 1 rfl) ?_
          refine lv_aload_n hx hb dX12_leastLeg_32 rfl (lv_at hl 1 rfl) ?_
          refine tk_i hH hS hA (tr_V (n := 0) (As := []) hx hb hml hown hts hkb hH hOX hks hE hS hA (s_M_openSet l D cs kf T O X a0 hg mq t_a0 b_hg (hO.sub (by decide))) kw_1510 kw_1512 ks_73 kw_13 kw_1513 (by decide +kernel) ⟨Nat.le_of_ble_eq_true rfl, Nat.le_of_ble_eq_true rfl⟩ (HT.recv (ci := 12) hkb hH t_a0 (hO.no t_a0 (by decide)) rfl) rfl rfl hl.1 (Nat.le_of_ble_eq_true rfl) dX12_leastLeg_33 ⟨Nat.le_of_ble_eq_true rfl, Nat.le_of_ble_eq_true rfl⟩) (fun v33 u H locs hz9 hH hS => ?_)
          obtain ⟨rfl, l_v33, u_v33⟩ := hz9
          have hH : HT D cs A T O X H := hH
          refine W.widen (k := 0) (n := 0) (Nat.le_of_ble_eq_true rfl) (Nat.le_of_ble_eq_true rfl) ?_
          refine tk_i hH hS hA (tr_V (n := 1) (As := [.int v33]) hx hb hml hown hts hkb hH hOX hks hE hS hA (s_M_hasClimb l D cs kf T O X a0 hg mq v33 t_a0 b_hg (hO.sub (by decide))) kw_1660 kw_1662 ks_94 kw_13 kw_1663 (by decide +kernel) ⟨Nat.le_of_ble_eq_true rfl, Nat.le_of_ble_eq_true rfl⟩ (HT.recv (ci := 12) hkb hH t_a0 (hO.no t_a0 (by decide)) rfl) rfl rfl hl.1 (Nat.le_of_ble_eq_true rfl) dX12_leastLeg_36 ⟨Nat.le_of_ble_eq_true rfl, Nat.le_of_ble_eq_true rfl⟩) (fun v36 u H locs hz9 hH hS => ?_)
          obtain ⟨rfl, l_v36, u_v36⟩ := hz9
          have hH : HT D cs A T O X H := hH
          refine W.widen (k := 0) (n := 0) (Nat.le_of_ble_eq_true rfl) (Nat.le_of_ble_eq_true rfl) ?_
          refine lv_if_eq (tgt := 44) hx hb dX12_leastLeg_39 (by decide) (fun c39 => ?_) (fun c39 => ?_)
          · skip
            have tc39 := f_eq (k := 0) (by decide) c39
            obtain ⟨v44, ev44⟩ : ∃ y : Int32, y = p19_2 + 1 := ⟨_, rfl⟩
            have tv44 : v44.toInt = p19_2.toInt + (1) := by rw [ev44]; exact add_i rfl (by decide) (by omega) (by omega)
            refine lv_iinc (v := v44) (lv' := [(2, .int v44), (0, .ref a0), (1, .int x1)]) hx hb dX12_leastLeg_44 hl (k := 0) rfl (by rw [ev44]; rfl) (by decide) rfl (fun ls hl => ?_)
            refine lv_goto (tgt := 19) hx hb dX12_leastLeg_47 (by decide) ?_
            exact ih19 _ (by omega) v44 _ _ _ rfl (by omega) (by omega) hH hS (lv_sub hl [0, 1, 2] rfl)
          · skip
            have tc39 := f_ne (k := 0) (by decide) c39
            refine lv_iload_n hx hb dX12_leastLeg_42 rfl (lv_at hl 0 rfl) ?_
            exact te_i hx hb hr hlocks hH hS (⟨rfl, by omega, by omega⟩) dX12_leastLeg_43
    refine lv_istore_n (lv' := [(2, .int 0), (0, .ref a0), (1, .int x1)]) hx hb dX12_leastLeg_18 rfl hl (by decide) rfl (fun ls hl => ?_)
    exact J19 _ 0 _ _ _ rfl (by decide) (by decide) hH hS (lv_sub hl [0, 1, 2] rfl)
  · skip
    have tc11 := f_eq (k := 0) (by decide) c11
    clear x_v80
    refine lv_bipush (v := (-2)) hx hb dX12_leastLeg_14 (by decide) ?_
    exact te_i hx hb hr hlocks hH hS (⟨rfl, by decide, by decide⟩) dX12_leastLeg_16
set_option maxHeartbeats 4000000 in
set_option maxRecDepth 100000 in
theorem s_M_opens (l : Launch) (D : va_G) (cs : CS) (kf : KF) (T : TF) (O : List Nat) (X : va_W) (a0 hg mq : Nat) (x1 : Int32) (t_a0 : T a0 = some (22, hg, mq)) (b_hg : hg < 90) (hO : okO T O [1, 8, 9, 22]) : TK l D cs kf yX12_opens cX12_opens 4 (some (.int)) { frames := 5, cells := 0, slots := 0, locals := 119 } [.ref a0, .int x1] T O X (Ti D cs (fun r u => u = (T, O, X))) := by
  refine tk_of (by decide) (Nat.le_of_ble_eq_true rfl) (fun p e s m below meth c ls A H locs hx hb hr hml hown hts hlocks hnm hkb hH hS hA hOX hks hE hl => ?_)
  have hown : s.vm.findClass RX12 = some m.cls := hown
  have hl : lv_has ls 4 [(0, .ref a0), (1, .int x1)] := hl
  refine lv_aload_n hx hb dX12_opens_0 rfl (lv_at hl 0 rfl) ?_
  refine lv_iconst (v := 0) hx hb dX12_opens_1 (by decide) ?_
  refine t_put (ci := 12) (lst := ft12 hg mq) (v := .int 0) (ty := tyX12 0) (C := RX12) (F := TX12) (N := 36) hx hb hts uX12 tyX12 tyX12_ok nmX12 hown hkb hH hS t_a0 (hO.no t_a0 (by decide)) (fun _ => Iff.rfl) rfl rfl 0 (by decide) rfl (⟨_, rfl⟩) kw_1223 (fun _ h9 => h9) rfl (tyX12_ok 0 (by decide)) rfl rfl dX12_opens_2 (fun H locs hH hS => ?_)
  refine lv_aload_n hx hb dX12_opens_5 rfl (lv_at hl 0 rfl) ?_
  refine lv_iload_n hx hb dX12_opens_6 rfl (lv_at hl 1 rfl) ?_
  refine lv_i2l hx hb dX12_opens_7 rfl ?_
  refine tk_i hH hS hA (tr_V (n := 1) (As := [.long x1.toInt64]) hx hb hml hown hts hkb hH hOX hks hE hS hA (s_M_isGuide l D cs kf T O X a0 hg mq x1.toInt64 t_a0 b_hg (hO.sub (by decide))) kw_1470 kw_1472 ks_67 kw_13 kw_1473 (by decide +kernel) ⟨Nat.le_of_ble_eq_true rfl, Nat.le_of_ble_eq_true rfl⟩ (HT.recv (ci := 12) hkb hH t_a0 (hO.no t_a0 (by decide)) rfl) rfl rfl hl.1 (Nat.le_of_ble_eq_true rfl) dX12_opens_8 ⟨Nat.le_of_ble_eq_true rfl, Nat.le_of_ble_eq_true rfl⟩) (fun v8 u H locs hz9 hH hS => ?_)
  obtain ⟨rfl, l_v8, u_v8, x_v80⟩ := hz9
  simp only [Int32.toInt_toInt64] at x_v80
  have hH : HT D cs A T O X H := hH
  refine W.widen (k := 0) (n := 0) (Nat.le_of_ble_eq_true rfl) (Nat.le_of_ble_eq_true rfl) ?_
  refine lv_if_ne (tgt := 17) hx hb dX12_opens_11 (by decide) (fun c11 => ?_) (fun c11 => ?_)
  · skip
    have tc11 := f_ne (k := 0) (by decide) c11
    replace x_v80 := x_v80.resolve_left tc11
    refine lv_aload_n hx hb dX12_opens_17 rfl (lv_at hl 0 rfl) ?_
    refine tk_v hH hS hA (tr_V (n := 0) (As := []) hx hb hml hown hts hkb hH hOX hks hE hS hA (s_M_keepsAhead l D cs kf T O X a0 hg mq t_a0 b_hg (hO.sub (by decide))) kw_1704 kw_1706 ks_96 kw_13 kw_1707 (by decide +kernel) ⟨Nat.le_of_ble_eq_true rfl, Nat.le_of_ble_eq_true rfl⟩ (HT.recv (ci := 12) hkb hH t_a0 (hO.no t_a0 (by decide)) rfl) rfl rfl hl.1 (Nat.le_of_ble_eq_true rfl) dX12_opens_18 ⟨Nat.le_of_ble_eq_true rfl, Nat.le_of_ble_eq_true rfl⟩) (fun u H locs hz9 hH hS => ?_)
    have hz9 : u = (T, O, X) := hz9
    subst hz9
    have hH : HT D cs A T O X H := hH
    refine W.widen (k := 0) (n := 0) (Nat.le_of_ble_eq_true rfl) (Nat.le_of_ble_eq_true rfl) ?_
    refine lv_iconst (v := (-1)) hx hb dX12_opens_21 (by decide) ?_
    refine lv_istore_n (lv' := [(2, .int (-1)), (0, .ref a0), (1, .int x1)]) hx hb dX12_opens_22 rfl hl (by decide) rfl (fun ls hl => ?_)
    refine lv_iconst (v := 0) hx hb dX12_opens_23 (by decide) ?_
    have J25 : ∀ (n : Nat) (p25_3 : Int32) (p25_2 : Int32) (H : Heap) (locs : List Loc) (ls : Array Slot), (201 - p25_3.toInt).toNat = n → (0 ≤ p25_3.toInt) → (p25_3.toInt ≤ 201) → HT D cs A T O X H → va_S A s.heap H locs → lv_has ls 4 [(3, .int p25_3), (2, .int p25_2), (0, .ref a0), (1, .int x1)] → W p l e { frames := 5, cells := 0, slots := 0, locals := 119 } s m [.ref a0, .int x1].toArray below meth c H locs 0 0 (MQ below (Ti D cs (fun r u => u = (T, O, X)) A) [.ref a0, .int x1].toArray s 0 0 A) (F0 m 25 ls []) := by
      intro n
      induction n using Nat.strongRecOn with
      | _ n ih25 =>
        intro p25_3 p25_2 H locs ls hm25 l_p25_3 u_p25_3 hH hS hl
        refine lv_iload_n hx hb dX12_opens_25 rfl (lv_at hl 0 rfl) ?_
        refine lv_sipush (v := 200) hx hb dX12_opens_26 (by decide) ?_
        have J78 : ∀  (H : Heap) (locs : List Loc) (ls : Array Slot), HT D cs A T O X H → va_S A s.heap H locs → lv_has ls 4 [(2, .int p25_2), (0, .ref a0)] → W p l e { frames := 5, cells := 0, slots := 0, locals := 119 } s m [.ref a0, .int x1].toArray below meth c H locs 0 0 (MQ below (Ti D cs (fun r u => u = (T, O, X)) A) [.ref a0, .int x1].toArray s 0 0 A) (F0 m 78 ls []) := by
          intro  H locs ls  hH hS hl
          refine lv_aload_n hx hb dX12_opens_78 rfl (lv_at hl 1 rfl) ?_
          refine tk_v hH hS hA (tr_V (n := 0) (As := []) hx hb hml hown hts hkb hH hOX hks hE hS hA (s_M_isAhead l D cs kf T O X a0 hg mq t_a0 b_hg (hO.sub (by decide))) kw_1708 kw_1710 ks_97 kw_13 kw_1711 (by decide +kernel) ⟨Nat.le_of_ble_eq_true rfl, Nat.le_of_ble_eq_true rfl⟩ (HT.recv (ci := 12) hkb hH t_a0 (hO.no t_a0 (by decide)) rfl) rfl rfl hl.1 (Nat.le_of_ble_eq_true rfl) dX12_opens_79 ⟨Nat.le_of_ble_eq_true rfl, Nat.le_of_ble_eq_true rfl⟩) (fun u H locs hz9 hH hS => ?_)
          have hz9 : u = (T, O, X) := hz9
          subst hz9
          have hH : HT D cs A T O X H := hH
          refine W.widen (k := 0) (n := 0) (Nat.le_of_ble_eq_true rfl) (Nat.le_of_ble_eq_true rfl) ?_
          refine lv_iload_n hx hb dX12_opens_82 rfl (lv_at hl 0 rfl) ?_
          exact te_i hx hb hr hlocks hH hS (rfl) dX12_opens_83
        refine lv_icmp_gt (tgt := 78) hx hb dX12_opens_29 (by decide) (fun c29 => ?_) (fun c29 => ?_)
        · skip
          have tc29 := f_gt (k := 200) (by decide) c29
          exact J78  _ _ _  hH hS (lv_sub hl [1, 2] rfl)
        · skip
          have tc29 := f_ngt (k := 200) (by decide) c29
          refine lv_iload_n hx hb dX12_opens_32 rfl (lv_at hl 1 rfl) ?_
          refine lv_iconst (v := (-1)) hx hb dX12_opens_33 (by decide) ?_
          refine lv_icmp_ne (tgt := 78) hx hb dX12_opens_34 (by decide) (fun c34 => ?_) (fun c34 => ?_)
          · skip
            have tc34 := f_ne (k := -1) (by decide) c34
            exact J78  _ _ _  hH hS (lv_sub hl [1, 2] rfl)
          · skip
            have tc34 := f_eq (k := -1) (by decide) c34
            refine lv_aload_n hx hb dX12_opens_37 rfl (lv_at hl 2 rfl) ?_
            refine lv_iload_n hx hb dX12_opens_38 rfl (lv_at hl 3 rfl) ?_
            refine tk_v hH hS hA (tr_V (n := 1) (As := [.int x1]) hx hb hml hown hts hkb hH hOX hks hE hS hA (s_M_laysGuide l D cs kf T O X a0 hg mq x1 t_a0 b_hg (by omega) (by omega) (hO.sub (by decide))) kw_1502 kw_1504 ks_71 kw_13 kw_1505 (by decide +kernel) ⟨Nat.le_of_ble_eq_true rfl, Nat.le_of_ble_eq_true rfl⟩ (HT.recv (ci := 12) hkb hH t_a0 (hO.no t_a0 (by decide)) rfl) rfl rfl hl.1 (Nat.le_of_ble_eq_true rfl) dX12_opens_39 ⟨Nat.le_of_ble_eq_true rfl, Nat.le_of_ble_eq_true rfl⟩) (fun u H locs hz9 hH hS => ?_)
            have hz9 : u = (T, O, X) := hz9
            subst hz9
            have hH : HT D cs A T O X H := hH
            refine W.widen (k := 0) (n := 0) (Nat.le_of_ble_eq_true rfl) (Nat.le_of_ble_eq_true rfl) ?_
            refine lv_aload_n hx hb dX12_opens_42 rfl (lv_at hl 2 rfl) ?_
            refine lv_aload_n hx hb dX12_opens_43 rfl (lv_at hl 2 rfl) ?_
            refine tk_i hH hS hA (tr_V (n := 0) (As := []) hx hb hml hown hts hkb hH hOX hks hE hS hA (s_M_openSet l D cs kf T O X a0 hg mq t_a0 b_hg (hO.sub (by decide))) kw_1510 kw_1512 ks_73 kw_13 kw_1513 (by decide +kernel) ⟨Nat.le_of_ble_eq_true rfl, Nat.le_of_ble_eq_true rfl⟩ (HT.recv (ci := 12) hkb hH t_a0 (hO.no t_a0 (by decide)) rfl) rfl rfl hl.1 (Nat.le_of_ble_eq_true rfl) dX12_opens_44 ⟨Nat.le_of_ble_eq_true rfl, Nat.le_of_ble_eq_true rfl⟩) (fun v44 u H locs hz9 hH hS => ?_)
            obtain ⟨rfl, l_v44, u_v44⟩ := hz9
            have hH : HT D cs A T O X H := hH
            refine W.widen (k := 0) (n := 0) (Nat.le_of_ble_eq_true rfl) (Nat.le_of_ble_eq_true rfl) ?_
            refine tk_i hH hS hA (tr_V (n := 1) (As := [.int v44]) hx hb hml hown hts hkb hH hOX hks hE hS hA (s_M_hasClimb l D cs kf T O X a0 hg mq v44 t_a0 b_hg (hO.sub (by decide))) kw_1660 kw_1662 ks_94 kw_13 kw_1663 (by decide +kernel) ⟨Nat.le_of_ble_eq_true rfl, Nat.le_of_ble_eq_true rfl⟩ (HT.recv (ci := 12) hkb hH t_a0 (hO.no t_a0 (by decide)) rfl) rfl rfl hl.1 (Nat.le_of_ble_eq_true rfl) dX12_opens_47 ⟨Nat.le_of_ble_eq_true rfl, Nat.le_of_ble_eq_true rfl⟩) (fun v47 u H locs hz9 hH hS => ?_)
            obtain ⟨rfl, l_v47, u_v47⟩ := hz9
            have hH : HT D cs A T O X H := hH
            refine W.widen (k := 0) (n := 0) (Nat.le_of_ble_eq_true rfl) (Nat.le_of_ble_eq_true rfl) ?_
            have J61 : ∀ (p61_2 : Int32) (H : Heap) (locs : List Loc) (ls : Array Slot), HT D cs A T O X H → va_S A s.heap H locs → lv_has ls 4 [(3, .int p25_3), (2, .int p61_2), (0, .ref a0), (1, .int x1)] → W p l e { frames := 5, cells := 0, slots := 0, locals := 119 } s m [.ref a0, .int x1].toArray below meth c H locs 0 0 (MQ below (Ti D cs (fun r u => u = (T, O, X)) A) [.ref a0, .int x1].toArray s 0 0 A) (F0 m 61 ls []) := by
              intro p61_2 H locs ls  hH hS hl
              refine lv_aload_n hx hb dX12_opens_61 rfl (lv_at hl 2 rfl) ?_
              refine t_get (ci := 12) (lst := ft12 hg mq) (C := RX12) (F := TX12) (N := 36) hx hb hts uX12 hown hkb hH t_a0 (hO.no t_a0 (by decide)) (fun _ h9 => h9) rfl rfl 1 (by decide) rfl kw_1224 (fun _ h9 => h9) dX12_opens_62 (fun v9 h9 => ?_)
              obtain ⟨v62, rfl, t_v62⟩ := h9
              refine lv_bipush (v := 88) hx hb dX12_opens_65 (by decide) ?_
              refine lv_dup2_11 hx hb dX12_opens_67 rfl rfl ?_
              refine t_ild8 hx hb hkb hH t_v62 (hO.no t_v62 (by decide)) (by decide) (by decide) (by decide) dX12_opens_68 (fun v68 h9 h8 => ?_)
              refine lv_iconst (v := 1) hx hb dX12_opens_69 (by decide) ?_
              refine lv_iadd hx hb dX12_opens_70 ?_
              refine lv_topi (fun v70 ev70 => ?_)
              refine t_ist8 hx hb hkb hH hS t_v62 (hO.no t_v62 (by decide)) (by decide) (by decide) (by decide) (by decide) (by decide) (p8_far (by decide) (by decide)) dX12_opens_71 (fun H locs hH hS => ?_)
              obtain ⟨v72, ev72⟩ : ∃ y : Int32, y = p25_3 + 1 := ⟨_, rfl⟩
              have tv72 : v72.toInt = p25_3.toInt + (1) := by rw [ev72]; exact add_i rfl (by decide) (by omega) (by omega)
              refine lv_iinc (v := v72) (lv' := [(3, .int v72), (2, .int p61_2), (0, .ref a0), (1, .int x1)]) hx hb dX12_opens_72 hl (k := 0) rfl (by rw [ev72]; rfl) (by decide) rfl (fun ls hl => ?_)
              refine lv_goto (tgt := 25) hx hb dX12_opens_75 (by decide) ?_
              exact ih25 _ (by omega) v72 p61_2 _ _ _ rfl (by omega) (by omega) hH hS (lv_sub hl [0, 1, 2, 3] rfl)
            refine lv_if_eq (tgt := 61) hx hb dX12_opens_50 (by decide) (fun c50 => ?_) (fun c50 => ?_)
            · skip
              have tc50 := f_eq (k := 0) (by decide) c50
              exact J61 p25_2 _ _ _  hH hS (lv_sub hl [0, 1, 2, 3] rfl)
            · skip
              have tc50 := f_ne (k := 0) (by decide) c50
              refine lv_aload_n hx hb dX12_opens_53 rfl (lv_at hl 2 rfl) ?_
              refine t_get (ci := 12) (lst := ft12 hg mq) (C := RX12) (F := TX12) (N := 36) hx hb hts uX12 hown hkb hH t_a0 (hO.no t_a0 (by decide)) (fun _ h9 => h9) rfl rfl 1 (by decide) rfl kw_1224 (fun _ h9 => h9) dX12_opens_54 (fun v9 h9 => ?_)
              obtain ⟨v54, rfl, t_v54⟩ := h9
              refine lv_bipush (v := 88) hx hb dX12_opens_57 (by decide) ?_
              refine t_ild8 hx hb hkb hH t_v54 (hO.no t_v54 (by decide)) (by decide) (by decide) (by decide) dX12_opens_59 (fun v59 h9 h8 => ?_)
              refine lv_istore_n (lv' := [(2, .int v59), (3, .int p25_3), (0, .ref a0), (1, .int x1)]) hx hb dX12_opens_60 rfl hl (by decide) rfl (fun ls hl => ?_)
              exact J61 v59 _ _ _  hH hS (lv_sub hl [1, 0, 2, 3] rfl)
    refine lv_istore_n (lv' := [(3, .int 0), (2, .int (-1)), (0, .ref a0), (1, .int x1)]) hx hb dX12_opens_24 rfl hl (by decide) rfl (fun ls hl => ?_)
    exact J25 _ 0 (-1) _ _ _ rfl (by decide) (by decide) hH hS (lv_sub hl [0, 1, 2, 3] rfl)
  · skip
    have tc11 := f_eq (k := 0) (by decide) c11
    clear x_v80
    refine lv_bipush (v := (-2)) hx hb dX12_opens_14 (by decide) ?_
    exact te_i hx hb hr hlocks hH hS (rfl) dX12_opens_16
set_option maxHeartbeats 4000000 in
set_option maxRecDepth 100000 in
theorem s_M_dearest (l : Launch) (D : va_G) (cs : CS) (kf : KF) (T : TF) (O : List Nat) (X : va_W) (a0 hg mq : Nat) (x1 : Int32) (t_a0 : T a0 = some (22, hg, mq)) (b_hg : hg < 90) (hO : okO T O [1, 8, 9, 22]) : TK l D cs kf yX12_dearest cX12_dearest 5 (some (.int)) { frames := 5, cells := 0, slots := 0, locals := 119 } [.ref a0, .int x1] T O X (Ti D cs (fun r u => u = (T, O, X) ∧ -2 ≤ r.toInt ∧ r.toInt ≤ 13)) := by
  refine tk_of (by decide) (Nat.le_of_ble_eq_true rfl) (fun p e s m below meth c ls A H locs hx hb hr hml hown hts hlocks hnm hkb hH hS hA hOX hks hE hl => ?_)
  have hown : s.vm.findClass RX12 = some m.cls := hown
  have hl : lv_has ls 5 [(0, .ref a0), (1, .int x1)] := hl
  refine lv_aload_n hx hb dX12_dearest_0 rfl (lv_at hl 0 rfl) ?_
  refine lv_iconst (v := 0) hx hb dX12_dearest_1 (by decide) ?_
  refine t_put (ci := 12) (lst := ft12 hg mq) (v := .int 0) (ty := tyX12 0) (C := RX12) (F := TX12) (N := 36) hx hb hts uX12 tyX12 tyX12_ok nmX12 hown hkb hH hS t_a0 (hO.no t_a0 (by decide)) (fun _ => Iff.rfl) rfl rfl 0 (by decide) rfl (⟨_, rfl⟩) kw_1223 (fun _ h9 => h9) rfl (tyX12_ok 0 (by decide)) rfl rfl dX12_dearest_2 (fun H locs hH hS => ?_)
  refine lv_aload_n hx hb dX12_dearest_5 rfl (lv_at hl 0 rfl) ?_
  refine lv_iload_n hx hb dX12_dearest_6 rfl (lv_at hl 1 rfl) ?_
  refine lv_i2l hx hb dX12_dearest_7 rfl ?_
  refine tk_i hH hS hA (tr_V (n := 1) (As := [.long x1.toInt64]) hx hb hml hown hts hkb hH hOX hks hE hS hA (s_M_isGuide l D cs kf T O X a0 hg mq x1.toInt64 t_a0 b_hg (hO.sub (by decide))) kw_1470 kw_1472 ks_67 kw_13 kw_1473 (by decide +kernel) ⟨Nat.le_of_ble_eq_true rfl, Nat.le_of_ble_eq_true rfl⟩ (HT.recv (ci := 12) hkb hH t_a0 (hO.no t_a0 (by decide)) rfl) rfl rfl hl.1 (Nat.le_of_ble_eq_true rfl) dX12_dearest_8 ⟨Nat.le_of_ble_eq_true rfl, Nat.le_of_ble_eq_true rfl⟩) (fun v8 u H locs hz9 hH hS => ?_)
  obtain ⟨rfl, l_v8, u_v8, x_v80⟩ := hz9
  simp only [Int32.toInt_toInt64] at x_v80
  have hH : HT D cs A T O X H := hH
  refine W.widen (k := 0) (n := 0) (Nat.le_of_ble_eq_true rfl) (Nat.le_of_ble_eq_true rfl) ?_
  refine lv_if_ne (tgt := 17) hx hb dX12_dearest_11 (by decide) (fun c11 => ?_) (fun c11 => ?_)
  · skip
    have tc11 := f_ne (k := 0) (by decide) c11
    replace x_v80 := x_v80.resolve_left tc11
    refine lv_aload_n hx hb dX12_dearest_17 rfl (lv_at hl 0 rfl) ?_
    refine lv_iload_n hx hb dX12_dearest_18 rfl (lv_at hl 1 rfl) ?_
    refine tk_v hH hS hA (tr_V (n := 1) (As := [.int x1]) hx hb hml hown hts hkb hH hOX hks hE hS hA (s_M_laysGuide l D cs kf T O X a0 hg mq x1 t_a0 b_hg (by omega) (by omega) (hO.sub (by decide))) kw_1502 kw_1504 ks_71 kw_13 kw_1505 (by decide +kernel) ⟨Nat.le_of_ble_eq_true rfl, Nat.le_of_ble_eq_true rfl⟩ (HT.recv (ci := 12) hkb hH t_a0 (hO.no t_a0 (by decide)) rfl) rfl rfl hl.1 (Nat.le_of_ble_eq_true rfl) dX12_dearest_19 ⟨Nat.le_of_ble_eq_true rfl, Nat.le_of_ble_eq_true rfl⟩) (fun u H locs hz9 hH hS => ?_)
    have hz9 : u = (T, O, X) := hz9
    subst hz9
    have hH : HT D cs A T O X H := hH
    refine W.widen (k := 0) (n := 0) (Nat.le_of_ble_eq_true rfl) (Nat.le_of_ble_eq_true rfl) ?_
    refine lv_aload_n hx hb dX12_dearest_22 rfl (lv_at hl 0 rfl) ?_
    refine tk_i hH hS hA (tr_V (n := 0) (As := []) hx hb hml hown hts hkb hH hOX hks hE hS hA (s_M_openSet l D cs kf T O X a0 hg mq t_a0 b_hg (hO.sub (by decide))) kw_1510 kw_1512 ks_73 kw_13 kw_1513 (by decide +kernel) ⟨Nat.le_of_ble_eq_true rfl, Nat.le_of_ble_eq_true rfl⟩ (HT.recv (ci := 12) hkb hH t_a0 (hO.no t_a0 (by decide)) rfl) rfl rfl hl.1 (Nat.le_of_ble_eq_true rfl) dX12_dearest_23 ⟨Nat.le_of_ble_eq_true rfl, Nat.le_of_ble_eq_true rfl⟩) (fun v23 u H locs hz9 hH hS => ?_)
    obtain ⟨rfl, l_v23, u_v23⟩ := hz9
    have hH : HT D cs A T O X H := hH
    refine W.widen (k := 0) (n := 0) (Nat.le_of_ble_eq_true rfl) (Nat.le_of_ble_eq_true rfl) ?_
    refine lv_istore_n (lv' := [(2, .int v23), (0, .ref a0), (1, .int x1)]) hx hb dX12_dearest_26 rfl hl (by decide) rfl (fun ls hl => ?_)
    refine lv_aload_n hx hb dX12_dearest_27 rfl (lv_at hl 1 rfl) ?_
    refine lv_iload_n hx hb dX12_dearest_28 rfl (lv_at hl 0 rfl) ?_
    refine tk_i hH hS hA (tr_V (n := 1) (As := [.int v23]) hx hb hml hown hts hkb hH hOX hks hE hS hA (s_M_partiesBy l D cs kf T O X a0 hg mq v23 t_a0 b_hg (by omega) (by omega) (hO.sub (by decide))) kw_1652 kw_1654 ks_92 kw_13 kw_1655 (by decide +kernel) ⟨Nat.le_of_ble_eq_true rfl, Nat.le_of_ble_eq_true rfl⟩ (HT.recv (ci := 12) hkb hH t_a0 (hO.no t_a0 (by decide)) rfl) rfl rfl hl.1 (Nat.le_of_ble_eq_true rfl) dX12_dearest_29 ⟨Nat.le_of_ble_eq_true rfl, Nat.le_of_ble_eq_true rfl⟩) (fun v29 u H locs hz9 hH hS => ?_)
    have hz9 : u = (T, O, X) := hz9
    subst hz9
    have hH : HT D cs A T O X H := hH
    refine W.widen (k := 0) (n := 0) (Nat.le_of_ble_eq_true rfl) (Nat.le_of_ble_eq_true rfl) ?_
    refine lv_istore_n (lv' := [(3, .int v29), (2, .int v23), (0, .ref a0), (1, .int x1)]) hx hb dX12_dearest_32 rfl hl (by decide) rfl (fun ls hl => ?_)
    refine lv_iconst (v := 0) hx hb dX12_dearest_33 (by decide) ?_
    have J36 : ∀ (n : Nat) (p36_4 : Int32) (H : Heap) (locs : List Loc) (ls : Array Slot), (14 - p36_4.toInt).toNat = n → (0 ≤ p36_4.toInt) → (p36_4.toInt ≤ 14) → HT D cs A T O X H → va_S A s.heap H locs → lv_has ls 5 [(4, .int p36_4), (3, .int v29), (2, .int v23), (0, .ref a0)] → W p l e { frames := 5, cells := 0, slots := 0, locals := 119 } s m [.ref a0, .int x1].toArray below meth c H locs 0 0 (MQ below (Ti D cs (fun r u => u = (T, O, X) ∧ -2 ≤ r.toInt ∧ r.toInt ≤ 13) A) [.ref a0, .int x1].toArray s 0 0 A) (F0 m 36 ls []) := by
      intro n
      induction n using Nat.strongRecOn with
      | _ n ih36 =>
        intro p36_4 H locs ls hm36 l_p36_4 u_p36_4 hH hS hl
        refine lv_iload hx hb dX12_dearest_36 (lv_at hl 0 rfl) ?_
        refine lv_aload_n hx hb dX12_dearest_38 rfl (lv_at hl 3 rfl) ?_
        refine t_get (ci := 12) (lst := ft12 hg mq) (C := RX12) (F := TX12) (N := 36) hx hb hts uX12 hown hkb hH t_a0 (hO.no t_a0 (by decide)) (fun _ h9 => h9) rfl rfl 1 (by decide) rfl kw_1224 (fun _ h9 => h9) dX12_dearest_39 (fun v9 h9 => ?_)
        obtain ⟨v39, rfl, t_v39⟩ := h9
        refine lv_iconst (v := 1) hx hb dX12_dearest_42 (by decide) ?_
        refine t_ild8 hx hb hkb hH t_v39 (hO.no t_v39 (by decide)) (by decide) (by decide) (by decide) dX12_dearest_43 (fun v43 h9 h8 => ?_)
        have q9 := (h8 rfl).1 rfl
        subst q9
        have eH9 : (nI (hg / 6)).toInt = (((hg / 6) : Nat) : Int) := nI_toInt (by omega)
        refine lv_icmp_ge (tgt := 89) hx hb dX12_dearest_44 (by decide) (fun c44 => ?_) (fun c44 => ?_)
        · skip
          have fuc44 := full_i p36_4
          have fvc44 := full_i (nI (hg / 6))
          have tc44 := g_le c44
          refine lv_iconst (v := (-1)) hx hb dX12_dearest_89 (by decide) ?_
          exact te_i hx hb hr hlocks hH hS (⟨rfl, by decide, by decide⟩) dX12_dearest_90
        · skip
          have fuc44 := full_i p36_4
          have fvc44 := full_i (nI (hg / 6))
          have tc44 := g_nle c44
          refine lv_iload_n hx hb dX12_dearest_47 rfl (lv_at hl 2 rfl) ?_
          refine lv_aload_n hx hb dX12_dearest_48 rfl (lv_at hl 3 rfl) ?_
          refine tk_i hH hS hA (tr_V (n := 0) (As := []) hx hb hml hown hts hkb hH hOX hks hE hS hA (s_M_ends l D cs kf T O X a0 hg mq t_a0 b_hg (hO.sub (by decide))) kw_1536 kw_1538 ks_78 kw_13 kw_1539 (by decide +kernel) ⟨Nat.le_of_ble_eq_true rfl, Nat.le_of_ble_eq_true rfl⟩ (HT.recv (ci := 12) hkb hH t_a0 (hO.no t_a0 (by decide)) rfl) rfl rfl hl.1 (Nat.le_of_ble_eq_true rfl) dX12_dearest_49 ⟨Nat.le_of_ble_eq_true rfl, Nat.le_of_ble_eq_true rfl⟩) (fun v49 u H locs hz9 hH hS => ?_)
          obtain ⟨rfl, l_v49, u_v49⟩ := hz9
          have hH : HT D cs A T O X H := hH
          refine W.widen (k := 0) (n := 0) (Nat.le_of_ble_eq_true rfl) (Nat.le_of_ble_eq_true rfl) ?_
          refine lv_iconst (v := (-1)) hx hb dX12_dearest_52 (by decide) ?_
          refine lv_ixor hx hb dX12_dearest_53 ?_
          refine lv_topi (fun v53 ev53 => ?_)
          refine lv_iand hx hb dX12_dearest_54 ?_
          refine lv_topi (fun v54 ev54 => ?_)
          have tv54 : 0 ≤ v54.toInt ∧ v54.toInt ≤ v23.toInt := by rw [ev54]; exact and_l (by omega)
          refine lv_i2l hx hb dX12_dearest_55 rfl ?_
          refine lv_iload hx hb dX12_dearest_56 (lv_at hl 0 rfl) ?_
          refine tk_i hH hS hA (tr_S (n := 2) (As := [.long v54.toInt64, .int p36_4]) hx hb hml hown hts hkb hH hOX hks hE hS hA (s_M_isIn2 l D cs kf T O X v54.toInt64 p36_4  (hO.sub (by decide))) kw_1440 kw_1441 kw_13 kw_1442 (by decide +kernel) ⟨Nat.le_of_ble_eq_true rfl, Nat.le_of_ble_eq_true rfl⟩ rfl rfl hl.1 (Nat.le_of_ble_eq_true rfl) dX12_dearest_58 ⟨Nat.le_of_ble_eq_true rfl, Nat.le_of_ble_eq_true rfl⟩) (fun v58 u H locs hz9 hH hS => ?_)
          obtain ⟨rfl, l_v58, u_v58, x_v580⟩ := hz9
          have hH : HT D cs A T O X H := hH
          refine W.widen (k := 0) (n := 0) (Nat.le_of_ble_eq_true rfl) (Nat.le_of_ble_eq_true rfl) ?_
          have J83 : ∀  (H : Heap) (locs : List Loc) (ls : Array Slot), HT D cs A T O X H → va_S A s.heap H locs → lv_has ls 5 [(4, .int p36_4), (3, .int v29), (2, .int v23), (0, .ref a0)] → W p l e { frames := 5, cells := 0, slots := 0, locals := 119 } s m [.ref a0, .int x1].toArray below meth c H locs 0 0 (MQ below (Ti D cs (fun r u => u = (T, O, X) ∧ -2 ≤ r.toInt ∧ r.toInt ≤ 13) A) [.ref a0, .int x1].toArray s 0 0 A) (F0 m 83 ls []) := by
            intro  H locs ls  hH hS hl
            obtain ⟨v83, ev83⟩ : ∃ y : Int32, y = p36_4 + 1 := ⟨_, rfl⟩
            have tv83 : v83.toInt = p36_4.toInt + (1) := by rw [ev83]; exact add_i rfl (by decide) (by omega) (by omega)
            refine lv_iinc (v := v83) (lv' := [(4, .int v83), (3, .int v29), (2, .int v23), (0, .ref a0)]) hx hb dX12_dearest_83 hl (k := 0) rfl (by rw [ev83]; rfl) (by decide) rfl (fun ls hl => ?_)
            refine lv_goto (tgt := 36) hx hb dX12_dearest_86 (by decide) ?_
            exact ih36 _ (by omega) v83 _ _ _ rfl (by omega) (by omega) hH hS (lv_sub hl [0, 1, 2, 3] rfl)
          refine lv_if_eq (tgt := 83) hx hb dX12_dearest_61 (by decide) (fun c61 => ?_) (fun c61 => ?_)
          · skip
            have tc61 := f_eq (k := 0) (by decide) c61
            exact J83  _ _ _  hH hS (lv_sub hl [0, 1, 2, 3] rfl)
          · skip
            have tc61 := f_ne (k := 0) (by decide) c61
            refine lv_aload_n hx hb dX12_dearest_64 rfl (lv_at hl 3 rfl) ?_
            refine lv_iload_n hx hb dX12_dearest_65 rfl (lv_at hl 2 rfl) ?_
            refine lv_iconst (v := 1) hx hb dX12_dearest_66 (by decide) ?_
            refine lv_iload hx hb dX12_dearest_67 (lv_at hl 0 rfl) ?_
            refine lv_ishl hx hb dX12_dearest_69 ?_
            refine lv_topi (fun v69 ev69 => ?_)
            have tv69 : 1 ≤ v69.toInt ∧ v69.toInt ≤ 8192 := by rw [ev69]; exact shl_b 13 (by decide) (by omega) (by omega)
            refine lv_iconst (v := (-1)) hx hb dX12_dearest_70 (by decide) ?_
            refine lv_ixor hx hb dX12_dearest_71 ?_
            refine lv_topi (fun v71 ev71 => ?_)
            refine lv_iand hx hb dX12_dearest_72 ?_
            refine lv_topi (fun v72 ev72 => ?_)
            have tv72 : 0 ≤ v72.toInt ∧ v72.toInt ≤ v23.toInt := by rw [ev72]; exact and_l (by omega)
            refine tk_i hH hS hA (tr_V (n := 1) (As := [.int v72]) hx hb hml hown hts hkb hH hOX hks hE hS hA (s_M_partiesBy l D cs kf T O X a0 hg mq v72 t_a0 b_hg (by omega) (by omega) (hO.sub (by decide))) kw_1652 kw_1654 ks_92 kw_13 kw_1655 (by decide +kernel) ⟨Nat.le_of_ble_eq_true rfl, Nat.le_of_ble_eq_true rfl⟩ (HT.recv (ci := 12) hkb hH t_a0 (hO.no t_a0 (by decide)) rfl) rfl rfl hl.1 (Nat.le_of_ble_eq_true rfl) dX12_dearest_73 ⟨Nat.le_of_ble_eq_true rfl, Nat.le_of_ble_eq_true rfl⟩) (fun v73 u H locs hz9 hH hS => ?_)
            have hz9 : u = (T, O, X) := hz9
            subst hz9
            have hH : HT D cs A T O X H := hH
            refine W.widen (k := 0) (n := 0) (Nat.le_of_ble_eq_true rfl) (Nat.le_of_ble_eq_true rfl) ?_
            refine lv_iload_n hx hb dX12_dearest_76 rfl (lv_at hl 1 rfl) ?_
            refine lv_icmp_ge (tgt := 83) hx hb dX12_dearest_77 (by decide) (fun c77 => ?_) (fun c77 => ?_)
            · skip
              have fuc77 := full_i v73
              have fvc77 := full_i v29
              have tc77 := g_le c77
              exact J83  _ _ _  hH hS (lv_sub hl [0, 1, 2, 3] rfl)
            · skip
              have fuc77 := full_i v73
              have fvc77 := full_i v29
              have tc77 := g_nle c77
              refine lv_iload hx hb dX12_dearest_80 (lv_at hl 0 rfl) ?_
              exact te_i hx hb hr hlocks hH hS (⟨rfl, by omega, by omega⟩) dX12_dearest_82
    refine lv_istore (lv' := [(4, .int 0), (3, .int v29), (2, .int v23), (0, .ref a0), (1, .int x1)]) hx hb dX12_dearest_34 hl (by decide) rfl (fun ls hl => ?_)
    exact J36 _ 0 _ _ _ rfl (by decide) (by decide) hH hS (lv_sub hl [0, 1, 2, 3] rfl)
  · skip
    have tc11 := f_eq (k := 0) (by decide) c11
    clear x_v80
    refine lv_bipush (v := (-2)) hx hb dX12_dearest_14 (by decide) ?_
    exact te_i hx hb hr hlocks hH hS (⟨rfl, by decide, by decide⟩) dX12_dearest_16
set_option maxHeartbeats 4000000 in
set_option maxRecDepth 100000 in
theorem s_M_saved (l : Launch) (D : va_G) (cs : CS) (kf : KF) (T : TF) (O : List Nat) (X : va_W) (a0 hg mq : Nat) (x1 : Int32) (t_a0 : T a0 = some (22, hg, mq)) (b_hg : hg < 90) (hO : okO T O [1, 2, 8, 9, 22]) : TK l D cs kf yX12_saved cX12_saved 5 (some (.int)) { frames := 6, cells := 0, slots := 0, locals := 140 } [.ref a0, .int x1] T O X (Ti D cs (fun r u => u = (T, O, X) ∧ -2 ≤ r.toInt ∧ r.toInt ≤ 16383)) := by
  refine tk_of (by decide) (Nat.le_of_ble_eq_true rfl) (fun p e s m below meth c ls A H locs hx hb hr hml hown hts hlocks hnm hkb hH hS hA hOX hks hE hl => ?_)
  have hown : s.vm.findClass RX12 = some m.cls := hown
  have hl : lv_has ls 5 [(0, .ref a0), (1, .int x1)] := hl
  refine lv_aload_n hx hb dX12_saved_0 rfl (lv_at hl 0 rfl) ?_
  refine lv_iconst (v := 0) hx hb dX12_saved_1 (by decide) ?_
  refine t_put (ci := 12) (lst := ft12 hg mq) (v := .int 0) (ty := tyX12 0) (C := RX12) (F := TX12) (N := 36) hx hb hts uX12 tyX12 tyX12_ok nmX12 hown hkb hH hS t_a0 (hO.no t_a0 (by decide)) (fun _ => Iff.rfl) rfl rfl 0 (by decide) rfl (⟨_, rfl⟩) kw_1223 (fun _ h9 => h9) rfl (tyX12_ok 0 (by decide)) rfl rfl dX12_saved_2 (fun H locs hH hS => ?_)
  refine lv_aload_n hx hb dX12_saved_5 rfl (lv_at hl 0 rfl) ?_
  refine lv_iload_n hx hb dX12_saved_6 rfl (lv_at hl 1 rfl) ?_
  refine lv_i2l hx hb dX12_saved_7 rfl ?_
  refine tk_i hH hS hA (tr_V (n := 1) (As := [.long x1.toInt64]) hx hb hml hown hts hkb hH hOX hks hE hS hA (s_M_isGuide l D cs kf T O X a0 hg mq x1.toInt64 t_a0 b_hg (hO.sub (by decide))) kw_1470 kw_1472 ks_67 kw_13 kw_1473 (by decide +kernel) ⟨Nat.le_of_ble_eq_true rfl, Nat.le_of_ble_eq_true rfl⟩ (HT.recv (ci := 12) hkb hH t_a0 (hO.no t_a0 (by decide)) rfl) rfl rfl hl.1 (Nat.le_of_ble_eq_true rfl) dX12_saved_8 ⟨Nat.le_of_ble_eq_true rfl, Nat.le_of_ble_eq_true rfl⟩) (fun v8 u H locs hz9 hH hS => ?_)
  obtain ⟨rfl, l_v8, u_v8, x_v80⟩ := hz9
  simp only [Int32.toInt_toInt64] at x_v80
  have hH : HT D cs A T O X H := hH
  refine W.widen (k := 0) (n := 0) (Nat.le_of_ble_eq_true rfl) (Nat.le_of_ble_eq_true rfl) ?_
  refine lv_if_ne (tgt := 17) hx hb dX12_saved_11 (by decide) (fun c11 => ?_) (fun c11 => ?_)
  · skip
    have tc11 := f_ne (k := 0) (by decide) c11
    replace x_v80 := x_v80.resolve_left tc11
    refine lv_aload_n hx hb dX12_saved_17 rfl (lv_at hl 0 rfl) ?_
    refine lv_iload_n hx hb dX12_saved_18 rfl (lv_at hl 1 rfl) ?_
    refine tk_v hH hS hA (tr_V (n := 1) (As := [.int x1]) hx hb hml hown hts hkb hH hOX hks hE hS hA (s_M_laysClimbsOf l D cs kf T O X a0 hg mq x1 t_a0 b_hg (by omega) (by omega) (hO.sub (by decide))) kw_1644 kw_1646 ks_91 kw_13 kw_1647 (by decide +kernel) ⟨Nat.le_of_ble_eq_true rfl, Nat.le_of_ble_eq_true rfl⟩ (HT.recv (ci := 12) hkb hH t_a0 (hO.no t_a0 (by decide)) rfl) rfl rfl hl.1 (Nat.le_of_ble_eq_true rfl) dX12_saved_19 ⟨Nat.le_of_ble_eq_true rfl, Nat.le_of_ble_eq_true rfl⟩) (fun u H locs hz9 hH hS => ?_)
    have hz9 : u = (T, O, X) := hz9
    subst hz9
    have hH : HT D cs A T O X H := hH
    refine W.widen (k := 0) (n := 0) (Nat.le_of_ble_eq_true rfl) (Nat.le_of_ble_eq_true rfl) ?_
    refine lv_iconst (v := (-1)) hx hb dX12_saved_22 (by decide) ?_
    refine lv_istore_n (lv' := [(2, .int (-1)), (0, .ref a0), (1, .int x1)]) hx hb dX12_saved_23 rfl hl (by decide) rfl (fun ls hl => ?_)
    refine lv_iconst (v := 0) hx hb dX12_saved_24 (by decide) ?_
    have J26 : ∀ (n : Nat) (p26_3 : Int32) (p26_2 : Int32) (H : Heap) (locs : List Loc) (ls : Array Slot), (16384 - p26_3.toInt).toNat = n → (0 ≤ p26_3.toInt) → (p26_3.toInt ≤ 16384) → (-1 ≤ p26_2.toInt) → (p26_2.toInt ≤ 16383) → HT D cs A T O X H → va_S A s.heap H locs → lv_has ls 5 [(3, .int p26_3), (2, .int p26_2), (0, .ref a0)] → W p l e { frames := 6, cells := 0, slots := 0, locals := 140 } s m [.ref a0, .int x1].toArray below meth c H locs 0 0 (MQ below (Ti D cs (fun r u => u = (T, O, X) ∧ -2 ≤ r.toInt ∧ r.toInt ≤ 16383) A) [.ref a0, .int x1].toArray s 0 0 A) (F0 m 26 ls []) := by
      intro n
      induction n using Nat.strongRecOn with
      | _ n ih26 =>
        intro p26_3 p26_2 H locs ls hm26 l_p26_3 u_p26_3 l_p26_2 u_p26_2 hH hS hl
        refine lv_iload_n hx hb dX12_saved_26 rfl (lv_at hl 0 rfl) ?_
        refine lv_iconst (v := 1) hx hb dX12_saved_27 (by decide) ?_
        refine lv_aload_n hx hb dX12_saved_28 rfl (lv_at hl 2 rfl) ?_
        refine t_get (ci := 12) (lst := ft12 hg mq) (C := RX12) (F := TX12) (N := 36) hx hb hts uX12 hown hkb hH t_a0 (hO.no t_a0 (by decide)) (fun _ h9 => h9) rfl rfl 1 (by decide) rfl kw_1224 (fun _ h9 => h9) dX12_saved_29 (fun v9 h9 => ?_)
        obtain ⟨v29, rfl, t_v29⟩ := h9
        refine lv_iconst (v := 1) hx hb dX12_saved_32 (by decide) ?_
        refine t_ild8 hx hb hkb hH t_v29 (hO.no t_v29 (by decide)) (by decide) (by decide) (by decide) dX12_saved_33 (fun v33 h9 h8 => ?_)
        have q9 := (h8 rfl).1 rfl
        subst q9
        have eH9 : (nI (hg / 6)).toInt = (((hg / 6) : Nat) : Int) := nI_toInt (by omega)
        refine lv_ishl hx hb dX12_saved_34 ?_
        refine lv_topi (fun v34 ev34 => ?_)
        have tv34 : 1 ≤ v34.toInt ∧ v34.toInt ≤ 16384 := by rw [ev34]; exact shl_b 14 (by decide) (by omega) (by omega)
        refine lv_icmp_ge (tgt := 105) hx hb dX12_saved_35 (by decide) (fun c35 => ?_) (fun c35 => ?_)
        · skip
          have fuc35 := full_i p26_3
          have fvc35 := full_i v34
          have tc35 := g_le c35
          refine lv_iload_n hx hb dX12_saved_105 rfl (lv_at hl 1 rfl) ?_
          exact te_i hx hb hr hlocks hH hS (⟨rfl, by omega, by omega⟩) dX12_saved_106
        · skip
          have fuc35 := full_i p26_3
          have fvc35 := full_i v34
          have tc35 := g_nle c35
          refine lv_iload_n hx hb dX12_saved_38 rfl (lv_at hl 0 rfl) ?_
          refine lv_aload_n hx hb dX12_saved_39 rfl (lv_at hl 2 rfl) ?_
          refine tk_i hH hS hA (tr_V (n := 0) (As := []) hx hb hml hown hts hkb hH hOX hks hE hS hA (s_M_ends l D cs kf T O X a0 hg mq t_a0 b_hg (hO.sub (by decide))) kw_1536 kw_1538 ks_78 kw_13 kw_1539 (by decide +kernel) ⟨Nat.le_of_ble_eq_true rfl, Nat.le_of_ble_eq_true rfl⟩ (HT.recv (ci := 12) hkb hH t_a0 (hO.no t_a0 (by decide)) rfl) rfl rfl hl.1 (Nat.le_of_ble_eq_true rfl) dX12_saved_40 ⟨Nat.le_of_ble_eq_true rfl, Nat.le_of_ble_eq_true rfl⟩) (fun v40 u H locs hz9 hH hS => ?_)
          obtain ⟨rfl, l_v40, u_v40⟩ := hz9
          have hH : HT D cs A T O X H := hH
          refine W.widen (k := 0) (n := 0) (Nat.le_of_ble_eq_true rfl) (Nat.le_of_ble_eq_true rfl) ?_
          refine lv_iconst (v := (-1)) hx hb dX12_saved_43 (by decide) ?_
          refine lv_ixor hx hb dX12_saved_44 ?_
          refine lv_topi (fun v44 ev44 => ?_)
          refine lv_iand hx hb dX12_saved_45 ?_
          refine lv_topi (fun v45 ev45 => ?_)
          have tv45 : 0 ≤ v45.toInt ∧ v45.toInt ≤ p26_3.toInt := by rw [ev45]; exact and_l (by omega)
          refine lv_istore (lv' := [(4, .int v45), (3, .int p26_3), (2, .int p26_2), (0, .ref a0)]) hx hb dX12_saved_46 hl (by decide) rfl (fun ls hl => ?_)
          refine lv_aload_n hx hb dX12_saved_48 rfl (lv_at hl 3 rfl) ?_
          refine lv_iload_n hx hb dX12_saved_49 rfl (lv_at hl 1 rfl) ?_
          refine tk_l hH hS hA (tr_V (n := 1) (As := [.int p26_3]) hx hb hml hown hts hkb hH hOX hks hE hS hA (s_M_climbsBy l D cs kf T O X a0 hg mq p26_3 t_a0 b_hg (by omega) (by omega) (hO.sub (by decide))) kw_1634 kw_1636 ks_90 kw_13 kw_1637 (by decide +kernel) ⟨Nat.le_of_ble_eq_true rfl, Nat.le_of_ble_eq_true rfl⟩ (HT.recv (ci := 12) hkb hH t_a0 (hO.no t_a0 (by decide)) rfl) rfl rfl hl.1 (Nat.le_of_ble_eq_true rfl) dX12_saved_50 ⟨Nat.le_of_ble_eq_true rfl, Nat.le_of_ble_eq_true rfl⟩) (fun v50 u H locs hz9 hH hS => ?_)
          have hz9 : u = (T, O, X) := hz9
          subst hz9
          have hH : HT D cs A T O X H := hH
          refine W.widen (k := 0) (n := 0) (Nat.le_of_ble_eq_true rfl) (Nat.le_of_ble_eq_true rfl) ?_
          refine lv_lconst (v := 0) hx hb dX12_saved_53 (by decide) ?_
          refine W.lcmp hx hb dX12_saved_54 ?_
          have J99 : ∀ (p99_2 : Int32) (H : Heap) (locs : List Loc) (ls : Array Slot), (-1 ≤ p99_2.toInt) → (p99_2.toInt ≤ 16383) → HT D cs A T O X H → va_S A s.heap H locs → lv_has ls 5 [(3, .int p26_3), (2, .int p99_2), (0, .ref a0)] → W p l e { frames := 6, cells := 0, slots := 0, locals := 140 } s m [.ref a0, .int x1].toArray below meth c H locs 0 0 (MQ below (Ti D cs (fun r u => u = (T, O, X) ∧ -2 ≤ r.toInt ∧ r.toInt ≤ 16383) A) [.ref a0, .int x1].toArray s 0 0 A) (F0 m 99 ls []) := by
            intro p99_2 H locs ls l_p99_2 u_p99_2 hH hS hl
            obtain ⟨v99, ev99⟩ : ∃ y : Int32, y = p26_3 + 1 := ⟨_, rfl⟩
            have tv99 : v99.toInt = p26_3.toInt + (1) := by rw [ev99]; exact add_i rfl (by decide) (by omega) (by omega)
            refine lv_iinc (v := v99) (lv' := [(3, .int v99), (2, .int p99_2), (0, .ref a0)]) hx hb dX12_saved_99 hl (k := 0) rfl (by rw [ev99]; rfl) (by decide) rfl (fun ls hl => ?_)
            refine lv_goto (tgt := 26) hx hb dX12_saved_102 (by decide) ?_
            exact ih26 _ (by omega) v99 p99_2 _ _ _ rfl (by omega) (by omega) (by omega) (by omega) hH hS (lv_sub hl [0, 1, 2] rfl)
          refine lv_if_ne (tgt := 61) hx hb dX12_saved_55 (by decide) (fun c55 => ?_) (fun c55 => ?_)
          · skip
            have tc55 := ne_l c55
            have kc55_0 : (0 : Int64).toInt = 0 := by decide
            refine lv_iload_n hx hb dX12_saved_61 rfl (lv_at hl 2 rfl) ?_
            refine lv_iconst (v := (-1)) hx hb dX12_saved_62 (by decide) ?_
            have J96 : ∀  (H : Heap) (locs : List Loc) (ls : Array Slot), HT D cs A T O X H → va_S A s.heap H locs → lv_has ls 5 [(4, .int v45), (3, .int p26_3), (0, .ref a0)] → W p l e { frames := 6, cells := 0, slots := 0, locals := 140 } s m [.ref a0, .int x1].toArray below meth c H locs 0 0 (MQ below (Ti D cs (fun r u => u = (T, O, X) ∧ -2 ≤ r.toInt ∧ r.toInt ≤ 16383) A) [.ref a0, .int x1].toArray s 0 0 A) (F0 m 96 ls []) := by
              intro  H locs ls  hH hS hl
              refine lv_iload hx hb dX12_saved_96 (lv_at hl 0 rfl) ?_
              refine lv_istore_n (lv' := [(2, .int v45), (4, .int v45), (3, .int p26_3), (0, .ref a0)]) hx hb dX12_saved_98 rfl hl (by decide) rfl (fun ls hl => ?_)
              exact J99 v45 _ _ _ (by omega) (by omega) hH hS (lv_sub hl [2, 0, 3] rfl)
            refine lv_icmp_eq (tgt := 96) hx hb dX12_saved_63 (by decide) (fun c63 => ?_) (fun c63 => ?_)
            · skip
              have tc63 := f_eq (k := -1) (by decide) c63
              exact J96  _ _ _  hH hS (lv_sub hl [0, 1, 3] rfl)
            · skip
              have tc63 := f_ne (k := -1) (by decide) c63
              refine lv_iload hx hb dX12_saved_66 (lv_at hl 0 rfl) ?_
              refine tk_i hH hS hA (tr_S (n := 1) (As := [.int v45]) hx hb hml hown hts hkb hH hOX hks hE hS hA (s_M_bitsOf l D cs kf T O X v45  (hO.sub (by decide))) kw_1631 kw_1632 kw_13 kw_1633 (by decide +kernel) ⟨Nat.le_of_ble_eq_true rfl, Nat.le_of_ble_eq_true rfl⟩ rfl rfl hl.1 (Nat.le_of_ble_eq_true rfl) dX12_saved_68 ⟨Nat.le_of_ble_eq_true rfl, Nat.le_of_ble_eq_true rfl⟩) (fun v68 u H locs hz9 hH hS => ?_)
              have hz9 : u = (T, O, X) := hz9
              subst hz9
              have hH : HT D cs A T O X H := hH
              refine W.widen (k := 0) (n := 0) (Nat.le_of_ble_eq_true rfl) (Nat.le_of_ble_eq_true rfl) ?_
              refine lv_iload_n hx hb dX12_saved_71 rfl (lv_at hl 2 rfl) ?_
              refine tk_i hH hS hA (tr_S (n := 1) (As := [.int p26_2]) hx hb hml hown hts hkb hH hOX hks hE hS hA (s_M_bitsOf l D cs kf T O X p26_2  (hO.sub (by decide))) kw_1631 kw_1632 kw_13 kw_1633 (by decide +kernel) ⟨Nat.le_of_ble_eq_true rfl, Nat.le_of_ble_eq_true rfl⟩ rfl rfl hl.1 (Nat.le_of_ble_eq_true rfl) dX12_saved_72 ⟨Nat.le_of_ble_eq_true rfl, Nat.le_of_ble_eq_true rfl⟩) (fun v72 u H locs hz9 hH hS => ?_)
              have hz9 : u = (T, O, X) := hz9
              subst hz9
              have hH : HT D cs A T O X H := hH
              refine W.widen (k := 0) (n := 0) (Nat.le_of_ble_eq_true rfl) (Nat.le_of_ble_eq_true rfl) ?_
              refine lv_icmp_lt (tgt := 96) hx hb dX12_saved_75 (by decide) (fun c75 => ?_) (fun c75 => ?_)
              · skip
                have fuc75 := full_i v68
                have fvc75 := full_i v72
                have tc75 := g_lt c75
                exact J96  _ _ _  hH hS (lv_sub hl [0, 1, 3] rfl)
              · skip
                have fuc75 := full_i v68
                have fvc75 := full_i v72
                have tc75 := g_nlt c75
                refine lv_iload hx hb dX12_saved_78 (lv_at hl 0 rfl) ?_
                refine tk_i hH hS hA (tr_S (n := 1) (As := [.int v45]) hx hb hml hown hts hkb hH hOX hks hE hS hA (s_M_bitsOf l D cs kf T O X v45  (hO.sub (by decide))) kw_1631 kw_1632 kw_13 kw_1633 (by decide +kernel) ⟨Nat.le_of_ble_eq_true rfl, Nat.le_of_ble_eq_true rfl⟩ rfl rfl hl.1 (Nat.le_of_ble_eq_true rfl) dX12_saved_80 ⟨Nat.le_of_ble_eq_true rfl, Nat.le_of_ble_eq_true rfl⟩) (fun v80 u H locs hz9 hH hS => ?_)
                have hz9 : u = (T, O, X) := hz9
                subst hz9
                have hH : HT D cs A T O X H := hH
                refine W.widen (k := 0) (n := 0) (Nat.le_of_ble_eq_true rfl) (Nat.le_of_ble_eq_true rfl) ?_
                refine lv_iload_n hx hb dX12_saved_83 rfl (lv_at hl 2 rfl) ?_
                refine tk_i hH hS hA (tr_S (n := 1) (As := [.int p26_2]) hx hb hml hown hts hkb hH hOX hks hE hS hA (s_M_bitsOf l D cs kf T O X p26_2  (hO.sub (by decide))) kw_1631 kw_1632 kw_13 kw_1633 (by decide +kernel) ⟨Nat.le_of_ble_eq_true rfl, Nat.le_of_ble_eq_true rfl⟩ rfl rfl hl.1 (Nat.le_of_ble_eq_true rfl) dX12_saved_84 ⟨Nat.le_of_ble_eq_true rfl, Nat.le_of_ble_eq_true rfl⟩) (fun v84 u H locs hz9 hH hS => ?_)
                have hz9 : u = (T, O, X) := hz9
                subst hz9
                have hH : HT D cs A T O X H := hH
                refine W.widen (k := 0) (n := 0) (Nat.le_of_ble_eq_true rfl) (Nat.le_of_ble_eq_true rfl) ?_
                refine lv_icmp_ne (tgt := 99) hx hb dX12_saved_87 (by decide) (fun c87 => ?_) (fun c87 => ?_)
                · skip
                  have fuc87 := full_i v80
                  have fvc87 := full_i v84
                  have tc87 := g_ne c87
                  exact J99 p26_2 _ _ _ (by omega) (by omega) hH hS (lv_sub hl [1, 2, 3] rfl)
                · skip
                  have fuc87 := full_i v80
                  have fvc87 := full_i v84
                  have tc87 := g_eq c87
                  refine lv_iload hx hb dX12_saved_90 (lv_at hl 0 rfl) ?_
                  refine lv_iload_n hx hb dX12_saved_92 rfl (lv_at hl 2 rfl) ?_
                  refine lv_icmp_ge (tgt := 99) hx hb dX12_saved_93 (by decide) (fun c93 => ?_) (fun c93 => ?_)
                  · skip
                    have fuc93 := full_i v45
                    have fvc93 := full_i p26_2
                    have tc93 := g_le c93
                    exact J99 p26_2 _ _ _ (by omega) (by omega) hH hS (lv_sub hl [1, 2, 3] rfl)
                  · skip
                    have fuc93 := full_i v45
                    have fvc93 := full_i p26_2
                    have tc93 := g_nle c93
                    exact J96  _ _ _  hH hS (lv_sub hl [0, 1, 3] rfl)
          · skip
            have tc55 := eq_l c55
            have kc55_0 : (0 : Int64).toInt = 0 := by decide
            refine lv_goto (tgt := 99) hx hb dX12_saved_58 (by decide) ?_
            exact J99 p26_2 _ _ _ (by omega) (by omega) hH hS (lv_sub hl [1, 2, 3] rfl)
    refine lv_istore_n (lv' := [(3, .int 0), (2, .int (-1)), (0, .ref a0), (1, .int x1)]) hx hb dX12_saved_25 rfl hl (by decide) rfl (fun ls hl => ?_)
    exact J26 _ 0 (-1) _ _ _ rfl (by decide) (by decide) (by decide) (by decide) hH hS (lv_sub hl [0, 1, 2] rfl)
  · skip
    have tc11 := f_eq (k := 0) (by decide) c11
    clear x_v80
    refine lv_bipush (v := (-2)) hx hb dX12_saved_14 (by decide) ?_
    exact te_i hx hb hr hlocks hH hS (⟨rfl, by decide, by decide⟩) dX12_saved_16
set_option maxHeartbeats 4000000 in
set_option maxRecDepth 100000 in
theorem s_M_isSetOf (l : Launch) (D : va_G) (cs : CS) (kf : KF) (T : TF) (O : List Nat) (X : va_W) (a0 hg mq : Nat) (x1 : Int32) (t_a0 : T a0 = some (22, hg, mq)) (b_hg : hg < 90) (hO : okO T O [8, 22]) : TK l D cs kf yX12_isSetOf cX12_isSetOf 2 (some (.boolean)) { frames := 3, cells := 0, slots := 0, locals := 65 } [.ref a0, .int x1] T O X (Ti D cs (fun r u => u = (T, O, X) ∧ 0 ≤ r.toInt ∧ r.toInt ≤ 1)) := by
  refine tk_of (by decide) (Nat.le_of_ble_eq_true rfl) (fun p e s m below meth c ls A H locs hx hb hr hml hown hts hlocks hnm hkb hH hS hA hOX hks hE hl => ?_)
  have hown : s.vm.findClass RX12 = some m.cls := hown
  have hl : lv_has ls 2 [(0, .ref a0), (1, .int x1)] := hl
  refine lv_iload_n hx hb dX12_isSetOf_0 rfl (lv_at hl 1 rfl) ?_
  refine lv_aload_n hx hb dX12_isSetOf_1 rfl (lv_at hl 0 rfl) ?_
  refine tk_i hH hS hA (tr_V (n := 0) (As := []) hx hb hml hown hts hkb hH hOX hks hE hS hA (s_M_thereSet l D cs kf T O X a0 hg mq t_a0 b_hg (hO.sub (by decide))) kw_1724 kw_1726 ks_99 kw_13 kw_1727 (by decide +kernel) ⟨Nat.le_of_ble_eq_true rfl, Nat.le_of_ble_eq_true rfl⟩ (HT.recv (ci := 12) hkb hH t_a0 (hO.no t_a0 (by decide)) rfl) rfl rfl hl.1 (Nat.le_of_ble_eq_true rfl) dX12_isSetOf_2 ⟨Nat.le_of_ble_eq_true rfl, Nat.le_of_ble_eq_true rfl⟩) (fun v2 u H locs hz9 hH hS => ?_)
  obtain ⟨rfl, l_v2, u_v2⟩ := hz9
  have hH : HT D cs A T O X H := hH
  refine W.widen (k := 0) (n := 0) (Nat.le_of_ble_eq_true rfl) (Nat.le_of_ble_eq_true rfl) ?_
  refine lv_aload_n hx hb dX12_isSetOf_5 rfl (lv_at hl 0 rfl) ?_
  refine tk_i hH hS hA (tr_V (n := 0) (As := []) hx hb hml hown hts hkb hH hOX hks hE hS hA (s_M_ends l D cs kf T O X a0 hg mq t_a0 b_hg (hO.sub (by decide))) kw_1536 kw_1538 ks_78 kw_13 kw_1539 (by decide +kernel) ⟨Nat.le_of_ble_eq_true rfl, Nat.le_of_ble_eq_true rfl⟩ (HT.recv (ci := 12) hkb hH t_a0 (hO.no t_a0 (by decide)) rfl) rfl rfl hl.1 (Nat.le_of_ble_eq_true rfl) dX12_isSetOf_6 ⟨Nat.le_of_ble_eq_true rfl, Nat.le_of_ble_eq_true rfl⟩) (fun v6 u H locs hz9 hH hS => ?_)
  obtain ⟨rfl, l_v6, u_v6⟩ := hz9
  have hH : HT D cs A T O X H := hH
  refine W.widen (k := 0) (n := 0) (Nat.le_of_ble_eq_true rfl) (Nat.le_of_ble_eq_true rfl) ?_
  refine lv_iconst (v := (-1)) hx hb dX12_isSetOf_9 (by decide) ?_
  refine lv_ixor hx hb dX12_isSetOf_10 ?_
  refine lv_topi (fun v10 ev10 => ?_)
  refine lv_iand hx hb dX12_isSetOf_11 ?_
  refine lv_topi (fun v11 ev11 => ?_)
  have tv11 : 0 ≤ v11.toInt ∧ v11.toInt ≤ v2.toInt := by rw [ev11]; exact and_l (by omega)
  refine lv_iconst (v := (-1)) hx hb dX12_isSetOf_12 (by decide) ?_
  refine lv_ixor hx hb dX12_isSetOf_13 ?_
  refine lv_topi (fun v13 ev13 => ?_)
  refine lv_iand hx hb dX12_isSetOf_14 ?_
  refine lv_topi (fun v14 ev14 => ?_)
  have J23 : ∀ (k23_0 : Int32) (H : Heap) (locs : List Loc) (ls : Array Slot), (0 ≤ k23_0.toInt) → (k23_0.toInt ≤ 1) → HT D cs A T O X H → va_S A s.heap H locs → lv_has ls 2 [] → W p l e { frames := 3, cells := 0, slots := 0, locals := 65 } s m [.ref a0, .int x1].toArray below meth c H locs 0 0 (MQ below (Ti D cs (fun r u => u = (T, O, X) ∧ 0 ≤ r.toInt ∧ r.toInt ≤ 1) A) [.ref a0, .int x1].toArray s 0 0 A) (F0 m 23 ls [.int k23_0]) := by
    intro k23_0 H locs ls l_k23_0 u_k23_0 hH hS hl
    exact te_z hx hb hr hlocks (nar01 (by omega) (by omega)) hH hS (⟨rfl, by omega, by omega⟩) dX12_isSetOf_23
  refine lv_if_ne (tgt := 22) hx hb dX12_isSetOf_15 (by decide) (fun c15 => ?_) (fun c15 => ?_)
  · skip
    have tc15 := f_ne (k := 0) (by decide) c15
    refine lv_iconst (v := 0) hx hb dX12_isSetOf_22 (by decide) ?_
    exact J23 0 _ _ _ (by decide) (by decide) hH hS (lv_sub hl [] rfl)
  · skip
    have tc15 := f_eq (k := 0) (by decide) c15
    refine lv_iconst (v := 1) hx hb dX12_isSetOf_18 (by decide) ?_
    refine lv_goto (tgt := 23) hx hb dX12_isSetOf_19 (by decide) ?_
    exact J23 1 _ _ _ (by decide) (by decide) hH hS (lv_sub hl [] rfl)
theorem dX12_numbers_0 : decode cX12_numbers 0 = .ok (.aload_n 0, 1) := by decide +kernel
theorem dX12_numbers_1 : decode cX12_numbers 1 = .ok (.iconst 0, 1) := by decide +kernel
theorem dX12_numbers_2 : decode cX12_numbers 2 = .ok (.putfield 1, 3) := by decide +kernel
theorem dX12_numbers_5 : decode cX12_numbers 5 = .ok (.iload_n 1, 1) := by decide +kernel
theorem dX12_numbers_6 : decode cX12_numbers 6 = .ok (.i2l, 1) := by decide +kernel
theorem dX12_numbers_7 : decode cX12_numbers 7 = .ok (.lconst 0, 1) := by decide +kernel
theorem dX12_numbers_8 : decode cX12_numbers 8 = .ok (.ldc2_w 275, 3) := by decide +kernel
theorem dX12_numbers_11 : decode cX12_numbers 11 = .ok (.invokestatic 144, 3) := by decide +kernel
theorem dX12_numbers_14 : decode cX12_numbers 14 = .ok (.ifCond .eq 15, 3) := by decide +kernel
theorem dX12_numbers_17 : decode cX12_numbers 17 = .ok (.iload_n 2, 1) := by decide +kernel
theorem dX12_numbers_18 : decode cX12_numbers 18 = .ok (.i2l, 1) := by decide +kernel
theorem dX12_numbers_19 : decode cX12_numbers 19 = .ok (.lconst 0, 1) := by decide +kernel
theorem dX12_numbers_20 : decode cX12_numbers 20 = .ok (.ldc2_w 275, 3) := by decide +kernel
theorem dX12_numbers_23 : decode cX12_numbers 23 = .ok (.invokestatic 144, 3) := by decide +kernel
theorem dX12_numbers_26 : decode cX12_numbers 26 = .ok (.ifCond .ne 6, 3) := by decide +kernel
theorem dX12_numbers_29 : decode cX12_numbers 29 = .ok (.bipush (-2), 2) := by decide +kernel
theorem dX12_numbers_31 : decode cX12_numbers 31 = .ok (.ireturn, 1) := by decide +kernel
theorem dX12_numbers_32 : decode cX12_numbers 32 = .ok (.iload_n 3, 1) := by decide +kernel
theorem dX12_numbers_33 : decode cX12_numbers 33 = .ok (.i2l, 1) := by decide +kernel
theorem dX12_numbers_34 : decode cX12_numbers 34 = .ok (.lconst 0, 1) := by decide +kernel
theorem dX12_numbers_35 : decode cX12_numbers 35 = .ok (.ldc2_w 324, 3) := by decide +kernel
theorem dX12_numbers_38 : decode cX12_numbers 38 = .ok (.invokestatic 144, 3) := by decide +kernel
theorem dX12_numbers_41 : decode cX12_numbers 41 = .ok (.ifCond .ne 6, 3) := by decide +kernel
theorem dX12_numbers_44 : decode cX12_numbers 44 = .ok (.bipush (-3), 2) := by decide +kernel
theorem dX12_numbers_46 : decode cX12_numbers 46 = .ok (.ireturn, 1) := by decide +kernel
theorem dX12_numbers_47 : decode cX12_numbers 47 = .ok (.aload_n 0, 1) := by decide +kernel
theorem dX12_numbers_48 : decode cX12_numbers 48 = .ok (.getfield 69, 3) := by decide +kernel
theorem dX12_numbers_51 : decode cX12_numbers 51 = .ok (.iload_n 1, 1) := by decide +kernel
theorem dX12_numbers_52 : decode cX12_numbers 52 = .ok (.iload_n 2, 1) := by decide +kernel
theorem dX12_numbers_53 : decode cX12_numbers 53 = .ok (.iastore, 1) := by decide +kernel
theorem dX12_numbers_54 : decode cX12_numbers 54 = .ok (.aload_n 0, 1) := by decide +kernel
theorem dX12_numbers_55 : decode cX12_numbers 55 = .ok (.getfield 72, 3) := by decide +kernel
theorem dX12_numbers_58 : decode cX12_numbers 58 = .ok (.iload_n 1, 1) := by decide +kernel
theorem dX12_numbers_59 : decode cX12_numbers 59 = .ok (.iload_n 3, 1) := by decide +kernel
theorem dX12_numbers_60 : decode cX12_numbers 60 = .ok (.iastore, 1) := by decide +kernel
theorem dX12_numbers_61 : decode cX12_numbers 61 = .ok (.iconst 0, 1) := by decide +kernel
theorem dX12_numbers_62 : decode cX12_numbers 62 = .ok (.istore 4, 2) := by decide +kernel
theorem dX12_numbers_64 : decode cX12_numbers 64 = .ok (.iload 4, 2) := by decide +kernel
theorem dX12_numbers_66 : decode cX12_numbers 66 = .ok (.iload_n 3, 1) := by decide +kernel
theorem dX12_numbers_67 : decode cX12_numbers 67 = .ok (.if_icmp .ge 22, 3) := by decide +kernel
theorem dX12_numbers_70 : decode cX12_numbers 70 = .ok (.aload_n 0, 1) := by decide +kernel
theorem dX12_numbers_71 : decode cX12_numbers 71 = .ok (.getfield 75, 3) := by decide +kernel
theorem dX12_numbers_74 : decode cX12_numbers 74 = .ok (.bipush 40, 2) := by decide +kernel
theorem dX12_numbers_76 : decode cX12_numbers 76 = .ok (.iload_n 1, 1) := by decide +kernel
theorem dX12_numbers_77 : decode cX12_numbers 77 = .ok (.imul, 1) := by decide +kernel
theorem dX12_numbers_78 : decode cX12_numbers 78 = .ok (.iload 4, 2) := by decide +kernel
theorem dX12_numbers_80 : decode cX12_numbers 80 = .ok (.iadd, 1) := by decide +kernel
theorem dX12_numbers_81 : decode cX12_numbers 81 = .ok (.lconst 0, 1) := by decide +kernel
theorem dX12_numbers_82 : decode cX12_numbers 82 = .ok (.lastore, 1) := by decide +kernel
theorem dX12_numbers_83 : decode cX12_numbers 83 = .ok (.iinc 4 1, 3) := by decide +kernel
theorem dX12_numbers_86 : decode cX12_numbers 86 = .ok (.goto (-22), 3) := by decide +kernel
theorem dX12_numbers_89 : decode cX12_numbers 89 = .ok (.iconst 0, 1) := by decide +kernel
theorem dX12_numbers_90 : decode cX12_numbers 90 = .ok (.ireturn, 1) := by decide +kernel
theorem dX12_write_0 : decode cX12_write 0 = .ok (.aload_n 0, 1) := by decide +kernel
theorem dX12_write_1 : decode cX12_write 1 = .ok (.iconst 0, 1) := by decide +kernel
theorem dX12_write_2 : decode cX12_write 2 = .ok (.putfield 1, 3) := by decide +kernel
theorem dX12_write_5 : decode cX12_write 5 = .ok (.aload_n 0, 1) := by decide +kernel
theorem dX12_write_6 : decode cX12_write 6 = .ok (.iload_n 1, 1) := by decide +kernel
theorem dX12_write_7 : decode cX12_write 7 = .ok (.invokevirtual 289, 3) := by decide +kernel
theorem dX12_write_10 : decode cX12_write 10 = .ok (.istore 5, 2) := by decide +kernel
theorem dX12_write_12 : decode cX12_write 12 = .ok (.iload 5, 2) := by decide +kernel
theorem dX12_write_14 : decode cX12_write 14 = .ok (.ifCond .eq 7, 3) := by decide +kernel
theorem dX12_write_17 : decode cX12_write 17 = .ok (.iload 5, 2) := by decide +kernel
theorem dX12_write_19 : decode cX12_write 19 = .ok (.i2l, 1) := by decide +kernel
theorem dX12_write_20 : decode cX12_write 20 = .ok (.lreturn, 1) := by decide +kernel
theorem dX12_write_21 : decode cX12_write 21 = .ok (.iload_n 2, 1) := by decide +kernel
theorem dX12_write_22 : decode cX12_write 22 = .ok (.i2l, 1) := by decide +kernel
theorem dX12_write_23 : decode cX12_write 23 = .ok (.lconst 0, 1) := by decide +kernel
theorem dX12_write_24 : decode cX12_write 24 = .ok (.aload_n 0, 1) := by decide +kernel
theorem dX12_write_25 : decode cX12_write 25 = .ok (.getfield 72, 3) := by decide +kernel
theorem dX12_write_28 : decode cX12_write 28 = .ok (.iload_n 1, 1) := by decide +kernel
theorem dX12_write_29 : decode cX12_write 29 = .ok (.iaload, 1) := by decide +kernel
theorem dX12_write_30 : decode cX12_write 30 = .ok (.iconst 1, 1) := by decide +kernel
theorem dX12_write_31 : decode cX12_write 31 = .ok (.isub, 1) := by decide +kernel
theorem dX12_write_32 : decode cX12_write 32 = .ok (.i2l, 1) := by decide +kernel
theorem dX12_write_33 : decode cX12_write 33 = .ok (.invokestatic 144, 3) := by decide +kernel
theorem dX12_write_36 : decode cX12_write 36 = .ok (.ifCond .ne 7, 3) := by decide +kernel
theorem dX12_write_39 : decode cX12_write 39 = .ok (.ldc2_w 394, 3) := by decide +kernel
theorem dX12_write_42 : decode cX12_write 42 = .ok (.lreturn, 1) := by decide +kernel
theorem dX12_write_43 : decode cX12_write 43 = .ok (.aload_n 0, 1) := by decide +kernel
theorem dX12_write_44 : decode cX12_write 44 = .ok (.getfield 75, 3) := by decide +kernel
theorem dX12_write_47 : decode cX12_write 47 = .ok (.bipush 40, 2) := by decide +kernel
theorem dX12_write_49 : decode cX12_write 49 = .ok (.iload_n 1, 1) := by decide +kernel
theorem dX12_write_50 : decode cX12_write 50 = .ok (.imul, 1) := by decide +kernel
theorem dX12_write_51 : decode cX12_write 51 = .ok (.iload_n 2, 1) := by decide +kernel
theorem dX12_write_52 : decode cX12_write 52 = .ok (.iadd, 1) := by decide +kernel
theorem dX12_write_53 : decode cX12_write 53 = .ok (.lload_n 3, 1) := by decide +kernel
theorem dX12_write_54 : decode cX12_write 54 = .ok (.aload_n 0, 1) := by decide +kernel
theorem dX12_write_55 : decode cX12_write 55 = .ok (.getfield 69, 3) := by decide +kernel
theorem dX12_write_58 : decode cX12_write 58 = .ok (.iload_n 1, 1) := by decide +kernel
theorem dX12_write_59 : decode cX12_write 59 = .ok (.iaload, 1) := by decide +kernel
theorem dX12_write_60 : decode cX12_write 60 = .ok (.invokestatic 396, 3) := by decide +kernel
theorem dX12_write_63 : decode cX12_write 63 = .ok (.lastore, 1) := by decide +kernel
theorem dX12_write_64 : decode cX12_write 64 = .ok (.aload_n 0, 1) := by decide +kernel
theorem dX12_write_65 : decode cX12_write 65 = .ok (.getfield 75, 3) := by decide +kernel
theorem dX12_write_68 : decode cX12_write 68 = .ok (.bipush 40, 2) := by decide +kernel
theorem dX12_write_70 : decode cX12_write 70 = .ok (.iload_n 1, 1) := by decide +kernel
theorem dX12_write_71 : decode cX12_write 71 = .ok (.imul, 1) := by decide +kernel
theorem dX12_write_72 : decode cX12_write 72 = .ok (.iload_n 2, 1) := by decide +kernel
theorem dX12_write_73 : decode cX12_write 73 = .ok (.iadd, 1) := by decide +kernel
theorem dX12_write_74 : decode cX12_write 74 = .ok (.laload, 1) := by decide +kernel
theorem dX12_write_75 : decode cX12_write 75 = .ok (.lreturn, 1) := by decide +kernel
theorem kw_1257 : Cond.fieldLink "FootholdWallModel" 72 "FootholdWallModel" "rowMany" "[I" ∈ gw := gw_of (tb_of 1257 (by decide +kernel)) (by decide +kernel)
theorem kw_1258 : Cond.fieldLink "FootholdWallModel" 75 "FootholdWallModel" "numbers" "[J" ∈ gw := gw_of (tb_of 1258 (by decide +kernel)) (by decide +kernel)
theorem kw_1523 : Cond.methodLink "FootholdWallModel" 289 yX12_noTray ∈ gw := gw_of (tb_of 1523 (by decide +kernel)) (by decide +kernel)
theorem kw_1525 : Cond.instanceMethod yX12_noTray ∈ gw := gw_of (tb_of 1525 (by decide +kernel)) (by decide +kernel)
theorem kw_1526 : Cond.code yX12_noTray cX12_noTray 2 (some (.int)) ∈ gw := gw_of (tb_of 1526 (by decide +kernel)) (by decide +kernel)
theorem kw_1607 : Cond.constantLong "FootholdWallModel" 324 40 ∈ gw := gw_of (tb_of 1607 (by decide +kernel)) (by decide +kernel)
theorem kw_1768 : Cond.constantLong "FootholdWallModel" 394 (-7) ∈ gw := gw_of (tb_of 1768 (by decide +kernel)) (by decide +kernel)
theorem kw_1769 : Cond.methodLink "FootholdWallModel" 396 yX12_cut ∈ gw := gw_of (tb_of 1769 (by decide +kernel)) (by decide +kernel)
theorem kw_1770 : Cond.static yX12_cut ∈ gw := gw_of (tb_of 1770 (by decide +kernel)) (by decide +kernel)
theorem kw_1771 : Cond.code yX12_cut cX12_cut 3 (some (.long)) ∈ gw := gw_of (tb_of 1771 (by decide +kernel)) (by decide +kernel)
theorem ks_75 : Cond.selects RX12 yX12_noTray yX12_noTray ∈ gw := gw_of (pv_of 75 (by decide +kernel)) (by decide +kernel)
set_option maxHeartbeats 4000000 in
set_option maxRecDepth 100000 in
theorem s_M_numbers (l : Launch) (D : va_G) (cs : CS) (kf : KF) (T : TF) (O : List Nat) (X : va_W) (a0 hg mq : Nat) (x1 : Int32) (x2 : Int32) (x3 : Int32) (t_a0 : T a0 = some (22, hg, mq)) (b_hg : hg < 90) (hO : okO T O [1, 2, 22]) : TK l D cs kf yX12_numbers cX12_numbers 5 (some (.int)) { frames := 1, cells := 0, slots := 0, locals := 25 } [.ref a0, .int x1, .int x2, .int x3] T O X (Ti D cs (fun r u => u = (T, O, X) ∧ -3 ≤ r.toInt ∧ r.toInt ≤ 0)) := by
  refine tk_of (by decide) (Nat.le_of_ble_eq_true rfl) (fun p e s m below meth c ls A H locs hx hb hr hml hown hts hlocks hnm hkb hH hS hA hOX hks hE hl => ?_)
  have hown : s.vm.findClass RX12 = some m.cls := hown
  have hl : lv_has ls 5 [(0, .ref a0), (1, .int x1), (2, .int x2), (3, .int x3)] := hl
  refine lv_aload_n hx hb dX12_numbers_0 rfl (lv_at hl 0 rfl) ?_
  refine lv_iconst (v := 0) hx hb dX12_numbers_1 (by decide) ?_
  refine t_put (ci := 12) (lst := ft12 hg mq) (v := .int 0) (ty := tyX12 0) (C := RX12) (F := TX12) (N := 36) hx hb hts uX12 tyX12 tyX12_ok nmX12 hown hkb hH hS t_a0 (hO.no t_a0 (by decide)) (fun _ => Iff.rfl) rfl rfl 0 (by decide) rfl (⟨_, rfl⟩) kw_1223 (fun _ h9 => h9) rfl (tyX12_ok 0 (by decide)) rfl rfl dX12_numbers_2 (fun H locs hH hS => ?_)
  refine lv_iload_n hx hb dX12_numbers_5 rfl (lv_at hl 1 rfl) ?_
  refine lv_i2l hx hb dX12_numbers_6 rfl ?_
  refine lv_lconst (v := 0) hx hb dX12_numbers_7 (by decide) ?_
  refine lv_ldc2 hx hb hown (hts _ kw_1527) dX12_numbers_8 ?_
  refine tk_i hH hS hA (tr_S (n := 3) (As := [.long x1.toInt64, .long 0, .long 3]) hx hb hml hown hts hkb hH hOX hks hE hS hA (s_M_within l D cs kf T O X x1.toInt64 0 3  (hO.sub (by decide))) kw_1341 kw_1342 kw_13 kw_1343 (by decide +kernel) ⟨Nat.le_of_ble_eq_true rfl, Nat.le_of_ble_eq_true rfl⟩ rfl rfl hl.1 (Nat.le_of_ble_eq_true rfl) dX12_numbers_11 ⟨Nat.le_of_ble_eq_true rfl, Nat.le_of_ble_eq_true rfl⟩) (fun v11 u H locs hz9 hH hS => ?_)
  obtain ⟨rfl, l_v11, u_v11, x_v110, x_v111⟩ := hz9
  simp only [Int32.toInt_toInt64] at x_v110 x_v111
  have k9_0 : (0 : Int64).toInt = 0 := by decide
  have k9_3 : (3 : Int64).toInt = 3 := by decide
  have hH : HT D cs A T O X H := hH
  refine W.widen (k := 0) (n := 0) (Nat.le_of_ble_eq_true rfl) (Nat.le_of_ble_eq_true rfl) ?_
  have J29 : ∀  (H : Heap) (locs : List Loc) (ls : Array Slot), HT D cs A T O X H → va_S A s.heap H locs → lv_has ls 5 [] → W p l e { frames := 1, cells := 0, slots := 0, locals := 25 } s m [.ref a0, .int x1, .int x2, .int x3].toArray below meth c H locs 0 0 (MQ below (Ti D cs (fun r u => u = (T, O, X) ∧ -3 ≤ r.toInt ∧ r.toInt ≤ 0) A) [.ref a0, .int x1, .int x2, .int x3].toArray s 0 0 A) (F0 m 29 ls []) := by
    intro  H locs ls  hH hS hl
    refine lv_bipush (v := (-2)) hx hb dX12_numbers_29 (by decide) ?_
    exact te_i hx hb hr hlocks hH hS (⟨rfl, by decide, by decide⟩) dX12_numbers_31
  refine lv_if_eq (tgt := 29) hx hb dX12_numbers_14 (by decide) (fun c14 => ?_) (fun c14 => ?_)
  · skip
    have tc14 := f_eq (k := 0) (by decide) c14
    clear x_v110
    replace x_v111 := x_v111.resolve_left (fun q9 => q9 tc14)
    exact J29  _ _ _  hH hS (lv_sub hl [] rfl)
  · skip
    have tc14 := f_ne (k := 0) (by decide) c14
    replace x_v110 := x_v110.resolve_left tc14
    clear x_v111
    refine lv_iload_n hx hb dX12_numbers_17 rfl (lv_at hl 2 rfl) ?_
    refine lv_i2l hx hb dX12_numbers_18 rfl ?_
    refine lv_lconst (v := 0) hx hb dX12_numbers_19 (by decide) ?_
    refine lv_ldc2 hx hb hown (hts _ kw_1527) dX12_numbers_20 ?_
    refine tk_i hH hS hA (tr_S (n := 3) (As := [.long x2.toInt64, .long 0, .long 3]) hx hb hml hown hts hkb hH hOX hks hE hS hA (s_M_within l D cs kf T O X x2.toInt64 0 3  (hO.sub (by decide))) kw_1341 kw_1342 kw_13 kw_1343 (by decide +kernel) ⟨Nat.le_of_ble_eq_true rfl, Nat.le_of_ble_eq_true rfl⟩ rfl rfl hl.1 (Nat.le_of_ble_eq_true rfl) dX12_numbers_23 ⟨Nat.le_of_ble_eq_true rfl, Nat.le_of_ble_eq_true rfl⟩) (fun v23 u H locs hz9 hH hS => ?_)
    obtain ⟨rfl, l_v23, u_v23, x_v230, x_v231⟩ := hz9
    simp only [Int32.toInt_toInt64] at x_v230 x_v231
    have k9_0 : (0 : Int64).toInt = 0 := by decide
    have k9_3 : (3 : Int64).toInt = 3 := by decide
    have hH : HT D cs A T O X H := hH
    refine W.widen (k := 0) (n := 0) (Nat.le_of_ble_eq_true rfl) (Nat.le_of_ble_eq_true rfl) ?_
    refine lv_if_ne (tgt := 32) hx hb dX12_numbers_26 (by decide) (fun c26 => ?_) (fun c26 => ?_)
    · skip
      have tc26 := f_ne (k := 0) (by decide) c26
      replace x_v230 := x_v230.resolve_left tc26
      clear x_v231
      refine lv_iload_n hx hb dX12_numbers_32 rfl (lv_at hl 3 rfl) ?_
      refine lv_i2l hx hb dX12_numbers_33 rfl ?_
      refine lv_lconst (v := 0) hx hb dX12_numbers_34 (by decide) ?_
      refine lv_ldc2 hx hb hown (hts _ kw_1607) dX12_numbers_35 ?_
      refine tk_i hH hS hA (tr_S (n := 3) (As := [.long x3.toInt64, .long 0, .long 40]) hx hb hml hown hts hkb hH hOX hks hE hS hA (s_M_within l D cs kf T O X x3.toInt64 0 40  (hO.sub (by decide))) kw_1341 kw_1342 kw_13 kw_1343 (by decide +kernel) ⟨Nat.le_of_ble_eq_true rfl, Nat.le_of_ble_eq_true rfl⟩ rfl rfl hl.1 (Nat.le_of_ble_eq_true rfl) dX12_numbers_38 ⟨Nat.le_of_ble_eq_true rfl, Nat.le_of_ble_eq_true rfl⟩) (fun v38 u H locs hz9 hH hS => ?_)
      obtain ⟨rfl, l_v38, u_v38, x_v380, x_v381⟩ := hz9
      simp only [Int32.toInt_toInt64] at x_v380 x_v381
      have k9_0 : (0 : Int64).toInt = 0 := by decide
      have k9_40 : (40 : Int64).toInt = 40 := by decide
      have hH : HT D cs A T O X H := hH
      refine W.widen (k := 0) (n := 0) (Nat.le_of_ble_eq_true rfl) (Nat.le_of_ble_eq_true rfl) ?_
      refine lv_if_ne (tgt := 47) hx hb dX12_numbers_41 (by decide) (fun c41 => ?_) (fun c41 => ?_)
      · skip
        have tc41 := f_ne (k := 0) (by decide) c41
        replace x_v380 := x_v380.resolve_left tc41
        clear x_v381
        refine lv_aload_n hx hb dX12_numbers_47 rfl (lv_at hl 0 rfl) ?_
        refine t_get (ci := 12) (lst := ft12 hg mq) (C := RX12) (F := TX12) (N := 36) hx hb hts uX12 hown hkb hH t_a0 (hO.no t_a0 (by decide)) (fun _ h9 => h9) rfl rfl 33 (by decide) rfl kw_1256 (fun _ h9 => h9) dX12_numbers_48 (fun v9 h9 => ?_)
        obtain ⟨v48, rfl, t_v48⟩ := h9
        refine lv_iload_n hx hb dX12_numbers_51 rfl (lv_at hl 1 rfl) ?_
        refine lv_iload_n hx hb dX12_numbers_52 rfl (lv_at hl 2 rfl) ?_
        refine t_ist hx hb hkb hH hS t_v48 (hO.no t_v48 (by decide)) (by omega) (by omega) (cp_0 _) dX12_numbers_53 (fun H locs hH hS => ?_)
        refine lv_aload_n hx hb dX12_numbers_54 rfl (lv_at hl 0 rfl) ?_
        refine t_get (ci := 12) (lst := ft12 hg mq) (C := RX12) (F := TX12) (N := 36) hx hb hts uX12 hown hkb hH t_a0 (hO.no t_a0 (by decide)) (fun _ h9 => h9) rfl rfl 34 (by decide) rfl kw_1257 (fun _ h9 => h9) dX12_numbers_55 (fun v9 h9 => ?_)
        obtain ⟨v55, rfl, t_v55⟩ := h9
        refine lv_iload_n hx hb dX12_numbers_58 rfl (lv_at hl 1 rfl) ?_
        refine lv_iload_n hx hb dX12_numbers_59 rfl (lv_at hl 3 rfl) ?_
        refine t_ist hx hb hkb hH hS t_v55 (hO.no t_v55 (by decide)) (by omega) (by omega) (show 0 ≤ x3.toInt ∧ x3.toInt ≤ 40 from by omega) dX12_numbers_60 (fun H locs hH hS => ?_)
        refine lv_iconst (v := 0) hx hb dX12_numbers_61 (by decide) ?_
        have J64 : ∀ (n : Nat) (p64_4 : Int32) (H : Heap) (locs : List Loc) (ls : Array Slot), (40 - p64_4.toInt).toNat = n → (0 ≤ p64_4.toInt) → (p64_4.toInt ≤ 40) → HT D cs A T O X H → va_S A s.heap H locs → lv_has ls 5 [(4, .int p64_4), (0, .ref a0), (1, .int x1), (3, .int x3)] → W p l e { frames := 1, cells := 0, slots := 0, locals := 25 } s m [.ref a0, .int x1, .int x2, .int x3].toArray below meth c H locs 0 0 (MQ below (Ti D cs (fun r u => u = (T, O, X) ∧ -3 ≤ r.toInt ∧ r.toInt ≤ 0) A) [.ref a0, .int x1, .int x2, .int x3].toArray s 0 0 A) (F0 m 64 ls []) := by
          intro n
          induction n using Nat.strongRecOn with
          | _ n ih64 =>
            intro p64_4 H locs ls hm64 l_p64_4 u_p64_4 hH hS hl
            refine lv_iload hx hb dX12_numbers_64 (lv_at hl 0 rfl) ?_
            refine lv_iload_n hx hb dX12_numbers_66 rfl (lv_at hl 3 rfl) ?_
            refine lv_icmp_ge (tgt := 89) hx hb dX12_numbers_67 (by decide) (fun c67 => ?_) (fun c67 => ?_)
            · skip
              have fuc67 := full_i p64_4
              have fvc67 := full_i x3
              have tc67 := g_le c67
              refine lv_iconst (v := 0) hx hb dX12_numbers_89 (by decide) ?_
              exact te_i hx hb hr hlocks hH hS (⟨rfl, by decide, by decide⟩) dX12_numbers_90
            · skip
              have fuc67 := full_i p64_4
              have fvc67 := full_i x3
              have tc67 := g_nle c67
              refine lv_aload_n hx hb dX12_numbers_70 rfl (lv_at hl 1 rfl) ?_
              refine t_get (ci := 12) (lst := ft12 hg mq) (C := RX12) (F := TX12) (N := 36) hx hb hts uX12 hown hkb hH t_a0 (hO.no t_a0 (by decide)) (fun _ h9 => h9) rfl rfl 35 (by decide) rfl kw_1258 (fun _ h9 => h9) dX12_numbers_71 (fun v9 h9 => ?_)
              obtain ⟨v71, rfl, t_v71⟩ := h9
              refine lv_bipush (v := 40) hx hb dX12_numbers_74 (by decide) ?_
              refine lv_iload_n hx hb dX12_numbers_76 rfl (lv_at hl 2 rfl) ?_
              refine lv_imul hx hb dX12_numbers_77 ?_
              refine lv_topi (fun v77 ev77 => ?_)
              have tv77 : v77.toInt = (40) * x1.toInt := by rw [ev77]; exact mul_i (by decide : (40 : Int32).toInt = 40) rfl (by omega) (by omega)
              refine lv_iload hx hb dX12_numbers_78 (lv_at hl 0 rfl) ?_
              refine lv_iadd hx hb dX12_numbers_80 ?_
              refine lv_topi (fun v80 ev80 => ?_)
              have tv80 : v80.toInt = v77.toInt + p64_4.toInt := by rw [ev80]; exact add_i rfl rfl (by omega) (by omega)
              refine lv_lconst (v := 0) hx hb dX12_numbers_81 (by decide) ?_
              refine t_lst hx hb hkb hH hS t_v71 (hO.no t_v71 (by decide)) (by omega) (by omega) dX12_numbers_82 (fun H locs hH hS => ?_)
              obtain ⟨v83, ev83⟩ : ∃ y : Int32, y = p64_4 + 1 := ⟨_, rfl⟩
              have tv83 : v83.toInt = p64_4.toInt + (1) := by rw [ev83]; exact add_i rfl (by decide) (by omega) (by omega)
              refine lv_iinc (v := v83) (lv' := [(4, .int v83), (0, .ref a0), (1, .int x1), (3, .int x3)]) hx hb dX12_numbers_83 hl (k := 0) rfl (by rw [ev83]; rfl) (by decide) rfl (fun ls hl => ?_)
              refine lv_goto (tgt := 64) hx hb dX12_numbers_86 (by decide) ?_
              exact ih64 _ (by omega) v83 _ _ _ rfl (by omega) (by omega) hH hS (lv_sub hl [0, 1, 2, 3] rfl)
        refine lv_istore (lv' := [(4, .int 0), (0, .ref a0), (1, .int x1), (2, .int x2), (3, .int x3)]) hx hb dX12_numbers_62 hl (by decide) rfl (fun ls hl => ?_)
        exact J64 _ 0 _ _ _ rfl (by decide) (by decide) hH hS (lv_sub hl [0, 1, 2, 4] rfl)
      · skip
        have tc41 := f_eq (k := 0) (by decide) c41
        clear x_v380
        replace x_v381 := x_v381.resolve_left (fun q9 => q9 tc41)
        refine lv_bipush (v := (-3)) hx hb dX12_numbers_44 (by decide) ?_
        exact te_i hx hb hr hlocks hH hS (⟨rfl, by decide, by decide⟩) dX12_numbers_46
    · skip
      have tc26 := f_eq (k := 0) (by decide) c26
      clear x_v230
      replace x_v231 := x_v231.resolve_left (fun q9 => q9 tc26)
      exact J29  _ _ _  hH hS (lv_sub hl [] rfl)
set_option maxHeartbeats 4000000 in
set_option maxRecDepth 100000 in
theorem s_M_write (l : Launch) (D : va_G) (cs : CS) (kf : KF) (T : TF) (O : List Nat) (X : va_W) (a0 hg mq : Nat) (x1 : Int32) (x2 : Int32) (x3 : Int64) (t_a0 : T a0 = some (22, hg, mq)) (b_hg : hg < 90) (hO : okO T O [1, 2, 22]) : TK l D cs kf yX12_write cX12_write 6 (some (.long)) { frames := 2, cells := 0, slots := 0, locals := 46 } [.ref a0, .int x1, .int x2, .long x3] T O X (Tl D cs (fun _ u => u = (T, O, X))) := by
  refine tk_of (by decide) (Nat.le_of_ble_eq_true rfl) (fun p e s m below meth c ls A H locs hx hb hr hml hown hts hlocks hnm hkb hH hS hA hOX hks hE hl => ?_)
  have hown : s.vm.findClass RX12 = some m.cls := hown
  have hl : lv_has ls 6 [(0, .ref a0), (1, .int x1), (2, .int x2), (3, .long x3)] := hl
  refine lv_aload_n hx hb dX12_write_0 rfl (lv_at hl 0 rfl) ?_
  refine lv_iconst (v := 0) hx hb dX12_write_1 (by decide) ?_
  refine t_put (ci := 12) (lst := ft12 hg mq) (v := .int 0) (ty := tyX12 0) (C := RX12) (F := TX12) (N := 36) hx hb hts uX12 tyX12 tyX12_ok nmX12 hown hkb hH hS t_a0 (hO.no t_a0 (by decide)) (fun _ => Iff.rfl) rfl rfl 0 (by decide) rfl (⟨_, rfl⟩) kw_1223 (fun _ h9 => h9) rfl (tyX12_ok 0 (by decide)) rfl rfl dX12_write_2 (fun H locs hH hS => ?_)
  refine lv_aload_n hx hb dX12_write_5 rfl (lv_at hl 0 rfl) ?_
  refine lv_iload_n hx hb dX12_write_6 rfl (lv_at hl 1 rfl) ?_
  refine tk_i hH hS hA (tr_V (n := 1) (As := [.int x1]) hx hb hml hown hts hkb hH hOX hks hE hS hA (s_M_noTray l D cs kf T O X a0 hg mq x1 t_a0 b_hg (hO.sub (by decide))) kw_1523 kw_1525 ks_75 kw_13 kw_1526 (by decide +kernel) ⟨Nat.le_of_ble_eq_true rfl, Nat.le_of_ble_eq_true rfl⟩ (HT.recv (ci := 12) hkb hH t_a0 (hO.no t_a0 (by decide)) rfl) rfl rfl hl.1 (Nat.le_of_ble_eq_true rfl) dX12_write_7 ⟨Nat.le_of_ble_eq_true rfl, Nat.le_of_ble_eq_true rfl⟩) (fun v7 u H locs hz9 hH hS => ?_)
  obtain ⟨rfl, l_v7, u_v7, x_v70⟩ := hz9
  have hH : HT D cs A T O X H := hH
  refine W.widen (k := 0) (n := 0) (Nat.le_of_ble_eq_true rfl) (Nat.le_of_ble_eq_true rfl) ?_
  refine lv_istore (lv' := [(5, .int v7), (0, .ref a0), (1, .int x1), (2, .int x2), (3, .long x3)]) hx hb dX12_write_10 hl (by decide) rfl (fun ls hl => ?_)
  refine lv_iload hx hb dX12_write_12 (lv_at hl 0 rfl) ?_
  refine lv_if_eq (tgt := 21) hx hb dX12_write_14 (by decide) (fun c14 => ?_) (fun c14 => ?_)
  · skip
    have tc14 := f_eq (k := 0) (by decide) c14
    refine lv_iload_n hx hb dX12_write_21 rfl (lv_at hl 3 rfl) ?_
    refine lv_i2l hx hb dX12_write_22 rfl ?_
    refine lv_lconst (v := 0) hx hb dX12_write_23 (by decide) ?_
    refine lv_aload_n hx hb dX12_write_24 rfl (lv_at hl 1 rfl) ?_
    refine t_get (ci := 12) (lst := ft12 hg mq) (C := RX12) (F := TX12) (N := 36) hx hb hts uX12 hown hkb hH t_a0 (hO.no t_a0 (by decide)) (fun _ h9 => h9) rfl rfl 34 (by decide) rfl kw_1257 (fun _ h9 => h9) dX12_write_25 (fun v9 h9 => ?_)
    obtain ⟨v25, rfl, t_v25⟩ := h9
    refine lv_iload_n hx hb dX12_write_28 rfl (lv_at hl 2 rfl) ?_
    refine t_ild hx hb hkb hH t_v25 (hO.no t_v25 (by decide)) (by omega) (by omega) dX12_write_29 (fun v29 h9 => ?_)
    have tv29 : 0 ≤ v29.toInt ∧ v29.toInt ≤ 40 := h9
    refine lv_iconst (v := 1) hx hb dX12_write_30 (by decide) ?_
    refine lv_isub hx hb dX12_write_31 ?_
    refine lv_topi (fun v31 ev31 => ?_)
    have tv31 : v31.toInt = v29.toInt - (1) := by rw [ev31]; exact sub_i rfl (by decide : (1 : Int32).toInt = 1) (by omega) (by omega)
    refine lv_i2l hx hb dX12_write_32 rfl ?_
    refine tk_i hH hS hA (tr_S (n := 3) (As := [.long x2.toInt64, .long 0, .long v31.toInt64]) hx hb hml hown hts hkb hH hOX hks hE hS hA (s_M_within l D cs kf T O X x2.toInt64 0 v31.toInt64  (hO.sub (by decide))) kw_1341 kw_1342 kw_13 kw_1343 (by decide +kernel) ⟨Nat.le_of_ble_eq_true rfl, Nat.le_of_ble_eq_true rfl⟩ rfl rfl hl.1 (Nat.le_of_ble_eq_true rfl) dX12_write_33 ⟨Nat.le_of_ble_eq_true rfl, Nat.le_of_ble_eq_true rfl⟩) (fun v33 u H locs hz9 hH hS => ?_)
    obtain ⟨rfl, l_v33, u_v33, x_v330, x_v331⟩ := hz9
    simp only [Int32.toInt_toInt64] at x_v330 x_v331
    have k9_0 : (0 : Int64).toInt = 0 := by decide
    have hH : HT D cs A T O X H := hH
    refine W.widen (k := 0) (n := 0) (Nat.le_of_ble_eq_true rfl) (Nat.le_of_ble_eq_true rfl) ?_
    refine lv_if_ne (tgt := 43) hx hb dX12_write_36 (by decide) (fun c36 => ?_) (fun c36 => ?_)
    · skip
      have tc36 := f_ne (k := 0) (by decide) c36
      replace x_v330 := x_v330.resolve_left tc36
      clear x_v331
      refine lv_aload_n hx hb dX12_write_43 rfl (lv_at hl 1 rfl) ?_
      refine t_get (ci := 12) (lst := ft12 hg mq) (C := RX12) (F := TX12) (N := 36) hx hb hts uX12 hown hkb hH t_a0 (hO.no t_a0 (by decide)) (fun _ h9 => h9) rfl rfl 35 (by decide) rfl kw_1258 (fun _ h9 => h9) dX12_write_44 (fun v9 h9 => ?_)
      obtain ⟨v44, rfl, t_v44⟩ := h9
      refine lv_bipush (v := 40) hx hb dX12_write_47 (by decide) ?_
      refine lv_iload_n hx hb dX12_write_49 rfl (lv_at hl 2 rfl) ?_
      refine lv_imul hx hb dX12_write_50 ?_
      refine lv_topi (fun v50 ev50 => ?_)
      have tv50 : v50.toInt = (40) * x1.toInt := by rw [ev50]; exact mul_i (by decide : (40 : Int32).toInt = 40) rfl (by omega) (by omega)
      refine lv_iload_n hx hb dX12_write_51 rfl (lv_at hl 3 rfl) ?_
      refine lv_iadd hx hb dX12_write_52 ?_
      refine lv_topi (fun v52 ev52 => ?_)
      have tv52 : v52.toInt = v50.toInt + x2.toInt := by rw [ev52]; exact add_i rfl rfl (by omega) (by omega)
      refine lv_lload_n hx hb dX12_write_53 rfl (lv_at hl 4 rfl) ?_
      refine lv_aload_n hx hb dX12_write_54 rfl (lv_at hl 1 rfl) ?_
      refine t_get (ci := 12) (lst := ft12 hg mq) (C := RX12) (F := TX12) (N := 36) hx hb hts uX12 hown hkb hH t_a0 (hO.no t_a0 (by decide)) (fun _ h9 => h9) rfl rfl 33 (by decide) rfl kw_1256 (fun _ h9 => h9) dX12_write_55 (fun v9 h9 => ?_)
      obtain ⟨v55, rfl, t_v55⟩ := h9
      refine lv_iload_n hx hb dX12_write_58 rfl (lv_at hl 2 rfl) ?_
      refine t_ild hx hb hkb hH t_v55 (hO.no t_v55 (by decide)) (by omega) (by omega) dX12_write_59 (fun v59 h9 => ?_)
      refine tk_l hH hS hA (tr_S (n := 2) (As := [.long x3, .int v59]) hx hb hml hown hts hkb hH hOX hks hE hS hA (s_M_cut l D cs kf T O X x3 v59  (hO.sub (by decide))) kw_1769 kw_1770 kw_13 kw_1771 (by decide +kernel) ⟨Nat.le_of_ble_eq_true rfl, Nat.le_of_ble_eq_true rfl⟩ rfl rfl hl.1 (Nat.le_of_ble_eq_true rfl) dX12_write_60 ⟨Nat.le_of_ble_eq_true rfl, Nat.le_of_ble_eq_true rfl⟩) (fun v60 u H locs hz9 hH hS => ?_)
      have hz9 : u = (T, O, X) := hz9
      subst hz9
      have hH : HT D cs A T O X H := hH
      refine W.widen (k := 0) (n := 0) (Nat.le_of_ble_eq_true rfl) (Nat.le_of_ble_eq_true rfl) ?_
      refine t_lst hx hb hkb hH hS t_v44 (hO.no t_v44 (by decide)) (by omega) (by omega) dX12_write_63 (fun H locs hH hS => ?_)
      refine lv_aload_n hx hb dX12_write_64 rfl (lv_at hl 1 rfl) ?_
      refine t_get (ci := 12) (lst := ft12 hg mq) (C := RX12) (F := TX12) (N := 36) hx hb hts uX12 hown hkb hH t_a0 (hO.no t_a0 (by decide)) (fun _ h9 => h9) rfl rfl 35 (by decide) rfl kw_1258 (fun _ h9 => h9) dX12_write_65 (fun v9 h9 => ?_)
      obtain ⟨v65, rfl, t_v65⟩ := h9
      refine lv_bipush (v := 40) hx hb dX12_write_68 (by decide) ?_
      refine lv_iload_n hx hb dX12_write_70 rfl (lv_at hl 2 rfl) ?_
      refine lv_imul hx hb dX12_write_71 ?_
      refine lv_topi (fun v71 ev71 => ?_)
      have tv71 : v71.toInt = (40) * x1.toInt := by rw [ev71]; exact mul_i (by decide : (40 : Int32).toInt = 40) rfl (by omega) (by omega)
      refine lv_iload_n hx hb dX12_write_72 rfl (lv_at hl 3 rfl) ?_
      refine lv_iadd hx hb dX12_write_73 ?_
      refine lv_topi (fun v73 ev73 => ?_)
      have tv73 : v73.toInt = v71.toInt + x2.toInt := by rw [ev73]; exact add_i rfl rfl (by omega) (by omega)
      refine t_lld hx hb hkb hH t_v65 (hO.no t_v65 (by decide)) (by omega) (by omega) dX12_write_74 (fun v74 => ?_)
      exact te_l hx hb hr hlocks hH hS rfl dX12_write_75
    · skip
      have tc36 := f_eq (k := 0) (by decide) c36
      clear x_v330
      replace x_v331 := x_v331.resolve_left (fun q9 => q9 tc36)
      refine lv_ldc2 hx hb hown (hts _ kw_1768) dX12_write_39 ?_
      exact te_l hx hb hr hlocks hH hS rfl dX12_write_42
  · skip
    have tc14 := f_ne (k := 0) (by decide) c14
    refine lv_iload hx hb dX12_write_17 (lv_at hl 0 rfl) ?_
    refine lv_i2l hx hb dX12_write_19 rfl ?_
    exact te_l hx hb hr hlocks hH hS rfl dX12_write_20
/-! bits of sets, and the shortest ways of the reference -/
/-- the answer of nearer -/
def NR (H : Nat) (s n : Int32) (f : Nat → Int32) (r : Int32) : Prop := (r.toInt = -1 ∧ ∀ h : Nat, h < H → inF s.toInt64 (nI h) = 1 → (f h).toInt ≠ n.toInt) ∨ (0 ≤ r.toInt ∧ r.toInt < H ∧ inF s.toInt64 r = 1 ∧ (f r.toInt.toNat).toInt = n.toInt)
def NRi (s n : Int32) (f : Nat → Int32) (k : Nat) : Prop := ∀ h : Nat, h < k → inF s.toInt64 (nI h) = 1 → (f h).toInt ≠ n.toInt
theorem NRi_0 {s n : Int32} {f : Nat → Int32} {z : Int32} (hz : z.toInt = 0) : NRi s n f z.toInt.toNat := fun h hh => by omega
theorem NRi_s {s n p v a : Int32} {f : Nat → Int32} (hi : NRi s n f p.toInt.toNat) (h0 : 0 ≤ p.toInt) (hv : v.toInt = p.toInt + 1) (hx : inF s.toInt64 p ≠ 1 ∨ (a = f p.toInt.toNat ∧ a.toInt ≠ n.toInt)) : NRi s n f v.toInt.toNat := fun h hh hb => by
  by_cases q : h < p.toInt.toNat
  · exact hi h q hb
  · have e : h = p.toInt.toNat := by omega
    subst e
    rw [← is_nI h0] at hb
    rcases hx with hx | ⟨e1, e2⟩
    · exact absurd hb hx
    · rw [← e1]; exact e2
/-- away and onTo: who is n away has a neighbour n - 1 away -/
def LW (H : Nat) (s : Int32) (o a : Nat → Int32) (n : Int) : Prop := ∀ h : Nat, h < H → (a h).toInt = 99 ∨ (0 ≤ (a h).toInt ∧ (a h).toInt ≤ n ∧ inF s.toInt64 (nI h) = 1 ∧ ((a h).toInt = 0 ∨ ∃ k : Nat, k < H ∧ inF (o h &&& s).toInt64 (nI k) = 1 ∧ (a k).toInt = (a h).toInt - 1))
def LW0 (s : Int32) (a : Nat → Int32) (k : Nat) : Prop := ∀ h : Nat, h < k → (a h).toInt = 99 ∨ ((a h).toInt = 0 ∧ inF s.toInt64 (nI h) = 1)
theorem LW0_0 {s : Int32} {a : Nat → Int32} {z : Int32} (hz : z.toInt = 0) : LW0 s a z.toInt.toNat := fun h hh => by omega
theorem LW0_s {s p v x : Int32} {a F : Nat → Int32} (hi : LW0 s a p.toInt.toNat) (h0 : 0 ≤ p.toInt) (hv : v.toInt = p.toInt + 1) (eF : F = upd a p.toInt.toNat x) (hx : x.toInt = 99 ∨ (x.toInt = 0 ∧ inF s.toInt64 p = 1)) : LW0 s F v.toInt.toNat := fun h hh => by
  rw [eF]
  by_cases q : h = p.toInt.toNat
  · subst q
    rw [upd_eq, ← is_nI h0]
    exact hx
  · rw [upd_ne q]
    exact hi h (by omega)
theorem LW_of {H : Nat} {s p : Int32} {o a : Nat → Int32} (hi : LW0 s a p.toInt.toNat) (h : (H : Int) ≤ p.toInt) : LW H s o a 0 := fun j hj => by
  rcases hi j (by omega) with q | ⟨q1, q2⟩
  · exact Or.inl q
  · exact Or.inr ⟨by omega, by omega, q2, Or.inl q1⟩
theorem LW.le {H : Nat} {s : Int32} {o a : Nat → Int32} {n m : Int} (hi : LW H s o a n) (h : n ≤ m) : LW H s o a m := fun j hj => by
  rcases hi j hj with q | ⟨q1, q2, q3⟩
  · exact Or.inl q
  · exact Or.inr ⟨q1, by omega, q3⟩
theorem LW_put {H : Nat} {s p n r w k o1 n1 : Int32} {o a F : Nat → Int32} (hi : LW H s o a n.toInt) (h0 : 0 ≤ p.toInt) (hp : p.toInt < H) (hn0 : 1 ≤ n.toInt) (hn : n.toInt ≤ 14) (hw : w = a p.toInt.toNat) (hw9 : w.toInt = 99) (hs : inF s.toInt64 p = 1) (ho : o1 = o p.toInt.toNat) (hk : k = o1 &&& s) (h1 : n1.toInt = n.toInt - 1) (hr : NR H k n1 a r) (hr1 : r.toInt ≠ -1) (eF : F = upd a p.toInt.toNat n) : LW H s o F n.toInt := fun j hj => by
  rcases hr with ⟨q, -⟩ | ⟨r0, r2, r3, r4⟩
  · exact absurd q hr1
  have hrp : r.toInt.toNat ≠ p.toInt.toNat := fun z => by
    rw [z, ← hw] at r4
    omega
  rw [eF]
  by_cases q : j = p.toInt.toNat
  · subst q
    rw [upd_eq, ← is_nI h0]
    refine Or.inr ⟨by omega, by omega, hs, Or.inr ⟨r.toInt.toNat, by omega, ?_, ?_⟩⟩
    · rw [← ho, ← hk, ← is_nI r0]; exact r3
    · rw [upd_ne hrp]; omega
  · rw [upd_ne q]
    rcases hi j hj with z | ⟨z1, z2, z3, z4⟩
    · exact Or.inl z
    · refine Or.inr ⟨z1, z2, z3, ?_⟩
      rcases z4 with z4 | ⟨k2, y1, y2, y3⟩
      · exact Or.inl z4
      · refine Or.inr ⟨k2, y1, y2, ?_⟩
        rw [upd_ne (fun z => by rw [z, ← hw] at y3; omega)]
        exact y3
/-- the best start -/
def LB (H : Nat) (st : Int32) (a : Nat → Int32) (b : Int32) : Prop := b.toInt = 99 ∨ ∃ j : Nat, j < H ∧ inF st.toInt64 (nI j) = 1 ∧ (a j).toInt = b.toInt ∧ b.toInt < 99
theorem LB_put {H : Nat} {st p w : Int32} {a : Nat → Int32} (h0 : 0 ≤ p.toInt) (hp : p.toInt < H) (hs : inF st.toInt64 p = 1) (hw : w = a p.toInt.toNat) (hl : w.toInt < 99) : LB H st a w := Or.inr ⟨p.toInt.toNat, by omega, by rw [← is_nI h0]; exact hs, by rw [← hw], hl⟩
/-- nearer finds the best start -/
theorem LB_nr {H : Nat} {st s b r k : Int32} {o a : Nat → Int32} (hH : H ≤ 14) (hlw : LW H s o a 13) (hlb : LB H st a b) (hb : b.toInt ≠ 99) (h0 : 0 ≤ st.toInt) (hs : 0 ≤ s.toInt) (hk : k = st &&& s) (hr : NR H k b a r) : 0 ≤ r.toInt ∧ r.toInt < H ∧ (a r.toInt.toNat).toInt = b.toInt ∧ b.toInt ≤ 13 ∧ 0 ≤ b.toInt := by
  obtain ⟨j, j1, j2, j3, j4⟩ := hlb.resolve_left hb
  have hj : (nI j).toInt = (j : Int) := nI_toInt (by omega)
  rcases hlw j j1 with q | ⟨q1, q2, q3, q4⟩
  · omega
  rcases hr with ⟨-, z2⟩ | ⟨z1, z2, z3, z4⟩
  · exact absurd j3 (z2 j j1 (by rw [hk, inF_and h0 hs (by omega) (by omega)]; exact ⟨j2, q3⟩))
  · exact ⟨z1, z2, z4, by omega, by omega⟩
/-- and the next one -/
theorem LW_nr {H : Nat} {s p n n1 r k o1 : Int32} {o a : Nat → Int32} (hlw : LW H s o a 13) (h0 : 0 ≤ p.toInt) (hp : p.toInt < H) (ha : (a p.toInt.toNat).toInt = n.toInt) (hn : 1 ≤ n.toInt) (hn2 : n.toInt ≤ 13) (h1 : n1.toInt = n.toInt - 1) (ho : o1 = o p.toInt.toNat) (hk : k = o1 &&& s) (hr : NR H k n1 a r) : 0 ≤ r.toInt ∧ r.toInt < H ∧ (a r.toInt.toNat).toInt = n1.toInt := by
  rcases hlw p.toInt.toNat (by omega) with q | ⟨q1, q2, q3, q4⟩
  · omega
  obtain ⟨j, j1, j2, j3⟩ := q4.resolve_left (by omega)
  rcases hr with ⟨-, z2⟩ | ⟨z1, z2, z3, z4⟩
  · exact absurd (show (a j).toInt = n1.toInt by omega) (z2 j j1 (by rw [hk, ho]; exact j2))
  · exact ⟨z1, z2, z4⟩
theorem c9_put {f : Nat → Int32} {k : Nat} {x : Int32} (h : ∀ j, cp 8 (f j)) (h0 : 0 ≤ x.toInt) (h1 : x.toInt ≤ 99) : ∀ j, cp 8 (upd f k x j) := fun j => by
  unfold upd
  split
  · exact ⟨h0, h1⟩
  · exact h j
theorem dX12_nearer_0 : decode cX12_nearer 0 = .ok (.iconst 0, 1) := by decide +kernel
theorem dX12_nearer_1 : decode cX12_nearer 1 = .ok (.istore_n 3, 1) := by decide +kernel
theorem dX12_nearer_2 : decode cX12_nearer 2 = .ok (.iload_n 3, 1) := by decide +kernel
theorem dX12_nearer_3 : decode cX12_nearer 3 = .ok (.aload_n 0, 1) := by decide +kernel
theorem dX12_nearer_4 : decode cX12_nearer 4 = .ok (.getfield 13, 3) := by decide +kernel
theorem dX12_nearer_7 : decode cX12_nearer 7 = .ok (.iconst 1, 1) := by decide +kernel
theorem dX12_nearer_8 : decode cX12_nearer 8 = .ok (.iaload, 1) := by decide +kernel
theorem dX12_nearer_9 : decode cX12_nearer 9 = .ok (.if_icmp .ge 30, 3) := by decide +kernel
theorem dX12_nearer_12 : decode cX12_nearer 12 = .ok (.iload_n 1, 1) := by decide +kernel
theorem dX12_nearer_13 : decode cX12_nearer 13 = .ok (.i2l, 1) := by decide +kernel
theorem dX12_nearer_14 : decode cX12_nearer 14 = .ok (.iload_n 3, 1) := by decide +kernel
theorem dX12_nearer_15 : decode cX12_nearer 15 = .ok (.invokestatic 186, 3) := by decide +kernel
theorem dX12_nearer_18 : decode cX12_nearer 18 = .ok (.ifCond .eq 15, 3) := by decide +kernel
theorem dX12_nearer_21 : decode cX12_nearer 21 = .ok (.aload_n 0, 1) := by decide +kernel
theorem dX12_nearer_22 : decode cX12_nearer 22 = .ok (.getfield 36, 3) := by decide +kernel
theorem dX12_nearer_25 : decode cX12_nearer 25 = .ok (.iload_n 3, 1) := by decide +kernel
theorem dX12_nearer_26 : decode cX12_nearer 26 = .ok (.iaload, 1) := by decide +kernel
theorem dX12_nearer_27 : decode cX12_nearer 27 = .ok (.iload_n 2, 1) := by decide +kernel
theorem dX12_nearer_28 : decode cX12_nearer 28 = .ok (.if_icmp .ne 5, 3) := by decide +kernel
theorem dX12_nearer_31 : decode cX12_nearer 31 = .ok (.iload_n 3, 1) := by decide +kernel
theorem dX12_nearer_32 : decode cX12_nearer 32 = .ok (.ireturn, 1) := by decide +kernel
theorem dX12_nearer_33 : decode cX12_nearer 33 = .ok (.iinc 3 1, 3) := by decide +kernel
theorem dX12_nearer_36 : decode cX12_nearer 36 = .ok (.goto (-34), 3) := by decide +kernel
theorem dX12_nearer_39 : decode cX12_nearer 39 = .ok (.iconst (-1), 1) := by decide +kernel
theorem dX12_nearer_40 : decode cX12_nearer 40 = .ok (.ireturn, 1) := by decide +kernel
theorem kw_1241 : Cond.fieldLink "FootholdWallModel" 36 "FootholdWallModel" "away" "[I" ∈ gw := gw_of (tb_of 1241 (by decide +kernel)) (by decide +kernel)
set_option maxHeartbeats 4000000 in
set_option maxRecDepth 100000 in
theorem s_M_nearer (l : Launch) (D : va_G) (cs : CS) (kf : KF) (T : TF) (O : List Nat) (X : va_W) (a0 hg mq : Nat) (x1 : Int32) (x2 : Int32) (f18 : Nat → Int32) (f17 : Nat → Int32) (f1 : Nat → Int32) (o0 : Value) (y1 : Nat) (o2 : Value) (o3 : Value) (o4 : Value) (o5 : Value) (o6 : Value) (o7 : Value) (o8 : Value) (o9 : Value) (o10 : Value) (o11 : Value) (o12 : Value) (o13 : Value) (o14 : Value) (o15 : Value) (o16 : Value) (y17 : Nat) (y18 : Nat) (tl : List Value) (t_a0 : T a0 = some (22, hg, mq)) (b_hg : hg < 90) (s_f1 : B8 3906 f1) (g_f1 : f1 1 = nI (hg / 6) ∧ f1 2 = nI (hg % 6)) (t_y1 : T y1 = some (8, 3906, hg)) (t_y17 : T y17 = some (9, 14, 1)) (t_y18 : T y18 = some (9, 14, 8)) (hO : okO T (y18 :: y17 :: y1 :: a0 :: O) []) : TK l D cs kf yX12_nearer cX12_nearer 4 (some (.int)) { frames := 1, cells := 0, slots := 0, locals := 22 } [.ref a0, .int x1, .int x2] T (y18 :: y17 :: y1 :: a0 :: O) ((y18, .inl (cs.2.1, 14, .inl f18)) :: (y17, .inl (cs.2.1, 14, .inl f17)) :: (y1, .inl (cs.2.1, 3906, .inl f1)) :: (a0, .inr (12, o0 :: (.ref y1) :: o2 :: o3 :: o4 :: o5 :: o6 :: o7 :: o8 :: o9 :: o10 :: o11 :: o12 :: o13 :: o14 :: o15 :: o16 :: (.ref y17) :: (.ref y18) :: tl)) :: X) (Ti D cs (fun r u => u = (T, y18 :: y17 :: y1 :: a0 :: O, (y18, .inl (cs.2.1, 14, .inl f18)) :: (y17, .inl (cs.2.1, 14, .inl f17)) :: (y1, .inl (cs.2.1, 3906, .inl f1)) :: (a0, .inr (12, o0 :: (.ref y1) :: o2 :: o3 :: o4 :: o5 :: o6 :: o7 :: o8 :: o9 :: o10 :: o11 :: o12 :: o13 :: o14 :: o15 :: o16 :: (.ref y17) :: (.ref y18) :: tl)) :: X) ∧ -1 ≤ r.toInt ∧ r.toInt ≤ 13 ∧ (NR (hg / 6) x1 x2 f18 r))) := by
  refine tk_of (by decide) (Nat.le_of_ble_eq_true rfl) (fun p e s m below meth c ls A H locs hx hb hr hml hown hts hlocks hnm hkb hH hS hA hOX hks hE hl => ?_)
  have hown : s.vm.findClass RX12 = some m.cls := hown
  have hl : lv_has ls 4 [(0, .ref a0), (1, .int x1), (2, .int x2)] := hl
  have hOXf := hOX
  refine lv_iconst (v := 0) hx hb dX12_nearer_0 (by decide) ?_
  have J2 : ∀ (n : Nat) (p2_3 : Int32) (H : Heap) (locs : List Loc) (ls : Array Slot), (14 - p2_3.toInt).toNat = n → (0 ≤ p2_3.toInt) → (p2_3.toInt ≤ 14) → (NRi x1 x2 f18 p2_3.toInt.toNat) → HT D cs A T (y18 :: y17 :: y1 :: a0 :: O) ((y18, .inl (cs.2.1, 14, .inl f18)) :: (y17, .inl (cs.2.1, 14, .inl f17)) :: (y1, .inl (cs.2.1, 3906, .inl f1)) :: (a0, .inr (12, o0 :: (.ref y1) :: o2 :: o3 :: o4 :: o5 :: o6 :: o7 :: o8 :: o9 :: o10 :: o11 :: o12 :: o13 :: o14 :: o15 :: o16 :: (.ref y17) :: (.ref y18) :: tl)) :: X) H → va_S A s.heap H locs → lv_has ls 4 [(3, .int p2_3), (0, .ref a0), (1, .int x1), (2, .int x2)] → W p l e { frames := 1, cells := 0, slots := 0, locals := 22 } s m [.ref a0, .int x1, .int x2].toArray below meth c H locs 0 0 (MQ below (Ti D cs (fun r u => u = (T, y18 :: y17 :: y1 :: a0 :: O, (y18, .inl (cs.2.1, 14, .inl f18)) :: (y17, .inl (cs.2.1, 14, .inl f17)) :: (y1, .inl (cs.2.1, 3906, .inl f1)) :: (a0, .inr (12, o0 :: (.ref y1) :: o2 :: o3 :: o4 :: o5 :: o6 :: o7 :: o8 :: o9 :: o10 :: o11 :: o12 :: o13 :: o14 :: o15 :: o16 :: (.ref y17) :: (.ref y18) :: tl)) :: X) ∧ -1 ≤ r.toInt ∧ r.toInt ≤ 13 ∧ (NR (hg / 6) x1 x2 f18 r)) A) [.ref a0, .int x1, .int x2].toArray s 0 0 A) (F0 m 2 ls []) := by
    intro n
    induction n using Nat.strongRecOn with
    | _ n ih2 =>
      intro p2_3 H locs ls hm2 l_p2_3 u_p2_3 i2n hH hS hl
      refine lv_iload_n hx hb dX12_nearer_2 rfl (lv_at hl 0 rfl) ?_
      refine lv_aload_n hx hb dX12_nearer_3 rfl (lv_at hl 1 rfl) ?_
      refine x_getk (ci := 12) (C := RX12) (F := TX12) (N := 36) (v := .ref y1) hx hb hts uX12 hown hkb hH 3 rfl rfl 1 (by decide) rfl kw_1224 (fun _ h9 => h9) dX12_nearer_4 ?_
      refine lv_iconst (v := 1) hx hb dX12_nearer_7 (by decide) ?_
      refine xa_ild hx hb hkb hH 2 rfl (by decide) (by decide) dX12_nearer_8 ?_
      refine lv_topi (fun v8 ev8 => ?_)
      have tv8 : v8 = f1 1 := by rw [ev8]; rfl
      have bv8 : 0 ≤ v8.toInt ∧ v8.toInt ≤ 14 := by rw [ev8]; exact (s_f1.at (by decide) 1).1 (by decide)
      have hv8 : v8.toInt = ((hg / 6 : Nat) : Int) := by rw [tv8, g_f1.1]; exact nI_toInt (by omega)
      refine lv_icmp_ge (tgt := 39) hx hb dX12_nearer_9 (by decide) (fun c9 => ?_) (fun c9 => ?_)
      · skip
        have fuc9 := full_i p2_3
        have fvc9 := full_i v8
        have tc9 := g_le c9
        refine lv_iconst (v := (-1)) hx hb dX12_nearer_39 (by decide) ?_
        have z9_m1 : ((-1) : Int32).toInt = -1 := by decide
        exact te_i hx hb hr hlocks hH hS (⟨rfl, by decide, by decide, (Or.inl ⟨by decide, fun h hh => i2n h (by omega)⟩)⟩) dX12_nearer_40
      · skip
        have fuc9 := full_i p2_3
        have fvc9 := full_i v8
        have tc9 := g_nle c9
        refine lv_iload_n hx hb dX12_nearer_12 rfl (lv_at hl 2 rfl) ?_
        refine lv_i2l hx hb dX12_nearer_13 rfl ?_
        refine lv_iload_n hx hb dX12_nearer_14 rfl (lv_at hl 0 rfl) ?_
        refine tk_i hH hS hA (tr_S (n := 2) (As := [.long x1.toInt64, .int p2_3]) hx hb hml hown hts hkb hH (ox_map hOX rfl) hks hE hS hA (s_M_isIn2 l D cs kf T (y18 :: y17 :: y1 :: a0 :: O) ((y18, .inl (cs.2.1, 14, .inl f18)) :: (y17, .inl (cs.2.1, 14, .inl f17)) :: (y1, .inl (cs.2.1, 3906, .inl f1)) :: (a0, .inr (12, o0 :: (.ref y1) :: o2 :: o3 :: o4 :: o5 :: o6 :: o7 :: o8 :: o9 :: o10 :: o11 :: o12 :: o13 :: o14 :: o15 :: o16 :: (.ref y17) :: (.ref y18) :: tl)) :: X) x1.toInt64 p2_3  (hO.sub (by decide))) kw_1440 kw_1441 kw_13 kw_1442 (by decide +kernel) ⟨Nat.le_of_ble_eq_true rfl, Nat.le_of_ble_eq_true rfl⟩ rfl rfl hl.1 (Nat.le_of_ble_eq_true rfl) dX12_nearer_15 ⟨Nat.le_of_ble_eq_true rfl, Nat.le_of_ble_eq_true rfl⟩) (fun v15 u H locs hz9 hH hS => ?_)
        obtain ⟨rfl, l_v15, u_v15, x_v150⟩ := hz9
        have hH : HT D cs A T (y18 :: y17 :: y1 :: a0 :: O) ((y18, .inl (cs.2.1, 14, .inl f18)) :: (y17, .inl (cs.2.1, 14, .inl f17)) :: (y1, .inl (cs.2.1, 3906, .inl f1)) :: (a0, .inr (12, o0 :: (.ref y1) :: o2 :: o3 :: o4 :: o5 :: o6 :: o7 :: o8 :: o9 :: o10 :: o11 :: o12 :: o13 :: o14 :: o15 :: o16 :: (.ref y17) :: (.ref y18) :: tl)) :: X) H := hH
        refine W.widen (k := 0) (n := 0) (Nat.le_of_ble_eq_true rfl) (Nat.le_of_ble_eq_true rfl) ?_
        refine lv_if_eq (tgt := 33) hx hb dX12_nearer_18 (by decide) (fun c18 => ?_) (fun c18 => ?_)
        · skip
          have tc18 := f_eq (k := 0) (by decide) c18
          obtain ⟨v33, ev33⟩ : ∃ y : Int32, y = p2_3 + 1 := ⟨_, rfl⟩
          have tv33 : v33.toInt = p2_3.toInt + (1) := by rw [ev33]; exact add_i rfl (by decide) (by omega) (by omega)
          refine lv_iinc (v := v33) (lv' := [(3, .int v33), (0, .ref a0), (1, .int x1), (2, .int x2)]) hx hb dX12_nearer_33 hl (k := 0) rfl (by rw [ev33]; rfl) (by decide) rfl (fun ls hl => ?_)
          refine lv_goto (tgt := 2) hx hb dX12_nearer_36 (by decide) ?_
          exact ih2 _ (by omega) v33 _ _ _ rfl (by omega) (by omega) (by first | (refine NRi_0 ?_; decide) | (refine NRi_s (a := p2_3) i2n ?_ tv33 (Or.inl (inF_z x_v150 tc18)); omega) | (refine NRi_s i2n ?_ tv33 (Or.inr ⟨tv26, tc28⟩); omega)) hH hS (lv_sub hl [0, 1, 2, 3] rfl)
        · skip
          have tc18 := f_ne (k := 0) (by decide) c18
          refine lv_aload_n hx hb dX12_nearer_21 rfl (lv_at hl 1 rfl) ?_
          refine x_getk (ci := 12) (C := RX12) (F := TX12) (N := 36) (v := .ref y18) hx hb hts uX12 hown hkb hH 3 rfl rfl 18 (by decide) rfl kw_1241 (fun _ h9 => h9) dX12_nearer_22 ?_
          refine lv_iload_n hx hb dX12_nearer_25 rfl (lv_at hl 0 rfl) ?_
          refine xa_ild hx hb hkb hH 0 rfl (by omega) (by omega) dX12_nearer_26 ?_
          refine lv_topi (fun v26 ev26 => ?_)
          have tv26 : v26 = f18 p2_3.toInt.toNat := ev26
          refine lv_iload_n hx hb dX12_nearer_27 rfl (lv_at hl 3 rfl) ?_
          refine lv_icmp_ne (tgt := 33) hx hb dX12_nearer_28 (by decide) (fun c28 => ?_) (fun c28 => ?_)
          · skip
            have fuc28 := full_i v26
            have fvc28 := full_i x2
            have tc28 := g_ne c28
            obtain ⟨v33, ev33⟩ : ∃ y : Int32, y = p2_3 + 1 := ⟨_, rfl⟩
            have tv33 : v33.toInt = p2_3.toInt + (1) := by rw [ev33]; exact add_i rfl (by decide) (by omega) (by omega)
            refine lv_iinc (v := v33) (lv' := [(3, .int v33), (0, .ref a0), (1, .int x1), (2, .int x2)]) hx hb dX12_nearer_33 hl (k := 0) rfl (by rw [ev33]; rfl) (by decide) rfl (fun ls hl => ?_)
            refine lv_goto (tgt := 2) hx hb dX12_nearer_36 (by decide) ?_
            exact ih2 _ (by omega) v33 _ _ _ rfl (by omega) (by omega) (by first | (refine NRi_0 ?_; decide) | (refine NRi_s (a := p2_3) i2n ?_ tv33 (Or.inl (inF_z x_v150 tc18)); omega) | (refine NRi_s i2n ?_ tv33 (Or.inr ⟨tv26, tc28⟩); omega)) hH hS (lv_sub hl [0, 1, 2, 3] rfl)
          · skip
            have fuc28 := full_i v26
            have fvc28 := full_i x2
            have tc28 := g_eq c28
            refine lv_iload_n hx hb dX12_nearer_31 rfl (lv_at hl 0 rfl) ?_
            exact te_i hx hb hr hlocks hH hS (⟨rfl, by omega, by omega, (Or.inr ⟨by omega, by omega, inF_nz x_v150 tc18, by rw [← tv26]; omega⟩)⟩) dX12_nearer_32
  refine lv_istore_n (lv' := [(3, .int 0), (0, .ref a0), (1, .int x1), (2, .int x2)]) hx hb dX12_nearer_1 rfl hl (by decide) rfl (fun ls hl => ?_)
  have z_0 : (0 : Int32).toInt = 0 := by decide
  exact J2 _ 0 _ _ _ rfl (by decide) (by decide) (by first | (refine NRi_0 ?_; decide) | (refine NRi_s (a := p2_3) i2n ?_ tv33 (Or.inl (inF_z x_v150 tc18)); omega) | (refine NRi_s i2n ?_ tv33 (Or.inr ⟨tv26, tc28⟩); omega)) hH hS (lv_sub hl [0, 1, 2, 3] rfl)
theorem dX12_laysWay_0 : decode cX12_laysWay 0 = .ok (.iconst 0, 1) := by decide +kernel
theorem dX12_laysWay_1 : decode cX12_laysWay 1 = .ok (.istore_n 2, 1) := by decide +kernel
theorem dX12_laysWay_2 : decode cX12_laysWay 2 = .ok (.iload_n 2, 1) := by decide +kernel
theorem dX12_laysWay_3 : decode cX12_laysWay 3 = .ok (.aload_n 0, 1) := by decide +kernel
theorem dX12_laysWay_4 : decode cX12_laysWay 4 = .ok (.getfield 13, 3) := by decide +kernel
theorem dX12_laysWay_7 : decode cX12_laysWay 7 = .ok (.iconst 1, 1) := by decide +kernel
theorem dX12_laysWay_8 : decode cX12_laysWay 8 = .ok (.iaload, 1) := by decide +kernel
theorem dX12_laysWay_9 : decode cX12_laysWay 9 = .ok (.if_icmp .ge 37, 3) := by decide +kernel
theorem dX12_laysWay_12 : decode cX12_laysWay 12 = .ok (.aload_n 0, 1) := by decide +kernel
theorem dX12_laysWay_13 : decode cX12_laysWay 13 = .ok (.getfield 36, 3) := by decide +kernel
theorem dX12_laysWay_16 : decode cX12_laysWay 16 = .ok (.iload_n 2, 1) := by decide +kernel
theorem dX12_laysWay_17 : decode cX12_laysWay 17 = .ok (.iload_n 1, 1) := by decide +kernel
theorem dX12_laysWay_18 : decode cX12_laysWay 18 = .ok (.aload_n 0, 1) := by decide +kernel
theorem dX12_laysWay_19 : decode cX12_laysWay 19 = .ok (.getfield 13, 3) := by decide +kernel
theorem dX12_laysWay_22 : decode cX12_laysWay 22 = .ok (.iconst 5, 1) := by decide +kernel
theorem dX12_laysWay_23 : decode cX12_laysWay 23 = .ok (.iaload, 1) := by decide +kernel
theorem dX12_laysWay_24 : decode cX12_laysWay 24 = .ok (.iand, 1) := by decide +kernel
theorem dX12_laysWay_25 : decode cX12_laysWay 25 = .ok (.i2l, 1) := by decide +kernel
theorem dX12_laysWay_26 : decode cX12_laysWay 26 = .ok (.iload_n 2, 1) := by decide +kernel
theorem dX12_laysWay_27 : decode cX12_laysWay 27 = .ok (.invokestatic 186, 3) := by decide +kernel
theorem dX12_laysWay_30 : decode cX12_laysWay 30 = .ok (.ifCond .eq 7, 3) := by decide +kernel
theorem dX12_laysWay_33 : decode cX12_laysWay 33 = .ok (.iconst 0, 1) := by decide +kernel
theorem dX12_laysWay_34 : decode cX12_laysWay 34 = .ok (.goto 5, 3) := by decide +kernel
theorem dX12_laysWay_37 : decode cX12_laysWay 37 = .ok (.bipush 99, 2) := by decide +kernel
theorem dX12_laysWay_39 : decode cX12_laysWay 39 = .ok (.iastore, 1) := by decide +kernel
theorem dX12_laysWay_40 : decode cX12_laysWay 40 = .ok (.iinc 2 1, 3) := by decide +kernel
theorem dX12_laysWay_43 : decode cX12_laysWay 43 = .ok (.goto (-41), 3) := by decide +kernel
theorem dX12_laysWay_46 : decode cX12_laysWay 46 = .ok (.iconst 1, 1) := by decide +kernel
theorem dX12_laysWay_47 : decode cX12_laysWay 47 = .ok (.istore_n 2, 1) := by decide +kernel
theorem dX12_laysWay_48 : decode cX12_laysWay 48 = .ok (.iload_n 2, 1) := by decide +kernel
theorem dX12_laysWay_49 : decode cX12_laysWay 49 = .ok (.aload_n 0, 1) := by decide +kernel
theorem dX12_laysWay_50 : decode cX12_laysWay 50 = .ok (.getfield 13, 3) := by decide +kernel
theorem dX12_laysWay_53 : decode cX12_laysWay 53 = .ok (.iconst 1, 1) := by decide +kernel
theorem dX12_laysWay_54 : decode cX12_laysWay 54 = .ok (.iaload, 1) := by decide +kernel
theorem dX12_laysWay_55 : decode cX12_laysWay 55 = .ok (.if_icmp .ge 73, 3) := by decide +kernel
theorem dX12_laysWay_58 : decode cX12_laysWay 58 = .ok (.iconst 0, 1) := by decide +kernel
theorem dX12_laysWay_59 : decode cX12_laysWay 59 = .ok (.istore_n 3, 1) := by decide +kernel
theorem dX12_laysWay_60 : decode cX12_laysWay 60 = .ok (.iload_n 3, 1) := by decide +kernel
theorem dX12_laysWay_61 : decode cX12_laysWay 61 = .ok (.aload_n 0, 1) := by decide +kernel
theorem dX12_laysWay_62 : decode cX12_laysWay 62 = .ok (.getfield 13, 3) := by decide +kernel
theorem dX12_laysWay_65 : decode cX12_laysWay 65 = .ok (.iconst 1, 1) := by decide +kernel
theorem dX12_laysWay_66 : decode cX12_laysWay 66 = .ok (.iaload, 1) := by decide +kernel
theorem dX12_laysWay_67 : decode cX12_laysWay 67 = .ok (.if_icmp .ge 55, 3) := by decide +kernel
theorem dX12_laysWay_70 : decode cX12_laysWay 70 = .ok (.aload_n 0, 1) := by decide +kernel
theorem dX12_laysWay_71 : decode cX12_laysWay 71 = .ok (.getfield 36, 3) := by decide +kernel
theorem dX12_laysWay_74 : decode cX12_laysWay 74 = .ok (.iload_n 3, 1) := by decide +kernel
theorem dX12_laysWay_75 : decode cX12_laysWay 75 = .ok (.iaload, 1) := by decide +kernel
theorem dX12_laysWay_76 : decode cX12_laysWay 76 = .ok (.bipush 99, 2) := by decide +kernel
theorem dX12_laysWay_78 : decode cX12_laysWay 78 = .ok (.if_icmp .ne 38, 3) := by decide +kernel
theorem dX12_laysWay_81 : decode cX12_laysWay 81 = .ok (.iload_n 1, 1) := by decide +kernel
theorem dX12_laysWay_82 : decode cX12_laysWay 82 = .ok (.i2l, 1) := by decide +kernel
theorem dX12_laysWay_83 : decode cX12_laysWay 83 = .ok (.iload_n 3, 1) := by decide +kernel
theorem dX12_laysWay_84 : decode cX12_laysWay 84 = .ok (.invokestatic 186, 3) := by decide +kernel
theorem dX12_laysWay_87 : decode cX12_laysWay 87 = .ok (.ifCond .eq 29, 3) := by decide +kernel
theorem dX12_laysWay_90 : decode cX12_laysWay 90 = .ok (.aload_n 0, 1) := by decide +kernel
theorem dX12_laysWay_91 : decode cX12_laysWay 91 = .ok (.aload_n 0, 1) := by decide +kernel
theorem dX12_laysWay_92 : decode cX12_laysWay 92 = .ok (.getfield 33, 3) := by decide +kernel
theorem dX12_laysWay_95 : decode cX12_laysWay 95 = .ok (.iload_n 3, 1) := by decide +kernel
theorem dX12_laysWay_96 : decode cX12_laysWay 96 = .ok (.iaload, 1) := by decide +kernel
theorem dX12_laysWay_97 : decode cX12_laysWay 97 = .ok (.iload_n 1, 1) := by decide +kernel
theorem dX12_laysWay_98 : decode cX12_laysWay 98 = .ok (.iand, 1) := by decide +kernel
theorem dX12_laysWay_99 : decode cX12_laysWay 99 = .ok (.iload_n 2, 1) := by decide +kernel
theorem dX12_laysWay_100 : decode cX12_laysWay 100 = .ok (.iconst 1, 1) := by decide +kernel
theorem dX12_laysWay_101 : decode cX12_laysWay 101 = .ok (.isub, 1) := by decide +kernel
theorem dX12_laysWay_102 : decode cX12_laysWay 102 = .ok (.invokevirtual 263, 3) := by decide +kernel
theorem dX12_laysWay_105 : decode cX12_laysWay 105 = .ok (.iconst (-1), 1) := by decide +kernel
theorem dX12_laysWay_106 : decode cX12_laysWay 106 = .ok (.if_icmp .eq 10, 3) := by decide +kernel
theorem dX12_laysWay_109 : decode cX12_laysWay 109 = .ok (.aload_n 0, 1) := by decide +kernel
theorem dX12_laysWay_110 : decode cX12_laysWay 110 = .ok (.getfield 36, 3) := by decide +kernel
theorem dX12_laysWay_113 : decode cX12_laysWay 113 = .ok (.iload_n 3, 1) := by decide +kernel
theorem dX12_laysWay_114 : decode cX12_laysWay 114 = .ok (.iload_n 2, 1) := by decide +kernel
theorem dX12_laysWay_115 : decode cX12_laysWay 115 = .ok (.iastore, 1) := by decide +kernel
theorem dX12_laysWay_116 : decode cX12_laysWay 116 = .ok (.iinc 3 1, 3) := by decide +kernel
theorem dX12_laysWay_119 : decode cX12_laysWay 119 = .ok (.goto (-59), 3) := by decide +kernel
theorem dX12_laysWay_122 : decode cX12_laysWay 122 = .ok (.iinc 2 1, 3) := by decide +kernel
theorem dX12_laysWay_125 : decode cX12_laysWay 125 = .ok (.goto (-77), 3) := by decide +kernel
theorem dX12_laysWay_128 : decode cX12_laysWay 128 = .ok (.bipush 99, 2) := by decide +kernel
theorem dX12_laysWay_130 : decode cX12_laysWay 130 = .ok (.istore_n 2, 1) := by decide +kernel
theorem dX12_laysWay_131 : decode cX12_laysWay 131 = .ok (.iconst 0, 1) := by decide +kernel
theorem dX12_laysWay_132 : decode cX12_laysWay 132 = .ok (.istore_n 3, 1) := by decide +kernel
theorem dX12_laysWay_133 : decode cX12_laysWay 133 = .ok (.iload_n 3, 1) := by decide +kernel
theorem dX12_laysWay_134 : decode cX12_laysWay 134 = .ok (.aload_n 0, 1) := by decide +kernel
theorem dX12_laysWay_135 : decode cX12_laysWay 135 = .ok (.getfield 13, 3) := by decide +kernel
theorem dX12_laysWay_138 : decode cX12_laysWay 138 = .ok (.iconst 1, 1) := by decide +kernel
theorem dX12_laysWay_139 : decode cX12_laysWay 139 = .ok (.iaload, 1) := by decide +kernel
theorem dX12_laysWay_140 : decode cX12_laysWay 140 = .ok (.if_icmp .ge 40, 3) := by decide +kernel
theorem dX12_laysWay_143 : decode cX12_laysWay 143 = .ok (.aload_n 0, 1) := by decide +kernel
theorem dX12_laysWay_144 : decode cX12_laysWay 144 = .ok (.getfield 13, 3) := by decide +kernel
theorem dX12_laysWay_147 : decode cX12_laysWay 147 = .ok (.iconst 4, 1) := by decide +kernel
theorem dX12_laysWay_148 : decode cX12_laysWay 148 = .ok (.iaload, 1) := by decide +kernel
theorem dX12_laysWay_149 : decode cX12_laysWay 149 = .ok (.i2l, 1) := by decide +kernel
theorem dX12_laysWay_150 : decode cX12_laysWay 150 = .ok (.iload_n 3, 1) := by decide +kernel
theorem dX12_laysWay_151 : decode cX12_laysWay 151 = .ok (.invokestatic 186, 3) := by decide +kernel
theorem dX12_laysWay_154 : decode cX12_laysWay 154 = .ok (.ifCond .eq 20, 3) := by decide +kernel
theorem dX12_laysWay_157 : decode cX12_laysWay 157 = .ok (.aload_n 0, 1) := by decide +kernel
theorem dX12_laysWay_158 : decode cX12_laysWay 158 = .ok (.getfield 36, 3) := by decide +kernel
theorem dX12_laysWay_161 : decode cX12_laysWay 161 = .ok (.iload_n 3, 1) := by decide +kernel
theorem dX12_laysWay_162 : decode cX12_laysWay 162 = .ok (.iaload, 1) := by decide +kernel
theorem dX12_laysWay_163 : decode cX12_laysWay 163 = .ok (.iload_n 2, 1) := by decide +kernel
theorem dX12_laysWay_164 : decode cX12_laysWay 164 = .ok (.if_icmp .ge 10, 3) := by decide +kernel
theorem dX12_laysWay_167 : decode cX12_laysWay 167 = .ok (.aload_n 0, 1) := by decide +kernel
theorem dX12_laysWay_168 : decode cX12_laysWay 168 = .ok (.getfield 36, 3) := by decide +kernel
theorem dX12_laysWay_171 : decode cX12_laysWay 171 = .ok (.iload_n 3, 1) := by decide +kernel
theorem dX12_laysWay_172 : decode cX12_laysWay 172 = .ok (.iaload, 1) := by decide +kernel
theorem dX12_laysWay_173 : decode cX12_laysWay 173 = .ok (.istore_n 2, 1) := by decide +kernel
theorem dX12_laysWay_174 : decode cX12_laysWay 174 = .ok (.iinc 3 1, 3) := by decide +kernel
theorem dX12_laysWay_177 : decode cX12_laysWay 177 = .ok (.goto (-44), 3) := by decide +kernel
theorem dX12_laysWay_180 : decode cX12_laysWay 180 = .ok (.iload_n 2, 1) := by decide +kernel
theorem dX12_laysWay_181 : decode cX12_laysWay 181 = .ok (.bipush 99, 2) := by decide +kernel
theorem dX12_laysWay_183 : decode cX12_laysWay 183 = .ok (.if_icmp .ne 5, 3) := by decide +kernel
theorem dX12_laysWay_186 : decode cX12_laysWay 186 = .ok (.iconst 0, 1) := by decide +kernel
theorem dX12_laysWay_187 : decode cX12_laysWay 187 = .ok (.ireturn, 1) := by decide +kernel
theorem dX12_laysWay_188 : decode cX12_laysWay 188 = .ok (.aload_n 0, 1) := by decide +kernel
theorem dX12_laysWay_189 : decode cX12_laysWay 189 = .ok (.aload_n 0, 1) := by decide +kernel
theorem dX12_laysWay_190 : decode cX12_laysWay 190 = .ok (.getfield 13, 3) := by decide +kernel
theorem dX12_laysWay_193 : decode cX12_laysWay 193 = .ok (.iconst 4, 1) := by decide +kernel
theorem dX12_laysWay_194 : decode cX12_laysWay 194 = .ok (.iaload, 1) := by decide +kernel
theorem dX12_laysWay_195 : decode cX12_laysWay 195 = .ok (.iload_n 1, 1) := by decide +kernel
theorem dX12_laysWay_196 : decode cX12_laysWay 196 = .ok (.iand, 1) := by decide +kernel
theorem dX12_laysWay_197 : decode cX12_laysWay 197 = .ok (.iload_n 2, 1) := by decide +kernel
theorem dX12_laysWay_198 : decode cX12_laysWay 198 = .ok (.invokevirtual 263, 3) := by decide +kernel
theorem dX12_laysWay_201 : decode cX12_laysWay 201 = .ok (.istore_n 3, 1) := by decide +kernel
theorem dX12_laysWay_202 : decode cX12_laysWay 202 = .ok (.aload_n 0, 1) := by decide +kernel
theorem dX12_laysWay_203 : decode cX12_laysWay 203 = .ok (.iconst 0, 1) := by decide +kernel
theorem dX12_laysWay_204 : decode cX12_laysWay 204 = .ok (.putfield 266, 3) := by decide +kernel
theorem dX12_laysWay_207 : decode cX12_laysWay 207 = .ok (.iload_n 2, 1) := by decide +kernel
theorem dX12_laysWay_208 : decode cX12_laysWay 208 = .ok (.istore 4, 2) := by decide +kernel
theorem dX12_laysWay_210 : decode cX12_laysWay 210 = .ok (.iload 4, 2) := by decide +kernel
theorem dX12_laysWay_212 : decode cX12_laysWay 212 = .ok (.ifCond .lt 51, 3) := by decide +kernel
theorem dX12_laysWay_215 : decode cX12_laysWay 215 = .ok (.aload_n 0, 1) := by decide +kernel
theorem dX12_laysWay_216 : decode cX12_laysWay 216 = .ok (.getfield 39, 3) := by decide +kernel
theorem dX12_laysWay_219 : decode cX12_laysWay 219 = .ok (.aload_n 0, 1) := by decide +kernel
theorem dX12_laysWay_220 : decode cX12_laysWay 220 = .ok (.getfield 266, 3) := by decide +kernel
theorem dX12_laysWay_223 : decode cX12_laysWay 223 = .ok (.iload_n 3, 1) := by decide +kernel
theorem dX12_laysWay_224 : decode cX12_laysWay 224 = .ok (.iastore, 1) := by decide +kernel
theorem dX12_laysWay_225 : decode cX12_laysWay 225 = .ok (.aload_n 0, 1) := by decide +kernel
theorem dX12_laysWay_226 : decode cX12_laysWay 226 = .ok (.dup, 1) := by decide +kernel
theorem dX12_laysWay_227 : decode cX12_laysWay 227 = .ok (.getfield 266, 3) := by decide +kernel
theorem dX12_laysWay_230 : decode cX12_laysWay 230 = .ok (.iconst 1, 1) := by decide +kernel
theorem dX12_laysWay_231 : decode cX12_laysWay 231 = .ok (.iadd, 1) := by decide +kernel
theorem dX12_laysWay_232 : decode cX12_laysWay 232 = .ok (.putfield 266, 3) := by decide +kernel
theorem dX12_laysWay_235 : decode cX12_laysWay 235 = .ok (.iload 4, 2) := by decide +kernel
theorem dX12_laysWay_237 : decode cX12_laysWay 237 = .ok (.ifCond .le 20, 3) := by decide +kernel
theorem dX12_laysWay_240 : decode cX12_laysWay 240 = .ok (.aload_n 0, 1) := by decide +kernel
theorem dX12_laysWay_241 : decode cX12_laysWay 241 = .ok (.aload_n 0, 1) := by decide +kernel
theorem dX12_laysWay_242 : decode cX12_laysWay 242 = .ok (.getfield 33, 3) := by decide +kernel
theorem dX12_laysWay_245 : decode cX12_laysWay 245 = .ok (.iload_n 3, 1) := by decide +kernel
theorem dX12_laysWay_246 : decode cX12_laysWay 246 = .ok (.iaload, 1) := by decide +kernel
theorem dX12_laysWay_247 : decode cX12_laysWay 247 = .ok (.iload_n 1, 1) := by decide +kernel
theorem dX12_laysWay_248 : decode cX12_laysWay 248 = .ok (.iand, 1) := by decide +kernel
theorem dX12_laysWay_249 : decode cX12_laysWay 249 = .ok (.iload 4, 2) := by decide +kernel
theorem dX12_laysWay_251 : decode cX12_laysWay 251 = .ok (.iconst 1, 1) := by decide +kernel
theorem dX12_laysWay_252 : decode cX12_laysWay 252 = .ok (.isub, 1) := by decide +kernel
theorem dX12_laysWay_253 : decode cX12_laysWay 253 = .ok (.invokevirtual 263, 3) := by decide +kernel
theorem dX12_laysWay_256 : decode cX12_laysWay 256 = .ok (.istore_n 3, 1) := by decide +kernel
theorem dX12_laysWay_257 : decode cX12_laysWay 257 = .ok (.iinc 4 (-1), 3) := by decide +kernel
theorem dX12_laysWay_260 : decode cX12_laysWay 260 = .ok (.goto (-50), 3) := by decide +kernel
theorem dX12_laysWay_263 : decode cX12_laysWay 263 = .ok (.iconst 1, 1) := by decide +kernel
theorem dX12_laysWay_264 : decode cX12_laysWay 264 = .ok (.ireturn, 1) := by decide +kernel
theorem dX12_laysWayOf_0 : decode cX12_laysWayOf 0 = .ok (.aload_n 0, 1) := by decide +kernel
theorem dX12_laysWayOf_1 : decode cX12_laysWayOf 1 = .ok (.iload_n 1, 1) := by decide +kernel
theorem dX12_laysWayOf_2 : decode cX12_laysWayOf 2 = .ok (.invokevirtual 257, 3) := by decide +kernel
theorem dX12_laysWayOf_5 : decode cX12_laysWayOf 5 = .ok (.aload_n 0, 1) := by decide +kernel
theorem dX12_laysWayOf_6 : decode cX12_laysWayOf 6 = .ok (.aload_n 0, 1) := by decide +kernel
theorem dX12_laysWayOf_7 : decode cX12_laysWayOf 7 = .ok (.invokevirtual 260, 3) := by decide +kernel
theorem dX12_laysWayOf_10 : decode cX12_laysWayOf 10 = .ok (.invokevirtual 269, 3) := by decide +kernel
theorem dX12_laysWayOf_13 : decode cX12_laysWayOf 13 = .ok (.ireturn, 1) := by decide +kernel
theorem kw_1564 : Cond.methodLink "FootholdWallModel" 269 yX12_laysWay ∈ gw := gw_of (tb_of 1564 (by decide +kernel)) (by decide +kernel)
theorem kw_1566 : Cond.instanceMethod yX12_laysWay ∈ gw := gw_of (tb_of 1566 (by decide +kernel)) (by decide +kernel)
theorem kw_1567 : Cond.code yX12_laysWay cX12_laysWay 5 (some (.boolean)) ∈ gw := gw_of (tb_of 1567 (by decide +kernel)) (by decide +kernel)
theorem kw_1568 : Cond.methodLink "FootholdWallModel" 263 yX12_nearer ∈ gw := gw_of (tb_of 1568 (by decide +kernel)) (by decide +kernel)
theorem kw_1570 : Cond.instanceMethod yX12_nearer ∈ gw := gw_of (tb_of 1570 (by decide +kernel)) (by decide +kernel)
theorem kw_1571 : Cond.code yX12_nearer cX12_nearer 4 (some (.int)) ∈ gw := gw_of (tb_of 1571 (by decide +kernel)) (by decide +kernel)
theorem ks_83 : Cond.selects RX12 yX12_laysWay yX12_laysWay ∈ gw := gw_of (pv_of 83 (by decide +kernel)) (by decide +kernel)
theorem ks_84 : Cond.selects RX12 yX12_nearer yX12_nearer ∈ gw := gw_of (pv_of 84 (by decide +kernel)) (by decide +kernel)
set_option maxHeartbeats 4000000 in
set_option maxRecDepth 100000 in
theorem s_M_laysWay (l : Launch) (D : va_G) (cs : CS) (kf : KF) (T : TF) (O : List Nat) (X : va_W) (a0 hg mq : Nat) (x1 : Int32) (t_a0 : T a0 = some (22, hg, mq)) (b_hg : hg < 90) (l_x1 : 0 ≤ x1.toInt) (u_x1 : x1.toInt ≤ 16383) (hO : okO T O [1, 8, 9, 22]) : TK l D cs kf yX12_laysWay cX12_laysWay 5 (some (.boolean)) { frames := 2, cells := 0, slots := 0, locals := 45 } [.ref a0, .int x1] T O X (Ti D cs (fun r u => u = (T, O, X) ∧ 0 ≤ r.toInt ∧ r.toInt ≤ 1)) := by
  refine tk_of (by decide) (Nat.le_of_ble_eq_true rfl) (fun p e s m below meth c ls A H locs hx hb hr hml hown hts hlocks hnm hkb hH hS hA hOX hks hE hl => ?_)
  have hown : s.vm.findClass RX12 = some m.cls := hown
  have hl : lv_has ls 5 [(0, .ref a0), (1, .int x1)] := hl
  have hO0 := hO
  obtain ⟨fs9, ho9, hH⟩ := hH.take t_a0 (hO0.no t_a0 (by decide))
  have hp0 : okL T (ft12 hg mq) fs9 := ho9
  clear ho9
  obtain ⟨v9, fs9, rfl, h9, hp1⟩ := okL_i hp0
  obtain ⟨q0_0, rfl⟩ := h9
  obtain ⟨v9, fs9, rfl, h9, hp2⟩ := okL_i hp1
  obtain ⟨q0_1, rfl, t_q0_1⟩ := h9
  obtain ⟨v9, fs9, rfl, h9, hp3⟩ := okL_i hp2
  obtain ⟨q0_2, rfl, t_q0_2⟩ := h9
  obtain ⟨v9, fs9, rfl, h9, hp4⟩ := okL_i hp3
  obtain ⟨q0_3, rfl, t_q0_3⟩ := h9
  obtain ⟨v9, fs9, rfl, h9, hp5⟩ := okL_i hp4
  obtain ⟨q0_4, rfl, t_q0_4⟩ := h9
  obtain ⟨v9, fs9, rfl, h9, hp6⟩ := okL_i hp5
  obtain ⟨q0_5, rfl, l_q0_5, u_q0_5, eg_q0_5⟩ := h9
  obtain ⟨v9, fs9, rfl, h9, hp7⟩ := okL_i hp6
  obtain ⟨q0_6, rfl⟩ := h9
  obtain ⟨v9, fs9, rfl, h9, hp8⟩ := okL_i hp7
  obtain ⟨q0_7, rfl⟩ := h9
  obtain ⟨v9, fs9, rfl, h9, hp9⟩ := okL_i hp8
  obtain ⟨q0_8, rfl⟩ := h9
  obtain ⟨v9, fs9, rfl, h9, hp10⟩ := okL_i hp9
  obtain ⟨q0_9, rfl⟩ := h9
  obtain ⟨v9, fs9, rfl, h9, hp11⟩ := okL_i hp10
  obtain ⟨q0_10, rfl, l_q0_10, u_q0_10⟩ := h9
  obtain ⟨v9, fs9, rfl, h9, hp12⟩ := okL_i hp11
  obtain ⟨q0_11, rfl⟩ := h9
  obtain ⟨v9, fs9, rfl, h9, hp13⟩ := okL_i hp12
  obtain ⟨q0_12, rfl⟩ := h9
  obtain ⟨v9, fs9, rfl, h9, hp14⟩ := okL_i hp13
  obtain ⟨q0_13, rfl, eg_q0_13⟩ := h9
  obtain ⟨v9, fs9, rfl, h9, hp15⟩ := okL_i hp14
  obtain ⟨q0_14, rfl, eg_q0_14⟩ := h9
  obtain ⟨v9, fs9, rfl, h9, hp16⟩ := okL_i hp15
  obtain ⟨q0_15, rfl, t_q0_15⟩ := h9
  obtain ⟨v9, fs9, rfl, h9, hp17⟩ := okL_i hp16
  obtain ⟨q0_16, rfl⟩ := h9
  obtain ⟨v9, fs9, rfl, h9, hp18⟩ := okL_i hp17
  obtain ⟨q0_17, rfl, t_q0_17⟩ := h9
  obtain ⟨v9, fs9, rfl, h9, hp19⟩ := okL_i hp18
  obtain ⟨q0_18, rfl, t_q0_18⟩ := h9
  obtain ⟨v9, fs9, rfl, h9, hp20⟩ := okL_i hp19
  obtain ⟨q0_19, rfl, t_q0_19⟩ := h9
  obtain ⟨v9, fs9, rfl, h9, hp21⟩ := okL_i hp20
  obtain ⟨q0_20, rfl, l_q0_20, u_q0_20⟩ := h9
  obtain ⟨v9, fs9, rfl, h9, hp22⟩ := okL_i hp21
  obtain ⟨q0_21, rfl, t_q0_21⟩ := h9
  obtain ⟨v9, fs9, rfl, h9, hp23⟩ := okL_i hp22
  obtain ⟨q0_22, rfl, t_q0_22⟩ := h9
  obtain ⟨v9, fs9, rfl, h9, hp24⟩ := okL_i hp23
  obtain ⟨q0_23, rfl⟩ := h9
  obtain ⟨v9, fs9, rfl, h9, hp25⟩ := okL_i hp24
  obtain ⟨q0_24, rfl⟩ := h9
  obtain ⟨v9, fs9, rfl, h9, hp26⟩ := okL_i hp25
  obtain ⟨q0_25, rfl⟩ := h9
  obtain ⟨v9, fs9, rfl, h9, hp27⟩ := okL_i hp26
  obtain ⟨q0_26, rfl, t_q0_26⟩ := h9
  obtain ⟨v9, fs9, rfl, h9, hp28⟩ := okL_i hp27
  obtain ⟨q0_27, rfl, t_q0_27⟩ := h9
  obtain ⟨v9, fs9, rfl, h9, hp29⟩ := okL_i hp28
  obtain ⟨q0_28, rfl, t_q0_28⟩ := h9
  obtain ⟨v9, fs9, rfl, h9, hp30⟩ := okL_i hp29
  obtain ⟨q0_29, rfl, t_q0_29⟩ := h9
  obtain ⟨v9, fs9, rfl, h9, hp31⟩ := okL_i hp30
  obtain ⟨q0_30, rfl, t_q0_30⟩ := h9
  obtain ⟨v9, fs9, rfl, h9, hp32⟩ := okL_i hp31
  obtain ⟨q0_31, rfl, t_q0_31⟩ := h9
  obtain ⟨v9, fs9, rfl, h9, hp33⟩ := okL_i hp32
  obtain ⟨q0_32, rfl⟩ := h9
  obtain ⟨v9, fs9, rfl, h9, hp34⟩ := okL_i hp33
  obtain ⟨q0_33, rfl, t_q0_33⟩ := h9
  obtain ⟨v9, fs9, rfl, h9, hp35⟩ := okL_i hp34
  obtain ⟨q0_34, rfl, t_q0_34⟩ := h9
  obtain ⟨v9, fs9, rfl, h9, hp36⟩ := okL_i hp35
  obtain ⟨q0_35, rfl, t_q0_35⟩ := h9
  have hpz := okL_z hp36
  subst hpz
  have hH : HT D cs A T (a0 :: O) ((a0, .inr (12, [.int q0_0, .ref q0_1, .ref q0_2, .ref q0_3, .ref q0_4, .int q0_5, .int q0_6, .int q0_7, .int q0_8, .int q0_9, .int q0_10, .int q0_11, .int q0_12, .int q0_13, .int q0_14, .ref q0_15, .int q0_16, .ref q0_17, .ref q0_18, .ref q0_19, .int q0_20, .ref q0_21, .ref q0_22, .int q0_23, .int q0_24, .int q0_25, .ref q0_26, .ref q0_27, .ref q0_28, .ref q0_29, .ref q0_30, .ref q0_31, .int q0_32, .ref q0_33, .ref q0_34, .ref q0_35])) :: X) H := hH
  have hO : okO T (a0 :: O) [1, 8, 9] := okO.cons (hO0.sub (by decide)) t_a0 (by decide)
  obtain ⟨e9, hs9, hH⟩ := HT.takeA hH t_q0_1 (nm_c (tag_ne t_q0_1 t_a0 (by first | decide | exact fun q => absurd (show 8 = 22 from congrArg Prod.fst q) (by decide))) (hO0.no t_q0_1 (by decide)))
  obtain ⟨f1, rfl, s_f1, g_f1⟩ : ∃ f : Nat → Int32, e9 = .inl (cs.2.1, 3906, .inl f) ∧ B8 3906 f ∧ (3906 = 3906 → f 1 = nI (hg / 6) ∧ f 2 = nI (hg % 6)) := hs9
  have g_f1 := g_f1 rfl
  have hO : okO T (q0_1 :: a0 :: O) [1] := okO.cons (hO.sub (by decide)) t_q0_1 (by decide)
  obtain ⟨e9, hs9, hH⟩ := HT.takeA hH t_q0_17 (nm_c (tag_ne t_q0_17 t_q0_1 (fun q => absurd (show 9 = 8 from congrArg Prod.fst q) (by decide))) (nm_c (tag_ne t_q0_17 t_a0 (fun q => absurd (show 9 = 22 from congrArg Prod.fst q) (by decide))) (hO0.no9 t_q0_17 (by decide))))
  obtain ⟨f17, rfl, c_f17⟩ : ∃ f : Nat → Int32, e9 = .inl (cs.2.1, 14, .inl f) ∧ ∀ j, cp 1 (f j) := hs9
  have hO : okO T (q0_17 :: q0_1 :: a0 :: O) [1] := okO.cons (hO.sub (by decide)) t_q0_17 (by decide)
  obtain ⟨e9, hs9, hH⟩ := HT.takeA hH t_q0_18 (nm_c (tag_ne t_q0_18 t_q0_17 (by decide)) (nm_c (tag_ne t_q0_18 t_q0_1 (fun q => absurd (show 9 = 8 from congrArg Prod.fst q) (by decide))) (nm_c (tag_ne t_q0_18 t_a0 (fun q => absurd (show 9 = 22 from congrArg Prod.fst q) (by decide))) (hO0.no9 t_q0_18 (by decide)))))
  obtain ⟨f18, rfl, c_f18⟩ : ∃ f : Nat → Int32, e9 = .inl (cs.2.1, 14, .inl f) ∧ ∀ j, cp 8 (f j) := hs9
  have hO : okO T (q0_18 :: q0_17 :: q0_1 :: a0 :: O) [1] := okO.cons (hO.sub (by decide)) t_q0_18 (by decide)
  refine lv_iconst (v := 0) hx hb dX12_laysWay_0 (by decide) ?_
  have J2 : ∀ (n : Nat) (p2_2 : Int32) (g2_0 : Nat → Int32) (H : Heap) (locs : List Loc) (ls : Array Slot), (14 - p2_2.toInt).toNat = n → (∀ j, cp 8 (g2_0 j)) → (0 ≤ p2_2.toInt) → (p2_2.toInt ≤ 14) → (LW0 x1 g2_0 p2_2.toInt.toNat) → HT D cs A T (q0_18 :: q0_17 :: q0_1 :: a0 :: O) ((q0_18, .inl (cs.2.1, 14, .inl g2_0)) :: (q0_17, .inl (cs.2.1, 14, .inl f17)) :: (q0_1, .inl (cs.2.1, 3906, .inl f1)) :: (a0, .inr (12, [.int q0_0, .ref q0_1, .ref q0_2, .ref q0_3, .ref q0_4, .int q0_5, .int q0_6, .int q0_7, .int q0_8, .int q0_9, .int q0_10, .int q0_11, .int q0_12, .int q0_13, .int q0_14, .ref q0_15, .int q0_16, .ref q0_17, .ref q0_18, .ref q0_19, .int q0_20, .ref q0_21, .ref q0_22, .int q0_23, .int q0_24, .int q0_25, .ref q0_26, .ref q0_27, .ref q0_28, .ref q0_29, .ref q0_30, .ref q0_31, .int q0_32, .ref q0_33, .ref q0_34, .ref q0_35])) :: X) H → va_S A s.heap H locs → lv_has ls 5 [(2, .int p2_2), (0, .ref a0), (1, .int x1)] → W p l e { frames := 2, cells := 0, slots := 0, locals := 45 } s m [.ref a0, .int x1].toArray below meth c H locs 0 0 (MQ below (Ti D cs (fun r u => u = (T, O, X) ∧ 0 ≤ r.toInt ∧ r.toInt ≤ 1) A) [.ref a0, .int x1].toArray s 0 0 A) (F0 m 2 ls []) := by
    intro n
    induction n using Nat.strongRecOn with
    | _ n ih2 =>
      intro p2_2 g2_0 H locs ls hm2 c_g2_0 l_p2_2 u_p2_2 i2w hH hS hl
      refine lv_iload_n hx hb dX12_laysWay_2 rfl (lv_at hl 0 rfl) ?_
      refine lv_aload_n hx hb dX12_laysWay_3 rfl (lv_at hl 1 rfl) ?_
      refine x_getk (ci := 12) (C := RX12) (F := TX12) (N := 36) (v := .ref q0_1) hx hb hts uX12 hown hkb hH 3 rfl rfl 1 (by decide) rfl kw_1224 (fun _ h9 => h9) dX12_laysWay_4 ?_
      refine lv_iconst (v := 1) hx hb dX12_laysWay_7 (by decide) ?_
      refine xa_ild hx hb hkb hH 2 rfl (by decide) (by decide) dX12_laysWay_8 ?_
      refine lv_topi (fun v8 ev8 => ?_)
      have tv8 : v8 = f1 1 := by rw [ev8]; rfl
      have bv8 : 0 ≤ v8.toInt ∧ v8.toInt ≤ 14 := by rw [ev8]; exact (s_f1.at (by decide) 1).1 (by decide)
      have hv8 : v8.toInt = ((hg / 6 : Nat) : Int) := by rw [tv8, g_f1.1]; exact nI_toInt (by omega)
      refine lv_icmp_ge (tgt := 46) hx hb dX12_laysWay_9 (by decide) (fun c9 => ?_) (fun c9 => ?_)
      · skip
        have fuc9 := full_i p2_2
        have fvc9 := full_i v8
        have tc9 := g_le c9
        refine lv_iconst (v := 1) hx hb dX12_laysWay_46 (by decide) ?_
        have J48 : ∀ (n : Nat) (p48_2 : Int32) (g48_0 : Nat → Int32) (H : Heap) (locs : List Loc) (ls : Array Slot), (14 - p48_2.toInt).toNat = n → (∀ j, cp 8 (g48_0 j)) → (1 ≤ p48_2.toInt) → (p48_2.toInt ≤ 14) → (LW (hg / 6) x1 f17 g48_0 (p48_2.toInt - 1)) → HT D cs A T (q0_18 :: q0_17 :: q0_1 :: a0 :: O) ((q0_18, .inl (cs.2.1, 14, .inl g48_0)) :: (q0_17, .inl (cs.2.1, 14, .inl f17)) :: (q0_1, .inl (cs.2.1, 3906, .inl f1)) :: (a0, .inr (12, [.int q0_0, .ref q0_1, .ref q0_2, .ref q0_3, .ref q0_4, .int q0_5, .int q0_6, .int q0_7, .int q0_8, .int q0_9, .int q0_10, .int q0_11, .int q0_12, .int q0_13, .int q0_14, .ref q0_15, .int q0_16, .ref q0_17, .ref q0_18, .ref q0_19, .int q0_20, .ref q0_21, .ref q0_22, .int q0_23, .int q0_24, .int q0_25, .ref q0_26, .ref q0_27, .ref q0_28, .ref q0_29, .ref q0_30, .ref q0_31, .int q0_32, .ref q0_33, .ref q0_34, .ref q0_35])) :: X) H → va_S A s.heap H locs → lv_has ls 5 [(2, .int p48_2), (0, .ref a0), (1, .int x1)] → W p l e { frames := 2, cells := 0, slots := 0, locals := 45 } s m [.ref a0, .int x1].toArray below meth c H locs 0 0 (MQ below (Ti D cs (fun r u => u = (T, O, X) ∧ 0 ≤ r.toInt ∧ r.toInt ≤ 1) A) [.ref a0, .int x1].toArray s 0 0 A) (F0 m 48 ls []) := by
          intro n
          induction n using Nat.strongRecOn with
          | _ n ih48 =>
            intro p48_2 g48_0 H locs ls hm48 c_g48_0 l_p48_2 u_p48_2 i48w hH hS hl
            refine lv_iload_n hx hb dX12_laysWay_48 rfl (lv_at hl 0 rfl) ?_
            refine lv_aload_n hx hb dX12_laysWay_49 rfl (lv_at hl 1 rfl) ?_
            refine x_getk (ci := 12) (C := RX12) (F := TX12) (N := 36) (v := .ref q0_1) hx hb hts uX12 hown hkb hH 3 rfl rfl 1 (by decide) rfl kw_1224 (fun _ h9 => h9) dX12_laysWay_50 ?_
            refine lv_iconst (v := 1) hx hb dX12_laysWay_53 (by decide) ?_
            refine xa_ild hx hb hkb hH 2 rfl (by decide) (by decide) dX12_laysWay_54 ?_
            refine lv_topi (fun v54 ev54 => ?_)
            have tv54 : v54 = f1 1 := by rw [ev54]; rfl
            have bv54 : 0 ≤ v54.toInt ∧ v54.toInt ≤ 14 := by rw [ev54]; exact (s_f1.at (by decide) 1).1 (by decide)
            have hv54 : v54.toInt = ((hg / 6 : Nat) : Int) := by rw [tv54, g_f1.1]; exact nI_toInt (by omega)
            refine lv_icmp_ge (tgt := 128) hx hb dX12_laysWay_55 (by decide) (fun c55 => ?_) (fun c55 => ?_)
            · skip
              have fuc55 := full_i p48_2
              have fvc55 := full_i v54
              have tc55 := g_le c55
              refine lv_bipush (v := 99) hx hb dX12_laysWay_128 (by decide) ?_
              refine lv_istore_n (lv' := [(2, .int 99), (0, .ref a0), (1, .int x1)]) hx hb dX12_laysWay_130 rfl hl (by decide) rfl (fun ls hl => ?_)
              refine lv_iconst (v := 0) hx hb dX12_laysWay_131 (by decide) ?_
              have J133 : ∀ (n : Nat) (p133_3 : Int32) (p133_2 : Int32) (H : Heap) (locs : List Loc) (ls : Array Slot), (14 - p133_3.toInt).toNat = n → (0 ≤ p133_3.toInt) → (p133_3.toInt ≤ 14) → (p133_2.toInt ≤ 99) → (LB (hg / 6) (f1 4) g48_0 p133_2) → (p133_2.toInt ≤ 99) → HT D cs A T (q0_18 :: q0_17 :: q0_1 :: a0 :: O) ((q0_18, .inl (cs.2.1, 14, .inl g48_0)) :: (q0_17, .inl (cs.2.1, 14, .inl f17)) :: (q0_1, .inl (cs.2.1, 3906, .inl f1)) :: (a0, .inr (12, [.int q0_0, .ref q0_1, .ref q0_2, .ref q0_3, .ref q0_4, .int q0_5, .int q0_6, .int q0_7, .int q0_8, .int q0_9, .int q0_10, .int q0_11, .int q0_12, .int q0_13, .int q0_14, .ref q0_15, .int q0_16, .ref q0_17, .ref q0_18, .ref q0_19, .int q0_20, .ref q0_21, .ref q0_22, .int q0_23, .int q0_24, .int q0_25, .ref q0_26, .ref q0_27, .ref q0_28, .ref q0_29, .ref q0_30, .ref q0_31, .int q0_32, .ref q0_33, .ref q0_34, .ref q0_35])) :: X) H → va_S A s.heap H locs → lv_has ls 5 [(3, .int p133_3), (2, .int p133_2), (0, .ref a0), (1, .int x1)] → W p l e { frames := 2, cells := 0, slots := 0, locals := 45 } s m [.ref a0, .int x1].toArray below meth c H locs 0 0 (MQ below (Ti D cs (fun r u => u = (T, O, X) ∧ 0 ≤ r.toInt ∧ r.toInt ≤ 1) A) [.ref a0, .int x1].toArray s 0 0 A) (F0 m 133 ls []) := by
                intro n
                induction n using Nat.strongRecOn with
                | _ n ih133 =>
                  intro p133_3 p133_2 H locs ls hm133 l_p133_3 u_p133_3 u_p133_2 i133b i133c hH hS hl
                  refine lv_iload_n hx hb dX12_laysWay_133 rfl (lv_at hl 0 rfl) ?_
                  refine lv_aload_n hx hb dX12_laysWay_134 rfl (lv_at hl 2 rfl) ?_
                  refine x_getk (ci := 12) (C := RX12) (F := TX12) (N := 36) (v := .ref q0_1) hx hb hts uX12 hown hkb hH 3 rfl rfl 1 (by decide) rfl kw_1224 (fun _ h9 => h9) dX12_laysWay_135 ?_
                  refine lv_iconst (v := 1) hx hb dX12_laysWay_138 (by decide) ?_
                  refine xa_ild hx hb hkb hH 2 rfl (by decide) (by decide) dX12_laysWay_139 ?_
                  refine lv_topi (fun v139 ev139 => ?_)
                  have tv139 : v139 = f1 1 := by rw [ev139]; rfl
                  have bv139 : 0 ≤ v139.toInt ∧ v139.toInt ≤ 14 := by rw [ev139]; exact (s_f1.at (by decide) 1).1 (by decide)
                  have hv139 : v139.toInt = ((hg / 6 : Nat) : Int) := by rw [tv139, g_f1.1]; exact nI_toInt (by omega)
                  refine lv_icmp_ge (tgt := 180) hx hb dX12_laysWay_140 (by decide) (fun c140 => ?_) (fun c140 => ?_)
                  · skip
                    have fuc140 := full_i p133_3
                    have fvc140 := full_i v139
                    have tc140 := g_le c140
                    refine lv_iload_n hx hb dX12_laysWay_180 rfl (lv_at hl 1 rfl) ?_
                    refine lv_bipush (v := 99) hx hb dX12_laysWay_181 (by decide) ?_
                    refine lv_icmp_ne (tgt := 188) hx hb dX12_laysWay_183 (by decide) (fun c183 => ?_) (fun c183 => ?_)
                    · skip
                      have tc183 := f_ne (k := 99) (by decide) c183
                      refine lv_aload_n hx hb dX12_laysWay_188 rfl (lv_at hl 2 rfl) ?_
                      refine lv_aload_n hx hb dX12_laysWay_189 rfl (lv_at hl 2 rfl) ?_
                      refine x_getk (ci := 12) (C := RX12) (F := TX12) (N := 36) (v := .ref q0_1) hx hb hts uX12 hown hkb hH 3 rfl rfl 1 (by decide) rfl kw_1224 (fun _ h9 => h9) dX12_laysWay_190 ?_
                      refine lv_iconst (v := 4) hx hb dX12_laysWay_193 (by decide) ?_
                      refine xa_ild hx hb hkb hH 2 rfl (by decide) (by decide) dX12_laysWay_194 ?_
                      refine lv_topi (fun v194 ev194 => ?_)
                      have tv194 : v194 = f1 4 := by rw [ev194]; rfl
                      have bv194 : 0 ≤ v194.toInt ∧ v194.toInt ≤ 16383 := by rw [ev194]; exact (s_f1.at (by decide) 4).2.2.1 (by decide)
                      refine lv_iload_n hx hb dX12_laysWay_195 rfl (lv_at hl 3 rfl) ?_
                      refine lv_iand hx hb dX12_laysWay_196 ?_
                      refine lv_topi (fun v196 ev196 => ?_)
                      have tv196 : 0 ≤ v196.toInt ∧ v196.toInt ≤ v194.toInt := by rw [ev196]; exact and_l (by omega)
                      have ttv196 : 0 ≤ v196.toInt ∧ v196.toInt ≤ x1.toInt := by rw [ev196]; exact and_r (by omega)
                      refine lv_iload_n hx hb dX12_laysWay_197 rfl (lv_at hl 1 rfl) ?_
                      refine tk_i hH hS hA (tr_V (n := 2) (As := [.int v196, .int p133_2]) hx hb hml hown hts hkb hH (ox_c (ox_c (ox_c (ox_c hOX)))) hks hE hS hA (s_M_nearer l D cs kf T O X a0 hg mq v196 p133_2 g48_0 f17 f1 (.int q0_0) q0_1 (.ref q0_2) (.ref q0_3) (.ref q0_4) (.int q0_5) (.int q0_6) (.int q0_7) (.int q0_8) (.int q0_9) (.int q0_10) (.int q0_11) (.int q0_12) (.int q0_13) (.int q0_14) (.ref q0_15) (.int q0_16) q0_17 q0_18 [.ref q0_19, .int q0_20, .ref q0_21, .ref q0_22, .int q0_23, .int q0_24, .int q0_25, .ref q0_26, .ref q0_27, .ref q0_28, .ref q0_29, .ref q0_30, .ref q0_31, .int q0_32, .ref q0_33, .ref q0_34, .ref q0_35] t_a0 b_hg s_f1 g_f1 t_q0_1 t_q0_17 t_q0_18 (hO.sub (by decide))) kw_1568 kw_1570 ks_84 kw_13 kw_1571 (by decide +kernel) ⟨Nat.le_of_ble_eq_true rfl, Nat.le_of_ble_eq_true rfl⟩ (x_recv (ci := 12) hkb hH 3 rfl rfl) rfl rfl hl.1 (Nat.le_of_ble_eq_true rfl) dX12_laysWay_198 ⟨Nat.le_of_ble_eq_true rfl, Nat.le_of_ble_eq_true rfl⟩) (fun v198 u H locs hz9 hH hS => ?_)
                      obtain ⟨rfl, l_v198, u_v198, x_v1980⟩ := hz9
                      have hH : HT D cs A T (q0_18 :: q0_17 :: q0_1 :: a0 :: O) ((q0_18, .inl (cs.2.1, 14, .inl g48_0)) :: (q0_17, .inl (cs.2.1, 14, .inl f17)) :: (q0_1, .inl (cs.2.1, 3906, .inl f1)) :: (a0, .inr (12, [.int q0_0, .ref q0_1, .ref q0_2, .ref q0_3, .ref q0_4, .int q0_5, .int q0_6, .int q0_7, .int q0_8, .int q0_9, .int q0_10, .int q0_11, .int q0_12, .int q0_13, .int q0_14, .ref q0_15, .int q0_16, .ref q0_17, .ref q0_18, .ref q0_19, .int q0_20, .ref q0_21, .ref q0_22, .int q0_23, .int q0_24, .int q0_25, .ref q0_26, .ref q0_27, .ref q0_28, .ref q0_29, .ref q0_30, .ref q0_31, .int q0_32, .ref q0_33, .ref q0_34, .ref q0_35])) :: X) H := hH
                      refine W.widen (k := 0) (n := 0) (Nat.le_of_ble_eq_true rfl) (Nat.le_of_ble_eq_true rfl) ?_
                      refine lv_istore_n (lv' := [(3, .int v198), (2, .int p133_2), (0, .ref a0), (1, .int x1)]) hx hb dX12_laysWay_201 rfl hl (by decide) rfl (fun ls hl => ?_)
                      have hb4 : 0 ≤ (f1 4).toInt := by rw [← tv194]; omega
                      have hn9 := LB_nr (by omega) (i48w.le (by omega)) i133b tc183 hb4 (by omega) (show v196 = f1 4 &&& x1 by rw [ev196, tv194]) x_v1980
                      refine lv_aload_n hx hb dX12_laysWay_202 rfl (lv_at hl 2 rfl) ?_
                      refine lv_iconst (v := 0) hx hb dX12_laysWay_203 (by decide) ?_
                      refine x_putk (ci := 12) (v := .int 0) (ty := tyX12 20) (C := RX12) (F := TX12) (N := 36) hx hb hts uX12 tyX12 tyX12_ok nmX12 hown hkb hH hS 3 rfl rfl 20 (by decide) kw_1243 (fun _ h9 => h9) rfl (tyX12_ok 20 (by decide)) rfl rfl (Nat.le_of_ble_eq_true rfl) dX12_laysWay_204 (fun H locs hH hS => ?_)
                      have hH : HT D cs A T (q0_18 :: q0_17 :: q0_1 :: a0 :: O) ((q0_18, .inl (cs.2.1, 14, .inl g48_0)) :: (q0_17, .inl (cs.2.1, 14, .inl f17)) :: (q0_1, .inl (cs.2.1, 3906, .inl f1)) :: (a0, .inr (12, [.int q0_0, .ref q0_1, .ref q0_2, .ref q0_3, .ref q0_4, .int q0_5, .int q0_6, .int q0_7, .int q0_8, .int q0_9, .int q0_10, .int q0_11, .int q0_12, .int q0_13, .int q0_14, .ref q0_15, .int q0_16, .ref q0_17, .ref q0_18, .ref q0_19, .int 0, .ref q0_21, .ref q0_22, .int q0_23, .int q0_24, .int q0_25, .ref q0_26, .ref q0_27, .ref q0_28, .ref q0_29, .ref q0_30, .ref q0_31, .int q0_32, .ref q0_33, .ref q0_34, .ref q0_35])) :: X) H := hH
                      refine lv_iload_n hx hb dX12_laysWay_207 rfl (lv_at hl 1 rfl) ?_
                      have J210 : ∀ (n : Nat) (p210_4 : Int32) (p210_3 : Int32) (f210_420 : Int32) (H : Heap) (locs : List Loc) (ls : Array Slot), (p210_4.toInt + 1).toNat = n → (-1 ≤ p210_4.toInt) → (p210_4.toInt ≤ 13) → (0 ≤ p210_3.toInt) → (p210_3.toInt ≤ 13) → (0 ≤ f210_420.toInt) → (f210_420.toInt ≤ 14) → (p210_4.toInt + f210_420.toInt = p133_2.toInt) → (p210_4.toInt = -1 ∨ (0 ≤ p210_3.toInt ∧ p210_3.toInt < ((hg / 6 : Nat) : Int) ∧ (g48_0 p210_3.toInt.toNat).toInt = p210_4.toInt)) → HT D cs A T (q0_18 :: q0_17 :: q0_1 :: a0 :: O) ((q0_18, .inl (cs.2.1, 14, .inl g48_0)) :: (q0_17, .inl (cs.2.1, 14, .inl f17)) :: (q0_1, .inl (cs.2.1, 3906, .inl f1)) :: (a0, .inr (12, [.int q0_0, .ref q0_1, .ref q0_2, .ref q0_3, .ref q0_4, .int q0_5, .int q0_6, .int q0_7, .int q0_8, .int q0_9, .int q0_10, .int q0_11, .int q0_12, .int q0_13, .int q0_14, .ref q0_15, .int q0_16, .ref q0_17, .ref q0_18, .ref q0_19, .int f210_420, .ref q0_21, .ref q0_22, .int q0_23, .int q0_24, .int q0_25, .ref q0_26, .ref q0_27, .ref q0_28, .ref q0_29, .ref q0_30, .ref q0_31, .int q0_32, .ref q0_33, .ref q0_34, .ref q0_35])) :: X) H → va_S A s.heap H locs → lv_has ls 5 [(4, .int p210_4), (3, .int p210_3), (0, .ref a0), (1, .int x1)] → W p l e { frames := 2, cells := 0, slots := 0, locals := 45 } s m [.ref a0, .int x1].toArray below meth c H locs 0 0 (MQ below (Ti D cs (fun r u => u = (T, O, X) ∧ 0 ≤ r.toInt ∧ r.toInt ≤ 1) A) [.ref a0, .int x1].toArray s 0 0 A) (F0 m 210 ls []) := by
                        intro n
                        induction n using Nat.strongRecOn with
                        | _ n ih210 =>
                          intro p210_4 p210_3 f210_420 H locs ls hm210 l_p210_4 u_p210_4 l_p210_3 u_p210_3 l_f210_420 u_f210_420 i210a i210b hH hS hl
                          refine lv_iload hx hb dX12_laysWay_210 (lv_at hl 0 rfl) ?_
                          refine lv_if_lt (tgt := 263) hx hb dX12_laysWay_212 (by decide) (fun c212 => ?_) (fun c212 => ?_)
                          · skip
                            have tc212 := f_lt (k := 0) (by decide) c212
                            refine lv_iconst (v := 1) hx hb dX12_laysWay_263 (by decide) ?_
                            have hH : HT D cs A T (q0_17 :: q0_1 :: a0 :: O) ((q0_17, .inl (cs.2.1, 14, .inl f17)) :: (q0_1, .inl (cs.2.1, 3906, .inl f1)) :: (a0, .inr (12, [.int q0_0, .ref q0_1, .ref q0_2, .ref q0_3, .ref q0_4, .int q0_5, .int q0_6, .int q0_7, .int q0_8, .int q0_9, .int q0_10, .int q0_11, .int q0_12, .int q0_13, .int q0_14, .ref q0_15, .int q0_16, .ref q0_17, .ref q0_18, .ref q0_19, .int f210_420, .ref q0_21, .ref q0_22, .int q0_23, .int q0_24, .int q0_25, .ref q0_26, .ref q0_27, .ref q0_28, .ref q0_29, .ref q0_30, .ref q0_31, .int q0_32, .ref q0_33, .ref q0_34, .ref q0_35])) :: X) H := HT.layA hH t_q0_18 (show sp cs T (9, 14, 8) _ from ⟨_, rfl, c_g48_0⟩)
                            have hH : HT D cs A T (q0_1 :: a0 :: O) ((q0_1, .inl (cs.2.1, 3906, .inl f1)) :: (a0, .inr (12, [.int q0_0, .ref q0_1, .ref q0_2, .ref q0_3, .ref q0_4, .int q0_5, .int q0_6, .int q0_7, .int q0_8, .int q0_9, .int q0_10, .int q0_11, .int q0_12, .int q0_13, .int q0_14, .ref q0_15, .int q0_16, .ref q0_17, .ref q0_18, .ref q0_19, .int f210_420, .ref q0_21, .ref q0_22, .int q0_23, .int q0_24, .int q0_25, .ref q0_26, .ref q0_27, .ref q0_28, .ref q0_29, .ref q0_30, .ref q0_31, .int q0_32, .ref q0_33, .ref q0_34, .ref q0_35])) :: X) H := HT.layA hH t_q0_17 (show sp cs T (9, 14, 1) _ from ⟨_, rfl, c_f17⟩)
                            have hH : HT D cs A T (a0 :: O) ((a0, .inr (12, [.int q0_0, .ref q0_1, .ref q0_2, .ref q0_3, .ref q0_4, .int q0_5, .int q0_6, .int q0_7, .int q0_8, .int q0_9, .int q0_10, .int q0_11, .int q0_12, .int q0_13, .int q0_14, .ref q0_15, .int q0_16, .ref q0_17, .ref q0_18, .ref q0_19, .int f210_420, .ref q0_21, .ref q0_22, .int q0_23, .int q0_24, .int q0_25, .ref q0_26, .ref q0_27, .ref q0_28, .ref q0_29, .ref q0_30, .ref q0_31, .int q0_32, .ref q0_33, .ref q0_34, .ref q0_35])) :: X) H := HT.layA hH t_q0_1 (show sp cs T (8, 3906, hg) _ from ⟨_, rfl, s_f1, fun _ => g_f1⟩)
                            have hH : HT D cs A T O X H := HT.lay (ci := 12) hH t_a0 (okL_c (⟨_, rfl⟩) (okL_c (⟨_, rfl, t_q0_1⟩) (okL_c (⟨_, rfl, t_q0_2⟩) (okL_c (⟨_, rfl, t_q0_3⟩) (okL_c (⟨_, rfl, t_q0_4⟩) (okL_c (⟨_, rfl, by omega, by omega, by omega⟩) (okL_c (⟨_, rfl⟩) (okL_c (⟨_, rfl⟩) (okL_c (⟨_, rfl⟩) (okL_c (⟨_, rfl⟩) (okL_c (⟨_, rfl, by omega, by omega⟩) (okL_c (⟨_, rfl⟩) (okL_c (⟨_, rfl⟩) (okL_c (⟨_, rfl, by omega⟩) (okL_c (⟨_, rfl, by omega⟩) (okL_c (⟨_, rfl, t_q0_15⟩) (okL_c (⟨_, rfl⟩) (okL_c (⟨_, rfl, t_q0_17⟩) (okL_c (⟨_, rfl, t_q0_18⟩) (okL_c (⟨_, rfl, t_q0_19⟩) (okL_c (⟨_, rfl, by omega, by omega⟩) (okL_c (⟨_, rfl, t_q0_21⟩) (okL_c (⟨_, rfl, t_q0_22⟩) (okL_c (⟨_, rfl⟩) (okL_c (⟨_, rfl⟩) (okL_c (⟨_, rfl⟩) (okL_c (⟨_, rfl, t_q0_26⟩) (okL_c (⟨_, rfl, t_q0_27⟩) (okL_c (⟨_, rfl, t_q0_28⟩) (okL_c (⟨_, rfl, t_q0_29⟩) (okL_c (⟨_, rfl, t_q0_30⟩) (okL_c (⟨_, rfl, t_q0_31⟩) (okL_c (⟨_, rfl⟩) (okL_c (⟨_, rfl, t_q0_33⟩) (okL_c (⟨_, rfl, t_q0_34⟩) (okL_c (⟨_, rfl, t_q0_35⟩) (okL_n)))))))))))))))))))))))))))))))))))))
                            have hO := hO0
                            have z9_1 : (1 : Int32).toInt = 1 := by decide
                            exact te_z hx hb hr hlocks (by rfl) hH hS (⟨rfl, by decide, by decide⟩) dX12_laysWay_264
                          · skip
                            have tc212 := f_nlt (k := 0) (by decide) c212
                            have h210 := i210b.resolve_left (by omega)
                            refine lv_aload_n hx hb dX12_laysWay_215 rfl (lv_at hl 2 rfl) ?_
                            refine x_getk (ci := 12) (C := RX12) (F := TX12) (N := 36) (v := .ref q0_19) hx hb hts uX12 hown hkb hH 3 rfl rfl 19 (by decide) rfl kw_1242 (fun _ h9 => h9) dX12_laysWay_216 ?_
                            refine lv_aload_n hx hb dX12_laysWay_219 rfl (lv_at hl 2 rfl) ?_
                            refine x_getk (ci := 12) (C := RX12) (F := TX12) (N := 36) (v := .int f210_420) hx hb hts uX12 hown hkb hH 3 rfl rfl 20 (by decide) rfl kw_1243 (fun _ h9 => h9) dX12_laysWay_220 ?_
                            refine lv_iload_n hx hb dX12_laysWay_223 rfl (lv_at hl 1 rfl) ?_
                            refine t_ist hx hb hkb hH hS t_q0_19 (hO.no t_q0_19 (by decide)) (by omega) (by omega) (show 0 ≤ p210_3.toInt ∧ p210_3.toInt ≤ 13 from by omega) dX12_laysWay_224 (fun H locs hH hS => ?_)
                            refine lv_aload_n hx hb dX12_laysWay_225 rfl (lv_at hl 2 rfl) ?_
                            refine lv_dup hx hb dX12_laysWay_226 rfl ?_
                            refine x_getk (ci := 12) (C := RX12) (F := TX12) (N := 36) (v := .int f210_420) hx hb hts uX12 hown hkb hH 3 rfl rfl 20 (by decide) rfl kw_1243 (fun _ h9 => h9) dX12_laysWay_227 ?_
                            refine lv_iconst (v := 1) hx hb dX12_laysWay_230 (by decide) ?_
                            refine lv_iadd hx hb dX12_laysWay_231 ?_
                            refine lv_topi (fun v231 ev231 => ?_)
                            have tv231 : v231.toInt = f210_420.toInt + (1) := by rw [ev231]; exact add_i rfl (by decide : (1 : Int32).toInt = 1) (by omega) (by omega)
                            refine x_putk (ci := 12) (v := .int v231) (ty := tyX12 20) (C := RX12) (F := TX12) (N := 36) hx hb hts uX12 tyX12 tyX12_ok nmX12 hown hkb hH hS 3 rfl rfl 20 (by decide) kw_1243 (fun _ h9 => h9) rfl (tyX12_ok 20 (by decide)) rfl rfl (Nat.le_of_ble_eq_true rfl) dX12_laysWay_232 (fun H locs hH hS => ?_)
                            have hH : HT D cs A T (q0_18 :: q0_17 :: q0_1 :: a0 :: O) ((q0_18, .inl (cs.2.1, 14, .inl g48_0)) :: (q0_17, .inl (cs.2.1, 14, .inl f17)) :: (q0_1, .inl (cs.2.1, 3906, .inl f1)) :: (a0, .inr (12, [.int q0_0, .ref q0_1, .ref q0_2, .ref q0_3, .ref q0_4, .int q0_5, .int q0_6, .int q0_7, .int q0_8, .int q0_9, .int q0_10, .int q0_11, .int q0_12, .int q0_13, .int q0_14, .ref q0_15, .int q0_16, .ref q0_17, .ref q0_18, .ref q0_19, .int v231, .ref q0_21, .ref q0_22, .int q0_23, .int q0_24, .int q0_25, .ref q0_26, .ref q0_27, .ref q0_28, .ref q0_29, .ref q0_30, .ref q0_31, .int q0_32, .ref q0_33, .ref q0_34, .ref q0_35])) :: X) H := hH
                            refine lv_iload hx hb dX12_laysWay_235 (lv_at hl 0 rfl) ?_
                            refine lv_if_le (tgt := 257) hx hb dX12_laysWay_237 (by decide) (fun c237 => ?_) (fun c237 => ?_)
                            · skip
                              have tc237 := f_le (k := 0) (by decide) c237
                              obtain ⟨v257, ev257⟩ : ∃ y : Int32, y = p210_4 + (-1) := ⟨_, rfl⟩
                              have tv257 : v257.toInt = p210_4.toInt + (-1) := by rw [ev257]; exact add_i rfl (by decide) (by omega) (by omega)
                              refine lv_iinc (v := v257) (lv' := [(4, .int v257), (3, .int p210_3), (0, .ref a0), (1, .int x1)]) hx hb dX12_laysWay_257 hl (k := 0) rfl (by rw [ev257]; rfl) (by decide) rfl (fun ls hl => ?_)
                              refine lv_goto (tgt := 210) hx hb dX12_laysWay_260 (by decide) ?_
                              exact ih210 _ (by omega) v257 p210_3 v231 _ _ _ rfl (by omega) (by omega) (by omega) (by omega) (by omega) (by omega) (by omega) (by first | (refine Or.inl ?_; omega) | (refine Or.inr ⟨?_, ?_, hn9.2.2.1⟩ <;> omega) | (have hm8 := hm9.2.2; refine Or.inr ⟨hm9.1, hm9.2.1, ?_⟩; omega)) hH hS (lv_sub hl [0, 1, 2, 3] rfl)
                            · skip
                              have tc237 := f_nle (k := 0) (by decide) c237
                              refine lv_aload_n hx hb dX12_laysWay_240 rfl (lv_at hl 2 rfl) ?_
                              refine lv_aload_n hx hb dX12_laysWay_241 rfl (lv_at hl 2 rfl) ?_
                              refine x_getk (ci := 12) (C := RX12) (F := TX12) (N := 36) (v := .ref q0_17) hx hb hts uX12 hown hkb hH 3 rfl rfl 17 (by decide) rfl kw_1240 (fun _ h9 => h9) dX12_laysWay_242 ?_
                              refine lv_iload_n hx hb dX12_laysWay_245 rfl (lv_at hl 1 rfl) ?_
                              refine xa_ild hx hb hkb hH 1 rfl (by omega) (by omega) dX12_laysWay_246 ?_
                              refine lv_topi (fun v246 ev246 => ?_)
                              have tv246 : v246 = f17 p210_3.toInt.toNat := ev246
                              refine lv_iload_n hx hb dX12_laysWay_247 rfl (lv_at hl 3 rfl) ?_
                              refine lv_iand hx hb dX12_laysWay_248 ?_
                              refine lv_topi (fun v248 ev248 => ?_)
                              have tv248 : 0 ≤ v248.toInt ∧ v248.toInt ≤ x1.toInt := by rw [ev248]; exact and_r (by omega)
                              refine lv_iload hx hb dX12_laysWay_249 (lv_at hl 0 rfl) ?_
                              refine lv_iconst (v := 1) hx hb dX12_laysWay_251 (by decide) ?_
                              refine lv_isub hx hb dX12_laysWay_252 ?_
                              refine lv_topi (fun v252 ev252 => ?_)
                              have tv252 : v252.toInt = p210_4.toInt - (1) := by rw [ev252]; exact sub_i rfl (by decide : (1 : Int32).toInt = 1) (by omega) (by omega)
                              refine tk_i hH hS hA (tr_V (n := 2) (As := [.int v248, .int v252]) hx hb hml hown hts hkb hH (ox_c (ox_c (ox_c (ox_c hOX)))) hks hE hS hA (s_M_nearer l D cs kf T O X a0 hg mq v248 v252 g48_0 f17 f1 (.int q0_0) q0_1 (.ref q0_2) (.ref q0_3) (.ref q0_4) (.int q0_5) (.int q0_6) (.int q0_7) (.int q0_8) (.int q0_9) (.int q0_10) (.int q0_11) (.int q0_12) (.int q0_13) (.int q0_14) (.ref q0_15) (.int q0_16) q0_17 q0_18 [.ref q0_19, .int v231, .ref q0_21, .ref q0_22, .int q0_23, .int q0_24, .int q0_25, .ref q0_26, .ref q0_27, .ref q0_28, .ref q0_29, .ref q0_30, .ref q0_31, .int q0_32, .ref q0_33, .ref q0_34, .ref q0_35] t_a0 b_hg s_f1 g_f1 t_q0_1 t_q0_17 t_q0_18 (hO.sub (by decide))) kw_1568 kw_1570 ks_84 kw_13 kw_1571 (by decide +kernel) ⟨Nat.le_of_ble_eq_true rfl, Nat.le_of_ble_eq_true rfl⟩ (x_recv (ci := 12) hkb hH 3 rfl rfl) rfl rfl hl.1 (Nat.le_of_ble_eq_true rfl) dX12_laysWay_253 ⟨Nat.le_of_ble_eq_true rfl, Nat.le_of_ble_eq_true rfl⟩) (fun v253 u H locs hz9 hH hS => ?_)
                              obtain ⟨rfl, l_v253, u_v253, x_v2530⟩ := hz9
                              have hH : HT D cs A T (q0_18 :: q0_17 :: q0_1 :: a0 :: O) ((q0_18, .inl (cs.2.1, 14, .inl g48_0)) :: (q0_17, .inl (cs.2.1, 14, .inl f17)) :: (q0_1, .inl (cs.2.1, 3906, .inl f1)) :: (a0, .inr (12, [.int q0_0, .ref q0_1, .ref q0_2, .ref q0_3, .ref q0_4, .int q0_5, .int q0_6, .int q0_7, .int q0_8, .int q0_9, .int q0_10, .int q0_11, .int q0_12, .int q0_13, .int q0_14, .ref q0_15, .int q0_16, .ref q0_17, .ref q0_18, .ref q0_19, .int v231, .ref q0_21, .ref q0_22, .int q0_23, .int q0_24, .int q0_25, .ref q0_26, .ref q0_27, .ref q0_28, .ref q0_29, .ref q0_30, .ref q0_31, .int q0_32, .ref q0_33, .ref q0_34, .ref q0_35])) :: X) H := hH
                              refine W.widen (k := 0) (n := 0) (Nat.le_of_ble_eq_true rfl) (Nat.le_of_ble_eq_true rfl) ?_
                              have hm9 := LW_nr (i48w.le (by omega)) h210.1 (by omega) h210.2.2 (by omega) (by omega) tv252 tv246 ev248 x_v2530
                              refine lv_istore_n (lv' := [(3, .int v253), (4, .int p210_4), (0, .ref a0), (1, .int x1)]) hx hb dX12_laysWay_256 rfl hl (by decide) rfl (fun ls hl => ?_)
                              obtain ⟨v257, ev257⟩ : ∃ y : Int32, y = p210_4 + (-1) := ⟨_, rfl⟩
                              have tv257 : v257.toInt = p210_4.toInt + (-1) := by rw [ev257]; exact add_i rfl (by decide) (by omega) (by omega)
                              refine lv_iinc (v := v257) (lv' := [(4, .int v257), (3, .int v253), (0, .ref a0), (1, .int x1)]) hx hb dX12_laysWay_257 hl (k := 1) rfl (by rw [ev257]; rfl) (by decide) rfl (fun ls hl => ?_)
                              refine lv_goto (tgt := 210) hx hb dX12_laysWay_260 (by decide) ?_
                              exact ih210 _ (by omega) v257 v253 v231 _ _ _ rfl (by omega) (by omega) (by omega) (by omega) (by omega) (by omega) (by omega) (by first | (refine Or.inl ?_; omega) | (refine Or.inr ⟨?_, ?_, hn9.2.2.1⟩ <;> omega) | (have hm8 := hm9.2.2; refine Or.inr ⟨hm9.1, hm9.2.1, ?_⟩; omega)) hH hS (lv_sub hl [0, 1, 2, 3] rfl)
                      refine lv_istore (lv' := [(4, .int p133_2), (3, .int v198), (2, .int p133_2), (0, .ref a0), (1, .int x1)]) hx hb dX12_laysWay_208 hl (by decide) rfl (fun ls hl => ?_)
                      have z_0 : (0 : Int32).toInt = 0 := by decide
                      exact J210 _ p133_2 v198 0 _ _ _ rfl (by omega) (by omega) (by omega) (by omega) (by decide) (by decide) (by omega) (by first | (refine Or.inl ?_; omega) | (refine Or.inr ⟨?_, ?_, hn9.2.2.1⟩ <;> omega) | (have hm8 := hm9.2.2; refine Or.inr ⟨hm9.1, hm9.2.1, ?_⟩; omega)) hH hS (lv_sub hl [0, 1, 3, 4] rfl)
                    · skip
                      have tc183 := f_eq (k := 99) (by decide) c183
                      refine lv_iconst (v := 0) hx hb dX12_laysWay_186 (by decide) ?_
                      have hH : HT D cs A T (q0_17 :: q0_1 :: a0 :: O) ((q0_17, .inl (cs.2.1, 14, .inl f17)) :: (q0_1, .inl (cs.2.1, 3906, .inl f1)) :: (a0, .inr (12, [.int q0_0, .ref q0_1, .ref q0_2, .ref q0_3, .ref q0_4, .int q0_5, .int q0_6, .int q0_7, .int q0_8, .int q0_9, .int q0_10, .int q0_11, .int q0_12, .int q0_13, .int q0_14, .ref q0_15, .int q0_16, .ref q0_17, .ref q0_18, .ref q0_19, .int q0_20, .ref q0_21, .ref q0_22, .int q0_23, .int q0_24, .int q0_25, .ref q0_26, .ref q0_27, .ref q0_28, .ref q0_29, .ref q0_30, .ref q0_31, .int q0_32, .ref q0_33, .ref q0_34, .ref q0_35])) :: X) H := HT.layA hH t_q0_18 (show sp cs T (9, 14, 8) _ from ⟨_, rfl, c_g48_0⟩)
                      have hH : HT D cs A T (q0_1 :: a0 :: O) ((q0_1, .inl (cs.2.1, 3906, .inl f1)) :: (a0, .inr (12, [.int q0_0, .ref q0_1, .ref q0_2, .ref q0_3, .ref q0_4, .int q0_5, .int q0_6, .int q0_7, .int q0_8, .int q0_9, .int q0_10, .int q0_11, .int q0_12, .int q0_13, .int q0_14, .ref q0_15, .int q0_16, .ref q0_17, .ref q0_18, .ref q0_19, .int q0_20, .ref q0_21, .ref q0_22, .int q0_23, .int q0_24, .int q0_25, .ref q0_26, .ref q0_27, .ref q0_28, .ref q0_29, .ref q0_30, .ref q0_31, .int q0_32, .ref q0_33, .ref q0_34, .ref q0_35])) :: X) H := HT.layA hH t_q0_17 (show sp cs T (9, 14, 1) _ from ⟨_, rfl, c_f17⟩)
                      have hH : HT D cs A T (a0 :: O) ((a0, .inr (12, [.int q0_0, .ref q0_1, .ref q0_2, .ref q0_3, .ref q0_4, .int q0_5, .int q0_6, .int q0_7, .int q0_8, .int q0_9, .int q0_10, .int q0_11, .int q0_12, .int q0_13, .int q0_14, .ref q0_15, .int q0_16, .ref q0_17, .ref q0_18, .ref q0_19, .int q0_20, .ref q0_21, .ref q0_22, .int q0_23, .int q0_24, .int q0_25, .ref q0_26, .ref q0_27, .ref q0_28, .ref q0_29, .ref q0_30, .ref q0_31, .int q0_32, .ref q0_33, .ref q0_34, .ref q0_35])) :: X) H := HT.layA hH t_q0_1 (show sp cs T (8, 3906, hg) _ from ⟨_, rfl, s_f1, fun _ => g_f1⟩)
                      have hH : HT D cs A T O X H := HT.lay (ci := 12) hH t_a0 (okL_c (⟨_, rfl⟩) (okL_c (⟨_, rfl, t_q0_1⟩) (okL_c (⟨_, rfl, t_q0_2⟩) (okL_c (⟨_, rfl, t_q0_3⟩) (okL_c (⟨_, rfl, t_q0_4⟩) (okL_c (⟨_, rfl, by omega, by omega, by omega⟩) (okL_c (⟨_, rfl⟩) (okL_c (⟨_, rfl⟩) (okL_c (⟨_, rfl⟩) (okL_c (⟨_, rfl⟩) (okL_c (⟨_, rfl, by omega, by omega⟩) (okL_c (⟨_, rfl⟩) (okL_c (⟨_, rfl⟩) (okL_c (⟨_, rfl, by omega⟩) (okL_c (⟨_, rfl, by omega⟩) (okL_c (⟨_, rfl, t_q0_15⟩) (okL_c (⟨_, rfl⟩) (okL_c (⟨_, rfl, t_q0_17⟩) (okL_c (⟨_, rfl, t_q0_18⟩) (okL_c (⟨_, rfl, t_q0_19⟩) (okL_c (⟨_, rfl, by omega, by omega⟩) (okL_c (⟨_, rfl, t_q0_21⟩) (okL_c (⟨_, rfl, t_q0_22⟩) (okL_c (⟨_, rfl⟩) (okL_c (⟨_, rfl⟩) (okL_c (⟨_, rfl⟩) (okL_c (⟨_, rfl, t_q0_26⟩) (okL_c (⟨_, rfl, t_q0_27⟩) (okL_c (⟨_, rfl, t_q0_28⟩) (okL_c (⟨_, rfl, t_q0_29⟩) (okL_c (⟨_, rfl, t_q0_30⟩) (okL_c (⟨_, rfl, t_q0_31⟩) (okL_c (⟨_, rfl⟩) (okL_c (⟨_, rfl, t_q0_33⟩) (okL_c (⟨_, rfl, t_q0_34⟩) (okL_c (⟨_, rfl, t_q0_35⟩) (okL_n)))))))))))))))))))))))))))))))))))))
                      have hO := hO0
                      have z9_0 : (0 : Int32).toInt = 0 := by decide
                      exact te_z hx hb hr hlocks (by rfl) hH hS (⟨rfl, by decide, by decide⟩) dX12_laysWay_187
                  · skip
                    have fuc140 := full_i p133_3
                    have fvc140 := full_i v139
                    have tc140 := g_nle c140
                    refine lv_aload_n hx hb dX12_laysWay_143 rfl (lv_at hl 2 rfl) ?_
                    refine x_getk (ci := 12) (C := RX12) (F := TX12) (N := 36) (v := .ref q0_1) hx hb hts uX12 hown hkb hH 3 rfl rfl 1 (by decide) rfl kw_1224 (fun _ h9 => h9) dX12_laysWay_144 ?_
                    refine lv_iconst (v := 4) hx hb dX12_laysWay_147 (by decide) ?_
                    refine xa_ild hx hb hkb hH 2 rfl (by decide) (by decide) dX12_laysWay_148 ?_
                    refine lv_topi (fun v148 ev148 => ?_)
                    have tv148 : v148 = f1 4 := by rw [ev148]; rfl
                    have bv148 : 0 ≤ v148.toInt ∧ v148.toInt ≤ 16383 := by rw [ev148]; exact (s_f1.at (by decide) 4).2.2.1 (by decide)
                    refine lv_i2l hx hb dX12_laysWay_149 rfl ?_
                    refine lv_iload_n hx hb dX12_laysWay_150 rfl (lv_at hl 0 rfl) ?_
                    refine tk_i hH hS hA (tr_S (n := 2) (As := [.long v148.toInt64, .int p133_3]) hx hb hml hown hts hkb hH (ox_c (ox_c (ox_c (ox_c hOX)))) hks hE hS hA (s_M_isIn2 l D cs kf T (q0_18 :: q0_17 :: q0_1 :: a0 :: O) ((q0_18, .inl (cs.2.1, 14, .inl g48_0)) :: (q0_17, .inl (cs.2.1, 14, .inl f17)) :: (q0_1, .inl (cs.2.1, 3906, .inl f1)) :: (a0, .inr (12, [.int q0_0, .ref q0_1, .ref q0_2, .ref q0_3, .ref q0_4, .int q0_5, .int q0_6, .int q0_7, .int q0_8, .int q0_9, .int q0_10, .int q0_11, .int q0_12, .int q0_13, .int q0_14, .ref q0_15, .int q0_16, .ref q0_17, .ref q0_18, .ref q0_19, .int q0_20, .ref q0_21, .ref q0_22, .int q0_23, .int q0_24, .int q0_25, .ref q0_26, .ref q0_27, .ref q0_28, .ref q0_29, .ref q0_30, .ref q0_31, .int q0_32, .ref q0_33, .ref q0_34, .ref q0_35])) :: X) v148.toInt64 p133_3  (hO.sub (by decide))) kw_1440 kw_1441 kw_13 kw_1442 (by decide +kernel) ⟨Nat.le_of_ble_eq_true rfl, Nat.le_of_ble_eq_true rfl⟩ rfl rfl hl.1 (Nat.le_of_ble_eq_true rfl) dX12_laysWay_151 ⟨Nat.le_of_ble_eq_true rfl, Nat.le_of_ble_eq_true rfl⟩) (fun v151 u H locs hz9 hH hS => ?_)
                    obtain ⟨rfl, l_v151, u_v151, x_v1510⟩ := hz9
                    have hH : HT D cs A T (q0_18 :: q0_17 :: q0_1 :: a0 :: O) ((q0_18, .inl (cs.2.1, 14, .inl g48_0)) :: (q0_17, .inl (cs.2.1, 14, .inl f17)) :: (q0_1, .inl (cs.2.1, 3906, .inl f1)) :: (a0, .inr (12, [.int q0_0, .ref q0_1, .ref q0_2, .ref q0_3, .ref q0_4, .int q0_5, .int q0_6, .int q0_7, .int q0_8, .int q0_9, .int q0_10, .int q0_11, .int q0_12, .int q0_13, .int q0_14, .ref q0_15, .int q0_16, .ref q0_17, .ref q0_18, .ref q0_19, .int q0_20, .ref q0_21, .ref q0_22, .int q0_23, .int q0_24, .int q0_25, .ref q0_26, .ref q0_27, .ref q0_28, .ref q0_29, .ref q0_30, .ref q0_31, .int q0_32, .ref q0_33, .ref q0_34, .ref q0_35])) :: X) H := hH
                    refine W.widen (k := 0) (n := 0) (Nat.le_of_ble_eq_true rfl) (Nat.le_of_ble_eq_true rfl) ?_
                    refine lv_if_eq (tgt := 174) hx hb dX12_laysWay_154 (by decide) (fun c154 => ?_) (fun c154 => ?_)
                    · skip
                      have tc154 := f_eq (k := 0) (by decide) c154
                      obtain ⟨v174, ev174⟩ : ∃ y : Int32, y = p133_3 + 1 := ⟨_, rfl⟩
                      have tv174 : v174.toInt = p133_3.toInt + (1) := by rw [ev174]; exact add_i rfl (by decide) (by omega) (by omega)
                      refine lv_iinc (v := v174) (lv' := [(3, .int v174), (2, .int p133_2), (0, .ref a0), (1, .int x1)]) hx hb dX12_laysWay_174 hl (k := 0) rfl (by rw [ev174]; rfl) (by decide) rfl (fun ls hl => ?_)
                      refine lv_goto (tgt := 133) hx hb dX12_laysWay_177 (by decide) ?_
                      exact ih133 _ (by omega) v174 p133_2 _ _ _ rfl (by omega) (by omega) (by omega) (by first | exact i133b | (refine Or.inl ?_; decide) | (refine LB_put ?_ ?_ hs9 tv172 ?_ <;> omega)) (by omega) hH hS (lv_sub hl [0, 1, 2, 3] rfl)
                    · skip
                      have tc154 := f_ne (k := 0) (by decide) c154
                      refine lv_aload_n hx hb dX12_laysWay_157 rfl (lv_at hl 2 rfl) ?_
                      refine x_getk (ci := 12) (C := RX12) (F := TX12) (N := 36) (v := .ref q0_18) hx hb hts uX12 hown hkb hH 3 rfl rfl 18 (by decide) rfl kw_1241 (fun _ h9 => h9) dX12_laysWay_158 ?_
                      refine lv_iload_n hx hb dX12_laysWay_161 rfl (lv_at hl 0 rfl) ?_
                      refine xa_ild hx hb hkb hH 0 rfl (by omega) (by omega) dX12_laysWay_162 ?_
                      refine lv_topi (fun v162 ev162 => ?_)
                      have tv162 : v162 = g48_0 p133_3.toInt.toNat := ev162
                      refine lv_iload_n hx hb dX12_laysWay_163 rfl (lv_at hl 1 rfl) ?_
                      refine lv_icmp_ge (tgt := 174) hx hb dX12_laysWay_164 (by decide) (fun c164 => ?_) (fun c164 => ?_)
                      · skip
                        have fuc164 := full_i v162
                        have fvc164 := full_i p133_2
                        have tc164 := g_le c164
                        obtain ⟨v174, ev174⟩ : ∃ y : Int32, y = p133_3 + 1 := ⟨_, rfl⟩
                        have tv174 : v174.toInt = p133_3.toInt + (1) := by rw [ev174]; exact add_i rfl (by decide) (by omega) (by omega)
                        refine lv_iinc (v := v174) (lv' := [(3, .int v174), (2, .int p133_2), (0, .ref a0), (1, .int x1)]) hx hb dX12_laysWay_174 hl (k := 0) rfl (by rw [ev174]; rfl) (by decide) rfl (fun ls hl => ?_)
                        refine lv_goto (tgt := 133) hx hb dX12_laysWay_177 (by decide) ?_
                        exact ih133 _ (by omega) v174 p133_2 _ _ _ rfl (by omega) (by omega) (by omega) (by first | exact i133b | (refine Or.inl ?_; decide) | (refine LB_put ?_ ?_ hs9 tv172 ?_ <;> omega)) (by omega) hH hS (lv_sub hl [0, 1, 2, 3] rfl)
                      · skip
                        have fuc164 := full_i v162
                        have fvc164 := full_i p133_2
                        have tc164 := g_nle c164
                        have hs9 := inF_nz x_v1510 tc154
                        rw [tv148] at hs9
                        refine lv_aload_n hx hb dX12_laysWay_167 rfl (lv_at hl 2 rfl) ?_
                        refine x_getk (ci := 12) (C := RX12) (F := TX12) (N := 36) (v := .ref q0_18) hx hb hts uX12 hown hkb hH 3 rfl rfl 18 (by decide) rfl kw_1241 (fun _ h9 => h9) dX12_laysWay_168 ?_
                        refine lv_iload_n hx hb dX12_laysWay_171 rfl (lv_at hl 0 rfl) ?_
                        refine xa_ild hx hb hkb hH 0 rfl (by omega) (by omega) dX12_laysWay_172 ?_
                        refine lv_topi (fun v172 ev172 => ?_)
                        have tv172 : v172 = g48_0 p133_3.toInt.toNat := ev172
                        have hv9 : v172.toInt = v162.toInt := by rw [tv172, tv162]
                        refine lv_istore_n (lv' := [(2, .int v172), (3, .int p133_3), (0, .ref a0), (1, .int x1)]) hx hb dX12_laysWay_173 rfl hl (by decide) rfl (fun ls hl => ?_)
                        obtain ⟨v174, ev174⟩ : ∃ y : Int32, y = p133_3 + 1 := ⟨_, rfl⟩
                        have tv174 : v174.toInt = p133_3.toInt + (1) := by rw [ev174]; exact add_i rfl (by decide) (by omega) (by omega)
                        refine lv_iinc (v := v174) (lv' := [(3, .int v174), (2, .int v172), (0, .ref a0), (1, .int x1)]) hx hb dX12_laysWay_174 hl (k := 1) rfl (by rw [ev174]; rfl) (by decide) rfl (fun ls hl => ?_)
                        refine lv_goto (tgt := 133) hx hb dX12_laysWay_177 (by decide) ?_
                        exact ih133 _ (by omega) v174 v172 _ _ _ rfl (by omega) (by omega) (by omega) (by first | exact i133b | (refine Or.inl ?_; decide) | (refine LB_put ?_ ?_ hs9 tv172 ?_ <;> omega)) (by omega) hH hS (lv_sub hl [0, 1, 2, 3] rfl)
              refine lv_istore_n (lv' := [(3, .int 0), (2, .int 99), (0, .ref a0), (1, .int x1)]) hx hb dX12_laysWay_132 rfl hl (by decide) rfl (fun ls hl => ?_)
              have z_0 : (0 : Int32).toInt = 0 := by decide
              have z_99 : (99 : Int32).toInt = 99 := by decide
              exact J133 _ 0 99 _ _ _ rfl (by decide) (by decide) (by decide) (by first | exact i133b | (refine Or.inl ?_; decide) | (refine LB_put ?_ ?_ hs9 tv172 ?_ <;> omega)) (by omega) hH hS (lv_sub hl [0, 1, 2, 3] rfl)
            · skip
              have fuc55 := full_i p48_2
              have fvc55 := full_i v54
              have tc55 := g_nle c55
              refine lv_iconst (v := 0) hx hb dX12_laysWay_58 (by decide) ?_
              have J60 : ∀ (n : Nat) (p60_3 : Int32) (g60_0 : Nat → Int32) (H : Heap) (locs : List Loc) (ls : Array Slot), (14 - p60_3.toInt).toNat = n → (∀ j, cp 8 (g60_0 j)) → (0 ≤ p60_3.toInt) → (p60_3.toInt ≤ 14) → (LW (hg / 6) x1 f17 g60_0 p48_2.toInt) → HT D cs A T (q0_18 :: q0_17 :: q0_1 :: a0 :: O) ((q0_18, .inl (cs.2.1, 14, .inl g60_0)) :: (q0_17, .inl (cs.2.1, 14, .inl f17)) :: (q0_1, .inl (cs.2.1, 3906, .inl f1)) :: (a0, .inr (12, [.int q0_0, .ref q0_1, .ref q0_2, .ref q0_3, .ref q0_4, .int q0_5, .int q0_6, .int q0_7, .int q0_8, .int q0_9, .int q0_10, .int q0_11, .int q0_12, .int q0_13, .int q0_14, .ref q0_15, .int q0_16, .ref q0_17, .ref q0_18, .ref q0_19, .int q0_20, .ref q0_21, .ref q0_22, .int q0_23, .int q0_24, .int q0_25, .ref q0_26, .ref q0_27, .ref q0_28, .ref q0_29, .ref q0_30, .ref q0_31, .int q0_32, .ref q0_33, .ref q0_34, .ref q0_35])) :: X) H → va_S A s.heap H locs → lv_has ls 5 [(3, .int p60_3), (2, .int p48_2), (0, .ref a0), (1, .int x1)] → W p l e { frames := 2, cells := 0, slots := 0, locals := 45 } s m [.ref a0, .int x1].toArray below meth c H locs 0 0 (MQ below (Ti D cs (fun r u => u = (T, O, X) ∧ 0 ≤ r.toInt ∧ r.toInt ≤ 1) A) [.ref a0, .int x1].toArray s 0 0 A) (F0 m 60 ls []) := by
                intro n
                induction n using Nat.strongRecOn with
                | _ n ih60 =>
                  intro p60_3 g60_0 H locs ls hm60 c_g60_0 l_p60_3 u_p60_3 i60w hH hS hl
                  refine lv_iload_n hx hb dX12_laysWay_60 rfl (lv_at hl 0 rfl) ?_
                  refine lv_aload_n hx hb dX12_laysWay_61 rfl (lv_at hl 2 rfl) ?_
                  refine x_getk (ci := 12) (C := RX12) (F := TX12) (N := 36) (v := .ref q0_1) hx hb hts uX12 hown hkb hH 3 rfl rfl 1 (by decide) rfl kw_1224 (fun _ h9 => h9) dX12_laysWay_62 ?_
                  refine lv_iconst (v := 1) hx hb dX12_laysWay_65 (by decide) ?_
                  refine xa_ild hx hb hkb hH 2 rfl (by decide) (by decide) dX12_laysWay_66 ?_
                  refine lv_topi (fun v66 ev66 => ?_)
                  have tv66 : v66 = f1 1 := by rw [ev66]; rfl
                  have bv66 : 0 ≤ v66.toInt ∧ v66.toInt ≤ 14 := by rw [ev66]; exact (s_f1.at (by decide) 1).1 (by decide)
                  have hv66 : v66.toInt = ((hg / 6 : Nat) : Int) := by rw [tv66, g_f1.1]; exact nI_toInt (by omega)
                  refine lv_icmp_ge (tgt := 122) hx hb dX12_laysWay_67 (by decide) (fun c67 => ?_) (fun c67 => ?_)
                  · skip
                    have fuc67 := full_i p60_3
                    have fvc67 := full_i v66
                    have tc67 := g_le c67
                    obtain ⟨v122, ev122⟩ : ∃ y : Int32, y = p48_2 + 1 := ⟨_, rfl⟩
                    have tv122 : v122.toInt = p48_2.toInt + (1) := by rw [ev122]; exact add_i rfl (by decide) (by omega) (by omega)
                    refine lv_iinc (v := v122) (lv' := [(2, .int v122), (3, .int p60_3), (0, .ref a0), (1, .int x1)]) hx hb dX12_laysWay_122 hl (k := 1) rfl (by rw [ev122]; rfl) (by decide) rfl (fun ls hl => ?_)
                    refine lv_goto (tgt := 48) hx hb dX12_laysWay_125 (by decide) ?_
                    exact ih48 _ (by omega) v122 g60_0 _ _ _ rfl c_g60_0 (by omega) (by omega) (by first | (refine (LW_of i2w ?_).le ?_; omega; decide) | (refine i60w.le ?_; omega)) hH hS (lv_sub hl [0, 2, 3] rfl)
                  · skip
                    have fuc67 := full_i p60_3
                    have fvc67 := full_i v66
                    have tc67 := g_nle c67
                    refine lv_aload_n hx hb dX12_laysWay_70 rfl (lv_at hl 2 rfl) ?_
                    refine x_getk (ci := 12) (C := RX12) (F := TX12) (N := 36) (v := .ref q0_18) hx hb hts uX12 hown hkb hH 3 rfl rfl 18 (by decide) rfl kw_1241 (fun _ h9 => h9) dX12_laysWay_71 ?_
                    refine lv_iload_n hx hb dX12_laysWay_74 rfl (lv_at hl 0 rfl) ?_
                    refine xa_ild hx hb hkb hH 0 rfl (by omega) (by omega) dX12_laysWay_75 ?_
                    refine lv_topi (fun v75 ev75 => ?_)
                    have tv75 : v75 = g60_0 p60_3.toInt.toNat := ev75
                    refine lv_bipush (v := 99) hx hb dX12_laysWay_76 (by decide) ?_
                    refine lv_icmp_ne (tgt := 116) hx hb dX12_laysWay_78 (by decide) (fun c78 => ?_) (fun c78 => ?_)
                    · skip
                      have tc78 := f_ne (k := 99) (by decide) c78
                      obtain ⟨v116, ev116⟩ : ∃ y : Int32, y = p60_3 + 1 := ⟨_, rfl⟩
                      have tv116 : v116.toInt = p60_3.toInt + (1) := by rw [ev116]; exact add_i rfl (by decide) (by omega) (by omega)
                      refine lv_iinc (v := v116) (lv' := [(3, .int v116), (2, .int p48_2), (0, .ref a0), (1, .int x1)]) hx hb dX12_laysWay_116 hl (k := 0) rfl (by rw [ev116]; rfl) (by decide) rfl (fun ls hl => ?_)
                      refine lv_goto (tgt := 60) hx hb dX12_laysWay_119 (by decide) ?_
                      exact ih60 _ (by omega) v116 g60_0 _ _ _ rfl c_g60_0 (by omega) (by omega) (by first | exact i60w | (refine i48w.le ?_; omega) | (refine LW_put i60w ?_ ?_ ?_ ?_ tv75 ?_ (inF_nz x_v840 tc87) tv96 ev98 tv101 x_v1020 tc106 eF115 <;> omega)) hH hS (lv_sub hl [0, 1, 2, 3] rfl)
                    · skip
                      have tc78 := f_eq (k := 99) (by decide) c78
                      refine lv_iload_n hx hb dX12_laysWay_81 rfl (lv_at hl 3 rfl) ?_
                      refine lv_i2l hx hb dX12_laysWay_82 rfl ?_
                      refine lv_iload_n hx hb dX12_laysWay_83 rfl (lv_at hl 0 rfl) ?_
                      refine tk_i hH hS hA (tr_S (n := 2) (As := [.long x1.toInt64, .int p60_3]) hx hb hml hown hts hkb hH (ox_c (ox_c (ox_c (ox_c hOX)))) hks hE hS hA (s_M_isIn2 l D cs kf T (q0_18 :: q0_17 :: q0_1 :: a0 :: O) ((q0_18, .inl (cs.2.1, 14, .inl g60_0)) :: (q0_17, .inl (cs.2.1, 14, .inl f17)) :: (q0_1, .inl (cs.2.1, 3906, .inl f1)) :: (a0, .inr (12, [.int q0_0, .ref q0_1, .ref q0_2, .ref q0_3, .ref q0_4, .int q0_5, .int q0_6, .int q0_7, .int q0_8, .int q0_9, .int q0_10, .int q0_11, .int q0_12, .int q0_13, .int q0_14, .ref q0_15, .int q0_16, .ref q0_17, .ref q0_18, .ref q0_19, .int q0_20, .ref q0_21, .ref q0_22, .int q0_23, .int q0_24, .int q0_25, .ref q0_26, .ref q0_27, .ref q0_28, .ref q0_29, .ref q0_30, .ref q0_31, .int q0_32, .ref q0_33, .ref q0_34, .ref q0_35])) :: X) x1.toInt64 p60_3  (hO.sub (by decide))) kw_1440 kw_1441 kw_13 kw_1442 (by decide +kernel) ⟨Nat.le_of_ble_eq_true rfl, Nat.le_of_ble_eq_true rfl⟩ rfl rfl hl.1 (Nat.le_of_ble_eq_true rfl) dX12_laysWay_84 ⟨Nat.le_of_ble_eq_true rfl, Nat.le_of_ble_eq_true rfl⟩) (fun v84 u H locs hz9 hH hS => ?_)
                      obtain ⟨rfl, l_v84, u_v84, x_v840⟩ := hz9
                      have hH : HT D cs A T (q0_18 :: q0_17 :: q0_1 :: a0 :: O) ((q0_18, .inl (cs.2.1, 14, .inl g60_0)) :: (q0_17, .inl (cs.2.1, 14, .inl f17)) :: (q0_1, .inl (cs.2.1, 3906, .inl f1)) :: (a0, .inr (12, [.int q0_0, .ref q0_1, .ref q0_2, .ref q0_3, .ref q0_4, .int q0_5, .int q0_6, .int q0_7, .int q0_8, .int q0_9, .int q0_10, .int q0_11, .int q0_12, .int q0_13, .int q0_14, .ref q0_15, .int q0_16, .ref q0_17, .ref q0_18, .ref q0_19, .int q0_20, .ref q0_21, .ref q0_22, .int q0_23, .int q0_24, .int q0_25, .ref q0_26, .ref q0_27, .ref q0_28, .ref q0_29, .ref q0_30, .ref q0_31, .int q0_32, .ref q0_33, .ref q0_34, .ref q0_35])) :: X) H := hH
                      refine W.widen (k := 0) (n := 0) (Nat.le_of_ble_eq_true rfl) (Nat.le_of_ble_eq_true rfl) ?_
                      refine lv_if_eq (tgt := 116) hx hb dX12_laysWay_87 (by decide) (fun c87 => ?_) (fun c87 => ?_)
                      · skip
                        have tc87 := f_eq (k := 0) (by decide) c87
                        obtain ⟨v116, ev116⟩ : ∃ y : Int32, y = p60_3 + 1 := ⟨_, rfl⟩
                        have tv116 : v116.toInt = p60_3.toInt + (1) := by rw [ev116]; exact add_i rfl (by decide) (by omega) (by omega)
                        refine lv_iinc (v := v116) (lv' := [(3, .int v116), (2, .int p48_2), (0, .ref a0), (1, .int x1)]) hx hb dX12_laysWay_116 hl (k := 0) rfl (by rw [ev116]; rfl) (by decide) rfl (fun ls hl => ?_)
                        refine lv_goto (tgt := 60) hx hb dX12_laysWay_119 (by decide) ?_
                        exact ih60 _ (by omega) v116 g60_0 _ _ _ rfl c_g60_0 (by omega) (by omega) (by first | exact i60w | (refine i48w.le ?_; omega) | (refine LW_put i60w ?_ ?_ ?_ ?_ tv75 ?_ (inF_nz x_v840 tc87) tv96 ev98 tv101 x_v1020 tc106 eF115 <;> omega)) hH hS (lv_sub hl [0, 1, 2, 3] rfl)
                      · skip
                        have tc87 := f_ne (k := 0) (by decide) c87
                        refine lv_aload_n hx hb dX12_laysWay_90 rfl (lv_at hl 2 rfl) ?_
                        refine lv_aload_n hx hb dX12_laysWay_91 rfl (lv_at hl 2 rfl) ?_
                        refine x_getk (ci := 12) (C := RX12) (F := TX12) (N := 36) (v := .ref q0_17) hx hb hts uX12 hown hkb hH 3 rfl rfl 17 (by decide) rfl kw_1240 (fun _ h9 => h9) dX12_laysWay_92 ?_
                        refine lv_iload_n hx hb dX12_laysWay_95 rfl (lv_at hl 0 rfl) ?_
                        refine xa_ild hx hb hkb hH 1 rfl (by omega) (by omega) dX12_laysWay_96 ?_
                        refine lv_topi (fun v96 ev96 => ?_)
                        have tv96 : v96 = f17 p60_3.toInt.toNat := ev96
                        refine lv_iload_n hx hb dX12_laysWay_97 rfl (lv_at hl 3 rfl) ?_
                        refine lv_iand hx hb dX12_laysWay_98 ?_
                        refine lv_topi (fun v98 ev98 => ?_)
                        have tv98 : 0 ≤ v98.toInt ∧ v98.toInt ≤ x1.toInt := by rw [ev98]; exact and_r (by omega)
                        refine lv_iload_n hx hb dX12_laysWay_99 rfl (lv_at hl 1 rfl) ?_
                        refine lv_iconst (v := 1) hx hb dX12_laysWay_100 (by decide) ?_
                        refine lv_isub hx hb dX12_laysWay_101 ?_
                        refine lv_topi (fun v101 ev101 => ?_)
                        have tv101 : v101.toInt = p48_2.toInt - (1) := by rw [ev101]; exact sub_i rfl (by decide : (1 : Int32).toInt = 1) (by omega) (by omega)
                        refine tk_i hH hS hA (tr_V (n := 2) (As := [.int v98, .int v101]) hx hb hml hown hts hkb hH (ox_c (ox_c (ox_c (ox_c hOX)))) hks hE hS hA (s_M_nearer l D cs kf T O X a0 hg mq v98 v101 g60_0 f17 f1 (.int q0_0) q0_1 (.ref q0_2) (.ref q0_3) (.ref q0_4) (.int q0_5) (.int q0_6) (.int q0_7) (.int q0_8) (.int q0_9) (.int q0_10) (.int q0_11) (.int q0_12) (.int q0_13) (.int q0_14) (.ref q0_15) (.int q0_16) q0_17 q0_18 [.ref q0_19, .int q0_20, .ref q0_21, .ref q0_22, .int q0_23, .int q0_24, .int q0_25, .ref q0_26, .ref q0_27, .ref q0_28, .ref q0_29, .ref q0_30, .ref q0_31, .int q0_32, .ref q0_33, .ref q0_34, .ref q0_35] t_a0 b_hg s_f1 g_f1 t_q0_1 t_q0_17 t_q0_18 (hO.sub (by decide))) kw_1568 kw_1570 ks_84 kw_13 kw_1571 (by decide +kernel) ⟨Nat.le_of_ble_eq_true rfl, Nat.le_of_ble_eq_true rfl⟩ (x_recv (ci := 12) hkb hH 3 rfl rfl) rfl rfl hl.1 (Nat.le_of_ble_eq_true rfl) dX12_laysWay_102 ⟨Nat.le_of_ble_eq_true rfl, Nat.le_of_ble_eq_true rfl⟩) (fun v102 u H locs hz9 hH hS => ?_)
                        obtain ⟨rfl, l_v102, u_v102, x_v1020⟩ := hz9
                        have hH : HT D cs A T (q0_18 :: q0_17 :: q0_1 :: a0 :: O) ((q0_18, .inl (cs.2.1, 14, .inl g60_0)) :: (q0_17, .inl (cs.2.1, 14, .inl f17)) :: (q0_1, .inl (cs.2.1, 3906, .inl f1)) :: (a0, .inr (12, [.int q0_0, .ref q0_1, .ref q0_2, .ref q0_3, .ref q0_4, .int q0_5, .int q0_6, .int q0_7, .int q0_8, .int q0_9, .int q0_10, .int q0_11, .int q0_12, .int q0_13, .int q0_14, .ref q0_15, .int q0_16, .ref q0_17, .ref q0_18, .ref q0_19, .int q0_20, .ref q0_21, .ref q0_22, .int q0_23, .int q0_24, .int q0_25, .ref q0_26, .ref q0_27, .ref q0_28, .ref q0_29, .ref q0_30, .ref q0_31, .int q0_32, .ref q0_33, .ref q0_34, .ref q0_35])) :: X) H := hH
                        refine W.widen (k := 0) (n := 0) (Nat.le_of_ble_eq_true rfl) (Nat.le_of_ble_eq_true rfl) ?_
                        refine lv_iconst (v := (-1)) hx hb dX12_laysWay_105 (by decide) ?_
                        refine lv_icmp_eq (tgt := 116) hx hb dX12_laysWay_106 (by decide) (fun c106 => ?_) (fun c106 => ?_)
                        · skip
                          have tc106 := f_eq (k := -1) (by decide) c106
                          obtain ⟨v116, ev116⟩ : ∃ y : Int32, y = p60_3 + 1 := ⟨_, rfl⟩
                          have tv116 : v116.toInt = p60_3.toInt + (1) := by rw [ev116]; exact add_i rfl (by decide) (by omega) (by omega)
                          refine lv_iinc (v := v116) (lv' := [(3, .int v116), (2, .int p48_2), (0, .ref a0), (1, .int x1)]) hx hb dX12_laysWay_116 hl (k := 0) rfl (by rw [ev116]; rfl) (by decide) rfl (fun ls hl => ?_)
                          refine lv_goto (tgt := 60) hx hb dX12_laysWay_119 (by decide) ?_
                          exact ih60 _ (by omega) v116 g60_0 _ _ _ rfl c_g60_0 (by omega) (by omega) (by first | exact i60w | (refine i48w.le ?_; omega) | (refine LW_put i60w ?_ ?_ ?_ ?_ tv75 ?_ (inF_nz x_v840 tc87) tv96 ev98 tv101 x_v1020 tc106 eF115 <;> omega)) hH hS (lv_sub hl [0, 1, 2, 3] rfl)
                        · skip
                          have tc106 := f_ne (k := -1) (by decide) c106
                          refine lv_aload_n hx hb dX12_laysWay_109 rfl (lv_at hl 2 rfl) ?_
                          refine x_getk (ci := 12) (C := RX12) (F := TX12) (N := 36) (v := .ref q0_18) hx hb hts uX12 hown hkb hH 3 rfl rfl 18 (by decide) rfl kw_1241 (fun _ h9 => h9) dX12_laysWay_110 ?_
                          refine lv_iload_n hx hb dX12_laysWay_113 rfl (lv_at hl 0 rfl) ?_
                          refine lv_iload_n hx hb dX12_laysWay_114 rfl (lv_at hl 1 rfl) ?_
                          refine xa_ist hx hb hkb hH hS 0 rfl (by omega) (by omega) dX12_laysWay_115 (fun H locs hH hS => ?_)
                          have hH : HT D cs A T (q0_18 :: q0_17 :: q0_1 :: a0 :: O) ((q0_18, .inl (cs.2.1, 14, .inl (upd g60_0 (p60_3.toInt.toNat) p48_2))) :: (q0_17, .inl (cs.2.1, 14, .inl f17)) :: (q0_1, .inl (cs.2.1, 3906, .inl f1)) :: (a0, .inr (12, [.int q0_0, .ref q0_1, .ref q0_2, .ref q0_3, .ref q0_4, .int q0_5, .int q0_6, .int q0_7, .int q0_8, .int q0_9, .int q0_10, .int q0_11, .int q0_12, .int q0_13, .int q0_14, .ref q0_15, .int q0_16, .ref q0_17, .ref q0_18, .ref q0_19, .int q0_20, .ref q0_21, .ref q0_22, .int q0_23, .int q0_24, .int q0_25, .ref q0_26, .ref q0_27, .ref q0_28, .ref q0_29, .ref q0_30, .ref q0_31, .int q0_32, .ref q0_33, .ref q0_34, .ref q0_35])) :: X) H := hH
                          obtain ⟨F115, eF115⟩ : ∃ f9, f9 = upd g60_0 (p60_3.toInt.toNat) p48_2 := ⟨_, rfl⟩
                          have hH : HT D cs A T (q0_18 :: q0_17 :: q0_1 :: a0 :: O) ((q0_18, .inl (cs.2.1, 14, .inl F115)) :: (q0_17, .inl (cs.2.1, 14, .inl f17)) :: (q0_1, .inl (cs.2.1, 3906, .inl f1)) :: (a0, .inr (12, [.int q0_0, .ref q0_1, .ref q0_2, .ref q0_3, .ref q0_4, .int q0_5, .int q0_6, .int q0_7, .int q0_8, .int q0_9, .int q0_10, .int q0_11, .int q0_12, .int q0_13, .int q0_14, .ref q0_15, .int q0_16, .ref q0_17, .ref q0_18, .ref q0_19, .int q0_20, .ref q0_21, .ref q0_22, .int q0_23, .int q0_24, .int q0_25, .ref q0_26, .ref q0_27, .ref q0_28, .ref q0_29, .ref q0_30, .ref q0_31, .int q0_32, .ref q0_33, .ref q0_34, .ref q0_35])) :: X) H := eF115 ▸ hH
                          have c_F115 : ∀ j, cp 8 (F115 j) := by rw [eF115]; exact c9_put c_g60_0 (by omega) (by omega)
                          obtain ⟨v116, ev116⟩ : ∃ y : Int32, y = p60_3 + 1 := ⟨_, rfl⟩
                          have tv116 : v116.toInt = p60_3.toInt + (1) := by rw [ev116]; exact add_i rfl (by decide) (by omega) (by omega)
                          refine lv_iinc (v := v116) (lv' := [(3, .int v116), (2, .int p48_2), (0, .ref a0), (1, .int x1)]) hx hb dX12_laysWay_116 hl (k := 0) rfl (by rw [ev116]; rfl) (by decide) rfl (fun ls hl => ?_)
                          refine lv_goto (tgt := 60) hx hb dX12_laysWay_119 (by decide) ?_
                          exact ih60 _ (by omega) v116 F115 _ _ _ rfl c_F115 (by omega) (by omega) (by first | exact i60w | (refine i48w.le ?_; omega) | (refine LW_put i60w ?_ ?_ ?_ ?_ tv75 ?_ (inF_nz x_v840 tc87) tv96 ev98 tv101 x_v1020 tc106 eF115 <;> omega)) hH hS (lv_sub hl [0, 1, 2, 3] rfl)
              refine lv_istore_n (lv' := [(3, .int 0), (2, .int p48_2), (0, .ref a0), (1, .int x1)]) hx hb dX12_laysWay_59 rfl hl (by decide) rfl (fun ls hl => ?_)
              have z_0 : (0 : Int32).toInt = 0 := by decide
              exact J60 _ 0 g48_0 _ _ _ rfl c_g48_0 (by decide) (by decide) (by first | exact i60w | (refine i48w.le ?_; omega) | (refine LW_put i60w ?_ ?_ ?_ ?_ tv75 ?_ (inF_nz x_v840 tc87) tv96 ev98 tv101 x_v1020 tc106 eF115 <;> omega)) hH hS (lv_sub hl [0, 1, 2, 3] rfl)
        refine lv_istore_n (lv' := [(2, .int 1), (0, .ref a0), (1, .int x1)]) hx hb dX12_laysWay_47 rfl hl (by decide) rfl (fun ls hl => ?_)
        have z_1 : (1 : Int32).toInt = 1 := by decide
        exact J48 _ 1 g2_0 _ _ _ rfl c_g2_0 (by decide) (by decide) (by first | (refine (LW_of i2w ?_).le ?_; omega; decide) | (refine i60w.le ?_; omega)) hH hS (lv_sub hl [0, 1, 2] rfl)
      · skip
        have fuc9 := full_i p2_2
        have fvc9 := full_i v8
        have tc9 := g_nle c9
        refine lv_aload_n hx hb dX12_laysWay_12 rfl (lv_at hl 1 rfl) ?_
        refine x_getk (ci := 12) (C := RX12) (F := TX12) (N := 36) (v := .ref q0_18) hx hb hts uX12 hown hkb hH 3 rfl rfl 18 (by decide) rfl kw_1241 (fun _ h9 => h9) dX12_laysWay_13 ?_
        refine lv_iload_n hx hb dX12_laysWay_16 rfl (lv_at hl 0 rfl) ?_
        refine lv_iload_n hx hb dX12_laysWay_17 rfl (lv_at hl 2 rfl) ?_
        refine lv_aload_n hx hb dX12_laysWay_18 rfl (lv_at hl 1 rfl) ?_
        refine x_getk (ci := 12) (C := RX12) (F := TX12) (N := 36) (v := .ref q0_1) hx hb hts uX12 hown hkb hH 3 rfl rfl 1 (by decide) rfl kw_1224 (fun _ h9 => h9) dX12_laysWay_19 ?_
        refine lv_iconst (v := 5) hx hb dX12_laysWay_22 (by decide) ?_
        refine xa_ild hx hb hkb hH 2 rfl (by decide) (by decide) dX12_laysWay_23 ?_
        refine lv_topi (fun v23 ev23 => ?_)
        have tv23 : v23 = f1 5 := by rw [ev23]; rfl
        have bv23 : 0 ≤ v23.toInt ∧ v23.toInt ≤ 16383 := by rw [ev23]; exact (s_f1.at (by decide) 5).2.2.2.1 (by decide)
        refine lv_iand hx hb dX12_laysWay_24 ?_
        refine lv_topi (fun v24 ev24 => ?_)
        have tv24 : 0 ≤ v24.toInt ∧ v24.toInt ≤ x1.toInt := by rw [ev24]; exact and_l (by omega)
        have ttv24 : 0 ≤ v24.toInt ∧ v24.toInt ≤ v23.toInt := by rw [ev24]; exact and_r (by omega)
        refine lv_i2l hx hb dX12_laysWay_25 rfl ?_
        refine lv_iload_n hx hb dX12_laysWay_26 rfl (lv_at hl 0 rfl) ?_
        refine tk_i hH hS hA (tr_S (n := 2) (As := [.long v24.toInt64, .int p2_2]) hx hb hml hown hts hkb hH (ox_c (ox_c (ox_c (ox_c hOX)))) hks hE hS hA (s_M_isIn2 l D cs kf T (q0_18 :: q0_17 :: q0_1 :: a0 :: O) ((q0_18, .inl (cs.2.1, 14, .inl g2_0)) :: (q0_17, .inl (cs.2.1, 14, .inl f17)) :: (q0_1, .inl (cs.2.1, 3906, .inl f1)) :: (a0, .inr (12, [.int q0_0, .ref q0_1, .ref q0_2, .ref q0_3, .ref q0_4, .int q0_5, .int q0_6, .int q0_7, .int q0_8, .int q0_9, .int q0_10, .int q0_11, .int q0_12, .int q0_13, .int q0_14, .ref q0_15, .int q0_16, .ref q0_17, .ref q0_18, .ref q0_19, .int q0_20, .ref q0_21, .ref q0_22, .int q0_23, .int q0_24, .int q0_25, .ref q0_26, .ref q0_27, .ref q0_28, .ref q0_29, .ref q0_30, .ref q0_31, .int q0_32, .ref q0_33, .ref q0_34, .ref q0_35])) :: X) v24.toInt64 p2_2  (hO.sub (by decide))) kw_1440 kw_1441 kw_13 kw_1442 (by decide +kernel) ⟨Nat.le_of_ble_eq_true rfl, Nat.le_of_ble_eq_true rfl⟩ rfl rfl hl.1 (Nat.le_of_ble_eq_true rfl) dX12_laysWay_27 ⟨Nat.le_of_ble_eq_true rfl, Nat.le_of_ble_eq_true rfl⟩) (fun v27 u H locs hz9 hH hS => ?_)
        obtain ⟨rfl, l_v27, u_v27, x_v270⟩ := hz9
        have hH : HT D cs A T (q0_18 :: q0_17 :: q0_1 :: a0 :: O) ((q0_18, .inl (cs.2.1, 14, .inl g2_0)) :: (q0_17, .inl (cs.2.1, 14, .inl f17)) :: (q0_1, .inl (cs.2.1, 3906, .inl f1)) :: (a0, .inr (12, [.int q0_0, .ref q0_1, .ref q0_2, .ref q0_3, .ref q0_4, .int q0_5, .int q0_6, .int q0_7, .int q0_8, .int q0_9, .int q0_10, .int q0_11, .int q0_12, .int q0_13, .int q0_14, .ref q0_15, .int q0_16, .ref q0_17, .ref q0_18, .ref q0_19, .int q0_20, .ref q0_21, .ref q0_22, .int q0_23, .int q0_24, .int q0_25, .ref q0_26, .ref q0_27, .ref q0_28, .ref q0_29, .ref q0_30, .ref q0_31, .int q0_32, .ref q0_33, .ref q0_34, .ref q0_35])) :: X) H := hH
        refine W.widen (k := 0) (n := 0) (Nat.le_of_ble_eq_true rfl) (Nat.le_of_ble_eq_true rfl) ?_
        refine lv_if_eq (tgt := 37) hx hb dX12_laysWay_30 (by decide) (fun c30 => ?_) (fun c30 => ?_)
        · skip
          have tc30 := f_eq (k := 0) (by decide) c30
          refine lv_bipush (v := 99) hx hb dX12_laysWay_37 (by decide) ?_
          refine xa_ist hx hb hkb hH hS 0 rfl (by omega) (by omega) dX12_laysWay_39 (fun H locs hH hS => ?_)
          have hH : HT D cs A T (q0_18 :: q0_17 :: q0_1 :: a0 :: O) ((q0_18, .inl (cs.2.1, 14, .inl (upd g2_0 (p2_2.toInt.toNat) (99 : Int32)))) :: (q0_17, .inl (cs.2.1, 14, .inl f17)) :: (q0_1, .inl (cs.2.1, 3906, .inl f1)) :: (a0, .inr (12, [.int q0_0, .ref q0_1, .ref q0_2, .ref q0_3, .ref q0_4, .int q0_5, .int q0_6, .int q0_7, .int q0_8, .int q0_9, .int q0_10, .int q0_11, .int q0_12, .int q0_13, .int q0_14, .ref q0_15, .int q0_16, .ref q0_17, .ref q0_18, .ref q0_19, .int q0_20, .ref q0_21, .ref q0_22, .int q0_23, .int q0_24, .int q0_25, .ref q0_26, .ref q0_27, .ref q0_28, .ref q0_29, .ref q0_30, .ref q0_31, .int q0_32, .ref q0_33, .ref q0_34, .ref q0_35])) :: X) H := hH
          obtain ⟨F39, eF39⟩ : ∃ f9, f9 = upd g2_0 (p2_2.toInt.toNat) (99 : Int32) := ⟨_, rfl⟩
          have hH : HT D cs A T (q0_18 :: q0_17 :: q0_1 :: a0 :: O) ((q0_18, .inl (cs.2.1, 14, .inl F39)) :: (q0_17, .inl (cs.2.1, 14, .inl f17)) :: (q0_1, .inl (cs.2.1, 3906, .inl f1)) :: (a0, .inr (12, [.int q0_0, .ref q0_1, .ref q0_2, .ref q0_3, .ref q0_4, .int q0_5, .int q0_6, .int q0_7, .int q0_8, .int q0_9, .int q0_10, .int q0_11, .int q0_12, .int q0_13, .int q0_14, .ref q0_15, .int q0_16, .ref q0_17, .ref q0_18, .ref q0_19, .int q0_20, .ref q0_21, .ref q0_22, .int q0_23, .int q0_24, .int q0_25, .ref q0_26, .ref q0_27, .ref q0_28, .ref q0_29, .ref q0_30, .ref q0_31, .int q0_32, .ref q0_33, .ref q0_34, .ref q0_35])) :: X) H := eF39 ▸ hH
          have c_F39 : ∀ j, cp 8 (F39 j) := by rw [eF39]; exact c9_put c_g2_0 (by decide) (by decide)
          obtain ⟨v40, ev40⟩ : ∃ y : Int32, y = p2_2 + 1 := ⟨_, rfl⟩
          have tv40 : v40.toInt = p2_2.toInt + (1) := by rw [ev40]; exact add_i rfl (by decide) (by omega) (by omega)
          refine lv_iinc (v := v40) (lv' := [(2, .int v40), (0, .ref a0), (1, .int x1)]) hx hb dX12_laysWay_40 hl (k := 0) rfl (by rw [ev40]; rfl) (by decide) rfl (fun ls hl => ?_)
          refine lv_goto (tgt := 2) hx hb dX12_laysWay_43 (by decide) ?_
          exact ih2 _ (by omega) v40 F39 _ _ _ rfl c_F39 (by omega) (by omega) (by first | (refine LW0_0 ?_; decide) | (refine LW0_s i2w ?_ tv40 eF39 (Or.inl ?_); omega; decide) | (refine LW0_s i2w ?_ tv40 eF39 (Or.inr ⟨?_, hb8⟩); omega; decide)) hH hS (lv_sub hl [0, 1, 2] rfl)
        · skip
          have tc30 := f_ne (k := 0) (by decide) c30
          have hb9 := inF_nz x_v270 tc30
          rw [ev24] at hb9
          have hb8 := ((inF_and (by omega) (by omega) (by omega) (by omega)).mp hb9).1
          refine lv_iconst (v := 0) hx hb dX12_laysWay_33 (by decide) ?_
          refine lv_goto (tgt := 39) hx hb dX12_laysWay_34 (by decide) ?_
          refine xa_ist hx hb hkb hH hS 0 rfl (by omega) (by omega) dX12_laysWay_39 (fun H locs hH hS => ?_)
          have hH : HT D cs A T (q0_18 :: q0_17 :: q0_1 :: a0 :: O) ((q0_18, .inl (cs.2.1, 14, .inl (upd g2_0 (p2_2.toInt.toNat) (0 : Int32)))) :: (q0_17, .inl (cs.2.1, 14, .inl f17)) :: (q0_1, .inl (cs.2.1, 3906, .inl f1)) :: (a0, .inr (12, [.int q0_0, .ref q0_1, .ref q0_2, .ref q0_3, .ref q0_4, .int q0_5, .int q0_6, .int q0_7, .int q0_8, .int q0_9, .int q0_10, .int q0_11, .int q0_12, .int q0_13, .int q0_14, .ref q0_15, .int q0_16, .ref q0_17, .ref q0_18, .ref q0_19, .int q0_20, .ref q0_21, .ref q0_22, .int q0_23, .int q0_24, .int q0_25, .ref q0_26, .ref q0_27, .ref q0_28, .ref q0_29, .ref q0_30, .ref q0_31, .int q0_32, .ref q0_33, .ref q0_34, .ref q0_35])) :: X) H := hH
          obtain ⟨F39, eF39⟩ : ∃ f9, f9 = upd g2_0 (p2_2.toInt.toNat) (0 : Int32) := ⟨_, rfl⟩
          have hH : HT D cs A T (q0_18 :: q0_17 :: q0_1 :: a0 :: O) ((q0_18, .inl (cs.2.1, 14, .inl F39)) :: (q0_17, .inl (cs.2.1, 14, .inl f17)) :: (q0_1, .inl (cs.2.1, 3906, .inl f1)) :: (a0, .inr (12, [.int q0_0, .ref q0_1, .ref q0_2, .ref q0_3, .ref q0_4, .int q0_5, .int q0_6, .int q0_7, .int q0_8, .int q0_9, .int q0_10, .int q0_11, .int q0_12, .int q0_13, .int q0_14, .ref q0_15, .int q0_16, .ref q0_17, .ref q0_18, .ref q0_19, .int q0_20, .ref q0_21, .ref q0_22, .int q0_23, .int q0_24, .int q0_25, .ref q0_26, .ref q0_27, .ref q0_28, .ref q0_29, .ref q0_30, .ref q0_31, .int q0_32, .ref q0_33, .ref q0_34, .ref q0_35])) :: X) H := eF39 ▸ hH
          have c_F39 : ∀ j, cp 8 (F39 j) := by rw [eF39]; exact c9_put c_g2_0 (by decide) (by decide)
          obtain ⟨v40, ev40⟩ : ∃ y : Int32, y = p2_2 + 1 := ⟨_, rfl⟩
          have tv40 : v40.toInt = p2_2.toInt + (1) := by rw [ev40]; exact add_i rfl (by decide) (by omega) (by omega)
          refine lv_iinc (v := v40) (lv' := [(2, .int v40), (0, .ref a0), (1, .int x1)]) hx hb dX12_laysWay_40 hl (k := 0) rfl (by rw [ev40]; rfl) (by decide) rfl (fun ls hl => ?_)
          refine lv_goto (tgt := 2) hx hb dX12_laysWay_43 (by decide) ?_
          exact ih2 _ (by omega) v40 F39 _ _ _ rfl c_F39 (by omega) (by omega) (by first | (refine LW0_0 ?_; decide) | (refine LW0_s i2w ?_ tv40 eF39 (Or.inl ?_); omega; decide) | (refine LW0_s i2w ?_ tv40 eF39 (Or.inr ⟨?_, hb8⟩); omega; decide)) hH hS (lv_sub hl [0, 1, 2] rfl)
  refine lv_istore_n (lv' := [(2, .int 0), (0, .ref a0), (1, .int x1)]) hx hb dX12_laysWay_1 rfl hl (by decide) rfl (fun ls hl => ?_)
  have z_0 : (0 : Int32).toInt = 0 := by decide
  exact J2 _ 0 f18 _ _ _ rfl c_f18 (by decide) (by decide) (by first | (refine LW0_0 ?_; decide) | (refine LW0_s i2w ?_ tv40 eF39 (Or.inl ?_); omega; decide) | (refine LW0_s i2w ?_ tv40 eF39 (Or.inr ⟨?_, hb8⟩); omega; decide)) hH hS (lv_sub hl [0, 1, 2] rfl)
set_option maxHeartbeats 4000000 in
set_option maxRecDepth 100000 in
theorem s_M_laysWayOf (l : Launch) (D : va_G) (cs : CS) (kf : KF) (T : TF) (O : List Nat) (X : va_W) (a0 hg mq : Nat) (x1 : Int32) (t_a0 : T a0 = some (22, hg, mq)) (b_hg : hg < 90) (l_x1 : 0 ≤ x1.toInt) (u_x1 : x1.toInt ≤ 4) (hO : okO T O [1, 8, 9, 22]) : TK l D cs kf yX12_laysWayOf cX12_laysWayOf 2 (some (.boolean)) { frames := 5, cells := 0, slots := 0, locals := 119 } [.ref a0, .int x1] T O X (Ti D cs (fun r u => u = (T, O, X) ∧ 0 ≤ r.toInt ∧ r.toInt ≤ 1)) := by
  refine tk_of (by decide) (Nat.le_of_ble_eq_true rfl) (fun p e s m below meth c ls A H locs hx hb hr hml hown hts hlocks hnm hkb hH hS hA hOX hks hE hl => ?_)
  have hown : s.vm.findClass RX12 = some m.cls := hown
  have hl : lv_has ls 2 [(0, .ref a0), (1, .int x1)] := hl
  refine lv_aload_n hx hb dX12_laysWayOf_0 rfl (lv_at hl 0 rfl) ?_
  refine lv_iload_n hx hb dX12_laysWayOf_1 rfl (lv_at hl 1 rfl) ?_
  refine tk_v hH hS hA (tr_V (n := 1) (As := [.int x1]) hx hb hml hown hts hkb hH hOX hks hE hS hA (s_M_laysGuide l D cs kf T O X a0 hg mq x1 t_a0 b_hg (by omega) (by omega) (hO.sub (by decide))) kw_1502 kw_1504 ks_71 kw_13 kw_1505 (by decide +kernel) ⟨Nat.le_of_ble_eq_true rfl, Nat.le_of_ble_eq_true rfl⟩ (HT.recv (ci := 12) hkb hH t_a0 (hO.no t_a0 (by decide)) rfl) rfl rfl hl.1 (Nat.le_of_ble_eq_true rfl) dX12_laysWayOf_2 ⟨Nat.le_of_ble_eq_true rfl, Nat.le_of_ble_eq_true rfl⟩) (fun u H locs hz9 hH hS => ?_)
  have hz9 : u = (T, O, X) := hz9
  subst hz9
  have hH : HT D cs A T O X H := hH
  refine W.widen (k := 0) (n := 0) (Nat.le_of_ble_eq_true rfl) (Nat.le_of_ble_eq_true rfl) ?_
  refine lv_aload_n hx hb dX12_laysWayOf_5 rfl (lv_at hl 0 rfl) ?_
  refine lv_aload_n hx hb dX12_laysWayOf_6 rfl (lv_at hl 0 rfl) ?_
  refine tk_i hH hS hA (tr_V (n := 0) (As := []) hx hb hml hown hts hkb hH hOX hks hE hS hA (s_M_openSet l D cs kf T O X a0 hg mq t_a0 b_hg (hO.sub (by decide))) kw_1510 kw_1512 ks_73 kw_13 kw_1513 (by decide +kernel) ⟨Nat.le_of_ble_eq_true rfl, Nat.le_of_ble_eq_true rfl⟩ (HT.recv (ci := 12) hkb hH t_a0 (hO.no t_a0 (by decide)) rfl) rfl rfl hl.1 (Nat.le_of_ble_eq_true rfl) dX12_laysWayOf_7 ⟨Nat.le_of_ble_eq_true rfl, Nat.le_of_ble_eq_true rfl⟩) (fun v7 u H locs hz9 hH hS => ?_)
  obtain ⟨rfl, l_v7, u_v7⟩ := hz9
  have hH : HT D cs A T O X H := hH
  refine W.widen (k := 0) (n := 0) (Nat.le_of_ble_eq_true rfl) (Nat.le_of_ble_eq_true rfl) ?_
  refine tk_i hH hS hA (tr_V (n := 1) (As := [.int v7]) hx hb hml hown hts hkb hH hOX hks hE hS hA (s_M_laysWay l D cs kf T O X a0 hg mq v7 t_a0 b_hg (by omega) (by omega) (hO.sub (by decide))) kw_1564 kw_1566 ks_83 kw_13 kw_1567 (by decide +kernel) ⟨Nat.le_of_ble_eq_true rfl, Nat.le_of_ble_eq_true rfl⟩ (HT.recv (ci := 12) hkb hH t_a0 (hO.no t_a0 (by decide)) rfl) rfl rfl hl.1 (Nat.le_of_ble_eq_true rfl) dX12_laysWayOf_10 ⟨Nat.le_of_ble_eq_true rfl, Nat.le_of_ble_eq_true rfl⟩) (fun v10 u H locs hz9 hH hS => ?_)
  obtain ⟨rfl, l_v10, u_v10⟩ := hz9
  have hH : HT D cs A T O X H := hH
  refine W.widen (k := 0) (n := 0) (Nat.le_of_ble_eq_true rfl) (Nat.le_of_ble_eq_true rfl) ?_
  exact te_z hx hb hr hlocks (nar01 (by omega) (by omega)) hH hS (⟨rfl, by omega, by omega⟩) dX12_laysWayOf_13
theorem dX12_goes_0 : decode cX12_goes 0 = .ok (.aload_n 0, 1) := by decide +kernel
theorem dX12_goes_1 : decode cX12_goes 1 = .ok (.iconst 0, 1) := by decide +kernel
theorem dX12_goes_2 : decode cX12_goes 2 = .ok (.putfield 1, 3) := by decide +kernel
theorem dX12_goes_5 : decode cX12_goes 5 = .ok (.aload_n 0, 1) := by decide +kernel
theorem dX12_goes_6 : decode cX12_goes 6 = .ok (.iload_n 1, 1) := by decide +kernel
theorem dX12_goes_7 : decode cX12_goes 7 = .ok (.i2l, 1) := by decide +kernel
theorem dX12_goes_8 : decode cX12_goes 8 = .ok (.invokevirtual 222, 3) := by decide +kernel
theorem dX12_goes_11 : decode cX12_goes 11 = .ok (.ifCond .ne 6, 3) := by decide +kernel
theorem dX12_goes_14 : decode cX12_goes 14 = .ok (.bipush (-2), 2) := by decide +kernel
theorem dX12_goes_16 : decode cX12_goes 16 = .ok (.ireturn, 1) := by decide +kernel
theorem dX12_goes_17 : decode cX12_goes 17 = .ok (.aload_n 0, 1) := by decide +kernel
theorem dX12_goes_18 : decode cX12_goes 18 = .ok (.iload_n 1, 1) := by decide +kernel
theorem dX12_goes_19 : decode cX12_goes 19 = .ok (.invokevirtual 304, 3) := by decide +kernel
theorem dX12_goes_22 : decode cX12_goes 22 = .ok (.ifCond .ne 6, 3) := by decide +kernel
theorem dX12_goes_25 : decode cX12_goes 25 = .ok (.bipush (-5), 2) := by decide +kernel
theorem dX12_goes_27 : decode cX12_goes 27 = .ok (.ireturn, 1) := by decide +kernel
theorem dX12_goes_28 : decode cX12_goes 28 = .ok (.aload_n 0, 1) := by decide +kernel
theorem dX12_goes_29 : decode cX12_goes 29 = .ok (.invokevirtual 295, 3) := by decide +kernel
theorem dX12_goes_32 : decode cX12_goes 32 = .ok (.aload_n 0, 1) := by decide +kernel
theorem dX12_goes_33 : decode cX12_goes 33 = .ok (.iload_n 1, 1) := by decide +kernel
theorem dX12_goes_34 : decode cX12_goes 34 = .ok (.invokevirtual 298, 3) := by decide +kernel
theorem dX12_goes_37 : decode cX12_goes 37 = .ok (.istore_n 2, 1) := by decide +kernel
theorem dX12_goes_38 : decode cX12_goes 38 = .ok (.aload_n 0, 1) := by decide +kernel
theorem dX12_goes_39 : decode cX12_goes 39 = .ok (.invokevirtual 301, 3) := by decide +kernel
theorem dX12_goes_42 : decode cX12_goes 42 = .ok (.iload_n 2, 1) := by decide +kernel
theorem dX12_goes_43 : decode cX12_goes 43 = .ok (.ireturn, 1) := by decide +kernel
theorem dX12_leaves_0 : decode cX12_leaves 0 = .ok (.aload_n 0, 1) := by decide +kernel
theorem dX12_leaves_1 : decode cX12_leaves 1 = .ok (.iconst 0, 1) := by decide +kernel
theorem dX12_leaves_2 : decode cX12_leaves 2 = .ok (.putfield 1, 3) := by decide +kernel
theorem dX12_leaves_5 : decode cX12_leaves 5 = .ok (.aload_n 0, 1) := by decide +kernel
theorem dX12_leaves_6 : decode cX12_leaves 6 = .ok (.iload_n 1, 1) := by decide +kernel
theorem dX12_leaves_7 : decode cX12_leaves 7 = .ok (.i2l, 1) := by decide +kernel
theorem dX12_leaves_8 : decode cX12_leaves 8 = .ok (.invokevirtual 222, 3) := by decide +kernel
theorem dX12_leaves_11 : decode cX12_leaves 11 = .ok (.ifCond .eq 12, 3) := by decide +kernel
theorem dX12_leaves_14 : decode cX12_leaves 14 = .ok (.aload_n 0, 1) := by decide +kernel
theorem dX12_leaves_15 : decode cX12_leaves 15 = .ok (.iload_n 2, 1) := by decide +kernel
theorem dX12_leaves_16 : decode cX12_leaves 16 = .ok (.i2l, 1) := by decide +kernel
theorem dX12_leaves_17 : decode cX12_leaves 17 = .ok (.invokevirtual 222, 3) := by decide +kernel
theorem dX12_leaves_20 : decode cX12_leaves 20 = .ok (.ifCond .ne 6, 3) := by decide +kernel
theorem dX12_leaves_23 : decode cX12_leaves 23 = .ok (.bipush (-2), 2) := by decide +kernel
theorem dX12_leaves_25 : decode cX12_leaves 25 = .ok (.ireturn, 1) := by decide +kernel
theorem dX12_leaves_26 : decode cX12_leaves 26 = .ok (.aload_n 0, 1) := by decide +kernel
theorem dX12_leaves_27 : decode cX12_leaves 27 = .ok (.iload_n 2, 1) := by decide +kernel
theorem dX12_leaves_28 : decode cX12_leaves 28 = .ok (.invokevirtual 304, 3) := by decide +kernel
theorem dX12_leaves_31 : decode cX12_leaves 31 = .ok (.ifCond .ne 6, 3) := by decide +kernel
theorem dX12_leaves_34 : decode cX12_leaves 34 = .ok (.bipush (-5), 2) := by decide +kernel
theorem dX12_leaves_36 : decode cX12_leaves 36 = .ok (.ireturn, 1) := by decide +kernel
theorem dX12_leaves_37 : decode cX12_leaves 37 = .ok (.aload_n 0, 1) := by decide +kernel
theorem dX12_leaves_38 : decode cX12_leaves 38 = .ok (.invokevirtual 366, 3) := by decide +kernel
theorem dX12_leaves_41 : decode cX12_leaves 41 = .ok (.aload_n 0, 1) := by decide +kernel
theorem dX12_leaves_42 : decode cX12_leaves 42 = .ok (.iload_n 2, 1) := by decide +kernel
theorem dX12_leaves_43 : decode cX12_leaves 43 = .ok (.invokevirtual 298, 3) := by decide +kernel
theorem dX12_leaves_46 : decode cX12_leaves 46 = .ok (.pop, 1) := by decide +kernel
theorem dX12_leaves_47 : decode cX12_leaves 47 = .ok (.aload_n 0, 1) := by decide +kernel
theorem dX12_leaves_48 : decode cX12_leaves 48 = .ok (.iload_n 1, 1) := by decide +kernel
theorem dX12_leaves_49 : decode cX12_leaves 49 = .ok (.invokevirtual 257, 3) := by decide +kernel
theorem dX12_leaves_52 : decode cX12_leaves 52 = .ok (.aload_n 0, 1) := by decide +kernel
theorem dX12_leaves_53 : decode cX12_leaves 53 = .ok (.aload_n 0, 1) := by decide +kernel
theorem dX12_leaves_54 : decode cX12_leaves 54 = .ok (.invokevirtual 260, 3) := by decide +kernel
theorem dX12_leaves_57 : decode cX12_leaves 57 = .ok (.invokevirtual 354, 3) := by decide +kernel
theorem dX12_leaves_60 : decode cX12_leaves 60 = .ok (.istore_n 3, 1) := by decide +kernel
theorem dX12_leaves_61 : decode cX12_leaves 61 = .ok (.aload_n 0, 1) := by decide +kernel
theorem dX12_leaves_62 : decode cX12_leaves 62 = .ok (.invokevirtual 369, 3) := by decide +kernel
theorem dX12_leaves_65 : decode cX12_leaves 65 = .ok (.iload_n 3, 1) := by decide +kernel
theorem dX12_leaves_66 : decode cX12_leaves 66 = .ok (.ifCond .eq 7, 3) := by decide +kernel
theorem dX12_leaves_69 : decode cX12_leaves 69 = .ok (.iconst 1, 1) := by decide +kernel
theorem dX12_leaves_70 : decode cX12_leaves 70 = .ok (.goto 4, 3) := by decide +kernel
theorem dX12_leaves_73 : decode cX12_leaves 73 = .ok (.iconst 0, 1) := by decide +kernel
theorem dX12_leaves_74 : decode cX12_leaves 74 = .ok (.ireturn, 1) := by decide +kernel
theorem dX12_season_0 : decode cX12_season 0 = .ok (.aload_n 0, 1) := by decide +kernel
theorem dX12_season_1 : decode cX12_season 1 = .ok (.iconst 0, 1) := by decide +kernel
theorem dX12_season_2 : decode cX12_season 2 = .ok (.putfield 1, 3) := by decide +kernel
theorem dX12_season_5 : decode cX12_season 5 = .ok (.iload_n 2, 1) := by decide +kernel
theorem dX12_season_6 : decode cX12_season 6 = .ok (.i2l, 1) := by decide +kernel
theorem dX12_season_7 : decode cX12_season 7 = .ok (.lconst 1, 1) := by decide +kernel
theorem dX12_season_8 : decode cX12_season 8 = .ok (.ldc2_w 324, 3) := by decide +kernel
theorem dX12_season_11 : decode cX12_season 11 = .ok (.invokestatic 144, 3) := by decide +kernel
theorem dX12_season_14 : decode cX12_season 14 = .ok (.ifCond .ne 6, 3) := by decide +kernel
theorem dX12_season_17 : decode cX12_season 17 = .ok (.bipush (-3), 2) := by decide +kernel
theorem dX12_season_19 : decode cX12_season 19 = .ok (.ireturn, 1) := by decide +kernel
theorem dX12_season_20 : decode cX12_season 20 = .ok (.aload_n 0, 1) := by decide +kernel
theorem dX12_season_21 : decode cX12_season 21 = .ok (.getfield 13, 3) := by decide +kernel
theorem dX12_season_24 : decode cX12_season 24 = .ok (.iconst 2, 1) := by decide +kernel
theorem dX12_season_25 : decode cX12_season 25 = .ok (.iaload, 1) := by decide +kernel
theorem dX12_season_26 : decode cX12_season 26 = .ok (.ifCond .ne 6, 3) := by decide +kernel
theorem dX12_season_29 : decode cX12_season 29 = .ok (.bipush (-5), 2) := by decide +kernel
theorem dX12_season_31 : decode cX12_season 31 = .ok (.ireturn, 1) := by decide +kernel
theorem dX12_season_32 : decode cX12_season 32 = .ok (.aload_n 0, 1) := by decide +kernel
theorem dX12_season_33 : decode cX12_season 33 = .ok (.invokevirtual 295, 3) := by decide +kernel
theorem dX12_season_36 : decode cX12_season 36 = .ok (.aload_n 0, 1) := by decide +kernel
theorem dX12_season_37 : decode cX12_season 37 = .ok (.iload_n 1, 1) := by decide +kernel
theorem dX12_season_38 : decode cX12_season 38 = .ok (.putfield 321, 3) := by decide +kernel
theorem dX12_season_41 : decode cX12_season 41 = .ok (.iconst 0, 1) := by decide +kernel
theorem dX12_season_42 : decode cX12_season 42 = .ok (.istore_n 3, 1) := by decide +kernel
theorem dX12_season_43 : decode cX12_season 43 = .ok (.iconst 0, 1) := by decide +kernel
theorem dX12_season_44 : decode cX12_season 44 = .ok (.istore 4, 2) := by decide +kernel
theorem dX12_season_46 : decode cX12_season 46 = .ok (.iconst 0, 1) := by decide +kernel
theorem dX12_season_47 : decode cX12_season 47 = .ok (.istore 5, 2) := by decide +kernel
theorem dX12_season_49 : decode cX12_season 49 = .ok (.iload 5, 2) := by decide +kernel
theorem dX12_season_51 : decode cX12_season 51 = .ok (.iload_n 2, 1) := by decide +kernel
theorem dX12_season_52 : decode cX12_season 52 = .ok (.if_icmp .ge 93, 3) := by decide +kernel
theorem dX12_season_55 : decode cX12_season 55 = .ok (.aload_n 0, 1) := by decide +kernel
theorem dX12_season_56 : decode cX12_season 56 = .ok (.iconst 4, 1) := by decide +kernel
theorem dX12_season_57 : decode cX12_season 57 = .ok (.invokevirtual 326, 3) := by decide +kernel
theorem dX12_season_60 : decode cX12_season 60 = .ok (.istore 6, 2) := by decide +kernel
theorem dX12_season_62 : decode cX12_season 62 = .ok (.iload 6, 2) := by decide +kernel
theorem dX12_season_64 : decode cX12_season 64 = .ok (.ifCond .ne 20, 3) := by decide +kernel
theorem dX12_season_67 : decode cX12_season 67 = .ok (.aload_n 0, 1) := by decide +kernel
theorem dX12_season_68 : decode cX12_season 68 = .ok (.getfield 13, 3) := by decide +kernel
theorem dX12_season_71 : decode cX12_season 71 = .ok (.bipush 88, 2) := by decide +kernel
theorem dX12_season_73 : decode cX12_season 73 = .ok (.dup2, 1) := by decide +kernel
theorem dX12_season_74 : decode cX12_season 74 = .ok (.iaload, 1) := by decide +kernel
theorem dX12_season_75 : decode cX12_season 75 = .ok (.iconst 1, 1) := by decide +kernel
theorem dX12_season_76 : decode cX12_season 76 = .ok (.iadd, 1) := by decide +kernel
theorem dX12_season_77 : decode cX12_season 77 = .ok (.iastore, 1) := by decide +kernel
theorem dX12_season_78 : decode cX12_season 78 = .ok (.iconst 1, 1) := by decide +kernel
theorem dX12_season_79 : decode cX12_season 79 = .ok (.istore 4, 2) := by decide +kernel
theorem dX12_season_81 : decode cX12_season 81 = .ok (.goto 58, 3) := by decide +kernel
theorem dX12_season_84 : decode cX12_season 84 = .ok (.iload 6, 2) := by decide +kernel
theorem dX12_season_86 : decode cX12_season 86 = .ok (.iconst 3, 1) := by decide +kernel
theorem dX12_season_87 : decode cX12_season 87 = .ok (.if_icmp .ne 15, 3) := by decide +kernel
theorem dX12_season_90 : decode cX12_season 90 = .ok (.iload 4, 2) := by decide +kernel
theorem dX12_season_92 : decode cX12_season 92 = .ok (.aload_n 0, 1) := by decide +kernel
theorem dX12_season_93 : decode cX12_season 93 = .ok (.invokevirtual 311, 3) := by decide +kernel
theorem dX12_season_96 : decode cX12_season 96 = .ok (.ior, 1) := by decide +kernel
theorem dX12_season_97 : decode cX12_season 97 = .ok (.istore 4, 2) := by decide +kernel
theorem dX12_season_99 : decode cX12_season 99 = .ok (.goto 40, 3) := by decide +kernel
theorem dX12_season_102 : decode cX12_season 102 = .ok (.aload_n 0, 1) := by decide +kernel
theorem dX12_season_103 : decode cX12_season 103 = .ok (.aload_n 0, 1) := by decide +kernel
theorem dX12_season_104 : decode cX12_season 104 = .ok (.getfield 13, 3) := by decide +kernel
theorem dX12_season_107 : decode cX12_season 107 = .ok (.iconst 2, 1) := by decide +kernel
theorem dX12_season_108 : decode cX12_season 108 = .ok (.iaload, 1) := by decide +kernel
theorem dX12_season_109 : decode cX12_season 109 = .ok (.invokevirtual 326, 3) := by decide +kernel
theorem dX12_season_112 : decode cX12_season 112 = .ok (.istore 7, 2) := by decide +kernel
theorem dX12_season_114 : decode cX12_season 114 = .ok (.aload_n 0, 1) := by decide +kernel
theorem dX12_season_115 : decode cX12_season 115 = .ok (.iload 7, 2) := by decide +kernel
theorem dX12_season_117 : decode cX12_season 117 = .ok (.invokevirtual 304, 3) := by decide +kernel
theorem dX12_season_120 : decode cX12_season 120 = .ok (.ifCond .ne 6, 3) := by decide +kernel
theorem dX12_season_123 : decode cX12_season 123 = .ok (.goto 16, 3) := by decide +kernel
theorem dX12_season_126 : decode cX12_season 126 = .ok (.aload_n 0, 1) := by decide +kernel
theorem dX12_season_127 : decode cX12_season 127 = .ok (.iload 7, 2) := by decide +kernel
theorem dX12_season_129 : decode cX12_season 129 = .ok (.invokevirtual 298, 3) := by decide +kernel
theorem dX12_season_132 : decode cX12_season 132 = .ok (.pop, 1) := by decide +kernel
theorem dX12_season_133 : decode cX12_season 133 = .ok (.iconst 1, 1) := by decide +kernel
theorem dX12_season_134 : decode cX12_season 134 = .ok (.istore 4, 2) := by decide +kernel
theorem dX12_season_136 : decode cX12_season 136 = .ok (.iinc 3 1, 3) := by decide +kernel
theorem dX12_season_139 : decode cX12_season 139 = .ok (.iinc 5 1, 3) := by decide +kernel
theorem dX12_season_142 : decode cX12_season 142 = .ok (.goto (-93), 3) := by decide +kernel
theorem dX12_season_145 : decode cX12_season 145 = .ok (.iload 4, 2) := by decide +kernel
theorem dX12_season_147 : decode cX12_season 147 = .ok (.ifCond .eq 7, 3) := by decide +kernel
theorem dX12_season_150 : decode cX12_season 150 = .ok (.aload_n 0, 1) := by decide +kernel
theorem dX12_season_151 : decode cX12_season 151 = .ok (.invokevirtual 301, 3) := by decide +kernel
theorem dX12_season_154 : decode cX12_season 154 = .ok (.iload_n 3, 1) := by decide +kernel
theorem dX12_season_155 : decode cX12_season 155 = .ok (.ireturn, 1) := by decide +kernel
theorem dX12_way_0 : decode cX12_way 0 = .ok (.aload_n 0, 1) := by decide +kernel
theorem dX12_way_1 : decode cX12_way 1 = .ok (.iconst 0, 1) := by decide +kernel
theorem dX12_way_2 : decode cX12_way 2 = .ok (.putfield 1, 3) := by decide +kernel
theorem dX12_way_5 : decode cX12_way 5 = .ok (.aload_n 0, 1) := by decide +kernel
theorem dX12_way_6 : decode cX12_way 6 = .ok (.iload_n 1, 1) := by decide +kernel
theorem dX12_way_7 : decode cX12_way 7 = .ok (.i2l, 1) := by decide +kernel
theorem dX12_way_8 : decode cX12_way 8 = .ok (.invokevirtual 222, 3) := by decide +kernel
theorem dX12_way_11 : decode cX12_way 11 = .ok (.ifCond .eq 21, 3) := by decide +kernel
theorem dX12_way_14 : decode cX12_way 14 = .ok (.iload_n 2, 1) := by decide +kernel
theorem dX12_way_15 : decode cX12_way 15 = .ok (.ifCond .eq 20, 3) := by decide +kernel
theorem dX12_way_18 : decode cX12_way 18 = .ok (.iload_n 2, 1) := by decide +kernel
theorem dX12_way_19 : decode cX12_way 19 = .ok (.i2l, 1) := by decide +kernel
theorem dX12_way_20 : decode cX12_way 20 = .ok (.ldc2_w 318, 3) := by decide +kernel
theorem dX12_way_23 : decode cX12_way 23 = .ok (.ldc2_w 332, 3) := by decide +kernel
theorem dX12_way_26 : decode cX12_way 26 = .ok (.invokestatic 144, 3) := by decide +kernel
theorem dX12_way_29 : decode cX12_way 29 = .ok (.ifCond .ne 6, 3) := by decide +kernel
theorem dX12_way_32 : decode cX12_way 32 = .ok (.bipush (-2), 2) := by decide +kernel
theorem dX12_way_34 : decode cX12_way 34 = .ok (.ireturn, 1) := by decide +kernel
theorem dX12_way_35 : decode cX12_way 35 = .ok (.aload_n 0, 1) := by decide +kernel
theorem dX12_way_36 : decode cX12_way 36 = .ok (.iload_n 1, 1) := by decide +kernel
theorem dX12_way_37 : decode cX12_way 37 = .ok (.invokevirtual 304, 3) := by decide +kernel
theorem dX12_way_40 : decode cX12_way 40 = .ok (.ifCond .ne 5, 3) := by decide +kernel
theorem dX12_way_43 : decode cX12_way 43 = .ok (.iconst (-1), 1) := by decide +kernel
theorem dX12_way_44 : decode cX12_way 44 = .ok (.ireturn, 1) := by decide +kernel
theorem dX12_way_45 : decode cX12_way 45 = .ok (.iload_n 2, 1) := by decide +kernel
theorem dX12_way_46 : decode cX12_way 46 = .ok (.ifCond .ne 10, 3) := by decide +kernel
theorem dX12_way_49 : decode cX12_way 49 = .ok (.aload_n 0, 1) := by decide +kernel
theorem dX12_way_50 : decode cX12_way 50 = .ok (.getfield 266, 3) := by decide +kernel
theorem dX12_way_53 : decode cX12_way 53 = .ok (.goto 27, 3) := by decide +kernel
theorem dX12_way_56 : decode cX12_way 56 = .ok (.iload_n 2, 1) := by decide +kernel
theorem dX12_way_57 : decode cX12_way 57 = .ok (.bipush 10, 2) := by decide +kernel
theorem dX12_way_59 : decode cX12_way 59 = .ok (.isub, 1) := by decide +kernel
theorem dX12_way_60 : decode cX12_way 60 = .ok (.aload_n 0, 1) := by decide +kernel
theorem dX12_way_61 : decode cX12_way 61 = .ok (.getfield 266, 3) := by decide +kernel
theorem dX12_way_64 : decode cX12_way 64 = .ok (.if_icmp .ge 15, 3) := by decide +kernel
theorem dX12_way_67 : decode cX12_way 67 = .ok (.aload_n 0, 1) := by decide +kernel
theorem dX12_way_68 : decode cX12_way 68 = .ok (.getfield 39, 3) := by decide +kernel
theorem dX12_way_71 : decode cX12_way 71 = .ok (.iload_n 2, 1) := by decide +kernel
theorem dX12_way_72 : decode cX12_way 72 = .ok (.bipush 10, 2) := by decide +kernel
theorem dX12_way_74 : decode cX12_way 74 = .ok (.isub, 1) := by decide +kernel
theorem dX12_way_75 : decode cX12_way 75 = .ok (.iaload, 1) := by decide +kernel
theorem dX12_way_76 : decode cX12_way 76 = .ok (.goto 4, 3) := by decide +kernel
theorem dX12_way_79 : decode cX12_way 79 = .ok (.iconst (-1), 1) := by decide +kernel
theorem dX12_way_80 : decode cX12_way 80 = .ok (.ireturn, 1) := by decide +kernel
theorem dX12_ways_0 : decode cX12_ways 0 = .ok (.aload_n 0, 1) := by decide +kernel
theorem dX12_ways_1 : decode cX12_ways 1 = .ok (.iconst 0, 1) := by decide +kernel
theorem dX12_ways_2 : decode cX12_ways 2 = .ok (.putfield 1, 3) := by decide +kernel
theorem dX12_ways_5 : decode cX12_ways 5 = .ok (.aload_n 0, 1) := by decide +kernel
theorem dX12_ways_6 : decode cX12_ways 6 = .ok (.iload_n 1, 1) := by decide +kernel
theorem dX12_ways_7 : decode cX12_ways 7 = .ok (.i2l, 1) := by decide +kernel
theorem dX12_ways_8 : decode cX12_ways 8 = .ok (.invokevirtual 222, 3) := by decide +kernel
theorem dX12_ways_11 : decode cX12_ways 11 = .ok (.ifCond .ne 7, 3) := by decide +kernel
theorem dX12_ways_14 : decode cX12_ways 14 = .ok (.ldc2_w 341, 3) := by decide +kernel
theorem dX12_ways_17 : decode cX12_ways 17 = .ok (.lreturn, 1) := by decide +kernel
theorem dX12_ways_18 : decode cX12_ways 18 = .ok (.aload_n 0, 1) := by decide +kernel
theorem dX12_ways_19 : decode cX12_ways 19 = .ok (.iload_n 1, 1) := by decide +kernel
theorem dX12_ways_20 : decode cX12_ways 20 = .ok (.invokevirtual 304, 3) := by decide +kernel
theorem dX12_ways_23 : decode cX12_ways 23 = .ok (.ifCond .ne 5, 3) := by decide +kernel
theorem dX12_ways_26 : decode cX12_ways 26 = .ok (.lconst 0, 1) := by decide +kernel
theorem dX12_ways_27 : decode cX12_ways 27 = .ok (.lreturn, 1) := by decide +kernel
theorem dX12_ways_28 : decode cX12_ways 28 = .ok (.aload_n 0, 1) := by decide +kernel
theorem dX12_ways_29 : decode cX12_ways 29 = .ok (.aload_n 0, 1) := by decide +kernel
theorem dX12_ways_30 : decode cX12_ways 30 = .ok (.invokevirtual 260, 3) := by decide +kernel
theorem dX12_ways_33 : decode cX12_ways 33 = .ok (.invokevirtual 329, 3) := by decide +kernel
theorem dX12_ways_36 : decode cX12_ways 36 = .ok (.aload_n 0, 1) := by decide +kernel
theorem dX12_ways_37 : decode cX12_ways 37 = .ok (.aload_n 0, 1) := by decide +kernel
theorem dX12_ways_38 : decode cX12_ways 38 = .ok (.getfield 266, 3) := by decide +kernel
theorem dX12_ways_41 : decode cX12_ways 41 = .ok (.aload_n 0, 1) := by decide +kernel
theorem dX12_ways_42 : decode cX12_ways 42 = .ok (.getfield 266, 3) := by decide +kernel
theorem dX12_ways_45 : decode cX12_ways 45 = .ok (.invokevirtual 343, 3) := by decide +kernel
theorem dX12_ways_48 : decode cX12_ways 48 = .ok (.lreturn, 1) := by decide +kernel
theorem kw_1548 : Cond.methodLink "FootholdWallModel" 298 yX12_usesRow ∈ gw := gw_of (tb_of 1548 (by decide +kernel)) (by decide +kernel)
theorem kw_1550 : Cond.instanceMethod yX12_usesRow ∈ gw := gw_of (tb_of 1550 (by decide +kernel)) (by decide +kernel)
theorem kw_1551 : Cond.code yX12_usesRow cX12_usesRow 4 (some (.int)) ∈ gw := gw_of (tb_of 1551 (by decide +kernel)) (by decide +kernel)
theorem kw_1560 : Cond.methodLink "FootholdWallModel" 304 yX12_laysWayOf ∈ gw := gw_of (tb_of 1560 (by decide +kernel)) (by decide +kernel)
theorem kw_1562 : Cond.instanceMethod yX12_laysWayOf ∈ gw := gw_of (tb_of 1562 (by decide +kernel)) (by decide +kernel)
theorem kw_1563 : Cond.code yX12_laysWayOf cX12_laysWayOf 2 (some (.boolean)) ∈ gw := gw_of (tb_of 1563 (by decide +kernel)) (by decide +kernel)
theorem kw_1608 : Cond.methodLink "FootholdWallModel" 326 yX12_draw ∈ gw := gw_of (tb_of 1608 (by decide +kernel)) (by decide +kernel)
theorem kw_1610 : Cond.instanceMethod yX12_draw ∈ gw := gw_of (tb_of 1610 (by decide +kernel)) (by decide +kernel)
theorem kw_1611 : Cond.code yX12_draw cX12_draw 2 (some (.int)) ∈ gw := gw_of (tb_of 1611 (by decide +kernel)) (by decide +kernel)
theorem kw_1617 : Cond.constantLong "FootholdWallModel" 332 23 ∈ gw := gw_of (tb_of 1617 (by decide +kernel)) (by decide +kernel)
theorem ks_80 : Cond.selects RX12 yX12_usesRow yX12_usesRow ∈ gw := gw_of (pv_of 80 (by decide +kernel)) (by decide +kernel)
theorem ks_82 : Cond.selects RX12 yX12_laysWayOf yX12_laysWayOf ∈ gw := gw_of (pv_of 82 (by decide +kernel)) (by decide +kernel)
theorem ks_87 : Cond.selects RX12 yX12_draw yX12_draw ∈ gw := gw_of (pv_of 87 (by decide +kernel)) (by decide +kernel)
set_option maxHeartbeats 4000000 in
set_option maxRecDepth 100000 in
theorem s_M_goes (l : Launch) (D : va_G) (cs : CS) (kf : KF) (T : TF) (O : List Nat) (X : va_W) (a0 hg mq : Nat) (x1 : Int32) (t_a0 : T a0 = some (22, hg, mq)) (b_hg : hg < 90) (hO : okO T O [1, 8, 9, 22]) : TK l D cs kf yX12_goes cX12_goes 3 (some (.int)) { frames := 6, cells := 0, slots := 0, locals := 140 } [.ref a0, .int x1] T O X (Ti D cs (fun r u => u = (T, O, X))) := by
  refine tk_of (by decide) (Nat.le_of_ble_eq_true rfl) (fun p e s m below meth c ls A H locs hx hb hr hml hown hts hlocks hnm hkb hH hS hA hOX hks hE hl => ?_)
  have hown : s.vm.findClass RX12 = some m.cls := hown
  have hl : lv_has ls 3 [(0, .ref a0), (1, .int x1)] := hl
  refine lv_aload_n hx hb dX12_goes_0 rfl (lv_at hl 0 rfl) ?_
  refine lv_iconst (v := 0) hx hb dX12_goes_1 (by decide) ?_
  refine t_put (ci := 12) (lst := ft12 hg mq) (v := .int 0) (ty := tyX12 0) (C := RX12) (F := TX12) (N := 36) hx hb hts uX12 tyX12 tyX12_ok nmX12 hown hkb hH hS t_a0 (hO.no t_a0 (by decide)) (fun _ => Iff.rfl) rfl rfl 0 (by decide) rfl (⟨_, rfl⟩) kw_1223 (fun _ h9 => h9) rfl (tyX12_ok 0 (by decide)) rfl rfl dX12_goes_2 (fun H locs hH hS => ?_)
  refine lv_aload_n hx hb dX12_goes_5 rfl (lv_at hl 0 rfl) ?_
  refine lv_iload_n hx hb dX12_goes_6 rfl (lv_at hl 1 rfl) ?_
  refine lv_i2l hx hb dX12_goes_7 rfl ?_
  refine tk_i hH hS hA (tr_V (n := 1) (As := [.long x1.toInt64]) hx hb hml hown hts hkb hH hOX hks hE hS hA (s_M_isGuide l D cs kf T O X a0 hg mq x1.toInt64 t_a0 b_hg (hO.sub (by decide))) kw_1470 kw_1472 ks_67 kw_13 kw_1473 (by decide +kernel) ⟨Nat.le_of_ble_eq_true rfl, Nat.le_of_ble_eq_true rfl⟩ (HT.recv (ci := 12) hkb hH t_a0 (hO.no t_a0 (by decide)) rfl) rfl rfl hl.1 (Nat.le_of_ble_eq_true rfl) dX12_goes_8 ⟨Nat.le_of_ble_eq_true rfl, Nat.le_of_ble_eq_true rfl⟩) (fun v8 u H locs hz9 hH hS => ?_)
  obtain ⟨rfl, l_v8, u_v8, x_v80⟩ := hz9
  simp only [Int32.toInt_toInt64] at x_v80
  have hH : HT D cs A T O X H := hH
  refine W.widen (k := 0) (n := 0) (Nat.le_of_ble_eq_true rfl) (Nat.le_of_ble_eq_true rfl) ?_
  refine lv_if_ne (tgt := 17) hx hb dX12_goes_11 (by decide) (fun c11 => ?_) (fun c11 => ?_)
  · skip
    have tc11 := f_ne (k := 0) (by decide) c11
    replace x_v80 := x_v80.resolve_left tc11
    refine lv_aload_n hx hb dX12_goes_17 rfl (lv_at hl 0 rfl) ?_
    refine lv_iload_n hx hb dX12_goes_18 rfl (lv_at hl 1 rfl) ?_
    refine tk_i hH hS hA (tr_V (n := 1) (As := [.int x1]) hx hb hml hown hts hkb hH hOX hks hE hS hA (s_M_laysWayOf l D cs kf T O X a0 hg mq x1 t_a0 b_hg (by omega) (by omega) (hO.sub (by decide))) kw_1560 kw_1562 ks_82 kw_13 kw_1563 (by decide +kernel) ⟨Nat.le_of_ble_eq_true rfl, Nat.le_of_ble_eq_true rfl⟩ (HT.recv (ci := 12) hkb hH t_a0 (hO.no t_a0 (by decide)) rfl) rfl rfl hl.1 (Nat.le_of_ble_eq_true rfl) dX12_goes_19 ⟨Nat.le_of_ble_eq_true rfl, Nat.le_of_ble_eq_true rfl⟩) (fun v19 u H locs hz9 hH hS => ?_)
    obtain ⟨rfl, l_v19, u_v19⟩ := hz9
    have hH : HT D cs A T O X H := hH
    refine W.widen (k := 0) (n := 0) (Nat.le_of_ble_eq_true rfl) (Nat.le_of_ble_eq_true rfl) ?_
    refine lv_if_ne (tgt := 28) hx hb dX12_goes_22 (by decide) (fun c22 => ?_) (fun c22 => ?_)
    · skip
      have tc22 := f_ne (k := 0) (by decide) c22
      refine lv_aload_n hx hb dX12_goes_28 rfl (lv_at hl 0 rfl) ?_
      refine tk_v hH hS hA (tr_V (n := 0) (As := []) hx hb hml hown hts hkb hH hOX hks hE hS hA (s_M_keeps l D cs kf T O X a0 hg mq t_a0 b_hg (hO.sub (by decide))) kw_1544 kw_1546 ks_79 kw_13 kw_1547 (by decide +kernel) ⟨Nat.le_of_ble_eq_true rfl, Nat.le_of_ble_eq_true rfl⟩ (HT.recv (ci := 12) hkb hH t_a0 (hO.no t_a0 (by decide)) rfl) rfl rfl hl.1 (Nat.le_of_ble_eq_true rfl) dX12_goes_29 ⟨Nat.le_of_ble_eq_true rfl, Nat.le_of_ble_eq_true rfl⟩) (fun u H locs hz9 hH hS => ?_)
      have hz9 : u = (T, O, X) := hz9
      subst hz9
      have hH : HT D cs A T O X H := hH
      refine W.widen (k := 0) (n := 0) (Nat.le_of_ble_eq_true rfl) (Nat.le_of_ble_eq_true rfl) ?_
      refine lv_aload_n hx hb dX12_goes_32 rfl (lv_at hl 0 rfl) ?_
      refine lv_iload_n hx hb dX12_goes_33 rfl (lv_at hl 1 rfl) ?_
      refine tk_i hH hS hA (tr_V (n := 1) (As := [.int x1]) hx hb hml hown hts hkb hH hOX hks hE hS hA (s_M_usesRow l D cs kf T O X a0 hg mq x1 t_a0 b_hg (hO.sub (by decide))) kw_1548 kw_1550 ks_80 kw_13 kw_1551 (by decide +kernel) ⟨Nat.le_of_ble_eq_true rfl, Nat.le_of_ble_eq_true rfl⟩ (HT.recv (ci := 12) hkb hH t_a0 (hO.no t_a0 (by decide)) rfl) rfl rfl hl.1 (Nat.le_of_ble_eq_true rfl) dX12_goes_34 ⟨Nat.le_of_ble_eq_true rfl, Nat.le_of_ble_eq_true rfl⟩) (fun v34 u H locs hz9 hH hS => ?_)
      have hz9 : u = (T, O, X) := hz9
      subst hz9
      have hH : HT D cs A T O X H := hH
      refine W.widen (k := 0) (n := 0) (Nat.le_of_ble_eq_true rfl) (Nat.le_of_ble_eq_true rfl) ?_
      refine lv_istore_n (lv' := [(2, .int v34), (0, .ref a0), (1, .int x1)]) hx hb dX12_goes_37 rfl hl (by decide) rfl (fun ls hl => ?_)
      refine lv_aload_n hx hb dX12_goes_38 rfl (lv_at hl 1 rfl) ?_
      refine tk_v hH hS hA (tr_V (n := 0) (As := []) hx hb hml hown hts hkb hH hOX hks hE hS hA (s_M_notes l D cs kf T O X a0 hg mq t_a0 b_hg (hO.sub (by decide))) kw_1552 kw_1554 ks_81 kw_13 kw_1555 (by decide +kernel) ⟨Nat.le_of_ble_eq_true rfl, Nat.le_of_ble_eq_true rfl⟩ (HT.recv (ci := 12) hkb hH t_a0 (hO.no t_a0 (by decide)) rfl) rfl rfl hl.1 (Nat.le_of_ble_eq_true rfl) dX12_goes_39 ⟨Nat.le_of_ble_eq_true rfl, Nat.le_of_ble_eq_true rfl⟩) (fun u H locs hz9 hH hS => ?_)
      obtain ⟨rfl⟩ := hz9
      have hH : HT D cs A T O X H := hH
      refine W.widen (k := 0) (n := 0) (Nat.le_of_ble_eq_true rfl) (Nat.le_of_ble_eq_true rfl) ?_
      refine lv_iload_n hx hb dX12_goes_42 rfl (lv_at hl 0 rfl) ?_
      exact te_i hx hb hr hlocks hH hS (rfl) dX12_goes_43
    · skip
      have tc22 := f_eq (k := 0) (by decide) c22
      refine lv_bipush (v := (-5)) hx hb dX12_goes_25 (by decide) ?_
      exact te_i hx hb hr hlocks hH hS (rfl) dX12_goes_27
  · skip
    have tc11 := f_eq (k := 0) (by decide) c11
    clear x_v80
    refine lv_bipush (v := (-2)) hx hb dX12_goes_14 (by decide) ?_
    exact te_i hx hb hr hlocks hH hS (rfl) dX12_goes_16
set_option maxHeartbeats 4000000 in
set_option maxRecDepth 100000 in
theorem s_M_way (l : Launch) (D : va_G) (cs : CS) (kf : KF) (T : TF) (O : List Nat) (X : va_W) (a0 hg mq : Nat) (x1 : Int32) (x2 : Int32) (t_a0 : T a0 = some (22, hg, mq)) (b_hg : hg < 90) (hO : okO T O [1, 8, 9, 22]) : TK l D cs kf yX12_way cX12_way 3 (some (.int)) { frames := 6, cells := 0, slots := 0, locals := 140 } [.ref a0, .int x1, .int x2] T O X (Ti D cs (fun r u => u = (T, O, X) ∧ -2 ≤ r.toInt ∧ r.toInt ≤ 14)) := by
  refine tk_of (by decide) (Nat.le_of_ble_eq_true rfl) (fun p e s m below meth c ls A H locs hx hb hr hml hown hts hlocks hnm hkb hH hS hA hOX hks hE hl => ?_)
  have hown : s.vm.findClass RX12 = some m.cls := hown
  have hl : lv_has ls 3 [(0, .ref a0), (1, .int x1), (2, .int x2)] := hl
  refine lv_aload_n hx hb dX12_way_0 rfl (lv_at hl 0 rfl) ?_
  refine lv_iconst (v := 0) hx hb dX12_way_1 (by decide) ?_
  refine t_put (ci := 12) (lst := ft12 hg mq) (v := .int 0) (ty := tyX12 0) (C := RX12) (F := TX12) (N := 36) hx hb hts uX12 tyX12 tyX12_ok nmX12 hown hkb hH hS t_a0 (hO.no t_a0 (by decide)) (fun _ => Iff.rfl) rfl rfl 0 (by decide) rfl (⟨_, rfl⟩) kw_1223 (fun _ h9 => h9) rfl (tyX12_ok 0 (by decide)) rfl rfl dX12_way_2 (fun H locs hH hS => ?_)
  refine lv_aload_n hx hb dX12_way_5 rfl (lv_at hl 0 rfl) ?_
  refine lv_iload_n hx hb dX12_way_6 rfl (lv_at hl 1 rfl) ?_
  refine lv_i2l hx hb dX12_way_7 rfl ?_
  refine tk_i hH hS hA (tr_V (n := 1) (As := [.long x1.toInt64]) hx hb hml hown hts hkb hH hOX hks hE hS hA (s_M_isGuide l D cs kf T O X a0 hg mq x1.toInt64 t_a0 b_hg (hO.sub (by decide))) kw_1470 kw_1472 ks_67 kw_13 kw_1473 (by decide +kernel) ⟨Nat.le_of_ble_eq_true rfl, Nat.le_of_ble_eq_true rfl⟩ (HT.recv (ci := 12) hkb hH t_a0 (hO.no t_a0 (by decide)) rfl) rfl rfl hl.1 (Nat.le_of_ble_eq_true rfl) dX12_way_8 ⟨Nat.le_of_ble_eq_true rfl, Nat.le_of_ble_eq_true rfl⟩) (fun v8 u H locs hz9 hH hS => ?_)
  obtain ⟨rfl, l_v8, u_v8, x_v80⟩ := hz9
  simp only [Int32.toInt_toInt64] at x_v80
  have hH : HT D cs A T O X H := hH
  refine W.widen (k := 0) (n := 0) (Nat.le_of_ble_eq_true rfl) (Nat.le_of_ble_eq_true rfl) ?_
  refine lv_if_eq (tgt := 32) hx hb dX12_way_11 (by decide) (fun c11 => ?_) (fun c11 => ?_)
  · skip
    have tc11 := f_eq (k := 0) (by decide) c11
    clear x_v80
    refine lv_bipush (v := (-2)) hx hb dX12_way_32 (by decide) ?_
    exact te_i hx hb hr hlocks hH hS (⟨rfl, by decide, by decide⟩) dX12_way_34
  · skip
    have tc11 := f_ne (k := 0) (by decide) c11
    replace x_v80 := x_v80.resolve_left tc11
    refine lv_iload_n hx hb dX12_way_14 rfl (lv_at hl 2 rfl) ?_
    refine lv_if_eq (tgt := 35) hx hb dX12_way_15 (by decide) (fun c15 => ?_) (fun c15 => ?_)
    · skip
      have tc15 := f_eq (k := 0) (by decide) c15
      refine lv_aload_n hx hb dX12_way_35 rfl (lv_at hl 0 rfl) ?_
      refine lv_iload_n hx hb dX12_way_36 rfl (lv_at hl 1 rfl) ?_
      refine tk_i hH hS hA (tr_V (n := 1) (As := [.int x1]) hx hb hml hown hts hkb hH hOX hks hE hS hA (s_M_laysWayOf l D cs kf T O X a0 hg mq x1 t_a0 b_hg (by omega) (by omega) (hO.sub (by decide))) kw_1560 kw_1562 ks_82 kw_13 kw_1563 (by decide +kernel) ⟨Nat.le_of_ble_eq_true rfl, Nat.le_of_ble_eq_true rfl⟩ (HT.recv (ci := 12) hkb hH t_a0 (hO.no t_a0 (by decide)) rfl) rfl rfl hl.1 (Nat.le_of_ble_eq_true rfl) dX12_way_37 ⟨Nat.le_of_ble_eq_true rfl, Nat.le_of_ble_eq_true rfl⟩) (fun v37 u H locs hz9 hH hS => ?_)
      obtain ⟨rfl, l_v37, u_v37⟩ := hz9
      have hH : HT D cs A T O X H := hH
      refine W.widen (k := 0) (n := 0) (Nat.le_of_ble_eq_true rfl) (Nat.le_of_ble_eq_true rfl) ?_
      refine lv_if_ne (tgt := 45) hx hb dX12_way_40 (by decide) (fun c40 => ?_) (fun c40 => ?_)
      · skip
        have tc40 := f_ne (k := 0) (by decide) c40
        refine lv_iload_n hx hb dX12_way_45 rfl (lv_at hl 2 rfl) ?_
        refine lv_if_ne (tgt := 56) hx hb dX12_way_46 (by decide) (fun c46 => ?_) (fun c46 => ?_)
        · skip
          have tc46 := f_ne (k := 0) (by decide) c46
          exfalso; omega
        · skip
          have tc46 := f_eq (k := 0) (by decide) c46
          refine lv_aload_n hx hb dX12_way_49 rfl (lv_at hl 0 rfl) ?_
          refine t_get (ci := 12) (lst := ft12 hg mq) (C := RX12) (F := TX12) (N := 36) hx hb hts uX12 hown hkb hH t_a0 (hO.no t_a0 (by decide)) (fun _ h9 => h9) rfl rfl 20 (by decide) rfl kw_1243 (fun _ h9 => h9) dX12_way_50 (fun v9 h9 => ?_)
          obtain ⟨v50, rfl, l_v50, u_v50⟩ := h9
          refine lv_goto (tgt := 80) hx hb dX12_way_53 (by decide) ?_
          exact te_i hx hb hr hlocks hH hS (⟨rfl, by omega, by omega⟩) dX12_way_80
      · skip
        have tc40 := f_eq (k := 0) (by decide) c40
        refine lv_iconst (v := (-1)) hx hb dX12_way_43 (by decide) ?_
        exact te_i hx hb hr hlocks hH hS (⟨rfl, by decide, by decide⟩) dX12_way_44
    · skip
      have tc15 := f_ne (k := 0) (by decide) c15
      refine lv_iload_n hx hb dX12_way_18 rfl (lv_at hl 2 rfl) ?_
      refine lv_i2l hx hb dX12_way_19 rfl ?_
      refine lv_ldc2 hx hb hown (hts _ kw_1602) dX12_way_20 ?_
      refine lv_ldc2 hx hb hown (hts _ kw_1617) dX12_way_23 ?_
      refine tk_i hH hS hA (tr_S (n := 3) (As := [.long x2.toInt64, .long 10, .long 23]) hx hb hml hown hts hkb hH hOX hks hE hS hA (s_M_within l D cs kf T O X x2.toInt64 10 23  (hO.sub (by decide))) kw_1341 kw_1342 kw_13 kw_1343 (by decide +kernel) ⟨Nat.le_of_ble_eq_true rfl, Nat.le_of_ble_eq_true rfl⟩ rfl rfl hl.1 (Nat.le_of_ble_eq_true rfl) dX12_way_26 ⟨Nat.le_of_ble_eq_true rfl, Nat.le_of_ble_eq_true rfl⟩) (fun v26 u H locs hz9 hH hS => ?_)
      obtain ⟨rfl, l_v26, u_v26, x_v260, x_v261⟩ := hz9
      simp only [Int32.toInt_toInt64] at x_v260 x_v261
      have k9_10 : (10 : Int64).toInt = 10 := by decide
      have k9_23 : (23 : Int64).toInt = 23 := by decide
      have hH : HT D cs A T O X H := hH
      refine W.widen (k := 0) (n := 0) (Nat.le_of_ble_eq_true rfl) (Nat.le_of_ble_eq_true rfl) ?_
      refine lv_if_ne (tgt := 35) hx hb dX12_way_29 (by decide) (fun c29 => ?_) (fun c29 => ?_)
      · skip
        have tc29 := f_ne (k := 0) (by decide) c29
        replace x_v260 := x_v260.resolve_left tc29
        clear x_v261
        refine lv_aload_n hx hb dX12_way_35 rfl (lv_at hl 0 rfl) ?_
        refine lv_iload_n hx hb dX12_way_36 rfl (lv_at hl 1 rfl) ?_
        refine tk_i hH hS hA (tr_V (n := 1) (As := [.int x1]) hx hb hml hown hts hkb hH hOX hks hE hS hA (s_M_laysWayOf l D cs kf T O X a0 hg mq x1 t_a0 b_hg (by omega) (by omega) (hO.sub (by decide))) kw_1560 kw_1562 ks_82 kw_13 kw_1563 (by decide +kernel) ⟨Nat.le_of_ble_eq_true rfl, Nat.le_of_ble_eq_true rfl⟩ (HT.recv (ci := 12) hkb hH t_a0 (hO.no t_a0 (by decide)) rfl) rfl rfl hl.1 (Nat.le_of_ble_eq_true rfl) dX12_way_37 ⟨Nat.le_of_ble_eq_true rfl, Nat.le_of_ble_eq_true rfl⟩) (fun v37 u H locs hz9 hH hS => ?_)
        obtain ⟨rfl, l_v37, u_v37⟩ := hz9
        have hH : HT D cs A T O X H := hH
        refine W.widen (k := 0) (n := 0) (Nat.le_of_ble_eq_true rfl) (Nat.le_of_ble_eq_true rfl) ?_
        refine lv_if_ne (tgt := 45) hx hb dX12_way_40 (by decide) (fun c40 => ?_) (fun c40 => ?_)
        · skip
          have tc40 := f_ne (k := 0) (by decide) c40
          refine lv_iload_n hx hb dX12_way_45 rfl (lv_at hl 2 rfl) ?_
          refine lv_if_ne (tgt := 56) hx hb dX12_way_46 (by decide) (fun c46 => ?_) (fun c46 => ?_)
          · skip
            have tc46 := f_ne (k := 0) (by decide) c46
            refine lv_iload_n hx hb dX12_way_56 rfl (lv_at hl 2 rfl) ?_
            refine lv_bipush (v := 10) hx hb dX12_way_57 (by decide) ?_
            refine lv_isub hx hb dX12_way_59 ?_
            refine lv_topi (fun v59 ev59 => ?_)
            have tv59 : v59.toInt = x2.toInt - (10) := by rw [ev59]; exact sub_i rfl (by decide : (10 : Int32).toInt = 10) (by omega) (by omega)
            refine lv_aload_n hx hb dX12_way_60 rfl (lv_at hl 0 rfl) ?_
            refine t_get (ci := 12) (lst := ft12 hg mq) (C := RX12) (F := TX12) (N := 36) hx hb hts uX12 hown hkb hH t_a0 (hO.no t_a0 (by decide)) (fun _ h9 => h9) rfl rfl 20 (by decide) rfl kw_1243 (fun _ h9 => h9) dX12_way_61 (fun v9 h9 => ?_)
            obtain ⟨v61, rfl, l_v61, u_v61⟩ := h9
            refine lv_icmp_ge (tgt := 79) hx hb dX12_way_64 (by decide) (fun c64 => ?_) (fun c64 => ?_)
            · skip
              have fuc64 := full_i v59
              have fvc64 := full_i v61
              have tc64 := g_le c64
              refine lv_iconst (v := (-1)) hx hb dX12_way_79 (by decide) ?_
              exact te_i hx hb hr hlocks hH hS (⟨rfl, by decide, by decide⟩) dX12_way_80
            · skip
              have fuc64 := full_i v59
              have fvc64 := full_i v61
              have tc64 := g_nle c64
              refine lv_aload_n hx hb dX12_way_67 rfl (lv_at hl 0 rfl) ?_
              refine t_get (ci := 12) (lst := ft12 hg mq) (C := RX12) (F := TX12) (N := 36) hx hb hts uX12 hown hkb hH t_a0 (hO.no t_a0 (by decide)) (fun _ h9 => h9) rfl rfl 19 (by decide) rfl kw_1242 (fun _ h9 => h9) dX12_way_68 (fun v9 h9 => ?_)
              obtain ⟨v68, rfl, t_v68⟩ := h9
              refine lv_iload_n hx hb dX12_way_71 rfl (lv_at hl 2 rfl) ?_
              refine lv_bipush (v := 10) hx hb dX12_way_72 (by decide) ?_
              refine lv_isub hx hb dX12_way_74 ?_
              refine lv_topi (fun v74 ev74 => ?_)
              have tv74 : v74.toInt = x2.toInt - (10) := by rw [ev74]; exact sub_i rfl (by decide : (10 : Int32).toInt = 10) (by omega) (by omega)
              refine t_ild hx hb hkb hH t_v68 (hO.no t_v68 (by decide)) (by omega) (by omega) dX12_way_75 (fun v75 h9 => ?_)
              have tv75 : 0 ≤ v75.toInt ∧ v75.toInt ≤ 13 := h9
              refine lv_goto (tgt := 80) hx hb dX12_way_76 (by decide) ?_
              exact te_i hx hb hr hlocks hH hS (⟨rfl, by omega, by omega⟩) dX12_way_80
          · skip
            have tc46 := f_eq (k := 0) (by decide) c46
            exfalso; omega
        · skip
          have tc40 := f_eq (k := 0) (by decide) c40
          refine lv_iconst (v := (-1)) hx hb dX12_way_43 (by decide) ?_
          exact te_i hx hb hr hlocks hH hS (⟨rfl, by decide, by decide⟩) dX12_way_44
      · skip
        have tc29 := f_eq (k := 0) (by decide) c29
        clear x_v260
        replace x_v261 := x_v261.resolve_left (fun q9 => q9 tc29)
        refine lv_bipush (v := (-2)) hx hb dX12_way_32 (by decide) ?_
        exact te_i hx hb hr hlocks hH hS (⟨rfl, by decide, by decide⟩) dX12_way_34
set_option maxHeartbeats 4000000 in
set_option maxRecDepth 100000 in
theorem s_M_ways (l : Launch) (D : va_G) (cs : CS) (kf : KF) (T : TF) (O : List Nat) (X : va_W) (a0 hg mq : Nat) (x1 : Int32) (t_a0 : T a0 = some (22, hg, mq)) (b_hg : hg < 90) (hO : okO T O [1, 2, 8, 9, 22]) : TK l D cs kf yX12_ways cX12_ways 2 (some (.long)) { frames := 6, cells := 0, slots := 0, locals := 140 } [.ref a0, .int x1] T O X (Tl D cs (fun _ u => u = (T, O, X))) := by
  refine tk_of (by decide) (Nat.le_of_ble_eq_true rfl) (fun p e s m below meth c ls A H locs hx hb hr hml hown hts hlocks hnm hkb hH hS hA hOX hks hE hl => ?_)
  have hown : s.vm.findClass RX12 = some m.cls := hown
  have hl : lv_has ls 2 [(0, .ref a0), (1, .int x1)] := hl
  refine lv_aload_n hx hb dX12_ways_0 rfl (lv_at hl 0 rfl) ?_
  refine lv_iconst (v := 0) hx hb dX12_ways_1 (by decide) ?_
  refine t_put (ci := 12) (lst := ft12 hg mq) (v := .int 0) (ty := tyX12 0) (C := RX12) (F := TX12) (N := 36) hx hb hts uX12 tyX12 tyX12_ok nmX12 hown hkb hH hS t_a0 (hO.no t_a0 (by decide)) (fun _ => Iff.rfl) rfl rfl 0 (by decide) rfl (⟨_, rfl⟩) kw_1223 (fun _ h9 => h9) rfl (tyX12_ok 0 (by decide)) rfl rfl dX12_ways_2 (fun H locs hH hS => ?_)
  refine lv_aload_n hx hb dX12_ways_5 rfl (lv_at hl 0 rfl) ?_
  refine lv_iload_n hx hb dX12_ways_6 rfl (lv_at hl 1 rfl) ?_
  refine lv_i2l hx hb dX12_ways_7 rfl ?_
  refine tk_i hH hS hA (tr_V (n := 1) (As := [.long x1.toInt64]) hx hb hml hown hts hkb hH hOX hks hE hS hA (s_M_isGuide l D cs kf T O X a0 hg mq x1.toInt64 t_a0 b_hg (hO.sub (by decide))) kw_1470 kw_1472 ks_67 kw_13 kw_1473 (by decide +kernel) ⟨Nat.le_of_ble_eq_true rfl, Nat.le_of_ble_eq_true rfl⟩ (HT.recv (ci := 12) hkb hH t_a0 (hO.no t_a0 (by decide)) rfl) rfl rfl hl.1 (Nat.le_of_ble_eq_true rfl) dX12_ways_8 ⟨Nat.le_of_ble_eq_true rfl, Nat.le_of_ble_eq_true rfl⟩) (fun v8 u H locs hz9 hH hS => ?_)
  obtain ⟨rfl, l_v8, u_v8, x_v80⟩ := hz9
  simp only [Int32.toInt_toInt64] at x_v80
  have hH : HT D cs A T O X H := hH
  refine W.widen (k := 0) (n := 0) (Nat.le_of_ble_eq_true rfl) (Nat.le_of_ble_eq_true rfl) ?_
  refine lv_if_ne (tgt := 18) hx hb dX12_ways_11 (by decide) (fun c11 => ?_) (fun c11 => ?_)
  · skip
    have tc11 := f_ne (k := 0) (by decide) c11
    replace x_v80 := x_v80.resolve_left tc11
    refine lv_aload_n hx hb dX12_ways_18 rfl (lv_at hl 0 rfl) ?_
    refine lv_iload_n hx hb dX12_ways_19 rfl (lv_at hl 1 rfl) ?_
    refine tk_i hH hS hA (tr_V (n := 1) (As := [.int x1]) hx hb hml hown hts hkb hH hOX hks hE hS hA (s_M_laysWayOf l D cs kf T O X a0 hg mq x1 t_a0 b_hg (by omega) (by omega) (hO.sub (by decide))) kw_1560 kw_1562 ks_82 kw_13 kw_1563 (by decide +kernel) ⟨Nat.le_of_ble_eq_true rfl, Nat.le_of_ble_eq_true rfl⟩ (HT.recv (ci := 12) hkb hH t_a0 (hO.no t_a0 (by decide)) rfl) rfl rfl hl.1 (Nat.le_of_ble_eq_true rfl) dX12_ways_20 ⟨Nat.le_of_ble_eq_true rfl, Nat.le_of_ble_eq_true rfl⟩) (fun v20 u H locs hz9 hH hS => ?_)
    obtain ⟨rfl, l_v20, u_v20⟩ := hz9
    have hH : HT D cs A T O X H := hH
    refine W.widen (k := 0) (n := 0) (Nat.le_of_ble_eq_true rfl) (Nat.le_of_ble_eq_true rfl) ?_
    refine lv_if_ne (tgt := 28) hx hb dX12_ways_23 (by decide) (fun c23 => ?_) (fun c23 => ?_)
    · skip
      have tc23 := f_ne (k := 0) (by decide) c23
      refine lv_aload_n hx hb dX12_ways_28 rfl (lv_at hl 0 rfl) ?_
      refine lv_aload_n hx hb dX12_ways_29 rfl (lv_at hl 0 rfl) ?_
      refine tk_i hH hS hA (tr_V (n := 0) (As := []) hx hb hml hown hts hkb hH hOX hks hE hS hA (s_M_openSet l D cs kf T O X a0 hg mq t_a0 b_hg (hO.sub (by decide))) kw_1510 kw_1512 ks_73 kw_13 kw_1513 (by decide +kernel) ⟨Nat.le_of_ble_eq_true rfl, Nat.le_of_ble_eq_true rfl⟩ (HT.recv (ci := 12) hkb hH t_a0 (hO.no t_a0 (by decide)) rfl) rfl rfl hl.1 (Nat.le_of_ble_eq_true rfl) dX12_ways_30 ⟨Nat.le_of_ble_eq_true rfl, Nat.le_of_ble_eq_true rfl⟩) (fun v30 u H locs hz9 hH hS => ?_)
      obtain ⟨rfl, l_v30, u_v30⟩ := hz9
      have hH : HT D cs A T O X H := hH
      refine W.widen (k := 0) (n := 0) (Nat.le_of_ble_eq_true rfl) (Nat.le_of_ble_eq_true rfl) ?_
      refine tk_v hH hS hA (tr_V (n := 1) (As := [.int v30]) hx hb hml hown hts hkb hH hOX hks hE hS hA (s_M_laysClimbs l D cs kf T O X a0 hg mq v30 t_a0 b_hg (hO.sub (by decide))) kw_1623 kw_1625 ks_88 kw_13 kw_1626 (by decide +kernel) ⟨Nat.le_of_ble_eq_true rfl, Nat.le_of_ble_eq_true rfl⟩ (HT.recv (ci := 12) hkb hH t_a0 (hO.no t_a0 (by decide)) rfl) rfl rfl hl.1 (Nat.le_of_ble_eq_true rfl) dX12_ways_33 ⟨Nat.le_of_ble_eq_true rfl, Nat.le_of_ble_eq_true rfl⟩) (fun u H locs hz9 hH hS => ?_)
      have hz9 : u = (T, O, X) := hz9
      subst hz9
      have hH : HT D cs A T O X H := hH
      refine W.widen (k := 0) (n := 0) (Nat.le_of_ble_eq_true rfl) (Nat.le_of_ble_eq_true rfl) ?_
      refine lv_aload_n hx hb dX12_ways_36 rfl (lv_at hl 0 rfl) ?_
      refine lv_aload_n hx hb dX12_ways_37 rfl (lv_at hl 0 rfl) ?_
      refine t_get (ci := 12) (lst := ft12 hg mq) (C := RX12) (F := TX12) (N := 36) hx hb hts uX12 hown hkb hH t_a0 (hO.no t_a0 (by decide)) (fun _ h9 => h9) rfl rfl 20 (by decide) rfl kw_1243 (fun _ h9 => h9) dX12_ways_38 (fun v9 h9 => ?_)
      obtain ⟨v38, rfl, l_v38, u_v38⟩ := h9
      refine lv_aload_n hx hb dX12_ways_41 rfl (lv_at hl 0 rfl) ?_
      refine t_get (ci := 12) (lst := ft12 hg mq) (C := RX12) (F := TX12) (N := 36) hx hb hts uX12 hown hkb hH t_a0 (hO.no t_a0 (by decide)) (fun _ h9 => h9) rfl rfl 20 (by decide) rfl kw_1243 (fun _ h9 => h9) dX12_ways_42 (fun v9 h9 => ?_)
      obtain ⟨v42, rfl, l_v42, u_v42⟩ := h9
      refine tk_l hH hS hA (tr_V (n := 2) (As := [.int v38, .int v42]) hx hb hml hown hts hkb hH hOX hks hE hS hA (s_M_climbsOf l D cs kf T O X a0 hg mq v38 v42 t_a0 b_hg (hO.sub (by decide))) kw_1627 kw_1629 ks_89 kw_13 kw_1630 (by decide +kernel) ⟨Nat.le_of_ble_eq_true rfl, Nat.le_of_ble_eq_true rfl⟩ (HT.recv (ci := 12) hkb hH t_a0 (hO.no t_a0 (by decide)) rfl) rfl rfl hl.1 (Nat.le_of_ble_eq_true rfl) dX12_ways_45 ⟨Nat.le_of_ble_eq_true rfl, Nat.le_of_ble_eq_true rfl⟩) (fun v45 u H locs hz9 hH hS => ?_)
      have hz9 : u = (T, O, X) := hz9
      subst hz9
      have hH : HT D cs A T O X H := hH
      refine W.widen (k := 0) (n := 0) (Nat.le_of_ble_eq_true rfl) (Nat.le_of_ble_eq_true rfl) ?_
      exact te_l hx hb hr hlocks hH hS rfl dX12_ways_48
    · skip
      have tc23 := f_eq (k := 0) (by decide) c23
      refine lv_lconst (v := 0) hx hb dX12_ways_26 (by decide) ?_
      exact te_l hx hb hr hlocks hH hS rfl dX12_ways_27
  · skip
    have tc11 := f_eq (k := 0) (by decide) c11
    clear x_v80
    refine lv_ldc2 hx hb hown (hts _ kw_1622) dX12_ways_14 ?_
    exact te_l hx hb hr hlocks hH hS rfl dX12_ways_17
set_option maxHeartbeats 4000000 in
set_option maxRecDepth 100000 in
theorem s_M_leaves (l : Launch) (D : va_G) (cs : CS) (kf : KF) (T : TF) (O : List Nat) (X : va_W) (a0 hg mq : Nat) (x1 : Int32) (x2 : Int32) (t_a0 : T a0 = some (22, hg, mq)) (b_hg : hg < 90) (hO : okO T O [1, 8, 9, 22]) : TK l D cs kf yX12_leaves cX12_leaves 4 (some (.int)) { frames := 6, cells := 0, slots := 0, locals := 140 } [.ref a0, .int x1, .int x2] T O X (Ti D cs (fun r u => u = (T, O, X) ∧ -5 ≤ r.toInt ∧ r.toInt ≤ 1)) := by
  refine tk_of (by decide) (Nat.le_of_ble_eq_true rfl) (fun p e s m below meth c ls A H locs hx hb hr hml hown hts hlocks hnm hkb hH hS hA hOX hks hE hl => ?_)
  have hown : s.vm.findClass RX12 = some m.cls := hown
  have hl : lv_has ls 4 [(0, .ref a0), (1, .int x1), (2, .int x2)] := hl
  refine lv_aload_n hx hb dX12_leaves_0 rfl (lv_at hl 0 rfl) ?_
  refine lv_iconst (v := 0) hx hb dX12_leaves_1 (by decide) ?_
  refine t_put (ci := 12) (lst := ft12 hg mq) (v := .int 0) (ty := tyX12 0) (C := RX12) (F := TX12) (N := 36) hx hb hts uX12 tyX12 tyX12_ok nmX12 hown hkb hH hS t_a0 (hO.no t_a0 (by decide)) (fun _ => Iff.rfl) rfl rfl 0 (by decide) rfl (⟨_, rfl⟩) kw_1223 (fun _ h9 => h9) rfl (tyX12_ok 0 (by decide)) rfl rfl dX12_leaves_2 (fun H locs hH hS => ?_)
  refine lv_aload_n hx hb dX12_leaves_5 rfl (lv_at hl 0 rfl) ?_
  refine lv_iload_n hx hb dX12_leaves_6 rfl (lv_at hl 1 rfl) ?_
  refine lv_i2l hx hb dX12_leaves_7 rfl ?_
  refine tk_i hH hS hA (tr_V (n := 1) (As := [.long x1.toInt64]) hx hb hml hown hts hkb hH hOX hks hE hS hA (s_M_isGuide l D cs kf T O X a0 hg mq x1.toInt64 t_a0 b_hg (hO.sub (by decide))) kw_1470 kw_1472 ks_67 kw_13 kw_1473 (by decide +kernel) ⟨Nat.le_of_ble_eq_true rfl, Nat.le_of_ble_eq_true rfl⟩ (HT.recv (ci := 12) hkb hH t_a0 (hO.no t_a0 (by decide)) rfl) rfl rfl hl.1 (Nat.le_of_ble_eq_true rfl) dX12_leaves_8 ⟨Nat.le_of_ble_eq_true rfl, Nat.le_of_ble_eq_true rfl⟩) (fun v8 u H locs hz9 hH hS => ?_)
  obtain ⟨rfl, l_v8, u_v8, x_v80⟩ := hz9
  simp only [Int32.toInt_toInt64] at x_v80
  have hH : HT D cs A T O X H := hH
  refine W.widen (k := 0) (n := 0) (Nat.le_of_ble_eq_true rfl) (Nat.le_of_ble_eq_true rfl) ?_
  have J23 : ∀  (H : Heap) (locs : List Loc) (ls : Array Slot), HT D cs A T O X H → va_S A s.heap H locs → lv_has ls 4 [] → W p l e { frames := 6, cells := 0, slots := 0, locals := 140 } s m [.ref a0, .int x1, .int x2].toArray below meth c H locs 0 0 (MQ below (Ti D cs (fun r u => u = (T, O, X) ∧ -5 ≤ r.toInt ∧ r.toInt ≤ 1) A) [.ref a0, .int x1, .int x2].toArray s 0 0 A) (F0 m 23 ls []) := by
    intro  H locs ls  hH hS hl
    refine lv_bipush (v := (-2)) hx hb dX12_leaves_23 (by decide) ?_
    exact te_i hx hb hr hlocks hH hS (⟨rfl, by decide, by decide⟩) dX12_leaves_25
  refine lv_if_eq (tgt := 23) hx hb dX12_leaves_11 (by decide) (fun c11 => ?_) (fun c11 => ?_)
  · skip
    have tc11 := f_eq (k := 0) (by decide) c11
    clear x_v80
    exact J23  _ _ _  hH hS (lv_sub hl [] rfl)
  · skip
    have tc11 := f_ne (k := 0) (by decide) c11
    replace x_v80 := x_v80.resolve_left tc11
    refine lv_aload_n hx hb dX12_leaves_14 rfl (lv_at hl 0 rfl) ?_
    refine lv_iload_n hx hb dX12_leaves_15 rfl (lv_at hl 2 rfl) ?_
    refine lv_i2l hx hb dX12_leaves_16 rfl ?_
    refine tk_i hH hS hA (tr_V (n := 1) (As := [.long x2.toInt64]) hx hb hml hown hts hkb hH hOX hks hE hS hA (s_M_isGuide l D cs kf T O X a0 hg mq x2.toInt64 t_a0 b_hg (hO.sub (by decide))) kw_1470 kw_1472 ks_67 kw_13 kw_1473 (by decide +kernel) ⟨Nat.le_of_ble_eq_true rfl, Nat.le_of_ble_eq_true rfl⟩ (HT.recv (ci := 12) hkb hH t_a0 (hO.no t_a0 (by decide)) rfl) rfl rfl hl.1 (Nat.le_of_ble_eq_true rfl) dX12_leaves_17 ⟨Nat.le_of_ble_eq_true rfl, Nat.le_of_ble_eq_true rfl⟩) (fun v17 u H locs hz9 hH hS => ?_)
    obtain ⟨rfl, l_v17, u_v17, x_v170⟩ := hz9
    simp only [Int32.toInt_toInt64] at x_v170
    have hH : HT D cs A T O X H := hH
    refine W.widen (k := 0) (n := 0) (Nat.le_of_ble_eq_true rfl) (Nat.le_of_ble_eq_true rfl) ?_
    refine lv_if_ne (tgt := 26) hx hb dX12_leaves_20 (by decide) (fun c20 => ?_) (fun c20 => ?_)
    · skip
      have tc20 := f_ne (k := 0) (by decide) c20
      replace x_v170 := x_v170.resolve_left tc20
      refine lv_aload_n hx hb dX12_leaves_26 rfl (lv_at hl 0 rfl) ?_
      refine lv_iload_n hx hb dX12_leaves_27 rfl (lv_at hl 2 rfl) ?_
      refine tk_i hH hS hA (tr_V (n := 1) (As := [.int x2]) hx hb hml hown hts hkb hH hOX hks hE hS hA (s_M_laysWayOf l D cs kf T O X a0 hg mq x2 t_a0 b_hg (by omega) (by omega) (hO.sub (by decide))) kw_1560 kw_1562 ks_82 kw_13 kw_1563 (by decide +kernel) ⟨Nat.le_of_ble_eq_true rfl, Nat.le_of_ble_eq_true rfl⟩ (HT.recv (ci := 12) hkb hH t_a0 (hO.no t_a0 (by decide)) rfl) rfl rfl hl.1 (Nat.le_of_ble_eq_true rfl) dX12_leaves_28 ⟨Nat.le_of_ble_eq_true rfl, Nat.le_of_ble_eq_true rfl⟩) (fun v28 u H locs hz9 hH hS => ?_)
      obtain ⟨rfl, l_v28, u_v28⟩ := hz9
      have hH : HT D cs A T O X H := hH
      refine W.widen (k := 0) (n := 0) (Nat.le_of_ble_eq_true rfl) (Nat.le_of_ble_eq_true rfl) ?_
      refine lv_if_ne (tgt := 37) hx hb dX12_leaves_31 (by decide) (fun c31 => ?_) (fun c31 => ?_)
      · skip
        have tc31 := f_ne (k := 0) (by decide) c31
        refine lv_aload_n hx hb dX12_leaves_37 rfl (lv_at hl 0 rfl) ?_
        refine tk_v hH hS hA (tr_V (n := 0) (As := []) hx hb hml hown hts hkb hH hOX hks hE hS hA (s_M_keepsAhead l D cs kf T O X a0 hg mq t_a0 b_hg (hO.sub (by decide))) kw_1704 kw_1706 ks_96 kw_13 kw_1707 (by decide +kernel) ⟨Nat.le_of_ble_eq_true rfl, Nat.le_of_ble_eq_true rfl⟩ (HT.recv (ci := 12) hkb hH t_a0 (hO.no t_a0 (by decide)) rfl) rfl rfl hl.1 (Nat.le_of_ble_eq_true rfl) dX12_leaves_38 ⟨Nat.le_of_ble_eq_true rfl, Nat.le_of_ble_eq_true rfl⟩) (fun u H locs hz9 hH hS => ?_)
        have hz9 : u = (T, O, X) := hz9
        subst hz9
        have hH : HT D cs A T O X H := hH
        refine W.widen (k := 0) (n := 0) (Nat.le_of_ble_eq_true rfl) (Nat.le_of_ble_eq_true rfl) ?_
        refine lv_aload_n hx hb dX12_leaves_41 rfl (lv_at hl 0 rfl) ?_
        refine lv_iload_n hx hb dX12_leaves_42 rfl (lv_at hl 2 rfl) ?_
        refine tk_i hH hS hA (tr_V (n := 1) (As := [.int x2]) hx hb hml hown hts hkb hH hOX hks hE hS hA (s_M_usesRow l D cs kf T O X a0 hg mq x2 t_a0 b_hg (hO.sub (by decide))) kw_1548 kw_1550 ks_80 kw_13 kw_1551 (by decide +kernel) ⟨Nat.le_of_ble_eq_true rfl, Nat.le_of_ble_eq_true rfl⟩ (HT.recv (ci := 12) hkb hH t_a0 (hO.no t_a0 (by decide)) rfl) rfl rfl hl.1 (Nat.le_of_ble_eq_true rfl) dX12_leaves_43 ⟨Nat.le_of_ble_eq_true rfl, Nat.le_of_ble_eq_true rfl⟩) (fun v43 u H locs hz9 hH hS => ?_)
        have hz9 : u = (T, O, X) := hz9
        subst hz9
        have hH : HT D cs A T O X H := hH
        refine W.widen (k := 0) (n := 0) (Nat.le_of_ble_eq_true rfl) (Nat.le_of_ble_eq_true rfl) ?_
        refine lv_pop hx hb dX12_leaves_46 rfl ?_
        refine lv_aload_n hx hb dX12_leaves_47 rfl (lv_at hl 0 rfl) ?_
        refine lv_iload_n hx hb dX12_leaves_48 rfl (lv_at hl 1 rfl) ?_
        refine tk_v hH hS hA (tr_V (n := 1) (As := [.int x1]) hx hb hml hown hts hkb hH hOX hks hE hS hA (s_M_laysGuide l D cs kf T O X a0 hg mq x1 t_a0 b_hg (by omega) (by omega) (hO.sub (by decide))) kw_1502 kw_1504 ks_71 kw_13 kw_1505 (by decide +kernel) ⟨Nat.le_of_ble_eq_true rfl, Nat.le_of_ble_eq_true rfl⟩ (HT.recv (ci := 12) hkb hH t_a0 (hO.no t_a0 (by decide)) rfl) rfl rfl hl.1 (Nat.le_of_ble_eq_true rfl) dX12_leaves_49 ⟨Nat.le_of_ble_eq_true rfl, Nat.le_of_ble_eq_true rfl⟩) (fun u H locs hz9 hH hS => ?_)
        have hz9 : u = (T, O, X) := hz9
        subst hz9
        have hH : HT D cs A T O X H := hH
        refine W.widen (k := 0) (n := 0) (Nat.le_of_ble_eq_true rfl) (Nat.le_of_ble_eq_true rfl) ?_
        refine lv_aload_n hx hb dX12_leaves_52 rfl (lv_at hl 0 rfl) ?_
        refine lv_aload_n hx hb dX12_leaves_53 rfl (lv_at hl 0 rfl) ?_
        refine tk_i hH hS hA (tr_V (n := 0) (As := []) hx hb hml hown hts hkb hH hOX hks hE hS hA (s_M_openSet l D cs kf T O X a0 hg mq t_a0 b_hg (hO.sub (by decide))) kw_1510 kw_1512 ks_73 kw_13 kw_1513 (by decide +kernel) ⟨Nat.le_of_ble_eq_true rfl, Nat.le_of_ble_eq_true rfl⟩ (HT.recv (ci := 12) hkb hH t_a0 (hO.no t_a0 (by decide)) rfl) rfl rfl hl.1 (Nat.le_of_ble_eq_true rfl) dX12_leaves_54 ⟨Nat.le_of_ble_eq_true rfl, Nat.le_of_ble_eq_true rfl⟩) (fun v54 u H locs hz9 hH hS => ?_)
        obtain ⟨rfl, l_v54, u_v54⟩ := hz9
        have hH : HT D cs A T O X H := hH
        refine W.widen (k := 0) (n := 0) (Nat.le_of_ble_eq_true rfl) (Nat.le_of_ble_eq_true rfl) ?_
        refine tk_i hH hS hA (tr_V (n := 1) (As := [.int v54]) hx hb hml hown hts hkb hH hOX hks hE hS hA (s_M_hasClimb l D cs kf T O X a0 hg mq v54 t_a0 b_hg (hO.sub (by decide))) kw_1660 kw_1662 ks_94 kw_13 kw_1663 (by decide +kernel) ⟨Nat.le_of_ble_eq_true rfl, Nat.le_of_ble_eq_true rfl⟩ (HT.recv (ci := 12) hkb hH t_a0 (hO.no t_a0 (by decide)) rfl) rfl rfl hl.1 (Nat.le_of_ble_eq_true rfl) dX12_leaves_57 ⟨Nat.le_of_ble_eq_true rfl, Nat.le_of_ble_eq_true rfl⟩) (fun v57 u H locs hz9 hH hS => ?_)
        obtain ⟨rfl, l_v57, u_v57⟩ := hz9
        have hH : HT D cs A T O X H := hH
        refine W.widen (k := 0) (n := 0) (Nat.le_of_ble_eq_true rfl) (Nat.le_of_ble_eq_true rfl) ?_
        refine lv_istore_n (lv' := [(3, .int v57), (0, .ref a0), (1, .int x1), (2, .int x2)]) hx hb dX12_leaves_60 rfl hl (by decide) rfl (fun ls hl => ?_)
        refine lv_aload_n hx hb dX12_leaves_61 rfl (lv_at hl 1 rfl) ?_
        refine tk_v hH hS hA (tr_V (n := 0) (As := []) hx hb hml hown hts hkb hH hOX hks hE hS hA (s_M_isAhead l D cs kf T O X a0 hg mq t_a0 b_hg (hO.sub (by decide))) kw_1708 kw_1710 ks_97 kw_13 kw_1711 (by decide +kernel) ⟨Nat.le_of_ble_eq_true rfl, Nat.le_of_ble_eq_true rfl⟩ (HT.recv (ci := 12) hkb hH t_a0 (hO.no t_a0 (by decide)) rfl) rfl rfl hl.1 (Nat.le_of_ble_eq_true rfl) dX12_leaves_62 ⟨Nat.le_of_ble_eq_true rfl, Nat.le_of_ble_eq_true rfl⟩) (fun u H locs hz9 hH hS => ?_)
        have hz9 : u = (T, O, X) := hz9
        subst hz9
        have hH : HT D cs A T O X H := hH
        refine W.widen (k := 0) (n := 0) (Nat.le_of_ble_eq_true rfl) (Nat.le_of_ble_eq_true rfl) ?_
        refine lv_iload_n hx hb dX12_leaves_65 rfl (lv_at hl 0 rfl) ?_
        have J74 : ∀ (k74_0 : Int32) (H : Heap) (locs : List Loc) (ls : Array Slot), (0 ≤ k74_0.toInt) → (k74_0.toInt ≤ 1) → HT D cs A T O X H → va_S A s.heap H locs → lv_has ls 4 [] → W p l e { frames := 6, cells := 0, slots := 0, locals := 140 } s m [.ref a0, .int x1, .int x2].toArray below meth c H locs 0 0 (MQ below (Ti D cs (fun r u => u = (T, O, X) ∧ -5 ≤ r.toInt ∧ r.toInt ≤ 1) A) [.ref a0, .int x1, .int x2].toArray s 0 0 A) (F0 m 74 ls [.int k74_0]) := by
          intro k74_0 H locs ls l_k74_0 u_k74_0 hH hS hl
          exact te_i hx hb hr hlocks hH hS (⟨rfl, by omega, by omega⟩) dX12_leaves_74
        refine lv_if_eq (tgt := 73) hx hb dX12_leaves_66 (by decide) (fun c66 => ?_) (fun c66 => ?_)
        · skip
          have tc66 := f_eq (k := 0) (by decide) c66
          refine lv_iconst (v := 0) hx hb dX12_leaves_73 (by decide) ?_
          exact J74 0 _ _ _ (by decide) (by decide) hH hS (lv_sub hl [] rfl)
        · skip
          have tc66 := f_ne (k := 0) (by decide) c66
          refine lv_iconst (v := 1) hx hb dX12_leaves_69 (by decide) ?_
          refine lv_goto (tgt := 74) hx hb dX12_leaves_70 (by decide) ?_
          exact J74 1 _ _ _ (by decide) (by decide) hH hS (lv_sub hl [] rfl)
      · skip
        have tc31 := f_eq (k := 0) (by decide) c31
        refine lv_bipush (v := (-5)) hx hb dX12_leaves_34 (by decide) ?_
        exact te_i hx hb hr hlocks hH hS (⟨rfl, by decide, by decide⟩) dX12_leaves_36
    · skip
      have tc20 := f_eq (k := 0) (by decide) c20
      clear x_v170
      exact J23  _ _ _  hH hS (lv_sub hl [] rfl)
set_option maxHeartbeats 4000000 in
set_option maxRecDepth 100000 in
theorem s_M_season (l : Launch) (D : va_G) (cs : CS) (kf : KF) (T : TF) (O : List Nat) (X : va_W) (a0 hg mq : Nat) (x1 : Int32) (x2 : Int32) (t_a0 : T a0 = some (22, hg, mq)) (b_hg : hg < 90) (hO : okO T O [1, 8, 9, 22]) : TK l D cs kf yX12_season cX12_season 8 (some (.int)) { frames := 6, cells := 0, slots := 0, locals := 140 } [.ref a0, .int x1, .int x2] T O X (Ti D cs (fun r u => u = (T, O, X))) := by
  refine tk_of (by decide) (Nat.le_of_ble_eq_true rfl) (fun p e s m below meth c ls A H locs hx hb hr hml hown hts hlocks hnm hkb hH hS hA hOX hks hE hl => ?_)
  have hown : s.vm.findClass RX12 = some m.cls := hown
  have hl : lv_has ls 8 [(0, .ref a0), (1, .int x1), (2, .int x2)] := hl
  refine lv_aload_n hx hb dX12_season_0 rfl (lv_at hl 0 rfl) ?_
  refine lv_iconst (v := 0) hx hb dX12_season_1 (by decide) ?_
  refine t_put (ci := 12) (lst := ft12 hg mq) (v := .int 0) (ty := tyX12 0) (C := RX12) (F := TX12) (N := 36) hx hb hts uX12 tyX12 tyX12_ok nmX12 hown hkb hH hS t_a0 (hO.no t_a0 (by decide)) (fun _ => Iff.rfl) rfl rfl 0 (by decide) rfl (⟨_, rfl⟩) kw_1223 (fun _ h9 => h9) rfl (tyX12_ok 0 (by decide)) rfl rfl dX12_season_2 (fun H locs hH hS => ?_)
  refine lv_iload_n hx hb dX12_season_5 rfl (lv_at hl 2 rfl) ?_
  refine lv_i2l hx hb dX12_season_6 rfl ?_
  refine lv_lconst (v := 1) hx hb dX12_season_7 (by decide) ?_
  refine lv_ldc2 hx hb hown (hts _ kw_1607) dX12_season_8 ?_
  refine tk_i hH hS hA (tr_S (n := 3) (As := [.long x2.toInt64, .long 1, .long 40]) hx hb hml hown hts hkb hH hOX hks hE hS hA (s_M_within l D cs kf T O X x2.toInt64 1 40  (hO.sub (by decide))) kw_1341 kw_1342 kw_13 kw_1343 (by decide +kernel) ⟨Nat.le_of_ble_eq_true rfl, Nat.le_of_ble_eq_true rfl⟩ rfl rfl hl.1 (Nat.le_of_ble_eq_true rfl) dX12_season_11 ⟨Nat.le_of_ble_eq_true rfl, Nat.le_of_ble_eq_true rfl⟩) (fun v11 u H locs hz9 hH hS => ?_)
  obtain ⟨rfl, l_v11, u_v11, x_v110, x_v111⟩ := hz9
  simp only [Int32.toInt_toInt64] at x_v110 x_v111
  have k9_1 : (1 : Int64).toInt = 1 := by decide
  have k9_40 : (40 : Int64).toInt = 40 := by decide
  have hH : HT D cs A T O X H := hH
  refine W.widen (k := 0) (n := 0) (Nat.le_of_ble_eq_true rfl) (Nat.le_of_ble_eq_true rfl) ?_
  refine lv_if_ne (tgt := 20) hx hb dX12_season_14 (by decide) (fun c14 => ?_) (fun c14 => ?_)
  · skip
    have tc14 := f_ne (k := 0) (by decide) c14
    replace x_v110 := x_v110.resolve_left tc14
    clear x_v111
    refine lv_aload_n hx hb dX12_season_20 rfl (lv_at hl 0 rfl) ?_
    refine t_get (ci := 12) (lst := ft12 hg mq) (C := RX12) (F := TX12) (N := 36) hx hb hts uX12 hown hkb hH t_a0 (hO.no t_a0 (by decide)) (fun _ h9 => h9) rfl rfl 1 (by decide) rfl kw_1224 (fun _ h9 => h9) dX12_season_21 (fun v9 h9 => ?_)
    obtain ⟨v21, rfl, t_v21⟩ := h9
    refine lv_iconst (v := 2) hx hb dX12_season_24 (by decide) ?_
    refine t_ild8 hx hb hkb hH t_v21 (hO.no t_v21 (by decide)) (by decide) (by decide) (by decide) dX12_season_25 (fun v25 h9 h8 => ?_)
    have q9 := (h8 rfl).2 rfl
    subst q9
    have eG9 : (nI (hg % 6)).toInt = (((hg % 6) : Nat) : Int) := nI_toInt (by omega)
    refine lv_if_ne (tgt := 32) hx hb dX12_season_26 (by decide) (fun c26 => ?_) (fun c26 => ?_)
    · skip
      have tc26 := f_ne (k := 0) (by decide) c26
      refine lv_aload_n hx hb dX12_season_32 rfl (lv_at hl 0 rfl) ?_
      refine tk_v hH hS hA (tr_V (n := 0) (As := []) hx hb hml hown hts hkb hH hOX hks hE hS hA (s_M_keeps l D cs kf T O X a0 hg mq t_a0 b_hg (hO.sub (by decide))) kw_1544 kw_1546 ks_79 kw_13 kw_1547 (by decide +kernel) ⟨Nat.le_of_ble_eq_true rfl, Nat.le_of_ble_eq_true rfl⟩ (HT.recv (ci := 12) hkb hH t_a0 (hO.no t_a0 (by decide)) rfl) rfl rfl hl.1 (Nat.le_of_ble_eq_true rfl) dX12_season_33 ⟨Nat.le_of_ble_eq_true rfl, Nat.le_of_ble_eq_true rfl⟩) (fun u H locs hz9 hH hS => ?_)
      have hz9 : u = (T, O, X) := hz9
      subst hz9
      have hH : HT D cs A T O X H := hH
      refine W.widen (k := 0) (n := 0) (Nat.le_of_ble_eq_true rfl) (Nat.le_of_ble_eq_true rfl) ?_
      refine lv_aload_n hx hb dX12_season_36 rfl (lv_at hl 0 rfl) ?_
      refine lv_iload_n hx hb dX12_season_37 rfl (lv_at hl 1 rfl) ?_
      refine t_put (ci := 12) (lst := ft12 hg mq) (v := .int x1) (ty := tyX12 25) (C := RX12) (F := TX12) (N := 36) hx hb hts uX12 tyX12 tyX12_ok nmX12 hown hkb hH hS t_a0 (hO.no t_a0 (by decide)) (fun _ => Iff.rfl) rfl rfl 25 (by decide) rfl (⟨_, rfl⟩) kw_1248 (fun _ h9 => h9) rfl (tyX12_ok 25 (by decide)) rfl rfl dX12_season_38 (fun H locs hH hS => ?_)
      refine lv_iconst (v := 0) hx hb dX12_season_41 (by decide) ?_
      refine lv_istore_n (lv' := [(3, .int 0), (0, .ref a0), (1, .int x1), (2, .int x2)]) hx hb dX12_season_42 rfl hl (by decide) rfl (fun ls hl => ?_)
      refine lv_iconst (v := 0) hx hb dX12_season_43 (by decide) ?_
      refine lv_istore (lv' := [(4, .int 0), (3, .int 0), (0, .ref a0), (1, .int x1), (2, .int x2)]) hx hb dX12_season_44 hl (by decide) rfl (fun ls hl => ?_)
      refine lv_iconst (v := 0) hx hb dX12_season_46 (by decide) ?_
      have J49 : ∀ (n : Nat) (p49_5 : Int32) (p49_4 : Int32) (p49_3 : Int32) (H : Heap) (locs : List Loc) (ls : Array Slot), (40 - p49_5.toInt).toNat = n → (0 ≤ p49_5.toInt) → (p49_5.toInt ≤ 40) → (0 ≤ p49_4.toInt) → (p49_4.toInt ≤ 1) → HT D cs A T O X H → va_S A s.heap H locs → lv_has ls 8 [(5, .int p49_5), (4, .int p49_4), (3, .int p49_3), (0, .ref a0), (2, .int x2)] → W p l e { frames := 6, cells := 0, slots := 0, locals := 140 } s m [.ref a0, .int x1, .int x2].toArray below meth c H locs 0 0 (MQ below (Ti D cs (fun r u => u = (T, O, X)) A) [.ref a0, .int x1, .int x2].toArray s 0 0 A) (F0 m 49 ls []) := by
        intro n
        induction n using Nat.strongRecOn with
        | _ n ih49 =>
          intro p49_5 p49_4 p49_3 H locs ls hm49 l_p49_5 u_p49_5 l_p49_4 u_p49_4 hH hS hl
          refine lv_iload hx hb dX12_season_49 (lv_at hl 0 rfl) ?_
          refine lv_iload_n hx hb dX12_season_51 rfl (lv_at hl 4 rfl) ?_
          refine lv_icmp_ge (tgt := 145) hx hb dX12_season_52 (by decide) (fun c52 => ?_) (fun c52 => ?_)
          · skip
            have fuc52 := full_i p49_5
            have fvc52 := full_i x2
            have tc52 := g_le c52
            refine lv_iload hx hb dX12_season_145 (lv_at hl 1 rfl) ?_
            have J154 : ∀  (H : Heap) (locs : List Loc) (ls : Array Slot), HT D cs A T O X H → va_S A s.heap H locs → lv_has ls 8 [(3, .int p49_3)] → W p l e { frames := 6, cells := 0, slots := 0, locals := 140 } s m [.ref a0, .int x1, .int x2].toArray below meth c H locs 0 0 (MQ below (Ti D cs (fun r u => u = (T, O, X)) A) [.ref a0, .int x1, .int x2].toArray s 0 0 A) (F0 m 154 ls []) := by
              intro  H locs ls  hH hS hl
              refine lv_iload_n hx hb dX12_season_154 rfl (lv_at hl 0 rfl) ?_
              exact te_i hx hb hr hlocks hH hS (rfl) dX12_season_155
            refine lv_if_eq (tgt := 154) hx hb dX12_season_147 (by decide) (fun c147 => ?_) (fun c147 => ?_)
            · skip
              have tc147 := f_eq (k := 0) (by decide) c147
              exact J154  _ _ _  hH hS (lv_sub hl [2] rfl)
            · skip
              have tc147 := f_ne (k := 0) (by decide) c147
              refine lv_aload_n hx hb dX12_season_150 rfl (lv_at hl 3 rfl) ?_
              refine tk_v hH hS hA (tr_V (n := 0) (As := []) hx hb hml hown hts hkb hH hOX hks hE hS hA (s_M_notes l D cs kf T O X a0 hg mq t_a0 b_hg (hO.sub (by decide))) kw_1552 kw_1554 ks_81 kw_13 kw_1555 (by decide +kernel) ⟨Nat.le_of_ble_eq_true rfl, Nat.le_of_ble_eq_true rfl⟩ (HT.recv (ci := 12) hkb hH t_a0 (hO.no t_a0 (by decide)) rfl) rfl rfl hl.1 (Nat.le_of_ble_eq_true rfl) dX12_season_151 ⟨Nat.le_of_ble_eq_true rfl, Nat.le_of_ble_eq_true rfl⟩) (fun u H locs hz9 hH hS => ?_)
              obtain ⟨rfl⟩ := hz9
              have hH : HT D cs A T O X H := hH
              refine W.widen (k := 0) (n := 0) (Nat.le_of_ble_eq_true rfl) (Nat.le_of_ble_eq_true rfl) ?_
              exact J154  _ _ _  hH hS (lv_sub hl [2] rfl)
          · skip
            have fuc52 := full_i p49_5
            have fvc52 := full_i x2
            have tc52 := g_nle c52
            refine lv_aload_n hx hb dX12_season_55 rfl (lv_at hl 3 rfl) ?_
            refine lv_iconst (v := 4) hx hb dX12_season_56 (by decide) ?_
            refine tk_i hH hS hA (tr_V (n := 1) (As := [.int 4]) hx hb hml hown hts hkb hH hOX hks hE hS hA (s_M_draw l D cs kf T O X a0 hg mq (4) t_a0 b_hg (by decide) (by decide) (hO.sub (by decide))) kw_1608 kw_1610 ks_87 kw_13 kw_1611 (by decide +kernel) ⟨Nat.le_of_ble_eq_true rfl, Nat.le_of_ble_eq_true rfl⟩ (HT.recv (ci := 12) hkb hH t_a0 (hO.no t_a0 (by decide)) rfl) rfl rfl hl.1 (Nat.le_of_ble_eq_true rfl) dX12_season_57 ⟨Nat.le_of_ble_eq_true rfl, Nat.le_of_ble_eq_true rfl⟩) (fun v57 u H locs hz9 hH hS => ?_)
            obtain ⟨rfl, l_v57, u_v57⟩ := hz9
            have hH : HT D cs A T O X H := hH
            refine W.widen (k := 0) (n := 0) (Nat.le_of_ble_eq_true rfl) (Nat.le_of_ble_eq_true rfl) ?_
            refine lv_istore (lv' := [(6, .int v57), (5, .int p49_5), (4, .int p49_4), (3, .int p49_3), (0, .ref a0), (2, .int x2)]) hx hb dX12_season_60 hl (by decide) rfl (fun ls hl => ?_)
            refine lv_iload hx hb dX12_season_62 (lv_at hl 0 rfl) ?_
            have J139 : ∀ (p139_4 : Int32) (p139_3 : Int32) (H : Heap) (locs : List Loc) (ls : Array Slot), (0 ≤ p139_4.toInt) → (p139_4.toInt ≤ 1) → HT D cs A T O X H → va_S A s.heap H locs → lv_has ls 8 [(4, .int p139_4), (5, .int p49_5), (3, .int p139_3), (0, .ref a0), (2, .int x2)] → W p l e { frames := 6, cells := 0, slots := 0, locals := 140 } s m [.ref a0, .int x1, .int x2].toArray below meth c H locs 0 0 (MQ below (Ti D cs (fun r u => u = (T, O, X)) A) [.ref a0, .int x1, .int x2].toArray s 0 0 A) (F0 m 139 ls []) := by
              intro p139_4 p139_3 H locs ls l_p139_4 u_p139_4 hH hS hl
              obtain ⟨v139, ev139⟩ : ∃ y : Int32, y = p49_5 + 1 := ⟨_, rfl⟩
              have tv139 : v139.toInt = p49_5.toInt + (1) := by rw [ev139]; exact add_i rfl (by decide) (by omega) (by omega)
              refine lv_iinc (v := v139) (lv' := [(5, .int v139), (4, .int p139_4), (3, .int p139_3), (0, .ref a0), (2, .int x2)]) hx hb dX12_season_139 hl (k := 1) rfl (by rw [ev139]; rfl) (by decide) rfl (fun ls hl => ?_)
              refine lv_goto (tgt := 49) hx hb dX12_season_142 (by decide) ?_
              exact ih49 _ (by omega) v139 p139_4 p139_3 _ _ _ rfl (by omega) (by omega) (by omega) (by omega) hH hS (lv_sub hl [0, 1, 2, 3, 4] rfl)
            refine lv_if_ne (tgt := 84) hx hb dX12_season_64 (by decide) (fun c64 => ?_) (fun c64 => ?_)
            · skip
              have tc64 := f_ne (k := 0) (by decide) c64
              refine lv_iload hx hb dX12_season_84 (lv_at hl 0 rfl) ?_
              refine lv_iconst (v := 3) hx hb dX12_season_86 (by decide) ?_
              refine lv_icmp_ne (tgt := 102) hx hb dX12_season_87 (by decide) (fun c87 => ?_) (fun c87 => ?_)
              · skip
                have tc87 := f_ne (k := 3) (by decide) c87
                refine lv_aload_n hx hb dX12_season_102 rfl (lv_at hl 4 rfl) ?_
                refine lv_aload_n hx hb dX12_season_103 rfl (lv_at hl 4 rfl) ?_
                refine t_get (ci := 12) (lst := ft12 hg mq) (C := RX12) (F := TX12) (N := 36) hx hb hts uX12 hown hkb hH t_a0 (hO.no t_a0 (by decide)) (fun _ h9 => h9) rfl rfl 1 (by decide) rfl kw_1224 (fun _ h9 => h9) dX12_season_104 (fun v9 h9 => ?_)
                obtain ⟨v104, rfl, t_v104⟩ := h9
                refine lv_iconst (v := 2) hx hb dX12_season_107 (by decide) ?_
                refine t_ild8 hx hb hkb hH t_v104 (hO.no t_v104 (by decide)) (by decide) (by decide) (by decide) dX12_season_108 (fun v108 h9 h8 => ?_)
                have q9 := (h8 rfl).2 rfl
                subst q9
                have eG9 : (nI (hg % 6)).toInt = (((hg % 6) : Nat) : Int) := nI_toInt (by omega)
                refine tk_i hH hS hA (tr_V (n := 1) (As := [.int (nI (hg % 6))]) hx hb hml hown hts hkb hH hOX hks hE hS hA (s_M_draw l D cs kf T O X a0 hg mq (nI (hg % 6)) t_a0 b_hg (by omega) (by omega) (hO.sub (by decide))) kw_1608 kw_1610 ks_87 kw_13 kw_1611 (by decide +kernel) ⟨Nat.le_of_ble_eq_true rfl, Nat.le_of_ble_eq_true rfl⟩ (HT.recv (ci := 12) hkb hH t_a0 (hO.no t_a0 (by decide)) rfl) rfl rfl hl.1 (Nat.le_of_ble_eq_true rfl) dX12_season_109 ⟨Nat.le_of_ble_eq_true rfl, Nat.le_of_ble_eq_true rfl⟩) (fun v109 u H locs hz9 hH hS => ?_)
                obtain ⟨rfl, l_v109, u_v109⟩ := hz9
                have hH : HT D cs A T O X H := hH
                refine W.widen (k := 0) (n := 0) (Nat.le_of_ble_eq_true rfl) (Nat.le_of_ble_eq_true rfl) ?_
                refine lv_istore (lv' := [(7, .int v109), (6, .int v57), (5, .int p49_5), (4, .int p49_4), (3, .int p49_3), (0, .ref a0), (2, .int x2)]) hx hb dX12_season_112 hl (by decide) rfl (fun ls hl => ?_)
                refine lv_aload_n hx hb dX12_season_114 rfl (lv_at hl 5 rfl) ?_
                refine lv_iload hx hb dX12_season_115 (lv_at hl 0 rfl) ?_
                refine tk_i hH hS hA (tr_V (n := 1) (As := [.int v109]) hx hb hml hown hts hkb hH hOX hks hE hS hA (s_M_laysWayOf l D cs kf T O X a0 hg mq v109 t_a0 b_hg (by omega) (by omega) (hO.sub (by decide))) kw_1560 kw_1562 ks_82 kw_13 kw_1563 (by decide +kernel) ⟨Nat.le_of_ble_eq_true rfl, Nat.le_of_ble_eq_true rfl⟩ (HT.recv (ci := 12) hkb hH t_a0 (hO.no t_a0 (by decide)) rfl) rfl rfl hl.1 (Nat.le_of_ble_eq_true rfl) dX12_season_117 ⟨Nat.le_of_ble_eq_true rfl, Nat.le_of_ble_eq_true rfl⟩) (fun v117 u H locs hz9 hH hS => ?_)
                obtain ⟨rfl, l_v117, u_v117⟩ := hz9
                have hH : HT D cs A T O X H := hH
                refine W.widen (k := 0) (n := 0) (Nat.le_of_ble_eq_true rfl) (Nat.le_of_ble_eq_true rfl) ?_
                refine lv_if_ne (tgt := 126) hx hb dX12_season_120 (by decide) (fun c120 => ?_) (fun c120 => ?_)
                · skip
                  have tc120 := f_ne (k := 0) (by decide) c120
                  refine lv_aload_n hx hb dX12_season_126 rfl (lv_at hl 5 rfl) ?_
                  refine lv_iload hx hb dX12_season_127 (lv_at hl 0 rfl) ?_
                  refine tk_i hH hS hA (tr_V (n := 1) (As := [.int v109]) hx hb hml hown hts hkb hH hOX hks hE hS hA (s_M_usesRow l D cs kf T O X a0 hg mq v109 t_a0 b_hg (hO.sub (by decide))) kw_1548 kw_1550 ks_80 kw_13 kw_1551 (by decide +kernel) ⟨Nat.le_of_ble_eq_true rfl, Nat.le_of_ble_eq_true rfl⟩ (HT.recv (ci := 12) hkb hH t_a0 (hO.no t_a0 (by decide)) rfl) rfl rfl hl.1 (Nat.le_of_ble_eq_true rfl) dX12_season_129 ⟨Nat.le_of_ble_eq_true rfl, Nat.le_of_ble_eq_true rfl⟩) (fun v129 u H locs hz9 hH hS => ?_)
                  have hz9 : u = (T, O, X) := hz9
                  subst hz9
                  have hH : HT D cs A T O X H := hH
                  refine W.widen (k := 0) (n := 0) (Nat.le_of_ble_eq_true rfl) (Nat.le_of_ble_eq_true rfl) ?_
                  refine lv_pop hx hb dX12_season_132 rfl ?_
                  refine lv_iconst (v := 1) hx hb dX12_season_133 (by decide) ?_
                  refine lv_istore (lv' := [(4, .int 1), (7, .int v109), (6, .int v57), (5, .int p49_5), (3, .int p49_3), (0, .ref a0), (2, .int x2)]) hx hb dX12_season_134 hl (by decide) rfl (fun ls hl => ?_)
                  obtain ⟨v136, ev136⟩ : ∃ y : Int32, y = p49_3 + 1 := ⟨_, rfl⟩
                  refine lv_iinc (v := v136) (lv' := [(3, .int v136), (4, .int 1), (7, .int v109), (6, .int v57), (5, .int p49_5), (0, .ref a0), (2, .int x2)]) hx hb dX12_season_136 hl (k := 4) rfl (by rw [ev136]; rfl) (by decide) rfl (fun ls hl => ?_)
                  exact J139 1 v136 _ _ _ (by decide) (by decide) hH hS (lv_sub hl [1, 4, 0, 5, 6] rfl)
                · skip
                  have tc120 := f_eq (k := 0) (by decide) c120
                  refine lv_goto (tgt := 139) hx hb dX12_season_123 (by decide) ?_
                  exact J139 p49_4 p49_3 _ _ _ (by omega) (by omega) hH hS (lv_sub hl [3, 2, 4, 5, 6] rfl)
              · skip
                have tc87 := f_eq (k := 3) (by decide) c87
                refine lv_iload hx hb dX12_season_90 (lv_at hl 2 rfl) ?_
                refine lv_aload_n hx hb dX12_season_92 rfl (lv_at hl 4 rfl) ?_
                refine tk_i hH hS hA (tr_V (n := 0) (As := []) hx hb hml hown hts hkb hH hOX hks hE hS hA (s_M_rains l D cs kf T O X a0 hg mq t_a0 b_hg (hO.sub (by decide))) kw_1582 kw_1584 ks_85 kw_13 kw_1585 (by decide +kernel) ⟨Nat.le_of_ble_eq_true rfl, Nat.le_of_ble_eq_true rfl⟩ (HT.recv (ci := 12) hkb hH t_a0 (hO.no t_a0 (by decide)) rfl) rfl rfl hl.1 (Nat.le_of_ble_eq_true rfl) dX12_season_93 ⟨Nat.le_of_ble_eq_true rfl, Nat.le_of_ble_eq_true rfl⟩) (fun v93 u H locs hz9 hH hS => ?_)
                obtain ⟨rfl, l_v93, u_v93⟩ := hz9
                have hH : HT D cs A T O X H := hH
                refine W.widen (k := 0) (n := 0) (Nat.le_of_ble_eq_true rfl) (Nat.le_of_ble_eq_true rfl) ?_
                refine lv_ior hx hb dX12_season_96 ?_
                refine lv_topi (fun v96 ev96 => ?_)
                have tv96 : 0 ≤ v96.toInt ∧ v96.toInt < 2 := by rw [ev96]; exact or_b 1 (by decide) (by omega) (by omega) (by omega) (by omega)
                refine lv_istore (lv' := [(4, .int v96), (6, .int v57), (5, .int p49_5), (3, .int p49_3), (0, .ref a0), (2, .int x2)]) hx hb dX12_season_97 hl (by decide) rfl (fun ls hl => ?_)
                refine lv_goto (tgt := 139) hx hb dX12_season_99 (by decide) ?_
                exact J139 v96 p49_3 _ _ _ (by omega) (by omega) hH hS (lv_sub hl [0, 2, 3, 4, 5] rfl)
            · skip
              have tc64 := f_eq (k := 0) (by decide) c64
              refine lv_aload_n hx hb dX12_season_67 rfl (lv_at hl 4 rfl) ?_
              refine t_get (ci := 12) (lst := ft12 hg mq) (C := RX12) (F := TX12) (N := 36) hx hb hts uX12 hown hkb hH t_a0 (hO.no t_a0 (by decide)) (fun _ h9 => h9) rfl rfl 1 (by decide) rfl kw_1224 (fun _ h9 => h9) dX12_season_68 (fun v9 h9 => ?_)
              obtain ⟨v68, rfl, t_v68⟩ := h9
              refine lv_bipush (v := 88) hx hb dX12_season_71 (by decide) ?_
              refine lv_dup2_11 hx hb dX12_season_73 rfl rfl ?_
              refine t_ild8 hx hb hkb hH t_v68 (hO.no t_v68 (by decide)) (by decide) (by decide) (by decide) dX12_season_74 (fun v74 h9 h8 => ?_)
              refine lv_iconst (v := 1) hx hb dX12_season_75 (by decide) ?_
              refine lv_iadd hx hb dX12_season_76 ?_
              refine lv_topi (fun v76 ev76 => ?_)
              refine t_ist8 hx hb hkb hH hS t_v68 (hO.no t_v68 (by decide)) (by decide) (by decide) (by decide) (by decide) (by decide) (p8_far (by decide) (by decide)) dX12_season_77 (fun H locs hH hS => ?_)
              refine lv_iconst (v := 1) hx hb dX12_season_78 (by decide) ?_
              refine lv_istore (lv' := [(4, .int 1), (6, .int v57), (5, .int p49_5), (3, .int p49_3), (0, .ref a0), (2, .int x2)]) hx hb dX12_season_79 hl (by decide) rfl (fun ls hl => ?_)
              refine lv_goto (tgt := 139) hx hb dX12_season_81 (by decide) ?_
              exact J139 1 p49_3 _ _ _ (by decide) (by decide) hH hS (lv_sub hl [0, 2, 3, 4, 5] rfl)
      refine lv_istore (lv' := [(5, .int 0), (4, .int 0), (3, .int 0), (0, .ref a0), (1, .int x1), (2, .int x2)]) hx hb dX12_season_47 hl (by decide) rfl (fun ls hl => ?_)
      exact J49 _ 0 0 0 _ _ _ rfl (by decide) (by decide) (by decide) (by decide) hH hS (lv_sub hl [0, 1, 2, 3, 5] rfl)
    · skip
      have tc26 := f_eq (k := 0) (by decide) c26
      refine lv_bipush (v := (-5)) hx hb dX12_season_29 (by decide) ?_
      exact te_i hx hb hr hlocks hH hS (rfl) dX12_season_31
  · skip
    have tc14 := f_eq (k := 0) (by decide) c14
    clear x_v110
    replace x_v111 := x_v111.resolve_left (fun q9 => q9 tc14)
    refine lv_bipush (v := (-3)) hx hb dX12_season_17 (by decide) ?_
    exact te_i hx hb hr hlocks hH hS (rfl) dX12_season_19
/-! counting bits -/
def pcn : Nat → Nat → Nat
  | 0, _ => 0
  | k + 1, n => pcn k n + (if n.testBit k then 1 else 0)
theorem pcn_le (k n : Nat) : pcn k n ≤ k := by
  induction k with
  | zero => exact Nat.le_refl _
  | succ k ih =>
    unfold pcn
    split <;> omega
theorem pcn_hi {k h n : Nat} (hk : k ≤ h) : pcn k (n ||| 2 ^ h) = pcn k n := by
  induction k with
  | zero => rfl
  | succ k ih =>
    unfold pcn
    rw [ih (by omega), Nat.testBit_or, Nat.testBit_two_pow_of_ne (by omega), Bool.or_false]
theorem pcn_or {k h n : Nat} (hk : h < k) (hn : n.testBit h = false) : pcn k (n ||| 2 ^ h) = pcn k n + 1 := by
  induction k with
  | zero => omega
  | succ k ih =>
    unfold pcn
    by_cases q : h = k
    · subst q
      rw [pcn_hi (Nat.le_refl _), Nat.testBit_or, Nat.testBit_two_pow_self, hn]
      simp
    · rw [ih (by omega), Nat.testBit_or, Nat.testBit_two_pow_of_ne (by omega), Bool.or_false]
      omega
/-- a set of guides with one fewer -/
theorem gt_tab : ∀ n, n < 32 → ∀ g, g < 5 → inF (nI n).toInt64 (nI g) = 1 → 0 ≤ (nI n &&& (((1 : Int32) <<< (nI g &&& 31)) ^^^ (-1))).toInt ∧ (nI n &&& (((1 : Int32) <<< (nI g &&& 31)) ^^^ (-1))).toInt ≤ 31 ∧ pcn 5 (nI n &&& (((1 : Int32) <<< (nI g &&& 31)) ^^^ (-1))).toInt.toNat + 1 ≤ pcn 5 (nI n).toInt.toNat := by decide +kernel
theorem gt_step {x g a b v : Int32} (h0 : 0 ≤ x.toInt) (h1 : x.toInt ≤ 31) (g0 : 0 ≤ g.toInt) (g1 : g.toInt ≤ 4) (hb : inF x.toInt64 g = 1) (ea : a = (1 : Int32) <<< (g &&& 31)) (eb : b = a ^^^ (-1)) (ev : v = x &&& b) : 0 ≤ v.toInt ∧ v.toInt ≤ 31 ∧ pcn 5 v.toInt.toNat + 1 ≤ pcn 5 x.toInt.toNat := by
  have ex := is_nI h0
  have eg := is_nI g0
  have := gt_tab x.toInt.toNat (by omega) g.toInt.toNat (by omega)
  rw [← ex, ← eg] at this
  rw [ev, eb, ea]
  exact this hb
theorem pcn5_0 : ∀ n, n < 32 → pcn 5 n = 0 → n = 0 := by decide +kernel
/-- a told climb's holds: as many as the set has bits -/
def TD (s n : Int32) : Prop := 0 ≤ s.toInt ∧ s.toInt ≤ 16383 ∧ n.toInt = ((pcn 14 s.toInt.toNat : Nat) : Int)
theorem TD_0 {z w : Int32} (hz : z.toInt = 0) (hw : w.toInt = 0) : TD z w := ⟨by omega, by omega, by rw [hz, hw]; decide⟩
theorem TD_s {s n h b s2 : Int32} (hi : TD s n) (h0 : 0 ≤ h.toInt) (h1 : h.toInt ≤ 13) (hb : inF s.toInt64 h ≠ 1) (eb : b = (1 : Int32) <<< (h &&& 31)) (es : s2 = s ||| b) : n.toInt ≤ 13 ∧ ∀ n2 : Int32, n2.toInt = n.toInt + 1 → TD s2 n2 := by
  obtain ⟨a0, a1, a2⟩ := hi
  have eh := is_nI h0
  have hbv : b.toInt = 2 ^ h.toInt.toNat := by
    rw [eb]
    have := sh_tab h.toInt.toNat (by omega)
    rw [← eh] at this
    exact this
  have hp : (2 : Nat) ^ h.toInt.toNat ≤ 2 ^ 13 := Nat.pow_le_pow_right (by decide) (by omega)
  have hbn : b.toInt = ((2 ^ h.toInt.toNat : Nat) : Int) := by rw [hbv]; norm_cast
  obtain ⟨P, hP⟩ : ∃ P : Nat, P = 2 ^ h.toInt.toNat := ⟨_, rfl⟩
  rw [← hP] at hp hbn
  have hb0 : 0 ≤ b.toInt := by omega
  obtain ⟨c1, c2⟩ := nn_i a0
  obtain ⟨d1, d2⟩ := nn_i hb0
  have e : (s ||| b).toBitVec.toNat = s.toBitVec.toNat ||| b.toBitVec.toNat := by rw [Int32.toBitVec_or, BitVec.toNat_or]
  have hor := or_b 14 (by decide) a0 hb0 (by omega) (by omega)
  have hs2 : s2.toInt.toNat = s.toInt.toNat ||| 2 ^ h.toInt.toNat := by
    have := nn_of (x := s ||| b) (by rw [e]; have := Nat.or_lt_two_pow (n := 14) (show s.toBitVec.toNat < 2 ^ 14 by omega) (show b.toBitVec.toNat < 2 ^ 14 by omega); omega)
    rw [es, this, e]
    have q1 : s.toBitVec.toNat = s.toInt.toNat := by omega
    have q2 : b.toBitVec.toNat = P := by omega
    rw [q1, q2, hP]
    simp
  have hnb : s.toInt.toNat.testBit h.toInt.toNat = false := by
    cases q : s.toInt.toNat.testBit h.toInt.toNat with
    | false => rfl
    | true => exact absurd ((inF_bit a0 h0 (by omega)).mpr q) hb
  have hc := pcn_or (k := 14) (show h.toInt.toNat < 14 by omega) hnb
  have hl := pcn_le 14 s2.toInt.toNat
  rw [hs2] at hl
  refine ⟨by omega, fun n2 hn => ⟨by rw [es]; exact hor.1, by rw [es]; have := hor.2; omega, ?_⟩⟩
  rw [hs2, hc]
  omega
theorem dX12_goesTurn_0 : decode cX12_goesTurn 0 = .ok (.iload_n 2, 1) := by decide +kernel
theorem dX12_goesTurn_1 : decode cX12_goesTurn 1 = .ok (.ifCond .ne 47, 3) := by decide +kernel
theorem dX12_goesTurn_4 : decode cX12_goesTurn 4 = .ok (.iload_n 3, 1) := by decide +kernel
theorem dX12_goesTurn_5 : decode cX12_goesTurn 5 = .ok (.aload_n 0, 1) := by decide +kernel
theorem dX12_goesTurn_6 : decode cX12_goesTurn 6 = .ok (.getfield 387, 3) := by decide +kernel
theorem dX12_goesTurn_9 : decode cX12_goesTurn 9 = .ok (.if_icmp .gt 4, 3) := by decide +kernel
theorem dX12_goesTurn_12 : decode cX12_goesTurn 12 = .ok (.return_, 1) := by decide +kernel
theorem dX12_goesTurn_13 : decode cX12_goesTurn 13 = .ok (.aload_n 0, 1) := by decide +kernel
theorem dX12_goesTurn_14 : decode cX12_goesTurn 14 = .ok (.iload_n 3, 1) := by decide +kernel
theorem dX12_goesTurn_15 : decode cX12_goesTurn 15 = .ok (.putfield 387, 3) := by decide +kernel
theorem dX12_goesTurn_18 : decode cX12_goesTurn 18 = .ok (.iconst 0, 1) := by decide +kernel
theorem dX12_goesTurn_19 : decode cX12_goesTurn 19 = .ok (.istore 4, 2) := by decide +kernel
theorem dX12_goesTurn_21 : decode cX12_goesTurn 21 = .ok (.iload 4, 2) := by decide +kernel
theorem dX12_goesTurn_23 : decode cX12_goesTurn 23 = .ok (.iload_n 1, 1) := by decide +kernel
theorem dX12_goesTurn_24 : decode cX12_goesTurn 24 = .ok (.if_icmp .ge 23, 3) := by decide +kernel
theorem dX12_goesTurn_27 : decode cX12_goesTurn 27 = .ok (.aload_n 0, 1) := by decide +kernel
theorem dX12_goesTurn_28 : decode cX12_goesTurn 28 = .ok (.getfield 63, 3) := by decide +kernel
theorem dX12_goesTurn_31 : decode cX12_goesTurn 31 = .ok (.iload 4, 2) := by decide +kernel
theorem dX12_goesTurn_33 : decode cX12_goesTurn 33 = .ok (.aload_n 0, 1) := by decide +kernel
theorem dX12_goesTurn_34 : decode cX12_goesTurn 34 = .ok (.getfield 60, 3) := by decide +kernel
theorem dX12_goesTurn_37 : decode cX12_goesTurn 37 = .ok (.iload 4, 2) := by decide +kernel
theorem dX12_goesTurn_39 : decode cX12_goesTurn 39 = .ok (.iaload, 1) := by decide +kernel
theorem dX12_goesTurn_40 : decode cX12_goesTurn 40 = .ok (.iastore, 1) := by decide +kernel
theorem dX12_goesTurn_41 : decode cX12_goesTurn 41 = .ok (.iinc 4 1, 3) := by decide +kernel
theorem dX12_goesTurn_44 : decode cX12_goesTurn 44 = .ok (.goto (-23), 3) := by decide +kernel
theorem dX12_goesTurn_47 : decode cX12_goesTurn 47 = .ok (.return_, 1) := by decide +kernel
theorem dX12_goesTurn_48 : decode cX12_goesTurn 48 = .ok (.iconst 0, 1) := by decide +kernel
theorem dX12_goesTurn_49 : decode cX12_goesTurn 49 = .ok (.istore 4, 2) := by decide +kernel
theorem dX12_goesTurn_51 : decode cX12_goesTurn 51 = .ok (.iload 4, 2) := by decide +kernel
theorem dX12_goesTurn_53 : decode cX12_goesTurn 53 = .ok (.bipush 31, 2) := by decide +kernel
theorem dX12_goesTurn_55 : decode cX12_goesTurn 55 = .ok (.if_icmp .ge 31, 3) := by decide +kernel
theorem dX12_goesTurn_58 : decode cX12_goesTurn 58 = .ok (.aload_n 0, 1) := by decide +kernel
theorem dX12_goesTurn_59 : decode cX12_goesTurn 59 = .ok (.getfield 66, 3) := by decide +kernel
theorem dX12_goesTurn_62 : decode cX12_goesTurn 62 = .ok (.bipush 31, 2) := by decide +kernel
theorem dX12_goesTurn_64 : decode cX12_goesTurn 64 = .ok (.iload_n 1, 1) := by decide +kernel
theorem dX12_goesTurn_65 : decode cX12_goesTurn 65 = .ok (.imul, 1) := by decide +kernel
theorem dX12_goesTurn_66 : decode cX12_goesTurn 66 = .ok (.iload 4, 2) := by decide +kernel
theorem dX12_goesTurn_68 : decode cX12_goesTurn 68 = .ok (.iadd, 1) := by decide +kernel
theorem dX12_goesTurn_69 : decode cX12_goesTurn 69 = .ok (.aload_n 0, 1) := by decide +kernel
theorem dX12_goesTurn_70 : decode cX12_goesTurn 70 = .ok (.getfield 13, 3) := by decide +kernel
theorem dX12_goesTurn_73 : decode cX12_goesTurn 73 = .ok (.bipush 59, 2) := by decide +kernel
theorem dX12_goesTurn_75 : decode cX12_goesTurn 75 = .ok (.iload 4, 2) := by decide +kernel
theorem dX12_goesTurn_77 : decode cX12_goesTurn 77 = .ok (.iadd, 1) := by decide +kernel
theorem dX12_goesTurn_78 : decode cX12_goesTurn 78 = .ok (.iaload, 1) := by decide +kernel
theorem dX12_goesTurn_79 : decode cX12_goesTurn 79 = .ok (.iastore, 1) := by decide +kernel
theorem dX12_goesTurn_80 : decode cX12_goesTurn 80 = .ok (.iinc 4 1, 3) := by decide +kernel
theorem dX12_goesTurn_83 : decode cX12_goesTurn 83 = .ok (.goto (-32), 3) := by decide +kernel
theorem dX12_goesTurn_86 : decode cX12_goesTurn 86 = .ok (.iconst 0, 1) := by decide +kernel
theorem dX12_goesTurn_87 : decode cX12_goesTurn 87 = .ok (.istore 4, 2) := by decide +kernel
theorem dX12_goesTurn_89 : decode cX12_goesTurn 89 = .ok (.iload 4, 2) := by decide +kernel
theorem dX12_goesTurn_91 : decode cX12_goesTurn 91 = .ok (.aload_n 0, 1) := by decide +kernel
theorem dX12_goesTurn_92 : decode cX12_goesTurn 92 = .ok (.getfield 13, 3) := by decide +kernel
theorem dX12_goesTurn_95 : decode cX12_goesTurn 95 = .ok (.iconst 2, 1) := by decide +kernel
theorem dX12_goesTurn_96 : decode cX12_goesTurn 96 = .ok (.iaload, 1) := by decide +kernel
theorem dX12_goesTurn_97 : decode cX12_goesTurn 97 = .ok (.if_icmp .ge 115, 3) := by decide +kernel
theorem dX12_goesTurn_100 : decode cX12_goesTurn 100 = .ok (.iload_n 2, 1) := by decide +kernel
theorem dX12_goesTurn_101 : decode cX12_goesTurn 101 = .ok (.i2l, 1) := by decide +kernel
theorem dX12_goesTurn_102 : decode cX12_goesTurn 102 = .ok (.iload 4, 2) := by decide +kernel
theorem dX12_goesTurn_104 : decode cX12_goesTurn 104 = .ok (.invokestatic 186, 3) := by decide +kernel
theorem dX12_goesTurn_107 : decode cX12_goesTurn 107 = .ok (.ifCond .ne 6, 3) := by decide +kernel
theorem dX12_goesTurn_110 : decode cX12_goesTurn 110 = .ok (.goto 96, 3) := by decide +kernel
theorem dX12_goesTurn_113 : decode cX12_goesTurn 113 = .ok (.aload_n 0, 1) := by decide +kernel
theorem dX12_goesTurn_114 : decode cX12_goesTurn 114 = .ok (.getfield 60, 3) := by decide +kernel
theorem dX12_goesTurn_117 : decode cX12_goesTurn 117 = .ok (.iload_n 1, 1) := by decide +kernel
theorem dX12_goesTurn_118 : decode cX12_goesTurn 118 = .ok (.iload 4, 2) := by decide +kernel
theorem dX12_goesTurn_120 : decode cX12_goesTurn 120 = .ok (.iastore, 1) := by decide +kernel
theorem dX12_goesTurn_121 : decode cX12_goesTurn 121 = .ok (.aload_n 0, 1) := by decide +kernel
theorem dX12_goesTurn_122 : decode cX12_goesTurn 122 = .ok (.iload 4, 2) := by decide +kernel
theorem dX12_goesTurn_124 : decode cX12_goesTurn 124 = .ok (.invokevirtual 304, 3) := by decide +kernel
theorem dX12_goesTurn_127 : decode cX12_goesTurn 127 = .ok (.istore 5, 2) := by decide +kernel
theorem dX12_goesTurn_129 : decode cX12_goesTurn 129 = .ok (.iload 5, 2) := by decide +kernel
theorem dX12_goesTurn_131 : decode cX12_goesTurn 131 = .ok (.ifCond .eq 10, 3) := by decide +kernel
theorem dX12_goesTurn_134 : decode cX12_goesTurn 134 = .ok (.aload_n 0, 1) := by decide +kernel
theorem dX12_goesTurn_135 : decode cX12_goesTurn 135 = .ok (.iload 4, 2) := by decide +kernel
theorem dX12_goesTurn_137 : decode cX12_goesTurn 137 = .ok (.invokevirtual 298, 3) := by decide +kernel
theorem dX12_goesTurn_140 : decode cX12_goesTurn 140 = .ok (.pop, 1) := by decide +kernel
theorem dX12_goesTurn_141 : decode cX12_goesTurn 141 = .ok (.aload_n 0, 1) := by decide +kernel
theorem dX12_goesTurn_142 : decode cX12_goesTurn 142 = .ok (.iload_n 1, 1) := by decide +kernel
theorem dX12_goesTurn_143 : decode cX12_goesTurn 143 = .ok (.iconst 1, 1) := by decide +kernel
theorem dX12_goesTurn_144 : decode cX12_goesTurn 144 = .ok (.iadd, 1) := by decide +kernel
theorem dX12_goesTurn_145 : decode cX12_goesTurn 145 = .ok (.iload_n 2, 1) := by decide +kernel
theorem dX12_goesTurn_146 : decode cX12_goesTurn 146 = .ok (.iconst 1, 1) := by decide +kernel
theorem dX12_goesTurn_147 : decode cX12_goesTurn 147 = .ok (.iload 4, 2) := by decide +kernel
theorem dX12_goesTurn_149 : decode cX12_goesTurn 149 = .ok (.ishl, 1) := by decide +kernel
theorem dX12_goesTurn_150 : decode cX12_goesTurn 150 = .ok (.iconst (-1), 1) := by decide +kernel
theorem dX12_goesTurn_151 : decode cX12_goesTurn 151 = .ok (.ixor, 1) := by decide +kernel
theorem dX12_goesTurn_152 : decode cX12_goesTurn 152 = .ok (.iand, 1) := by decide +kernel
theorem dX12_goesTurn_153 : decode cX12_goesTurn 153 = .ok (.iload_n 3, 1) := by decide +kernel
theorem dX12_goesTurn_154 : decode cX12_goesTurn 154 = .ok (.iload 5, 2) := by decide +kernel
theorem dX12_goesTurn_156 : decode cX12_goesTurn 156 = .ok (.ifCond .eq 7, 3) := by decide +kernel
theorem dX12_goesTurn_159 : decode cX12_goesTurn 159 = .ok (.iconst 1, 1) := by decide +kernel
theorem dX12_goesTurn_160 : decode cX12_goesTurn 160 = .ok (.goto 4, 3) := by decide +kernel
theorem dX12_goesTurn_163 : decode cX12_goesTurn 163 = .ok (.iconst 0, 1) := by decide +kernel
theorem dX12_goesTurn_164 : decode cX12_goesTurn 164 = .ok (.iadd, 1) := by decide +kernel
theorem dX12_goesTurn_165 : decode cX12_goesTurn 165 = .ok (.invokevirtual 390, 3) := by decide +kernel
theorem dX12_goesTurn_168 : decode cX12_goesTurn 168 = .ok (.iconst 0, 1) := by decide +kernel
theorem dX12_goesTurn_169 : decode cX12_goesTurn 169 = .ok (.istore 6, 2) := by decide +kernel
theorem dX12_goesTurn_171 : decode cX12_goesTurn 171 = .ok (.iload 6, 2) := by decide +kernel
theorem dX12_goesTurn_173 : decode cX12_goesTurn 173 = .ok (.bipush 31, 2) := by decide +kernel
theorem dX12_goesTurn_175 : decode cX12_goesTurn 175 = .ok (.if_icmp .ge 31, 3) := by decide +kernel
theorem dX12_goesTurn_178 : decode cX12_goesTurn 178 = .ok (.aload_n 0, 1) := by decide +kernel
theorem dX12_goesTurn_179 : decode cX12_goesTurn 179 = .ok (.getfield 13, 3) := by decide +kernel
theorem dX12_goesTurn_182 : decode cX12_goesTurn 182 = .ok (.bipush 59, 2) := by decide +kernel
theorem dX12_goesTurn_184 : decode cX12_goesTurn 184 = .ok (.iload 6, 2) := by decide +kernel
theorem dX12_goesTurn_186 : decode cX12_goesTurn 186 = .ok (.iadd, 1) := by decide +kernel
theorem dX12_goesTurn_187 : decode cX12_goesTurn 187 = .ok (.aload_n 0, 1) := by decide +kernel
theorem dX12_goesTurn_188 : decode cX12_goesTurn 188 = .ok (.getfield 66, 3) := by decide +kernel
theorem dX12_goesTurn_191 : decode cX12_goesTurn 191 = .ok (.bipush 31, 2) := by decide +kernel
theorem dX12_goesTurn_193 : decode cX12_goesTurn 193 = .ok (.iload_n 1, 1) := by decide +kernel
theorem dX12_goesTurn_194 : decode cX12_goesTurn 194 = .ok (.imul, 1) := by decide +kernel
theorem dX12_goesTurn_195 : decode cX12_goesTurn 195 = .ok (.iload 6, 2) := by decide +kernel
theorem dX12_goesTurn_197 : decode cX12_goesTurn 197 = .ok (.iadd, 1) := by decide +kernel
theorem dX12_goesTurn_198 : decode cX12_goesTurn 198 = .ok (.iaload, 1) := by decide +kernel
theorem dX12_goesTurn_199 : decode cX12_goesTurn 199 = .ok (.iastore, 1) := by decide +kernel
theorem dX12_goesTurn_200 : decode cX12_goesTurn 200 = .ok (.iinc 6 1, 3) := by decide +kernel
theorem dX12_goesTurn_203 : decode cX12_goesTurn 203 = .ok (.goto (-32), 3) := by decide +kernel
theorem dX12_goesTurn_206 : decode cX12_goesTurn 206 = .ok (.iinc 4 1, 3) := by decide +kernel
theorem dX12_goesTurn_209 : decode cX12_goesTurn 209 = .ok (.goto (-120), 3) := by decide +kernel
theorem dX12_goesTurn_212 : decode cX12_goesTurn 212 = .ok (.return_, 1) := by decide +kernel
theorem dX12_inTurn_0 : decode cX12_inTurn 0 = .ok (.aload_n 0, 1) := by decide +kernel
theorem dX12_inTurn_1 : decode cX12_inTurn 1 = .ok (.iconst 0, 1) := by decide +kernel
theorem dX12_inTurn_2 : decode cX12_inTurn 2 = .ok (.putfield 1, 3) := by decide +kernel
theorem dX12_inTurn_5 : decode cX12_inTurn 5 = .ok (.iload_n 1, 1) := by decide +kernel
theorem dX12_inTurn_6 : decode cX12_inTurn 6 = .ok (.i2l, 1) := by decide +kernel
theorem dX12_inTurn_7 : decode cX12_inTurn 7 = .ok (.lconst 0, 1) := by decide +kernel
theorem dX12_inTurn_8 : decode cX12_inTurn 8 = .ok (.iconst 1, 1) := by decide +kernel
theorem dX12_inTurn_9 : decode cX12_inTurn 9 = .ok (.aload_n 0, 1) := by decide +kernel
theorem dX12_inTurn_10 : decode cX12_inTurn 10 = .ok (.getfield 13, 3) := by decide +kernel
theorem dX12_inTurn_13 : decode cX12_inTurn 13 = .ok (.iconst 2, 1) := by decide +kernel
theorem dX12_inTurn_14 : decode cX12_inTurn 14 = .ok (.iaload, 1) := by decide +kernel
theorem dX12_inTurn_15 : decode cX12_inTurn 15 = .ok (.ishl, 1) := by decide +kernel
theorem dX12_inTurn_16 : decode cX12_inTurn 16 = .ok (.iconst 1, 1) := by decide +kernel
theorem dX12_inTurn_17 : decode cX12_inTurn 17 = .ok (.isub, 1) := by decide +kernel
theorem dX12_inTurn_18 : decode cX12_inTurn 18 = .ok (.i2l, 1) := by decide +kernel
theorem dX12_inTurn_19 : decode cX12_inTurn 19 = .ok (.invokestatic 144, 3) := by decide +kernel
theorem dX12_inTurn_22 : decode cX12_inTurn 22 = .ok (.ifCond .ne 6, 3) := by decide +kernel
theorem dX12_inTurn_25 : decode cX12_inTurn 25 = .ok (.bipush (-3), 2) := by decide +kernel
theorem dX12_inTurn_27 : decode cX12_inTurn 27 = .ok (.ireturn, 1) := by decide +kernel
theorem dX12_inTurn_28 : decode cX12_inTurn 28 = .ok (.iload_n 2, 1) := by decide +kernel
theorem dX12_inTurn_29 : decode cX12_inTurn 29 = .ok (.ifCond .eq 20, 3) := by decide +kernel
theorem dX12_inTurn_32 : decode cX12_inTurn 32 = .ok (.iload_n 2, 1) := by decide +kernel
theorem dX12_inTurn_33 : decode cX12_inTurn 33 = .ok (.i2l, 1) := by decide +kernel
theorem dX12_inTurn_34 : decode cX12_inTurn 34 = .ok (.ldc2_w 318, 3) := by decide +kernel
theorem dX12_inTurn_37 : decode cX12_inTurn 37 = .ok (.ldc2_w 309, 3) := by decide +kernel
theorem dX12_inTurn_40 : decode cX12_inTurn 40 = .ok (.invokestatic 144, 3) := by decide +kernel
theorem dX12_inTurn_43 : decode cX12_inTurn 43 = .ok (.ifCond .ne 6, 3) := by decide +kernel
theorem dX12_inTurn_46 : decode cX12_inTurn 46 = .ok (.bipush (-2), 2) := by decide +kernel
theorem dX12_inTurn_48 : decode cX12_inTurn 48 = .ok (.ireturn, 1) := by decide +kernel
theorem dX12_inTurn_49 : decode cX12_inTurn 49 = .ok (.aload_n 0, 1) := by decide +kernel
theorem dX12_inTurn_50 : decode cX12_inTurn 50 = .ok (.iconst (-1), 1) := by decide +kernel
theorem dX12_inTurn_51 : decode cX12_inTurn 51 = .ok (.putfield 387, 3) := by decide +kernel
theorem dX12_inTurn_54 : decode cX12_inTurn 54 = .ok (.aload_n 0, 1) := by decide +kernel
theorem dX12_inTurn_55 : decode cX12_inTurn 55 = .ok (.iconst 0, 1) := by decide +kernel
theorem dX12_inTurn_56 : decode cX12_inTurn 56 = .ok (.iload_n 1, 1) := by decide +kernel
theorem dX12_inTurn_57 : decode cX12_inTurn 57 = .ok (.iconst 0, 1) := by decide +kernel
theorem dX12_inTurn_58 : decode cX12_inTurn 58 = .ok (.invokevirtual 390, 3) := by decide +kernel
theorem dX12_inTurn_61 : decode cX12_inTurn 61 = .ok (.iload_n 2, 1) := by decide +kernel
theorem dX12_inTurn_62 : decode cX12_inTurn 62 = .ok (.ifCond .ne 10, 3) := by decide +kernel
theorem dX12_inTurn_65 : decode cX12_inTurn 65 = .ok (.aload_n 0, 1) := by decide +kernel
theorem dX12_inTurn_66 : decode cX12_inTurn 66 = .ok (.getfield 387, 3) := by decide +kernel
theorem dX12_inTurn_69 : decode cX12_inTurn 69 = .ok (.goto 27, 3) := by decide +kernel
theorem dX12_inTurn_72 : decode cX12_inTurn 72 = .ok (.iload_n 2, 1) := by decide +kernel
theorem dX12_inTurn_73 : decode cX12_inTurn 73 = .ok (.bipush 10, 2) := by decide +kernel
theorem dX12_inTurn_75 : decode cX12_inTurn 75 = .ok (.isub, 1) := by decide +kernel
theorem dX12_inTurn_76 : decode cX12_inTurn 76 = .ok (.iload_n 1, 1) := by decide +kernel
theorem dX12_inTurn_77 : decode cX12_inTurn 77 = .ok (.invokestatic 334, 3) := by decide +kernel
theorem dX12_inTurn_80 : decode cX12_inTurn 80 = .ok (.if_icmp .ge 15, 3) := by decide +kernel
theorem dX12_inTurn_83 : decode cX12_inTurn 83 = .ok (.aload_n 0, 1) := by decide +kernel
theorem dX12_inTurn_84 : decode cX12_inTurn 84 = .ok (.getfield 63, 3) := by decide +kernel
theorem dX12_inTurn_87 : decode cX12_inTurn 87 = .ok (.iload_n 2, 1) := by decide +kernel
theorem dX12_inTurn_88 : decode cX12_inTurn 88 = .ok (.bipush 10, 2) := by decide +kernel
theorem dX12_inTurn_90 : decode cX12_inTurn 90 = .ok (.isub, 1) := by decide +kernel
theorem dX12_inTurn_91 : decode cX12_inTurn 91 = .ok (.iaload, 1) := by decide +kernel
theorem dX12_inTurn_92 : decode cX12_inTurn 92 = .ok (.goto 4, 3) := by decide +kernel
theorem dX12_inTurn_95 : decode cX12_inTurn 95 = .ok (.iconst (-1), 1) := by decide +kernel
theorem dX12_inTurn_96 : decode cX12_inTurn 96 = .ok (.ireturn, 1) := by decide +kernel
theorem kw_1252 : Cond.fieldLink "FootholdWallModel" 60 "FootholdWallModel" "turnsOf" "[I" ∈ gw := gw_of (tb_of 1252 (by decide +kernel)) (by decide +kernel)
theorem kw_1253 : Cond.fieldLink "FootholdWallModel" 63 "FootholdWallModel" "bestTurn" "[I" ∈ gw := gw_of (tb_of 1253 (by decide +kernel)) (by decide +kernel)
theorem kw_1254 : Cond.fieldLink "FootholdWallModel" 66 "FootholdWallModel" "levels" "[I" ∈ gw := gw_of (tb_of 1254 (by decide +kernel)) (by decide +kernel)
theorem kw_1255 : Cond.fieldLink "FootholdWallModel" 387 "FootholdWallModel" "bestGot" "I" ∈ gw := gw_of (tb_of 1255 (by decide +kernel)) (by decide +kernel)
theorem kw_1756 : Cond.methodLink "FootholdWallModel" 390 yX12_goesTurn ∈ gw := gw_of (tb_of 1756 (by decide +kernel)) (by decide +kernel)
theorem kw_1758 : Cond.instanceMethod yX12_goesTurn ∈ gw := gw_of (tb_of 1758 (by decide +kernel)) (by decide +kernel)
theorem kw_1759 : Cond.code yX12_goesTurn cX12_goesTurn 7 none ∈ gw := gw_of (tb_of 1759 (by decide +kernel)) (by decide +kernel)
theorem ks_103 : Cond.selects RX12 yX12_goesTurn yX12_goesTurn ∈ gw := gw_of (pv_of 103 (by decide +kernel)) (by decide +kernel)
set_option maxHeartbeats 4000000 in
set_option maxRecDepth 100000 in
theorem s_M_goesTurn5 (l : Launch) (D : va_G) (cs : CS) (kf : KF) (T : TF) (O : List Nat) (X : va_W) (a0 hg mq : Nat) (x1 : Int32) (x2 : Int32) (x3 : Int32) (t_a0 : T a0 = some (22, hg, mq)) (b_hg : hg < 90) (l_x1 : 5 ≤ x1.toInt) (u_x1 : x1.toInt ≤ 5) (l_x2 : 0 ≤ x2.toInt) (u_x2 : x2.toInt ≤ 0) (hp : pcn 5 x2.toInt.toNat ≤ 0) (hO : okO T O [1, 22]) : TK l D cs kf yX12_goesTurn cX12_goesTurn 7 none { frames := 0, cells := 0, slots := 0, locals := 0 } [.ref a0, .int x1, .int x2, .int x3] T O X (Tv D cs (fun u => u = (T, O, X))) := by
  refine tk_of (by decide) (Nat.le_of_ble_eq_true rfl) (fun p e s m below meth c ls A H locs hx hb hr hml hown hts hlocks hnm hkb hH hS hA hOX hks hE hl => ?_)
  have hown : s.vm.findClass RX12 = some m.cls := hown
  have hl : lv_has ls 7 [(0, .ref a0), (1, .int x1), (2, .int x2), (3, .int x3)] := hl
  refine lv_iload_n hx hb dX12_goesTurn_0 rfl (lv_at hl 2 rfl) ?_
  refine lv_if_ne (tgt := 48) hx hb dX12_goesTurn_1 (by decide) (fun c1 => ?_) (fun c1 => ?_)
  · skip
    have tc1 := f_ne (k := 0) (by decide) c1
    exfalso; omega
  · skip
    have tc1 := f_eq (k := 0) (by decide) c1
    refine lv_iload_n hx hb dX12_goesTurn_4 rfl (lv_at hl 3 rfl) ?_
    refine lv_aload_n hx hb dX12_goesTurn_5 rfl (lv_at hl 0 rfl) ?_
    refine t_get (ci := 12) (lst := ft12 hg mq) (C := RX12) (F := TX12) (N := 36) hx hb hts uX12 hown hkb hH t_a0 (hO.no t_a0 (by decide)) (fun _ h9 => h9) rfl rfl 32 (by decide) rfl kw_1255 (fun _ h9 => h9) dX12_goesTurn_6 (fun v9 h9 => ?_)
    obtain ⟨v6, rfl⟩ := h9
    refine lv_icmp_gt (tgt := 13) hx hb dX12_goesTurn_9 (by decide) (fun c9 => ?_) (fun c9 => ?_)
    · skip
      have fuc9 := full_i x3
      have fvc9 := full_i v6
      have tc9 := g_lt c9
      refine lv_aload_n hx hb dX12_goesTurn_13 rfl (lv_at hl 0 rfl) ?_
      refine lv_iload_n hx hb dX12_goesTurn_14 rfl (lv_at hl 3 rfl) ?_
      refine t_put (ci := 12) (lst := ft12 hg mq) (v := .int x3) (ty := tyX12 32) (C := RX12) (F := TX12) (N := 36) hx hb hts uX12 tyX12 tyX12_ok nmX12 hown hkb hH hS t_a0 (hO.no t_a0 (by decide)) (fun _ => Iff.rfl) rfl rfl 32 (by decide) rfl (⟨_, rfl⟩) kw_1255 (fun _ h9 => h9) rfl (tyX12_ok 32 (by decide)) rfl rfl dX12_goesTurn_15 (fun H locs hH hS => ?_)
      refine lv_iconst (v := 0) hx hb dX12_goesTurn_18 (by decide) ?_
      have J21 : ∀ (n : Nat) (p21_4 : Int32) (H : Heap) (locs : List Loc) (ls : Array Slot), (5 - p21_4.toInt).toNat = n → (0 ≤ p21_4.toInt) → (p21_4.toInt ≤ 5) → HT D cs A T O X H → va_S A s.heap H locs → lv_has ls 7 [(4, .int p21_4), (0, .ref a0), (1, .int x1)] → W p l e { frames := 0, cells := 0, slots := 0, locals := 0 } s m [.ref a0, .int x1, .int x2, .int x3].toArray below meth c H locs 0 0 (MQ below (Tv D cs (fun u => u = (T, O, X)) A) [.ref a0, .int x1, .int x2, .int x3].toArray s 0 0 A) (F0 m 21 ls []) := by
        intro n
        induction n using Nat.strongRecOn with
        | _ n ih21 =>
          intro p21_4 H locs ls hm21 l_p21_4 u_p21_4 hH hS hl
          refine lv_iload hx hb dX12_goesTurn_21 (lv_at hl 0 rfl) ?_
          refine lv_iload_n hx hb dX12_goesTurn_23 rfl (lv_at hl 2 rfl) ?_
          refine lv_icmp_ge (tgt := 47) hx hb dX12_goesTurn_24 (by decide) (fun c24 => ?_) (fun c24 => ?_)
          · skip
            have fuc24 := full_i p21_4
            have fvc24 := full_i x1
            have tc24 := g_le c24
            exact te_v hx hb hr hlocks hH hS (rfl) dX12_goesTurn_47
          · skip
            have fuc24 := full_i p21_4
            have fvc24 := full_i x1
            have tc24 := g_nle c24
            refine lv_aload_n hx hb dX12_goesTurn_27 rfl (lv_at hl 1 rfl) ?_
            refine t_get (ci := 12) (lst := ft12 hg mq) (C := RX12) (F := TX12) (N := 36) hx hb hts uX12 hown hkb hH t_a0 (hO.no t_a0 (by decide)) (fun _ h9 => h9) rfl rfl 30 (by decide) rfl kw_1253 (fun _ h9 => h9) dX12_goesTurn_28 (fun v9 h9 => ?_)
            obtain ⟨v28, rfl, t_v28⟩ := h9
            refine lv_iload hx hb dX12_goesTurn_31 (lv_at hl 0 rfl) ?_
            refine lv_aload_n hx hb dX12_goesTurn_33 rfl (lv_at hl 1 rfl) ?_
            refine t_get (ci := 12) (lst := ft12 hg mq) (C := RX12) (F := TX12) (N := 36) hx hb hts uX12 hown hkb hH t_a0 (hO.no t_a0 (by decide)) (fun _ h9 => h9) rfl rfl 29 (by decide) rfl kw_1252 (fun _ h9 => h9) dX12_goesTurn_34 (fun v9 h9 => ?_)
            obtain ⟨v34, rfl, t_v34⟩ := h9
            refine lv_iload hx hb dX12_goesTurn_37 (lv_at hl 0 rfl) ?_
            refine t_ild hx hb hkb hH t_v34 (hO.no t_v34 (by decide)) (by omega) (by omega) dX12_goesTurn_39 (fun v39 h9 => ?_)
            refine t_ist hx hb hkb hH hS t_v28 (hO.no t_v28 (by decide)) (by omega) (by omega) (cp_0 _) dX12_goesTurn_40 (fun H locs hH hS => ?_)
            obtain ⟨v41, ev41⟩ : ∃ y : Int32, y = p21_4 + 1 := ⟨_, rfl⟩
            have tv41 : v41.toInt = p21_4.toInt + (1) := by rw [ev41]; exact add_i rfl (by decide) (by omega) (by omega)
            refine lv_iinc (v := v41) (lv' := [(4, .int v41), (0, .ref a0), (1, .int x1)]) hx hb dX12_goesTurn_41 hl (k := 0) rfl (by rw [ev41]; rfl) (by decide) rfl (fun ls hl => ?_)
            refine lv_goto (tgt := 21) hx hb dX12_goesTurn_44 (by decide) ?_
            exact ih21 _ (by omega) v41 _ _ _ rfl (by omega) (by omega) hH hS (lv_sub hl [0, 1, 2] rfl)
      refine lv_istore (lv' := [(4, .int 0), (0, .ref a0), (1, .int x1), (2, .int x2), (3, .int x3)]) hx hb dX12_goesTurn_19 hl (by decide) rfl (fun ls hl => ?_)
      exact J21 _ 0 _ _ _ rfl (by decide) (by decide) hH hS (lv_sub hl [0, 1, 2] rfl)
    · skip
      have fuc9 := full_i x3
      have fvc9 := full_i v6
      have tc9 := g_nlt c9
      exact te_v hx hb hr hlocks hH hS (rfl) dX12_goesTurn_12
set_option maxHeartbeats 4000000 in
set_option maxRecDepth 100000 in
theorem s_M_goesTurn4 (l : Launch) (D : va_G) (cs : CS) (kf : KF) (T : TF) (O : List Nat) (X : va_W) (a0 hg mq : Nat) (x1 : Int32) (x2 : Int32) (x3 : Int32) (t_a0 : T a0 = some (22, hg, mq)) (b_hg : hg < 90) (l_x1 : 4 ≤ x1.toInt) (u_x1 : x1.toInt ≤ 4) (l_x2 : 0 ≤ x2.toInt) (u_x2 : x2.toInt ≤ 31) (hp : pcn 5 x2.toInt.toNat ≤ 1) (hO : okO T O [1, 8, 9, 22]) : TK l D cs kf yX12_goesTurn cX12_goesTurn 7 none { frames := 6, cells := 0, slots := 0, locals := 140 } [.ref a0, .int x1, .int x2, .int x3] T O X (Tv D cs (fun u => u = (T, O, X))) := by
  refine tk_of (by decide) (Nat.le_of_ble_eq_true rfl) (fun p e s m below meth c ls A H locs hx hb hr hml hown hts hlocks hnm hkb hH hS hA hOX hks hE hl => ?_)
  have hown : s.vm.findClass RX12 = some m.cls := hown
  have hl : lv_has ls 7 [(0, .ref a0), (1, .int x1), (2, .int x2), (3, .int x3)] := hl
  refine lv_iload_n hx hb dX12_goesTurn_0 rfl (lv_at hl 2 rfl) ?_
  refine lv_if_ne (tgt := 48) hx hb dX12_goesTurn_1 (by decide) (fun c1 => ?_) (fun c1 => ?_)
  · skip
    have tc1 := f_ne (k := 0) (by decide) c1
    refine lv_iconst (v := 0) hx hb dX12_goesTurn_48 (by decide) ?_
    have J51 : ∀ (n : Nat) (p51_4 : Int32) (H : Heap) (locs : List Loc) (ls : Array Slot), (31 - p51_4.toInt).toNat = n → (0 ≤ p51_4.toInt) → (p51_4.toInt ≤ 31) → HT D cs A T O X H → va_S A s.heap H locs → lv_has ls 7 [(4, .int p51_4), (0, .ref a0), (1, .int x1), (2, .int x2), (3, .int x3)] → W p l e { frames := 6, cells := 0, slots := 0, locals := 140 } s m [.ref a0, .int x1, .int x2, .int x3].toArray below meth c H locs 0 0 (MQ below (Tv D cs (fun u => u = (T, O, X)) A) [.ref a0, .int x1, .int x2, .int x3].toArray s 0 0 A) (F0 m 51 ls []) := by
      intro n
      induction n using Nat.strongRecOn with
      | _ n ih51 =>
        intro p51_4 H locs ls hm51 l_p51_4 u_p51_4 hH hS hl
        refine lv_iload hx hb dX12_goesTurn_51 (lv_at hl 0 rfl) ?_
        refine lv_bipush (v := 31) hx hb dX12_goesTurn_53 (by decide) ?_
        refine lv_icmp_ge (tgt := 86) hx hb dX12_goesTurn_55 (by decide) (fun c55 => ?_) (fun c55 => ?_)
        · skip
          have tc55 := f_ge (k := 31) (by decide) c55
          refine lv_iconst (v := 0) hx hb dX12_goesTurn_86 (by decide) ?_
          have J89 : ∀ (n : Nat) (p89_4 : Int32) (H : Heap) (locs : List Loc) (ls : Array Slot), (5 - p89_4.toInt).toNat = n → (0 ≤ p89_4.toInt) → (p89_4.toInt ≤ 5) → HT D cs A T O X H → va_S A s.heap H locs → lv_has ls 7 [(4, .int p89_4), (0, .ref a0), (1, .int x1), (2, .int x2), (3, .int x3)] → W p l e { frames := 6, cells := 0, slots := 0, locals := 140 } s m [.ref a0, .int x1, .int x2, .int x3].toArray below meth c H locs 0 0 (MQ below (Tv D cs (fun u => u = (T, O, X)) A) [.ref a0, .int x1, .int x2, .int x3].toArray s 0 0 A) (F0 m 89 ls []) := by
            intro n
            induction n using Nat.strongRecOn with
            | _ n ih89 =>
              intro p89_4 H locs ls hm89 l_p89_4 u_p89_4 hH hS hl
              refine lv_iload hx hb dX12_goesTurn_89 (lv_at hl 0 rfl) ?_
              refine lv_aload_n hx hb dX12_goesTurn_91 rfl (lv_at hl 1 rfl) ?_
              refine t_get (ci := 12) (lst := ft12 hg mq) (C := RX12) (F := TX12) (N := 36) hx hb hts uX12 hown hkb hH t_a0 (hO.no t_a0 (by decide)) (fun _ h9 => h9) rfl rfl 1 (by decide) rfl kw_1224 (fun _ h9 => h9) dX12_goesTurn_92 (fun v9 h9 => ?_)
              obtain ⟨v92, rfl, t_v92⟩ := h9
              refine lv_iconst (v := 2) hx hb dX12_goesTurn_95 (by decide) ?_
              refine t_ild8 hx hb hkb hH t_v92 (hO.no t_v92 (by decide)) (by decide) (by decide) (by decide) dX12_goesTurn_96 (fun v96 h9 h8 => ?_)
              have q9 := (h8 rfl).2 rfl
              subst q9
              have eG9 : (nI (hg % 6)).toInt = (((hg % 6) : Nat) : Int) := nI_toInt (by omega)
              refine lv_icmp_ge (tgt := 212) hx hb dX12_goesTurn_97 (by decide) (fun c97 => ?_) (fun c97 => ?_)
              · skip
                have fuc97 := full_i p89_4
                have fvc97 := full_i (nI (hg % 6))
                have tc97 := g_le c97
                exact te_v hx hb hr hlocks hH hS (rfl) dX12_goesTurn_212
              · skip
                have fuc97 := full_i p89_4
                have fvc97 := full_i (nI (hg % 6))
                have tc97 := g_nle c97
                refine lv_iload_n hx hb dX12_goesTurn_100 rfl (lv_at hl 3 rfl) ?_
                refine lv_i2l hx hb dX12_goesTurn_101 rfl ?_
                refine lv_iload hx hb dX12_goesTurn_102 (lv_at hl 0 rfl) ?_
                refine tk_i hH hS hA (tr_S (n := 2) (As := [.long x2.toInt64, .int p89_4]) hx hb hml hown hts hkb hH hOX hks hE hS hA (s_M_isIn2 l D cs kf T O X x2.toInt64 p89_4  (hO.sub (by decide))) kw_1440 kw_1441 kw_13 kw_1442 (by decide +kernel) ⟨Nat.le_of_ble_eq_true rfl, Nat.le_of_ble_eq_true rfl⟩ rfl rfl hl.1 (Nat.le_of_ble_eq_true rfl) dX12_goesTurn_104 ⟨Nat.le_of_ble_eq_true rfl, Nat.le_of_ble_eq_true rfl⟩) (fun v104 u H locs hz9 hH hS => ?_)
                obtain ⟨rfl, l_v104, u_v104, x_v1040⟩ := hz9
                have hH : HT D cs A T O X H := hH
                refine W.widen (k := 0) (n := 0) (Nat.le_of_ble_eq_true rfl) (Nat.le_of_ble_eq_true rfl) ?_
                have J206 : ∀  (H : Heap) (locs : List Loc) (ls : Array Slot), HT D cs A T O X H → va_S A s.heap H locs → lv_has ls 7 [(4, .int p89_4), (0, .ref a0), (1, .int x1), (2, .int x2), (3, .int x3)] → W p l e { frames := 6, cells := 0, slots := 0, locals := 140 } s m [.ref a0, .int x1, .int x2, .int x3].toArray below meth c H locs 0 0 (MQ below (Tv D cs (fun u => u = (T, O, X)) A) [.ref a0, .int x1, .int x2, .int x3].toArray s 0 0 A) (F0 m 206 ls []) := by
                  intro  H locs ls  hH hS hl
                  obtain ⟨v206, ev206⟩ : ∃ y : Int32, y = p89_4 + 1 := ⟨_, rfl⟩
                  have tv206 : v206.toInt = p89_4.toInt + (1) := by rw [ev206]; exact add_i rfl (by decide) (by omega) (by omega)
                  refine lv_iinc (v := v206) (lv' := [(4, .int v206), (0, .ref a0), (1, .int x1), (2, .int x2), (3, .int x3)]) hx hb dX12_goesTurn_206 hl (k := 0) rfl (by rw [ev206]; rfl) (by decide) rfl (fun ls hl => ?_)
                  refine lv_goto (tgt := 89) hx hb dX12_goesTurn_209 (by decide) ?_
                  exact ih89 _ (by omega) v206 _ _ _ rfl (by omega) (by omega) hH hS (lv_sub hl [0, 1, 2, 3, 4] rfl)
                refine lv_if_ne (tgt := 113) hx hb dX12_goesTurn_107 (by decide) (fun c107 => ?_) (fun c107 => ?_)
                · skip
                  have tc107 := f_ne (k := 0) (by decide) c107
                  refine lv_aload_n hx hb dX12_goesTurn_113 rfl (lv_at hl 1 rfl) ?_
                  refine t_get (ci := 12) (lst := ft12 hg mq) (C := RX12) (F := TX12) (N := 36) hx hb hts uX12 hown hkb hH t_a0 (hO.no t_a0 (by decide)) (fun _ h9 => h9) rfl rfl 29 (by decide) rfl kw_1252 (fun _ h9 => h9) dX12_goesTurn_114 (fun v9 h9 => ?_)
                  obtain ⟨v114, rfl, t_v114⟩ := h9
                  refine lv_iload_n hx hb dX12_goesTurn_117 rfl (lv_at hl 2 rfl) ?_
                  refine lv_iload hx hb dX12_goesTurn_118 (lv_at hl 0 rfl) ?_
                  refine t_ist hx hb hkb hH hS t_v114 (hO.no t_v114 (by decide)) (by omega) (by omega) (cp_0 _) dX12_goesTurn_120 (fun H locs hH hS => ?_)
                  refine lv_aload_n hx hb dX12_goesTurn_121 rfl (lv_at hl 1 rfl) ?_
                  refine lv_iload hx hb dX12_goesTurn_122 (lv_at hl 0 rfl) ?_
                  refine tk_i hH hS hA (tr_V (n := 1) (As := [.int p89_4]) hx hb hml hown hts hkb hH hOX hks hE hS hA (s_M_laysWayOf l D cs kf T O X a0 hg mq p89_4 t_a0 b_hg (by omega) (by omega) (hO.sub (by decide))) kw_1560 kw_1562 ks_82 kw_13 kw_1563 (by decide +kernel) ⟨Nat.le_of_ble_eq_true rfl, Nat.le_of_ble_eq_true rfl⟩ (HT.recv (ci := 12) hkb hH t_a0 (hO.no t_a0 (by decide)) rfl) rfl rfl hl.1 (Nat.le_of_ble_eq_true rfl) dX12_goesTurn_124 ⟨Nat.le_of_ble_eq_true rfl, Nat.le_of_ble_eq_true rfl⟩) (fun v124 u H locs hz9 hH hS => ?_)
                  obtain ⟨rfl, l_v124, u_v124⟩ := hz9
                  have hH : HT D cs A T O X H := hH
                  refine W.widen (k := 0) (n := 0) (Nat.le_of_ble_eq_true rfl) (Nat.le_of_ble_eq_true rfl) ?_
                  refine lv_istore (lv' := [(5, .int v124), (4, .int p89_4), (0, .ref a0), (1, .int x1), (2, .int x2), (3, .int x3)]) hx hb dX12_goesTurn_127 hl (by decide) rfl (fun ls hl => ?_)
                  refine lv_iload hx hb dX12_goesTurn_129 (lv_at hl 0 rfl) ?_
                  have J141 : ∀  (H : Heap) (locs : List Loc) (ls : Array Slot), HT D cs A T O X H → va_S A s.heap H locs → lv_has ls 7 [(5, .int v124), (4, .int p89_4), (0, .ref a0), (1, .int x1), (2, .int x2), (3, .int x3)] → W p l e { frames := 6, cells := 0, slots := 0, locals := 140 } s m [.ref a0, .int x1, .int x2, .int x3].toArray below meth c H locs 0 0 (MQ below (Tv D cs (fun u => u = (T, O, X)) A) [.ref a0, .int x1, .int x2, .int x3].toArray s 0 0 A) (F0 m 141 ls []) := by
                    intro  H locs ls  hH hS hl
                    refine lv_aload_n hx hb dX12_goesTurn_141 rfl (lv_at hl 2 rfl) ?_
                    refine lv_iload_n hx hb dX12_goesTurn_142 rfl (lv_at hl 3 rfl) ?_
                    refine lv_iconst (v := 1) hx hb dX12_goesTurn_143 (by decide) ?_
                    refine lv_iadd hx hb dX12_goesTurn_144 ?_
                    refine lv_topi (fun v144 ev144 => ?_)
                    have tv144 : v144.toInt = x1.toInt + (1) := by rw [ev144]; exact add_i rfl (by decide : (1 : Int32).toInt = 1) (by omega) (by omega)
                    refine lv_iload_n hx hb dX12_goesTurn_145 rfl (lv_at hl 4 rfl) ?_
                    refine lv_iconst (v := 1) hx hb dX12_goesTurn_146 (by decide) ?_
                    refine lv_iload hx hb dX12_goesTurn_147 (lv_at hl 1 rfl) ?_
                    refine lv_ishl hx hb dX12_goesTurn_149 ?_
                    refine lv_topi (fun v149 ev149 => ?_)
                    have tv149 : 1 ≤ v149.toInt ∧ v149.toInt ≤ 16 := by rw [ev149]; exact shl_b 4 (by decide) (by omega) (by omega)
                    refine lv_iconst (v := (-1)) hx hb dX12_goesTurn_150 (by decide) ?_
                    refine lv_ixor hx hb dX12_goesTurn_151 ?_
                    refine lv_topi (fun v151 ev151 => ?_)
                    refine lv_iand hx hb dX12_goesTurn_152 ?_
                    refine lv_topi (fun v152 ev152 => ?_)
                    have tv152 : 0 ≤ v152.toInt ∧ v152.toInt ≤ x2.toInt := by rw [ev152]; exact and_l (by omega)
                    have hp9 := gt_step (by omega) (by omega) (by omega) (by omega) (inF_nz x_v1040 tc107) ev149 ev151 ev152
                    have hp8 := pcn5_0 v152.toInt.toNat (by omega) (by omega)
                    refine lv_iload_n hx hb dX12_goesTurn_153 rfl (lv_at hl 5 rfl) ?_
                    refine lv_iload hx hb dX12_goesTurn_154 (lv_at hl 0 rfl) ?_
                    have J164 : ∀ (k164_0 : Int32) (H : Heap) (locs : List Loc) (ls : Array Slot), (0 ≤ k164_0.toInt) → (k164_0.toInt ≤ 1) → HT D cs A T O X H → va_S A s.heap H locs → lv_has ls 7 [(4, .int p89_4), (0, .ref a0), (1, .int x1), (2, .int x2), (3, .int x3)] → W p l e { frames := 6, cells := 0, slots := 0, locals := 140 } s m [.ref a0, .int x1, .int x2, .int x3].toArray below meth c H locs 0 0 (MQ below (Tv D cs (fun u => u = (T, O, X)) A) [.ref a0, .int x1, .int x2, .int x3].toArray s 0 0 A) (F0 m 164 ls [.int k164_0, .int x3, .int v152, .int v144, .ref a0]) := by
                      intro k164_0 H locs ls l_k164_0 u_k164_0 hH hS hl
                      refine lv_iadd hx hb dX12_goesTurn_164 ?_
                      refine lv_topi (fun v164 ev164 => ?_)
                      refine tk_v hH hS hA (tr_V (n := 3) (As := [.int v144, .int v152, .int v164]) hx hb hml hown hts hkb hH hOX hks hE hS hA (s_M_goesTurn5 l D cs kf T O X a0 hg mq v144 v152 v164 t_a0 b_hg (by omega) (by omega) (by omega) (by omega) (by omega) (hO.sub (by decide))) kw_1756 kw_1758 ks_103 kw_13 kw_1759 (by decide +kernel) ⟨Nat.le_of_ble_eq_true rfl, Nat.le_of_ble_eq_true rfl⟩ (HT.recv (ci := 12) hkb hH t_a0 (hO.no t_a0 (by decide)) rfl) rfl rfl hl.1 (Nat.le_of_ble_eq_true rfl) dX12_goesTurn_165 ⟨Nat.le_of_ble_eq_true rfl, Nat.le_of_ble_eq_true rfl⟩) (fun u H locs hz9 hH hS => ?_)
                      obtain ⟨rfl⟩ := hz9
                      have hH : HT D cs A T O X H := hH
                      refine W.widen (k := 0) (n := 0) (Nat.le_of_ble_eq_true rfl) (Nat.le_of_ble_eq_true rfl) ?_
                      refine lv_iconst (v := 0) hx hb dX12_goesTurn_168 (by decide) ?_
                      have J171 : ∀ (n : Nat) (p171_6 : Int32) (H : Heap) (locs : List Loc) (ls : Array Slot), (31 - p171_6.toInt).toNat = n → (0 ≤ p171_6.toInt) → (p171_6.toInt ≤ 31) → HT D cs A T O X H → va_S A s.heap H locs → lv_has ls 7 [(6, .int p171_6), (4, .int p89_4), (0, .ref a0), (1, .int x1), (2, .int x2), (3, .int x3)] → W p l e { frames := 6, cells := 0, slots := 0, locals := 140 } s m [.ref a0, .int x1, .int x2, .int x3].toArray below meth c H locs 0 0 (MQ below (Tv D cs (fun u => u = (T, O, X)) A) [.ref a0, .int x1, .int x2, .int x3].toArray s 0 0 A) (F0 m 171 ls []) := by
                        intro n
                        induction n using Nat.strongRecOn with
                        | _ n ih171 =>
                          intro p171_6 H locs ls hm171 l_p171_6 u_p171_6 hH hS hl
                          refine lv_iload hx hb dX12_goesTurn_171 (lv_at hl 0 rfl) ?_
                          refine lv_bipush (v := 31) hx hb dX12_goesTurn_173 (by decide) ?_
                          refine lv_icmp_ge (tgt := 206) hx hb dX12_goesTurn_175 (by decide) (fun c175 => ?_) (fun c175 => ?_)
                          · skip
                            have tc175 := f_ge (k := 31) (by decide) c175
                            exact J206  _ _ _  hH hS (lv_sub hl [1, 2, 3, 4, 5] rfl)
                          · skip
                            have tc175 := f_nge (k := 31) (by decide) c175
                            refine lv_aload_n hx hb dX12_goesTurn_178 rfl (lv_at hl 2 rfl) ?_
                            refine t_get (ci := 12) (lst := ft12 hg mq) (C := RX12) (F := TX12) (N := 36) hx hb hts uX12 hown hkb hH t_a0 (hO.no t_a0 (by decide)) (fun _ h9 => h9) rfl rfl 1 (by decide) rfl kw_1224 (fun _ h9 => h9) dX12_goesTurn_179 (fun v9 h9 => ?_)
                            obtain ⟨v179, rfl, t_v179⟩ := h9
                            refine lv_bipush (v := 59) hx hb dX12_goesTurn_182 (by decide) ?_
                            refine lv_iload hx hb dX12_goesTurn_184 (lv_at hl 0 rfl) ?_
                            refine lv_iadd hx hb dX12_goesTurn_186 ?_
                            refine lv_topi (fun v186 ev186 => ?_)
                            have tv186 : v186.toInt = (59) + p171_6.toInt := by rw [ev186]; exact add_i (by decide : (59 : Int32).toInt = 59) rfl (by omega) (by omega)
                            refine lv_aload_n hx hb dX12_goesTurn_187 rfl (lv_at hl 2 rfl) ?_
                            refine t_get (ci := 12) (lst := ft12 hg mq) (C := RX12) (F := TX12) (N := 36) hx hb hts uX12 hown hkb hH t_a0 (hO.no t_a0 (by decide)) (fun _ h9 => h9) rfl rfl 31 (by decide) rfl kw_1254 (fun _ h9 => h9) dX12_goesTurn_188 (fun v9 h9 => ?_)
                            obtain ⟨v188, rfl, t_v188⟩ := h9
                            refine lv_bipush (v := 31) hx hb dX12_goesTurn_191 (by decide) ?_
                            refine lv_iload_n hx hb dX12_goesTurn_193 rfl (lv_at hl 3 rfl) ?_
                            refine lv_imul hx hb dX12_goesTurn_194 ?_
                            refine lv_topi (fun v194 ev194 => ?_)
                            have tv194 : v194.toInt = (31) * x1.toInt := by rw [ev194]; exact mul_i (by decide : (31 : Int32).toInt = 31) rfl (by omega) (by omega)
                            refine lv_iload hx hb dX12_goesTurn_195 (lv_at hl 0 rfl) ?_
                            refine lv_iadd hx hb dX12_goesTurn_197 ?_
                            refine lv_topi (fun v197 ev197 => ?_)
                            have tv197 : v197.toInt = v194.toInt + p171_6.toInt := by rw [ev197]; exact add_i rfl rfl (by omega) (by omega)
                            refine t_ild hx hb hkb hH t_v188 (hO.no t_v188 (by decide)) (by omega) (by omega) dX12_goesTurn_198 (fun v198 h9 => ?_)
                            refine t_ist8 hx hb hkb hH hS t_v179 (hO.no t_v179 (by decide)) (by decide) (by omega) (by omega) (by omega) (by omega) (p8_far (by omega) (by omega)) dX12_goesTurn_199 (fun H locs hH hS => ?_)
                            obtain ⟨v200, ev200⟩ : ∃ y : Int32, y = p171_6 + 1 := ⟨_, rfl⟩
                            have tv200 : v200.toInt = p171_6.toInt + (1) := by rw [ev200]; exact add_i rfl (by decide) (by omega) (by omega)
                            refine lv_iinc (v := v200) (lv' := [(6, .int v200), (4, .int p89_4), (0, .ref a0), (1, .int x1), (2, .int x2), (3, .int x3)]) hx hb dX12_goesTurn_200 hl (k := 0) rfl (by rw [ev200]; rfl) (by decide) rfl (fun ls hl => ?_)
                            refine lv_goto (tgt := 171) hx hb dX12_goesTurn_203 (by decide) ?_
                            exact ih171 _ (by omega) v200 _ _ _ rfl (by omega) (by omega) hH hS (lv_sub hl [0, 1, 2, 3, 4, 5] rfl)
                      refine lv_istore (lv' := [(6, .int 0), (4, .int p89_4), (0, .ref a0), (1, .int x1), (2, .int x2), (3, .int x3)]) hx hb dX12_goesTurn_169 hl (by decide) rfl (fun ls hl => ?_)
                      exact J171 _ 0 _ _ _ rfl (by decide) (by decide) hH hS (lv_sub hl [0, 1, 2, 3, 4, 5] rfl)
                    refine lv_if_eq (tgt := 163) hx hb dX12_goesTurn_156 (by decide) (fun c156 => ?_) (fun c156 => ?_)
                    · skip
                      have tc156 := f_eq (k := 0) (by decide) c156
                      refine lv_iconst (v := 0) hx hb dX12_goesTurn_163 (by decide) ?_
                      exact J164 0 _ _ _ (by decide) (by decide) hH hS (lv_sub hl [1, 2, 3, 4, 5] rfl)
                    · skip
                      have tc156 := f_ne (k := 0) (by decide) c156
                      refine lv_iconst (v := 1) hx hb dX12_goesTurn_159 (by decide) ?_
                      refine lv_goto (tgt := 164) hx hb dX12_goesTurn_160 (by decide) ?_
                      exact J164 1 _ _ _ (by decide) (by decide) hH hS (lv_sub hl [1, 2, 3, 4, 5] rfl)
                  refine lv_if_eq (tgt := 141) hx hb dX12_goesTurn_131 (by decide) (fun c131 => ?_) (fun c131 => ?_)
                  · skip
                    have tc131 := f_eq (k := 0) (by decide) c131
                    exact J141  _ _ _  hH hS (lv_sub hl [0, 1, 2, 3, 4, 5] rfl)
                  · skip
                    have tc131 := f_ne (k := 0) (by decide) c131
                    refine lv_aload_n hx hb dX12_goesTurn_134 rfl (lv_at hl 2 rfl) ?_
                    refine lv_iload hx hb dX12_goesTurn_135 (lv_at hl 1 rfl) ?_
                    refine tk_i hH hS hA (tr_V (n := 1) (As := [.int p89_4]) hx hb hml hown hts hkb hH hOX hks hE hS hA (s_M_usesRow l D cs kf T O X a0 hg mq p89_4 t_a0 b_hg (hO.sub (by decide))) kw_1548 kw_1550 ks_80 kw_13 kw_1551 (by decide +kernel) ⟨Nat.le_of_ble_eq_true rfl, Nat.le_of_ble_eq_true rfl⟩ (HT.recv (ci := 12) hkb hH t_a0 (hO.no t_a0 (by decide)) rfl) rfl rfl hl.1 (Nat.le_of_ble_eq_true rfl) dX12_goesTurn_137 ⟨Nat.le_of_ble_eq_true rfl, Nat.le_of_ble_eq_true rfl⟩) (fun v137 u H locs hz9 hH hS => ?_)
                    have hz9 : u = (T, O, X) := hz9
                    subst hz9
                    have hH : HT D cs A T O X H := hH
                    refine W.widen (k := 0) (n := 0) (Nat.le_of_ble_eq_true rfl) (Nat.le_of_ble_eq_true rfl) ?_
                    refine lv_pop hx hb dX12_goesTurn_140 rfl ?_
                    exact J141  _ _ _  hH hS (lv_sub hl [0, 1, 2, 3, 4, 5] rfl)
                · skip
                  have tc107 := f_eq (k := 0) (by decide) c107
                  refine lv_goto (tgt := 206) hx hb dX12_goesTurn_110 (by decide) ?_
                  exact J206  _ _ _  hH hS (lv_sub hl [0, 1, 2, 3, 4] rfl)
          refine lv_istore (lv' := [(4, .int 0), (0, .ref a0), (1, .int x1), (2, .int x2), (3, .int x3)]) hx hb dX12_goesTurn_87 hl (by decide) rfl (fun ls hl => ?_)
          exact J89 _ 0 _ _ _ rfl (by decide) (by decide) hH hS (lv_sub hl [0, 1, 2, 3, 4] rfl)
        · skip
          have tc55 := f_nge (k := 31) (by decide) c55
          refine lv_aload_n hx hb dX12_goesTurn_58 rfl (lv_at hl 1 rfl) ?_
          refine t_get (ci := 12) (lst := ft12 hg mq) (C := RX12) (F := TX12) (N := 36) hx hb hts uX12 hown hkb hH t_a0 (hO.no t_a0 (by decide)) (fun _ h9 => h9) rfl rfl 31 (by decide) rfl kw_1254 (fun _ h9 => h9) dX12_goesTurn_59 (fun v9 h9 => ?_)
          obtain ⟨v59, rfl, t_v59⟩ := h9
          refine lv_bipush (v := 31) hx hb dX12_goesTurn_62 (by decide) ?_
          refine lv_iload_n hx hb dX12_goesTurn_64 rfl (lv_at hl 2 rfl) ?_
          refine lv_imul hx hb dX12_goesTurn_65 ?_
          refine lv_topi (fun v65 ev65 => ?_)
          have tv65 : v65.toInt = (31) * x1.toInt := by rw [ev65]; exact mul_i (by decide : (31 : Int32).toInt = 31) rfl (by omega) (by omega)
          refine lv_iload hx hb dX12_goesTurn_66 (lv_at hl 0 rfl) ?_
          refine lv_iadd hx hb dX12_goesTurn_68 ?_
          refine lv_topi (fun v68 ev68 => ?_)
          have tv68 : v68.toInt = v65.toInt + p51_4.toInt := by rw [ev68]; exact add_i rfl rfl (by omega) (by omega)
          refine lv_aload_n hx hb dX12_goesTurn_69 rfl (lv_at hl 1 rfl) ?_
          refine t_get (ci := 12) (lst := ft12 hg mq) (C := RX12) (F := TX12) (N := 36) hx hb hts uX12 hown hkb hH t_a0 (hO.no t_a0 (by decide)) (fun _ h9 => h9) rfl rfl 1 (by decide) rfl kw_1224 (fun _ h9 => h9) dX12_goesTurn_70 (fun v9 h9 => ?_)
          obtain ⟨v70, rfl, t_v70⟩ := h9
          refine lv_bipush (v := 59) hx hb dX12_goesTurn_73 (by decide) ?_
          refine lv_iload hx hb dX12_goesTurn_75 (lv_at hl 0 rfl) ?_
          refine lv_iadd hx hb dX12_goesTurn_77 ?_
          refine lv_topi (fun v77 ev77 => ?_)
          have tv77 : v77.toInt = (59) + p51_4.toInt := by rw [ev77]; exact add_i (by decide : (59 : Int32).toInt = 59) rfl (by omega) (by omega)
          refine t_ild8 hx hb hkb hH t_v70 (hO.no t_v70 (by decide)) (by decide) (by omega) (by omega) dX12_goesTurn_78 (fun v78 h9 h8 => ?_)
          refine t_ist hx hb hkb hH hS t_v59 (hO.no t_v59 (by decide)) (by omega) (by omega) (cp_0 _) dX12_goesTurn_79 (fun H locs hH hS => ?_)
          obtain ⟨v80, ev80⟩ : ∃ y : Int32, y = p51_4 + 1 := ⟨_, rfl⟩
          have tv80 : v80.toInt = p51_4.toInt + (1) := by rw [ev80]; exact add_i rfl (by decide) (by omega) (by omega)
          refine lv_iinc (v := v80) (lv' := [(4, .int v80), (0, .ref a0), (1, .int x1), (2, .int x2), (3, .int x3)]) hx hb dX12_goesTurn_80 hl (k := 0) rfl (by rw [ev80]; rfl) (by decide) rfl (fun ls hl => ?_)
          refine lv_goto (tgt := 51) hx hb dX12_goesTurn_83 (by decide) ?_
          exact ih51 _ (by omega) v80 _ _ _ rfl (by omega) (by omega) hH hS (lv_sub hl [0, 1, 2, 3, 4] rfl)
    refine lv_istore (lv' := [(4, .int 0), (0, .ref a0), (1, .int x1), (2, .int x2), (3, .int x3)]) hx hb dX12_goesTurn_49 hl (by decide) rfl (fun ls hl => ?_)
    exact J51 _ 0 _ _ _ rfl (by decide) (by decide) hH hS (lv_sub hl [0, 1, 2, 3, 4] rfl)
  · skip
    have tc1 := f_eq (k := 0) (by decide) c1
    refine lv_iload_n hx hb dX12_goesTurn_4 rfl (lv_at hl 3 rfl) ?_
    refine lv_aload_n hx hb dX12_goesTurn_5 rfl (lv_at hl 0 rfl) ?_
    refine t_get (ci := 12) (lst := ft12 hg mq) (C := RX12) (F := TX12) (N := 36) hx hb hts uX12 hown hkb hH t_a0 (hO.no t_a0 (by decide)) (fun _ h9 => h9) rfl rfl 32 (by decide) rfl kw_1255 (fun _ h9 => h9) dX12_goesTurn_6 (fun v9 h9 => ?_)
    obtain ⟨v6, rfl⟩ := h9
    refine lv_icmp_gt (tgt := 13) hx hb dX12_goesTurn_9 (by decide) (fun c9 => ?_) (fun c9 => ?_)
    · skip
      have fuc9 := full_i x3
      have fvc9 := full_i v6
      have tc9 := g_lt c9
      refine lv_aload_n hx hb dX12_goesTurn_13 rfl (lv_at hl 0 rfl) ?_
      refine lv_iload_n hx hb dX12_goesTurn_14 rfl (lv_at hl 3 rfl) ?_
      refine t_put (ci := 12) (lst := ft12 hg mq) (v := .int x3) (ty := tyX12 32) (C := RX12) (F := TX12) (N := 36) hx hb hts uX12 tyX12 tyX12_ok nmX12 hown hkb hH hS t_a0 (hO.no t_a0 (by decide)) (fun _ => Iff.rfl) rfl rfl 32 (by decide) rfl (⟨_, rfl⟩) kw_1255 (fun _ h9 => h9) rfl (tyX12_ok 32 (by decide)) rfl rfl dX12_goesTurn_15 (fun H locs hH hS => ?_)
      refine lv_iconst (v := 0) hx hb dX12_goesTurn_18 (by decide) ?_
      have J21 : ∀ (n : Nat) (p21_4 : Int32) (H : Heap) (locs : List Loc) (ls : Array Slot), (5 - p21_4.toInt).toNat = n → (0 ≤ p21_4.toInt) → (p21_4.toInt ≤ 5) → HT D cs A T O X H → va_S A s.heap H locs → lv_has ls 7 [(4, .int p21_4), (0, .ref a0), (1, .int x1)] → W p l e { frames := 6, cells := 0, slots := 0, locals := 140 } s m [.ref a0, .int x1, .int x2, .int x3].toArray below meth c H locs 0 0 (MQ below (Tv D cs (fun u => u = (T, O, X)) A) [.ref a0, .int x1, .int x2, .int x3].toArray s 0 0 A) (F0 m 21 ls []) := by
        intro n
        induction n using Nat.strongRecOn with
        | _ n ih21 =>
          intro p21_4 H locs ls hm21 l_p21_4 u_p21_4 hH hS hl
          refine lv_iload hx hb dX12_goesTurn_21 (lv_at hl 0 rfl) ?_
          refine lv_iload_n hx hb dX12_goesTurn_23 rfl (lv_at hl 2 rfl) ?_
          refine lv_icmp_ge (tgt := 47) hx hb dX12_goesTurn_24 (by decide) (fun c24 => ?_) (fun c24 => ?_)
          · skip
            have fuc24 := full_i p21_4
            have fvc24 := full_i x1
            have tc24 := g_le c24
            exact te_v hx hb hr hlocks hH hS (rfl) dX12_goesTurn_47
          · skip
            have fuc24 := full_i p21_4
            have fvc24 := full_i x1
            have tc24 := g_nle c24
            refine lv_aload_n hx hb dX12_goesTurn_27 rfl (lv_at hl 1 rfl) ?_
            refine t_get (ci := 12) (lst := ft12 hg mq) (C := RX12) (F := TX12) (N := 36) hx hb hts uX12 hown hkb hH t_a0 (hO.no t_a0 (by decide)) (fun _ h9 => h9) rfl rfl 30 (by decide) rfl kw_1253 (fun _ h9 => h9) dX12_goesTurn_28 (fun v9 h9 => ?_)
            obtain ⟨v28, rfl, t_v28⟩ := h9
            refine lv_iload hx hb dX12_goesTurn_31 (lv_at hl 0 rfl) ?_
            refine lv_aload_n hx hb dX12_goesTurn_33 rfl (lv_at hl 1 rfl) ?_
            refine t_get (ci := 12) (lst := ft12 hg mq) (C := RX12) (F := TX12) (N := 36) hx hb hts uX12 hown hkb hH t_a0 (hO.no t_a0 (by decide)) (fun _ h9 => h9) rfl rfl 29 (by decide) rfl kw_1252 (fun _ h9 => h9) dX12_goesTurn_34 (fun v9 h9 => ?_)
            obtain ⟨v34, rfl, t_v34⟩ := h9
            refine lv_iload hx hb dX12_goesTurn_37 (lv_at hl 0 rfl) ?_
            refine t_ild hx hb hkb hH t_v34 (hO.no t_v34 (by decide)) (by omega) (by omega) dX12_goesTurn_39 (fun v39 h9 => ?_)
            refine t_ist hx hb hkb hH hS t_v28 (hO.no t_v28 (by decide)) (by omega) (by omega) (cp_0 _) dX12_goesTurn_40 (fun H locs hH hS => ?_)
            obtain ⟨v41, ev41⟩ : ∃ y : Int32, y = p21_4 + 1 := ⟨_, rfl⟩
            have tv41 : v41.toInt = p21_4.toInt + (1) := by rw [ev41]; exact add_i rfl (by decide) (by omega) (by omega)
            refine lv_iinc (v := v41) (lv' := [(4, .int v41), (0, .ref a0), (1, .int x1)]) hx hb dX12_goesTurn_41 hl (k := 0) rfl (by rw [ev41]; rfl) (by decide) rfl (fun ls hl => ?_)
            refine lv_goto (tgt := 21) hx hb dX12_goesTurn_44 (by decide) ?_
            exact ih21 _ (by omega) v41 _ _ _ rfl (by omega) (by omega) hH hS (lv_sub hl [0, 1, 2] rfl)
      refine lv_istore (lv' := [(4, .int 0), (0, .ref a0), (1, .int x1), (2, .int x2), (3, .int x3)]) hx hb dX12_goesTurn_19 hl (by decide) rfl (fun ls hl => ?_)
      exact J21 _ 0 _ _ _ rfl (by decide) (by decide) hH hS (lv_sub hl [0, 1, 2] rfl)
    · skip
      have fuc9 := full_i x3
      have fvc9 := full_i v6
      have tc9 := g_nlt c9
      exact te_v hx hb hr hlocks hH hS (rfl) dX12_goesTurn_12
set_option maxHeartbeats 4000000 in
set_option maxRecDepth 100000 in
theorem s_M_goesTurn3 (l : Launch) (D : va_G) (cs : CS) (kf : KF) (T : TF) (O : List Nat) (X : va_W) (a0 hg mq : Nat) (x1 : Int32) (x2 : Int32) (x3 : Int32) (t_a0 : T a0 = some (22, hg, mq)) (b_hg : hg < 90) (l_x1 : 3 ≤ x1.toInt) (u_x1 : x1.toInt ≤ 3) (l_x2 : 0 ≤ x2.toInt) (u_x2 : x2.toInt ≤ 31) (hp : pcn 5 x2.toInt.toNat ≤ 2) (hO : okO T O [1, 8, 9, 22]) : TK l D cs kf yX12_goesTurn cX12_goesTurn 7 none { frames := 7, cells := 0, slots := 0, locals := 166 } [.ref a0, .int x1, .int x2, .int x3] T O X (Tv D cs (fun u => u = (T, O, X))) := by
  refine tk_of (by decide) (Nat.le_of_ble_eq_true rfl) (fun p e s m below meth c ls A H locs hx hb hr hml hown hts hlocks hnm hkb hH hS hA hOX hks hE hl => ?_)
  have hown : s.vm.findClass RX12 = some m.cls := hown
  have hl : lv_has ls 7 [(0, .ref a0), (1, .int x1), (2, .int x2), (3, .int x3)] := hl
  refine lv_iload_n hx hb dX12_goesTurn_0 rfl (lv_at hl 2 rfl) ?_
  refine lv_if_ne (tgt := 48) hx hb dX12_goesTurn_1 (by decide) (fun c1 => ?_) (fun c1 => ?_)
  · skip
    have tc1 := f_ne (k := 0) (by decide) c1
    refine lv_iconst (v := 0) hx hb dX12_goesTurn_48 (by decide) ?_
    have J51 : ∀ (n : Nat) (p51_4 : Int32) (H : Heap) (locs : List Loc) (ls : Array Slot), (31 - p51_4.toInt).toNat = n → (0 ≤ p51_4.toInt) → (p51_4.toInt ≤ 31) → HT D cs A T O X H → va_S A s.heap H locs → lv_has ls 7 [(4, .int p51_4), (0, .ref a0), (1, .int x1), (2, .int x2), (3, .int x3)] → W p l e { frames := 7, cells := 0, slots := 0, locals := 166 } s m [.ref a0, .int x1, .int x2, .int x3].toArray below meth c H locs 0 0 (MQ below (Tv D cs (fun u => u = (T, O, X)) A) [.ref a0, .int x1, .int x2, .int x3].toArray s 0 0 A) (F0 m 51 ls []) := by
      intro n
      induction n using Nat.strongRecOn with
      | _ n ih51 =>
        intro p51_4 H locs ls hm51 l_p51_4 u_p51_4 hH hS hl
        refine lv_iload hx hb dX12_goesTurn_51 (lv_at hl 0 rfl) ?_
        refine lv_bipush (v := 31) hx hb dX12_goesTurn_53 (by decide) ?_
        refine lv_icmp_ge (tgt := 86) hx hb dX12_goesTurn_55 (by decide) (fun c55 => ?_) (fun c55 => ?_)
        · skip
          have tc55 := f_ge (k := 31) (by decide) c55
          refine lv_iconst (v := 0) hx hb dX12_goesTurn_86 (by decide) ?_
          have J89 : ∀ (n : Nat) (p89_4 : Int32) (H : Heap) (locs : List Loc) (ls : Array Slot), (5 - p89_4.toInt).toNat = n → (0 ≤ p89_4.toInt) → (p89_4.toInt ≤ 5) → HT D cs A T O X H → va_S A s.heap H locs → lv_has ls 7 [(4, .int p89_4), (0, .ref a0), (1, .int x1), (2, .int x2), (3, .int x3)] → W p l e { frames := 7, cells := 0, slots := 0, locals := 166 } s m [.ref a0, .int x1, .int x2, .int x3].toArray below meth c H locs 0 0 (MQ below (Tv D cs (fun u => u = (T, O, X)) A) [.ref a0, .int x1, .int x2, .int x3].toArray s 0 0 A) (F0 m 89 ls []) := by
            intro n
            induction n using Nat.strongRecOn with
            | _ n ih89 =>
              intro p89_4 H locs ls hm89 l_p89_4 u_p89_4 hH hS hl
              refine lv_iload hx hb dX12_goesTurn_89 (lv_at hl 0 rfl) ?_
              refine lv_aload_n hx hb dX12_goesTurn_91 rfl (lv_at hl 1 rfl) ?_
              refine t_get (ci := 12) (lst := ft12 hg mq) (C := RX12) (F := TX12) (N := 36) hx hb hts uX12 hown hkb hH t_a0 (hO.no t_a0 (by decide)) (fun _ h9 => h9) rfl rfl 1 (by decide) rfl kw_1224 (fun _ h9 => h9) dX12_goesTurn_92 (fun v9 h9 => ?_)
              obtain ⟨v92, rfl, t_v92⟩ := h9
              refine lv_iconst (v := 2) hx hb dX12_goesTurn_95 (by decide) ?_
              refine t_ild8 hx hb hkb hH t_v92 (hO.no t_v92 (by decide)) (by decide) (by decide) (by decide) dX12_goesTurn_96 (fun v96 h9 h8 => ?_)
              have q9 := (h8 rfl).2 rfl
              subst q9
              have eG9 : (nI (hg % 6)).toInt = (((hg % 6) : Nat) : Int) := nI_toInt (by omega)
              refine lv_icmp_ge (tgt := 212) hx hb dX12_goesTurn_97 (by decide) (fun c97 => ?_) (fun c97 => ?_)
              · skip
                have fuc97 := full_i p89_4
                have fvc97 := full_i (nI (hg % 6))
                have tc97 := g_le c97
                exact te_v hx hb hr hlocks hH hS (rfl) dX12_goesTurn_212
              · skip
                have fuc97 := full_i p89_4
                have fvc97 := full_i (nI (hg % 6))
                have tc97 := g_nle c97
                refine lv_iload_n hx hb dX12_goesTurn_100 rfl (lv_at hl 3 rfl) ?_
                refine lv_i2l hx hb dX12_goesTurn_101 rfl ?_
                refine lv_iload hx hb dX12_goesTurn_102 (lv_at hl 0 rfl) ?_
                refine tk_i hH hS hA (tr_S (n := 2) (As := [.long x2.toInt64, .int p89_4]) hx hb hml hown hts hkb hH hOX hks hE hS hA (s_M_isIn2 l D cs kf T O X x2.toInt64 p89_4  (hO.sub (by decide))) kw_1440 kw_1441 kw_13 kw_1442 (by decide +kernel) ⟨Nat.le_of_ble_eq_true rfl, Nat.le_of_ble_eq_true rfl⟩ rfl rfl hl.1 (Nat.le_of_ble_eq_true rfl) dX12_goesTurn_104 ⟨Nat.le_of_ble_eq_true rfl, Nat.le_of_ble_eq_true rfl⟩) (fun v104 u H locs hz9 hH hS => ?_)
                obtain ⟨rfl, l_v104, u_v104, x_v1040⟩ := hz9
                have hH : HT D cs A T O X H := hH
                refine W.widen (k := 0) (n := 0) (Nat.le_of_ble_eq_true rfl) (Nat.le_of_ble_eq_true rfl) ?_
                have J206 : ∀  (H : Heap) (locs : List Loc) (ls : Array Slot), HT D cs A T O X H → va_S A s.heap H locs → lv_has ls 7 [(4, .int p89_4), (0, .ref a0), (1, .int x1), (2, .int x2), (3, .int x3)] → W p l e { frames := 7, cells := 0, slots := 0, locals := 166 } s m [.ref a0, .int x1, .int x2, .int x3].toArray below meth c H locs 0 0 (MQ below (Tv D cs (fun u => u = (T, O, X)) A) [.ref a0, .int x1, .int x2, .int x3].toArray s 0 0 A) (F0 m 206 ls []) := by
                  intro  H locs ls  hH hS hl
                  obtain ⟨v206, ev206⟩ : ∃ y : Int32, y = p89_4 + 1 := ⟨_, rfl⟩
                  have tv206 : v206.toInt = p89_4.toInt + (1) := by rw [ev206]; exact add_i rfl (by decide) (by omega) (by omega)
                  refine lv_iinc (v := v206) (lv' := [(4, .int v206), (0, .ref a0), (1, .int x1), (2, .int x2), (3, .int x3)]) hx hb dX12_goesTurn_206 hl (k := 0) rfl (by rw [ev206]; rfl) (by decide) rfl (fun ls hl => ?_)
                  refine lv_goto (tgt := 89) hx hb dX12_goesTurn_209 (by decide) ?_
                  exact ih89 _ (by omega) v206 _ _ _ rfl (by omega) (by omega) hH hS (lv_sub hl [0, 1, 2, 3, 4] rfl)
                refine lv_if_ne (tgt := 113) hx hb dX12_goesTurn_107 (by decide) (fun c107 => ?_) (fun c107 => ?_)
                · skip
                  have tc107 := f_ne (k := 0) (by decide) c107
                  refine lv_aload_n hx hb dX12_goesTurn_113 rfl (lv_at hl 1 rfl) ?_
                  refine t_get (ci := 12) (lst := ft12 hg mq) (C := RX12) (F := TX12) (N := 36) hx hb hts uX12 hown hkb hH t_a0 (hO.no t_a0 (by decide)) (fun _ h9 => h9) rfl rfl 29 (by decide) rfl kw_1252 (fun _ h9 => h9) dX12_goesTurn_114 (fun v9 h9 => ?_)
                  obtain ⟨v114, rfl, t_v114⟩ := h9
                  refine lv_iload_n hx hb dX12_goesTurn_117 rfl (lv_at hl 2 rfl) ?_
                  refine lv_iload hx hb dX12_goesTurn_118 (lv_at hl 0 rfl) ?_
                  refine t_ist hx hb hkb hH hS t_v114 (hO.no t_v114 (by decide)) (by omega) (by omega) (cp_0 _) dX12_goesTurn_120 (fun H locs hH hS => ?_)
                  refine lv_aload_n hx hb dX12_goesTurn_121 rfl (lv_at hl 1 rfl) ?_
                  refine lv_iload hx hb dX12_goesTurn_122 (lv_at hl 0 rfl) ?_
                  refine tk_i hH hS hA (tr_V (n := 1) (As := [.int p89_4]) hx hb hml hown hts hkb hH hOX hks hE hS hA (s_M_laysWayOf l D cs kf T O X a0 hg mq p89_4 t_a0 b_hg (by omega) (by omega) (hO.sub (by decide))) kw_1560 kw_1562 ks_82 kw_13 kw_1563 (by decide +kernel) ⟨Nat.le_of_ble_eq_true rfl, Nat.le_of_ble_eq_true rfl⟩ (HT.recv (ci := 12) hkb hH t_a0 (hO.no t_a0 (by decide)) rfl) rfl rfl hl.1 (Nat.le_of_ble_eq_true rfl) dX12_goesTurn_124 ⟨Nat.le_of_ble_eq_true rfl, Nat.le_of_ble_eq_true rfl⟩) (fun v124 u H locs hz9 hH hS => ?_)
                  obtain ⟨rfl, l_v124, u_v124⟩ := hz9
                  have hH : HT D cs A T O X H := hH
                  refine W.widen (k := 0) (n := 0) (Nat.le_of_ble_eq_true rfl) (Nat.le_of_ble_eq_true rfl) ?_
                  refine lv_istore (lv' := [(5, .int v124), (4, .int p89_4), (0, .ref a0), (1, .int x1), (2, .int x2), (3, .int x3)]) hx hb dX12_goesTurn_127 hl (by decide) rfl (fun ls hl => ?_)
                  refine lv_iload hx hb dX12_goesTurn_129 (lv_at hl 0 rfl) ?_
                  have J141 : ∀  (H : Heap) (locs : List Loc) (ls : Array Slot), HT D cs A T O X H → va_S A s.heap H locs → lv_has ls 7 [(5, .int v124), (4, .int p89_4), (0, .ref a0), (1, .int x1), (2, .int x2), (3, .int x3)] → W p l e { frames := 7, cells := 0, slots := 0, locals := 166 } s m [.ref a0, .int x1, .int x2, .int x3].toArray below meth c H locs 0 0 (MQ below (Tv D cs (fun u => u = (T, O, X)) A) [.ref a0, .int x1, .int x2, .int x3].toArray s 0 0 A) (F0 m 141 ls []) := by
                    intro  H locs ls  hH hS hl
                    refine lv_aload_n hx hb dX12_goesTurn_141 rfl (lv_at hl 2 rfl) ?_
                    refine lv_iload_n hx hb dX12_goesTurn_142 rfl (lv_at hl 3 rfl) ?_
                    refine lv_iconst (v := 1) hx hb dX12_goesTurn_143 (by decide) ?_
                    refine lv_iadd hx hb dX12_goesTurn_144 ?_
                    refine lv_topi (fun v144 ev144 => ?_)
                    have tv144 : v144.toInt = x1.toInt + (1) := by rw [ev144]; exact add_i rfl (by decide : (1 : Int32).toInt = 1) (by omega) (by omega)
                    refine lv_iload_n hx hb dX12_goesTurn_145 rfl (lv_at hl 4 rfl) ?_
                    refine lv_iconst (v := 1) hx hb dX12_goesTurn_146 (by decide) ?_
                    refine lv_iload hx hb dX12_goesTurn_147 (lv_at hl 1 rfl) ?_
                    refine lv_ishl hx hb dX12_goesTurn_149 ?_
                    refine lv_topi (fun v149 ev149 => ?_)
                    have tv149 : 1 ≤ v149.toInt ∧ v149.toInt ≤ 16 := by rw [ev149]; exact shl_b 4 (by decide) (by omega) (by omega)
                    refine lv_iconst (v := (-1)) hx hb dX12_goesTurn_150 (by decide) ?_
                    refine lv_ixor hx hb dX12_goesTurn_151 ?_
                    refine lv_topi (fun v151 ev151 => ?_)
                    refine lv_iand hx hb dX12_goesTurn_152 ?_
                    refine lv_topi (fun v152 ev152 => ?_)
                    have tv152 : 0 ≤ v152.toInt ∧ v152.toInt ≤ x2.toInt := by rw [ev152]; exact and_l (by omega)
                    have hp9 := gt_step (by omega) (by omega) (by omega) (by omega) (inF_nz x_v1040 tc107) ev149 ev151 ev152
                    refine lv_iload_n hx hb dX12_goesTurn_153 rfl (lv_at hl 5 rfl) ?_
                    refine lv_iload hx hb dX12_goesTurn_154 (lv_at hl 0 rfl) ?_
                    have J164 : ∀ (k164_0 : Int32) (H : Heap) (locs : List Loc) (ls : Array Slot), (0 ≤ k164_0.toInt) → (k164_0.toInt ≤ 1) → HT D cs A T O X H → va_S A s.heap H locs → lv_has ls 7 [(4, .int p89_4), (0, .ref a0), (1, .int x1), (2, .int x2), (3, .int x3)] → W p l e { frames := 7, cells := 0, slots := 0, locals := 166 } s m [.ref a0, .int x1, .int x2, .int x3].toArray below meth c H locs 0 0 (MQ below (Tv D cs (fun u => u = (T, O, X)) A) [.ref a0, .int x1, .int x2, .int x3].toArray s 0 0 A) (F0 m 164 ls [.int k164_0, .int x3, .int v152, .int v144, .ref a0]) := by
                      intro k164_0 H locs ls l_k164_0 u_k164_0 hH hS hl
                      refine lv_iadd hx hb dX12_goesTurn_164 ?_
                      refine lv_topi (fun v164 ev164 => ?_)
                      refine tk_v hH hS hA (tr_V (n := 3) (As := [.int v144, .int v152, .int v164]) hx hb hml hown hts hkb hH hOX hks hE hS hA (s_M_goesTurn4 l D cs kf T O X a0 hg mq v144 v152 v164 t_a0 b_hg (by omega) (by omega) (by omega) (by omega) (by omega) (hO.sub (by decide))) kw_1756 kw_1758 ks_103 kw_13 kw_1759 (by decide +kernel) ⟨Nat.le_of_ble_eq_true rfl, Nat.le_of_ble_eq_true rfl⟩ (HT.recv (ci := 12) hkb hH t_a0 (hO.no t_a0 (by decide)) rfl) rfl rfl hl.1 (Nat.le_of_ble_eq_true rfl) dX12_goesTurn_165 ⟨Nat.le_of_ble_eq_true rfl, Nat.le_of_ble_eq_true rfl⟩) (fun u H locs hz9 hH hS => ?_)
                      obtain ⟨rfl⟩ := hz9
                      have hH : HT D cs A T O X H := hH
                      refine W.widen (k := 0) (n := 0) (Nat.le_of_ble_eq_true rfl) (Nat.le_of_ble_eq_true rfl) ?_
                      refine lv_iconst (v := 0) hx hb dX12_goesTurn_168 (by decide) ?_
                      have J171 : ∀ (n : Nat) (p171_6 : Int32) (H : Heap) (locs : List Loc) (ls : Array Slot), (31 - p171_6.toInt).toNat = n → (0 ≤ p171_6.toInt) → (p171_6.toInt ≤ 31) → HT D cs A T O X H → va_S A s.heap H locs → lv_has ls 7 [(6, .int p171_6), (4, .int p89_4), (0, .ref a0), (1, .int x1), (2, .int x2), (3, .int x3)] → W p l e { frames := 7, cells := 0, slots := 0, locals := 166 } s m [.ref a0, .int x1, .int x2, .int x3].toArray below meth c H locs 0 0 (MQ below (Tv D cs (fun u => u = (T, O, X)) A) [.ref a0, .int x1, .int x2, .int x3].toArray s 0 0 A) (F0 m 171 ls []) := by
                        intro n
                        induction n using Nat.strongRecOn with
                        | _ n ih171 =>
                          intro p171_6 H locs ls hm171 l_p171_6 u_p171_6 hH hS hl
                          refine lv_iload hx hb dX12_goesTurn_171 (lv_at hl 0 rfl) ?_
                          refine lv_bipush (v := 31) hx hb dX12_goesTurn_173 (by decide) ?_
                          refine lv_icmp_ge (tgt := 206) hx hb dX12_goesTurn_175 (by decide) (fun c175 => ?_) (fun c175 => ?_)
                          · skip
                            have tc175 := f_ge (k := 31) (by decide) c175
                            exact J206  _ _ _  hH hS (lv_sub hl [1, 2, 3, 4, 5] rfl)
                          · skip
                            have tc175 := f_nge (k := 31) (by decide) c175
                            refine lv_aload_n hx hb dX12_goesTurn_178 rfl (lv_at hl 2 rfl) ?_
                            refine t_get (ci := 12) (lst := ft12 hg mq) (C := RX12) (F := TX12) (N := 36) hx hb hts uX12 hown hkb hH t_a0 (hO.no t_a0 (by decide)) (fun _ h9 => h9) rfl rfl 1 (by decide) rfl kw_1224 (fun _ h9 => h9) dX12_goesTurn_179 (fun v9 h9 => ?_)
                            obtain ⟨v179, rfl, t_v179⟩ := h9
                            refine lv_bipush (v := 59) hx hb dX12_goesTurn_182 (by decide) ?_
                            refine lv_iload hx hb dX12_goesTurn_184 (lv_at hl 0 rfl) ?_
                            refine lv_iadd hx hb dX12_goesTurn_186 ?_
                            refine lv_topi (fun v186 ev186 => ?_)
                            have tv186 : v186.toInt = (59) + p171_6.toInt := by rw [ev186]; exact add_i (by decide : (59 : Int32).toInt = 59) rfl (by omega) (by omega)
                            refine lv_aload_n hx hb dX12_goesTurn_187 rfl (lv_at hl 2 rfl) ?_
                            refine t_get (ci := 12) (lst := ft12 hg mq) (C := RX12) (F := TX12) (N := 36) hx hb hts uX12 hown hkb hH t_a0 (hO.no t_a0 (by decide)) (fun _ h9 => h9) rfl rfl 31 (by decide) rfl kw_1254 (fun _ h9 => h9) dX12_goesTurn_188 (fun v9 h9 => ?_)
                            obtain ⟨v188, rfl, t_v188⟩ := h9
                            refine lv_bipush (v := 31) hx hb dX12_goesTurn_191 (by decide) ?_
                            refine lv_iload_n hx hb dX12_goesTurn_193 rfl (lv_at hl 3 rfl) ?_
                            refine lv_imul hx hb dX12_goesTurn_194 ?_
                            refine lv_topi (fun v194 ev194 => ?_)
                            have tv194 : v194.toInt = (31) * x1.toInt := by rw [ev194]; exact mul_i (by decide : (31 : Int32).toInt = 31) rfl (by omega) (by omega)
                            refine lv_iload hx hb dX12_goesTurn_195 (lv_at hl 0 rfl) ?_
                            refine lv_iadd hx hb dX12_goesTurn_197 ?_
                            refine lv_topi (fun v197 ev197 => ?_)
                            have tv197 : v197.toInt = v194.toInt + p171_6.toInt := by rw [ev197]; exact add_i rfl rfl (by omega) (by omega)
                            refine t_ild hx hb hkb hH t_v188 (hO.no t_v188 (by decide)) (by omega) (by omega) dX12_goesTurn_198 (fun v198 h9 => ?_)
                            refine t_ist8 hx hb hkb hH hS t_v179 (hO.no t_v179 (by decide)) (by decide) (by omega) (by omega) (by omega) (by omega) (p8_far (by omega) (by omega)) dX12_goesTurn_199 (fun H locs hH hS => ?_)
                            obtain ⟨v200, ev200⟩ : ∃ y : Int32, y = p171_6 + 1 := ⟨_, rfl⟩
                            have tv200 : v200.toInt = p171_6.toInt + (1) := by rw [ev200]; exact add_i rfl (by decide) (by omega) (by omega)
                            refine lv_iinc (v := v200) (lv' := [(6, .int v200), (4, .int p89_4), (0, .ref a0), (1, .int x1), (2, .int x2), (3, .int x3)]) hx hb dX12_goesTurn_200 hl (k := 0) rfl (by rw [ev200]; rfl) (by decide) rfl (fun ls hl => ?_)
                            refine lv_goto (tgt := 171) hx hb dX12_goesTurn_203 (by decide) ?_
                            exact ih171 _ (by omega) v200 _ _ _ rfl (by omega) (by omega) hH hS (lv_sub hl [0, 1, 2, 3, 4, 5] rfl)
                      refine lv_istore (lv' := [(6, .int 0), (4, .int p89_4), (0, .ref a0), (1, .int x1), (2, .int x2), (3, .int x3)]) hx hb dX12_goesTurn_169 hl (by decide) rfl (fun ls hl => ?_)
                      exact J171 _ 0 _ _ _ rfl (by decide) (by decide) hH hS (lv_sub hl [0, 1, 2, 3, 4, 5] rfl)
                    refine lv_if_eq (tgt := 163) hx hb dX12_goesTurn_156 (by decide) (fun c156 => ?_) (fun c156 => ?_)
                    · skip
                      have tc156 := f_eq (k := 0) (by decide) c156
                      refine lv_iconst (v := 0) hx hb dX12_goesTurn_163 (by decide) ?_
                      exact J164 0 _ _ _ (by decide) (by decide) hH hS (lv_sub hl [1, 2, 3, 4, 5] rfl)
                    · skip
                      have tc156 := f_ne (k := 0) (by decide) c156
                      refine lv_iconst (v := 1) hx hb dX12_goesTurn_159 (by decide) ?_
                      refine lv_goto (tgt := 164) hx hb dX12_goesTurn_160 (by decide) ?_
                      exact J164 1 _ _ _ (by decide) (by decide) hH hS (lv_sub hl [1, 2, 3, 4, 5] rfl)
                  refine lv_if_eq (tgt := 141) hx hb dX12_goesTurn_131 (by decide) (fun c131 => ?_) (fun c131 => ?_)
                  · skip
                    have tc131 := f_eq (k := 0) (by decide) c131
                    exact J141  _ _ _  hH hS (lv_sub hl [0, 1, 2, 3, 4, 5] rfl)
                  · skip
                    have tc131 := f_ne (k := 0) (by decide) c131
                    refine lv_aload_n hx hb dX12_goesTurn_134 rfl (lv_at hl 2 rfl) ?_
                    refine lv_iload hx hb dX12_goesTurn_135 (lv_at hl 1 rfl) ?_
                    refine tk_i hH hS hA (tr_V (n := 1) (As := [.int p89_4]) hx hb hml hown hts hkb hH hOX hks hE hS hA (s_M_usesRow l D cs kf T O X a0 hg mq p89_4 t_a0 b_hg (hO.sub (by decide))) kw_1548 kw_1550 ks_80 kw_13 kw_1551 (by decide +kernel) ⟨Nat.le_of_ble_eq_true rfl, Nat.le_of_ble_eq_true rfl⟩ (HT.recv (ci := 12) hkb hH t_a0 (hO.no t_a0 (by decide)) rfl) rfl rfl hl.1 (Nat.le_of_ble_eq_true rfl) dX12_goesTurn_137 ⟨Nat.le_of_ble_eq_true rfl, Nat.le_of_ble_eq_true rfl⟩) (fun v137 u H locs hz9 hH hS => ?_)
                    have hz9 : u = (T, O, X) := hz9
                    subst hz9
                    have hH : HT D cs A T O X H := hH
                    refine W.widen (k := 0) (n := 0) (Nat.le_of_ble_eq_true rfl) (Nat.le_of_ble_eq_true rfl) ?_
                    refine lv_pop hx hb dX12_goesTurn_140 rfl ?_
                    exact J141  _ _ _  hH hS (lv_sub hl [0, 1, 2, 3, 4, 5] rfl)
                · skip
                  have tc107 := f_eq (k := 0) (by decide) c107
                  refine lv_goto (tgt := 206) hx hb dX12_goesTurn_110 (by decide) ?_
                  exact J206  _ _ _  hH hS (lv_sub hl [0, 1, 2, 3, 4] rfl)
          refine lv_istore (lv' := [(4, .int 0), (0, .ref a0), (1, .int x1), (2, .int x2), (3, .int x3)]) hx hb dX12_goesTurn_87 hl (by decide) rfl (fun ls hl => ?_)
          exact J89 _ 0 _ _ _ rfl (by decide) (by decide) hH hS (lv_sub hl [0, 1, 2, 3, 4] rfl)
        · skip
          have tc55 := f_nge (k := 31) (by decide) c55
          refine lv_aload_n hx hb dX12_goesTurn_58 rfl (lv_at hl 1 rfl) ?_
          refine t_get (ci := 12) (lst := ft12 hg mq) (C := RX12) (F := TX12) (N := 36) hx hb hts uX12 hown hkb hH t_a0 (hO.no t_a0 (by decide)) (fun _ h9 => h9) rfl rfl 31 (by decide) rfl kw_1254 (fun _ h9 => h9) dX12_goesTurn_59 (fun v9 h9 => ?_)
          obtain ⟨v59, rfl, t_v59⟩ := h9
          refine lv_bipush (v := 31) hx hb dX12_goesTurn_62 (by decide) ?_
          refine lv_iload_n hx hb dX12_goesTurn_64 rfl (lv_at hl 2 rfl) ?_
          refine lv_imul hx hb dX12_goesTurn_65 ?_
          refine lv_topi (fun v65 ev65 => ?_)
          have tv65 : v65.toInt = (31) * x1.toInt := by rw [ev65]; exact mul_i (by decide : (31 : Int32).toInt = 31) rfl (by omega) (by omega)
          refine lv_iload hx hb dX12_goesTurn_66 (lv_at hl 0 rfl) ?_
          refine lv_iadd hx hb dX12_goesTurn_68 ?_
          refine lv_topi (fun v68 ev68 => ?_)
          have tv68 : v68.toInt = v65.toInt + p51_4.toInt := by rw [ev68]; exact add_i rfl rfl (by omega) (by omega)
          refine lv_aload_n hx hb dX12_goesTurn_69 rfl (lv_at hl 1 rfl) ?_
          refine t_get (ci := 12) (lst := ft12 hg mq) (C := RX12) (F := TX12) (N := 36) hx hb hts uX12 hown hkb hH t_a0 (hO.no t_a0 (by decide)) (fun _ h9 => h9) rfl rfl 1 (by decide) rfl kw_1224 (fun _ h9 => h9) dX12_goesTurn_70 (fun v9 h9 => ?_)
          obtain ⟨v70, rfl, t_v70⟩ := h9
          refine lv_bipush (v := 59) hx hb dX12_goesTurn_73 (by decide) ?_
          refine lv_iload hx hb dX12_goesTurn_75 (lv_at hl 0 rfl) ?_
          refine lv_iadd hx hb dX12_goesTurn_77 ?_
          refine lv_topi (fun v77 ev77 => ?_)
          have tv77 : v77.toInt = (59) + p51_4.toInt := by rw [ev77]; exact add_i (by decide : (59 : Int32).toInt = 59) rfl (by omega) (by omega)
          refine t_ild8 hx hb hkb hH t_v70 (hO.no t_v70 (by decide)) (by decide) (by omega) (by omega) dX12_goesTurn_78 (fun v78 h9 h8 => ?_)
          refine t_ist hx hb hkb hH hS t_v59 (hO.no t_v59 (by decide)) (by omega) (by omega) (cp_0 _) dX12_goesTurn_79 (fun H locs hH hS => ?_)
          obtain ⟨v80, ev80⟩ : ∃ y : Int32, y = p51_4 + 1 := ⟨_, rfl⟩
          have tv80 : v80.toInt = p51_4.toInt + (1) := by rw [ev80]; exact add_i rfl (by decide) (by omega) (by omega)
          refine lv_iinc (v := v80) (lv' := [(4, .int v80), (0, .ref a0), (1, .int x1), (2, .int x2), (3, .int x3)]) hx hb dX12_goesTurn_80 hl (k := 0) rfl (by rw [ev80]; rfl) (by decide) rfl (fun ls hl => ?_)
          refine lv_goto (tgt := 51) hx hb dX12_goesTurn_83 (by decide) ?_
          exact ih51 _ (by omega) v80 _ _ _ rfl (by omega) (by omega) hH hS (lv_sub hl [0, 1, 2, 3, 4] rfl)
    refine lv_istore (lv' := [(4, .int 0), (0, .ref a0), (1, .int x1), (2, .int x2), (3, .int x3)]) hx hb dX12_goesTurn_49 hl (by decide) rfl (fun ls hl => ?_)
    exact J51 _ 0 _ _ _ rfl (by decide) (by decide) hH hS (lv_sub hl [0, 1, 2, 3, 4] rfl)
  · skip
    have tc1 := f_eq (k := 0) (by decide) c1
    refine lv_iload_n hx hb dX12_goesTurn_4 rfl (lv_at hl 3 rfl) ?_
    refine lv_aload_n hx hb dX12_goesTurn_5 rfl (lv_at hl 0 rfl) ?_
    refine t_get (ci := 12) (lst := ft12 hg mq) (C := RX12) (F := TX12) (N := 36) hx hb hts uX12 hown hkb hH t_a0 (hO.no t_a0 (by decide)) (fun _ h9 => h9) rfl rfl 32 (by decide) rfl kw_1255 (fun _ h9 => h9) dX12_goesTurn_6 (fun v9 h9 => ?_)
    obtain ⟨v6, rfl⟩ := h9
    refine lv_icmp_gt (tgt := 13) hx hb dX12_goesTurn_9 (by decide) (fun c9 => ?_) (fun c9 => ?_)
    · skip
      have fuc9 := full_i x3
      have fvc9 := full_i v6
      have tc9 := g_lt c9
      refine lv_aload_n hx hb dX12_goesTurn_13 rfl (lv_at hl 0 rfl) ?_
      refine lv_iload_n hx hb dX12_goesTurn_14 rfl (lv_at hl 3 rfl) ?_
      refine t_put (ci := 12) (lst := ft12 hg mq) (v := .int x3) (ty := tyX12 32) (C := RX12) (F := TX12) (N := 36) hx hb hts uX12 tyX12 tyX12_ok nmX12 hown hkb hH hS t_a0 (hO.no t_a0 (by decide)) (fun _ => Iff.rfl) rfl rfl 32 (by decide) rfl (⟨_, rfl⟩) kw_1255 (fun _ h9 => h9) rfl (tyX12_ok 32 (by decide)) rfl rfl dX12_goesTurn_15 (fun H locs hH hS => ?_)
      refine lv_iconst (v := 0) hx hb dX12_goesTurn_18 (by decide) ?_
      have J21 : ∀ (n : Nat) (p21_4 : Int32) (H : Heap) (locs : List Loc) (ls : Array Slot), (3 - p21_4.toInt).toNat = n → (0 ≤ p21_4.toInt) → (p21_4.toInt ≤ 3) → HT D cs A T O X H → va_S A s.heap H locs → lv_has ls 7 [(4, .int p21_4), (0, .ref a0), (1, .int x1)] → W p l e { frames := 7, cells := 0, slots := 0, locals := 166 } s m [.ref a0, .int x1, .int x2, .int x3].toArray below meth c H locs 0 0 (MQ below (Tv D cs (fun u => u = (T, O, X)) A) [.ref a0, .int x1, .int x2, .int x3].toArray s 0 0 A) (F0 m 21 ls []) := by
        intro n
        induction n using Nat.strongRecOn with
        | _ n ih21 =>
          intro p21_4 H locs ls hm21 l_p21_4 u_p21_4 hH hS hl
          refine lv_iload hx hb dX12_goesTurn_21 (lv_at hl 0 rfl) ?_
          refine lv_iload_n hx hb dX12_goesTurn_23 rfl (lv_at hl 2 rfl) ?_
          refine lv_icmp_ge (tgt := 47) hx hb dX12_goesTurn_24 (by decide) (fun c24 => ?_) (fun c24 => ?_)
          · skip
            have fuc24 := full_i p21_4
            have fvc24 := full_i x1
            have tc24 := g_le c24
            exact te_v hx hb hr hlocks hH hS (rfl) dX12_goesTurn_47
          · skip
            have fuc24 := full_i p21_4
            have fvc24 := full_i x1
            have tc24 := g_nle c24
            refine lv_aload_n hx hb dX12_goesTurn_27 rfl (lv_at hl 1 rfl) ?_
            refine t_get (ci := 12) (lst := ft12 hg mq) (C := RX12) (F := TX12) (N := 36) hx hb hts uX12 hown hkb hH t_a0 (hO.no t_a0 (by decide)) (fun _ h9 => h9) rfl rfl 30 (by decide) rfl kw_1253 (fun _ h9 => h9) dX12_goesTurn_28 (fun v9 h9 => ?_)
            obtain ⟨v28, rfl, t_v28⟩ := h9
            refine lv_iload hx hb dX12_goesTurn_31 (lv_at hl 0 rfl) ?_
            refine lv_aload_n hx hb dX12_goesTurn_33 rfl (lv_at hl 1 rfl) ?_
            refine t_get (ci := 12) (lst := ft12 hg mq) (C := RX12) (F := TX12) (N := 36) hx hb hts uX12 hown hkb hH t_a0 (hO.no t_a0 (by decide)) (fun _ h9 => h9) rfl rfl 29 (by decide) rfl kw_1252 (fun _ h9 => h9) dX12_goesTurn_34 (fun v9 h9 => ?_)
            obtain ⟨v34, rfl, t_v34⟩ := h9
            refine lv_iload hx hb dX12_goesTurn_37 (lv_at hl 0 rfl) ?_
            refine t_ild hx hb hkb hH t_v34 (hO.no t_v34 (by decide)) (by omega) (by omega) dX12_goesTurn_39 (fun v39 h9 => ?_)
            refine t_ist hx hb hkb hH hS t_v28 (hO.no t_v28 (by decide)) (by omega) (by omega) (cp_0 _) dX12_goesTurn_40 (fun H locs hH hS => ?_)
            obtain ⟨v41, ev41⟩ : ∃ y : Int32, y = p21_4 + 1 := ⟨_, rfl⟩
            have tv41 : v41.toInt = p21_4.toInt + (1) := by rw [ev41]; exact add_i rfl (by decide) (by omega) (by omega)
            refine lv_iinc (v := v41) (lv' := [(4, .int v41), (0, .ref a0), (1, .int x1)]) hx hb dX12_goesTurn_41 hl (k := 0) rfl (by rw [ev41]; rfl) (by decide) rfl (fun ls hl => ?_)
            refine lv_goto (tgt := 21) hx hb dX12_goesTurn_44 (by decide) ?_
            exact ih21 _ (by omega) v41 _ _ _ rfl (by omega) (by omega) hH hS (lv_sub hl [0, 1, 2] rfl)
      refine lv_istore (lv' := [(4, .int 0), (0, .ref a0), (1, .int x1), (2, .int x2), (3, .int x3)]) hx hb dX12_goesTurn_19 hl (by decide) rfl (fun ls hl => ?_)
      exact J21 _ 0 _ _ _ rfl (by decide) (by decide) hH hS (lv_sub hl [0, 1, 2] rfl)
    · skip
      have fuc9 := full_i x3
      have fvc9 := full_i v6
      have tc9 := g_nlt c9
      exact te_v hx hb hr hlocks hH hS (rfl) dX12_goesTurn_12
set_option maxHeartbeats 4000000 in
set_option maxRecDepth 100000 in
theorem s_M_goesTurn2 (l : Launch) (D : va_G) (cs : CS) (kf : KF) (T : TF) (O : List Nat) (X : va_W) (a0 hg mq : Nat) (x1 : Int32) (x2 : Int32) (x3 : Int32) (t_a0 : T a0 = some (22, hg, mq)) (b_hg : hg < 90) (l_x1 : 2 ≤ x1.toInt) (u_x1 : x1.toInt ≤ 2) (l_x2 : 0 ≤ x2.toInt) (u_x2 : x2.toInt ≤ 31) (hp : pcn 5 x2.toInt.toNat ≤ 3) (hO : okO T O [1, 8, 9, 22]) : TK l D cs kf yX12_goesTurn cX12_goesTurn 7 none { frames := 8, cells := 0, slots := 0, locals := 192 } [.ref a0, .int x1, .int x2, .int x3] T O X (Tv D cs (fun u => u = (T, O, X))) := by
  refine tk_of (by decide) (Nat.le_of_ble_eq_true rfl) (fun p e s m below meth c ls A H locs hx hb hr hml hown hts hlocks hnm hkb hH hS hA hOX hks hE hl => ?_)
  have hown : s.vm.findClass RX12 = some m.cls := hown
  have hl : lv_has ls 7 [(0, .ref a0), (1, .int x1), (2, .int x2), (3, .int x3)] := hl
  refine lv_iload_n hx hb dX12_goesTurn_0 rfl (lv_at hl 2 rfl) ?_
  refine lv_if_ne (tgt := 48) hx hb dX12_goesTurn_1 (by decide) (fun c1 => ?_) (fun c1 => ?_)
  · skip
    have tc1 := f_ne (k := 0) (by decide) c1
    refine lv_iconst (v := 0) hx hb dX12_goesTurn_48 (by decide) ?_
    have J51 : ∀ (n : Nat) (p51_4 : Int32) (H : Heap) (locs : List Loc) (ls : Array Slot), (31 - p51_4.toInt).toNat = n → (0 ≤ p51_4.toInt) → (p51_4.toInt ≤ 31) → HT D cs A T O X H → va_S A s.heap H locs → lv_has ls 7 [(4, .int p51_4), (0, .ref a0), (1, .int x1), (2, .int x2), (3, .int x3)] → W p l e { frames := 8, cells := 0, slots := 0, locals := 192 } s m [.ref a0, .int x1, .int x2, .int x3].toArray below meth c H locs 0 0 (MQ below (Tv D cs (fun u => u = (T, O, X)) A) [.ref a0, .int x1, .int x2, .int x3].toArray s 0 0 A) (F0 m 51 ls []) := by
      intro n
      induction n using Nat.strongRecOn with
      | _ n ih51 =>
        intro p51_4 H locs ls hm51 l_p51_4 u_p51_4 hH hS hl
        refine lv_iload hx hb dX12_goesTurn_51 (lv_at hl 0 rfl) ?_
        refine lv_bipush (v := 31) hx hb dX12_goesTurn_53 (by decide) ?_
        refine lv_icmp_ge (tgt := 86) hx hb dX12_goesTurn_55 (by decide) (fun c55 => ?_) (fun c55 => ?_)
        · skip
          have tc55 := f_ge (k := 31) (by decide) c55
          refine lv_iconst (v := 0) hx hb dX12_goesTurn_86 (by decide) ?_
          have J89 : ∀ (n : Nat) (p89_4 : Int32) (H : Heap) (locs : List Loc) (ls : Array Slot), (5 - p89_4.toInt).toNat = n → (0 ≤ p89_4.toInt) → (p89_4.toInt ≤ 5) → HT D cs A T O X H → va_S A s.heap H locs → lv_has ls 7 [(4, .int p89_4), (0, .ref a0), (1, .int x1), (2, .int x2), (3, .int x3)] → W p l e { frames := 8, cells := 0, slots := 0, locals := 192 } s m [.ref a0, .int x1, .int x2, .int x3].toArray below meth c H locs 0 0 (MQ below (Tv D cs (fun u => u = (T, O, X)) A) [.ref a0, .int x1, .int x2, .int x3].toArray s 0 0 A) (F0 m 89 ls []) := by
            intro n
            induction n using Nat.strongRecOn with
            | _ n ih89 =>
              intro p89_4 H locs ls hm89 l_p89_4 u_p89_4 hH hS hl
              refine lv_iload hx hb dX12_goesTurn_89 (lv_at hl 0 rfl) ?_
              refine lv_aload_n hx hb dX12_goesTurn_91 rfl (lv_at hl 1 rfl) ?_
              refine t_get (ci := 12) (lst := ft12 hg mq) (C := RX12) (F := TX12) (N := 36) hx hb hts uX12 hown hkb hH t_a0 (hO.no t_a0 (by decide)) (fun _ h9 => h9) rfl rfl 1 (by decide) rfl kw_1224 (fun _ h9 => h9) dX12_goesTurn_92 (fun v9 h9 => ?_)
              obtain ⟨v92, rfl, t_v92⟩ := h9
              refine lv_iconst (v := 2) hx hb dX12_goesTurn_95 (by decide) ?_
              refine t_ild8 hx hb hkb hH t_v92 (hO.no t_v92 (by decide)) (by decide) (by decide) (by decide) dX12_goesTurn_96 (fun v96 h9 h8 => ?_)
              have q9 := (h8 rfl).2 rfl
              subst q9
              have eG9 : (nI (hg % 6)).toInt = (((hg % 6) : Nat) : Int) := nI_toInt (by omega)
              refine lv_icmp_ge (tgt := 212) hx hb dX12_goesTurn_97 (by decide) (fun c97 => ?_) (fun c97 => ?_)
              · skip
                have fuc97 := full_i p89_4
                have fvc97 := full_i (nI (hg % 6))
                have tc97 := g_le c97
                exact te_v hx hb hr hlocks hH hS (rfl) dX12_goesTurn_212
              · skip
                have fuc97 := full_i p89_4
                have fvc97 := full_i (nI (hg % 6))
                have tc97 := g_nle c97
                refine lv_iload_n hx hb dX12_goesTurn_100 rfl (lv_at hl 3 rfl) ?_
                refine lv_i2l hx hb dX12_goesTurn_101 rfl ?_
                refine lv_iload hx hb dX12_goesTurn_102 (lv_at hl 0 rfl) ?_
                refine tk_i hH hS hA (tr_S (n := 2) (As := [.long x2.toInt64, .int p89_4]) hx hb hml hown hts hkb hH hOX hks hE hS hA (s_M_isIn2 l D cs kf T O X x2.toInt64 p89_4  (hO.sub (by decide))) kw_1440 kw_1441 kw_13 kw_1442 (by decide +kernel) ⟨Nat.le_of_ble_eq_true rfl, Nat.le_of_ble_eq_true rfl⟩ rfl rfl hl.1 (Nat.le_of_ble_eq_true rfl) dX12_goesTurn_104 ⟨Nat.le_of_ble_eq_true rfl, Nat.le_of_ble_eq_true rfl⟩) (fun v104 u H locs hz9 hH hS => ?_)
                obtain ⟨rfl, l_v104, u_v104, x_v1040⟩ := hz9
                have hH : HT D cs A T O X H := hH
                refine W.widen (k := 0) (n := 0) (Nat.le_of_ble_eq_true rfl) (Nat.le_of_ble_eq_true rfl) ?_
                have J206 : ∀  (H : Heap) (locs : List Loc) (ls : Array Slot), HT D cs A T O X H → va_S A s.heap H locs → lv_has ls 7 [(4, .int p89_4), (0, .ref a0), (1, .int x1), (2, .int x2), (3, .int x3)] → W p l e { frames := 8, cells := 0, slots := 0, locals := 192 } s m [.ref a0, .int x1, .int x2, .int x3].toArray below meth c H locs 0 0 (MQ below (Tv D cs (fun u => u = (T, O, X)) A) [.ref a0, .int x1, .int x2, .int x3].toArray s 0 0 A) (F0 m 206 ls []) := by
                  intro  H locs ls  hH hS hl
                  obtain ⟨v206, ev206⟩ : ∃ y : Int32, y = p89_4 + 1 := ⟨_, rfl⟩
                  have tv206 : v206.toInt = p89_4.toInt + (1) := by rw [ev206]; exact add_i rfl (by decide) (by omega) (by omega)
                  refine lv_iinc (v := v206) (lv' := [(4, .int v206), (0, .ref a0), (1, .int x1), (2, .int x2), (3, .int x3)]) hx hb dX12_goesTurn_206 hl (k := 0) rfl (by rw [ev206]; rfl) (by decide) rfl (fun ls hl => ?_)
                  refine lv_goto (tgt := 89) hx hb dX12_goesTurn_209 (by decide) ?_
                  exact ih89 _ (by omega) v206 _ _ _ rfl (by omega) (by omega) hH hS (lv_sub hl [0, 1, 2, 3, 4] rfl)
                refine lv_if_ne (tgt := 113) hx hb dX12_goesTurn_107 (by decide) (fun c107 => ?_) (fun c107 => ?_)
                · skip
                  have tc107 := f_ne (k := 0) (by decide) c107
                  refine lv_aload_n hx hb dX12_goesTurn_113 rfl (lv_at hl 1 rfl) ?_
                  refine t_get (ci := 12) (lst := ft12 hg mq) (C := RX12) (F := TX12) (N := 36) hx hb hts uX12 hown hkb hH t_a0 (hO.no t_a0 (by decide)) (fun _ h9 => h9) rfl rfl 29 (by decide) rfl kw_1252 (fun _ h9 => h9) dX12_goesTurn_114 (fun v9 h9 => ?_)
                  obtain ⟨v114, rfl, t_v114⟩ := h9
                  refine lv_iload_n hx hb dX12_goesTurn_117 rfl (lv_at hl 2 rfl) ?_
                  refine lv_iload hx hb dX12_goesTurn_118 (lv_at hl 0 rfl) ?_
                  refine t_ist hx hb hkb hH hS t_v114 (hO.no t_v114 (by decide)) (by omega) (by omega) (cp_0 _) dX12_goesTurn_120 (fun H locs hH hS => ?_)
                  refine lv_aload_n hx hb dX12_goesTurn_121 rfl (lv_at hl 1 rfl) ?_
                  refine lv_iload hx hb dX12_goesTurn_122 (lv_at hl 0 rfl) ?_
                  refine tk_i hH hS hA (tr_V (n := 1) (As := [.int p89_4]) hx hb hml hown hts hkb hH hOX hks hE hS hA (s_M_laysWayOf l D cs kf T O X a0 hg mq p89_4 t_a0 b_hg (by omega) (by omega) (hO.sub (by decide))) kw_1560 kw_1562 ks_82 kw_13 kw_1563 (by decide +kernel) ⟨Nat.le_of_ble_eq_true rfl, Nat.le_of_ble_eq_true rfl⟩ (HT.recv (ci := 12) hkb hH t_a0 (hO.no t_a0 (by decide)) rfl) rfl rfl hl.1 (Nat.le_of_ble_eq_true rfl) dX12_goesTurn_124 ⟨Nat.le_of_ble_eq_true rfl, Nat.le_of_ble_eq_true rfl⟩) (fun v124 u H locs hz9 hH hS => ?_)
                  obtain ⟨rfl, l_v124, u_v124⟩ := hz9
                  have hH : HT D cs A T O X H := hH
                  refine W.widen (k := 0) (n := 0) (Nat.le_of_ble_eq_true rfl) (Nat.le_of_ble_eq_true rfl) ?_
                  refine lv_istore (lv' := [(5, .int v124), (4, .int p89_4), (0, .ref a0), (1, .int x1), (2, .int x2), (3, .int x3)]) hx hb dX12_goesTurn_127 hl (by decide) rfl (fun ls hl => ?_)
                  refine lv_iload hx hb dX12_goesTurn_129 (lv_at hl 0 rfl) ?_
                  have J141 : ∀  (H : Heap) (locs : List Loc) (ls : Array Slot), HT D cs A T O X H → va_S A s.heap H locs → lv_has ls 7 [(5, .int v124), (4, .int p89_4), (0, .ref a0), (1, .int x1), (2, .int x2), (3, .int x3)] → W p l e { frames := 8, cells := 0, slots := 0, locals := 192 } s m [.ref a0, .int x1, .int x2, .int x3].toArray below meth c H locs 0 0 (MQ below (Tv D cs (fun u => u = (T, O, X)) A) [.ref a0, .int x1, .int x2, .int x3].toArray s 0 0 A) (F0 m 141 ls []) := by
                    intro  H locs ls  hH hS hl
                    refine lv_aload_n hx hb dX12_goesTurn_141 rfl (lv_at hl 2 rfl) ?_
                    refine lv_iload_n hx hb dX12_goesTurn_142 rfl (lv_at hl 3 rfl) ?_
                    refine lv_iconst (v := 1) hx hb dX12_goesTurn_143 (by decide) ?_
                    refine lv_iadd hx hb dX12_goesTurn_144 ?_
                    refine lv_topi (fun v144 ev144 => ?_)
                    have tv144 : v144.toInt = x1.toInt + (1) := by rw [ev144]; exact add_i rfl (by decide : (1 : Int32).toInt = 1) (by omega) (by omega)
                    refine lv_iload_n hx hb dX12_goesTurn_145 rfl (lv_at hl 4 rfl) ?_
                    refine lv_iconst (v := 1) hx hb dX12_goesTurn_146 (by decide) ?_
                    refine lv_iload hx hb dX12_goesTurn_147 (lv_at hl 1 rfl) ?_
                    refine lv_ishl hx hb dX12_goesTurn_149 ?_
                    refine lv_topi (fun v149 ev149 => ?_)
                    have tv149 : 1 ≤ v149.toInt ∧ v149.toInt ≤ 16 := by rw [ev149]; exact shl_b 4 (by decide) (by omega) (by omega)
                    refine lv_iconst (v := (-1)) hx hb dX12_goesTurn_150 (by decide) ?_
                    refine lv_ixor hx hb dX12_goesTurn_151 ?_
                    refine lv_topi (fun v151 ev151 => ?_)
                    refine lv_iand hx hb dX12_goesTurn_152 ?_
                    refine lv_topi (fun v152 ev152 => ?_)
                    have tv152 : 0 ≤ v152.toInt ∧ v152.toInt ≤ x2.toInt := by rw [ev152]; exact and_l (by omega)
                    have hp9 := gt_step (by omega) (by omega) (by omega) (by omega) (inF_nz x_v1040 tc107) ev149 ev151 ev152
                    refine lv_iload_n hx hb dX12_goesTurn_153 rfl (lv_at hl 5 rfl) ?_
                    refine lv_iload hx hb dX12_goesTurn_154 (lv_at hl 0 rfl) ?_
                    have J164 : ∀ (k164_0 : Int32) (H : Heap) (locs : List Loc) (ls : Array Slot), (0 ≤ k164_0.toInt) → (k164_0.toInt ≤ 1) → HT D cs A T O X H → va_S A s.heap H locs → lv_has ls 7 [(4, .int p89_4), (0, .ref a0), (1, .int x1), (2, .int x2), (3, .int x3)] → W p l e { frames := 8, cells := 0, slots := 0, locals := 192 } s m [.ref a0, .int x1, .int x2, .int x3].toArray below meth c H locs 0 0 (MQ below (Tv D cs (fun u => u = (T, O, X)) A) [.ref a0, .int x1, .int x2, .int x3].toArray s 0 0 A) (F0 m 164 ls [.int k164_0, .int x3, .int v152, .int v144, .ref a0]) := by
                      intro k164_0 H locs ls l_k164_0 u_k164_0 hH hS hl
                      refine lv_iadd hx hb dX12_goesTurn_164 ?_
                      refine lv_topi (fun v164 ev164 => ?_)
                      refine tk_v hH hS hA (tr_V (n := 3) (As := [.int v144, .int v152, .int v164]) hx hb hml hown hts hkb hH hOX hks hE hS hA (s_M_goesTurn3 l D cs kf T O X a0 hg mq v144 v152 v164 t_a0 b_hg (by omega) (by omega) (by omega) (by omega) (by omega) (hO.sub (by decide))) kw_1756 kw_1758 ks_103 kw_13 kw_1759 (by decide +kernel) ⟨Nat.le_of_ble_eq_true rfl, Nat.le_of_ble_eq_true rfl⟩ (HT.recv (ci := 12) hkb hH t_a0 (hO.no t_a0 (by decide)) rfl) rfl rfl hl.1 (Nat.le_of_ble_eq_true rfl) dX12_goesTurn_165 ⟨Nat.le_of_ble_eq_true rfl, Nat.le_of_ble_eq_true rfl⟩) (fun u H locs hz9 hH hS => ?_)
                      obtain ⟨rfl⟩ := hz9
                      have hH : HT D cs A T O X H := hH
                      refine W.widen (k := 0) (n := 0) (Nat.le_of_ble_eq_true rfl) (Nat.le_of_ble_eq_true rfl) ?_
                      refine lv_iconst (v := 0) hx hb dX12_goesTurn_168 (by decide) ?_
                      have J171 : ∀ (n : Nat) (p171_6 : Int32) (H : Heap) (locs : List Loc) (ls : Array Slot), (31 - p171_6.toInt).toNat = n → (0 ≤ p171_6.toInt) → (p171_6.toInt ≤ 31) → HT D cs A T O X H → va_S A s.heap H locs → lv_has ls 7 [(6, .int p171_6), (4, .int p89_4), (0, .ref a0), (1, .int x1), (2, .int x2), (3, .int x3)] → W p l e { frames := 8, cells := 0, slots := 0, locals := 192 } s m [.ref a0, .int x1, .int x2, .int x3].toArray below meth c H locs 0 0 (MQ below (Tv D cs (fun u => u = (T, O, X)) A) [.ref a0, .int x1, .int x2, .int x3].toArray s 0 0 A) (F0 m 171 ls []) := by
                        intro n
                        induction n using Nat.strongRecOn with
                        | _ n ih171 =>
                          intro p171_6 H locs ls hm171 l_p171_6 u_p171_6 hH hS hl
                          refine lv_iload hx hb dX12_goesTurn_171 (lv_at hl 0 rfl) ?_
                          refine lv_bipush (v := 31) hx hb dX12_goesTurn_173 (by decide) ?_
                          refine lv_icmp_ge (tgt := 206) hx hb dX12_goesTurn_175 (by decide) (fun c175 => ?_) (fun c175 => ?_)
                          · skip
                            have tc175 := f_ge (k := 31) (by decide) c175
                            exact J206  _ _ _  hH hS (lv_sub hl [1, 2, 3, 4, 5] rfl)
                          · skip
                            have tc175 := f_nge (k := 31) (by decide) c175
                            refine lv_aload_n hx hb dX12_goesTurn_178 rfl (lv_at hl 2 rfl) ?_
                            refine t_get (ci := 12) (lst := ft12 hg mq) (C := RX12) (F := TX12) (N := 36) hx hb hts uX12 hown hkb hH t_a0 (hO.no t_a0 (by decide)) (fun _ h9 => h9) rfl rfl 1 (by decide) rfl kw_1224 (fun _ h9 => h9) dX12_goesTurn_179 (fun v9 h9 => ?_)
                            obtain ⟨v179, rfl, t_v179⟩ := h9
                            refine lv_bipush (v := 59) hx hb dX12_goesTurn_182 (by decide) ?_
                            refine lv_iload hx hb dX12_goesTurn_184 (lv_at hl 0 rfl) ?_
                            refine lv_iadd hx hb dX12_goesTurn_186 ?_
                            refine lv_topi (fun v186 ev186 => ?_)
                            have tv186 : v186.toInt = (59) + p171_6.toInt := by rw [ev186]; exact add_i (by decide : (59 : Int32).toInt = 59) rfl (by omega) (by omega)
                            refine lv_aload_n hx hb dX12_goesTurn_187 rfl (lv_at hl 2 rfl) ?_
                            refine t_get (ci := 12) (lst := ft12 hg mq) (C := RX12) (F := TX12) (N := 36) hx hb hts uX12 hown hkb hH t_a0 (hO.no t_a0 (by decide)) (fun _ h9 => h9) rfl rfl 31 (by decide) rfl kw_1254 (fun _ h9 => h9) dX12_goesTurn_188 (fun v9 h9 => ?_)
                            obtain ⟨v188, rfl, t_v188⟩ := h9
                            refine lv_bipush (v := 31) hx hb dX12_goesTurn_191 (by decide) ?_
                            refine lv_iload_n hx hb dX12_goesTurn_193 rfl (lv_at hl 3 rfl) ?_
                            refine lv_imul hx hb dX12_goesTurn_194 ?_
                            refine lv_topi (fun v194 ev194 => ?_)
                            have tv194 : v194.toInt = (31) * x1.toInt := by rw [ev194]; exact mul_i (by decide : (31 : Int32).toInt = 31) rfl (by omega) (by omega)
                            refine lv_iload hx hb dX12_goesTurn_195 (lv_at hl 0 rfl) ?_
                            refine lv_iadd hx hb dX12_goesTurn_197 ?_
                            refine lv_topi (fun v197 ev197 => ?_)
                            have tv197 : v197.toInt = v194.toInt + p171_6.toInt := by rw [ev197]; exact add_i rfl rfl (by omega) (by omega)
                            refine t_ild hx hb hkb hH t_v188 (hO.no t_v188 (by decide)) (by omega) (by omega) dX12_goesTurn_198 (fun v198 h9 => ?_)
                            refine t_ist8 hx hb hkb hH hS t_v179 (hO.no t_v179 (by decide)) (by decide) (by omega) (by omega) (by omega) (by omega) (p8_far (by omega) (by omega)) dX12_goesTurn_199 (fun H locs hH hS => ?_)
                            obtain ⟨v200, ev200⟩ : ∃ y : Int32, y = p171_6 + 1 := ⟨_, rfl⟩
                            have tv200 : v200.toInt = p171_6.toInt + (1) := by rw [ev200]; exact add_i rfl (by decide) (by omega) (by omega)
                            refine lv_iinc (v := v200) (lv' := [(6, .int v200), (4, .int p89_4), (0, .ref a0), (1, .int x1), (2, .int x2), (3, .int x3)]) hx hb dX12_goesTurn_200 hl (k := 0) rfl (by rw [ev200]; rfl) (by decide) rfl (fun ls hl => ?_)
                            refine lv_goto (tgt := 171) hx hb dX12_goesTurn_203 (by decide) ?_
                            exact ih171 _ (by omega) v200 _ _ _ rfl (by omega) (by omega) hH hS (lv_sub hl [0, 1, 2, 3, 4, 5] rfl)
                      refine lv_istore (lv' := [(6, .int 0), (4, .int p89_4), (0, .ref a0), (1, .int x1), (2, .int x2), (3, .int x3)]) hx hb dX12_goesTurn_169 hl (by decide) rfl (fun ls hl => ?_)
                      exact J171 _ 0 _ _ _ rfl (by decide) (by decide) hH hS (lv_sub hl [0, 1, 2, 3, 4, 5] rfl)
                    refine lv_if_eq (tgt := 163) hx hb dX12_goesTurn_156 (by decide) (fun c156 => ?_) (fun c156 => ?_)
                    · skip
                      have tc156 := f_eq (k := 0) (by decide) c156
                      refine lv_iconst (v := 0) hx hb dX12_goesTurn_163 (by decide) ?_
                      exact J164 0 _ _ _ (by decide) (by decide) hH hS (lv_sub hl [1, 2, 3, 4, 5] rfl)
                    · skip
                      have tc156 := f_ne (k := 0) (by decide) c156
                      refine lv_iconst (v := 1) hx hb dX12_goesTurn_159 (by decide) ?_
                      refine lv_goto (tgt := 164) hx hb dX12_goesTurn_160 (by decide) ?_
                      exact J164 1 _ _ _ (by decide) (by decide) hH hS (lv_sub hl [1, 2, 3, 4, 5] rfl)
                  refine lv_if_eq (tgt := 141) hx hb dX12_goesTurn_131 (by decide) (fun c131 => ?_) (fun c131 => ?_)
                  · skip
                    have tc131 := f_eq (k := 0) (by decide) c131
                    exact J141  _ _ _  hH hS (lv_sub hl [0, 1, 2, 3, 4, 5] rfl)
                  · skip
                    have tc131 := f_ne (k := 0) (by decide) c131
                    refine lv_aload_n hx hb dX12_goesTurn_134 rfl (lv_at hl 2 rfl) ?_
                    refine lv_iload hx hb dX12_goesTurn_135 (lv_at hl 1 rfl) ?_
                    refine tk_i hH hS hA (tr_V (n := 1) (As := [.int p89_4]) hx hb hml hown hts hkb hH hOX hks hE hS hA (s_M_usesRow l D cs kf T O X a0 hg mq p89_4 t_a0 b_hg (hO.sub (by decide))) kw_1548 kw_1550 ks_80 kw_13 kw_1551 (by decide +kernel) ⟨Nat.le_of_ble_eq_true rfl, Nat.le_of_ble_eq_true rfl⟩ (HT.recv (ci := 12) hkb hH t_a0 (hO.no t_a0 (by decide)) rfl) rfl rfl hl.1 (Nat.le_of_ble_eq_true rfl) dX12_goesTurn_137 ⟨Nat.le_of_ble_eq_true rfl, Nat.le_of_ble_eq_true rfl⟩) (fun v137 u H locs hz9 hH hS => ?_)
                    have hz9 : u = (T, O, X) := hz9
                    subst hz9
                    have hH : HT D cs A T O X H := hH
                    refine W.widen (k := 0) (n := 0) (Nat.le_of_ble_eq_true rfl) (Nat.le_of_ble_eq_true rfl) ?_
                    refine lv_pop hx hb dX12_goesTurn_140 rfl ?_
                    exact J141  _ _ _  hH hS (lv_sub hl [0, 1, 2, 3, 4, 5] rfl)
                · skip
                  have tc107 := f_eq (k := 0) (by decide) c107
                  refine lv_goto (tgt := 206) hx hb dX12_goesTurn_110 (by decide) ?_
                  exact J206  _ _ _  hH hS (lv_sub hl [0, 1, 2, 3, 4] rfl)
          refine lv_istore (lv' := [(4, .int 0), (0, .ref a0), (1, .int x1), (2, .int x2), (3, .int x3)]) hx hb dX12_goesTurn_87 hl (by decide) rfl (fun ls hl => ?_)
          exact J89 _ 0 _ _ _ rfl (by decide) (by decide) hH hS (lv_sub hl [0, 1, 2, 3, 4] rfl)
        · skip
          have tc55 := f_nge (k := 31) (by decide) c55
          refine lv_aload_n hx hb dX12_goesTurn_58 rfl (lv_at hl 1 rfl) ?_
          refine t_get (ci := 12) (lst := ft12 hg mq) (C := RX12) (F := TX12) (N := 36) hx hb hts uX12 hown hkb hH t_a0 (hO.no t_a0 (by decide)) (fun _ h9 => h9) rfl rfl 31 (by decide) rfl kw_1254 (fun _ h9 => h9) dX12_goesTurn_59 (fun v9 h9 => ?_)
          obtain ⟨v59, rfl, t_v59⟩ := h9
          refine lv_bipush (v := 31) hx hb dX12_goesTurn_62 (by decide) ?_
          refine lv_iload_n hx hb dX12_goesTurn_64 rfl (lv_at hl 2 rfl) ?_
          refine lv_imul hx hb dX12_goesTurn_65 ?_
          refine lv_topi (fun v65 ev65 => ?_)
          have tv65 : v65.toInt = (31) * x1.toInt := by rw [ev65]; exact mul_i (by decide : (31 : Int32).toInt = 31) rfl (by omega) (by omega)
          refine lv_iload hx hb dX12_goesTurn_66 (lv_at hl 0 rfl) ?_
          refine lv_iadd hx hb dX12_goesTurn_68 ?_
          refine lv_topi (fun v68 ev68 => ?_)
          have tv68 : v68.toInt = v65.toInt + p51_4.toInt := by rw [ev68]; exact add_i rfl rfl (by omega) (by omega)
          refine lv_aload_n hx hb dX12_goesTurn_69 rfl (lv_at hl 1 rfl) ?_
          refine t_get (ci := 12) (lst := ft12 hg mq) (C := RX12) (F := TX12) (N := 36) hx hb hts uX12 hown hkb hH t_a0 (hO.no t_a0 (by decide)) (fun _ h9 => h9) rfl rfl 1 (by decide) rfl kw_1224 (fun _ h9 => h9) dX12_goesTurn_70 (fun v9 h9 => ?_)
          obtain ⟨v70, rfl, t_v70⟩ := h9
          refine lv_bipush (v := 59) hx hb dX12_goesTurn_73 (by decide) ?_
          refine lv_iload hx hb dX12_goesTurn_75 (lv_at hl 0 rfl) ?_
          refine lv_iadd hx hb dX12_goesTurn_77 ?_
          refine lv_topi (fun v77 ev77 => ?_)
          have tv77 : v77.toInt = (59) + p51_4.toInt := by rw [ev77]; exact add_i (by decide : (59 : Int32).toInt = 59) rfl (by omega) (by omega)
          refine t_ild8 hx hb hkb hH t_v70 (hO.no t_v70 (by decide)) (by decide) (by omega) (by omega) dX12_goesTurn_78 (fun v78 h9 h8 => ?_)
          refine t_ist hx hb hkb hH hS t_v59 (hO.no t_v59 (by decide)) (by omega) (by omega) (cp_0 _) dX12_goesTurn_79 (fun H locs hH hS => ?_)
          obtain ⟨v80, ev80⟩ : ∃ y : Int32, y = p51_4 + 1 := ⟨_, rfl⟩
          have tv80 : v80.toInt = p51_4.toInt + (1) := by rw [ev80]; exact add_i rfl (by decide) (by omega) (by omega)
          refine lv_iinc (v := v80) (lv' := [(4, .int v80), (0, .ref a0), (1, .int x1), (2, .int x2), (3, .int x3)]) hx hb dX12_goesTurn_80 hl (k := 0) rfl (by rw [ev80]; rfl) (by decide) rfl (fun ls hl => ?_)
          refine lv_goto (tgt := 51) hx hb dX12_goesTurn_83 (by decide) ?_
          exact ih51 _ (by omega) v80 _ _ _ rfl (by omega) (by omega) hH hS (lv_sub hl [0, 1, 2, 3, 4] rfl)
    refine lv_istore (lv' := [(4, .int 0), (0, .ref a0), (1, .int x1), (2, .int x2), (3, .int x3)]) hx hb dX12_goesTurn_49 hl (by decide) rfl (fun ls hl => ?_)
    exact J51 _ 0 _ _ _ rfl (by decide) (by decide) hH hS (lv_sub hl [0, 1, 2, 3, 4] rfl)
  · skip
    have tc1 := f_eq (k := 0) (by decide) c1
    refine lv_iload_n hx hb dX12_goesTurn_4 rfl (lv_at hl 3 rfl) ?_
    refine lv_aload_n hx hb dX12_goesTurn_5 rfl (lv_at hl 0 rfl) ?_
    refine t_get (ci := 12) (lst := ft12 hg mq) (C := RX12) (F := TX12) (N := 36) hx hb hts uX12 hown hkb hH t_a0 (hO.no t_a0 (by decide)) (fun _ h9 => h9) rfl rfl 32 (by decide) rfl kw_1255 (fun _ h9 => h9) dX12_goesTurn_6 (fun v9 h9 => ?_)
    obtain ⟨v6, rfl⟩ := h9
    refine lv_icmp_gt (tgt := 13) hx hb dX12_goesTurn_9 (by decide) (fun c9 => ?_) (fun c9 => ?_)
    · skip
      have fuc9 := full_i x3
      have fvc9 := full_i v6
      have tc9 := g_lt c9
      refine lv_aload_n hx hb dX12_goesTurn_13 rfl (lv_at hl 0 rfl) ?_
      refine lv_iload_n hx hb dX12_goesTurn_14 rfl (lv_at hl 3 rfl) ?_
      refine t_put (ci := 12) (lst := ft12 hg mq) (v := .int x3) (ty := tyX12 32) (C := RX12) (F := TX12) (N := 36) hx hb hts uX12 tyX12 tyX12_ok nmX12 hown hkb hH hS t_a0 (hO.no t_a0 (by decide)) (fun _ => Iff.rfl) rfl rfl 32 (by decide) rfl (⟨_, rfl⟩) kw_1255 (fun _ h9 => h9) rfl (tyX12_ok 32 (by decide)) rfl rfl dX12_goesTurn_15 (fun H locs hH hS => ?_)
      refine lv_iconst (v := 0) hx hb dX12_goesTurn_18 (by decide) ?_
      have J21 : ∀ (n : Nat) (p21_4 : Int32) (H : Heap) (locs : List Loc) (ls : Array Slot), (2 - p21_4.toInt).toNat = n → (0 ≤ p21_4.toInt) → (p21_4.toInt ≤ 2) → HT D cs A T O X H → va_S A s.heap H locs → lv_has ls 7 [(4, .int p21_4), (0, .ref a0), (1, .int x1)] → W p l e { frames := 8, cells := 0, slots := 0, locals := 192 } s m [.ref a0, .int x1, .int x2, .int x3].toArray below meth c H locs 0 0 (MQ below (Tv D cs (fun u => u = (T, O, X)) A) [.ref a0, .int x1, .int x2, .int x3].toArray s 0 0 A) (F0 m 21 ls []) := by
        intro n
        induction n using Nat.strongRecOn with
        | _ n ih21 =>
          intro p21_4 H locs ls hm21 l_p21_4 u_p21_4 hH hS hl
          refine lv_iload hx hb dX12_goesTurn_21 (lv_at hl 0 rfl) ?_
          refine lv_iload_n hx hb dX12_goesTurn_23 rfl (lv_at hl 2 rfl) ?_
          refine lv_icmp_ge (tgt := 47) hx hb dX12_goesTurn_24 (by decide) (fun c24 => ?_) (fun c24 => ?_)
          · skip
            have fuc24 := full_i p21_4
            have fvc24 := full_i x1
            have tc24 := g_le c24
            exact te_v hx hb hr hlocks hH hS (rfl) dX12_goesTurn_47
          · skip
            have fuc24 := full_i p21_4
            have fvc24 := full_i x1
            have tc24 := g_nle c24
            refine lv_aload_n hx hb dX12_goesTurn_27 rfl (lv_at hl 1 rfl) ?_
            refine t_get (ci := 12) (lst := ft12 hg mq) (C := RX12) (F := TX12) (N := 36) hx hb hts uX12 hown hkb hH t_a0 (hO.no t_a0 (by decide)) (fun _ h9 => h9) rfl rfl 30 (by decide) rfl kw_1253 (fun _ h9 => h9) dX12_goesTurn_28 (fun v9 h9 => ?_)
            obtain ⟨v28, rfl, t_v28⟩ := h9
            refine lv_iload hx hb dX12_goesTurn_31 (lv_at hl 0 rfl) ?_
            refine lv_aload_n hx hb dX12_goesTurn_33 rfl (lv_at hl 1 rfl) ?_
            refine t_get (ci := 12) (lst := ft12 hg mq) (C := RX12) (F := TX12) (N := 36) hx hb hts uX12 hown hkb hH t_a0 (hO.no t_a0 (by decide)) (fun _ h9 => h9) rfl rfl 29 (by decide) rfl kw_1252 (fun _ h9 => h9) dX12_goesTurn_34 (fun v9 h9 => ?_)
            obtain ⟨v34, rfl, t_v34⟩ := h9
            refine lv_iload hx hb dX12_goesTurn_37 (lv_at hl 0 rfl) ?_
            refine t_ild hx hb hkb hH t_v34 (hO.no t_v34 (by decide)) (by omega) (by omega) dX12_goesTurn_39 (fun v39 h9 => ?_)
            refine t_ist hx hb hkb hH hS t_v28 (hO.no t_v28 (by decide)) (by omega) (by omega) (cp_0 _) dX12_goesTurn_40 (fun H locs hH hS => ?_)
            obtain ⟨v41, ev41⟩ : ∃ y : Int32, y = p21_4 + 1 := ⟨_, rfl⟩
            have tv41 : v41.toInt = p21_4.toInt + (1) := by rw [ev41]; exact add_i rfl (by decide) (by omega) (by omega)
            refine lv_iinc (v := v41) (lv' := [(4, .int v41), (0, .ref a0), (1, .int x1)]) hx hb dX12_goesTurn_41 hl (k := 0) rfl (by rw [ev41]; rfl) (by decide) rfl (fun ls hl => ?_)
            refine lv_goto (tgt := 21) hx hb dX12_goesTurn_44 (by decide) ?_
            exact ih21 _ (by omega) v41 _ _ _ rfl (by omega) (by omega) hH hS (lv_sub hl [0, 1, 2] rfl)
      refine lv_istore (lv' := [(4, .int 0), (0, .ref a0), (1, .int x1), (2, .int x2), (3, .int x3)]) hx hb dX12_goesTurn_19 hl (by decide) rfl (fun ls hl => ?_)
      exact J21 _ 0 _ _ _ rfl (by decide) (by decide) hH hS (lv_sub hl [0, 1, 2] rfl)
    · skip
      have fuc9 := full_i x3
      have fvc9 := full_i v6
      have tc9 := g_nlt c9
      exact te_v hx hb hr hlocks hH hS (rfl) dX12_goesTurn_12
set_option maxHeartbeats 4000000 in
set_option maxRecDepth 100000 in
theorem s_M_goesTurn1 (l : Launch) (D : va_G) (cs : CS) (kf : KF) (T : TF) (O : List Nat) (X : va_W) (a0 hg mq : Nat) (x1 : Int32) (x2 : Int32) (x3 : Int32) (t_a0 : T a0 = some (22, hg, mq)) (b_hg : hg < 90) (l_x1 : 1 ≤ x1.toInt) (u_x1 : x1.toInt ≤ 1) (l_x2 : 0 ≤ x2.toInt) (u_x2 : x2.toInt ≤ 31) (hp : pcn 5 x2.toInt.toNat ≤ 4) (hO : okO T O [1, 8, 9, 22]) : TK l D cs kf yX12_goesTurn cX12_goesTurn 7 none { frames := 9, cells := 0, slots := 0, locals := 218 } [.ref a0, .int x1, .int x2, .int x3] T O X (Tv D cs (fun u => u = (T, O, X))) := by
  refine tk_of (by decide) (Nat.le_of_ble_eq_true rfl) (fun p e s m below meth c ls A H locs hx hb hr hml hown hts hlocks hnm hkb hH hS hA hOX hks hE hl => ?_)
  have hown : s.vm.findClass RX12 = some m.cls := hown
  have hl : lv_has ls 7 [(0, .ref a0), (1, .int x1), (2, .int x2), (3, .int x3)] := hl
  refine lv_iload_n hx hb dX12_goesTurn_0 rfl (lv_at hl 2 rfl) ?_
  refine lv_if_ne (tgt := 48) hx hb dX12_goesTurn_1 (by decide) (fun c1 => ?_) (fun c1 => ?_)
  · skip
    have tc1 := f_ne (k := 0) (by decide) c1
    refine lv_iconst (v := 0) hx hb dX12_goesTurn_48 (by decide) ?_
    have J51 : ∀ (n : Nat) (p51_4 : Int32) (H : Heap) (locs : List Loc) (ls : Array Slot), (31 - p51_4.toInt).toNat = n → (0 ≤ p51_4.toInt) → (p51_4.toInt ≤ 31) → HT D cs A T O X H → va_S A s.heap H locs → lv_has ls 7 [(4, .int p51_4), (0, .ref a0), (1, .int x1), (2, .int x2), (3, .int x3)] → W p l e { frames := 9, cells := 0, slots := 0, locals := 218 } s m [.ref a0, .int x1, .int x2, .int x3].toArray below meth c H locs 0 0 (MQ below (Tv D cs (fun u => u = (T, O, X)) A) [.ref a0, .int x1, .int x2, .int x3].toArray s 0 0 A) (F0 m 51 ls []) := by
      intro n
      induction n using Nat.strongRecOn with
      | _ n ih51 =>
        intro p51_4 H locs ls hm51 l_p51_4 u_p51_4 hH hS hl
        refine lv_iload hx hb dX12_goesTurn_51 (lv_at hl 0 rfl) ?_
        refine lv_bipush (v := 31) hx hb dX12_goesTurn_53 (by decide) ?_
        refine lv_icmp_ge (tgt := 86) hx hb dX12_goesTurn_55 (by decide) (fun c55 => ?_) (fun c55 => ?_)
        · skip
          have tc55 := f_ge (k := 31) (by decide) c55
          refine lv_iconst (v := 0) hx hb dX12_goesTurn_86 (by decide) ?_
          have J89 : ∀ (n : Nat) (p89_4 : Int32) (H : Heap) (locs : List Loc) (ls : Array Slot), (5 - p89_4.toInt).toNat = n → (0 ≤ p89_4.toInt) → (p89_4.toInt ≤ 5) → HT D cs A T O X H → va_S A s.heap H locs → lv_has ls 7 [(4, .int p89_4), (0, .ref a0), (1, .int x1), (2, .int x2), (3, .int x3)] → W p l e { frames := 9, cells := 0, slots := 0, locals := 218 } s m [.ref a0, .int x1, .int x2, .int x3].toArray below meth c H locs 0 0 (MQ below (Tv D cs (fun u => u = (T, O, X)) A) [.ref a0, .int x1, .int x2, .int x3].toArray s 0 0 A) (F0 m 89 ls []) := by
            intro n
            induction n using Nat.strongRecOn with
            | _ n ih89 =>
              intro p89_4 H locs ls hm89 l_p89_4 u_p89_4 hH hS hl
              refine lv_iload hx hb dX12_goesTurn_89 (lv_at hl 0 rfl) ?_
              refine lv_aload_n hx hb dX12_goesTurn_91 rfl (lv_at hl 1 rfl) ?_
              refine t_get (ci := 12) (lst := ft12 hg mq) (C := RX12) (F := TX12) (N := 36) hx hb hts uX12 hown hkb hH t_a0 (hO.no t_a0 (by decide)) (fun _ h9 => h9) rfl rfl 1 (by decide) rfl kw_1224 (fun _ h9 => h9) dX12_goesTurn_92 (fun v9 h9 => ?_)
              obtain ⟨v92, rfl, t_v92⟩ := h9
              refine lv_iconst (v := 2) hx hb dX12_goesTurn_95 (by decide) ?_
              refine t_ild8 hx hb hkb hH t_v92 (hO.no t_v92 (by decide)) (by decide) (by decide) (by decide) dX12_goesTurn_96 (fun v96 h9 h8 => ?_)
              have q9 := (h8 rfl).2 rfl
              subst q9
              have eG9 : (nI (hg % 6)).toInt = (((hg % 6) : Nat) : Int) := nI_toInt (by omega)
              refine lv_icmp_ge (tgt := 212) hx hb dX12_goesTurn_97 (by decide) (fun c97 => ?_) (fun c97 => ?_)
              · skip
                have fuc97 := full_i p89_4
                have fvc97 := full_i (nI (hg % 6))
                have tc97 := g_le c97
                exact te_v hx hb hr hlocks hH hS (rfl) dX12_goesTurn_212
              · skip
                have fuc97 := full_i p89_4
                have fvc97 := full_i (nI (hg % 6))
                have tc97 := g_nle c97
                refine lv_iload_n hx hb dX12_goesTurn_100 rfl (lv_at hl 3 rfl) ?_
                refine lv_i2l hx hb dX12_goesTurn_101 rfl ?_
                refine lv_iload hx hb dX12_goesTurn_102 (lv_at hl 0 rfl) ?_
                refine tk_i hH hS hA (tr_S (n := 2) (As := [.long x2.toInt64, .int p89_4]) hx hb hml hown hts hkb hH hOX hks hE hS hA (s_M_isIn2 l D cs kf T O X x2.toInt64 p89_4  (hO.sub (by decide))) kw_1440 kw_1441 kw_13 kw_1442 (by decide +kernel) ⟨Nat.le_of_ble_eq_true rfl, Nat.le_of_ble_eq_true rfl⟩ rfl rfl hl.1 (Nat.le_of_ble_eq_true rfl) dX12_goesTurn_104 ⟨Nat.le_of_ble_eq_true rfl, Nat.le_of_ble_eq_true rfl⟩) (fun v104 u H locs hz9 hH hS => ?_)
                obtain ⟨rfl, l_v104, u_v104, x_v1040⟩ := hz9
                have hH : HT D cs A T O X H := hH
                refine W.widen (k := 0) (n := 0) (Nat.le_of_ble_eq_true rfl) (Nat.le_of_ble_eq_true rfl) ?_
                have J206 : ∀  (H : Heap) (locs : List Loc) (ls : Array Slot), HT D cs A T O X H → va_S A s.heap H locs → lv_has ls 7 [(4, .int p89_4), (0, .ref a0), (1, .int x1), (2, .int x2), (3, .int x3)] → W p l e { frames := 9, cells := 0, slots := 0, locals := 218 } s m [.ref a0, .int x1, .int x2, .int x3].toArray below meth c H locs 0 0 (MQ below (Tv D cs (fun u => u = (T, O, X)) A) [.ref a0, .int x1, .int x2, .int x3].toArray s 0 0 A) (F0 m 206 ls []) := by
                  intro  H locs ls  hH hS hl
                  obtain ⟨v206, ev206⟩ : ∃ y : Int32, y = p89_4 + 1 := ⟨_, rfl⟩
                  have tv206 : v206.toInt = p89_4.toInt + (1) := by rw [ev206]; exact add_i rfl (by decide) (by omega) (by omega)
                  refine lv_iinc (v := v206) (lv' := [(4, .int v206), (0, .ref a0), (1, .int x1), (2, .int x2), (3, .int x3)]) hx hb dX12_goesTurn_206 hl (k := 0) rfl (by rw [ev206]; rfl) (by decide) rfl (fun ls hl => ?_)
                  refine lv_goto (tgt := 89) hx hb dX12_goesTurn_209 (by decide) ?_
                  exact ih89 _ (by omega) v206 _ _ _ rfl (by omega) (by omega) hH hS (lv_sub hl [0, 1, 2, 3, 4] rfl)
                refine lv_if_ne (tgt := 113) hx hb dX12_goesTurn_107 (by decide) (fun c107 => ?_) (fun c107 => ?_)
                · skip
                  have tc107 := f_ne (k := 0) (by decide) c107
                  refine lv_aload_n hx hb dX12_goesTurn_113 rfl (lv_at hl 1 rfl) ?_
                  refine t_get (ci := 12) (lst := ft12 hg mq) (C := RX12) (F := TX12) (N := 36) hx hb hts uX12 hown hkb hH t_a0 (hO.no t_a0 (by decide)) (fun _ h9 => h9) rfl rfl 29 (by decide) rfl kw_1252 (fun _ h9 => h9) dX12_goesTurn_114 (fun v9 h9 => ?_)
                  obtain ⟨v114, rfl, t_v114⟩ := h9
                  refine lv_iload_n hx hb dX12_goesTurn_117 rfl (lv_at hl 2 rfl) ?_
                  refine lv_iload hx hb dX12_goesTurn_118 (lv_at hl 0 rfl) ?_
                  refine t_ist hx hb hkb hH hS t_v114 (hO.no t_v114 (by decide)) (by omega) (by omega) (cp_0 _) dX12_goesTurn_120 (fun H locs hH hS => ?_)
                  refine lv_aload_n hx hb dX12_goesTurn_121 rfl (lv_at hl 1 rfl) ?_
                  refine lv_iload hx hb dX12_goesTurn_122 (lv_at hl 0 rfl) ?_
                  refine tk_i hH hS hA (tr_V (n := 1) (As := [.int p89_4]) hx hb hml hown hts hkb hH hOX hks hE hS hA (s_M_laysWayOf l D cs kf T O X a0 hg mq p89_4 t_a0 b_hg (by omega) (by omega) (hO.sub (by decide))) kw_1560 kw_1562 ks_82 kw_13 kw_1563 (by decide +kernel) ⟨Nat.le_of_ble_eq_true rfl, Nat.le_of_ble_eq_true rfl⟩ (HT.recv (ci := 12) hkb hH t_a0 (hO.no t_a0 (by decide)) rfl) rfl rfl hl.1 (Nat.le_of_ble_eq_true rfl) dX12_goesTurn_124 ⟨Nat.le_of_ble_eq_true rfl, Nat.le_of_ble_eq_true rfl⟩) (fun v124 u H locs hz9 hH hS => ?_)
                  obtain ⟨rfl, l_v124, u_v124⟩ := hz9
                  have hH : HT D cs A T O X H := hH
                  refine W.widen (k := 0) (n := 0) (Nat.le_of_ble_eq_true rfl) (Nat.le_of_ble_eq_true rfl) ?_
                  refine lv_istore (lv' := [(5, .int v124), (4, .int p89_4), (0, .ref a0), (1, .int x1), (2, .int x2), (3, .int x3)]) hx hb dX12_goesTurn_127 hl (by decide) rfl (fun ls hl => ?_)
                  refine lv_iload hx hb dX12_goesTurn_129 (lv_at hl 0 rfl) ?_
                  have J141 : ∀  (H : Heap) (locs : List Loc) (ls : Array Slot), HT D cs A T O X H → va_S A s.heap H locs → lv_has ls 7 [(5, .int v124), (4, .int p89_4), (0, .ref a0), (1, .int x1), (2, .int x2), (3, .int x3)] → W p l e { frames := 9, cells := 0, slots := 0, locals := 218 } s m [.ref a0, .int x1, .int x2, .int x3].toArray below meth c H locs 0 0 (MQ below (Tv D cs (fun u => u = (T, O, X)) A) [.ref a0, .int x1, .int x2, .int x3].toArray s 0 0 A) (F0 m 141 ls []) := by
                    intro  H locs ls  hH hS hl
                    refine lv_aload_n hx hb dX12_goesTurn_141 rfl (lv_at hl 2 rfl) ?_
                    refine lv_iload_n hx hb dX12_goesTurn_142 rfl (lv_at hl 3 rfl) ?_
                    refine lv_iconst (v := 1) hx hb dX12_goesTurn_143 (by decide) ?_
                    refine lv_iadd hx hb dX12_goesTurn_144 ?_
                    refine lv_topi (fun v144 ev144 => ?_)
                    have tv144 : v144.toInt = x1.toInt + (1) := by rw [ev144]; exact add_i rfl (by decide : (1 : Int32).toInt = 1) (by omega) (by omega)
                    refine lv_iload_n hx hb dX12_goesTurn_145 rfl (lv_at hl 4 rfl) ?_
                    refine lv_iconst (v := 1) hx hb dX12_goesTurn_146 (by decide) ?_
                    refine lv_iload hx hb dX12_goesTurn_147 (lv_at hl 1 rfl) ?_
                    refine lv_ishl hx hb dX12_goesTurn_149 ?_
                    refine lv_topi (fun v149 ev149 => ?_)
                    have tv149 : 1 ≤ v149.toInt ∧ v149.toInt ≤ 16 := by rw [ev149]; exact shl_b 4 (by decide) (by omega) (by omega)
                    refine lv_iconst (v := (-1)) hx hb dX12_goesTurn_150 (by decide) ?_
                    refine lv_ixor hx hb dX12_goesTurn_151 ?_
                    refine lv_topi (fun v151 ev151 => ?_)
                    refine lv_iand hx hb dX12_goesTurn_152 ?_
                    refine lv_topi (fun v152 ev152 => ?_)
                    have tv152 : 0 ≤ v152.toInt ∧ v152.toInt ≤ x2.toInt := by rw [ev152]; exact and_l (by omega)
                    have hp9 := gt_step (by omega) (by omega) (by omega) (by omega) (inF_nz x_v1040 tc107) ev149 ev151 ev152
                    refine lv_iload_n hx hb dX12_goesTurn_153 rfl (lv_at hl 5 rfl) ?_
                    refine lv_iload hx hb dX12_goesTurn_154 (lv_at hl 0 rfl) ?_
                    have J164 : ∀ (k164_0 : Int32) (H : Heap) (locs : List Loc) (ls : Array Slot), (0 ≤ k164_0.toInt) → (k164_0.toInt ≤ 1) → HT D cs A T O X H → va_S A s.heap H locs → lv_has ls 7 [(4, .int p89_4), (0, .ref a0), (1, .int x1), (2, .int x2), (3, .int x3)] → W p l e { frames := 9, cells := 0, slots := 0, locals := 218 } s m [.ref a0, .int x1, .int x2, .int x3].toArray below meth c H locs 0 0 (MQ below (Tv D cs (fun u => u = (T, O, X)) A) [.ref a0, .int x1, .int x2, .int x3].toArray s 0 0 A) (F0 m 164 ls [.int k164_0, .int x3, .int v152, .int v144, .ref a0]) := by
                      intro k164_0 H locs ls l_k164_0 u_k164_0 hH hS hl
                      refine lv_iadd hx hb dX12_goesTurn_164 ?_
                      refine lv_topi (fun v164 ev164 => ?_)
                      refine tk_v hH hS hA (tr_V (n := 3) (As := [.int v144, .int v152, .int v164]) hx hb hml hown hts hkb hH hOX hks hE hS hA (s_M_goesTurn2 l D cs kf T O X a0 hg mq v144 v152 v164 t_a0 b_hg (by omega) (by omega) (by omega) (by omega) (by omega) (hO.sub (by decide))) kw_1756 kw_1758 ks_103 kw_13 kw_1759 (by decide +kernel) ⟨Nat.le_of_ble_eq_true rfl, Nat.le_of_ble_eq_true rfl⟩ (HT.recv (ci := 12) hkb hH t_a0 (hO.no t_a0 (by decide)) rfl) rfl rfl hl.1 (Nat.le_of_ble_eq_true rfl) dX12_goesTurn_165 ⟨Nat.le_of_ble_eq_true rfl, Nat.le_of_ble_eq_true rfl⟩) (fun u H locs hz9 hH hS => ?_)
                      obtain ⟨rfl⟩ := hz9
                      have hH : HT D cs A T O X H := hH
                      refine W.widen (k := 0) (n := 0) (Nat.le_of_ble_eq_true rfl) (Nat.le_of_ble_eq_true rfl) ?_
                      refine lv_iconst (v := 0) hx hb dX12_goesTurn_168 (by decide) ?_
                      have J171 : ∀ (n : Nat) (p171_6 : Int32) (H : Heap) (locs : List Loc) (ls : Array Slot), (31 - p171_6.toInt).toNat = n → (0 ≤ p171_6.toInt) → (p171_6.toInt ≤ 31) → HT D cs A T O X H → va_S A s.heap H locs → lv_has ls 7 [(6, .int p171_6), (4, .int p89_4), (0, .ref a0), (1, .int x1), (2, .int x2), (3, .int x3)] → W p l e { frames := 9, cells := 0, slots := 0, locals := 218 } s m [.ref a0, .int x1, .int x2, .int x3].toArray below meth c H locs 0 0 (MQ below (Tv D cs (fun u => u = (T, O, X)) A) [.ref a0, .int x1, .int x2, .int x3].toArray s 0 0 A) (F0 m 171 ls []) := by
                        intro n
                        induction n using Nat.strongRecOn with
                        | _ n ih171 =>
                          intro p171_6 H locs ls hm171 l_p171_6 u_p171_6 hH hS hl
                          refine lv_iload hx hb dX12_goesTurn_171 (lv_at hl 0 rfl) ?_
                          refine lv_bipush (v := 31) hx hb dX12_goesTurn_173 (by decide) ?_
                          refine lv_icmp_ge (tgt := 206) hx hb dX12_goesTurn_175 (by decide) (fun c175 => ?_) (fun c175 => ?_)
                          · skip
                            have tc175 := f_ge (k := 31) (by decide) c175
                            exact J206  _ _ _  hH hS (lv_sub hl [1, 2, 3, 4, 5] rfl)
                          · skip
                            have tc175 := f_nge (k := 31) (by decide) c175
                            refine lv_aload_n hx hb dX12_goesTurn_178 rfl (lv_at hl 2 rfl) ?_
                            refine t_get (ci := 12) (lst := ft12 hg mq) (C := RX12) (F := TX12) (N := 36) hx hb hts uX12 hown hkb hH t_a0 (hO.no t_a0 (by decide)) (fun _ h9 => h9) rfl rfl 1 (by decide) rfl kw_1224 (fun _ h9 => h9) dX12_goesTurn_179 (fun v9 h9 => ?_)
                            obtain ⟨v179, rfl, t_v179⟩ := h9
                            refine lv_bipush (v := 59) hx hb dX12_goesTurn_182 (by decide) ?_
                            refine lv_iload hx hb dX12_goesTurn_184 (lv_at hl 0 rfl) ?_
                            refine lv_iadd hx hb dX12_goesTurn_186 ?_
                            refine lv_topi (fun v186 ev186 => ?_)
                            have tv186 : v186.toInt = (59) + p171_6.toInt := by rw [ev186]; exact add_i (by decide : (59 : Int32).toInt = 59) rfl (by omega) (by omega)
                            refine lv_aload_n hx hb dX12_goesTurn_187 rfl (lv_at hl 2 rfl) ?_
                            refine t_get (ci := 12) (lst := ft12 hg mq) (C := RX12) (F := TX12) (N := 36) hx hb hts uX12 hown hkb hH t_a0 (hO.no t_a0 (by decide)) (fun _ h9 => h9) rfl rfl 31 (by decide) rfl kw_1254 (fun _ h9 => h9) dX12_goesTurn_188 (fun v9 h9 => ?_)
                            obtain ⟨v188, rfl, t_v188⟩ := h9
                            refine lv_bipush (v := 31) hx hb dX12_goesTurn_191 (by decide) ?_
                            refine lv_iload_n hx hb dX12_goesTurn_193 rfl (lv_at hl 3 rfl) ?_
                            refine lv_imul hx hb dX12_goesTurn_194 ?_
                            refine lv_topi (fun v194 ev194 => ?_)
                            have tv194 : v194.toInt = (31) * x1.toInt := by rw [ev194]; exact mul_i (by decide : (31 : Int32).toInt = 31) rfl (by omega) (by omega)
                            refine lv_iload hx hb dX12_goesTurn_195 (lv_at hl 0 rfl) ?_
                            refine lv_iadd hx hb dX12_goesTurn_197 ?_
                            refine lv_topi (fun v197 ev197 => ?_)
                            have tv197 : v197.toInt = v194.toInt + p171_6.toInt := by rw [ev197]; exact add_i rfl rfl (by omega) (by omega)
                            refine t_ild hx hb hkb hH t_v188 (hO.no t_v188 (by decide)) (by omega) (by omega) dX12_goesTurn_198 (fun v198 h9 => ?_)
                            refine t_ist8 hx hb hkb hH hS t_v179 (hO.no t_v179 (by decide)) (by decide) (by omega) (by omega) (by omega) (by omega) (p8_far (by omega) (by omega)) dX12_goesTurn_199 (fun H locs hH hS => ?_)
                            obtain ⟨v200, ev200⟩ : ∃ y : Int32, y = p171_6 + 1 := ⟨_, rfl⟩
                            have tv200 : v200.toInt = p171_6.toInt + (1) := by rw [ev200]; exact add_i rfl (by decide) (by omega) (by omega)
                            refine lv_iinc (v := v200) (lv' := [(6, .int v200), (4, .int p89_4), (0, .ref a0), (1, .int x1), (2, .int x2), (3, .int x3)]) hx hb dX12_goesTurn_200 hl (k := 0) rfl (by rw [ev200]; rfl) (by decide) rfl (fun ls hl => ?_)
                            refine lv_goto (tgt := 171) hx hb dX12_goesTurn_203 (by decide) ?_
                            exact ih171 _ (by omega) v200 _ _ _ rfl (by omega) (by omega) hH hS (lv_sub hl [0, 1, 2, 3, 4, 5] rfl)
                      refine lv_istore (lv' := [(6, .int 0), (4, .int p89_4), (0, .ref a0), (1, .int x1), (2, .int x2), (3, .int x3)]) hx hb dX12_goesTurn_169 hl (by decide) rfl (fun ls hl => ?_)
                      exact J171 _ 0 _ _ _ rfl (by decide) (by decide) hH hS (lv_sub hl [0, 1, 2, 3, 4, 5] rfl)
                    refine lv_if_eq (tgt := 163) hx hb dX12_goesTurn_156 (by decide) (fun c156 => ?_) (fun c156 => ?_)
                    · skip
                      have tc156 := f_eq (k := 0) (by decide) c156
                      refine lv_iconst (v := 0) hx hb dX12_goesTurn_163 (by decide) ?_
                      exact J164 0 _ _ _ (by decide) (by decide) hH hS (lv_sub hl [1, 2, 3, 4, 5] rfl)
                    · skip
                      have tc156 := f_ne (k := 0) (by decide) c156
                      refine lv_iconst (v := 1) hx hb dX12_goesTurn_159 (by decide) ?_
                      refine lv_goto (tgt := 164) hx hb dX12_goesTurn_160 (by decide) ?_
                      exact J164 1 _ _ _ (by decide) (by decide) hH hS (lv_sub hl [1, 2, 3, 4, 5] rfl)
                  refine lv_if_eq (tgt := 141) hx hb dX12_goesTurn_131 (by decide) (fun c131 => ?_) (fun c131 => ?_)
                  · skip
                    have tc131 := f_eq (k := 0) (by decide) c131
                    exact J141  _ _ _  hH hS (lv_sub hl [0, 1, 2, 3, 4, 5] rfl)
                  · skip
                    have tc131 := f_ne (k := 0) (by decide) c131
                    refine lv_aload_n hx hb dX12_goesTurn_134 rfl (lv_at hl 2 rfl) ?_
                    refine lv_iload hx hb dX12_goesTurn_135 (lv_at hl 1 rfl) ?_
                    refine tk_i hH hS hA (tr_V (n := 1) (As := [.int p89_4]) hx hb hml hown hts hkb hH hOX hks hE hS hA (s_M_usesRow l D cs kf T O X a0 hg mq p89_4 t_a0 b_hg (hO.sub (by decide))) kw_1548 kw_1550 ks_80 kw_13 kw_1551 (by decide +kernel) ⟨Nat.le_of_ble_eq_true rfl, Nat.le_of_ble_eq_true rfl⟩ (HT.recv (ci := 12) hkb hH t_a0 (hO.no t_a0 (by decide)) rfl) rfl rfl hl.1 (Nat.le_of_ble_eq_true rfl) dX12_goesTurn_137 ⟨Nat.le_of_ble_eq_true rfl, Nat.le_of_ble_eq_true rfl⟩) (fun v137 u H locs hz9 hH hS => ?_)
                    have hz9 : u = (T, O, X) := hz9
                    subst hz9
                    have hH : HT D cs A T O X H := hH
                    refine W.widen (k := 0) (n := 0) (Nat.le_of_ble_eq_true rfl) (Nat.le_of_ble_eq_true rfl) ?_
                    refine lv_pop hx hb dX12_goesTurn_140 rfl ?_
                    exact J141  _ _ _  hH hS (lv_sub hl [0, 1, 2, 3, 4, 5] rfl)
                · skip
                  have tc107 := f_eq (k := 0) (by decide) c107
                  refine lv_goto (tgt := 206) hx hb dX12_goesTurn_110 (by decide) ?_
                  exact J206  _ _ _  hH hS (lv_sub hl [0, 1, 2, 3, 4] rfl)
          refine lv_istore (lv' := [(4, .int 0), (0, .ref a0), (1, .int x1), (2, .int x2), (3, .int x3)]) hx hb dX12_goesTurn_87 hl (by decide) rfl (fun ls hl => ?_)
          exact J89 _ 0 _ _ _ rfl (by decide) (by decide) hH hS (lv_sub hl [0, 1, 2, 3, 4] rfl)
        · skip
          have tc55 := f_nge (k := 31) (by decide) c55
          refine lv_aload_n hx hb dX12_goesTurn_58 rfl (lv_at hl 1 rfl) ?_
          refine t_get (ci := 12) (lst := ft12 hg mq) (C := RX12) (F := TX12) (N := 36) hx hb hts uX12 hown hkb hH t_a0 (hO.no t_a0 (by decide)) (fun _ h9 => h9) rfl rfl 31 (by decide) rfl kw_1254 (fun _ h9 => h9) dX12_goesTurn_59 (fun v9 h9 => ?_)
          obtain ⟨v59, rfl, t_v59⟩ := h9
          refine lv_bipush (v := 31) hx hb dX12_goesTurn_62 (by decide) ?_
          refine lv_iload_n hx hb dX12_goesTurn_64 rfl (lv_at hl 2 rfl) ?_
          refine lv_imul hx hb dX12_goesTurn_65 ?_
          refine lv_topi (fun v65 ev65 => ?_)
          have tv65 : v65.toInt = (31) * x1.toInt := by rw [ev65]; exact mul_i (by decide : (31 : Int32).toInt = 31) rfl (by omega) (by omega)
          refine lv_iload hx hb dX12_goesTurn_66 (lv_at hl 0 rfl) ?_
          refine lv_iadd hx hb dX12_goesTurn_68 ?_
          refine lv_topi (fun v68 ev68 => ?_)
          have tv68 : v68.toInt = v65.toInt + p51_4.toInt := by rw [ev68]; exact add_i rfl rfl (by omega) (by omega)
          refine lv_aload_n hx hb dX12_goesTurn_69 rfl (lv_at hl 1 rfl) ?_
          refine t_get (ci := 12) (lst := ft12 hg mq) (C := RX12) (F := TX12) (N := 36) hx hb hts uX12 hown hkb hH t_a0 (hO.no t_a0 (by decide)) (fun _ h9 => h9) rfl rfl 1 (by decide) rfl kw_1224 (fun _ h9 => h9) dX12_goesTurn_70 (fun v9 h9 => ?_)
          obtain ⟨v70, rfl, t_v70⟩ := h9
          refine lv_bipush (v := 59) hx hb dX12_goesTurn_73 (by decide) ?_
          refine lv_iload hx hb dX12_goesTurn_75 (lv_at hl 0 rfl) ?_
          refine lv_iadd hx hb dX12_goesTurn_77 ?_
          refine lv_topi (fun v77 ev77 => ?_)
          have tv77 : v77.toInt = (59) + p51_4.toInt := by rw [ev77]; exact add_i (by decide : (59 : Int32).toInt = 59) rfl (by omega) (by omega)
          refine t_ild8 hx hb hkb hH t_v70 (hO.no t_v70 (by decide)) (by decide) (by omega) (by omega) dX12_goesTurn_78 (fun v78 h9 h8 => ?_)
          refine t_ist hx hb hkb hH hS t_v59 (hO.no t_v59 (by decide)) (by omega) (by omega) (cp_0 _) dX12_goesTurn_79 (fun H locs hH hS => ?_)
          obtain ⟨v80, ev80⟩ : ∃ y : Int32, y = p51_4 + 1 := ⟨_, rfl⟩
          have tv80 : v80.toInt = p51_4.toInt + (1) := by rw [ev80]; exact add_i rfl (by decide) (by omega) (by omega)
          refine lv_iinc (v := v80) (lv' := [(4, .int v80), (0, .ref a0), (1, .int x1), (2, .int x2), (3, .int x3)]) hx hb dX12_goesTurn_80 hl (k := 0) rfl (by rw [ev80]; rfl) (by decide) rfl (fun ls hl => ?_)
          refine lv_goto (tgt := 51) hx hb dX12_goesTurn_83 (by decide) ?_
          exact ih51 _ (by omega) v80 _ _ _ rfl (by omega) (by omega) hH hS (lv_sub hl [0, 1, 2, 3, 4] rfl)
    refine lv_istore (lv' := [(4, .int 0), (0, .ref a0), (1, .int x1), (2, .int x2), (3, .int x3)]) hx hb dX12_goesTurn_49 hl (by decide) rfl (fun ls hl => ?_)
    exact J51 _ 0 _ _ _ rfl (by decide) (by decide) hH hS (lv_sub hl [0, 1, 2, 3, 4] rfl)
  · skip
    have tc1 := f_eq (k := 0) (by decide) c1
    refine lv_iload_n hx hb dX12_goesTurn_4 rfl (lv_at hl 3 rfl) ?_
    refine lv_aload_n hx hb dX12_goesTurn_5 rfl (lv_at hl 0 rfl) ?_
    refine t_get (ci := 12) (lst := ft12 hg mq) (C := RX12) (F := TX12) (N := 36) hx hb hts uX12 hown hkb hH t_a0 (hO.no t_a0 (by decide)) (fun _ h9 => h9) rfl rfl 32 (by decide) rfl kw_1255 (fun _ h9 => h9) dX12_goesTurn_6 (fun v9 h9 => ?_)
    obtain ⟨v6, rfl⟩ := h9
    refine lv_icmp_gt (tgt := 13) hx hb dX12_goesTurn_9 (by decide) (fun c9 => ?_) (fun c9 => ?_)
    · skip
      have fuc9 := full_i x3
      have fvc9 := full_i v6
      have tc9 := g_lt c9
      refine lv_aload_n hx hb dX12_goesTurn_13 rfl (lv_at hl 0 rfl) ?_
      refine lv_iload_n hx hb dX12_goesTurn_14 rfl (lv_at hl 3 rfl) ?_
      refine t_put (ci := 12) (lst := ft12 hg mq) (v := .int x3) (ty := tyX12 32) (C := RX12) (F := TX12) (N := 36) hx hb hts uX12 tyX12 tyX12_ok nmX12 hown hkb hH hS t_a0 (hO.no t_a0 (by decide)) (fun _ => Iff.rfl) rfl rfl 32 (by decide) rfl (⟨_, rfl⟩) kw_1255 (fun _ h9 => h9) rfl (tyX12_ok 32 (by decide)) rfl rfl dX12_goesTurn_15 (fun H locs hH hS => ?_)
      refine lv_iconst (v := 0) hx hb dX12_goesTurn_18 (by decide) ?_
      have J21 : ∀ (n : Nat) (p21_4 : Int32) (H : Heap) (locs : List Loc) (ls : Array Slot), (1 - p21_4.toInt).toNat = n → (0 ≤ p21_4.toInt) → (p21_4.toInt ≤ 1) → HT D cs A T O X H → va_S A s.heap H locs → lv_has ls 7 [(4, .int p21_4), (0, .ref a0), (1, .int x1)] → W p l e { frames := 9, cells := 0, slots := 0, locals := 218 } s m [.ref a0, .int x1, .int x2, .int x3].toArray below meth c H locs 0 0 (MQ below (Tv D cs (fun u => u = (T, O, X)) A) [.ref a0, .int x1, .int x2, .int x3].toArray s 0 0 A) (F0 m 21 ls []) := by
        intro n
        induction n using Nat.strongRecOn with
        | _ n ih21 =>
          intro p21_4 H locs ls hm21 l_p21_4 u_p21_4 hH hS hl
          refine lv_iload hx hb dX12_goesTurn_21 (lv_at hl 0 rfl) ?_
          refine lv_iload_n hx hb dX12_goesTurn_23 rfl (lv_at hl 2 rfl) ?_
          refine lv_icmp_ge (tgt := 47) hx hb dX12_goesTurn_24 (by decide) (fun c24 => ?_) (fun c24 => ?_)
          · skip
            have fuc24 := full_i p21_4
            have fvc24 := full_i x1
            have tc24 := g_le c24
            exact te_v hx hb hr hlocks hH hS (rfl) dX12_goesTurn_47
          · skip
            have fuc24 := full_i p21_4
            have fvc24 := full_i x1
            have tc24 := g_nle c24
            refine lv_aload_n hx hb dX12_goesTurn_27 rfl (lv_at hl 1 rfl) ?_
            refine t_get (ci := 12) (lst := ft12 hg mq) (C := RX12) (F := TX12) (N := 36) hx hb hts uX12 hown hkb hH t_a0 (hO.no t_a0 (by decide)) (fun _ h9 => h9) rfl rfl 30 (by decide) rfl kw_1253 (fun _ h9 => h9) dX12_goesTurn_28 (fun v9 h9 => ?_)
            obtain ⟨v28, rfl, t_v28⟩ := h9
            refine lv_iload hx hb dX12_goesTurn_31 (lv_at hl 0 rfl) ?_
            refine lv_aload_n hx hb dX12_goesTurn_33 rfl (lv_at hl 1 rfl) ?_
            refine t_get (ci := 12) (lst := ft12 hg mq) (C := RX12) (F := TX12) (N := 36) hx hb hts uX12 hown hkb hH t_a0 (hO.no t_a0 (by decide)) (fun _ h9 => h9) rfl rfl 29 (by decide) rfl kw_1252 (fun _ h9 => h9) dX12_goesTurn_34 (fun v9 h9 => ?_)
            obtain ⟨v34, rfl, t_v34⟩ := h9
            refine lv_iload hx hb dX12_goesTurn_37 (lv_at hl 0 rfl) ?_
            refine t_ild hx hb hkb hH t_v34 (hO.no t_v34 (by decide)) (by omega) (by omega) dX12_goesTurn_39 (fun v39 h9 => ?_)
            refine t_ist hx hb hkb hH hS t_v28 (hO.no t_v28 (by decide)) (by omega) (by omega) (cp_0 _) dX12_goesTurn_40 (fun H locs hH hS => ?_)
            obtain ⟨v41, ev41⟩ : ∃ y : Int32, y = p21_4 + 1 := ⟨_, rfl⟩
            have tv41 : v41.toInt = p21_4.toInt + (1) := by rw [ev41]; exact add_i rfl (by decide) (by omega) (by omega)
            refine lv_iinc (v := v41) (lv' := [(4, .int v41), (0, .ref a0), (1, .int x1)]) hx hb dX12_goesTurn_41 hl (k := 0) rfl (by rw [ev41]; rfl) (by decide) rfl (fun ls hl => ?_)
            refine lv_goto (tgt := 21) hx hb dX12_goesTurn_44 (by decide) ?_
            exact ih21 _ (by omega) v41 _ _ _ rfl (by omega) (by omega) hH hS (lv_sub hl [0, 1, 2] rfl)
      refine lv_istore (lv' := [(4, .int 0), (0, .ref a0), (1, .int x1), (2, .int x2), (3, .int x3)]) hx hb dX12_goesTurn_19 hl (by decide) rfl (fun ls hl => ?_)
      exact J21 _ 0 _ _ _ rfl (by decide) (by decide) hH hS (lv_sub hl [0, 1, 2] rfl)
    · skip
      have fuc9 := full_i x3
      have fvc9 := full_i v6
      have tc9 := g_nlt c9
      exact te_v hx hb hr hlocks hH hS (rfl) dX12_goesTurn_12
set_option maxHeartbeats 4000000 in
set_option maxRecDepth 100000 in
theorem s_M_goesTurn0 (l : Launch) (D : va_G) (cs : CS) (kf : KF) (T : TF) (O : List Nat) (X : va_W) (a0 hg mq : Nat) (x1 : Int32) (x2 : Int32) (x3 : Int32) (t_a0 : T a0 = some (22, hg, mq)) (b_hg : hg < 90) (l_x1 : 0 ≤ x1.toInt) (u_x1 : x1.toInt ≤ 0) (l_x2 : 0 ≤ x2.toInt) (u_x2 : x2.toInt ≤ 31) (hp : pcn 5 x2.toInt.toNat ≤ 5) (hO : okO T O [1, 8, 9, 22]) : TK l D cs kf yX12_goesTurn cX12_goesTurn 7 none { frames := 10, cells := 0, slots := 0, locals := 244 } [.ref a0, .int x1, .int x2, .int x3] T O X (Tv D cs (fun u => u = (T, O, X))) := by
  refine tk_of (by decide) (Nat.le_of_ble_eq_true rfl) (fun p e s m below meth c ls A H locs hx hb hr hml hown hts hlocks hnm hkb hH hS hA hOX hks hE hl => ?_)
  have hown : s.vm.findClass RX12 = some m.cls := hown
  have hl : lv_has ls 7 [(0, .ref a0), (1, .int x1), (2, .int x2), (3, .int x3)] := hl
  refine lv_iload_n hx hb dX12_goesTurn_0 rfl (lv_at hl 2 rfl) ?_
  refine lv_if_ne (tgt := 48) hx hb dX12_goesTurn_1 (by decide) (fun c1 => ?_) (fun c1 => ?_)
  · skip
    have tc1 := f_ne (k := 0) (by decide) c1
    refine lv_iconst (v := 0) hx hb dX12_goesTurn_48 (by decide) ?_
    have J51 : ∀ (n : Nat) (p51_4 : Int32) (H : Heap) (locs : List Loc) (ls : Array Slot), (31 - p51_4.toInt).toNat = n → (0 ≤ p51_4.toInt) → (p51_4.toInt ≤ 31) → HT D cs A T O X H → va_S A s.heap H locs → lv_has ls 7 [(4, .int p51_4), (0, .ref a0), (1, .int x1), (2, .int x2), (3, .int x3)] → W p l e { frames := 10, cells := 0, slots := 0, locals := 244 } s m [.ref a0, .int x1, .int x2, .int x3].toArray below meth c H locs 0 0 (MQ below (Tv D cs (fun u => u = (T, O, X)) A) [.ref a0, .int x1, .int x2, .int x3].toArray s 0 0 A) (F0 m 51 ls []) := by
      intro n
      induction n using Nat.strongRecOn with
      | _ n ih51 =>
        intro p51_4 H locs ls hm51 l_p51_4 u_p51_4 hH hS hl
        refine lv_iload hx hb dX12_goesTurn_51 (lv_at hl 0 rfl) ?_
        refine lv_bipush (v := 31) hx hb dX12_goesTurn_53 (by decide) ?_
        refine lv_icmp_ge (tgt := 86) hx hb dX12_goesTurn_55 (by decide) (fun c55 => ?_) (fun c55 => ?_)
        · skip
          have tc55 := f_ge (k := 31) (by decide) c55
          refine lv_iconst (v := 0) hx hb dX12_goesTurn_86 (by decide) ?_
          have J89 : ∀ (n : Nat) (p89_4 : Int32) (H : Heap) (locs : List Loc) (ls : Array Slot), (5 - p89_4.toInt).toNat = n → (0 ≤ p89_4.toInt) → (p89_4.toInt ≤ 5) → HT D cs A T O X H → va_S A s.heap H locs → lv_has ls 7 [(4, .int p89_4), (0, .ref a0), (1, .int x1), (2, .int x2), (3, .int x3)] → W p l e { frames := 10, cells := 0, slots := 0, locals := 244 } s m [.ref a0, .int x1, .int x2, .int x3].toArray below meth c H locs 0 0 (MQ below (Tv D cs (fun u => u = (T, O, X)) A) [.ref a0, .int x1, .int x2, .int x3].toArray s 0 0 A) (F0 m 89 ls []) := by
            intro n
            induction n using Nat.strongRecOn with
            | _ n ih89 =>
              intro p89_4 H locs ls hm89 l_p89_4 u_p89_4 hH hS hl
              refine lv_iload hx hb dX12_goesTurn_89 (lv_at hl 0 rfl) ?_
              refine lv_aload_n hx hb dX12_goesTurn_91 rfl (lv_at hl 1 rfl) ?_
              refine t_get (ci := 12) (lst := ft12 hg mq) (C := RX12) (F := TX12) (N := 36) hx hb hts uX12 hown hkb hH t_a0 (hO.no t_a0 (by decide)) (fun _ h9 => h9) rfl rfl 1 (by decide) rfl kw_1224 (fun _ h9 => h9) dX12_goesTurn_92 (fun v9 h9 => ?_)
              obtain ⟨v92, rfl, t_v92⟩ := h9
              refine lv_iconst (v := 2) hx hb dX12_goesTurn_95 (by decide) ?_
              refine t_ild8 hx hb hkb hH t_v92 (hO.no t_v92 (by decide)) (by decide) (by decide) (by decide) dX12_goesTurn_96 (fun v96 h9 h8 => ?_)
              have q9 := (h8 rfl).2 rfl
              subst q9
              have eG9 : (nI (hg % 6)).toInt = (((hg % 6) : Nat) : Int) := nI_toInt (by omega)
              refine lv_icmp_ge (tgt := 212) hx hb dX12_goesTurn_97 (by decide) (fun c97 => ?_) (fun c97 => ?_)
              · skip
                have fuc97 := full_i p89_4
                have fvc97 := full_i (nI (hg % 6))
                have tc97 := g_le c97
                exact te_v hx hb hr hlocks hH hS (rfl) dX12_goesTurn_212
              · skip
                have fuc97 := full_i p89_4
                have fvc97 := full_i (nI (hg % 6))
                have tc97 := g_nle c97
                refine lv_iload_n hx hb dX12_goesTurn_100 rfl (lv_at hl 3 rfl) ?_
                refine lv_i2l hx hb dX12_goesTurn_101 rfl ?_
                refine lv_iload hx hb dX12_goesTurn_102 (lv_at hl 0 rfl) ?_
                refine tk_i hH hS hA (tr_S (n := 2) (As := [.long x2.toInt64, .int p89_4]) hx hb hml hown hts hkb hH hOX hks hE hS hA (s_M_isIn2 l D cs kf T O X x2.toInt64 p89_4  (hO.sub (by decide))) kw_1440 kw_1441 kw_13 kw_1442 (by decide +kernel) ⟨Nat.le_of_ble_eq_true rfl, Nat.le_of_ble_eq_true rfl⟩ rfl rfl hl.1 (Nat.le_of_ble_eq_true rfl) dX12_goesTurn_104 ⟨Nat.le_of_ble_eq_true rfl, Nat.le_of_ble_eq_true rfl⟩) (fun v104 u H locs hz9 hH hS => ?_)
                obtain ⟨rfl, l_v104, u_v104, x_v1040⟩ := hz9
                have hH : HT D cs A T O X H := hH
                refine W.widen (k := 0) (n := 0) (Nat.le_of_ble_eq_true rfl) (Nat.le_of_ble_eq_true rfl) ?_
                have J206 : ∀  (H : Heap) (locs : List Loc) (ls : Array Slot), HT D cs A T O X H → va_S A s.heap H locs → lv_has ls 7 [(4, .int p89_4), (0, .ref a0), (1, .int x1), (2, .int x2), (3, .int x3)] → W p l e { frames := 10, cells := 0, slots := 0, locals := 244 } s m [.ref a0, .int x1, .int x2, .int x3].toArray below meth c H locs 0 0 (MQ below (Tv D cs (fun u => u = (T, O, X)) A) [.ref a0, .int x1, .int x2, .int x3].toArray s 0 0 A) (F0 m 206 ls []) := by
                  intro  H locs ls  hH hS hl
                  obtain ⟨v206, ev206⟩ : ∃ y : Int32, y = p89_4 + 1 := ⟨_, rfl⟩
                  have tv206 : v206.toInt = p89_4.toInt + (1) := by rw [ev206]; exact add_i rfl (by decide) (by omega) (by omega)
                  refine lv_iinc (v := v206) (lv' := [(4, .int v206), (0, .ref a0), (1, .int x1), (2, .int x2), (3, .int x3)]) hx hb dX12_goesTurn_206 hl (k := 0) rfl (by rw [ev206]; rfl) (by decide) rfl (fun ls hl => ?_)
                  refine lv_goto (tgt := 89) hx hb dX12_goesTurn_209 (by decide) ?_
                  exact ih89 _ (by omega) v206 _ _ _ rfl (by omega) (by omega) hH hS (lv_sub hl [0, 1, 2, 3, 4] rfl)
                refine lv_if_ne (tgt := 113) hx hb dX12_goesTurn_107 (by decide) (fun c107 => ?_) (fun c107 => ?_)
                · skip
                  have tc107 := f_ne (k := 0) (by decide) c107
                  refine lv_aload_n hx hb dX12_goesTurn_113 rfl (lv_at hl 1 rfl) ?_
                  refine t_get (ci := 12) (lst := ft12 hg mq) (C := RX12) (F := TX12) (N := 36) hx hb hts uX12 hown hkb hH t_a0 (hO.no t_a0 (by decide)) (fun _ h9 => h9) rfl rfl 29 (by decide) rfl kw_1252 (fun _ h9 => h9) dX12_goesTurn_114 (fun v9 h9 => ?_)
                  obtain ⟨v114, rfl, t_v114⟩ := h9
                  refine lv_iload_n hx hb dX12_goesTurn_117 rfl (lv_at hl 2 rfl) ?_
                  refine lv_iload hx hb dX12_goesTurn_118 (lv_at hl 0 rfl) ?_
                  refine t_ist hx hb hkb hH hS t_v114 (hO.no t_v114 (by decide)) (by omega) (by omega) (cp_0 _) dX12_goesTurn_120 (fun H locs hH hS => ?_)
                  refine lv_aload_n hx hb dX12_goesTurn_121 rfl (lv_at hl 1 rfl) ?_
                  refine lv_iload hx hb dX12_goesTurn_122 (lv_at hl 0 rfl) ?_
                  refine tk_i hH hS hA (tr_V (n := 1) (As := [.int p89_4]) hx hb hml hown hts hkb hH hOX hks hE hS hA (s_M_laysWayOf l D cs kf T O X a0 hg mq p89_4 t_a0 b_hg (by omega) (by omega) (hO.sub (by decide))) kw_1560 kw_1562 ks_82 kw_13 kw_1563 (by decide +kernel) ⟨Nat.le_of_ble_eq_true rfl, Nat.le_of_ble_eq_true rfl⟩ (HT.recv (ci := 12) hkb hH t_a0 (hO.no t_a0 (by decide)) rfl) rfl rfl hl.1 (Nat.le_of_ble_eq_true rfl) dX12_goesTurn_124 ⟨Nat.le_of_ble_eq_true rfl, Nat.le_of_ble_eq_true rfl⟩) (fun v124 u H locs hz9 hH hS => ?_)
                  obtain ⟨rfl, l_v124, u_v124⟩ := hz9
                  have hH : HT D cs A T O X H := hH
                  refine W.widen (k := 0) (n := 0) (Nat.le_of_ble_eq_true rfl) (Nat.le_of_ble_eq_true rfl) ?_
                  refine lv_istore (lv' := [(5, .int v124), (4, .int p89_4), (0, .ref a0), (1, .int x1), (2, .int x2), (3, .int x3)]) hx hb dX12_goesTurn_127 hl (by decide) rfl (fun ls hl => ?_)
                  refine lv_iload hx hb dX12_goesTurn_129 (lv_at hl 0 rfl) ?_
                  have J141 : ∀  (H : Heap) (locs : List Loc) (ls : Array Slot), HT D cs A T O X H → va_S A s.heap H locs → lv_has ls 7 [(5, .int v124), (4, .int p89_4), (0, .ref a0), (1, .int x1), (2, .int x2), (3, .int x3)] → W p l e { frames := 10, cells := 0, slots := 0, locals := 244 } s m [.ref a0, .int x1, .int x2, .int x3].toArray below meth c H locs 0 0 (MQ below (Tv D cs (fun u => u = (T, O, X)) A) [.ref a0, .int x1, .int x2, .int x3].toArray s 0 0 A) (F0 m 141 ls []) := by
                    intro  H locs ls  hH hS hl
                    refine lv_aload_n hx hb dX12_goesTurn_141 rfl (lv_at hl 2 rfl) ?_
                    refine lv_iload_n hx hb dX12_goesTurn_142 rfl (lv_at hl 3 rfl) ?_
                    refine lv_iconst (v := 1) hx hb dX12_goesTurn_143 (by decide) ?_
                    refine lv_iadd hx hb dX12_goesTurn_144 ?_
                    refine lv_topi (fun v144 ev144 => ?_)
                    have tv144 : v144.toInt = x1.toInt + (1) := by rw [ev144]; exact add_i rfl (by decide : (1 : Int32).toInt = 1) (by omega) (by omega)
                    refine lv_iload_n hx hb dX12_goesTurn_145 rfl (lv_at hl 4 rfl) ?_
                    refine lv_iconst (v := 1) hx hb dX12_goesTurn_146 (by decide) ?_
                    refine lv_iload hx hb dX12_goesTurn_147 (lv_at hl 1 rfl) ?_
                    refine lv_ishl hx hb dX12_goesTurn_149 ?_
                    refine lv_topi (fun v149 ev149 => ?_)
                    have tv149 : 1 ≤ v149.toInt ∧ v149.toInt ≤ 16 := by rw [ev149]; exact shl_b 4 (by decide) (by omega) (by omega)
                    refine lv_iconst (v := (-1)) hx hb dX12_goesTurn_150 (by decide) ?_
                    refine lv_ixor hx hb dX12_goesTurn_151 ?_
                    refine lv_topi (fun v151 ev151 => ?_)
                    refine lv_iand hx hb dX12_goesTurn_152 ?_
                    refine lv_topi (fun v152 ev152 => ?_)
                    have tv152 : 0 ≤ v152.toInt ∧ v152.toInt ≤ x2.toInt := by rw [ev152]; exact and_l (by omega)
                    have hp9 := gt_step (by omega) (by omega) (by omega) (by omega) (inF_nz x_v1040 tc107) ev149 ev151 ev152
                    refine lv_iload_n hx hb dX12_goesTurn_153 rfl (lv_at hl 5 rfl) ?_
                    refine lv_iload hx hb dX12_goesTurn_154 (lv_at hl 0 rfl) ?_
                    have J164 : ∀ (k164_0 : Int32) (H : Heap) (locs : List Loc) (ls : Array Slot), (0 ≤ k164_0.toInt) → (k164_0.toInt ≤ 1) → HT D cs A T O X H → va_S A s.heap H locs → lv_has ls 7 [(4, .int p89_4), (0, .ref a0), (1, .int x1), (2, .int x2), (3, .int x3)] → W p l e { frames := 10, cells := 0, slots := 0, locals := 244 } s m [.ref a0, .int x1, .int x2, .int x3].toArray below meth c H locs 0 0 (MQ below (Tv D cs (fun u => u = (T, O, X)) A) [.ref a0, .int x1, .int x2, .int x3].toArray s 0 0 A) (F0 m 164 ls [.int k164_0, .int x3, .int v152, .int v144, .ref a0]) := by
                      intro k164_0 H locs ls l_k164_0 u_k164_0 hH hS hl
                      refine lv_iadd hx hb dX12_goesTurn_164 ?_
                      refine lv_topi (fun v164 ev164 => ?_)
                      refine tk_v hH hS hA (tr_V (n := 3) (As := [.int v144, .int v152, .int v164]) hx hb hml hown hts hkb hH hOX hks hE hS hA (s_M_goesTurn1 l D cs kf T O X a0 hg mq v144 v152 v164 t_a0 b_hg (by omega) (by omega) (by omega) (by omega) (by omega) (hO.sub (by decide))) kw_1756 kw_1758 ks_103 kw_13 kw_1759 (by decide +kernel) ⟨Nat.le_of_ble_eq_true rfl, Nat.le_of_ble_eq_true rfl⟩ (HT.recv (ci := 12) hkb hH t_a0 (hO.no t_a0 (by decide)) rfl) rfl rfl hl.1 (Nat.le_of_ble_eq_true rfl) dX12_goesTurn_165 ⟨Nat.le_of_ble_eq_true rfl, Nat.le_of_ble_eq_true rfl⟩) (fun u H locs hz9 hH hS => ?_)
                      obtain ⟨rfl⟩ := hz9
                      have hH : HT D cs A T O X H := hH
                      refine W.widen (k := 0) (n := 0) (Nat.le_of_ble_eq_true rfl) (Nat.le_of_ble_eq_true rfl) ?_
                      refine lv_iconst (v := 0) hx hb dX12_goesTurn_168 (by decide) ?_
                      have J171 : ∀ (n : Nat) (p171_6 : Int32) (H : Heap) (locs : List Loc) (ls : Array Slot), (31 - p171_6.toInt).toNat = n → (0 ≤ p171_6.toInt) → (p171_6.toInt ≤ 31) → HT D cs A T O X H → va_S A s.heap H locs → lv_has ls 7 [(6, .int p171_6), (4, .int p89_4), (0, .ref a0), (1, .int x1), (2, .int x2), (3, .int x3)] → W p l e { frames := 10, cells := 0, slots := 0, locals := 244 } s m [.ref a0, .int x1, .int x2, .int x3].toArray below meth c H locs 0 0 (MQ below (Tv D cs (fun u => u = (T, O, X)) A) [.ref a0, .int x1, .int x2, .int x3].toArray s 0 0 A) (F0 m 171 ls []) := by
                        intro n
                        induction n using Nat.strongRecOn with
                        | _ n ih171 =>
                          intro p171_6 H locs ls hm171 l_p171_6 u_p171_6 hH hS hl
                          refine lv_iload hx hb dX12_goesTurn_171 (lv_at hl 0 rfl) ?_
                          refine lv_bipush (v := 31) hx hb dX12_goesTurn_173 (by decide) ?_
                          refine lv_icmp_ge (tgt := 206) hx hb dX12_goesTurn_175 (by decide) (fun c175 => ?_) (fun c175 => ?_)
                          · skip
                            have tc175 := f_ge (k := 31) (by decide) c175
                            exact J206  _ _ _  hH hS (lv_sub hl [1, 2, 3, 4, 5] rfl)
                          · skip
                            have tc175 := f_nge (k := 31) (by decide) c175
                            refine lv_aload_n hx hb dX12_goesTurn_178 rfl (lv_at hl 2 rfl) ?_
                            refine t_get (ci := 12) (lst := ft12 hg mq) (C := RX12) (F := TX12) (N := 36) hx hb hts uX12 hown hkb hH t_a0 (hO.no t_a0 (by decide)) (fun _ h9 => h9) rfl rfl 1 (by decide) rfl kw_1224 (fun _ h9 => h9) dX12_goesTurn_179 (fun v9 h9 => ?_)
                            obtain ⟨v179, rfl, t_v179⟩ := h9
                            refine lv_bipush (v := 59) hx hb dX12_goesTurn_182 (by decide) ?_
                            refine lv_iload hx hb dX12_goesTurn_184 (lv_at hl 0 rfl) ?_
                            refine lv_iadd hx hb dX12_goesTurn_186 ?_
                            refine lv_topi (fun v186 ev186 => ?_)
                            have tv186 : v186.toInt = (59) + p171_6.toInt := by rw [ev186]; exact add_i (by decide : (59 : Int32).toInt = 59) rfl (by omega) (by omega)
                            refine lv_aload_n hx hb dX12_goesTurn_187 rfl (lv_at hl 2 rfl) ?_
                            refine t_get (ci := 12) (lst := ft12 hg mq) (C := RX12) (F := TX12) (N := 36) hx hb hts uX12 hown hkb hH t_a0 (hO.no t_a0 (by decide)) (fun _ h9 => h9) rfl rfl 31 (by decide) rfl kw_1254 (fun _ h9 => h9) dX12_goesTurn_188 (fun v9 h9 => ?_)
                            obtain ⟨v188, rfl, t_v188⟩ := h9
                            refine lv_bipush (v := 31) hx hb dX12_goesTurn_191 (by decide) ?_
                            refine lv_iload_n hx hb dX12_goesTurn_193 rfl (lv_at hl 3 rfl) ?_
                            refine lv_imul hx hb dX12_goesTurn_194 ?_
                            refine lv_topi (fun v194 ev194 => ?_)
                            have tv194 : v194.toInt = (31) * x1.toInt := by rw [ev194]; exact mul_i (by decide : (31 : Int32).toInt = 31) rfl (by omega) (by omega)
                            refine lv_iload hx hb dX12_goesTurn_195 (lv_at hl 0 rfl) ?_
                            refine lv_iadd hx hb dX12_goesTurn_197 ?_
                            refine lv_topi (fun v197 ev197 => ?_)
                            have tv197 : v197.toInt = v194.toInt + p171_6.toInt := by rw [ev197]; exact add_i rfl rfl (by omega) (by omega)
                            refine t_ild hx hb hkb hH t_v188 (hO.no t_v188 (by decide)) (by omega) (by omega) dX12_goesTurn_198 (fun v198 h9 => ?_)
                            refine t_ist8 hx hb hkb hH hS t_v179 (hO.no t_v179 (by decide)) (by decide) (by omega) (by omega) (by omega) (by omega) (p8_far (by omega) (by omega)) dX12_goesTurn_199 (fun H locs hH hS => ?_)
                            obtain ⟨v200, ev200⟩ : ∃ y : Int32, y = p171_6 + 1 := ⟨_, rfl⟩
                            have tv200 : v200.toInt = p171_6.toInt + (1) := by rw [ev200]; exact add_i rfl (by decide) (by omega) (by omega)
                            refine lv_iinc (v := v200) (lv' := [(6, .int v200), (4, .int p89_4), (0, .ref a0), (1, .int x1), (2, .int x2), (3, .int x3)]) hx hb dX12_goesTurn_200 hl (k := 0) rfl (by rw [ev200]; rfl) (by decide) rfl (fun ls hl => ?_)
                            refine lv_goto (tgt := 171) hx hb dX12_goesTurn_203 (by decide) ?_
                            exact ih171 _ (by omega) v200 _ _ _ rfl (by omega) (by omega) hH hS (lv_sub hl [0, 1, 2, 3, 4, 5] rfl)
                      refine lv_istore (lv' := [(6, .int 0), (4, .int p89_4), (0, .ref a0), (1, .int x1), (2, .int x2), (3, .int x3)]) hx hb dX12_goesTurn_169 hl (by decide) rfl (fun ls hl => ?_)
                      exact J171 _ 0 _ _ _ rfl (by decide) (by decide) hH hS (lv_sub hl [0, 1, 2, 3, 4, 5] rfl)
                    refine lv_if_eq (tgt := 163) hx hb dX12_goesTurn_156 (by decide) (fun c156 => ?_) (fun c156 => ?_)
                    · skip
                      have tc156 := f_eq (k := 0) (by decide) c156
                      refine lv_iconst (v := 0) hx hb dX12_goesTurn_163 (by decide) ?_
                      exact J164 0 _ _ _ (by decide) (by decide) hH hS (lv_sub hl [1, 2, 3, 4, 5] rfl)
                    · skip
                      have tc156 := f_ne (k := 0) (by decide) c156
                      refine lv_iconst (v := 1) hx hb dX12_goesTurn_159 (by decide) ?_
                      refine lv_goto (tgt := 164) hx hb dX12_goesTurn_160 (by decide) ?_
                      exact J164 1 _ _ _ (by decide) (by decide) hH hS (lv_sub hl [1, 2, 3, 4, 5] rfl)
                  refine lv_if_eq (tgt := 141) hx hb dX12_goesTurn_131 (by decide) (fun c131 => ?_) (fun c131 => ?_)
                  · skip
                    have tc131 := f_eq (k := 0) (by decide) c131
                    exact J141  _ _ _  hH hS (lv_sub hl [0, 1, 2, 3, 4, 5] rfl)
                  · skip
                    have tc131 := f_ne (k := 0) (by decide) c131
                    refine lv_aload_n hx hb dX12_goesTurn_134 rfl (lv_at hl 2 rfl) ?_
                    refine lv_iload hx hb dX12_goesTurn_135 (lv_at hl 1 rfl) ?_
                    refine tk_i hH hS hA (tr_V (n := 1) (As := [.int p89_4]) hx hb hml hown hts hkb hH hOX hks hE hS hA (s_M_usesRow l D cs kf T O X a0 hg mq p89_4 t_a0 b_hg (hO.sub (by decide))) kw_1548 kw_1550 ks_80 kw_13 kw_1551 (by decide +kernel) ⟨Nat.le_of_ble_eq_true rfl, Nat.le_of_ble_eq_true rfl⟩ (HT.recv (ci := 12) hkb hH t_a0 (hO.no t_a0 (by decide)) rfl) rfl rfl hl.1 (Nat.le_of_ble_eq_true rfl) dX12_goesTurn_137 ⟨Nat.le_of_ble_eq_true rfl, Nat.le_of_ble_eq_true rfl⟩) (fun v137 u H locs hz9 hH hS => ?_)
                    have hz9 : u = (T, O, X) := hz9
                    subst hz9
                    have hH : HT D cs A T O X H := hH
                    refine W.widen (k := 0) (n := 0) (Nat.le_of_ble_eq_true rfl) (Nat.le_of_ble_eq_true rfl) ?_
                    refine lv_pop hx hb dX12_goesTurn_140 rfl ?_
                    exact J141  _ _ _  hH hS (lv_sub hl [0, 1, 2, 3, 4, 5] rfl)
                · skip
                  have tc107 := f_eq (k := 0) (by decide) c107
                  refine lv_goto (tgt := 206) hx hb dX12_goesTurn_110 (by decide) ?_
                  exact J206  _ _ _  hH hS (lv_sub hl [0, 1, 2, 3, 4] rfl)
          refine lv_istore (lv' := [(4, .int 0), (0, .ref a0), (1, .int x1), (2, .int x2), (3, .int x3)]) hx hb dX12_goesTurn_87 hl (by decide) rfl (fun ls hl => ?_)
          exact J89 _ 0 _ _ _ rfl (by decide) (by decide) hH hS (lv_sub hl [0, 1, 2, 3, 4] rfl)
        · skip
          have tc55 := f_nge (k := 31) (by decide) c55
          refine lv_aload_n hx hb dX12_goesTurn_58 rfl (lv_at hl 1 rfl) ?_
          refine t_get (ci := 12) (lst := ft12 hg mq) (C := RX12) (F := TX12) (N := 36) hx hb hts uX12 hown hkb hH t_a0 (hO.no t_a0 (by decide)) (fun _ h9 => h9) rfl rfl 31 (by decide) rfl kw_1254 (fun _ h9 => h9) dX12_goesTurn_59 (fun v9 h9 => ?_)
          obtain ⟨v59, rfl, t_v59⟩ := h9
          refine lv_bipush (v := 31) hx hb dX12_goesTurn_62 (by decide) ?_
          refine lv_iload_n hx hb dX12_goesTurn_64 rfl (lv_at hl 2 rfl) ?_
          refine lv_imul hx hb dX12_goesTurn_65 ?_
          refine lv_topi (fun v65 ev65 => ?_)
          have tv65 : v65.toInt = (31) * x1.toInt := by rw [ev65]; exact mul_i (by decide : (31 : Int32).toInt = 31) rfl (by omega) (by omega)
          refine lv_iload hx hb dX12_goesTurn_66 (lv_at hl 0 rfl) ?_
          refine lv_iadd hx hb dX12_goesTurn_68 ?_
          refine lv_topi (fun v68 ev68 => ?_)
          have tv68 : v68.toInt = v65.toInt + p51_4.toInt := by rw [ev68]; exact add_i rfl rfl (by omega) (by omega)
          refine lv_aload_n hx hb dX12_goesTurn_69 rfl (lv_at hl 1 rfl) ?_
          refine t_get (ci := 12) (lst := ft12 hg mq) (C := RX12) (F := TX12) (N := 36) hx hb hts uX12 hown hkb hH t_a0 (hO.no t_a0 (by decide)) (fun _ h9 => h9) rfl rfl 1 (by decide) rfl kw_1224 (fun _ h9 => h9) dX12_goesTurn_70 (fun v9 h9 => ?_)
          obtain ⟨v70, rfl, t_v70⟩ := h9
          refine lv_bipush (v := 59) hx hb dX12_goesTurn_73 (by decide) ?_
          refine lv_iload hx hb dX12_goesTurn_75 (lv_at hl 0 rfl) ?_
          refine lv_iadd hx hb dX12_goesTurn_77 ?_
          refine lv_topi (fun v77 ev77 => ?_)
          have tv77 : v77.toInt = (59) + p51_4.toInt := by rw [ev77]; exact add_i (by decide : (59 : Int32).toInt = 59) rfl (by omega) (by omega)
          refine t_ild8 hx hb hkb hH t_v70 (hO.no t_v70 (by decide)) (by decide) (by omega) (by omega) dX12_goesTurn_78 (fun v78 h9 h8 => ?_)
          refine t_ist hx hb hkb hH hS t_v59 (hO.no t_v59 (by decide)) (by omega) (by omega) (cp_0 _) dX12_goesTurn_79 (fun H locs hH hS => ?_)
          obtain ⟨v80, ev80⟩ : ∃ y : Int32, y = p51_4 + 1 := ⟨_, rfl⟩
          have tv80 : v80.toInt = p51_4.toInt + (1) := by rw [ev80]; exact add_i rfl (by decide) (by omega) (by omega)
          refine lv_iinc (v := v80) (lv' := [(4, .int v80), (0, .ref a0), (1, .int x1), (2, .int x2), (3, .int x3)]) hx hb dX12_goesTurn_80 hl (k := 0) rfl (by rw [ev80]; rfl) (by decide) rfl (fun ls hl => ?_)
          refine lv_goto (tgt := 51) hx hb dX12_goesTurn_83 (by decide) ?_
          exact ih51 _ (by omega) v80 _ _ _ rfl (by omega) (by omega) hH hS (lv_sub hl [0, 1, 2, 3, 4] rfl)
    refine lv_istore (lv' := [(4, .int 0), (0, .ref a0), (1, .int x1), (2, .int x2), (3, .int x3)]) hx hb dX12_goesTurn_49 hl (by decide) rfl (fun ls hl => ?_)
    exact J51 _ 0 _ _ _ rfl (by decide) (by decide) hH hS (lv_sub hl [0, 1, 2, 3, 4] rfl)
  · skip
    have tc1 := f_eq (k := 0) (by decide) c1
    refine lv_iload_n hx hb dX12_goesTurn_4 rfl (lv_at hl 3 rfl) ?_
    refine lv_aload_n hx hb dX12_goesTurn_5 rfl (lv_at hl 0 rfl) ?_
    refine t_get (ci := 12) (lst := ft12 hg mq) (C := RX12) (F := TX12) (N := 36) hx hb hts uX12 hown hkb hH t_a0 (hO.no t_a0 (by decide)) (fun _ h9 => h9) rfl rfl 32 (by decide) rfl kw_1255 (fun _ h9 => h9) dX12_goesTurn_6 (fun v9 h9 => ?_)
    obtain ⟨v6, rfl⟩ := h9
    refine lv_icmp_gt (tgt := 13) hx hb dX12_goesTurn_9 (by decide) (fun c9 => ?_) (fun c9 => ?_)
    · skip
      have fuc9 := full_i x3
      have fvc9 := full_i v6
      have tc9 := g_lt c9
      refine lv_aload_n hx hb dX12_goesTurn_13 rfl (lv_at hl 0 rfl) ?_
      refine lv_iload_n hx hb dX12_goesTurn_14 rfl (lv_at hl 3 rfl) ?_
      refine t_put (ci := 12) (lst := ft12 hg mq) (v := .int x3) (ty := tyX12 32) (C := RX12) (F := TX12) (N := 36) hx hb hts uX12 tyX12 tyX12_ok nmX12 hown hkb hH hS t_a0 (hO.no t_a0 (by decide)) (fun _ => Iff.rfl) rfl rfl 32 (by decide) rfl (⟨_, rfl⟩) kw_1255 (fun _ h9 => h9) rfl (tyX12_ok 32 (by decide)) rfl rfl dX12_goesTurn_15 (fun H locs hH hS => ?_)
      refine lv_iconst (v := 0) hx hb dX12_goesTurn_18 (by decide) ?_
      refine lv_istore (lv' := [(4, .int 0), (0, .ref a0), (1, .int x1), (2, .int x2), (3, .int x3)]) hx hb dX12_goesTurn_19 hl (by decide) rfl (fun ls hl => ?_)
      refine lv_iload hx hb dX12_goesTurn_21 (lv_at hl 0 rfl) ?_
      refine lv_iload_n hx hb dX12_goesTurn_23 rfl (lv_at hl 2 rfl) ?_
      refine lv_icmp_ge (tgt := 47) hx hb dX12_goesTurn_24 (by decide) (fun c24 => ?_) (fun c24 => ?_)
      · skip
        have tc24 := f_le (k := 0) (by decide) c24
        exact te_v hx hb hr hlocks hH hS (rfl) dX12_goesTurn_47
      · skip
        have tc24 := f_nle (k := 0) (by decide) c24
        exfalso; omega
    · skip
      have fuc9 := full_i x3
      have fvc9 := full_i v6
      have tc9 := g_nlt c9
      exact te_v hx hb hr hlocks hH hS (rfl) dX12_goesTurn_12
set_option maxHeartbeats 4000000 in
set_option maxRecDepth 100000 in
theorem s_M_inTurn (l : Launch) (D : va_G) (cs : CS) (kf : KF) (T : TF) (O : List Nat) (X : va_W) (a0 hg mq : Nat) (x1 : Int32) (x2 : Int32) (t_a0 : T a0 = some (22, hg, mq)) (b_hg : hg < 90) (hO : okO T O [1, 8, 9, 22]) : TK l D cs kf yX12_inTurn cX12_inTurn 3 (some (.int)) { frames := 11, cells := 0, slots := 0, locals := 270 } [.ref a0, .int x1, .int x2] T O X (Ti D cs (fun r u => u = (T, O, X))) := by
  refine tk_of (by decide) (Nat.le_of_ble_eq_true rfl) (fun p e s m below meth c ls A H locs hx hb hr hml hown hts hlocks hnm hkb hH hS hA hOX hks hE hl => ?_)
  have hown : s.vm.findClass RX12 = some m.cls := hown
  have hl : lv_has ls 3 [(0, .ref a0), (1, .int x1), (2, .int x2)] := hl
  refine lv_aload_n hx hb dX12_inTurn_0 rfl (lv_at hl 0 rfl) ?_
  refine lv_iconst (v := 0) hx hb dX12_inTurn_1 (by decide) ?_
  refine t_put (ci := 12) (lst := ft12 hg mq) (v := .int 0) (ty := tyX12 0) (C := RX12) (F := TX12) (N := 36) hx hb hts uX12 tyX12 tyX12_ok nmX12 hown hkb hH hS t_a0 (hO.no t_a0 (by decide)) (fun _ => Iff.rfl) rfl rfl 0 (by decide) rfl (⟨_, rfl⟩) kw_1223 (fun _ h9 => h9) rfl (tyX12_ok 0 (by decide)) rfl rfl dX12_inTurn_2 (fun H locs hH hS => ?_)
  refine lv_iload_n hx hb dX12_inTurn_5 rfl (lv_at hl 1 rfl) ?_
  refine lv_i2l hx hb dX12_inTurn_6 rfl ?_
  refine lv_lconst (v := 0) hx hb dX12_inTurn_7 (by decide) ?_
  refine lv_iconst (v := 1) hx hb dX12_inTurn_8 (by decide) ?_
  refine lv_aload_n hx hb dX12_inTurn_9 rfl (lv_at hl 0 rfl) ?_
  refine t_get (ci := 12) (lst := ft12 hg mq) (C := RX12) (F := TX12) (N := 36) hx hb hts uX12 hown hkb hH t_a0 (hO.no t_a0 (by decide)) (fun _ h9 => h9) rfl rfl 1 (by decide) rfl kw_1224 (fun _ h9 => h9) dX12_inTurn_10 (fun v9 h9 => ?_)
  obtain ⟨v10, rfl, t_v10⟩ := h9
  refine lv_iconst (v := 2) hx hb dX12_inTurn_13 (by decide) ?_
  refine t_ild8 hx hb hkb hH t_v10 (hO.no t_v10 (by decide)) (by decide) (by decide) (by decide) dX12_inTurn_14 (fun v14 h9 h8 => ?_)
  have q9 := (h8 rfl).2 rfl
  subst q9
  have eG9 : (nI (hg % 6)).toInt = (((hg % 6) : Nat) : Int) := nI_toInt (by omega)
  refine lv_ishl hx hb dX12_inTurn_15 ?_
  refine lv_topi (fun v15 ev15 => ?_)
  have tv15 : 1 ≤ v15.toInt ∧ v15.toInt ≤ 32 := by rw [ev15]; exact shl_b 5 (by decide) (by omega) (by omega)
  refine lv_iconst (v := 1) hx hb dX12_inTurn_16 (by decide) ?_
  refine lv_isub hx hb dX12_inTurn_17 ?_
  refine lv_topi (fun v17 ev17 => ?_)
  have tv17 : v17.toInt = v15.toInt - (1) := by rw [ev17]; exact sub_i rfl (by decide : (1 : Int32).toInt = 1) (by omega) (by omega)
  refine lv_i2l hx hb dX12_inTurn_18 rfl ?_
  refine tk_i hH hS hA (tr_S (n := 3) (As := [.long x1.toInt64, .long 0, .long v17.toInt64]) hx hb hml hown hts hkb hH hOX hks hE hS hA (s_M_within l D cs kf T O X x1.toInt64 0 v17.toInt64  (hO.sub (by decide))) kw_1341 kw_1342 kw_13 kw_1343 (by decide +kernel) ⟨Nat.le_of_ble_eq_true rfl, Nat.le_of_ble_eq_true rfl⟩ rfl rfl hl.1 (Nat.le_of_ble_eq_true rfl) dX12_inTurn_19 ⟨Nat.le_of_ble_eq_true rfl, Nat.le_of_ble_eq_true rfl⟩) (fun v19 u H locs hz9 hH hS => ?_)
  obtain ⟨rfl, l_v19, u_v19, x_v190, x_v191⟩ := hz9
  simp only [Int32.toInt_toInt64] at x_v190 x_v191
  have k9_0 : (0 : Int64).toInt = 0 := by decide
  have hH : HT D cs A T O X H := hH
  refine W.widen (k := 0) (n := 0) (Nat.le_of_ble_eq_true rfl) (Nat.le_of_ble_eq_true rfl) ?_
  refine lv_if_ne (tgt := 28) hx hb dX12_inTurn_22 (by decide) (fun c22 => ?_) (fun c22 => ?_)
  · skip
    have tc22 := f_ne (k := 0) (by decide) c22
    replace x_v190 := x_v190.resolve_left tc22
    clear x_v191
    refine lv_iload_n hx hb dX12_inTurn_28 rfl (lv_at hl 2 rfl) ?_
    refine lv_if_eq (tgt := 49) hx hb dX12_inTurn_29 (by decide) (fun c29 => ?_) (fun c29 => ?_)
    · skip
      have tc29 := f_eq (k := 0) (by decide) c29
      refine lv_aload_n hx hb dX12_inTurn_49 rfl (lv_at hl 0 rfl) ?_
      refine lv_iconst (v := (-1)) hx hb dX12_inTurn_50 (by decide) ?_
      refine t_put (ci := 12) (lst := ft12 hg mq) (v := .int (-1)) (ty := tyX12 32) (C := RX12) (F := TX12) (N := 36) hx hb hts uX12 tyX12 tyX12_ok nmX12 hown hkb hH hS t_a0 (hO.no t_a0 (by decide)) (fun _ => Iff.rfl) rfl rfl 32 (by decide) rfl (⟨_, rfl⟩) kw_1255 (fun _ h9 => h9) rfl (tyX12_ok 32 (by decide)) rfl rfl dX12_inTurn_51 (fun H locs hH hS => ?_)
      have hpl := pcn_le 5 x1.toInt.toNat
      refine lv_aload_n hx hb dX12_inTurn_54 rfl (lv_at hl 0 rfl) ?_
      refine lv_iconst (v := 0) hx hb dX12_inTurn_55 (by decide) ?_
      refine lv_iload_n hx hb dX12_inTurn_56 rfl (lv_at hl 1 rfl) ?_
      refine lv_iconst (v := 0) hx hb dX12_inTurn_57 (by decide) ?_
      have z9_0 : (0 : Int32).toInt = 0 := by decide
      have z9_0 : (0 : Int32).toInt = 0 := by decide
      refine tk_v hH hS hA (tr_V (n := 3) (As := [.int 0, .int x1, .int 0]) hx hb hml hown hts hkb hH hOX hks hE hS hA (s_M_goesTurn0 l D cs kf T O X a0 hg mq (0) x1 (0) t_a0 b_hg (by decide) (by decide) (by omega) (by omega) (by omega) (hO.sub (by decide))) kw_1756 kw_1758 ks_103 kw_13 kw_1759 (by decide +kernel) ⟨Nat.le_of_ble_eq_true rfl, Nat.le_of_ble_eq_true rfl⟩ (HT.recv (ci := 12) hkb hH t_a0 (hO.no t_a0 (by decide)) rfl) rfl rfl hl.1 (Nat.le_of_ble_eq_true rfl) dX12_inTurn_58 ⟨Nat.le_of_ble_eq_true rfl, Nat.le_of_ble_eq_true rfl⟩) (fun u H locs hz9 hH hS => ?_)
      obtain ⟨rfl⟩ := hz9
      have hH : HT D cs A T O X H := hH
      refine W.widen (k := 0) (n := 0) (Nat.le_of_ble_eq_true rfl) (Nat.le_of_ble_eq_true rfl) ?_
      refine lv_iload_n hx hb dX12_inTurn_61 rfl (lv_at hl 2 rfl) ?_
      refine lv_if_ne (tgt := 72) hx hb dX12_inTurn_62 (by decide) (fun c62 => ?_) (fun c62 => ?_)
      · skip
        have tc62 := f_ne (k := 0) (by decide) c62
        exfalso; omega
      · skip
        have tc62 := f_eq (k := 0) (by decide) c62
        refine lv_aload_n hx hb dX12_inTurn_65 rfl (lv_at hl 0 rfl) ?_
        refine t_get (ci := 12) (lst := ft12 hg mq) (C := RX12) (F := TX12) (N := 36) hx hb hts uX12 hown hkb hH t_a0 (hO.no t_a0 (by decide)) (fun _ h9 => h9) rfl rfl 32 (by decide) rfl kw_1255 (fun _ h9 => h9) dX12_inTurn_66 (fun v9 h9 => ?_)
        obtain ⟨v66, rfl⟩ := h9
        refine lv_goto (tgt := 96) hx hb dX12_inTurn_69 (by decide) ?_
        exact te_i hx hb hr hlocks hH hS (rfl) dX12_inTurn_96
    · skip
      have tc29 := f_ne (k := 0) (by decide) c29
      refine lv_iload_n hx hb dX12_inTurn_32 rfl (lv_at hl 2 rfl) ?_
      refine lv_i2l hx hb dX12_inTurn_33 rfl ?_
      refine lv_ldc2 hx hb hown (hts _ kw_1602) dX12_inTurn_34 ?_
      refine lv_ldc2 hx hb hown (hts _ kw_1581) dX12_inTurn_37 ?_
      refine tk_i hH hS hA (tr_S (n := 3) (As := [.long x2.toInt64, .long 10, .long 14]) hx hb hml hown hts hkb hH hOX hks hE hS hA (s_M_within l D cs kf T O X x2.toInt64 10 14  (hO.sub (by decide))) kw_1341 kw_1342 kw_13 kw_1343 (by decide +kernel) ⟨Nat.le_of_ble_eq_true rfl, Nat.le_of_ble_eq_true rfl⟩ rfl rfl hl.1 (Nat.le_of_ble_eq_true rfl) dX12_inTurn_40 ⟨Nat.le_of_ble_eq_true rfl, Nat.le_of_ble_eq_true rfl⟩) (fun v40 u H locs hz9 hH hS => ?_)
      obtain ⟨rfl, l_v40, u_v40, x_v400, x_v401⟩ := hz9
      simp only [Int32.toInt_toInt64] at x_v400 x_v401
      have k9_10 : (10 : Int64).toInt = 10 := by decide
      have k9_14 : (14 : Int64).toInt = 14 := by decide
      have hH : HT D cs A T O X H := hH
      refine W.widen (k := 0) (n := 0) (Nat.le_of_ble_eq_true rfl) (Nat.le_of_ble_eq_true rfl) ?_
      refine lv_if_ne (tgt := 49) hx hb dX12_inTurn_43 (by decide) (fun c43 => ?_) (fun c43 => ?_)
      · skip
        have tc43 := f_ne (k := 0) (by decide) c43
        replace x_v400 := x_v400.resolve_left tc43
        clear x_v401
        refine lv_aload_n hx hb dX12_inTurn_49 rfl (lv_at hl 0 rfl) ?_
        refine lv_iconst (v := (-1)) hx hb dX12_inTurn_50 (by decide) ?_
        refine t_put (ci := 12) (lst := ft12 hg mq) (v := .int (-1)) (ty := tyX12 32) (C := RX12) (F := TX12) (N := 36) hx hb hts uX12 tyX12 tyX12_ok nmX12 hown hkb hH hS t_a0 (hO.no t_a0 (by decide)) (fun _ => Iff.rfl) rfl rfl 32 (by decide) rfl (⟨_, rfl⟩) kw_1255 (fun _ h9 => h9) rfl (tyX12_ok 32 (by decide)) rfl rfl dX12_inTurn_51 (fun H locs hH hS => ?_)
        have hpl := pcn_le 5 x1.toInt.toNat
        refine lv_aload_n hx hb dX12_inTurn_54 rfl (lv_at hl 0 rfl) ?_
        refine lv_iconst (v := 0) hx hb dX12_inTurn_55 (by decide) ?_
        refine lv_iload_n hx hb dX12_inTurn_56 rfl (lv_at hl 1 rfl) ?_
        refine lv_iconst (v := 0) hx hb dX12_inTurn_57 (by decide) ?_
        have z9_0 : (0 : Int32).toInt = 0 := by decide
        have z9_0 : (0 : Int32).toInt = 0 := by decide
        refine tk_v hH hS hA (tr_V (n := 3) (As := [.int 0, .int x1, .int 0]) hx hb hml hown hts hkb hH hOX hks hE hS hA (s_M_goesTurn0 l D cs kf T O X a0 hg mq (0) x1 (0) t_a0 b_hg (by decide) (by decide) (by omega) (by omega) (by omega) (hO.sub (by decide))) kw_1756 kw_1758 ks_103 kw_13 kw_1759 (by decide +kernel) ⟨Nat.le_of_ble_eq_true rfl, Nat.le_of_ble_eq_true rfl⟩ (HT.recv (ci := 12) hkb hH t_a0 (hO.no t_a0 (by decide)) rfl) rfl rfl hl.1 (Nat.le_of_ble_eq_true rfl) dX12_inTurn_58 ⟨Nat.le_of_ble_eq_true rfl, Nat.le_of_ble_eq_true rfl⟩) (fun u H locs hz9 hH hS => ?_)
        obtain ⟨rfl⟩ := hz9
        have hH : HT D cs A T O X H := hH
        refine W.widen (k := 0) (n := 0) (Nat.le_of_ble_eq_true rfl) (Nat.le_of_ble_eq_true rfl) ?_
        refine lv_iload_n hx hb dX12_inTurn_61 rfl (lv_at hl 2 rfl) ?_
        refine lv_if_ne (tgt := 72) hx hb dX12_inTurn_62 (by decide) (fun c62 => ?_) (fun c62 => ?_)
        · skip
          have tc62 := f_ne (k := 0) (by decide) c62
          refine lv_iload_n hx hb dX12_inTurn_72 rfl (lv_at hl 2 rfl) ?_
          refine lv_bipush (v := 10) hx hb dX12_inTurn_73 (by decide) ?_
          refine lv_isub hx hb dX12_inTurn_75 ?_
          refine lv_topi (fun v75 ev75 => ?_)
          have tv75 : v75.toInt = x2.toInt - (10) := by rw [ev75]; exact sub_i rfl (by decide : (10 : Int32).toInt = 10) (by omega) (by omega)
          refine lv_iload_n hx hb dX12_inTurn_76 rfl (lv_at hl 1 rfl) ?_
          refine tk_i hH hS hA (tr_S (n := 1) (As := [.int x1]) hx hb hml hown hts hkb hH hOX hks hE hS hA (s_M_bitsOf l D cs kf T O X x1  (hO.sub (by decide))) kw_1631 kw_1632 kw_13 kw_1633 (by decide +kernel) ⟨Nat.le_of_ble_eq_true rfl, Nat.le_of_ble_eq_true rfl⟩ rfl rfl hl.1 (Nat.le_of_ble_eq_true rfl) dX12_inTurn_77 ⟨Nat.le_of_ble_eq_true rfl, Nat.le_of_ble_eq_true rfl⟩) (fun v77 u H locs hz9 hH hS => ?_)
          have hz9 : u = (T, O, X) := hz9
          subst hz9
          have hH : HT D cs A T O X H := hH
          refine W.widen (k := 0) (n := 0) (Nat.le_of_ble_eq_true rfl) (Nat.le_of_ble_eq_true rfl) ?_
          refine lv_icmp_ge (tgt := 95) hx hb dX12_inTurn_80 (by decide) (fun c80 => ?_) (fun c80 => ?_)
          · skip
            have fuc80 := full_i v75
            have fvc80 := full_i v77
            have tc80 := g_le c80
            refine lv_iconst (v := (-1)) hx hb dX12_inTurn_95 (by decide) ?_
            exact te_i hx hb hr hlocks hH hS (rfl) dX12_inTurn_96
          · skip
            have fuc80 := full_i v75
            have fvc80 := full_i v77
            have tc80 := g_nle c80
            refine lv_aload_n hx hb dX12_inTurn_83 rfl (lv_at hl 0 rfl) ?_
            refine t_get (ci := 12) (lst := ft12 hg mq) (C := RX12) (F := TX12) (N := 36) hx hb hts uX12 hown hkb hH t_a0 (hO.no t_a0 (by decide)) (fun _ h9 => h9) rfl rfl 30 (by decide) rfl kw_1253 (fun _ h9 => h9) dX12_inTurn_84 (fun v9 h9 => ?_)
            obtain ⟨v84, rfl, t_v84⟩ := h9
            refine lv_iload_n hx hb dX12_inTurn_87 rfl (lv_at hl 2 rfl) ?_
            refine lv_bipush (v := 10) hx hb dX12_inTurn_88 (by decide) ?_
            refine lv_isub hx hb dX12_inTurn_90 ?_
            refine lv_topi (fun v90 ev90 => ?_)
            have tv90 : v90.toInt = x2.toInt - (10) := by rw [ev90]; exact sub_i rfl (by decide : (10 : Int32).toInt = 10) (by omega) (by omega)
            refine t_ild hx hb hkb hH t_v84 (hO.no t_v84 (by decide)) (by omega) (by omega) dX12_inTurn_91 (fun v91 h9 => ?_)
            refine lv_goto (tgt := 96) hx hb dX12_inTurn_92 (by decide) ?_
            exact te_i hx hb hr hlocks hH hS (rfl) dX12_inTurn_96
        · skip
          have tc62 := f_eq (k := 0) (by decide) c62
          exfalso; omega
      · skip
        have tc43 := f_eq (k := 0) (by decide) c43
        clear x_v400
        replace x_v401 := x_v401.resolve_left (fun q9 => q9 tc43)
        refine lv_bipush (v := (-2)) hx hb dX12_inTurn_46 (by decide) ?_
        exact te_i hx hb hr hlocks hH hS (rfl) dX12_inTurn_48
  · skip
    have tc22 := f_eq (k := 0) (by decide) c22
    clear x_v190
    replace x_v191 := x_v191.resolve_left (fun q9 => q9 tc22)
    refine lv_bipush (v := (-3)) hx hb dX12_inTurn_25 (by decide) ?_
    exact te_i hx hb hr hlocks hH hS (rfl) dX12_inTurn_27
theorem dX12_whyNot_0 : decode cX12_whyNot 0 = .ok (.aload_n 0, 1) := by decide +kernel
theorem dX12_whyNot_1 : decode cX12_whyNot 1 = .ok (.lload_n 2, 1) := by decide +kernel
theorem dX12_whyNot_2 : decode cX12_whyNot 2 = .ok (.invokevirtual 218, 3) := by decide +kernel
theorem dX12_whyNot_5 : decode cX12_whyNot 5 = .ok (.ifCond .ne 5, 3) := by decide +kernel
theorem dX12_whyNot_8 : decode cX12_whyNot 8 = .ok (.iconst 1, 1) := by decide +kernel
theorem dX12_whyNot_9 : decode cX12_whyNot 9 = .ok (.ireturn, 1) := by decide +kernel
theorem dX12_whyNot_10 : decode cX12_whyNot 10 = .ok (.lload_n 2, 1) := by decide +kernel
theorem dX12_whyNot_11 : decode cX12_whyNot 11 = .ok (.l2i, 1) := by decide +kernel
theorem dX12_whyNot_12 : decode cX12_whyNot 12 = .ok (.istore 6, 2) := by decide +kernel
theorem dX12_whyNot_14 : decode cX12_whyNot 14 = .ok (.aload_n 0, 1) := by decide +kernel
theorem dX12_whyNot_15 : decode cX12_whyNot 15 = .ok (.iload 6, 2) := by decide +kernel
theorem dX12_whyNot_17 : decode cX12_whyNot 17 = .ok (.invokevirtual 215, 3) := by decide +kernel
theorem dX12_whyNot_20 : decode cX12_whyNot 20 = .ok (.ifCond .eq 14, 3) := by decide +kernel
theorem dX12_whyNot_23 : decode cX12_whyNot 23 = .ok (.iload 4, 2) := by decide +kernel
theorem dX12_whyNot_25 : decode cX12_whyNot 25 = .ok (.i2l, 1) := by decide +kernel
theorem dX12_whyNot_26 : decode cX12_whyNot 26 = .ok (.iload 6, 2) := by decide +kernel
theorem dX12_whyNot_28 : decode cX12_whyNot 28 = .ok (.invokestatic 186, 3) := by decide +kernel
theorem dX12_whyNot_31 : decode cX12_whyNot 31 = .ok (.ifCond .eq 5, 3) := by decide +kernel
theorem dX12_whyNot_34 : decode cX12_whyNot 34 = .ok (.iconst 2, 1) := by decide +kernel
theorem dX12_whyNot_35 : decode cX12_whyNot 35 = .ok (.ireturn, 1) := by decide +kernel
theorem dX12_whyNot_36 : decode cX12_whyNot 36 = .ok (.iload 5, 2) := by decide +kernel
theorem dX12_whyNot_38 : decode cX12_whyNot 38 = .ok (.iconst (-1), 1) := by decide +kernel
theorem dX12_whyNot_39 : decode cX12_whyNot 39 = .ok (.if_icmp .ne 24, 3) := by decide +kernel
theorem dX12_whyNot_42 : decode cX12_whyNot 42 = .ok (.aload_n 0, 1) := by decide +kernel
theorem dX12_whyNot_43 : decode cX12_whyNot 43 = .ok (.getfield 13, 3) := by decide +kernel
theorem dX12_whyNot_46 : decode cX12_whyNot 46 = .ok (.iconst 4, 1) := by decide +kernel
theorem dX12_whyNot_47 : decode cX12_whyNot 47 = .ok (.iaload, 1) := by decide +kernel
theorem dX12_whyNot_48 : decode cX12_whyNot 48 = .ok (.i2l, 1) := by decide +kernel
theorem dX12_whyNot_49 : decode cX12_whyNot 49 = .ok (.iload 6, 2) := by decide +kernel
theorem dX12_whyNot_51 : decode cX12_whyNot 51 = .ok (.invokestatic 186, 3) := by decide +kernel
theorem dX12_whyNot_54 : decode cX12_whyNot 54 = .ok (.ifCond .eq 7, 3) := by decide +kernel
theorem dX12_whyNot_57 : decode cX12_whyNot 57 = .ok (.iconst 0, 1) := by decide +kernel
theorem dX12_whyNot_58 : decode cX12_whyNot 58 = .ok (.goto 4, 3) := by decide +kernel
theorem dX12_whyNot_61 : decode cX12_whyNot 61 = .ok (.iconst 3, 1) := by decide +kernel
theorem dX12_whyNot_62 : decode cX12_whyNot 62 = .ok (.ireturn, 1) := by decide +kernel
theorem dX12_whyNot_63 : decode cX12_whyNot 63 = .ok (.aload_n 0, 1) := by decide +kernel
theorem dX12_whyNot_64 : decode cX12_whyNot 64 = .ok (.aload_n 0, 1) := by decide +kernel
theorem dX12_whyNot_65 : decode cX12_whyNot 65 = .ok (.getfield 13, 3) := by decide +kernel
theorem dX12_whyNot_68 : decode cX12_whyNot 68 = .ok (.bipush 49, 2) := by decide +kernel
theorem dX12_whyNot_70 : decode cX12_whyNot 70 = .ok (.iload_n 1, 1) := by decide +kernel
theorem dX12_whyNot_71 : decode cX12_whyNot 71 = .ok (.iadd, 1) := by decide +kernel
theorem dX12_whyNot_72 : decode cX12_whyNot 72 = .ok (.iaload, 1) := by decide +kernel
theorem dX12_whyNot_73 : decode cX12_whyNot 73 = .ok (.putfield 231, 3) := by decide +kernel
theorem dX12_whyNot_76 : decode cX12_whyNot 76 = .ok (.aload_n 0, 1) := by decide +kernel
theorem dX12_whyNot_77 : decode cX12_whyNot 77 = .ok (.getfield 13, 3) := by decide +kernel
theorem dX12_whyNot_80 : decode cX12_whyNot 80 = .ok (.iconst 5, 1) := by decide +kernel
theorem dX12_whyNot_81 : decode cX12_whyNot 81 = .ok (.iaload, 1) := by decide +kernel
theorem dX12_whyNot_82 : decode cX12_whyNot 82 = .ok (.i2l, 1) := by decide +kernel
theorem dX12_whyNot_83 : decode cX12_whyNot 83 = .ok (.iload 5, 2) := by decide +kernel
theorem dX12_whyNot_85 : decode cX12_whyNot 85 = .ok (.invokestatic 186, 3) := by decide +kernel
theorem dX12_whyNot_88 : decode cX12_whyNot 88 = .ok (.ifCond .ne 19, 3) := by decide +kernel
theorem dX12_whyNot_91 : decode cX12_whyNot 91 = .ok (.aload_n 0, 1) := by decide +kernel
theorem dX12_whyNot_92 : decode cX12_whyNot 92 = .ok (.iload_n 1, 1) := by decide +kernel
theorem dX12_whyNot_93 : decode cX12_whyNot 93 = .ok (.iload 5, 2) := by decide +kernel
theorem dX12_whyNot_95 : decode cX12_whyNot 95 = .ok (.iload 6, 2) := by decide +kernel
theorem dX12_whyNot_97 : decode cX12_whyNot 97 = .ok (.invokevirtual 246, 3) := by decide +kernel
theorem dX12_whyNot_100 : decode cX12_whyNot 100 = .ok (.ifCond .eq 7, 3) := by decide +kernel
theorem dX12_whyNot_103 : decode cX12_whyNot 103 = .ok (.iconst 0, 1) := by decide +kernel
theorem dX12_whyNot_104 : decode cX12_whyNot 104 = .ok (.goto 4, 3) := by decide +kernel
theorem dX12_whyNot_107 : decode cX12_whyNot 107 = .ok (.iconst 3, 1) := by decide +kernel
theorem dX12_whyNot_108 : decode cX12_whyNot 108 = .ok (.ireturn, 1) := by decide +kernel
