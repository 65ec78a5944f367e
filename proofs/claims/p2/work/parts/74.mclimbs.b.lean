set_option maxHeartbeats 4000000 in
set_option maxRecDepth 100000 in
theorem s_M_laysClimbs (l : Launch) (D : va_G) (cs : CS) (kf : KF) (T : TF) (O : List Nat) (X : va_W) (a0 hg mq : Nat) (x1 : Int32) (t_a0 : T a0 = some (22, hg, mq)) (b_hg : hg < 90) (hO : okO T O [2, 8, 9, 22]) : TK l D cs kf yX12_laysClimbs cX12_laysClimbs 9 none { frames := 1, cells := 0, slots := 0, locals := 22 } [.ref a0, .int x1] T O X (Tv D cs (fun u => u = (T, O, X))) := by
  refine tk_of (by decide) (Nat.le_of_ble_eq_true rfl) (fun p e s m below meth c ls A H locs hx hb hr hml hown hts hlocks hnm hkb hH hS hA hOX hks hE hl => ?_)
  have hown : s.vm.findClass RX12 = some m.cls := hown
  have hl : lv_has ls 9 [(0, .ref a0), (1, .int x1)] := hl
  refine lv_iconst (v := 1) hx hb dX12_laysClimbs_0 (by decide) ?_
  refine lv_aload_n hx hb dX12_laysClimbs_1 rfl (lv_at hl 0 rfl) ?_
  refine t_get (ci := 12) (lst := ft12 hg mq) (C := RX12) (F := TX12) (N := 36) hx hb hts uX12 hown hkb hH t_a0 (hO.no t_a0 (by decide)) (fun _ h9 => h9) rfl rfl 1 (by decide) rfl kw_1224 (fun _ h9 => h9) dX12_laysClimbs_2 (fun v9 h9 => ?_)
  obtain ⟨v2, rfl, t_v2⟩ := h9
  refine lv_iconst (v := 1) hx hb dX12_laysClimbs_5 (by decide) ?_
  refine t_ild8 hx hb hkb hH t_v2 (hO.no t_v2 (by decide)) (by decide) (by decide) (by decide) dX12_laysClimbs_6 (fun v6 h9 h8 => ?_)
  have q9 := (h8 rfl).1 rfl
  subst q9
  have eH9 : (nI (hg / 6)).toInt = (((hg / 6) : Nat) : Int) := nI_toInt (by omega)
  refine lv_ishl hx hb dX12_laysClimbs_7 ?_
  refine lv_topi (fun v7 ev7 => ?_)
  have tv7 : 1 ≤ v7.toInt ∧ v7.toInt ≤ 16384 := by rw [ev7]; exact shl_b 14 (by decide) (by omega) (by omega)
  refine lv_istore_n (lv' := [(2, .int v7), (0, .ref a0), (1, .int x1)]) hx hb dX12_laysClimbs_8 rfl hl (by decide) rfl (fun ls hl => ?_)
  refine lv_iconst (v := 0) hx hb dX12_laysClimbs_9 (by decide) ?_
  have J11 : ∀ (n : Nat) (p11_3 : Int32) (H : Heap) (locs : List Loc) (ls : Array Slot), (2147483647 - p11_3.toInt).toNat = n → (0 ≤ p11_3.toInt) → HT D cs A T O X H → va_S A s.heap H locs → lv_has ls 9 [(3, .int p11_3), (2, .int v7), (0, .ref a0), (1, .int x1)] → W p l e { frames := 1, cells := 0, slots := 0, locals := 22 } s m [.ref a0, .int x1].toArray below meth c H locs 0 0 (MQ below (Tv D cs (fun u => u = (T, O, X)) A) [.ref a0, .int x1].toArray s 0 0 A) (F0 m 11 ls []) := by
    intro n
    induction n using Nat.strongRecOn with
    | _ n ih11 =>
      intro p11_3 H locs ls hm11 l_p11_3 hH hS hl
      refine lv_iload_n hx hb dX12_laysClimbs_11 rfl (lv_at hl 0 rfl) ?_
      refine lv_bipush (v := 14) hx hb dX12_laysClimbs_12 (by decide) ?_
      refine lv_iload_n hx hb dX12_laysClimbs_14 rfl (lv_at hl 1 rfl) ?_
      refine lv_imul hx hb dX12_laysClimbs_15 ?_
      refine lv_topi (fun v15 ev15 => ?_)
      have tv15 : v15.toInt = (14) * v7.toInt := by rw [ev15]; exact mul_i (by decide : (14 : Int32).toInt = 14) rfl (by omega) (by omega)
      refine lv_icmp_ge (tgt := 32) hx hb dX12_laysClimbs_16 (by decide) (fun c16 => ?_) (fun c16 => ?_)
      · skip
        have fuc16 := full_i p11_3
        have fvc16 := full_i v15
        have tc16 := g_le c16
        refine lv_iconst (v := 0) hx hb dX12_laysClimbs_32 (by decide) ?_
        have J34 : ∀ (n : Nat) (p34_3 : Int32) (H : Heap) (locs : List Loc) (ls : Array Slot), (14 - p34_3.toInt).toNat = n → (0 ≤ p34_3.toInt) → (p34_3.toInt ≤ 14) → HT D cs A T O X H → va_S A s.heap H locs → lv_has ls 9 [(3, .int p34_3), (2, .int v7), (0, .ref a0), (1, .int x1)] → W p l e { frames := 1, cells := 0, slots := 0, locals := 22 } s m [.ref a0, .int x1].toArray below meth c H locs 0 0 (MQ below (Tv D cs (fun u => u = (T, O, X)) A) [.ref a0, .int x1].toArray s 0 0 A) (F0 m 34 ls []) := by
          intro n
          induction n using Nat.strongRecOn with
          | _ n ih34 =>
            intro p34_3 H locs ls hm34 l_p34_3 u_p34_3 hH hS hl
            refine lv_iload_n hx hb dX12_laysClimbs_34 rfl (lv_at hl 0 rfl) ?_
            refine lv_aload_n hx hb dX12_laysClimbs_35 rfl (lv_at hl 2 rfl) ?_
            refine t_get (ci := 12) (lst := ft12 hg mq) (C := RX12) (F := TX12) (N := 36) hx hb hts uX12 hown hkb hH t_a0 (hO.no t_a0 (by decide)) (fun _ h9 => h9) rfl rfl 1 (by decide) rfl kw_1224 (fun _ h9 => h9) dX12_laysClimbs_36 (fun v9 h9 => ?_)
            obtain ⟨v36, rfl, t_v36⟩ := h9
            refine lv_iconst (v := 1) hx hb dX12_laysClimbs_39 (by decide) ?_
            refine t_ild8 hx hb hkb hH t_v36 (hO.no t_v36 (by decide)) (by decide) (by decide) (by decide) dX12_laysClimbs_40 (fun v40 h9 h8 => ?_)
            have q9 := (h8 rfl).1 rfl
            subst q9
            have eH9 : (nI (hg / 6)).toInt = (((hg / 6) : Nat) : Int) := nI_toInt (by omega)
            refine lv_icmp_ge (tgt := 80) hx hb dX12_laysClimbs_41 (by decide) (fun c41 => ?_) (fun c41 => ?_)
            · skip
              have fuc41 := full_i p34_3
              have fvc41 := full_i (nI (hg / 6))
              have tc41 := g_le c41
              refine lv_iconst (v := 0) hx hb dX12_laysClimbs_80 (by decide) ?_
              have J82 : ∀ (n : Nat) (p82_3 : Int32) (H : Heap) (locs : List Loc) (ls : Array Slot), (16384 - p82_3.toInt).toNat = n → (0 ≤ p82_3.toInt) → (p82_3.toInt ≤ 16384) → HT D cs A T O X H → va_S A s.heap H locs → lv_has ls 9 [(3, .int p82_3), (2, .int v7), (0, .ref a0), (1, .int x1)] → W p l e { frames := 1, cells := 0, slots := 0, locals := 22 } s m [.ref a0, .int x1].toArray below meth c H locs 0 0 (MQ below (Tv D cs (fun u => u = (T, O, X)) A) [.ref a0, .int x1].toArray s 0 0 A) (F0 m 82 ls []) := by
                intro n
                induction n using Nat.strongRecOn with
                | _ n ih82 =>
                  intro p82_3 H locs ls hm82 l_p82_3 u_p82_3 hH hS hl
                  refine lv_iload_n hx hb dX12_laysClimbs_82 rfl (lv_at hl 0 rfl) ?_
                  refine lv_iload_n hx hb dX12_laysClimbs_83 rfl (lv_at hl 1 rfl) ?_
                  refine lv_icmp_ge (tgt := 213) hx hb dX12_laysClimbs_84 (by decide) (fun c84 => ?_) (fun c84 => ?_)
                  · skip
                    have fuc84 := full_i p82_3
                    have fvc84 := full_i v7
                    have tc84 := g_le c84
                    exact te_v hx hb hr hlocks hH hS rfl dX12_laysClimbs_213
                  · skip
                    have fuc84 := full_i p82_3
                    have fvc84 := full_i v7
                    have tc84 := g_nle c84
                    refine lv_iload_n hx hb dX12_laysClimbs_87 rfl (lv_at hl 0 rfl) ?_
                    refine lv_iload_n hx hb dX12_laysClimbs_88 rfl (lv_at hl 3 rfl) ?_
                    refine lv_iconst (v := (-1)) hx hb dX12_laysClimbs_89 (by decide) ?_
                    refine lv_ixor hx hb dX12_laysClimbs_90 ?_
                    refine lv_topi (fun v90 ev90 => ?_)
                    refine lv_iand hx hb dX12_laysClimbs_91 ?_
                    refine lv_topi (fun v91 ev91 => ?_)
                    have tv91 : 0 ≤ v91.toInt ∧ v91.toInt ≤ p82_3.toInt := by rw [ev91]; exact and_l (by omega)
                    have J207 : ∀  (H : Heap) (locs : List Loc) (ls : Array Slot), HT D cs A T O X H → va_S A s.heap H locs → lv_has ls 9 [(3, .int p82_3), (2, .int v7), (0, .ref a0), (1, .int x1)] → W p l e { frames := 1, cells := 0, slots := 0, locals := 22 } s m [.ref a0, .int x1].toArray below meth c H locs 0 0 (MQ below (Tv D cs (fun u => u = (T, O, X)) A) [.ref a0, .int x1].toArray s 0 0 A) (F0 m 207 ls []) := by
                      intro  H locs ls  hH hS hl
                      obtain ⟨v207, ev207⟩ : ∃ y : Int32, y = p82_3 + 1 := ⟨_, rfl⟩
                      have tv207 : v207.toInt = p82_3.toInt + (1) := by rw [ev207]; exact add_i rfl (by decide) (by omega) (by omega)
                      refine lv_iinc (v := v207) (lv' := [(3, .int v207), (2, .int v7), (0, .ref a0), (1, .int x1)]) hx hb dX12_laysClimbs_207 hl (k := 0) rfl (by rw [ev207]; rfl) (by decide) rfl (fun ls hl => ?_)
                      refine lv_goto (tgt := 82) hx hb dX12_laysClimbs_210 (by decide) ?_
                      exact ih82 _ (by omega) v207 _ _ _ rfl (by omega) (by omega) hH hS (lv_sub hl [0, 1, 2, 3] rfl)
                    refine lv_if_eq (tgt := 98) hx hb dX12_laysClimbs_92 (by decide) (fun c92 => ?_) (fun c92 => ?_)
                    · skip
                      have tc92 := f_eq (k := 0) (by decide) c92
                      refine lv_iconst (v := 0) hx hb dX12_laysClimbs_98 (by decide) ?_
                      have J101 : ∀ (n : Nat) (p101_4 : Int32) (H : Heap) (locs : List Loc) (ls : Array Slot), (14 - p101_4.toInt).toNat = n → (0 ≤ p101_4.toInt) → (p101_4.toInt ≤ 14) → HT D cs A T O X H → va_S A s.heap H locs → lv_has ls 9 [(4, .int p101_4), (3, .int p82_3), (2, .int v7), (0, .ref a0), (1, .int x1)] → W p l e { frames := 1, cells := 0, slots := 0, locals := 22 } s m [.ref a0, .int x1].toArray below meth c H locs 0 0 (MQ below (Tv D cs (fun u => u = (T, O, X)) A) [.ref a0, .int x1].toArray s 0 0 A) (F0 m 101 ls []) := by
                        intro n
                        induction n using Nat.strongRecOn with
                        | _ n ih101 =>
                          intro p101_4 H locs ls hm101 l_p101_4 u_p101_4 hH hS hl
                          refine lv_iload hx hb dX12_laysClimbs_101 (lv_at hl 0 rfl) ?_
                          refine lv_aload_n hx hb dX12_laysClimbs_103 rfl (lv_at hl 3 rfl) ?_
                          refine t_get (ci := 12) (lst := ft12 hg mq) (C := RX12) (F := TX12) (N := 36) hx hb hts uX12 hown hkb hH t_a0 (hO.no t_a0 (by decide)) (fun _ h9 => h9) rfl rfl 1 (by decide) rfl kw_1224 (fun _ h9 => h9) dX12_laysClimbs_104 (fun v9 h9 => ?_)
                          obtain ⟨v104, rfl, t_v104⟩ := h9
                          refine lv_iconst (v := 1) hx hb dX12_laysClimbs_107 (by decide) ?_
                          refine t_ild8 hx hb hkb hH t_v104 (hO.no t_v104 (by decide)) (by decide) (by decide) (by decide) dX12_laysClimbs_108 (fun v108 h9 h8 => ?_)
                          have q9 := (h8 rfl).1 rfl
                          subst q9
                          have eH9 : (nI (hg / 6)).toInt = (((hg / 6) : Nat) : Int) := nI_toInt (by omega)
                          refine lv_icmp_ge (tgt := 207) hx hb dX12_laysClimbs_109 (by decide) (fun c109 => ?_) (fun c109 => ?_)
                          · skip
                            have fuc109 := full_i p101_4
                            have fvc109 := full_i (nI (hg / 6))
                            have tc109 := g_le c109
                            exact J207  _ _ _  hH hS (lv_sub hl [1, 2, 3, 4] rfl)
                          · skip
                            have fuc109 := full_i p101_4
                            have fvc109 := full_i (nI (hg / 6))
                            have tc109 := g_nle c109
                            refine lv_aload_n hx hb dX12_laysClimbs_112 rfl (lv_at hl 3 rfl) ?_
                            refine t_get (ci := 12) (lst := ft12 hg mq) (C := RX12) (F := TX12) (N := 36) hx hb hts uX12 hown hkb hH t_a0 (hO.no t_a0 (by decide)) (fun _ h9 => h9) rfl rfl 26 (by decide) rfl kw_1249 (fun _ h9 => h9) dX12_laysClimbs_113 (fun v9 h9 => ?_)
                            obtain ⟨v113, rfl, t_v113⟩ := h9
                            refine lv_bipush (v := 14) hx hb dX12_laysClimbs_116 (by decide) ?_
                            refine lv_iload_n hx hb dX12_laysClimbs_118 rfl (lv_at hl 1 rfl) ?_
                            refine lv_imul hx hb dX12_laysClimbs_119 ?_
                            refine lv_topi (fun v119 ev119 => ?_)
                            have tv119 : v119.toInt = (14) * p82_3.toInt := by rw [ev119]; exact mul_i (by decide : (14 : Int32).toInt = 14) rfl (by omega) (by omega)
                            refine lv_iload hx hb dX12_laysClimbs_120 (lv_at hl 0 rfl) ?_
                            refine lv_iadd hx hb dX12_laysClimbs_122 ?_
                            refine lv_topi (fun v122 ev122 => ?_)
                            have tv122 : v122.toInt = v119.toInt + p101_4.toInt := by rw [ev122]; exact add_i rfl rfl (by omega) (by omega)
                            refine t_lld hx hb hkb hH t_v113 (hO.no t_v113 (by decide)) (by omega) (by omega) dX12_laysClimbs_123 (fun v123 => ?_)
                            refine lv_lstore (lv' := [(5, .long v123), (4, .int p101_4), (3, .int p82_3), (2, .int v7), (0, .ref a0), (1, .int x1)]) hx hb dX12_laysClimbs_124 hl (by decide) rfl (fun ls hl => ?_)
                            refine lv_aload_n hx hb dX12_laysClimbs_126 rfl (lv_at hl 4 rfl) ?_
                            refine t_get (ci := 12) (lst := ft12 hg mq) (C := RX12) (F := TX12) (N := 36) hx hb hts uX12 hown hkb hH t_a0 (hO.no t_a0 (by decide)) (fun _ h9 => h9) rfl rfl 17 (by decide) rfl kw_1240 (fun _ h9 => h9) dX12_laysClimbs_127 (fun v9 h9 => ?_)
                            obtain ⟨v127, rfl, t_v127⟩ := h9
                            refine lv_iload hx hb dX12_laysClimbs_130 (lv_at hl 1 rfl) ?_
                            refine t_ild9 hx hb hkb hH t_v127 (hO.no t_v127 (by decide)) (by omega) (by omega) dX12_laysClimbs_132 (fun v132 h9 => ?_)
                            have tv132 : 0 ≤ v132.toInt ∧ v132.toInt ≤ 16383 := h9
                            refine lv_iload_n hx hb dX12_laysClimbs_133 rfl (lv_at hl 5 rfl) ?_
                            refine lv_iand hx hb dX12_laysClimbs_134 ?_
                            refine lv_topi (fun v134 ev134 => ?_)
                            have tv134 : 0 ≤ v134.toInt ∧ v134.toInt ≤ v132.toInt := by rw [ev134]; exact and_l (by omega)
                            refine lv_iload_n hx hb dX12_laysClimbs_135 rfl (lv_at hl 2 rfl) ?_
                            refine lv_iconst (v := (-1)) hx hb dX12_laysClimbs_136 (by decide) ?_
                            refine lv_ixor hx hb dX12_laysClimbs_137 ?_
                            refine lv_topi (fun v137 ev137 => ?_)
                            refine lv_iand hx hb dX12_laysClimbs_138 ?_
                            refine lv_topi (fun v138 ev138 => ?_)
                            have tv138 : 0 ≤ v138.toInt ∧ v138.toInt ≤ v134.toInt := by rw [ev138]; exact and_l (by omega)
                            refine lv_istore (lv' := [(7, .int v138), (5, .long v123), (4, .int p101_4), (3, .int p82_3), (2, .int v7), (0, .ref a0), (1, .int x1)]) hx hb dX12_laysClimbs_139 hl (by decide) rfl (fun ls hl => ?_)
                            refine lv_iconst (v := 0) hx hb dX12_laysClimbs_141 (by decide) ?_
                            have J144 : ∀ (n : Nat) (p144_8 : Int32) (H : Heap) (locs : List Loc) (ls : Array Slot), (14 - p144_8.toInt).toNat = n → (0 ≤ p144_8.toInt) → (p144_8.toInt ≤ 14) → HT D cs A T O X H → va_S A s.heap H locs → lv_has ls 9 [(8, .int p144_8), (7, .int v138), (5, .long v123), (4, .int p101_4), (3, .int p82_3), (2, .int v7), (0, .ref a0), (1, .int x1)] → W p l e { frames := 1, cells := 0, slots := 0, locals := 22 } s m [.ref a0, .int x1].toArray below meth c H locs 0 0 (MQ below (Tv D cs (fun u => u = (T, O, X)) A) [.ref a0, .int x1].toArray s 0 0 A) (F0 m 144 ls []) := by
                              intro n
                              induction n using Nat.strongRecOn with
                              | _ n ih144 =>
                                intro p144_8 H locs ls hm144 l_p144_8 u_p144_8 hH hS hl
                                refine lv_iload hx hb dX12_laysClimbs_144 (lv_at hl 0 rfl) ?_
                                refine lv_aload_n hx hb dX12_laysClimbs_146 rfl (lv_at hl 6 rfl) ?_
                                refine t_get (ci := 12) (lst := ft12 hg mq) (C := RX12) (F := TX12) (N := 36) hx hb hts uX12 hown hkb hH t_a0 (hO.no t_a0 (by decide)) (fun _ h9 => h9) rfl rfl 1 (by decide) rfl kw_1224 (fun _ h9 => h9) dX12_laysClimbs_147 (fun v9 h9 => ?_)
                                obtain ⟨v147, rfl, t_v147⟩ := h9
                                refine lv_iconst (v := 1) hx hb dX12_laysClimbs_150 (by decide) ?_
                                refine t_ild8 hx hb hkb hH t_v147 (hO.no t_v147 (by decide)) (by decide) (by decide) (by decide) dX12_laysClimbs_151 (fun v151 h9 h8 => ?_)
                                have q9 := (h8 rfl).1 rfl
                                subst q9
                                have eH9 : (nI (hg / 6)).toInt = (((hg / 6) : Nat) : Int) := nI_toInt (by omega)
                                have J201 : ∀  (H : Heap) (locs : List Loc) (ls : Array Slot), HT D cs A T O X H → va_S A s.heap H locs → lv_has ls 9 [(4, .int p101_4), (3, .int p82_3), (2, .int v7), (0, .ref a0), (1, .int x1)] → W p l e { frames := 1, cells := 0, slots := 0, locals := 22 } s m [.ref a0, .int x1].toArray below meth c H locs 0 0 (MQ below (Tv D cs (fun u => u = (T, O, X)) A) [.ref a0, .int x1].toArray s 0 0 A) (F0 m 201 ls []) := by
                                  intro  H locs ls  hH hS hl
                                  obtain ⟨v201, ev201⟩ : ∃ y : Int32, y = p101_4 + 1 := ⟨_, rfl⟩
                                  have tv201 : v201.toInt = p101_4.toInt + (1) := by rw [ev201]; exact add_i rfl (by decide) (by omega) (by omega)
                                  refine lv_iinc (v := v201) (lv' := [(4, .int v201), (3, .int p82_3), (2, .int v7), (0, .ref a0), (1, .int x1)]) hx hb dX12_laysClimbs_201 hl (k := 0) rfl (by rw [ev201]; rfl) (by decide) rfl (fun ls hl => ?_)
                                  refine lv_goto (tgt := 101) hx hb dX12_laysClimbs_204 (by decide) ?_
                                  exact ih101 _ (by omega) v201 _ _ _ rfl (by omega) (by omega) hH hS (lv_sub hl [0, 1, 2, 3, 4] rfl)
                                refine lv_icmp_ge (tgt := 201) hx hb dX12_laysClimbs_152 (by decide) (fun c152 => ?_) (fun c152 => ?_)
                                · skip
                                  have fuc152 := full_i p144_8
                                  have fvc152 := full_i (nI (hg / 6))
                                  have tc152 := g_le c152
                                  exact J201  _ _ _  hH hS (lv_sub hl [3, 4, 5, 6, 7] rfl)
                                · skip
                                  have fuc152 := full_i p144_8
                                  have fvc152 := full_i (nI (hg / 6))
                                  have tc152 := g_nle c152
                                  refine lv_lload hx hb dX12_laysClimbs_155 (lv_at hl 2 rfl) ?_
                                  refine lv_lconst (v := 0) hx hb dX12_laysClimbs_157 (by decide) ?_
                                  refine W.lcmp hx hb dX12_laysClimbs_158 ?_
                                  refine lv_if_le (tgt := 201) hx hb dX12_laysClimbs_159 (by decide) (fun c159 => ?_) (fun c159 => ?_)
                                  · skip
                                    have tc159 := le_l c159
                                    have kc159_0 : (0 : Int64).toInt = 0 := by decide
                                    exact J201  _ _ _  hH hS (lv_sub hl [3, 4, 5, 6, 7] rfl)
                                  · skip
                                    have tc159 := nle_l c159
                                    have kc159_0 : (0 : Int64).toInt = 0 := by decide
                                    refine lv_iload hx hb dX12_laysClimbs_162 (lv_at hl 1 rfl) ?_
                                    refine lv_i2l hx hb dX12_laysClimbs_164 rfl ?_
                                    refine lv_iload hx hb dX12_laysClimbs_165 (lv_at hl 0 rfl) ?_
                                    refine tk_i hH hS hA (tr_S (n := 2) (As := [.long v138.toInt64, .int p144_8]) hx hb hml hown hts hkb hH hOX hks hE hS hA (s_M_isIn2 l D cs kf T O X v138.toInt64 p144_8  (hO.sub (by decide))) kw_1440 kw_1441 kw_13 kw_1442 (by decide +kernel) ⟨Nat.le_of_ble_eq_true rfl, Nat.le_of_ble_eq_true rfl⟩ rfl rfl hl.1 (Nat.le_of_ble_eq_true rfl) dX12_laysClimbs_167 ⟨Nat.le_of_ble_eq_true rfl, Nat.le_of_ble_eq_true rfl⟩) (fun v167 u H locs hz9 hH hS => ?_)
                                    obtain ⟨rfl, l_v167, u_v167, x_v1670⟩ := hz9
                                    have hH : HT D cs A T O X H := hH
                                    refine W.widen (k := 0) (n := 0) (Nat.le_of_ble_eq_true rfl) (Nat.le_of_ble_eq_true rfl) ?_
                                    have J195 : ∀  (H : Heap) (locs : List Loc) (ls : Array Slot), HT D cs A T O X H → va_S A s.heap H locs → lv_has ls 9 [(8, .int p144_8), (7, .int v138), (5, .long v123), (4, .int p101_4), (3, .int p82_3), (2, .int v7), (0, .ref a0), (1, .int x1)] → W p l e { frames := 1, cells := 0, slots := 0, locals := 22 } s m [.ref a0, .int x1].toArray below meth c H locs 0 0 (MQ below (Tv D cs (fun u => u = (T, O, X)) A) [.ref a0, .int x1].toArray s 0 0 A) (F0 m 195 ls []) := by
                                      intro  H locs ls  hH hS hl
                                      obtain ⟨v195, ev195⟩ : ∃ y : Int32, y = p144_8 + 1 := ⟨_, rfl⟩
                                      have tv195 : v195.toInt = p144_8.toInt + (1) := by rw [ev195]; exact add_i rfl (by decide) (by omega) (by omega)
                                      refine lv_iinc (v := v195) (lv' := [(8, .int v195), (7, .int v138), (5, .long v123), (4, .int p101_4), (3, .int p82_3), (2, .int v7), (0, .ref a0), (1, .int x1)]) hx hb dX12_laysClimbs_195 hl (k := 0) rfl (by rw [ev195]; rfl) (by decide) rfl (fun ls hl => ?_)
                                      refine lv_goto (tgt := 144) hx hb dX12_laysClimbs_198 (by decide) ?_
                                      exact ih144 _ (by omega) v195 _ _ _ rfl (by omega) (by omega) hH hS (lv_sub hl [0, 1, 2, 3, 4, 5, 6, 7] rfl)
                                    refine lv_if_eq (tgt := 195) hx hb dX12_laysClimbs_170 (by decide) (fun c170 => ?_) (fun c170 => ?_)
                                    · skip
                                      have tc170 := f_eq (k := 0) (by decide) c170
                                      exact J195  _ _ _  hH hS (lv_sub hl [0, 1, 2, 3, 4, 5, 6, 7] rfl)
                                    · skip
                                      have tc170 := f_ne (k := 0) (by decide) c170
                                      refine lv_aload_n hx hb dX12_laysClimbs_173 rfl (lv_at hl 6 rfl) ?_
                                      refine t_get (ci := 12) (lst := ft12 hg mq) (C := RX12) (F := TX12) (N := 36) hx hb hts uX12 hown hkb hH t_a0 (hO.no t_a0 (by decide)) (fun _ h9 => h9) rfl rfl 26 (by decide) rfl kw_1249 (fun _ h9 => h9) dX12_laysClimbs_174 (fun v9 h9 => ?_)
                                      obtain ⟨v174, rfl, t_v174⟩ := h9
                                      refine lv_bipush (v := 14) hx hb dX12_laysClimbs_177 (by decide) ?_
                                      refine lv_iload_n hx hb dX12_laysClimbs_179 rfl (lv_at hl 4 rfl) ?_
                                      refine lv_iconst (v := 1) hx hb dX12_laysClimbs_180 (by decide) ?_
                                      refine lv_iload hx hb dX12_laysClimbs_181 (lv_at hl 0 rfl) ?_
                                      refine lv_ishl hx hb dX12_laysClimbs_183 ?_
                                      refine lv_topi (fun v183 ev183 => ?_)
                                      have tv183 : 1 ≤ v183.toInt ∧ v183.toInt ≤ 8192 := by rw [ev183]; exact shl_b 13 (by decide) (by omega) (by omega)
                                      refine lv_ior hx hb dX12_laysClimbs_184 ?_
                                      refine lv_topi (fun v184 ev184 => ?_)
                                      have tv184 : 0 ≤ v184.toInt ∧ v184.toInt < 16384 := by rw [ev184]; exact or_b 14 (by decide) (by omega) (by omega) (by omega) (by omega)
                                      refine lv_imul hx hb dX12_laysClimbs_185 ?_
                                      refine lv_topi (fun v185 ev185 => ?_)
                                      have tv185 : v185.toInt = (14) * v184.toInt := by rw [ev185]; exact mul_i (by decide : (14 : Int32).toInt = 14) rfl (by omega) (by omega)
                                      refine lv_iload hx hb dX12_laysClimbs_186 (lv_at hl 0 rfl) ?_
                                      refine lv_iadd hx hb dX12_laysClimbs_188 ?_
                                      refine lv_topi (fun v188 ev188 => ?_)
                                      have tv188 : v188.toInt = v185.toInt + p144_8.toInt := by rw [ev188]; exact add_i rfl rfl (by omega) (by omega)
                                      refine lv_dup2_11 hx hb dX12_laysClimbs_189 rfl rfl ?_
                                      refine t_lld hx hb hkb hH t_v174 (hO.no t_v174 (by decide)) (by omega) (by omega) dX12_laysClimbs_190 (fun v190 => ?_)
                                      refine lv_lload hx hb dX12_laysClimbs_191 (lv_at hl 2 rfl) ?_
                                      refine lv_ladd hx hb dX12_laysClimbs_193 ?_
                                      refine lv_topl (fun v193 ev193 => ?_)
                                      refine t_lst hx hb hkb hH hS t_v174 (hO.no t_v174 (by decide)) (by omega) (by omega) dX12_laysClimbs_194 (fun H locs hH hS => ?_)
                                      exact J195  _ _ _  hH hS (lv_sub hl [0, 1, 2, 3, 4, 5, 6, 7] rfl)
                            refine lv_istore (lv' := [(8, .int 0), (7, .int v138), (5, .long v123), (4, .int p101_4), (3, .int p82_3), (2, .int v7), (0, .ref a0), (1, .int x1)]) hx hb dX12_laysClimbs_142 hl (by decide) rfl (fun ls hl => ?_)
                            exact J144 _ 0 _ _ _ rfl (by decide) (by decide) hH hS (lv_sub hl [0, 1, 2, 3, 4, 5, 6, 7] rfl)
                      refine lv_istore (lv' := [(4, .int 0), (3, .int p82_3), (2, .int v7), (0, .ref a0), (1, .int x1)]) hx hb dX12_laysClimbs_99 hl (by decide) rfl (fun ls hl => ?_)
                      exact J101 _ 0 _ _ _ rfl (by decide) (by decide) hH hS (lv_sub hl [0, 1, 2, 3, 4] rfl)
                    · skip
                      have tc92 := f_ne (k := 0) (by decide) c92
                      refine lv_goto (tgt := 207) hx hb dX12_laysClimbs_95 (by decide) ?_
                      exact J207  _ _ _  hH hS (lv_sub hl [0, 1, 2, 3] rfl)
              refine lv_istore_n (lv' := [(3, .int 0), (2, .int v7), (0, .ref a0), (1, .int x1)]) hx hb dX12_laysClimbs_81 rfl hl (by decide) rfl (fun ls hl => ?_)
              exact J82 _ 0 _ _ _ rfl (by decide) (by decide) hH hS (lv_sub hl [0, 1, 2, 3] rfl)
            · skip
              have fuc41 := full_i p34_3
              have fvc41 := full_i (nI (hg / 6))
              have tc41 := g_nle c41
              refine lv_iload_n hx hb dX12_laysClimbs_44 rfl (lv_at hl 3 rfl) ?_
              refine lv_aload_n hx hb dX12_laysClimbs_45 rfl (lv_at hl 2 rfl) ?_
              refine t_get (ci := 12) (lst := ft12 hg mq) (C := RX12) (F := TX12) (N := 36) hx hb hts uX12 hown hkb hH t_a0 (hO.no t_a0 (by decide)) (fun _ h9 => h9) rfl rfl 1 (by decide) rfl kw_1224 (fun _ h9 => h9) dX12_laysClimbs_46 (fun v9 h9 => ?_)
              obtain ⟨v46, rfl, t_v46⟩ := h9
              refine lv_iconst (v := 4) hx hb dX12_laysClimbs_49 (by decide) ?_
              refine t_ild8 hx hb hkb hH t_v46 (hO.no t_v46 (by decide)) (by decide) (by decide) (by decide) dX12_laysClimbs_50 (fun v50 h9 h8 => ?_)
              have tv50 : 0 ≤ v50.toInt ∧ v50.toInt ≤ 16383 := h9.2.2.1 (by decide)
              refine lv_iand hx hb dX12_laysClimbs_51 ?_
              refine lv_topi (fun v51 ev51 => ?_)
              have tv51 : 0 ≤ v51.toInt ∧ v51.toInt ≤ v50.toInt := by rw [ev51]; exact and_r (by omega)
              refine lv_i2l hx hb dX12_laysClimbs_52 rfl ?_
              refine lv_iload_n hx hb dX12_laysClimbs_53 rfl (lv_at hl 0 rfl) ?_
              refine tk_i hH hS hA (tr_S (n := 2) (As := [.long v51.toInt64, .int p34_3]) hx hb hml hown hts hkb hH hOX hks hE hS hA (s_M_isIn2 l D cs kf T O X v51.toInt64 p34_3  (hO.sub (by decide))) kw_1440 kw_1441 kw_13 kw_1442 (by decide +kernel) ⟨Nat.le_of_ble_eq_true rfl, Nat.le_of_ble_eq_true rfl⟩ rfl rfl hl.1 (Nat.le_of_ble_eq_true rfl) dX12_laysClimbs_54 ⟨Nat.le_of_ble_eq_true rfl, Nat.le_of_ble_eq_true rfl⟩) (fun v54 u H locs hz9 hH hS => ?_)
              obtain ⟨rfl, l_v54, u_v54, x_v540⟩ := hz9
              have hH : HT D cs A T O X H := hH
              refine W.widen (k := 0) (n := 0) (Nat.le_of_ble_eq_true rfl) (Nat.le_of_ble_eq_true rfl) ?_
              have J74 : ∀  (H : Heap) (locs : List Loc) (ls : Array Slot), HT D cs A T O X H → va_S A s.heap H locs → lv_has ls 9 [(3, .int p34_3), (2, .int v7), (0, .ref a0), (1, .int x1)] → W p l e { frames := 1, cells := 0, slots := 0, locals := 22 } s m [.ref a0, .int x1].toArray below meth c H locs 0 0 (MQ below (Tv D cs (fun u => u = (T, O, X)) A) [.ref a0, .int x1].toArray s 0 0 A) (F0 m 74 ls []) := by
                intro  H locs ls  hH hS hl
                obtain ⟨v74, ev74⟩ : ∃ y : Int32, y = p34_3 + 1 := ⟨_, rfl⟩
                have tv74 : v74.toInt = p34_3.toInt + (1) := by rw [ev74]; exact add_i rfl (by decide) (by omega) (by omega)
                refine lv_iinc (v := v74) (lv' := [(3, .int v74), (2, .int v7), (0, .ref a0), (1, .int x1)]) hx hb dX12_laysClimbs_74 hl (k := 0) rfl (by rw [ev74]; rfl) (by decide) rfl (fun ls hl => ?_)
                refine lv_goto (tgt := 34) hx hb dX12_laysClimbs_77 (by decide) ?_
                exact ih34 _ (by omega) v74 _ _ _ rfl (by omega) (by omega) hH hS (lv_sub hl [0, 1, 2, 3] rfl)
              refine lv_if_eq (tgt := 74) hx hb dX12_laysClimbs_57 (by decide) (fun c57 => ?_) (fun c57 => ?_)
              · skip
                have tc57 := f_eq (k := 0) (by decide) c57
                exact J74  _ _ _  hH hS (lv_sub hl [0, 1, 2, 3] rfl)
              · skip
                have tc57 := f_ne (k := 0) (by decide) c57
                refine lv_aload_n hx hb dX12_laysClimbs_60 rfl (lv_at hl 2 rfl) ?_
                refine t_get (ci := 12) (lst := ft12 hg mq) (C := RX12) (F := TX12) (N := 36) hx hb hts uX12 hown hkb hH t_a0 (hO.no t_a0 (by decide)) (fun _ h9 => h9) rfl rfl 26 (by decide) rfl kw_1249 (fun _ h9 => h9) dX12_laysClimbs_61 (fun v9 h9 => ?_)
                obtain ⟨v61, rfl, t_v61⟩ := h9
                refine lv_bipush (v := 14) hx hb dX12_laysClimbs_64 (by decide) ?_
                refine lv_iconst (v := 1) hx hb dX12_laysClimbs_66 (by decide) ?_
                refine lv_iload_n hx hb dX12_laysClimbs_67 rfl (lv_at hl 0 rfl) ?_
                refine lv_ishl hx hb dX12_laysClimbs_68 ?_
                refine lv_topi (fun v68 ev68 => ?_)
                have tv68 : 1 ≤ v68.toInt ∧ v68.toInt ≤ 8192 := by rw [ev68]; exact shl_b 13 (by decide) (by omega) (by omega)
                refine lv_imul hx hb dX12_laysClimbs_69 ?_
                refine lv_topi (fun v69 ev69 => ?_)
                have tv69 : v69.toInt = (14) * v68.toInt := by rw [ev69]; exact mul_i (by decide : (14 : Int32).toInt = 14) rfl (by omega) (by omega)
                refine lv_iload_n hx hb dX12_laysClimbs_70 rfl (lv_at hl 0 rfl) ?_
                refine lv_iadd hx hb dX12_laysClimbs_71 ?_
                refine lv_topi (fun v71 ev71 => ?_)
                have tv71 : v71.toInt = v69.toInt + p34_3.toInt := by rw [ev71]; exact add_i rfl rfl (by omega) (by omega)
                refine lv_lconst (v := 1) hx hb dX12_laysClimbs_72 (by decide) ?_
                refine t_lst hx hb hkb hH hS t_v61 (hO.no t_v61 (by decide)) (by omega) (by omega) dX12_laysClimbs_73 (fun H locs hH hS => ?_)
                exact J74  _ _ _  hH hS (lv_sub hl [0, 1, 2, 3] rfl)
        refine lv_istore_n (lv' := [(3, .int 0), (2, .int v7), (0, .ref a0), (1, .int x1)]) hx hb dX12_laysClimbs_33 rfl hl (by decide) rfl (fun ls hl => ?_)
        exact J34 _ 0 _ _ _ rfl (by decide) (by decide) hH hS (lv_sub hl [0, 1, 2, 3] rfl)
      · skip
        have fuc16 := full_i p11_3
        have fvc16 := full_i v15
        have tc16 := g_nle c16
        refine lv_aload_n hx hb dX12_laysClimbs_19 rfl (lv_at hl 2 rfl) ?_
        refine t_get (ci := 12) (lst := ft12 hg mq) (C := RX12) (F := TX12) (N := 36) hx hb hts uX12 hown hkb hH t_a0 (hO.no t_a0 (by decide)) (fun _ h9 => h9) rfl rfl 26 (by decide) rfl kw_1249 (fun _ h9 => h9) dX12_laysClimbs_20 (fun v9 h9 => ?_)
        obtain ⟨v20, rfl, t_v20⟩ := h9
        refine lv_iload_n hx hb dX12_laysClimbs_23 rfl (lv_at hl 0 rfl) ?_
        refine lv_lconst (v := 0) hx hb dX12_laysClimbs_24 (by decide) ?_
        refine t_lst hx hb hkb hH hS t_v20 (hO.no t_v20 (by decide)) (by omega) (by omega) dX12_laysClimbs_25 (fun H locs hH hS => ?_)
        obtain ⟨v26, ev26⟩ : ∃ y : Int32, y = p11_3 + 1 := ⟨_, rfl⟩
        have tv26 : v26.toInt = p11_3.toInt + (1) := by rw [ev26]; exact add_i rfl (by decide) (by omega) (by omega)
        refine lv_iinc (v := v26) (lv' := [(3, .int v26), (2, .int v7), (0, .ref a0), (1, .int x1)]) hx hb dX12_laysClimbs_26 hl (k := 0) rfl (by rw [ev26]; rfl) (by decide) rfl (fun ls hl => ?_)
        refine lv_goto (tgt := 11) hx hb dX12_laysClimbs_29 (by decide) ?_
        exact ih11 _ (by omega) v26 _ _ _ rfl (by omega) hH hS (lv_sub hl [0, 1, 2, 3] rfl)
  refine lv_istore_n (lv' := [(3, .int 0), (2, .int v7), (0, .ref a0), (1, .int x1)]) hx hb dX12_laysClimbs_10 rfl hl (by decide) rfl (fun ls hl => ?_)
  exact J11 _ 0 _ _ _ rfl (by decide) hH hS (lv_sub hl [0, 1, 2, 3] rfl)
set_option maxHeartbeats 4000000 in
set_option maxRecDepth 100000 in
theorem s_M_climbsBy (l : Launch) (D : va_G) (cs : CS) (kf : KF) (T : TF) (O : List Nat) (X : va_W) (a0 hg mq : Nat) (x1 : Int32) (t_a0 : T a0 = some (22, hg, mq)) (b_hg : hg < 90) (l_x1 : 0 ≤ x1.toInt) (u_x1 : x1.toInt ≤ 16383) (hO : okO T O [2, 8, 22]) : TK l D cs kf yX12_climbsBy cX12_climbsBy 5 (some (.long)) { frames := 1, cells := 0, slots := 0, locals := 22 } [.ref a0, .int x1] T O X (Tl D cs (fun _ u => u = (T, O, X))) := by
  refine tk_of (by decide) (Nat.le_of_ble_eq_true rfl) (fun p e s m below meth c ls A H locs hx hb hr hml hown hts hlocks hnm hkb hH hS hA hOX hks hE hl => ?_)
  have hown : s.vm.findClass RX12 = some m.cls := hown
  have hl : lv_has ls 5 [(0, .ref a0), (1, .int x1)] := hl
  refine lv_lconst (v := 0) hx hb dX12_climbsBy_0 (by decide) ?_
  refine lv_lstore_n (lv' := [(2, .long 0), (0, .ref a0), (1, .int x1)]) hx hb dX12_climbsBy_1 rfl hl (by decide) rfl (fun ls hl => ?_)
  refine lv_iconst (v := 0) hx hb dX12_climbsBy_2 (by decide) ?_
  have J5 : ∀ (n : Nat) (p5_4 : Int32) (p5_2 : Int64) (H : Heap) (locs : List Loc) (ls : Array Slot), (14 - p5_4.toInt).toNat = n → (0 ≤ p5_4.toInt) → (p5_4.toInt ≤ 14) → HT D cs A T O X H → va_S A s.heap H locs → lv_has ls 5 [(4, .int p5_4), (2, .long p5_2), (0, .ref a0), (1, .int x1)] → W p l e { frames := 1, cells := 0, slots := 0, locals := 22 } s m [.ref a0, .int x1].toArray below meth c H locs 0 0 (MQ below (Tl D cs (fun _ u => u = (T, O, X)) A) [.ref a0, .int x1].toArray s 0 0 A) (F0 m 5 ls []) := by
    intro n
    induction n using Nat.strongRecOn with
    | _ n ih5 =>
      intro p5_4 p5_2 H locs ls hm5 l_p5_4 u_p5_4 hH hS hl
      refine lv_iload hx hb dX12_climbsBy_5 (lv_at hl 0 rfl) ?_
      refine lv_aload_n hx hb dX12_climbsBy_7 rfl (lv_at hl 2 rfl) ?_
      refine t_get (ci := 12) (lst := ft12 hg mq) (C := RX12) (F := TX12) (N := 36) hx hb hts uX12 hown hkb hH t_a0 (hO.no t_a0 (by decide)) (fun _ h9 => h9) rfl rfl 1 (by decide) rfl kw_1224 (fun _ h9 => h9) dX12_climbsBy_8 (fun v9 h9 => ?_)
      obtain ⟨v8, rfl, t_v8⟩ := h9
      refine lv_iconst (v := 1) hx hb dX12_climbsBy_11 (by decide) ?_
      refine t_ild8 hx hb hkb hH t_v8 (hO.no t_v8 (by decide)) (by decide) (by decide) (by decide) dX12_climbsBy_12 (fun v12 h9 h8 => ?_)
      have q9 := (h8 rfl).1 rfl
      subst q9
      have eH9 : (nI (hg / 6)).toInt = (((hg / 6) : Nat) : Int) := nI_toInt (by omega)
      refine lv_icmp_ge (tgt := 52) hx hb dX12_climbsBy_13 (by decide) (fun c13 => ?_) (fun c13 => ?_)
      · skip
        have fuc13 := full_i p5_4
        have fvc13 := full_i (nI (hg / 6))
        have tc13 := g_le c13
        refine lv_lload_n hx hb dX12_climbsBy_52 rfl (lv_at hl 1 rfl) ?_
        exact te_l hx hb hr hlocks hH hS rfl dX12_climbsBy_53
      · skip
        have fuc13 := full_i p5_4
        have fvc13 := full_i (nI (hg / 6))
        have tc13 := g_nle c13
        refine lv_aload_n hx hb dX12_climbsBy_16 rfl (lv_at hl 2 rfl) ?_
        refine t_get (ci := 12) (lst := ft12 hg mq) (C := RX12) (F := TX12) (N := 36) hx hb hts uX12 hown hkb hH t_a0 (hO.no t_a0 (by decide)) (fun _ h9 => h9) rfl rfl 1 (by decide) rfl kw_1224 (fun _ h9 => h9) dX12_climbsBy_17 (fun v9 h9 => ?_)
        obtain ⟨v17, rfl, t_v17⟩ := h9
        refine lv_iconst (v := 5) hx hb dX12_climbsBy_20 (by decide) ?_
        refine t_ild8 hx hb hkb hH t_v17 (hO.no t_v17 (by decide)) (by decide) (by decide) (by decide) dX12_climbsBy_21 (fun v21 h9 h8 => ?_)
        have tv21 : 0 ≤ v21.toInt ∧ v21.toInt ≤ 16383 := h9.2.2.2.1 (by decide)
        refine lv_i2l hx hb dX12_climbsBy_22 rfl ?_
        refine lv_iload hx hb dX12_climbsBy_23 (lv_at hl 0 rfl) ?_
        refine tk_i hH hS hA (tr_S (n := 2) (As := [.long v21.toInt64, .int p5_4]) hx hb hml hown hts hkb hH hOX hks hE hS hA (s_M_isIn2 l D cs kf T O X v21.toInt64 p5_4  (hO.sub (by decide))) kw_1440 kw_1441 kw_13 kw_1442 (by decide +kernel) ⟨Nat.le_of_ble_eq_true rfl, Nat.le_of_ble_eq_true rfl⟩ rfl rfl hl.1 (Nat.le_of_ble_eq_true rfl) dX12_climbsBy_25 ⟨Nat.le_of_ble_eq_true rfl, Nat.le_of_ble_eq_true rfl⟩) (fun v25 u H locs hz9 hH hS => ?_)
        obtain ⟨rfl, l_v25, u_v25, x_v250⟩ := hz9
        have hH : HT D cs A T O X H := hH
        refine W.widen (k := 0) (n := 0) (Nat.le_of_ble_eq_true rfl) (Nat.le_of_ble_eq_true rfl) ?_
        have J46 : ∀ (p46_2 : Int64) (H : Heap) (locs : List Loc) (ls : Array Slot), HT D cs A T O X H → va_S A s.heap H locs → lv_has ls 5 [(4, .int p5_4), (2, .long p46_2), (0, .ref a0), (1, .int x1)] → W p l e { frames := 1, cells := 0, slots := 0, locals := 22 } s m [.ref a0, .int x1].toArray below meth c H locs 0 0 (MQ below (Tl D cs (fun _ u => u = (T, O, X)) A) [.ref a0, .int x1].toArray s 0 0 A) (F0 m 46 ls []) := by
          intro p46_2 H locs ls  hH hS hl
          obtain ⟨v46, ev46⟩ : ∃ y : Int32, y = p5_4 + 1 := ⟨_, rfl⟩
          have tv46 : v46.toInt = p5_4.toInt + (1) := by rw [ev46]; exact add_i rfl (by decide) (by omega) (by omega)
          refine lv_iinc (v := v46) (lv' := [(4, .int v46), (2, .long p46_2), (0, .ref a0), (1, .int x1)]) hx hb dX12_climbsBy_46 hl (k := 0) rfl (by rw [ev46]; rfl) (by decide) rfl (fun ls hl => ?_)
          refine lv_goto (tgt := 5) hx hb dX12_climbsBy_49 (by decide) ?_
          exact ih5 _ (by omega) v46 p46_2 _ _ _ rfl (by omega) (by omega) hH hS (lv_sub hl [0, 1, 2, 3] rfl)
        refine lv_if_eq (tgt := 46) hx hb dX12_climbsBy_28 (by decide) (fun c28 => ?_) (fun c28 => ?_)
        · skip
          have tc28 := f_eq (k := 0) (by decide) c28
          exact J46 p5_2 _ _ _  hH hS (lv_sub hl [0, 1, 2, 3] rfl)
        · skip
          have tc28 := f_ne (k := 0) (by decide) c28
          refine lv_lload_n hx hb dX12_climbsBy_31 rfl (lv_at hl 1 rfl) ?_
          refine lv_aload_n hx hb dX12_climbsBy_32 rfl (lv_at hl 2 rfl) ?_
          refine t_get (ci := 12) (lst := ft12 hg mq) (C := RX12) (F := TX12) (N := 36) hx hb hts uX12 hown hkb hH t_a0 (hO.no t_a0 (by decide)) (fun _ h9 => h9) rfl rfl 26 (by decide) rfl kw_1249 (fun _ h9 => h9) dX12_climbsBy_33 (fun v9 h9 => ?_)
          obtain ⟨v33, rfl, t_v33⟩ := h9
          refine lv_bipush (v := 14) hx hb dX12_climbsBy_36 (by decide) ?_
          refine lv_iload_n hx hb dX12_climbsBy_38 rfl (lv_at hl 3 rfl) ?_
          refine lv_imul hx hb dX12_climbsBy_39 ?_
          refine lv_topi (fun v39 ev39 => ?_)
          have tv39 : v39.toInt = (14) * x1.toInt := by rw [ev39]; exact mul_i (by decide : (14 : Int32).toInt = 14) rfl (by omega) (by omega)
          refine lv_iload hx hb dX12_climbsBy_40 (lv_at hl 0 rfl) ?_
          refine lv_iadd hx hb dX12_climbsBy_42 ?_
          refine lv_topi (fun v42 ev42 => ?_)
          have tv42 : v42.toInt = v39.toInt + p5_4.toInt := by rw [ev42]; exact add_i rfl rfl (by omega) (by omega)
          refine t_lld hx hb hkb hH t_v33 (hO.no t_v33 (by decide)) (by omega) (by omega) dX12_climbsBy_43 (fun v43 => ?_)
          refine lv_ladd hx hb dX12_climbsBy_44 ?_
          refine lv_topl (fun v44 ev44 => ?_)
          refine lv_lstore_n (lv' := [(2, .long v44), (4, .int p5_4), (0, .ref a0), (1, .int x1)]) hx hb dX12_climbsBy_45 rfl hl (by decide) rfl (fun ls hl => ?_)
          exact J46 v44 _ _ _  hH hS (lv_sub hl [1, 0, 2, 3] rfl)
  refine lv_istore (lv' := [(4, .int 0), (2, .long 0), (0, .ref a0), (1, .int x1)]) hx hb dX12_climbsBy_3 hl (by decide) rfl (fun ls hl => ?_)
  exact J5 _ 0 0 _ _ _ rfl (by decide) (by decide) hH hS (lv_sub hl [0, 1, 2, 3] rfl)
set_option maxHeartbeats 4000000 in
set_option maxRecDepth 100000 in
theorem s_M_laysClimbsOf (l : Launch) (D : va_G) (cs : CS) (kf : KF) (T : TF) (O : List Nat) (X : va_W) (a0 hg mq : Nat) (x1 : Int32) (t_a0 : T a0 = some (22, hg, mq)) (b_hg : hg < 90) (l_x1 : 0 ≤ x1.toInt) (u_x1 : x1.toInt ≤ 4) (hO : okO T O [1, 2, 8, 9, 22]) : TK l D cs kf yX12_laysClimbsOf cX12_laysClimbsOf 2 none { frames := 5, cells := 0, slots := 0, locals := 119 } [.ref a0, .int x1] T O X (Tv D cs (fun u => u = (T, O, X))) := by
  refine tk_of (by decide) (Nat.le_of_ble_eq_true rfl) (fun p e s m below meth c ls A H locs hx hb hr hml hown hts hlocks hnm hkb hH hS hA hOX hks hE hl => ?_)
  have hown : s.vm.findClass RX12 = some m.cls := hown
  have hl : lv_has ls 2 [(0, .ref a0), (1, .int x1)] := hl
  refine lv_aload_n hx hb dX12_laysClimbsOf_0 rfl (lv_at hl 0 rfl) ?_
  refine lv_iload_n hx hb dX12_laysClimbsOf_1 rfl (lv_at hl 1 rfl) ?_
  refine tk_v hH hS hA (tr_V (n := 1) (As := [.int x1]) hx hb hml hown hts hkb hH hOX hks hE hS hA (s_M_laysGuide l D cs kf T O X a0 hg mq x1 t_a0 b_hg (by omega) (by omega) (hO.sub (by decide))) kw_1502 kw_1504 ks_71 kw_13 kw_1505 (by decide +kernel) ⟨Nat.le_of_ble_eq_true rfl, Nat.le_of_ble_eq_true rfl⟩ (HT.recv (ci := 12) hkb hH t_a0 (hO.no t_a0 (by decide)) rfl) rfl rfl hl.1 (Nat.le_of_ble_eq_true rfl) dX12_laysClimbsOf_2 ⟨Nat.le_of_ble_eq_true rfl, Nat.le_of_ble_eq_true rfl⟩) (fun u H locs hz9 hH hS => ?_)
  have hz9 : u = (T, O, X) := hz9
  subst hz9
  have hH : HT D cs A T O X H := hH
  refine W.widen (k := 0) (n := 0) (Nat.le_of_ble_eq_true rfl) (Nat.le_of_ble_eq_true rfl) ?_
  refine lv_aload_n hx hb dX12_laysClimbsOf_5 rfl (lv_at hl 0 rfl) ?_
  refine lv_aload_n hx hb dX12_laysClimbsOf_6 rfl (lv_at hl 0 rfl) ?_
  refine tk_i hH hS hA (tr_V (n := 0) (As := []) hx hb hml hown hts hkb hH hOX hks hE hS hA (s_M_openSet l D cs kf T O X a0 hg mq t_a0 b_hg (hO.sub (by decide))) kw_1510 kw_1512 ks_73 kw_13 kw_1513 (by decide +kernel) ⟨Nat.le_of_ble_eq_true rfl, Nat.le_of_ble_eq_true rfl⟩ (HT.recv (ci := 12) hkb hH t_a0 (hO.no t_a0 (by decide)) rfl) rfl rfl hl.1 (Nat.le_of_ble_eq_true rfl) dX12_laysClimbsOf_7 ⟨Nat.le_of_ble_eq_true rfl, Nat.le_of_ble_eq_true rfl⟩) (fun v7 u H locs hz9 hH hS => ?_)
  obtain ⟨rfl, l_v7, u_v7⟩ := hz9
  have hH : HT D cs A T O X H := hH
  refine W.widen (k := 0) (n := 0) (Nat.le_of_ble_eq_true rfl) (Nat.le_of_ble_eq_true rfl) ?_
  refine tk_v hH hS hA (tr_V (n := 1) (As := [.int v7]) hx hb hml hown hts hkb hH hOX hks hE hS hA (s_M_laysClimbs l D cs kf T O X a0 hg mq v7 t_a0 b_hg (hO.sub (by decide))) kw_1623 kw_1625 ks_88 kw_13 kw_1626 (by decide +kernel) ⟨Nat.le_of_ble_eq_true rfl, Nat.le_of_ble_eq_true rfl⟩ (HT.recv (ci := 12) hkb hH t_a0 (hO.no t_a0 (by decide)) rfl) rfl rfl hl.1 (Nat.le_of_ble_eq_true rfl) dX12_laysClimbsOf_10 ⟨Nat.le_of_ble_eq_true rfl, Nat.le_of_ble_eq_true rfl⟩) (fun u H locs hz9 hH hS => ?_)
  have hz9 : u = (T, O, X) := hz9
  subst hz9
  have hH : HT D cs A T O X H := hH
  refine W.widen (k := 0) (n := 0) (Nat.le_of_ble_eq_true rfl) (Nat.le_of_ble_eq_true rfl) ?_
  exact te_v hx hb hr hlocks hH hS rfl dX12_laysClimbsOf_13
set_option maxHeartbeats 4000000 in
set_option maxRecDepth 100000 in
theorem s_M_climbsOf (l : Launch) (D : va_G) (cs : CS) (kf : KF) (T : TF) (O : List Nat) (X : va_W) (a0 hg mq : Nat) (x1 : Int32) (x2 : Int32) (t_a0 : T a0 = some (22, hg, mq)) (b_hg : hg < 90) (hO : okO T O [2, 8, 22]) : TK l D cs kf yX12_climbsOf cX12_climbsOf 6 (some (.long)) { frames := 2, cells := 0, slots := 0, locals := 46 } [.ref a0, .int x1, .int x2] T O X (Tl D cs (fun _ u => u = (T, O, X))) := by
  refine tk_of (by decide) (Nat.le_of_ble_eq_true rfl) (fun p e s m below meth c ls A H locs hx hb hr hml hown hts hlocks hnm hkb hH hS hA hOX hks hE hl => ?_)
  have hown : s.vm.findClass RX12 = some m.cls := hown
  have hl : lv_has ls 6 [(0, .ref a0), (1, .int x1), (2, .int x2)] := hl
  refine lv_lconst (v := 0) hx hb dX12_climbsOf_0 (by decide) ?_
  refine lv_lstore_n (lv' := [(3, .long 0), (0, .ref a0), (1, .int x1), (2, .int x2)]) hx hb dX12_climbsOf_1 rfl hl (by decide) rfl (fun ls hl => ?_)
  refine lv_iconst (v := 0) hx hb dX12_climbsOf_2 (by decide) ?_
  have J5 : ∀ (n : Nat) (p5_5 : Int32) (p5_3 : Int64) (H : Heap) (locs : List Loc) (ls : Array Slot), (16384 - p5_5.toInt).toNat = n → (0 ≤ p5_5.toInt) → (p5_5.toInt ≤ 16384) → HT D cs A T O X H → va_S A s.heap H locs → lv_has ls 6 [(5, .int p5_5), (3, .long p5_3), (0, .ref a0), (1, .int x1), (2, .int x2)] → W p l e { frames := 2, cells := 0, slots := 0, locals := 46 } s m [.ref a0, .int x1, .int x2].toArray below meth c H locs 0 0 (MQ below (Tl D cs (fun _ u => u = (T, O, X)) A) [.ref a0, .int x1, .int x2].toArray s 0 0 A) (F0 m 5 ls []) := by
    intro n
    induction n using Nat.strongRecOn with
    | _ n ih5 =>
      intro p5_5 p5_3 H locs ls hm5 l_p5_5 u_p5_5 hH hS hl
      refine lv_iload hx hb dX12_climbsOf_5 (lv_at hl 0 rfl) ?_
      refine lv_iconst (v := 1) hx hb dX12_climbsOf_7 (by decide) ?_
      refine lv_aload_n hx hb dX12_climbsOf_8 rfl (lv_at hl 2 rfl) ?_
      refine t_get (ci := 12) (lst := ft12 hg mq) (C := RX12) (F := TX12) (N := 36) hx hb hts uX12 hown hkb hH t_a0 (hO.no t_a0 (by decide)) (fun _ h9 => h9) rfl rfl 1 (by decide) rfl kw_1224 (fun _ h9 => h9) dX12_climbsOf_9 (fun v9 h9 => ?_)
      obtain ⟨v9, rfl, t_v9⟩ := h9
      refine lv_iconst (v := 1) hx hb dX12_climbsOf_12 (by decide) ?_
      refine t_ild8 hx hb hkb hH t_v9 (hO.no t_v9 (by decide)) (by decide) (by decide) (by decide) dX12_climbsOf_13 (fun v13 h9 h8 => ?_)
      have q9 := (h8 rfl).1 rfl
      subst q9
      have eH9 : (nI (hg / 6)).toInt = (((hg / 6) : Nat) : Int) := nI_toInt (by omega)
      refine lv_ishl hx hb dX12_climbsOf_14 ?_
      refine lv_topi (fun v14 ev14 => ?_)
      have tv14 : 1 ≤ v14.toInt ∧ v14.toInt ≤ 16384 := by rw [ev14]; exact shl_b 14 (by decide) (by omega) (by omega)
      refine lv_icmp_ge (tgt := 49) hx hb dX12_climbsOf_15 (by decide) (fun c15 => ?_) (fun c15 => ?_)
      · skip
        have fuc15 := full_i p5_5
        have fvc15 := full_i v14
        have tc15 := g_le c15
        refine lv_lload_n hx hb dX12_climbsOf_49 rfl (lv_at hl 1 rfl) ?_
        exact te_l hx hb hr hlocks hH hS rfl dX12_climbsOf_50
      · skip
        have fuc15 := full_i p5_5
        have fvc15 := full_i v14
        have tc15 := g_nle c15
        refine lv_iload hx hb dX12_climbsOf_18 (lv_at hl 0 rfl) ?_
        refine tk_i hH hS hA (tr_S (n := 1) (As := [.int p5_5]) hx hb hml hown hts hkb hH hOX hks hE hS hA (s_M_bitsOf l D cs kf T O X p5_5  (hO.sub (by decide))) kw_1631 kw_1632 kw_13 kw_1633 (by decide +kernel) ⟨Nat.le_of_ble_eq_true rfl, Nat.le_of_ble_eq_true rfl⟩ rfl rfl hl.1 (Nat.le_of_ble_eq_true rfl) dX12_climbsOf_20 ⟨Nat.le_of_ble_eq_true rfl, Nat.le_of_ble_eq_true rfl⟩) (fun v20 u H locs hz9 hH hS => ?_)
        have hz9 : u = (T, O, X) := hz9
        subst hz9
        have hH : HT D cs A T O X H := hH
        refine W.widen (k := 0) (n := 0) (Nat.le_of_ble_eq_true rfl) (Nat.le_of_ble_eq_true rfl) ?_
        refine lv_i2l hx hb dX12_climbsOf_23 rfl ?_
        refine lv_iload_n hx hb dX12_climbsOf_24 rfl (lv_at hl 3 rfl) ?_
        refine lv_i2l hx hb dX12_climbsOf_25 rfl ?_
        refine lv_iload_n hx hb dX12_climbsOf_26 rfl (lv_at hl 4 rfl) ?_
        refine lv_i2l hx hb dX12_climbsOf_27 rfl ?_
        refine tk_i hH hS hA (tr_S (n := 3) (As := [.long v20.toInt64, .long x1.toInt64, .long x2.toInt64]) hx hb hml hown hts hkb hH hOX hks hE hS hA (s_M_within l D cs kf T O X v20.toInt64 x1.toInt64 x2.toInt64  (hO.sub (by decide))) kw_1341 kw_1342 kw_13 kw_1343 (by decide +kernel) ⟨Nat.le_of_ble_eq_true rfl, Nat.le_of_ble_eq_true rfl⟩ rfl rfl hl.1 (Nat.le_of_ble_eq_true rfl) dX12_climbsOf_28 ⟨Nat.le_of_ble_eq_true rfl, Nat.le_of_ble_eq_true rfl⟩) (fun v28 u H locs hz9 hH hS => ?_)
        obtain ⟨rfl, l_v28, u_v28, x_v280, x_v281⟩ := hz9
        simp only [Int32.toInt_toInt64] at x_v280 x_v281
        have hH : HT D cs A T O X H := hH
        refine W.widen (k := 0) (n := 0) (Nat.le_of_ble_eq_true rfl) (Nat.le_of_ble_eq_true rfl) ?_
        have J43 : ∀ (p43_3 : Int64) (H : Heap) (locs : List Loc) (ls : Array Slot), HT D cs A T O X H → va_S A s.heap H locs → lv_has ls 6 [(5, .int p5_5), (3, .long p43_3), (0, .ref a0), (1, .int x1), (2, .int x2)] → W p l e { frames := 2, cells := 0, slots := 0, locals := 46 } s m [.ref a0, .int x1, .int x2].toArray below meth c H locs 0 0 (MQ below (Tl D cs (fun _ u => u = (T, O, X)) A) [.ref a0, .int x1, .int x2].toArray s 0 0 A) (F0 m 43 ls []) := by
          intro p43_3 H locs ls  hH hS hl
          obtain ⟨v43, ev43⟩ : ∃ y : Int32, y = p5_5 + 1 := ⟨_, rfl⟩
          have tv43 : v43.toInt = p5_5.toInt + (1) := by rw [ev43]; exact add_i rfl (by decide) (by omega) (by omega)
          refine lv_iinc (v := v43) (lv' := [(5, .int v43), (3, .long p43_3), (0, .ref a0), (1, .int x1), (2, .int x2)]) hx hb dX12_climbsOf_43 hl (k := 0) rfl (by rw [ev43]; rfl) (by decide) rfl (fun ls hl => ?_)
          refine lv_goto (tgt := 5) hx hb dX12_climbsOf_46 (by decide) ?_
          exact ih5 _ (by omega) v43 p43_3 _ _ _ rfl (by omega) (by omega) hH hS (lv_sub hl [0, 1, 2, 3, 4] rfl)
        refine lv_if_eq (tgt := 43) hx hb dX12_climbsOf_31 (by decide) (fun c31 => ?_) (fun c31 => ?_)
        · skip
          have tc31 := f_eq (k := 0) (by decide) c31
          clear x_v280
          replace x_v281 := x_v281.resolve_left (fun q9 => q9 tc31)
          exact J43 p5_3 _ _ _  hH hS (lv_sub hl [0, 1, 2, 3, 4] rfl)
        · skip
          have tc31 := f_ne (k := 0) (by decide) c31
          replace x_v280 := x_v280.resolve_left tc31
          clear x_v281
          refine lv_lload_n hx hb dX12_climbsOf_34 rfl (lv_at hl 1 rfl) ?_
          refine lv_aload_n hx hb dX12_climbsOf_35 rfl (lv_at hl 2 rfl) ?_
          refine lv_iload hx hb dX12_climbsOf_36 (lv_at hl 0 rfl) ?_
          refine tk_l hH hS hA (tr_V (n := 1) (As := [.int p5_5]) hx hb hml hown hts hkb hH hOX hks hE hS hA (s_M_climbsBy l D cs kf T O X a0 hg mq p5_5 t_a0 b_hg (by omega) (by omega) (hO.sub (by decide))) kw_1634 kw_1636 ks_90 kw_13 kw_1637 (by decide +kernel) ⟨Nat.le_of_ble_eq_true rfl, Nat.le_of_ble_eq_true rfl⟩ (HT.recv (ci := 12) hkb hH t_a0 (hO.no t_a0 (by decide)) rfl) rfl rfl hl.1 (Nat.le_of_ble_eq_true rfl) dX12_climbsOf_38 ⟨Nat.le_of_ble_eq_true rfl, Nat.le_of_ble_eq_true rfl⟩) (fun v38 u H locs hz9 hH hS => ?_)
          have hz9 : u = (T, O, X) := hz9
          subst hz9
          have hH : HT D cs A T O X H := hH
          refine W.widen (k := 0) (n := 0) (Nat.le_of_ble_eq_true rfl) (Nat.le_of_ble_eq_true rfl) ?_
          refine lv_ladd hx hb dX12_climbsOf_41 ?_
          refine lv_topl (fun v41 ev41 => ?_)
          refine lv_lstore_n (lv' := [(3, .long v41), (5, .int p5_5), (0, .ref a0), (1, .int x1), (2, .int x2)]) hx hb dX12_climbsOf_42 rfl hl (by decide) rfl (fun ls hl => ?_)
          exact J43 v41 _ _ _  hH hS (lv_sub hl [1, 0, 2, 3, 4] rfl)
  refine lv_istore (lv' := [(5, .int 0), (3, .long 0), (0, .ref a0), (1, .int x1), (2, .int x2)]) hx hb dX12_climbsOf_3 hl (by decide) rfl (fun ls hl => ?_)
  exact J5 _ 0 0 _ _ _ rfl (by decide) (by decide) hH hS (lv_sub hl [0, 1, 2, 3, 4] rfl)
set_option maxHeartbeats 4000000 in
set_option maxRecDepth 100000 in
theorem s_M_climbs (l : Launch) (D : va_G) (cs : CS) (kf : KF) (T : TF) (O : List Nat) (X : va_W) (a0 hg mq : Nat) (x1 : Int32) (x2 : Int32) (t_a0 : T a0 = some (22, hg, mq)) (b_hg : hg < 90) (hO : okO T O [1, 2, 8, 9, 22]) : TK l D cs kf yX12_climbs cX12_climbs 3 (some (.long)) { frames := 6, cells := 0, slots := 0, locals := 140 } [.ref a0, .int x1, .int x2] T O X (Tl D cs (fun _ u => u = (T, O, X))) := by
  refine tk_of (by decide) (Nat.le_of_ble_eq_true rfl) (fun p e s m below meth c ls A H locs hx hb hr hml hown hts hlocks hnm hkb hH hS hA hOX hks hE hl => ?_)
  have hown : s.vm.findClass RX12 = some m.cls := hown
  have hl : lv_has ls 3 [(0, .ref a0), (1, .int x1), (2, .int x2)] := hl
  refine lv_aload_n hx hb dX12_climbs_0 rfl (lv_at hl 0 rfl) ?_
  refine lv_iconst (v := 0) hx hb dX12_climbs_1 (by decide) ?_
  refine t_put (ci := 12) (lst := ft12 hg mq) (v := .int 0) (ty := tyX12 0) (C := RX12) (F := TX12) (N := 36) hx hb hts uX12 tyX12 tyX12_ok nmX12 hown hkb hH hS t_a0 (hO.no t_a0 (by decide)) (fun _ => Iff.rfl) rfl rfl 0 (by decide) rfl (⟨_, rfl⟩) kw_1223 (fun _ h9 => h9) rfl (tyX12_ok 0 (by decide)) rfl rfl dX12_climbs_2 (fun H locs hH hS => ?_)
  refine lv_aload_n hx hb dX12_climbs_5 rfl (lv_at hl 0 rfl) ?_
  refine lv_iload_n hx hb dX12_climbs_6 rfl (lv_at hl 1 rfl) ?_
  refine lv_i2l hx hb dX12_climbs_7 rfl ?_
  refine tk_i hH hS hA (tr_V (n := 1) (As := [.long x1.toInt64]) hx hb hml hown hts hkb hH hOX hks hE hS hA (s_M_isGuide l D cs kf T O X a0 hg mq x1.toInt64 t_a0 b_hg (hO.sub (by decide))) kw_1470 kw_1472 ks_67 kw_13 kw_1473 (by decide +kernel) ⟨Nat.le_of_ble_eq_true rfl, Nat.le_of_ble_eq_true rfl⟩ (HT.recv (ci := 12) hkb hH t_a0 (hO.no t_a0 (by decide)) rfl) rfl rfl hl.1 (Nat.le_of_ble_eq_true rfl) dX12_climbs_8 ⟨Nat.le_of_ble_eq_true rfl, Nat.le_of_ble_eq_true rfl⟩) (fun v8 u H locs hz9 hH hS => ?_)
  obtain ⟨rfl, l_v8, u_v8, x_v80⟩ := hz9
  simp only [Int32.toInt_toInt64] at x_v80
  have hH : HT D cs A T O X H := hH
  refine W.widen (k := 0) (n := 0) (Nat.le_of_ble_eq_true rfl) (Nat.le_of_ble_eq_true rfl) ?_
  refine lv_if_ne (tgt := 18) hx hb dX12_climbs_11 (by decide) (fun c11 => ?_) (fun c11 => ?_)
  · skip
    have tc11 := f_ne (k := 0) (by decide) c11
    replace x_v80 := x_v80.resolve_left tc11
    refine lv_iload_n hx hb dX12_climbs_18 rfl (lv_at hl 2 rfl) ?_
    refine lv_i2l hx hb dX12_climbs_19 rfl ?_
    refine lv_lconst (v := 1) hx hb dX12_climbs_20 (by decide) ?_
    refine lv_ldc2 hx hb hown (hts _ kw_1642) dX12_climbs_21 ?_
    refine tk_i hH hS hA (tr_S (n := 3) (As := [.long x2.toInt64, .long 1, .long 7]) hx hb hml hown hts hkb hH hOX hks hE hS hA (s_M_within l D cs kf T O X x2.toInt64 1 7  (hO.sub (by decide))) kw_1341 kw_1342 kw_13 kw_1343 (by decide +kernel) ⟨Nat.le_of_ble_eq_true rfl, Nat.le_of_ble_eq_true rfl⟩ rfl rfl hl.1 (Nat.le_of_ble_eq_true rfl) dX12_climbs_24 ⟨Nat.le_of_ble_eq_true rfl, Nat.le_of_ble_eq_true rfl⟩) (fun v24 u H locs hz9 hH hS => ?_)
    obtain ⟨rfl, l_v24, u_v24, x_v240, x_v241⟩ := hz9
    simp only [Int32.toInt_toInt64] at x_v240 x_v241
    have k9_1 : (1 : Int64).toInt = 1 := by decide
    have k9_7 : (7 : Int64).toInt = 7 := by decide
    have hH : HT D cs A T O X H := hH
    refine W.widen (k := 0) (n := 0) (Nat.le_of_ble_eq_true rfl) (Nat.le_of_ble_eq_true rfl) ?_
    refine lv_if_ne (tgt := 34) hx hb dX12_climbs_27 (by decide) (fun c27 => ?_) (fun c27 => ?_)
    · skip
      have tc27 := f_ne (k := 0) (by decide) c27
      replace x_v240 := x_v240.resolve_left tc27
      clear x_v241
      refine lv_aload_n hx hb dX12_climbs_34 rfl (lv_at hl 0 rfl) ?_
      refine lv_iload_n hx hb dX12_climbs_35 rfl (lv_at hl 1 rfl) ?_
      refine tk_v hH hS hA (tr_V (n := 1) (As := [.int x1]) hx hb hml hown hts hkb hH hOX hks hE hS hA (s_M_laysClimbsOf l D cs kf T O X a0 hg mq x1 t_a0 b_hg (by omega) (by omega) (hO.sub (by decide))) kw_1644 kw_1646 ks_91 kw_13 kw_1647 (by decide +kernel) ⟨Nat.le_of_ble_eq_true rfl, Nat.le_of_ble_eq_true rfl⟩ (HT.recv (ci := 12) hkb hH t_a0 (hO.no t_a0 (by decide)) rfl) rfl rfl hl.1 (Nat.le_of_ble_eq_true rfl) dX12_climbs_36 ⟨Nat.le_of_ble_eq_true rfl, Nat.le_of_ble_eq_true rfl⟩) (fun u H locs hz9 hH hS => ?_)
      have hz9 : u = (T, O, X) := hz9
      subst hz9
      have hH : HT D cs A T O X H := hH
      refine W.widen (k := 0) (n := 0) (Nat.le_of_ble_eq_true rfl) (Nat.le_of_ble_eq_true rfl) ?_
      refine lv_aload_n hx hb dX12_climbs_39 rfl (lv_at hl 0 rfl) ?_
      refine lv_iconst (v := 1) hx hb dX12_climbs_40 (by decide) ?_
      refine lv_iload_n hx hb dX12_climbs_41 rfl (lv_at hl 2 rfl) ?_
      refine tk_l hH hS hA (tr_V (n := 2) (As := [.int 1, .int x2]) hx hb hml hown hts hkb hH hOX hks hE hS hA (s_M_climbsOf l D cs kf T O X a0 hg mq (1) x2 t_a0 b_hg (hO.sub (by decide))) kw_1627 kw_1629 ks_89 kw_13 kw_1630 (by decide +kernel) ⟨Nat.le_of_ble_eq_true rfl, Nat.le_of_ble_eq_true rfl⟩ (HT.recv (ci := 12) hkb hH t_a0 (hO.no t_a0 (by decide)) rfl) rfl rfl hl.1 (Nat.le_of_ble_eq_true rfl) dX12_climbs_42 ⟨Nat.le_of_ble_eq_true rfl, Nat.le_of_ble_eq_true rfl⟩) (fun v42 u H locs hz9 hH hS => ?_)
      have hz9 : u = (T, O, X) := hz9
      subst hz9
      have hH : HT D cs A T O X H := hH
      refine W.widen (k := 0) (n := 0) (Nat.le_of_ble_eq_true rfl) (Nat.le_of_ble_eq_true rfl) ?_
      exact te_l hx hb hr hlocks hH hS rfl dX12_climbs_45
    · skip
      have tc27 := f_eq (k := 0) (by decide) c27
      clear x_v240
      replace x_v241 := x_v241.resolve_left (fun q9 => q9 tc27)
      refine lv_ldc2 hx hb hown (hts _ kw_1643) dX12_climbs_30 ?_
      exact te_l hx hb hr hlocks hH hS rfl dX12_climbs_33
  · skip
    have tc11 := f_eq (k := 0) (by decide) c11
    clear x_v80
    refine lv_ldc2 hx hb hown (hts _ kw_1622) dX12_climbs_14 ?_
    exact te_l hx hb hr hlocks hH hS rfl dX12_climbs_17
