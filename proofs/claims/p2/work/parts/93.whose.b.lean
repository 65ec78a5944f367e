set_option maxHeartbeats 4000000 in
set_option maxRecDepth 100000 in
theorem s_M_moreBy (l : Launch) (D : va_G) (cs : CS) (kf : KF) (T : TF) (O : List Nat) (X : va_W) (a0 hg mq : Nat) (x1 : Int32) (x2 : Int32) (t_a0 : T a0 = some (22, hg, mq)) (b_hg : hg < 90) (l_x1 : 0 ≤ x1.toInt) (u_x1 : x1.toInt ≤ 16383) (l_x2 : 0 ≤ x2.toInt) (u_x2 : x2.toInt ≤ 13) (hO : okO T O [0, 22]) : TK l D cs kf yX12_moreBy cX12_moreBy 3 (some (.int)) { frames := 0, cells := 0, slots := 0, locals := 0 } [.ref a0, .int x1, .int x2] T O X (Ti D cs (fun r u => u = (T, O, X))) := by
  refine tk_of (by decide) (Nat.le_of_ble_eq_true rfl) (fun p e s m below meth c ls A H locs hx hb hr hml hown hts hlocks hnm hkb hH hS hA hOX hks hE hl => ?_)
  have hown : s.vm.findClass RX12 = some m.cls := hown
  have hl : lv_has ls 3 [(0, .ref a0), (1, .int x1), (2, .int x2)] := hl
  refine lv_aload_n hx hb dX12_moreBy_0 rfl (lv_at hl 0 rfl) ?_
  refine t_get (ci := 12) (lst := ft12 hg mq) (C := RX12) (F := TX12) (N := 36) hx hb hts uX12 hown hkb hH t_a0 (hO.no t_a0 (by decide)) (fun _ h9 => h9) rfl rfl 28 (by decide) rfl kw_1251 (fun _ h9 => h9) dX12_moreBy_1 (fun v9 h9 => ?_)
  obtain ⟨v1, rfl, t_v1⟩ := h9
  refine lv_bipush (v := 14) hx hb dX12_moreBy_4 (by decide) ?_
  refine lv_iload_n hx hb dX12_moreBy_6 rfl (lv_at hl 1 rfl) ?_
  refine lv_imul hx hb dX12_moreBy_7 ?_
  refine lv_topi (fun v7 ev7 => ?_)
  have tv7 : v7.toInt = (14) * x1.toInt := by rw [ev7]; exact mul_i (by decide : (14 : Int32).toInt = 14) rfl (by omega) (by omega)
  refine lv_iload_n hx hb dX12_moreBy_8 rfl (lv_at hl 2 rfl) ?_
  refine lv_iadd hx hb dX12_moreBy_9 ?_
  refine lv_topi (fun v9 ev9 => ?_)
  have tv9 : v9.toInt = v7.toInt + x2.toInt := by rw [ev9]; exact add_i rfl rfl (by omega) (by omega)
  refine t_bld hx hb hkb hH t_v1 (hO.no t_v1 (by decide)) (by omega) (by omega) dX12_moreBy_10 (fun v10 => ?_)
  exact te_i hx hb hr hlocks hH hS (rfl) dX12_moreBy_11
set_option maxHeartbeats 4000000 in
set_option maxRecDepth 100000 in
theorem s_M_laysMore (l : Launch) (D : va_G) (cs : CS) (kf : KF) (T : TF) (O : List Nat) (X : va_W) (a0 hg mq : Nat) (x1 : Int32) (x2 : Int32) (t_a0 : T a0 = some (22, hg, mq)) (b_hg : hg < 90) (hO : okO T O [0, 8, 9, 22]) : TK l D cs kf yX12_laysMore cX12_laysMore 8 none { frames := 1, cells := 0, slots := 0, locals := 22 } [.ref a0, .int x1, .int x2] T O X (Tv D cs (fun u => u = (T, O, X))) := by
  refine tk_of (by decide) (Nat.le_of_ble_eq_true rfl) (fun p e s m below meth c ls A H locs hx hb hr hml hown hts hlocks hnm hkb hH hS hA hOX hks hE hl => ?_)
  have hown : s.vm.findClass RX12 = some m.cls := hown
  have hl : lv_has ls 8 [(0, .ref a0), (1, .int x1), (2, .int x2)] := hl
  refine lv_iconst (v := 1) hx hb dX12_laysMore_0 (by decide) ?_
  refine lv_aload_n hx hb dX12_laysMore_1 rfl (lv_at hl 0 rfl) ?_
  refine t_get (ci := 12) (lst := ft12 hg mq) (C := RX12) (F := TX12) (N := 36) hx hb hts uX12 hown hkb hH t_a0 (hO.no t_a0 (by decide)) (fun _ h9 => h9) rfl rfl 1 (by decide) rfl kw_1224 (fun _ h9 => h9) dX12_laysMore_2 (fun v9 h9 => ?_)
  obtain ⟨v2, rfl, t_v2⟩ := h9
  refine lv_iconst (v := 1) hx hb dX12_laysMore_5 (by decide) ?_
  refine t_ild8 hx hb hkb hH t_v2 (hO.no t_v2 (by decide)) (by decide) (by decide) (by decide) dX12_laysMore_6 (fun v6 h9 h8 => ?_)
  have q9 := (h8 rfl).1 rfl
  subst q9
  have eH9 : (nI (hg / 6)).toInt = (((hg / 6) : Nat) : Int) := nI_toInt (by omega)
  refine lv_ishl hx hb dX12_laysMore_7 ?_
  refine lv_topi (fun v7 ev7 => ?_)
  have tv7 : 1 ≤ v7.toInt ∧ v7.toInt ≤ 16384 := by rw [ev7]; exact shl_b 14 (by decide) (by omega) (by omega)
  refine lv_iconst (v := 1) hx hb dX12_laysMore_8 (by decide) ?_
  refine lv_isub hx hb dX12_laysMore_9 ?_
  refine lv_topi (fun v9 ev9 => ?_)
  have tv9 : v9.toInt = v7.toInt - (1) := by rw [ev9]; exact sub_i rfl (by decide : (1 : Int32).toInt = 1) (by omega) (by omega)
  have J11 : ∀ (n : Nat) (p11_3 : Int32) (H : Heap) (locs : List Loc) (ls : Array Slot), (p11_3.toInt - (0)).toNat = n → (0 ≤ p11_3.toInt) → (p11_3.toInt ≤ 16383) → HT D cs A T O X H → va_S A s.heap H locs → lv_has ls 8 [(3, .int p11_3), (0, .ref a0), (1, .int x1), (2, .int x2)] → W p l e { frames := 1, cells := 0, slots := 0, locals := 22 } s m [.ref a0, .int x1, .int x2].toArray below meth c H locs 0 0 (MQ below (Tv D cs (fun u => u = (T, O, X)) A) [.ref a0, .int x1, .int x2].toArray s 0 0 A) (F0 m 11 ls []) := by
    intro n
    induction n using Nat.strongRecOn with
    | _ n ih11 =>
      intro p11_3 H locs ls hm11 l_p11_3 u_p11_3 hH hS hl
      refine lv_iload_n hx hb dX12_laysMore_11 rfl (lv_at hl 0 rfl) ?_
      refine lv_if_le (tgt := 202) hx hb dX12_laysMore_12 (by decide) (fun c12 => ?_) (fun c12 => ?_)
      · skip
        have tc12 := f_le (k := 0) (by decide) c12
        exact te_v hx hb hr hlocks hH hS rfl dX12_laysMore_202
      · skip
        have tc12 := f_nle (k := 0) (by decide) c12
        refine lv_iload_n hx hb dX12_laysMore_15 rfl (lv_at hl 0 rfl) ?_
        refine lv_iload_n hx hb dX12_laysMore_16 rfl (lv_at hl 2 rfl) ?_
        refine lv_iconst (v := (-1)) hx hb dX12_laysMore_17 (by decide) ?_
        refine lv_ixor hx hb dX12_laysMore_18 ?_
        refine lv_topi (fun v18 ev18 => ?_)
        refine lv_iand hx hb dX12_laysMore_19 ?_
        refine lv_topi (fun v19 ev19 => ?_)
        have tv19 : 0 ≤ v19.toInt ∧ v19.toInt ≤ p11_3.toInt := by rw [ev19]; exact and_l (by omega)
        have J196 : ∀  (H : Heap) (locs : List Loc) (ls : Array Slot), HT D cs A T O X H → va_S A s.heap H locs → lv_has ls 8 [(3, .int p11_3), (0, .ref a0), (1, .int x1), (2, .int x2)] → W p l e { frames := 1, cells := 0, slots := 0, locals := 22 } s m [.ref a0, .int x1, .int x2].toArray below meth c H locs 0 0 (MQ below (Tv D cs (fun u => u = (T, O, X)) A) [.ref a0, .int x1, .int x2].toArray s 0 0 A) (F0 m 196 ls []) := by
          intro  H locs ls  hH hS hl
          obtain ⟨v196, ev196⟩ : ∃ y : Int32, y = p11_3 + (-1) := ⟨_, rfl⟩
          have tv196 : v196.toInt = p11_3.toInt + (-1) := by rw [ev196]; exact add_i rfl (by decide) (by omega) (by omega)
          refine lv_iinc (v := v196) (lv' := [(3, .int v196), (0, .ref a0), (1, .int x1), (2, .int x2)]) hx hb dX12_laysMore_196 hl (k := 0) rfl (by rw [ev196]; rfl) (by decide) rfl (fun ls hl => ?_)
          refine lv_goto (tgt := 11) hx hb dX12_laysMore_199 (by decide) ?_
          exact ih11 _ (by omega) v196 _ _ _ rfl (by omega) (by omega) hH hS (lv_sub hl [0, 1, 2, 3] rfl)
        refine lv_if_eq (tgt := 26) hx hb dX12_laysMore_20 (by decide) (fun c20 => ?_) (fun c20 => ?_)
        · skip
          have tc20 := f_eq (k := 0) (by decide) c20
          refine lv_iconst (v := 0) hx hb dX12_laysMore_26 (by decide) ?_
          have J29 : ∀ (n : Nat) (p29_4 : Int32) (H : Heap) (locs : List Loc) (ls : Array Slot), (14 - p29_4.toInt).toNat = n → (0 ≤ p29_4.toInt) → (p29_4.toInt ≤ 14) → HT D cs A T O X H → va_S A s.heap H locs → lv_has ls 8 [(4, .int p29_4), (3, .int p11_3), (0, .ref a0), (1, .int x1), (2, .int x2)] → W p l e { frames := 1, cells := 0, slots := 0, locals := 22 } s m [.ref a0, .int x1, .int x2].toArray below meth c H locs 0 0 (MQ below (Tv D cs (fun u => u = (T, O, X)) A) [.ref a0, .int x1, .int x2].toArray s 0 0 A) (F0 m 29 ls []) := by
            intro n
            induction n using Nat.strongRecOn with
            | _ n ih29 =>
              intro p29_4 H locs ls hm29 l_p29_4 u_p29_4 hH hS hl
              refine lv_iload hx hb dX12_laysMore_29 (lv_at hl 0 rfl) ?_
              refine lv_aload_n hx hb dX12_laysMore_31 rfl (lv_at hl 2 rfl) ?_
              refine t_get (ci := 12) (lst := ft12 hg mq) (C := RX12) (F := TX12) (N := 36) hx hb hts uX12 hown hkb hH t_a0 (hO.no t_a0 (by decide)) (fun _ h9 => h9) rfl rfl 1 (by decide) rfl kw_1224 (fun _ h9 => h9) dX12_laysMore_32 (fun v9 h9 => ?_)
              obtain ⟨v32, rfl, t_v32⟩ := h9
              refine lv_iconst (v := 1) hx hb dX12_laysMore_35 (by decide) ?_
              refine t_ild8 hx hb hkb hH t_v32 (hO.no t_v32 (by decide)) (by decide) (by decide) (by decide) dX12_laysMore_36 (fun v36 h9 h8 => ?_)
              have q9 := (h8 rfl).1 rfl
              subst q9
              have eH9 : (nI (hg / 6)).toInt = (((hg / 6) : Nat) : Int) := nI_toInt (by omega)
              refine lv_icmp_ge (tgt := 196) hx hb dX12_laysMore_37 (by decide) (fun c37 => ?_) (fun c37 => ?_)
              · skip
                have fuc37 := full_i p29_4
                have fvc37 := full_i (nI (hg / 6))
                have tc37 := g_le c37
                exact J196  _ _ _  hH hS (lv_sub hl [1, 2, 3, 4] rfl)
              · skip
                have fuc37 := full_i p29_4
                have fvc37 := full_i (nI (hg / 6))
                have tc37 := g_nle c37
                refine lv_iload_n hx hb dX12_laysMore_40 rfl (lv_at hl 1 rfl) ?_
                refine lv_i2l hx hb dX12_laysMore_41 rfl ?_
                refine lv_iload hx hb dX12_laysMore_42 (lv_at hl 0 rfl) ?_
                refine tk_i hH hS hA (tr_S (n := 2) (As := [.long p11_3.toInt64, .int p29_4]) hx hb hml hown hts hkb hH hOX hks hE hS hA (s_M_isIn2 l D cs kf T O X p11_3.toInt64 p29_4  (hO.sub (by decide))) kw_1440 kw_1441 kw_13 kw_1442 (by decide +kernel) ⟨Nat.le_of_ble_eq_true rfl, Nat.le_of_ble_eq_true rfl⟩ rfl rfl hl.1 (Nat.le_of_ble_eq_true rfl) dX12_laysMore_44 ⟨Nat.le_of_ble_eq_true rfl, Nat.le_of_ble_eq_true rfl⟩) (fun v44 u H locs hz9 hH hS => ?_)
                obtain ⟨rfl, l_v44, u_v44, x_v440⟩ := hz9
                have hH : HT D cs A T O X H := hH
                refine W.widen (k := 0) (n := 0) (Nat.le_of_ble_eq_true rfl) (Nat.le_of_ble_eq_true rfl) ?_
                have J190 : ∀  (H : Heap) (locs : List Loc) (ls : Array Slot), HT D cs A T O X H → va_S A s.heap H locs → lv_has ls 8 [(4, .int p29_4), (3, .int p11_3), (0, .ref a0), (1, .int x1), (2, .int x2)] → W p l e { frames := 1, cells := 0, slots := 0, locals := 22 } s m [.ref a0, .int x1, .int x2].toArray below meth c H locs 0 0 (MQ below (Tv D cs (fun u => u = (T, O, X)) A) [.ref a0, .int x1, .int x2].toArray s 0 0 A) (F0 m 190 ls []) := by
                  intro  H locs ls  hH hS hl
                  obtain ⟨v190, ev190⟩ : ∃ y : Int32, y = p29_4 + 1 := ⟨_, rfl⟩
                  have tv190 : v190.toInt = p29_4.toInt + (1) := by rw [ev190]; exact add_i rfl (by decide) (by omega) (by omega)
                  refine lv_iinc (v := v190) (lv' := [(4, .int v190), (3, .int p11_3), (0, .ref a0), (1, .int x1), (2, .int x2)]) hx hb dX12_laysMore_190 hl (k := 0) rfl (by rw [ev190]; rfl) (by decide) rfl (fun ls hl => ?_)
                  refine lv_goto (tgt := 29) hx hb dX12_laysMore_193 (by decide) ?_
                  exact ih29 _ (by omega) v190 _ _ _ rfl (by omega) (by omega) hH hS (lv_sub hl [0, 1, 2, 3, 4] rfl)
                refine lv_if_ne (tgt := 53) hx hb dX12_laysMore_47 (by decide) (fun c47 => ?_) (fun c47 => ?_)
                · skip
                  have tc47 := f_ne (k := 0) (by decide) c47
                  refine lv_aload_n hx hb dX12_laysMore_53 rfl (lv_at hl 2 rfl) ?_
                  refine t_get (ci := 12) (lst := ft12 hg mq) (C := RX12) (F := TX12) (N := 36) hx hb hts uX12 hown hkb hH t_a0 (hO.no t_a0 (by decide)) (fun _ h9 => h9) rfl rfl 1 (by decide) rfl kw_1224 (fun _ h9 => h9) dX12_laysMore_54 (fun v9 h9 => ?_)
                  obtain ⟨v54, rfl, t_v54⟩ := h9
                  refine lv_iconst (v := 5) hx hb dX12_laysMore_57 (by decide) ?_
                  refine t_ild8 hx hb hkb hH t_v54 (hO.no t_v54 (by decide)) (by decide) (by decide) (by decide) dX12_laysMore_58 (fun v58 h9 h8 => ?_)
                  have tv58 : 0 ≤ v58.toInt ∧ v58.toInt ≤ 16383 := h9.2.2.2.1 (by decide)
                  refine lv_i2l hx hb dX12_laysMore_59 rfl ?_
                  refine lv_iload hx hb dX12_laysMore_60 (lv_at hl 0 rfl) ?_
                  refine tk_i hH hS hA (tr_S (n := 2) (As := [.long v58.toInt64, .int p29_4]) hx hb hml hown hts hkb hH hOX hks hE hS hA (s_M_isIn2 l D cs kf T O X v58.toInt64 p29_4  (hO.sub (by decide))) kw_1440 kw_1441 kw_13 kw_1442 (by decide +kernel) ⟨Nat.le_of_ble_eq_true rfl, Nat.le_of_ble_eq_true rfl⟩ rfl rfl hl.1 (Nat.le_of_ble_eq_true rfl) dX12_laysMore_62 ⟨Nat.le_of_ble_eq_true rfl, Nat.le_of_ble_eq_true rfl⟩) (fun v62 u H locs hz9 hH hS => ?_)
                  obtain ⟨rfl, l_v62, u_v62, x_v620⟩ := hz9
                  have hH : HT D cs A T O X H := hH
                  refine W.widen (k := 0) (n := 0) (Nat.le_of_ble_eq_true rfl) (Nat.le_of_ble_eq_true rfl) ?_
                  have J82 : ∀ (k82_0 : Int32) (H : Heap) (locs : List Loc) (ls : Array Slot), (0 ≤ k82_0.toInt) → (k82_0.toInt ≤ 99) → HT D cs A T O X H → va_S A s.heap H locs → lv_has ls 8 [(4, .int p29_4), (3, .int p11_3), (0, .ref a0), (1, .int x1), (2, .int x2)] → W p l e { frames := 1, cells := 0, slots := 0, locals := 22 } s m [.ref a0, .int x1, .int x2].toArray below meth c H locs 0 0 (MQ below (Tv D cs (fun u => u = (T, O, X)) A) [.ref a0, .int x1, .int x2].toArray s 0 0 A) (F0 m 82 ls [.int k82_0]) := by
                    intro k82_0 H locs ls l_k82_0 u_k82_0 hH hS hl
                    refine lv_istore (lv' := [(5, .int k82_0), (4, .int p29_4), (3, .int p11_3), (0, .ref a0), (1, .int x1), (2, .int x2)]) hx hb dX12_laysMore_82 hl (by decide) rfl (fun ls hl => ?_)
                    refine lv_aload_n hx hb dX12_laysMore_84 rfl (lv_at hl 3 rfl) ?_
                    refine t_get (ci := 12) (lst := ft12 hg mq) (C := RX12) (F := TX12) (N := 36) hx hb hts uX12 hown hkb hH t_a0 (hO.no t_a0 (by decide)) (fun _ h9 => h9) rfl rfl 17 (by decide) rfl kw_1240 (fun _ h9 => h9) dX12_laysMore_85 (fun v9 h9 => ?_)
                    obtain ⟨v85, rfl, t_v85⟩ := h9
                    refine lv_iload hx hb dX12_laysMore_88 (lv_at hl 1 rfl) ?_
                    refine t_ild9 hx hb hkb hH t_v85 (hO.no t_v85 (by decide)) (by omega) (by omega) dX12_laysMore_90 (fun v90 h9 => ?_)
                    have tv90 : 0 ≤ v90.toInt ∧ v90.toInt ≤ 16383 := h9
                    refine lv_iload_n hx hb dX12_laysMore_91 rfl (lv_at hl 4 rfl) ?_
                    refine lv_iand hx hb dX12_laysMore_92 ?_
                    refine lv_topi (fun v92 ev92 => ?_)
                    have tv92 : 0 ≤ v92.toInt ∧ v92.toInt ≤ v90.toInt := by rw [ev92]; exact and_l (by omega)
                    refine lv_iload_n hx hb dX12_laysMore_93 rfl (lv_at hl 2 rfl) ?_
                    refine lv_iconst (v := (-1)) hx hb dX12_laysMore_94 (by decide) ?_
                    refine lv_ixor hx hb dX12_laysMore_95 ?_
                    refine lv_topi (fun v95 ev95 => ?_)
                    refine lv_iand hx hb dX12_laysMore_96 ?_
                    refine lv_topi (fun v96 ev96 => ?_)
                    have tv96 : 0 ≤ v96.toInt ∧ v96.toInt ≤ v92.toInt := by rw [ev96]; exact and_l (by omega)
                    refine lv_istore (lv' := [(6, .int v96), (5, .int k82_0), (4, .int p29_4), (3, .int p11_3), (0, .ref a0), (1, .int x1), (2, .int x2)]) hx hb dX12_laysMore_97 hl (by decide) rfl (fun ls hl => ?_)
                    refine lv_iconst (v := 0) hx hb dX12_laysMore_99 (by decide) ?_
                    have J102 : ∀ (n : Nat) (p102_7 : Int32) (p102_5 : Int32) (H : Heap) (locs : List Loc) (ls : Array Slot), (14 - p102_7.toInt).toNat = n → (0 ≤ p102_7.toInt) → (p102_7.toInt ≤ 14) → HT D cs A T O X H → va_S A s.heap H locs → lv_has ls 8 [(7, .int p102_7), (6, .int v96), (5, .int p102_5), (4, .int p29_4), (3, .int p11_3), (0, .ref a0), (1, .int x1), (2, .int x2)] → W p l e { frames := 1, cells := 0, slots := 0, locals := 22 } s m [.ref a0, .int x1, .int x2].toArray below meth c H locs 0 0 (MQ below (Tv D cs (fun u => u = (T, O, X)) A) [.ref a0, .int x1, .int x2].toArray s 0 0 A) (F0 m 102 ls []) := by
                      intro n
                      induction n using Nat.strongRecOn with
                      | _ n ih102 =>
                        intro p102_7 p102_5 H locs ls hm102 l_p102_7 u_p102_7 hH hS hl
                        refine lv_iload hx hb dX12_laysMore_102 (lv_at hl 0 rfl) ?_
                        refine lv_aload_n hx hb dX12_laysMore_104 rfl (lv_at hl 5 rfl) ?_
                        refine t_get (ci := 12) (lst := ft12 hg mq) (C := RX12) (F := TX12) (N := 36) hx hb hts uX12 hown hkb hH t_a0 (hO.no t_a0 (by decide)) (fun _ h9 => h9) rfl rfl 1 (by decide) rfl kw_1224 (fun _ h9 => h9) dX12_laysMore_105 (fun v9 h9 => ?_)
                        obtain ⟨v105, rfl, t_v105⟩ := h9
                        refine lv_iconst (v := 1) hx hb dX12_laysMore_108 (by decide) ?_
                        refine t_ild8 hx hb hkb hH t_v105 (hO.no t_v105 (by decide)) (by decide) (by decide) (by decide) dX12_laysMore_109 (fun v109 h9 h8 => ?_)
                        have q9 := (h8 rfl).1 rfl
                        subst q9
                        have eH9 : (nI (hg / 6)).toInt = (((hg / 6) : Nat) : Int) := nI_toInt (by omega)
                        refine lv_icmp_ge (tgt := 175) hx hb dX12_laysMore_110 (by decide) (fun c110 => ?_) (fun c110 => ?_)
                        · skip
                          have fuc110 := full_i p102_7
                          have fvc110 := full_i (nI (hg / 6))
                          have tc110 := g_le c110
                          refine lv_aload_n hx hb dX12_laysMore_175 rfl (lv_at hl 5 rfl) ?_
                          refine t_get (ci := 12) (lst := ft12 hg mq) (C := RX12) (F := TX12) (N := 36) hx hb hts uX12 hown hkb hH t_a0 (hO.no t_a0 (by decide)) (fun _ h9 => h9) rfl rfl 28 (by decide) rfl kw_1251 (fun _ h9 => h9) dX12_laysMore_176 (fun v9 h9 => ?_)
                          obtain ⟨v176, rfl, t_v176⟩ := h9
                          refine lv_bipush (v := 14) hx hb dX12_laysMore_179 (by decide) ?_
                          refine lv_iload_n hx hb dX12_laysMore_181 rfl (lv_at hl 4 rfl) ?_
                          refine lv_imul hx hb dX12_laysMore_182 ?_
                          refine lv_topi (fun v182 ev182 => ?_)
                          have tv182 : v182.toInt = (14) * p11_3.toInt := by rw [ev182]; exact mul_i (by decide : (14 : Int32).toInt = 14) rfl (by omega) (by omega)
                          refine lv_iload hx hb dX12_laysMore_183 (lv_at hl 3 rfl) ?_
                          refine lv_iadd hx hb dX12_laysMore_185 ?_
                          refine lv_topi (fun v185 ev185 => ?_)
                          have tv185 : v185.toInt = v182.toInt + p29_4.toInt := by rw [ev185]; exact add_i rfl rfl (by omega) (by omega)
                          refine lv_iload hx hb dX12_laysMore_186 (lv_at hl 2 rfl) ?_
                          refine lv_i2b hx hb dX12_laysMore_188 rfl ?_
                          refine lv_topi (fun v188 ev188 => ?_)
                          refine t_bst hx hb hkb hH hS t_v176 (hO.no t_v176 (by decide)) (by omega) (by omega) dX12_laysMore_189 (fun H locs hH hS => ?_)
                          exact J190  _ _ _  hH hS (lv_sub hl [3, 4, 5, 6, 7] rfl)
                        · skip
                          have fuc110 := full_i p102_7
                          have fvc110 := full_i (nI (hg / 6))
                          have tc110 := g_nle c110
                          refine lv_iload hx hb dX12_laysMore_113 (lv_at hl 1 rfl) ?_
                          refine lv_i2l hx hb dX12_laysMore_115 rfl ?_
                          refine lv_iload hx hb dX12_laysMore_116 (lv_at hl 0 rfl) ?_
                          refine tk_i hH hS hA (tr_S (n := 2) (As := [.long v96.toInt64, .int p102_7]) hx hb hml hown hts hkb hH hOX hks hE hS hA (s_M_isIn2 l D cs kf T O X v96.toInt64 p102_7  (hO.sub (by decide))) kw_1440 kw_1441 kw_13 kw_1442 (by decide +kernel) ⟨Nat.le_of_ble_eq_true rfl, Nat.le_of_ble_eq_true rfl⟩ rfl rfl hl.1 (Nat.le_of_ble_eq_true rfl) dX12_laysMore_118 ⟨Nat.le_of_ble_eq_true rfl, Nat.le_of_ble_eq_true rfl⟩) (fun v118 u H locs hz9 hH hS => ?_)
                          obtain ⟨rfl, l_v118, u_v118, x_v1180⟩ := hz9
                          have hH : HT D cs A T O X H := hH
                          refine W.widen (k := 0) (n := 0) (Nat.le_of_ble_eq_true rfl) (Nat.le_of_ble_eq_true rfl) ?_
                          have J169 : ∀ (p169_5 : Int32) (H : Heap) (locs : List Loc) (ls : Array Slot), HT D cs A T O X H → va_S A s.heap H locs → lv_has ls 8 [(7, .int p102_7), (6, .int v96), (5, .int p169_5), (4, .int p29_4), (3, .int p11_3), (0, .ref a0), (1, .int x1), (2, .int x2)] → W p l e { frames := 1, cells := 0, slots := 0, locals := 22 } s m [.ref a0, .int x1, .int x2].toArray below meth c H locs 0 0 (MQ below (Tv D cs (fun u => u = (T, O, X)) A) [.ref a0, .int x1, .int x2].toArray s 0 0 A) (F0 m 169 ls []) := by
                            intro p169_5 H locs ls  hH hS hl
                            obtain ⟨v169, ev169⟩ : ∃ y : Int32, y = p102_7 + 1 := ⟨_, rfl⟩
                            have tv169 : v169.toInt = p102_7.toInt + (1) := by rw [ev169]; exact add_i rfl (by decide) (by omega) (by omega)
                            refine lv_iinc (v := v169) (lv' := [(7, .int v169), (6, .int v96), (5, .int p169_5), (4, .int p29_4), (3, .int p11_3), (0, .ref a0), (1, .int x1), (2, .int x2)]) hx hb dX12_laysMore_169 hl (k := 0) rfl (by rw [ev169]; rfl) (by decide) rfl (fun ls hl => ?_)
                            refine lv_goto (tgt := 102) hx hb dX12_laysMore_172 (by decide) ?_
                            exact ih102 _ (by omega) v169 p169_5 _ _ _ rfl (by omega) (by omega) hH hS (lv_sub hl [0, 1, 2, 3, 4, 5, 6, 7] rfl)
                          refine lv_if_eq (tgt := 169) hx hb dX12_laysMore_121 (by decide) (fun c121 => ?_) (fun c121 => ?_)
                          · skip
                            have tc121 := f_eq (k := 0) (by decide) c121
                            exact J169 p102_5 _ _ _  hH hS (lv_sub hl [0, 1, 2, 3, 4, 5, 6, 7] rfl)
                          · skip
                            have tc121 := f_ne (k := 0) (by decide) c121
                            refine lv_aload_n hx hb dX12_laysMore_124 rfl (lv_at hl 5 rfl) ?_
                            refine t_get (ci := 12) (lst := ft12 hg mq) (C := RX12) (F := TX12) (N := 36) hx hb hts uX12 hown hkb hH t_a0 (hO.no t_a0 (by decide)) (fun _ h9 => h9) rfl rfl 28 (by decide) rfl kw_1251 (fun _ h9 => h9) dX12_laysMore_125 (fun v9 h9 => ?_)
                            obtain ⟨v125, rfl, t_v125⟩ := h9
                            refine lv_bipush (v := 14) hx hb dX12_laysMore_128 (by decide) ?_
                            refine lv_iload_n hx hb dX12_laysMore_130 rfl (lv_at hl 4 rfl) ?_
                            refine lv_iconst (v := 1) hx hb dX12_laysMore_131 (by decide) ?_
                            refine lv_iload hx hb dX12_laysMore_132 (lv_at hl 0 rfl) ?_
                            refine lv_ishl hx hb dX12_laysMore_134 ?_
                            refine lv_topi (fun v134 ev134 => ?_)
                            have tv134 : 1 ≤ v134.toInt ∧ v134.toInt ≤ 8192 := by rw [ev134]; exact shl_b 13 (by decide) (by omega) (by omega)
                            refine lv_ior hx hb dX12_laysMore_135 ?_
                            refine lv_topi (fun v135 ev135 => ?_)
                            have tv135 : 0 ≤ v135.toInt ∧ v135.toInt < 16384 := by rw [ev135]; exact or_b 14 (by decide) (by omega) (by omega) (by omega) (by omega)
                            refine lv_imul hx hb dX12_laysMore_136 ?_
                            refine lv_topi (fun v136 ev136 => ?_)
                            have tv136 : v136.toInt = (14) * v135.toInt := by rw [ev136]; exact mul_i (by decide : (14 : Int32).toInt = 14) rfl (by omega) (by omega)
                            refine lv_iload hx hb dX12_laysMore_137 (lv_at hl 0 rfl) ?_
                            refine lv_iadd hx hb dX12_laysMore_139 ?_
                            refine lv_topi (fun v139 ev139 => ?_)
                            have tv139 : v139.toInt = v136.toInt + p102_7.toInt := by rw [ev139]; exact add_i rfl rfl (by omega) (by omega)
                            refine t_bld hx hb hkb hH t_v125 (hO.no t_v125 (by decide)) (by omega) (by omega) dX12_laysMore_140 (fun v140 => ?_)
                            refine lv_iconst (v := 1) hx hb dX12_laysMore_141 (by decide) ?_
                            refine lv_iadd hx hb dX12_laysMore_142 ?_
                            refine lv_topi (fun v142 ev142 => ?_)
                            refine lv_iload hx hb dX12_laysMore_143 (lv_at hl 2 rfl) ?_
                            refine lv_icmp_ge (tgt := 169) hx hb dX12_laysMore_145 (by decide) (fun c145 => ?_) (fun c145 => ?_)
                            · skip
                              have fuc145 := full_i v142
                              have fvc145 := full_i p102_5
                              have tc145 := g_le c145
                              exact J169 p102_5 _ _ _  hH hS (lv_sub hl [0, 1, 2, 3, 4, 5, 6, 7] rfl)
                            · skip
                              have fuc145 := full_i v142
                              have fvc145 := full_i p102_5
                              have tc145 := g_nle c145
                              refine lv_aload_n hx hb dX12_laysMore_148 rfl (lv_at hl 5 rfl) ?_
                              refine t_get (ci := 12) (lst := ft12 hg mq) (C := RX12) (F := TX12) (N := 36) hx hb hts uX12 hown hkb hH t_a0 (hO.no t_a0 (by decide)) (fun _ h9 => h9) rfl rfl 28 (by decide) rfl kw_1251 (fun _ h9 => h9) dX12_laysMore_149 (fun v9 h9 => ?_)
                              obtain ⟨v149, rfl, t_v149⟩ := h9
                              refine lv_bipush (v := 14) hx hb dX12_laysMore_152 (by decide) ?_
                              refine lv_iload_n hx hb dX12_laysMore_154 rfl (lv_at hl 4 rfl) ?_
                              refine lv_iconst (v := 1) hx hb dX12_laysMore_155 (by decide) ?_
                              refine lv_iload hx hb dX12_laysMore_156 (lv_at hl 0 rfl) ?_
                              refine lv_ishl hx hb dX12_laysMore_158 ?_
                              refine lv_topi (fun v158 ev158 => ?_)
                              have tv158 : 1 ≤ v158.toInt ∧ v158.toInt ≤ 8192 := by rw [ev158]; exact shl_b 13 (by decide) (by omega) (by omega)
                              refine lv_ior hx hb dX12_laysMore_159 ?_
                              refine lv_topi (fun v159 ev159 => ?_)
                              have tv159 : 0 ≤ v159.toInt ∧ v159.toInt < 16384 := by rw [ev159]; exact or_b 14 (by decide) (by omega) (by omega) (by omega) (by omega)
                              refine lv_imul hx hb dX12_laysMore_160 ?_
                              refine lv_topi (fun v160 ev160 => ?_)
                              have tv160 : v160.toInt = (14) * v159.toInt := by rw [ev160]; exact mul_i (by decide : (14 : Int32).toInt = 14) rfl (by omega) (by omega)
                              refine lv_iload hx hb dX12_laysMore_161 (lv_at hl 0 rfl) ?_
                              refine lv_iadd hx hb dX12_laysMore_163 ?_
                              refine lv_topi (fun v163 ev163 => ?_)
                              have tv163 : v163.toInt = v160.toInt + p102_7.toInt := by rw [ev163]; exact add_i rfl rfl (by omega) (by omega)
                              refine t_bld hx hb hkb hH t_v149 (hO.no t_v149 (by decide)) (by omega) (by omega) dX12_laysMore_164 (fun v164 => ?_)
                              refine lv_iconst (v := 1) hx hb dX12_laysMore_165 (by decide) ?_
                              refine lv_iadd hx hb dX12_laysMore_166 ?_
                              refine lv_topi (fun v166 ev166 => ?_)
                              refine lv_istore (lv' := [(5, .int v166), (7, .int p102_7), (6, .int v96), (4, .int p29_4), (3, .int p11_3), (0, .ref a0), (1, .int x1), (2, .int x2)]) hx hb dX12_laysMore_167 hl (by decide) rfl (fun ls hl => ?_)
                              exact J169 v166 _ _ _  hH hS (lv_sub hl [1, 2, 0, 3, 4, 5, 6, 7] rfl)
                    refine lv_istore (lv' := [(7, .int 0), (6, .int v96), (5, .int k82_0), (4, .int p29_4), (3, .int p11_3), (0, .ref a0), (1, .int x1), (2, .int x2)]) hx hb dX12_laysMore_100 hl (by decide) rfl (fun ls hl => ?_)
                    exact J102 _ 0 k82_0 _ _ _ rfl (by decide) (by decide) hH hS (lv_sub hl [0, 1, 2, 3, 4, 5, 6, 7] rfl)
                  have J80 : ∀  (H : Heap) (locs : List Loc) (ls : Array Slot), HT D cs A T O X H → va_S A s.heap H locs → lv_has ls 8 [(4, .int p29_4), (3, .int p11_3), (0, .ref a0), (1, .int x1), (2, .int x2)] → W p l e { frames := 1, cells := 0, slots := 0, locals := 22 } s m [.ref a0, .int x1, .int x2].toArray below meth c H locs 0 0 (MQ below (Tv D cs (fun u => u = (T, O, X)) A) [.ref a0, .int x1, .int x2].toArray s 0 0 A) (F0 m 80 ls []) := by
                    intro  H locs ls  hH hS hl
                    refine lv_bipush (v := 99) hx hb dX12_laysMore_80 (by decide) ?_
                    exact J82 99 _ _ _ (by decide) (by decide) hH hS (lv_sub hl [0, 1, 2, 3, 4] rfl)
                  refine lv_if_eq (tgt := 80) hx hb dX12_laysMore_65 (by decide) (fun c65 => ?_) (fun c65 => ?_)
                  · skip
                    have tc65 := f_eq (k := 0) (by decide) c65
                    exact J80  _ _ _  hH hS (lv_sub hl [0, 1, 2, 3, 4] rfl)
                  · skip
                    have tc65 := f_ne (k := 0) (by decide) c65
                    refine lv_iload_n hx hb dX12_laysMore_68 rfl (lv_at hl 4 rfl) ?_
                    refine lv_iload_n hx hb dX12_laysMore_69 rfl (lv_at hl 1 rfl) ?_
                    refine lv_iconst (v := (-1)) hx hb dX12_laysMore_70 (by decide) ?_
                    refine lv_ixor hx hb dX12_laysMore_71 ?_
                    refine lv_topi (fun v71 ev71 => ?_)
                    refine lv_iand hx hb dX12_laysMore_72 ?_
                    refine lv_topi (fun v72 ev72 => ?_)
                    refine lv_if_ne (tgt := 80) hx hb dX12_laysMore_73 (by decide) (fun c73 => ?_) (fun c73 => ?_)
                    · skip
                      have tc73 := f_ne (k := 0) (by decide) c73
                      exact J80  _ _ _  hH hS (lv_sub hl [0, 1, 2, 3, 4] rfl)
                    · skip
                      have tc73 := f_eq (k := 0) (by decide) c73
                      refine lv_iconst (v := 0) hx hb dX12_laysMore_76 (by decide) ?_
                      refine lv_goto (tgt := 82) hx hb dX12_laysMore_77 (by decide) ?_
                      exact J82 0 _ _ _ (by decide) (by decide) hH hS (lv_sub hl [0, 1, 2, 3, 4] rfl)
                · skip
                  have tc47 := f_eq (k := 0) (by decide) c47
                  refine lv_goto (tgt := 190) hx hb dX12_laysMore_50 (by decide) ?_
                  exact J190  _ _ _  hH hS (lv_sub hl [0, 1, 2, 3, 4] rfl)
          refine lv_istore (lv' := [(4, .int 0), (3, .int p11_3), (0, .ref a0), (1, .int x1), (2, .int x2)]) hx hb dX12_laysMore_27 hl (by decide) rfl (fun ls hl => ?_)
          exact J29 _ 0 _ _ _ rfl (by decide) (by decide) hH hS (lv_sub hl [0, 1, 2, 3, 4] rfl)
        · skip
          have tc20 := f_ne (k := 0) (by decide) c20
          refine lv_goto (tgt := 196) hx hb dX12_laysMore_23 (by decide) ?_
          exact J196  _ _ _  hH hS (lv_sub hl [0, 1, 2, 3] rfl)
  refine lv_istore_n (lv' := [(3, .int v9), (0, .ref a0), (1, .int x1), (2, .int x2)]) hx hb dX12_laysMore_10 rfl hl (by decide) rfl (fun ls hl => ?_)
  exact J11 _ v9 _ _ _ rfl (by omega) (by omega) hH hS (lv_sub hl [0, 1, 2, 3] rfl)
set_option maxHeartbeats 4000000 in
set_option maxRecDepth 100000 in
theorem s_M_laysWhose (l : Launch) (D : va_G) (cs : CS) (kf : KF) (T : TF) (O : List Nat) (X : va_W) (a0 hg mq : Nat) (x1 : Int32) (x2 : Int32) (t_a0 : T a0 = some (22, hg, mq)) (b_hg : hg < 90) (l_x1 : 0 ≤ x1.toInt) (u_x1 : x1.toInt ≤ 4) (hO : okO T O [0, 1, 8, 9, 22]) : TK l D cs kf yX12_laysWhose cX12_laysWhose 6 (some (.int)) { frames := 5, cells := 0, slots := 0, locals := 119 } [.ref a0, .int x1, .int x2] T O X (Ti D cs (fun r u => u = (T, O, X) ∧ -1 ≤ r.toInt ∧ r.toInt ≤ 13)) := by
  refine tk_of (by decide) (Nat.le_of_ble_eq_true rfl) (fun p e s m below meth c ls A H locs hx hb hr hml hown hts hlocks hnm hkb hH hS hA hOX hks hE hl => ?_)
  have hown : s.vm.findClass RX12 = some m.cls := hown
  have hl : lv_has ls 6 [(0, .ref a0), (1, .int x1), (2, .int x2)] := hl
  refine lv_aload_n hx hb dX12_laysWhose_0 rfl (lv_at hl 0 rfl) ?_
  refine lv_iload_n hx hb dX12_laysWhose_1 rfl (lv_at hl 1 rfl) ?_
  refine tk_v hH hS hA (tr_V (n := 1) (As := [.int x1]) hx hb hml hown hts hkb hH hOX hks hE hS hA (s_M_laysGuide l D cs kf T O X a0 hg mq x1 t_a0 b_hg (by omega) (by omega) (hO.sub (by decide))) kw_1502 kw_1504 ks_71 kw_13 kw_1505 (by decide +kernel) ⟨Nat.le_of_ble_eq_true rfl, Nat.le_of_ble_eq_true rfl⟩ (HT.recv (ci := 12) hkb hH t_a0 (hO.no t_a0 (by decide)) rfl) rfl rfl hl.1 (Nat.le_of_ble_eq_true rfl) dX12_laysWhose_2 ⟨Nat.le_of_ble_eq_true rfl, Nat.le_of_ble_eq_true rfl⟩) (fun u H locs hz9 hH hS => ?_)
  have hz9 : u = (T, O, X) := hz9
  subst hz9
  have hH : HT D cs A T O X H := hH
  refine W.widen (k := 0) (n := 0) (Nat.le_of_ble_eq_true rfl) (Nat.le_of_ble_eq_true rfl) ?_
  refine lv_iload_n hx hb dX12_laysWhose_5 rfl (lv_at hl 2 rfl) ?_
  refine lv_aload_n hx hb dX12_laysWhose_6 rfl (lv_at hl 0 rfl) ?_
  refine tk_i hH hS hA (tr_V (n := 0) (As := []) hx hb hml hown hts hkb hH hOX hks hE hS hA (s_M_thereSet l D cs kf T O X a0 hg mq t_a0 b_hg (hO.sub (by decide))) kw_1724 kw_1726 ks_99 kw_13 kw_1727 (by decide +kernel) ⟨Nat.le_of_ble_eq_true rfl, Nat.le_of_ble_eq_true rfl⟩ (HT.recv (ci := 12) hkb hH t_a0 (hO.no t_a0 (by decide)) rfl) rfl rfl hl.1 (Nat.le_of_ble_eq_true rfl) dX12_laysWhose_7 ⟨Nat.le_of_ble_eq_true rfl, Nat.le_of_ble_eq_true rfl⟩) (fun v7 u H locs hz9 hH hS => ?_)
  obtain ⟨rfl, l_v7, u_v7⟩ := hz9
  have hH : HT D cs A T O X H := hH
  refine W.widen (k := 0) (n := 0) (Nat.le_of_ble_eq_true rfl) (Nat.le_of_ble_eq_true rfl) ?_
  refine lv_aload_n hx hb dX12_laysWhose_10 rfl (lv_at hl 0 rfl) ?_
  refine tk_i hH hS hA (tr_V (n := 0) (As := []) hx hb hml hown hts hkb hH hOX hks hE hS hA (s_M_ends l D cs kf T O X a0 hg mq t_a0 b_hg (hO.sub (by decide))) kw_1536 kw_1538 ks_78 kw_13 kw_1539 (by decide +kernel) ⟨Nat.le_of_ble_eq_true rfl, Nat.le_of_ble_eq_true rfl⟩ (HT.recv (ci := 12) hkb hH t_a0 (hO.no t_a0 (by decide)) rfl) rfl rfl hl.1 (Nat.le_of_ble_eq_true rfl) dX12_laysWhose_11 ⟨Nat.le_of_ble_eq_true rfl, Nat.le_of_ble_eq_true rfl⟩) (fun v11 u H locs hz9 hH hS => ?_)
  obtain ⟨rfl, l_v11, u_v11⟩ := hz9
  have hH : HT D cs A T O X H := hH
  refine W.widen (k := 0) (n := 0) (Nat.le_of_ble_eq_true rfl) (Nat.le_of_ble_eq_true rfl) ?_
  refine lv_iand hx hb dX12_laysWhose_14 ?_
  refine lv_topi (fun v14 ev14 => ?_)
  have tv14 : 0 ≤ v14.toInt ∧ v14.toInt ≤ v7.toInt := by rw [ev14]; exact and_l (by omega)
  have ttv14 : 0 ≤ v14.toInt ∧ v14.toInt ≤ v11.toInt := by rw [ev14]; exact and_r (by omega)
  refine lv_ior hx hb dX12_laysWhose_15 ?_
  refine lv_topi (fun v15 ev15 => ?_)
  refine lv_istore_n (lv' := [(3, .int v15), (0, .ref a0), (1, .int x1), (2, .int x2)]) hx hb dX12_laysWhose_16 rfl hl (by decide) rfl (fun ls hl => ?_)
  refine lv_aload_n hx hb dX12_laysWhose_17 rfl (lv_at hl 1 rfl) ?_
  refine lv_iload_n hx hb dX12_laysWhose_18 rfl (lv_at hl 0 rfl) ?_
  refine lv_iload_n hx hb dX12_laysWhose_19 rfl (lv_at hl 3 rfl) ?_
  refine tk_v hH hS hA (tr_V (n := 2) (As := [.int v15, .int x2]) hx hb hml hown hts hkb hH hOX hks hE hS hA (s_M_laysMore l D cs kf T O X a0 hg mq v15 x2 t_a0 b_hg (hO.sub (by decide))) kw_1732 kw_1734 ks_101 kw_13 kw_1735 (by decide +kernel) ⟨Nat.le_of_ble_eq_true rfl, Nat.le_of_ble_eq_true rfl⟩ (HT.recv (ci := 12) hkb hH t_a0 (hO.no t_a0 (by decide)) rfl) rfl rfl hl.1 (Nat.le_of_ble_eq_true rfl) dX12_laysWhose_20 ⟨Nat.le_of_ble_eq_true rfl, Nat.le_of_ble_eq_true rfl⟩) (fun u H locs hz9 hH hS => ?_)
  have hz9 : u = (T, O, X) := hz9
  subst hz9
  have hH : HT D cs A T O X H := hH
  refine W.widen (k := 0) (n := 0) (Nat.le_of_ble_eq_true rfl) (Nat.le_of_ble_eq_true rfl) ?_
  refine lv_iconst (v := (-1)) hx hb dX12_laysWhose_23 (by decide) ?_
  refine lv_istore (lv' := [(4, .int (-1)), (3, .int v15), (0, .ref a0), (1, .int x1), (2, .int x2)]) hx hb dX12_laysWhose_24 hl (by decide) rfl (fun ls hl => ?_)
  refine lv_iconst (v := 0) hx hb dX12_laysWhose_26 (by decide) ?_
  have J29 : ∀ (n : Nat) (p29_5 : Int32) (p29_4 : Int32) (H : Heap) (locs : List Loc) (ls : Array Slot), (14 - p29_5.toInt).toNat = n → (0 ≤ p29_5.toInt) → (p29_5.toInt ≤ 14) → (-1 ≤ p29_4.toInt) → (p29_4.toInt ≤ 13) → HT D cs A T O X H → va_S A s.heap H locs → lv_has ls 6 [(5, .int p29_5), (4, .int p29_4), (3, .int v15), (0, .ref a0)] → W p l e { frames := 5, cells := 0, slots := 0, locals := 119 } s m [.ref a0, .int x1, .int x2].toArray below meth c H locs 0 0 (MQ below (Ti D cs (fun r u => u = (T, O, X) ∧ -1 ≤ r.toInt ∧ r.toInt ≤ 13) A) [.ref a0, .int x1, .int x2].toArray s 0 0 A) (F0 m 29 ls []) := by
    intro n
    induction n using Nat.strongRecOn with
    | _ n ih29 =>
      intro p29_5 p29_4 H locs ls hm29 l_p29_5 u_p29_5 l_p29_4 u_p29_4 hH hS hl
      refine lv_iload hx hb dX12_laysWhose_29 (lv_at hl 0 rfl) ?_
      refine lv_aload_n hx hb dX12_laysWhose_31 rfl (lv_at hl 3 rfl) ?_
      refine t_get (ci := 12) (lst := ft12 hg mq) (C := RX12) (F := TX12) (N := 36) hx hb hts uX12 hown hkb hH t_a0 (hO.no t_a0 (by decide)) (fun _ h9 => h9) rfl rfl 1 (by decide) rfl kw_1224 (fun _ h9 => h9) dX12_laysWhose_32 (fun v9 h9 => ?_)
      obtain ⟨v32, rfl, t_v32⟩ := h9
      refine lv_iconst (v := 1) hx hb dX12_laysWhose_35 (by decide) ?_
      refine t_ild8 hx hb hkb hH t_v32 (hO.no t_v32 (by decide)) (by decide) (by decide) (by decide) dX12_laysWhose_36 (fun v36 h9 h8 => ?_)
      have q9 := (h8 rfl).1 rfl
      subst q9
      have eH9 : (nI (hg / 6)).toInt = (((hg / 6) : Nat) : Int) := nI_toInt (by omega)
      refine lv_icmp_ge (tgt := 111) hx hb dX12_laysWhose_37 (by decide) (fun c37 => ?_) (fun c37 => ?_)
      · skip
        have fuc37 := full_i p29_5
        have fvc37 := full_i (nI (hg / 6))
        have tc37 := g_le c37
        refine lv_iload hx hb dX12_laysWhose_111 (lv_at hl 1 rfl) ?_
        exact te_i hx hb hr hlocks hH hS (⟨rfl, by omega, by omega⟩) dX12_laysWhose_113
      · skip
        have fuc37 := full_i p29_5
        have fvc37 := full_i (nI (hg / 6))
        have tc37 := g_nle c37
        refine lv_iload_n hx hb dX12_laysWhose_40 rfl (lv_at hl 2 rfl) ?_
        refine lv_aload_n hx hb dX12_laysWhose_41 rfl (lv_at hl 3 rfl) ?_
        refine t_get (ci := 12) (lst := ft12 hg mq) (C := RX12) (F := TX12) (N := 36) hx hb hts uX12 hown hkb hH t_a0 (hO.no t_a0 (by decide)) (fun _ h9 => h9) rfl rfl 1 (by decide) rfl kw_1224 (fun _ h9 => h9) dX12_laysWhose_42 (fun v9 h9 => ?_)
        obtain ⟨v42, rfl, t_v42⟩ := h9
        refine lv_iconst (v := 4) hx hb dX12_laysWhose_45 (by decide) ?_
        refine t_ild8 hx hb hkb hH t_v42 (hO.no t_v42 (by decide)) (by decide) (by decide) (by decide) dX12_laysWhose_46 (fun v46 h9 h8 => ?_)
        have tv46 : 0 ≤ v46.toInt ∧ v46.toInt ≤ 16383 := h9.2.2.1 (by decide)
        refine lv_iand hx hb dX12_laysWhose_47 ?_
        refine lv_topi (fun v47 ev47 => ?_)
        have tv47 : 0 ≤ v47.toInt ∧ v47.toInt ≤ v46.toInt := by rw [ev47]; exact and_r (by omega)
        refine lv_i2l hx hb dX12_laysWhose_48 rfl ?_
        refine lv_iload hx hb dX12_laysWhose_49 (lv_at hl 0 rfl) ?_
        refine tk_i hH hS hA (tr_S (n := 2) (As := [.long v47.toInt64, .int p29_5]) hx hb hml hown hts hkb hH hOX hks hE hS hA (s_M_isIn2 l D cs kf T O X v47.toInt64 p29_5  (hO.sub (by decide))) kw_1440 kw_1441 kw_13 kw_1442 (by decide +kernel) ⟨Nat.le_of_ble_eq_true rfl, Nat.le_of_ble_eq_true rfl⟩ rfl rfl hl.1 (Nat.le_of_ble_eq_true rfl) dX12_laysWhose_51 ⟨Nat.le_of_ble_eq_true rfl, Nat.le_of_ble_eq_true rfl⟩) (fun v51 u H locs hz9 hH hS => ?_)
        obtain ⟨rfl, l_v51, u_v51, x_v510⟩ := hz9
        have hH : HT D cs A T O X H := hH
        refine W.widen (k := 0) (n := 0) (Nat.le_of_ble_eq_true rfl) (Nat.le_of_ble_eq_true rfl) ?_
        have J105 : ∀ (p105_4 : Int32) (H : Heap) (locs : List Loc) (ls : Array Slot), (-1 ≤ p105_4.toInt) → (p105_4.toInt ≤ 13) → HT D cs A T O X H → va_S A s.heap H locs → lv_has ls 6 [(5, .int p29_5), (4, .int p105_4), (3, .int v15), (0, .ref a0)] → W p l e { frames := 5, cells := 0, slots := 0, locals := 119 } s m [.ref a0, .int x1, .int x2].toArray below meth c H locs 0 0 (MQ below (Ti D cs (fun r u => u = (T, O, X) ∧ -1 ≤ r.toInt ∧ r.toInt ≤ 13) A) [.ref a0, .int x1, .int x2].toArray s 0 0 A) (F0 m 105 ls []) := by
          intro p105_4 H locs ls l_p105_4 u_p105_4 hH hS hl
          obtain ⟨v105, ev105⟩ : ∃ y : Int32, y = p29_5 + 1 := ⟨_, rfl⟩
          have tv105 : v105.toInt = p29_5.toInt + (1) := by rw [ev105]; exact add_i rfl (by decide) (by omega) (by omega)
          refine lv_iinc (v := v105) (lv' := [(5, .int v105), (4, .int p105_4), (3, .int v15), (0, .ref a0)]) hx hb dX12_laysWhose_105 hl (k := 0) rfl (by rw [ev105]; rfl) (by decide) rfl (fun ls hl => ?_)
          refine lv_goto (tgt := 29) hx hb dX12_laysWhose_108 (by decide) ?_
          exact ih29 _ (by omega) v105 p105_4 _ _ _ rfl (by omega) (by omega) (by omega) (by omega) hH hS (lv_sub hl [0, 1, 2, 3] rfl)
        refine lv_if_eq (tgt := 105) hx hb dX12_laysWhose_54 (by decide) (fun c54 => ?_) (fun c54 => ?_)
        · skip
          have tc54 := f_eq (k := 0) (by decide) c54
          exact J105 p29_4 _ _ _ (by omega) (by omega) hH hS (lv_sub hl [0, 1, 2, 3] rfl)
        · skip
          have tc54 := f_ne (k := 0) (by decide) c54
          refine lv_aload_n hx hb dX12_laysWhose_57 rfl (lv_at hl 3 rfl) ?_
          refine lv_iconst (v := 1) hx hb dX12_laysWhose_58 (by decide) ?_
          refine lv_iload hx hb dX12_laysWhose_59 (lv_at hl 0 rfl) ?_
          refine lv_ishl hx hb dX12_laysWhose_61 ?_
          refine lv_topi (fun v61 ev61 => ?_)
          have tv61 : 1 ≤ v61.toInt ∧ v61.toInt ≤ 8192 := by rw [ev61]; exact shl_b 13 (by decide) (by omega) (by omega)
          refine lv_iload hx hb dX12_laysWhose_62 (lv_at hl 0 rfl) ?_
          refine tk_i hH hS hA (tr_V (n := 2) (As := [.int v61, .int p29_5]) hx hb hml hown hts hkb hH hOX hks hE hS hA (s_M_moreBy l D cs kf T O X a0 hg mq v61 p29_5 t_a0 b_hg (by omega) (by omega) (by omega) (by omega) (hO.sub (by decide))) kw_1736 kw_1738 ks_102 kw_13 kw_1739 (by decide +kernel) ⟨Nat.le_of_ble_eq_true rfl, Nat.le_of_ble_eq_true rfl⟩ (HT.recv (ci := 12) hkb hH t_a0 (hO.no t_a0 (by decide)) rfl) rfl rfl hl.1 (Nat.le_of_ble_eq_true rfl) dX12_laysWhose_64 ⟨Nat.le_of_ble_eq_true rfl, Nat.le_of_ble_eq_true rfl⟩) (fun v64 u H locs hz9 hH hS => ?_)
          have hz9 : u = (T, O, X) := hz9
          subst hz9
          have hH : HT D cs A T O X H := hH
          refine W.widen (k := 0) (n := 0) (Nat.le_of_ble_eq_true rfl) (Nat.le_of_ble_eq_true rfl) ?_
          refine lv_bipush (v := 99) hx hb dX12_laysWhose_67 (by decide) ?_
          refine lv_icmp_ge (tgt := 105) hx hb dX12_laysWhose_69 (by decide) (fun c69 => ?_) (fun c69 => ?_)
          · skip
            have tc69 := f_ge (k := 99) (by decide) c69
            exact J105 p29_4 _ _ _ (by omega) (by omega) hH hS (lv_sub hl [0, 1, 2, 3] rfl)
          · skip
            have tc69 := f_nge (k := 99) (by decide) c69
            refine lv_iload hx hb dX12_laysWhose_72 (lv_at hl 1 rfl) ?_
            refine lv_iconst (v := (-1)) hx hb dX12_laysWhose_74 (by decide) ?_
            have J101 : ∀  (H : Heap) (locs : List Loc) (ls : Array Slot), HT D cs A T O X H → va_S A s.heap H locs → lv_has ls 6 [(5, .int p29_5), (3, .int v15), (0, .ref a0)] → W p l e { frames := 5, cells := 0, slots := 0, locals := 119 } s m [.ref a0, .int x1, .int x2].toArray below meth c H locs 0 0 (MQ below (Ti D cs (fun r u => u = (T, O, X) ∧ -1 ≤ r.toInt ∧ r.toInt ≤ 13) A) [.ref a0, .int x1, .int x2].toArray s 0 0 A) (F0 m 101 ls []) := by
              intro  H locs ls  hH hS hl
              refine lv_iload hx hb dX12_laysWhose_101 (lv_at hl 0 rfl) ?_
              refine lv_istore (lv' := [(4, .int p29_5), (5, .int p29_5), (3, .int v15), (0, .ref a0)]) hx hb dX12_laysWhose_103 hl (by decide) rfl (fun ls hl => ?_)
              exact J105 p29_5 _ _ _ (by omega) (by omega) hH hS (lv_sub hl [1, 0, 2, 3] rfl)
            refine lv_icmp_eq (tgt := 101) hx hb dX12_laysWhose_75 (by decide) (fun c75 => ?_) (fun c75 => ?_)
            · skip
              have tc75 := f_eq (k := -1) (by decide) c75
              exact J101  _ _ _  hH hS (lv_sub hl [0, 2, 3] rfl)
            · skip
              have tc75 := f_ne (k := -1) (by decide) c75
              refine lv_aload_n hx hb dX12_laysWhose_78 rfl (lv_at hl 3 rfl) ?_
              refine lv_iconst (v := 1) hx hb dX12_laysWhose_79 (by decide) ?_
              refine lv_iload hx hb dX12_laysWhose_80 (lv_at hl 0 rfl) ?_
              refine lv_ishl hx hb dX12_laysWhose_82 ?_
              refine lv_topi (fun v82 ev82 => ?_)
              have tv82 : 1 ≤ v82.toInt ∧ v82.toInt ≤ 8192 := by rw [ev82]; exact shl_b 13 (by decide) (by omega) (by omega)
              refine lv_iload hx hb dX12_laysWhose_83 (lv_at hl 0 rfl) ?_
              refine tk_i hH hS hA (tr_V (n := 2) (As := [.int v82, .int p29_5]) hx hb hml hown hts hkb hH hOX hks hE hS hA (s_M_moreBy l D cs kf T O X a0 hg mq v82 p29_5 t_a0 b_hg (by omega) (by omega) (by omega) (by omega) (hO.sub (by decide))) kw_1736 kw_1738 ks_102 kw_13 kw_1739 (by decide +kernel) ⟨Nat.le_of_ble_eq_true rfl, Nat.le_of_ble_eq_true rfl⟩ (HT.recv (ci := 12) hkb hH t_a0 (hO.no t_a0 (by decide)) rfl) rfl rfl hl.1 (Nat.le_of_ble_eq_true rfl) dX12_laysWhose_85 ⟨Nat.le_of_ble_eq_true rfl, Nat.le_of_ble_eq_true rfl⟩) (fun v85 u H locs hz9 hH hS => ?_)
              have hz9 : u = (T, O, X) := hz9
              subst hz9
              have hH : HT D cs A T O X H := hH
              refine W.widen (k := 0) (n := 0) (Nat.le_of_ble_eq_true rfl) (Nat.le_of_ble_eq_true rfl) ?_
              refine lv_aload_n hx hb dX12_laysWhose_88 rfl (lv_at hl 3 rfl) ?_
              refine lv_iconst (v := 1) hx hb dX12_laysWhose_89 (by decide) ?_
              refine lv_iload hx hb dX12_laysWhose_90 (lv_at hl 1 rfl) ?_
              refine lv_ishl hx hb dX12_laysWhose_92 ?_
              refine lv_topi (fun v92 ev92 => ?_)
              have tv92 : 1 ≤ v92.toInt ∧ v92.toInt ≤ 8192 := by rw [ev92]; exact shl_b 13 (by decide) (by omega) (by omega)
              refine lv_iload hx hb dX12_laysWhose_93 (lv_at hl 1 rfl) ?_
              refine tk_i hH hS hA (tr_V (n := 2) (As := [.int v92, .int p29_4]) hx hb hml hown hts hkb hH hOX hks hE hS hA (s_M_moreBy l D cs kf T O X a0 hg mq v92 p29_4 t_a0 b_hg (by omega) (by omega) (by omega) (by omega) (hO.sub (by decide))) kw_1736 kw_1738 ks_102 kw_13 kw_1739 (by decide +kernel) ⟨Nat.le_of_ble_eq_true rfl, Nat.le_of_ble_eq_true rfl⟩ (HT.recv (ci := 12) hkb hH t_a0 (hO.no t_a0 (by decide)) rfl) rfl rfl hl.1 (Nat.le_of_ble_eq_true rfl) dX12_laysWhose_95 ⟨Nat.le_of_ble_eq_true rfl, Nat.le_of_ble_eq_true rfl⟩) (fun v95 u H locs hz9 hH hS => ?_)
              have hz9 : u = (T, O, X) := hz9
              subst hz9
              have hH : HT D cs A T O X H := hH
              refine W.widen (k := 0) (n := 0) (Nat.le_of_ble_eq_true rfl) (Nat.le_of_ble_eq_true rfl) ?_
              refine lv_icmp_ge (tgt := 105) hx hb dX12_laysWhose_98 (by decide) (fun c98 => ?_) (fun c98 => ?_)
              · skip
                have fuc98 := full_i v85
                have fvc98 := full_i v95
                have tc98 := g_le c98
                exact J105 p29_4 _ _ _ (by omega) (by omega) hH hS (lv_sub hl [0, 1, 2, 3] rfl)
              · skip
                have fuc98 := full_i v85
                have fvc98 := full_i v95
                have tc98 := g_nle c98
                exact J101  _ _ _  hH hS (lv_sub hl [0, 2, 3] rfl)
  refine lv_istore (lv' := [(5, .int 0), (4, .int (-1)), (3, .int v15), (0, .ref a0), (1, .int x1), (2, .int x2)]) hx hb dX12_laysWhose_27 hl (by decide) rfl (fun ls hl => ?_)
  exact J29 _ 0 (-1) _ _ _ rfl (by decide) (by decide) (by decide) (by decide) hH hS (lv_sub hl [0, 1, 2, 3] rfl)
set_option maxHeartbeats 4000000 in
set_option maxRecDepth 100000 in
theorem s_M_whose (l : Launch) (D : va_G) (cs : CS) (kf : KF) (T : TF) (O : List Nat) (X : va_W) (a0 hg mq : Nat) (x1 : Int32) (t_a0 : T a0 = some (22, hg, mq)) (b_hg : hg < 90) (hO : okO T O [0, 1, 8, 9, 22]) : TK l D cs kf yX12_whose cX12_whose 4 (some (.int)) { frames := 6, cells := 0, slots := 0, locals := 144 } [.ref a0, .int x1] T O X (Ti D cs (fun r u => u = (T, O, X) ∧ -3 ≤ r.toInt ∧ r.toInt ≤ 16383)) := by
  refine tk_of (by decide) (Nat.le_of_ble_eq_true rfl) (fun p e s m below meth c ls A H locs hx hb hr hml hown hts hlocks hnm hkb hH hS hA hOX hks hE hl => ?_)
  have hown : s.vm.findClass RX12 = some m.cls := hown
  have hl : lv_has ls 4 [(0, .ref a0), (1, .int x1)] := hl
  refine lv_aload_n hx hb dX12_whose_0 rfl (lv_at hl 0 rfl) ?_
  refine lv_iconst (v := 0) hx hb dX12_whose_1 (by decide) ?_
  refine t_put (ci := 12) (lst := ft12 hg mq) (v := .int 0) (ty := tyX12 0) (C := RX12) (F := TX12) (N := 36) hx hb hts uX12 tyX12 tyX12_ok nmX12 hown hkb hH hS t_a0 (hO.no t_a0 (by decide)) (fun _ => Iff.rfl) rfl rfl 0 (by decide) rfl (⟨_, rfl⟩) kw_1223 (fun _ h9 => h9) rfl (tyX12_ok 0 (by decide)) rfl rfl dX12_whose_2 (fun H locs hH hS => ?_)
  refine lv_aload_n hx hb dX12_whose_5 rfl (lv_at hl 0 rfl) ?_
  refine lv_iload_n hx hb dX12_whose_6 rfl (lv_at hl 1 rfl) ?_
  refine tk_i hH hS hA (tr_V (n := 1) (As := [.int x1]) hx hb hml hown hts hkb hH hOX hks hE hS hA (s_M_isSetOf l D cs kf T O X a0 hg mq x1 t_a0 b_hg (hO.sub (by decide))) kw_1720 kw_1722 ks_98 kw_13 kw_1723 (by decide +kernel) ⟨Nat.le_of_ble_eq_true rfl, Nat.le_of_ble_eq_true rfl⟩ (HT.recv (ci := 12) hkb hH t_a0 (hO.no t_a0 (by decide)) rfl) rfl rfl hl.1 (Nat.le_of_ble_eq_true rfl) dX12_whose_7 ⟨Nat.le_of_ble_eq_true rfl, Nat.le_of_ble_eq_true rfl⟩) (fun v7 u H locs hz9 hH hS => ?_)
  obtain ⟨rfl, l_v7, u_v7⟩ := hz9
  have hH : HT D cs A T O X H := hH
  refine W.widen (k := 0) (n := 0) (Nat.le_of_ble_eq_true rfl) (Nat.le_of_ble_eq_true rfl) ?_
  refine lv_if_ne (tgt := 16) hx hb dX12_whose_10 (by decide) (fun c10 => ?_) (fun c10 => ?_)
  · skip
    have tc10 := f_ne (k := 0) (by decide) c10
    refine lv_iconst (v := 0) hx hb dX12_whose_16 (by decide) ?_
    refine lv_istore_n (lv' := [(2, .int 0), (0, .ref a0), (1, .int x1)]) hx hb dX12_whose_17 rfl hl (by decide) rfl (fun ls hl => ?_)
    refine lv_iconst (v := 0) hx hb dX12_whose_18 (by decide) ?_
    have J20 : ∀ (n : Nat) (p20_3 : Int32) (p20_2 : Int32) (H : Heap) (locs : List Loc) (ls : Array Slot), (5 - p20_3.toInt).toNat = n → (0 ≤ p20_3.toInt) → (p20_3.toInt ≤ 5) → (0 ≤ p20_2.toInt) → (p20_2.toInt ≤ 16383) → HT D cs A T O X H → va_S A s.heap H locs → lv_has ls 4 [(3, .int p20_3), (2, .int p20_2), (0, .ref a0), (1, .int x1)] → W p l e { frames := 6, cells := 0, slots := 0, locals := 144 } s m [.ref a0, .int x1].toArray below meth c H locs 0 0 (MQ below (Ti D cs (fun r u => u = (T, O, X) ∧ -3 ≤ r.toInt ∧ r.toInt ≤ 16383) A) [.ref a0, .int x1].toArray s 0 0 A) (F0 m 20 ls []) := by
      intro n
      induction n using Nat.strongRecOn with
      | _ n ih20 =>
        intro p20_3 p20_2 H locs ls hm20 l_p20_3 u_p20_3 l_p20_2 u_p20_2 hH hS hl
        refine lv_iload_n hx hb dX12_whose_20 rfl (lv_at hl 0 rfl) ?_
        refine lv_aload_n hx hb dX12_whose_21 rfl (lv_at hl 2 rfl) ?_
        refine t_get (ci := 12) (lst := ft12 hg mq) (C := RX12) (F := TX12) (N := 36) hx hb hts uX12 hown hkb hH t_a0 (hO.no t_a0 (by decide)) (fun _ h9 => h9) rfl rfl 1 (by decide) rfl kw_1224 (fun _ h9 => h9) dX12_whose_22 (fun v9 h9 => ?_)
        obtain ⟨v22, rfl, t_v22⟩ := h9
        refine lv_iconst (v := 2) hx hb dX12_whose_25 (by decide) ?_
        refine t_ild8 hx hb hkb hH t_v22 (hO.no t_v22 (by decide)) (by decide) (by decide) (by decide) dX12_whose_26 (fun v26 h9 h8 => ?_)
        have q9 := (h8 rfl).2 rfl
        subst q9
        have eG9 : (nI (hg % 6)).toInt = (((hg % 6) : Nat) : Int) := nI_toInt (by omega)
        refine lv_icmp_ge (tgt := 56) hx hb dX12_whose_27 (by decide) (fun c27 => ?_) (fun c27 => ?_)
        · skip
          have fuc27 := full_i p20_3
          have fvc27 := full_i (nI (hg % 6))
          have tc27 := g_le c27
          refine lv_iload_n hx hb dX12_whose_56 rfl (lv_at hl 1 rfl) ?_
          exact te_i hx hb hr hlocks hH hS (⟨rfl, by omega, by omega⟩) dX12_whose_57
        · skip
          have fuc27 := full_i p20_3
          have fvc27 := full_i (nI (hg % 6))
          have tc27 := g_nle c27
          refine lv_iload_n hx hb dX12_whose_30 rfl (lv_at hl 1 rfl) ?_
          refine lv_aload_n hx hb dX12_whose_31 rfl (lv_at hl 2 rfl) ?_
          refine lv_iload_n hx hb dX12_whose_32 rfl (lv_at hl 0 rfl) ?_
          refine lv_iload_n hx hb dX12_whose_33 rfl (lv_at hl 3 rfl) ?_
          refine tk_i hH hS hA (tr_V (n := 2) (As := [.int p20_3, .int x1]) hx hb hml hown hts hkb hH hOX hks hE hS hA (s_M_laysWhose l D cs kf T O X a0 hg mq p20_3 x1 t_a0 b_hg (by omega) (by omega) (hO.sub (by decide))) kw_1728 kw_1730 ks_100 kw_13 kw_1731 (by decide +kernel) ⟨Nat.le_of_ble_eq_true rfl, Nat.le_of_ble_eq_true rfl⟩ (HT.recv (ci := 12) hkb hH t_a0 (hO.no t_a0 (by decide)) rfl) rfl rfl hl.1 (Nat.le_of_ble_eq_true rfl) dX12_whose_34 ⟨Nat.le_of_ble_eq_true rfl, Nat.le_of_ble_eq_true rfl⟩) (fun v34 u H locs hz9 hH hS => ?_)
          obtain ⟨rfl, l_v34, u_v34⟩ := hz9
          have hH : HT D cs A T O X H := hH
          refine W.widen (k := 0) (n := 0) (Nat.le_of_ble_eq_true rfl) (Nat.le_of_ble_eq_true rfl) ?_
          refine lv_iconst (v := (-1)) hx hb dX12_whose_37 (by decide) ?_
          have J48 : ∀ (k48_0 : Int32) (H : Heap) (locs : List Loc) (ls : Array Slot), (0 ≤ k48_0.toInt) → (k48_0.toInt ≤ 16) → HT D cs A T O X H → va_S A s.heap H locs → lv_has ls 4 [(3, .int p20_3), (0, .ref a0), (1, .int x1)] → W p l e { frames := 6, cells := 0, slots := 0, locals := 144 } s m [.ref a0, .int x1].toArray below meth c H locs 0 0 (MQ below (Ti D cs (fun r u => u = (T, O, X) ∧ -3 ≤ r.toInt ∧ r.toInt ≤ 16383) A) [.ref a0, .int x1].toArray s 0 0 A) (F0 m 48 ls [.int k48_0, .int p20_2]) := by
            intro k48_0 H locs ls l_k48_0 u_k48_0 hH hS hl
            refine lv_ior hx hb dX12_whose_48 ?_
            refine lv_topi (fun v48 ev48 => ?_)
            have tv48 : 0 ≤ v48.toInt ∧ v48.toInt < 16384 := by rw [ev48]; exact or_b 14 (by decide) (by omega) (by omega) (by omega) (by omega)
            refine lv_istore_n (lv' := [(2, .int v48), (3, .int p20_3), (0, .ref a0), (1, .int x1)]) hx hb dX12_whose_49 rfl hl (by decide) rfl (fun ls hl => ?_)
            obtain ⟨v50, ev50⟩ : ∃ y : Int32, y = p20_3 + 1 := ⟨_, rfl⟩
            have tv50 : v50.toInt = p20_3.toInt + (1) := by rw [ev50]; exact add_i rfl (by decide) (by omega) (by omega)
            refine lv_iinc (v := v50) (lv' := [(3, .int v50), (2, .int v48), (0, .ref a0), (1, .int x1)]) hx hb dX12_whose_50 hl (k := 1) rfl (by rw [ev50]; rfl) (by decide) rfl (fun ls hl => ?_)
            refine lv_goto (tgt := 20) hx hb dX12_whose_53 (by decide) ?_
            exact ih20 _ (by omega) v50 v48 _ _ _ rfl (by omega) (by omega) (by omega) (by omega) hH hS (lv_sub hl [0, 1, 2, 3] rfl)
          refine lv_icmp_ne (tgt := 45) hx hb dX12_whose_38 (by decide) (fun c38 => ?_) (fun c38 => ?_)
          · skip
            have tc38 := f_ne (k := -1) (by decide) c38
            refine lv_iconst (v := 1) hx hb dX12_whose_45 (by decide) ?_
            refine lv_iload_n hx hb dX12_whose_46 rfl (lv_at hl 0 rfl) ?_
            refine lv_ishl hx hb dX12_whose_47 ?_
            refine lv_topi (fun v47 ev47 => ?_)
            have tv47 : 1 ≤ v47.toInt ∧ v47.toInt ≤ 16 := by rw [ev47]; exact shl_b 4 (by decide) (by omega) (by omega)
            exact J48 v47 _ _ _ (by omega) (by omega) hH hS (lv_sub hl [0, 2, 3] rfl)
          · skip
            have tc38 := f_eq (k := -1) (by decide) c38
            refine lv_iconst (v := 0) hx hb dX12_whose_41 (by decide) ?_
            refine lv_goto (tgt := 48) hx hb dX12_whose_42 (by decide) ?_
            exact J48 0 _ _ _ (by decide) (by decide) hH hS (lv_sub hl [0, 2, 3] rfl)
    refine lv_istore_n (lv' := [(3, .int 0), (2, .int 0), (0, .ref a0), (1, .int x1)]) hx hb dX12_whose_19 rfl hl (by decide) rfl (fun ls hl => ?_)
    exact J20 _ 0 0 _ _ _ rfl (by decide) (by decide) (by decide) (by decide) hH hS (lv_sub hl [0, 1, 2, 3] rfl)
  · skip
    have tc10 := f_eq (k := 0) (by decide) c10
    refine lv_bipush (v := (-3)) hx hb dX12_whose_13 (by decide) ?_
    exact te_i hx hb hr hlocks hH hS (⟨rfl, by decide, by decide⟩) dX12_whose_15
