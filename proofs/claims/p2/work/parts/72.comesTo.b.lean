set_option maxHeartbeats 4000000 in
set_option maxRecDepth 100000 in
theorem s_M_laysSteps (l : Launch) (D : va_G) (cs : CS) (kf : KF) (T : TF) (O : List Nat) (X : va_W) (a0 hg mq : Nat) (x1 : Int32) (x2 : Int32) (t_a0 : T a0 = some (22, hg, mq)) (b_hg : hg < 90) (l_x1 : 0 ≤ x1.toInt) (u_x1 : x1.toInt ≤ 4) (hO : okO T O [1, 8, 9, 22]) : TK l D cs kf yX12_laysSteps cX12_laysSteps 5 none { frames := 3, cells := 0, slots := 0, locals := 74 } [.ref a0, .int x1, .int x2] T O X (Tv D cs (fun u => u = (T, O, X))) := by
  refine tk_of (by decide) (Nat.le_of_ble_eq_true rfl) (fun p e s m below meth c ls A H locs hx hb hr hml hown hts hlocks hnm hkb hH hS hA hOX hks hE hl => ?_)
  have hown : s.vm.findClass RX12 = some m.cls := hown
  have hl : lv_has ls 5 [(0, .ref a0), (1, .int x1), (2, .int x2)] := hl
  refine lv_aload_n hx hb dX12_laysSteps_0 rfl (lv_at hl 0 rfl) ?_
  refine lv_iload_n hx hb dX12_laysSteps_1 rfl (lv_at hl 2 rfl) ?_
  refine t_put (ci := 12) (lst := ft12 hg mq) (v := .int x2) (ty := tyX12 16) (C := RX12) (F := TX12) (N := 36) hx hb hts uX12 tyX12 tyX12_ok nmX12 hown hkb hH hS t_a0 (hO.no t_a0 (by decide)) (fun _ => Iff.rfl) rfl rfl 16 (by decide) rfl (⟨_, rfl⟩) kw_1239 (fun _ h9 => h9) rfl (tyX12_ok 16 (by decide)) rfl rfl dX12_laysSteps_2 (fun H locs hH hS => ?_)
  refine lv_iconst (v := 0) hx hb dX12_laysSteps_5 (by decide) ?_
  have J7 : ∀ (n : Nat) (p7_3 : Int32) (H : Heap) (locs : List Loc) (ls : Array Slot), (14 - p7_3.toInt).toNat = n → (0 ≤ p7_3.toInt) → (p7_3.toInt ≤ 14) → HT D cs A T O X H → va_S A s.heap H locs → lv_has ls 5 [(3, .int p7_3), (0, .ref a0), (1, .int x1)] → W p l e { frames := 3, cells := 0, slots := 0, locals := 74 } s m [.ref a0, .int x1, .int x2].toArray below meth c H locs 0 0 (MQ below (Tv D cs (fun u => u = (T, O, X)) A) [.ref a0, .int x1, .int x2].toArray s 0 0 A) (F0 m 7 ls []) := by
    intro n
    induction n using Nat.strongRecOn with
    | _ n ih7 =>
      intro p7_3 H locs ls hm7 l_p7_3 u_p7_3 hH hS hl
      refine lv_iload_n hx hb dX12_laysSteps_7 rfl (lv_at hl 0 rfl) ?_
      refine lv_aload_n hx hb dX12_laysSteps_8 rfl (lv_at hl 1 rfl) ?_
      refine t_get (ci := 12) (lst := ft12 hg mq) (C := RX12) (F := TX12) (N := 36) hx hb hts uX12 hown hkb hH t_a0 (hO.no t_a0 (by decide)) (fun _ h9 => h9) rfl rfl 1 (by decide) rfl kw_1224 (fun _ h9 => h9) dX12_laysSteps_9 (fun v9 h9 => ?_)
      obtain ⟨v9, rfl, t_v9⟩ := h9
      refine lv_iconst (v := 1) hx hb dX12_laysSteps_12 (by decide) ?_
      refine t_ild8 hx hb hkb hH t_v9 (hO.no t_v9 (by decide)) (by decide) (by decide) (by decide) dX12_laysSteps_13 (fun v13 h9 h8 => ?_)
      have q9 := (h8 rfl).1 rfl
      subst q9
      have eH9 : (nI (hg / 6)).toInt = (((hg / 6) : Nat) : Int) := nI_toInt (by omega)
      refine lv_icmp_ge (tgt := 94) hx hb dX12_laysSteps_14 (by decide) (fun c14 => ?_) (fun c14 => ?_)
      · skip
        have fuc14 := full_i p7_3
        have fvc14 := full_i (nI (hg / 6))
        have tc14 := g_le c14
        exact te_v hx hb hr hlocks hH hS rfl dX12_laysSteps_94
      · skip
        have fuc14 := full_i p7_3
        have fvc14 := full_i (nI (hg / 6))
        have tc14 := g_nle c14
        refine lv_aload_n hx hb dX12_laysSteps_17 rfl (lv_at hl 1 rfl) ?_
        refine t_get (ci := 12) (lst := ft12 hg mq) (C := RX12) (F := TX12) (N := 36) hx hb hts uX12 hown hkb hH t_a0 (hO.no t_a0 (by decide)) (fun _ h9 => h9) rfl rfl 17 (by decide) rfl kw_1240 (fun _ h9 => h9) dX12_laysSteps_18 (fun v9 h9 => ?_)
        obtain ⟨v18, rfl, t_v18⟩ := h9
        refine lv_iload_n hx hb dX12_laysSteps_21 rfl (lv_at hl 0 rfl) ?_
        refine lv_iconst (v := 0) hx hb dX12_laysSteps_22 (by decide) ?_
        refine t_ist9 hx hb hkb hH hS t_v18 (hO.no t_v18 (by decide)) (by omega) (by omega) (show 0 ≤ (0 : Int32).toInt ∧ (0 : Int32).toInt ≤ 16383 from by decide) dX12_laysSteps_23 (fun H locs hH hS => ?_)
        refine lv_iconst (v := 0) hx hb dX12_laysSteps_24 (by decide) ?_
        have J27 : ∀ (n : Nat) (p27_4 : Int32) (H : Heap) (locs : List Loc) (ls : Array Slot), (14 - p27_4.toInt).toNat = n → (0 ≤ p27_4.toInt) → (p27_4.toInt ≤ 14) → HT D cs A T O X H → va_S A s.heap H locs → lv_has ls 5 [(4, .int p27_4), (3, .int p7_3), (0, .ref a0), (1, .int x1)] → W p l e { frames := 3, cells := 0, slots := 0, locals := 74 } s m [.ref a0, .int x1, .int x2].toArray below meth c H locs 0 0 (MQ below (Tv D cs (fun u => u = (T, O, X)) A) [.ref a0, .int x1, .int x2].toArray s 0 0 A) (F0 m 27 ls []) := by
          intro n
          induction n using Nat.strongRecOn with
          | _ n ih27 =>
            intro p27_4 H locs ls hm27 l_p27_4 u_p27_4 hH hS hl
            refine lv_iload hx hb dX12_laysSteps_27 (lv_at hl 0 rfl) ?_
            refine lv_aload_n hx hb dX12_laysSteps_29 rfl (lv_at hl 2 rfl) ?_
            refine t_get (ci := 12) (lst := ft12 hg mq) (C := RX12) (F := TX12) (N := 36) hx hb hts uX12 hown hkb hH t_a0 (hO.no t_a0 (by decide)) (fun _ h9 => h9) rfl rfl 1 (by decide) rfl kw_1224 (fun _ h9 => h9) dX12_laysSteps_30 (fun v9 h9 => ?_)
            obtain ⟨v30, rfl, t_v30⟩ := h9
            refine lv_iconst (v := 1) hx hb dX12_laysSteps_33 (by decide) ?_
            refine t_ild8 hx hb hkb hH t_v30 (hO.no t_v30 (by decide)) (by decide) (by decide) (by decide) dX12_laysSteps_34 (fun v34 h9 h8 => ?_)
            have q9 := (h8 rfl).1 rfl
            subst q9
            have eH9 : (nI (hg / 6)).toInt = (((hg / 6) : Nat) : Int) := nI_toInt (by omega)
            have J88 : ∀  (H : Heap) (locs : List Loc) (ls : Array Slot), HT D cs A T O X H → va_S A s.heap H locs → lv_has ls 5 [(3, .int p7_3), (0, .ref a0), (1, .int x1)] → W p l e { frames := 3, cells := 0, slots := 0, locals := 74 } s m [.ref a0, .int x1, .int x2].toArray below meth c H locs 0 0 (MQ below (Tv D cs (fun u => u = (T, O, X)) A) [.ref a0, .int x1, .int x2].toArray s 0 0 A) (F0 m 88 ls []) := by
              intro  H locs ls  hH hS hl
              obtain ⟨v88, ev88⟩ : ∃ y : Int32, y = p7_3 + 1 := ⟨_, rfl⟩
              have tv88 : v88.toInt = p7_3.toInt + (1) := by rw [ev88]; exact add_i rfl (by decide) (by omega) (by omega)
              refine lv_iinc (v := v88) (lv' := [(3, .int v88), (0, .ref a0), (1, .int x1)]) hx hb dX12_laysSteps_88 hl (k := 0) rfl (by rw [ev88]; rfl) (by decide) rfl (fun ls hl => ?_)
              refine lv_goto (tgt := 7) hx hb dX12_laysSteps_91 (by decide) ?_
              exact ih7 _ (by omega) v88 _ _ _ rfl (by omega) (by omega) hH hS (lv_sub hl [0, 1, 2] rfl)
            refine lv_icmp_ge (tgt := 88) hx hb dX12_laysSteps_35 (by decide) (fun c35 => ?_) (fun c35 => ?_)
            · skip
              have fuc35 := full_i p27_4
              have fvc35 := full_i (nI (hg / 6))
              have tc35 := g_le c35
              exact J88  _ _ _  hH hS (lv_sub hl [1, 2, 3] rfl)
            · skip
              have fuc35 := full_i p27_4
              have fvc35 := full_i (nI (hg / 6))
              have tc35 := g_nle c35
              refine lv_aload_n hx hb dX12_laysSteps_38 rfl (lv_at hl 2 rfl) ?_
              refine t_get (ci := 12) (lst := ft12 hg mq) (C := RX12) (F := TX12) (N := 36) hx hb hts uX12 hown hkb hH t_a0 (hO.no t_a0 (by decide)) (fun _ h9 => h9) rfl rfl 1 (by decide) rfl kw_1224 (fun _ h9 => h9) dX12_laysSteps_39 (fun v9 h9 => ?_)
              obtain ⟨v39, rfl, t_v39⟩ := h9
              refine lv_iconst (v := 5) hx hb dX12_laysSteps_42 (by decide) ?_
              refine t_ild8 hx hb hkb hH t_v39 (hO.no t_v39 (by decide)) (by decide) (by decide) (by decide) dX12_laysSteps_43 (fun v43 h9 h8 => ?_)
              have tv43 : 0 ≤ v43.toInt ∧ v43.toInt ≤ 16383 := h9.2.2.2.1 (by decide)
              refine lv_i2l hx hb dX12_laysSteps_44 rfl ?_
              refine lv_iload_n hx hb dX12_laysSteps_45 rfl (lv_at hl 1 rfl) ?_
              refine tk_i hH hS hA (tr_S (n := 2) (As := [.long v43.toInt64, .int p7_3]) hx hb hml hown hts hkb hH hOX hks hE hS hA (s_M_isIn2 l D cs kf T O X v43.toInt64 p7_3  (hO.sub (by decide))) kw_1440 kw_1441 kw_13 kw_1442 (by decide +kernel) ⟨Nat.le_of_ble_eq_true rfl, Nat.le_of_ble_eq_true rfl⟩ rfl rfl hl.1 (Nat.le_of_ble_eq_true rfl) dX12_laysSteps_46 ⟨Nat.le_of_ble_eq_true rfl, Nat.le_of_ble_eq_true rfl⟩) (fun v46 u H locs hz9 hH hS => ?_)
              obtain ⟨rfl, l_v46, u_v46, x_v460⟩ := hz9
              have hH : HT D cs A T O X H := hH
              refine W.widen (k := 0) (n := 0) (Nat.le_of_ble_eq_true rfl) (Nat.le_of_ble_eq_true rfl) ?_
              refine lv_if_ne (tgt := 88) hx hb dX12_laysSteps_49 (by decide) (fun c49 => ?_) (fun c49 => ?_)
              · skip
                have tc49 := f_ne (k := 0) (by decide) c49
                exact J88  _ _ _  hH hS (lv_sub hl [1, 2, 3] rfl)
              · skip
                have tc49 := f_eq (k := 0) (by decide) c49
                refine lv_iload hx hb dX12_laysSteps_52 (lv_at hl 0 rfl) ?_
                refine lv_iload_n hx hb dX12_laysSteps_54 rfl (lv_at hl 1 rfl) ?_
                have J82 : ∀  (H : Heap) (locs : List Loc) (ls : Array Slot), HT D cs A T O X H → va_S A s.heap H locs → lv_has ls 5 [(4, .int p27_4), (3, .int p7_3), (0, .ref a0), (1, .int x1)] → W p l e { frames := 3, cells := 0, slots := 0, locals := 74 } s m [.ref a0, .int x1, .int x2].toArray below meth c H locs 0 0 (MQ below (Tv D cs (fun u => u = (T, O, X)) A) [.ref a0, .int x1, .int x2].toArray s 0 0 A) (F0 m 82 ls []) := by
                  intro  H locs ls  hH hS hl
                  obtain ⟨v82, ev82⟩ : ∃ y : Int32, y = p27_4 + 1 := ⟨_, rfl⟩
                  have tv82 : v82.toInt = p27_4.toInt + (1) := by rw [ev82]; exact add_i rfl (by decide) (by omega) (by omega)
                  refine lv_iinc (v := v82) (lv' := [(4, .int v82), (3, .int p7_3), (0, .ref a0), (1, .int x1)]) hx hb dX12_laysSteps_82 hl (k := 0) rfl (by rw [ev82]; rfl) (by decide) rfl (fun ls hl => ?_)
                  refine lv_goto (tgt := 27) hx hb dX12_laysSteps_85 (by decide) ?_
                  exact ih27 _ (by omega) v82 _ _ _ rfl (by omega) (by omega) hH hS (lv_sub hl [0, 1, 2, 3] rfl)
                refine lv_icmp_eq (tgt := 82) hx hb dX12_laysSteps_55 (by decide) (fun c55 => ?_) (fun c55 => ?_)
                · skip
                  have fuc55 := full_i p27_4
                  have fvc55 := full_i p7_3
                  have tc55 := g_eq c55
                  exact J82  _ _ _  hH hS (lv_sub hl [0, 1, 2, 3] rfl)
                · skip
                  have fuc55 := full_i p27_4
                  have fvc55 := full_i p7_3
                  have tc55 := g_ne c55
                  refine lv_aload_n hx hb dX12_laysSteps_58 rfl (lv_at hl 2 rfl) ?_
                  refine lv_iload_n hx hb dX12_laysSteps_59 rfl (lv_at hl 3 rfl) ?_
                  refine lv_iload_n hx hb dX12_laysSteps_60 rfl (lv_at hl 1 rfl) ?_
                  refine lv_iload hx hb dX12_laysSteps_61 (lv_at hl 0 rfl) ?_
                  refine tk_i hH hS hA (tr_V (n := 3) (As := [.int x1, .int p7_3, .int p27_4]) hx hb hml hown hts hkb hH hOX hks hE hS hA (s_M_mayStep l D cs kf T O X a0 hg mq x1 p7_3 p27_4 t_a0 b_hg (by omega) (by omega) (by omega) (by omega) (by omega) (by omega) (hO.sub (by decide))) kw_1482 kw_1484 ks_69 kw_13 kw_1485 (by decide +kernel) ⟨Nat.le_of_ble_eq_true rfl, Nat.le_of_ble_eq_true rfl⟩ (HT.recv (ci := 12) hkb hH t_a0 (hO.no t_a0 (by decide)) rfl) rfl rfl hl.1 (Nat.le_of_ble_eq_true rfl) dX12_laysSteps_63 ⟨Nat.le_of_ble_eq_true rfl, Nat.le_of_ble_eq_true rfl⟩) (fun v63 u H locs hz9 hH hS => ?_)
                  obtain ⟨rfl, l_v63, u_v63⟩ := hz9
                  have hH : HT D cs A T O X H := hH
                  refine W.widen (k := 0) (n := 0) (Nat.le_of_ble_eq_true rfl) (Nat.le_of_ble_eq_true rfl) ?_
                  refine lv_if_eq (tgt := 82) hx hb dX12_laysSteps_66 (by decide) (fun c66 => ?_) (fun c66 => ?_)
                  · skip
                    have tc66 := f_eq (k := 0) (by decide) c66
                    exact J82  _ _ _  hH hS (lv_sub hl [0, 1, 2, 3] rfl)
                  · skip
                    have tc66 := f_ne (k := 0) (by decide) c66
                    refine lv_aload_n hx hb dX12_laysSteps_69 rfl (lv_at hl 2 rfl) ?_
                    refine t_get (ci := 12) (lst := ft12 hg mq) (C := RX12) (F := TX12) (N := 36) hx hb hts uX12 hown hkb hH t_a0 (hO.no t_a0 (by decide)) (fun _ h9 => h9) rfl rfl 17 (by decide) rfl kw_1240 (fun _ h9 => h9) dX12_laysSteps_70 (fun v9 h9 => ?_)
                    obtain ⟨v70, rfl, t_v70⟩ := h9
                    refine lv_iload_n hx hb dX12_laysSteps_73 rfl (lv_at hl 1 rfl) ?_
                    refine lv_dup2_11 hx hb dX12_laysSteps_74 rfl rfl ?_
                    refine t_ild9 hx hb hkb hH t_v70 (hO.no t_v70 (by decide)) (by omega) (by omega) dX12_laysSteps_75 (fun v75 h9 => ?_)
                    have tv75 : 0 ≤ v75.toInt ∧ v75.toInt ≤ 16383 := h9
                    refine lv_iconst (v := 1) hx hb dX12_laysSteps_76 (by decide) ?_
                    refine lv_iload hx hb dX12_laysSteps_77 (lv_at hl 0 rfl) ?_
                    refine lv_ishl hx hb dX12_laysSteps_79 ?_
                    refine lv_topi (fun v79 ev79 => ?_)
                    have tv79 : 1 ≤ v79.toInt ∧ v79.toInt ≤ 8192 := by rw [ev79]; exact shl_b 13 (by decide) (by omega) (by omega)
                    refine lv_ior hx hb dX12_laysSteps_80 ?_
                    refine lv_topi (fun v80 ev80 => ?_)
                    have tv80 : 0 ≤ v80.toInt ∧ v80.toInt < 16384 := by rw [ev80]; exact or_b 14 (by decide) (by omega) (by omega) (by omega) (by omega)
                    refine t_ist9 hx hb hkb hH hS t_v70 (hO.no t_v70 (by decide)) (by omega) (by omega) (show 0 ≤ v80.toInt ∧ v80.toInt ≤ 16383 from by omega) dX12_laysSteps_81 (fun H locs hH hS => ?_)
                    exact J82  _ _ _  hH hS (lv_sub hl [0, 1, 2, 3] rfl)
        refine lv_istore (lv' := [(4, .int 0), (3, .int p7_3), (0, .ref a0), (1, .int x1)]) hx hb dX12_laysSteps_25 hl (by decide) rfl (fun ls hl => ?_)
        exact J27 _ 0 _ _ _ rfl (by decide) (by decide) hH hS (lv_sub hl [0, 1, 2, 3] rfl)
  refine lv_istore_n (lv' := [(3, .int 0), (0, .ref a0), (1, .int x1), (2, .int x2)]) hx hb dX12_laysSteps_6 rfl hl (by decide) rfl (fun ls hl => ?_)
  exact J7 _ 0 _ _ _ rfl (by decide) (by decide) hH hS (lv_sub hl [0, 1, 2] rfl)
set_option maxHeartbeats 4000000 in
set_option maxRecDepth 100000 in
theorem s_M_laysGuide (l : Launch) (D : va_G) (cs : CS) (kf : KF) (T : TF) (O : List Nat) (X : va_W) (a0 hg mq : Nat) (x1 : Int32) (t_a0 : T a0 = some (22, hg, mq)) (b_hg : hg < 90) (l_x1 : 0 ≤ x1.toInt) (u_x1 : x1.toInt ≤ 4) (hO : okO T O [1, 8, 9, 22]) : TK l D cs kf yX12_laysGuide cX12_laysGuide 2 none { frames := 4, cells := 0, slots := 0, locals := 98 } [.ref a0, .int x1] T O X (Tv D cs (fun u => u = (T, O, X))) := by
  refine tk_of (by decide) (Nat.le_of_ble_eq_true rfl) (fun p e s m below meth c ls A H locs hx hb hr hml hown hts hlocks hnm hkb hH hS hA hOX hks hE hl => ?_)
  have hown : s.vm.findClass RX12 = some m.cls := hown
  have hl : lv_has ls 2 [(0, .ref a0), (1, .int x1)] := hl
  refine lv_aload_n hx hb dX12_laysGuide_0 rfl (lv_at hl 0 rfl) ?_
  refine lv_iload_n hx hb dX12_laysGuide_1 rfl (lv_at hl 1 rfl) ?_
  refine lv_aload_n hx hb dX12_laysGuide_2 rfl (lv_at hl 0 rfl) ?_
  refine t_get (ci := 12) (lst := ft12 hg mq) (C := RX12) (F := TX12) (N := 36) hx hb hts uX12 hown hkb hH t_a0 (hO.no t_a0 (by decide)) (fun _ h9 => h9) rfl rfl 1 (by decide) rfl kw_1224 (fun _ h9 => h9) dX12_laysGuide_3 (fun v9 h9 => ?_)
  obtain ⟨v3, rfl, t_v3⟩ := h9
  refine lv_bipush (v := 49) hx hb dX12_laysGuide_6 (by decide) ?_
  refine lv_iload_n hx hb dX12_laysGuide_8 rfl (lv_at hl 1 rfl) ?_
  refine lv_iadd hx hb dX12_laysGuide_9 ?_
  refine lv_topi (fun v9 ev9 => ?_)
  have tv9 : v9.toInt = (49) + x1.toInt := by rw [ev9]; exact add_i (by decide : (49 : Int32).toInt = 49) rfl (by omega) (by omega)
  refine t_ild8 hx hb hkb hH t_v3 (hO.no t_v3 (by decide)) (by decide) (by omega) (by omega) dX12_laysGuide_10 (fun v10 h9 h8 => ?_)
  refine tk_v hH hS hA (tr_V (n := 2) (As := [.int x1, .int v10]) hx hb hml hown hts hkb hH hOX hks hE hS hA (s_M_laysSteps l D cs kf T O X a0 hg mq x1 v10 t_a0 b_hg (by omega) (by omega) (hO.sub (by decide))) kw_1506 kw_1508 ks_72 kw_13 kw_1509 (by decide +kernel) ⟨Nat.le_of_ble_eq_true rfl, Nat.le_of_ble_eq_true rfl⟩ (HT.recv (ci := 12) hkb hH t_a0 (hO.no t_a0 (by decide)) rfl) rfl rfl hl.1 (Nat.le_of_ble_eq_true rfl) dX12_laysGuide_11 ⟨Nat.le_of_ble_eq_true rfl, Nat.le_of_ble_eq_true rfl⟩) (fun u H locs hz9 hH hS => ?_)
  have hz9 : u = (T, O, X) := hz9
  subst hz9
  have hH : HT D cs A T O X H := hH
  refine W.widen (k := 0) (n := 0) (Nat.le_of_ble_eq_true rfl) (Nat.le_of_ble_eq_true rfl) ?_
  exact te_v hx hb hr hlocks hH hS rfl dX12_laysGuide_14
set_option maxHeartbeats 4000000 in
set_option maxRecDepth 100000 in
theorem s_M_comesTo (l : Launch) (D : va_G) (cs : CS) (kf : KF) (T : TF) (O : List Nat) (X : va_W) (a0 hg mq : Nat) (x1 : Int32) (t_a0 : T a0 = some (22, hg, mq)) (b_hg : hg < 90) (hO : okO T O [8, 9, 22]) : TK l D cs kf yX12_comesTo cX12_comesTo 5 (some (.int)) { frames := 1, cells := 0, slots := 0, locals := 22 } [.ref a0, .int x1] T O X (Ti D cs (fun r u => u = (T, O, X) ∧ 0 ≤ r.toInt ∧ r.toInt ≤ 16383)) := by
  refine tk_of (by decide) (Nat.le_of_ble_eq_true rfl) (fun p e s m below meth c ls A H locs hx hb hr hml hown hts hlocks hnm hkb hH hS hA hOX hks hE hl => ?_)
  have hown : s.vm.findClass RX12 = some m.cls := hown
  have hl : lv_has ls 5 [(0, .ref a0), (1, .int x1)] := hl
  refine lv_iload_n hx hb dX12_comesTo_0 rfl (lv_at hl 1 rfl) ?_
  refine lv_aload_n hx hb dX12_comesTo_1 rfl (lv_at hl 0 rfl) ?_
  refine t_get (ci := 12) (lst := ft12 hg mq) (C := RX12) (F := TX12) (N := 36) hx hb hts uX12 hown hkb hH t_a0 (hO.no t_a0 (by decide)) (fun _ h9 => h9) rfl rfl 1 (by decide) rfl kw_1224 (fun _ h9 => h9) dX12_comesTo_2 (fun v9 h9 => ?_)
  obtain ⟨v2, rfl, t_v2⟩ := h9
  refine lv_iconst (v := 4) hx hb dX12_comesTo_5 (by decide) ?_
  refine t_ild8 hx hb hkb hH t_v2 (hO.no t_v2 (by decide)) (by decide) (by decide) (by decide) dX12_comesTo_6 (fun v6 h9 h8 => ?_)
  have tv6 : 0 ≤ v6.toInt ∧ v6.toInt ≤ 16383 := h9.2.2.1 (by decide)
  refine lv_iand hx hb dX12_comesTo_7 ?_
  refine lv_topi (fun v7 ev7 => ?_)
  have tv7 : 0 ≤ v7.toInt ∧ v7.toInt ≤ v6.toInt := by rw [ev7]; exact and_r (by omega)
  refine lv_istore_n (lv' := [(2, .int v7), (0, .ref a0), (1, .int x1)]) hx hb dX12_comesTo_8 rfl hl (by decide) rfl (fun ls hl => ?_)
  refine lv_iconst (v := 0) hx hb dX12_comesTo_9 (by decide) ?_
  have J11 : ∀ (n : Nat) (p11_3 : Int32) (p11_2 : Int32) (H : Heap) (locs : List Loc) (ls : Array Slot), (16384 - p11_3.toInt).toNat = n → (0 ≤ p11_3.toInt) → (p11_3.toInt ≤ 16383) → (0 ≤ p11_2.toInt) → (p11_2.toInt ≤ 16383) → (p11_3.toInt ≤ p11_2.toInt ∧ 0 ≤ p11_3.toInt) → HT D cs A T O X H → va_S A s.heap H locs → lv_has ls 5 [(3, .int p11_3), (2, .int p11_2), (0, .ref a0), (1, .int x1)] → W p l e { frames := 1, cells := 0, slots := 0, locals := 22 } s m [.ref a0, .int x1].toArray below meth c H locs 0 0 (MQ below (Ti D cs (fun r u => u = (T, O, X) ∧ 0 ≤ r.toInt ∧ r.toInt ≤ 16383) A) [.ref a0, .int x1].toArray s 0 0 A) (F0 m 11 ls []) := by
    intro n
    induction n using Nat.strongRecOn with
    | _ n ih11 =>
      intro p11_3 p11_2 H locs ls hm11 l_p11_3 u_p11_3 l_p11_2 u_p11_2 i11 hH hS hl
      refine lv_iload_n hx hb dX12_comesTo_11 rfl (lv_at hl 0 rfl) ?_
      refine lv_iload_n hx hb dX12_comesTo_12 rfl (lv_at hl 1 rfl) ?_
      refine lv_icmp_eq (tgt := 63) hx hb dX12_comesTo_13 (by decide) (fun c13 => ?_) (fun c13 => ?_)
      · skip
        have fuc13 := full_i p11_3
        have fvc13 := full_i p11_2
        have tc13 := g_eq c13
        refine lv_iload_n hx hb dX12_comesTo_63 rfl (lv_at hl 1 rfl) ?_
        exact te_i hx hb hr hlocks hH hS (⟨rfl, by omega, by omega⟩) dX12_comesTo_64
      · skip
        have fuc13 := full_i p11_3
        have fvc13 := full_i p11_2
        have tc13 := g_ne c13
        refine lv_iload_n hx hb dX12_comesTo_16 rfl (lv_at hl 1 rfl) ?_
        refine lv_istore_n (lv' := [(3, .int p11_2), (2, .int p11_2), (0, .ref a0), (1, .int x1)]) hx hb dX12_comesTo_17 rfl hl (by decide) rfl (fun ls hl => ?_)
        refine lv_iconst (v := 0) hx hb dX12_comesTo_18 (by decide) ?_
        have J21 : ∀ (n : Nat) (p21_4 : Int32) (p21_2 : Int32) (H : Heap) (locs : List Loc) (ls : Array Slot), (14 - p21_4.toInt).toNat = n → (0 ≤ p21_4.toInt) → (p21_4.toInt ≤ 14) → (0 ≤ p21_2.toInt) → (p21_2.toInt ≤ 16383) → (p11_2.toInt ≤ p21_2.toInt) → HT D cs A T O X H → va_S A s.heap H locs → lv_has ls 5 [(4, .int p21_4), (3, .int p11_2), (2, .int p21_2), (0, .ref a0), (1, .int x1)] → W p l e { frames := 1, cells := 0, slots := 0, locals := 22 } s m [.ref a0, .int x1].toArray below meth c H locs 0 0 (MQ below (Ti D cs (fun r u => u = (T, O, X) ∧ 0 ≤ r.toInt ∧ r.toInt ≤ 16383) A) [.ref a0, .int x1].toArray s 0 0 A) (F0 m 21 ls []) := by
          intro n
          induction n using Nat.strongRecOn with
          | _ n ih21 =>
            intro p21_4 p21_2 H locs ls hm21 l_p21_4 u_p21_4 l_p21_2 u_p21_2 i21 hH hS hl
            refine lv_iload hx hb dX12_comesTo_21 (lv_at hl 0 rfl) ?_
            refine lv_aload_n hx hb dX12_comesTo_23 rfl (lv_at hl 3 rfl) ?_
            refine t_get (ci := 12) (lst := ft12 hg mq) (C := RX12) (F := TX12) (N := 36) hx hb hts uX12 hown hkb hH t_a0 (hO.no t_a0 (by decide)) (fun _ h9 => h9) rfl rfl 1 (by decide) rfl kw_1224 (fun _ h9 => h9) dX12_comesTo_24 (fun v9 h9 => ?_)
            obtain ⟨v24, rfl, t_v24⟩ := h9
            refine lv_iconst (v := 1) hx hb dX12_comesTo_27 (by decide) ?_
            refine t_ild8 hx hb hkb hH t_v24 (hO.no t_v24 (by decide)) (by decide) (by decide) (by decide) dX12_comesTo_28 (fun v28 h9 h8 => ?_)
            have q9 := (h8 rfl).1 rfl
            subst q9
            have eH9 : (nI (hg / 6)).toInt = (((hg / 6) : Nat) : Int) := nI_toInt (by omega)
            refine lv_icmp_ge (tgt := 60) hx hb dX12_comesTo_29 (by decide) (fun c29 => ?_) (fun c29 => ?_)
            · skip
              have fuc29 := full_i p21_4
              have fvc29 := full_i (nI (hg / 6))
              have tc29 := g_le c29
              refine lv_goto (tgt := 11) hx hb dX12_comesTo_60 (by decide) ?_
              exact ih11 _ (by omega) p11_2 p21_2 _ _ _ rfl (by omega) (by omega) (by omega) (by omega) (by omega) hH hS (lv_sub hl [1, 2, 3, 4] rfl)
            · skip
              have fuc29 := full_i p21_4
              have fvc29 := full_i (nI (hg / 6))
              have tc29 := g_nle c29
              refine lv_iload_n hx hb dX12_comesTo_32 rfl (lv_at hl 1 rfl) ?_
              refine lv_i2l hx hb dX12_comesTo_33 rfl ?_
              refine lv_iload hx hb dX12_comesTo_34 (lv_at hl 0 rfl) ?_
              refine tk_i hH hS hA (tr_S (n := 2) (As := [.long p11_2.toInt64, .int p21_4]) hx hb hml hown hts hkb hH hOX hks hE hS hA (s_M_isIn2 l D cs kf T O X p11_2.toInt64 p21_4  (hO.sub (by decide))) kw_1440 kw_1441 kw_13 kw_1442 (by decide +kernel) ⟨Nat.le_of_ble_eq_true rfl, Nat.le_of_ble_eq_true rfl⟩ rfl rfl hl.1 (Nat.le_of_ble_eq_true rfl) dX12_comesTo_36 ⟨Nat.le_of_ble_eq_true rfl, Nat.le_of_ble_eq_true rfl⟩) (fun v36 u H locs hz9 hH hS => ?_)
              obtain ⟨rfl, l_v36, u_v36, x_v360⟩ := hz9
              have hH : HT D cs A T O X H := hH
              refine W.widen (k := 0) (n := 0) (Nat.le_of_ble_eq_true rfl) (Nat.le_of_ble_eq_true rfl) ?_
              refine lv_if_eq (tgt := 54) hx hb dX12_comesTo_39 (by decide) (fun c39 => ?_) (fun c39 => ?_)
              · skip
                have tc39 := f_eq (k := 0) (by decide) c39
                obtain ⟨v54, ev54⟩ : ∃ y : Int32, y = p21_4 + 1 := ⟨_, rfl⟩
                have tv54 : v54.toInt = p21_4.toInt + (1) := by rw [ev54]; exact add_i rfl (by decide) (by omega) (by omega)
                refine lv_iinc (v := v54) (lv' := [(4, .int v54), (3, .int p11_2), (2, .int p21_2), (0, .ref a0), (1, .int x1)]) hx hb dX12_comesTo_54 hl (k := 0) rfl (by rw [ev54]; rfl) (by decide) rfl (fun ls hl => ?_)
                refine lv_goto (tgt := 21) hx hb dX12_comesTo_57 (by decide) ?_
                exact ih21 _ (by omega) v54 p21_2 _ _ _ rfl (by omega) (by omega) (by omega) (by omega) (by omega) hH hS (lv_sub hl [0, 1, 2, 3, 4] rfl)
              · skip
                have tc39 := f_ne (k := 0) (by decide) c39
                refine lv_iload_n hx hb dX12_comesTo_42 rfl (lv_at hl 2 rfl) ?_
                refine lv_aload_n hx hb dX12_comesTo_43 rfl (lv_at hl 3 rfl) ?_
                refine t_get (ci := 12) (lst := ft12 hg mq) (C := RX12) (F := TX12) (N := 36) hx hb hts uX12 hown hkb hH t_a0 (hO.no t_a0 (by decide)) (fun _ h9 => h9) rfl rfl 17 (by decide) rfl kw_1240 (fun _ h9 => h9) dX12_comesTo_44 (fun v9 h9 => ?_)
                obtain ⟨v44, rfl, t_v44⟩ := h9
                refine lv_iload hx hb dX12_comesTo_47 (lv_at hl 0 rfl) ?_
                refine t_ild9 hx hb hkb hH t_v44 (hO.no t_v44 (by decide)) (by omega) (by omega) dX12_comesTo_49 (fun v49 h9 => ?_)
                have tv49 : 0 ≤ v49.toInt ∧ v49.toInt ≤ 16383 := h9
                refine lv_iload_n hx hb dX12_comesTo_50 rfl (lv_at hl 4 rfl) ?_
                refine lv_iand hx hb dX12_comesTo_51 ?_
                refine lv_topi (fun v51 ev51 => ?_)
                have tv51 : 0 ≤ v51.toInt ∧ v51.toInt ≤ v49.toInt := by rw [ev51]; exact and_l (by omega)
                refine lv_ior hx hb dX12_comesTo_52 ?_
                refine lv_topi (fun v52 ev52 => ?_)
                have tv52 : 0 ≤ v52.toInt ∧ v52.toInt < 16384 := by rw [ev52]; exact or_b 14 (by decide) (by omega) (by omega) (by omega) (by omega)
                have ho9 := or_ge (x := p21_2) (y := v51) (by omega) (by omega)
                rw [← ev52] at ho9
                refine lv_istore_n (lv' := [(2, .int v52), (4, .int p21_4), (3, .int p11_2), (0, .ref a0), (1, .int x1)]) hx hb dX12_comesTo_53 rfl hl (by decide) rfl (fun ls hl => ?_)
                obtain ⟨v54, ev54⟩ : ∃ y : Int32, y = p21_4 + 1 := ⟨_, rfl⟩
                have tv54 : v54.toInt = p21_4.toInt + (1) := by rw [ev54]; exact add_i rfl (by decide) (by omega) (by omega)
                refine lv_iinc (v := v54) (lv' := [(4, .int v54), (2, .int v52), (3, .int p11_2), (0, .ref a0), (1, .int x1)]) hx hb dX12_comesTo_54 hl (k := 1) rfl (by rw [ev54]; rfl) (by decide) rfl (fun ls hl => ?_)
                refine lv_goto (tgt := 21) hx hb dX12_comesTo_57 (by decide) ?_
                exact ih21 _ (by omega) v54 v52 _ _ _ rfl (by omega) (by omega) (by omega) (by omega) (by omega) hH hS (lv_sub hl [0, 2, 1, 3, 4] rfl)
        refine lv_istore (lv' := [(4, .int 0), (3, .int p11_2), (2, .int p11_2), (0, .ref a0), (1, .int x1)]) hx hb dX12_comesTo_19 hl (by decide) rfl (fun ls hl => ?_)
        have z_0 : (0 : Int32).toInt = 0 := by decide
        exact J21 _ 0 p11_2 _ _ _ rfl (by decide) (by decide) (by omega) (by omega) (by omega) hH hS (lv_sub hl [0, 1, 2, 3, 4] rfl)
  refine lv_istore_n (lv' := [(3, .int 0), (2, .int v7), (0, .ref a0), (1, .int x1)]) hx hb dX12_comesTo_10 rfl hl (by decide) rfl (fun ls hl => ?_)
  have z_0 : (0 : Int32).toInt = 0 := by decide
  exact J11 _ 0 v7 _ _ _ rfl (by decide) (by decide) (by omega) (by omega) (by omega) hH hS (lv_sub hl [0, 1, 2, 3] rfl)
set_option maxHeartbeats 4000000 in
set_option maxRecDepth 100000 in
theorem s_M_hasClimb (l : Launch) (D : va_G) (cs : CS) (kf : KF) (T : TF) (O : List Nat) (X : va_W) (a0 hg mq : Nat) (x1 : Int32) (t_a0 : T a0 = some (22, hg, mq)) (b_hg : hg < 90) (hO : okO T O [8, 9, 22]) : TK l D cs kf yX12_hasClimb cX12_hasClimb 2 (some (.boolean)) { frames := 2, cells := 0, slots := 0, locals := 46 } [.ref a0, .int x1] T O X (Ti D cs (fun r u => u = (T, O, X) ∧ 0 ≤ r.toInt ∧ r.toInt ≤ 1)) := by
  refine tk_of (by decide) (Nat.le_of_ble_eq_true rfl) (fun p e s m below meth c ls A H locs hx hb hr hml hown hts hlocks hnm hkb hH hS hA hOX hks hE hl => ?_)
  have hown : s.vm.findClass RX12 = some m.cls := hown
  have hl : lv_has ls 2 [(0, .ref a0), (1, .int x1)] := hl
  refine lv_aload_n hx hb dX12_hasClimb_0 rfl (lv_at hl 0 rfl) ?_
  refine lv_iload_n hx hb dX12_hasClimb_1 rfl (lv_at hl 1 rfl) ?_
  refine tk_i hH hS hA (tr_V (n := 1) (As := [.int x1]) hx hb hml hown hts hkb hH hOX hks hE hS hA (s_M_comesTo l D cs kf T O X a0 hg mq x1 t_a0 b_hg (hO.sub (by decide))) kw_1514 kw_1516 ks_74 kw_13 kw_1517 (by decide +kernel) ⟨Nat.le_of_ble_eq_true rfl, Nat.le_of_ble_eq_true rfl⟩ (HT.recv (ci := 12) hkb hH t_a0 (hO.no t_a0 (by decide)) rfl) rfl rfl hl.1 (Nat.le_of_ble_eq_true rfl) dX12_hasClimb_2 ⟨Nat.le_of_ble_eq_true rfl, Nat.le_of_ble_eq_true rfl⟩) (fun v2 u H locs hz9 hH hS => ?_)
  obtain ⟨rfl, l_v2, u_v2⟩ := hz9
  have hH : HT D cs A T O X H := hH
  refine W.widen (k := 0) (n := 0) (Nat.le_of_ble_eq_true rfl) (Nat.le_of_ble_eq_true rfl) ?_
  refine lv_aload_n hx hb dX12_hasClimb_5 rfl (lv_at hl 0 rfl) ?_
  refine t_get (ci := 12) (lst := ft12 hg mq) (C := RX12) (F := TX12) (N := 36) hx hb hts uX12 hown hkb hH t_a0 (hO.no t_a0 (by decide)) (fun _ h9 => h9) rfl rfl 1 (by decide) rfl kw_1224 (fun _ h9 => h9) dX12_hasClimb_6 (fun v9 h9 => ?_)
  obtain ⟨v6, rfl, t_v6⟩ := h9
  refine lv_iconst (v := 5) hx hb dX12_hasClimb_9 (by decide) ?_
  refine t_ild8 hx hb hkb hH t_v6 (hO.no t_v6 (by decide)) (by decide) (by decide) (by decide) dX12_hasClimb_10 (fun v10 h9 h8 => ?_)
  have tv10 : 0 ≤ v10.toInt ∧ v10.toInt ≤ 16383 := h9.2.2.2.1 (by decide)
  refine lv_iand hx hb dX12_hasClimb_11 ?_
  refine lv_topi (fun v11 ev11 => ?_)
  have tv11 : 0 ≤ v11.toInt ∧ v11.toInt ≤ v2.toInt := by rw [ev11]; exact and_l (by omega)
  have ttv11 : 0 ≤ v11.toInt ∧ v11.toInt ≤ v10.toInt := by rw [ev11]; exact and_r (by omega)
  have J20 : ∀ (k20_0 : Int32) (H : Heap) (locs : List Loc) (ls : Array Slot), (0 ≤ k20_0.toInt) → (k20_0.toInt ≤ 1) → HT D cs A T O X H → va_S A s.heap H locs → lv_has ls 2 [] → W p l e { frames := 2, cells := 0, slots := 0, locals := 46 } s m [.ref a0, .int x1].toArray below meth c H locs 0 0 (MQ below (Ti D cs (fun r u => u = (T, O, X) ∧ 0 ≤ r.toInt ∧ r.toInt ≤ 1) A) [.ref a0, .int x1].toArray s 0 0 A) (F0 m 20 ls [.int k20_0]) := by
    intro k20_0 H locs ls l_k20_0 u_k20_0 hH hS hl
    exact te_z hx hb hr hlocks (nar01 (by omega) (by omega)) hH hS (⟨rfl, by omega, by omega⟩) dX12_hasClimb_20
  refine lv_if_eq (tgt := 19) hx hb dX12_hasClimb_12 (by decide) (fun c12 => ?_) (fun c12 => ?_)
  · skip
    have tc12 := f_eq (k := 0) (by decide) c12
    refine lv_iconst (v := 0) hx hb dX12_hasClimb_19 (by decide) ?_
    exact J20 0 _ _ _ (by decide) (by decide) hH hS (lv_sub hl [] rfl)
  · skip
    have tc12 := f_ne (k := 0) (by decide) c12
    refine lv_iconst (v := 1) hx hb dX12_hasClimb_15 (by decide) ?_
    refine lv_goto (tgt := 20) hx hb dX12_hasClimb_16 (by decide) ?_
    exact J20 1 _ _ _ (by decide) (by decide) hH hS (lv_sub hl [] rfl)
set_option maxHeartbeats 4000000 in
set_option maxRecDepth 100000 in
theorem s_M_reach (l : Launch) (D : va_G) (cs : CS) (kf : KF) (T : TF) (O : List Nat) (X : va_W) (a0 hg mq : Nat) (x1 : Int32) (t_a0 : T a0 = some (22, hg, mq)) (b_hg : hg < 90) (hO : okO T O [1, 8, 9, 22]) : TK l D cs kf yX12_reach cX12_reach 2 (some (.int)) { frames := 5, cells := 0, slots := 0, locals := 119 } [.ref a0, .int x1] T O X (Ti D cs (fun r u => u = (T, O, X) ∧ -2 ≤ r.toInt ∧ r.toInt ≤ 16383)) := by
  refine tk_of (by decide) (Nat.le_of_ble_eq_true rfl) (fun p e s m below meth c ls A H locs hx hb hr hml hown hts hlocks hnm hkb hH hS hA hOX hks hE hl => ?_)
  have hown : s.vm.findClass RX12 = some m.cls := hown
  have hl : lv_has ls 2 [(0, .ref a0), (1, .int x1)] := hl
  refine lv_aload_n hx hb dX12_reach_0 rfl (lv_at hl 0 rfl) ?_
  refine lv_iconst (v := 0) hx hb dX12_reach_1 (by decide) ?_
  refine t_put (ci := 12) (lst := ft12 hg mq) (v := .int 0) (ty := tyX12 0) (C := RX12) (F := TX12) (N := 36) hx hb hts uX12 tyX12 tyX12_ok nmX12 hown hkb hH hS t_a0 (hO.no t_a0 (by decide)) (fun _ => Iff.rfl) rfl rfl 0 (by decide) rfl (⟨_, rfl⟩) kw_1223 (fun _ h9 => h9) rfl (tyX12_ok 0 (by decide)) rfl rfl dX12_reach_2 (fun H locs hH hS => ?_)
  refine lv_aload_n hx hb dX12_reach_5 rfl (lv_at hl 0 rfl) ?_
  refine lv_iload_n hx hb dX12_reach_6 rfl (lv_at hl 1 rfl) ?_
  refine lv_i2l hx hb dX12_reach_7 rfl ?_
  refine tk_i hH hS hA (tr_V (n := 1) (As := [.long x1.toInt64]) hx hb hml hown hts hkb hH hOX hks hE hS hA (s_M_isGuide l D cs kf T O X a0 hg mq x1.toInt64 t_a0 b_hg (hO.sub (by decide))) kw_1470 kw_1472 ks_67 kw_13 kw_1473 (by decide +kernel) ⟨Nat.le_of_ble_eq_true rfl, Nat.le_of_ble_eq_true rfl⟩ (HT.recv (ci := 12) hkb hH t_a0 (hO.no t_a0 (by decide)) rfl) rfl rfl hl.1 (Nat.le_of_ble_eq_true rfl) dX12_reach_8 ⟨Nat.le_of_ble_eq_true rfl, Nat.le_of_ble_eq_true rfl⟩) (fun v8 u H locs hz9 hH hS => ?_)
  obtain ⟨rfl, l_v8, u_v8, x_v80⟩ := hz9
  simp only [Int32.toInt_toInt64] at x_v80
  have hH : HT D cs A T O X H := hH
  refine W.widen (k := 0) (n := 0) (Nat.le_of_ble_eq_true rfl) (Nat.le_of_ble_eq_true rfl) ?_
  refine lv_if_ne (tgt := 17) hx hb dX12_reach_11 (by decide) (fun c11 => ?_) (fun c11 => ?_)
  · skip
    have tc11 := f_ne (k := 0) (by decide) c11
    replace x_v80 := x_v80.resolve_left tc11
    refine lv_aload_n hx hb dX12_reach_17 rfl (lv_at hl 0 rfl) ?_
    refine lv_iload_n hx hb dX12_reach_18 rfl (lv_at hl 1 rfl) ?_
    refine tk_v hH hS hA (tr_V (n := 1) (As := [.int x1]) hx hb hml hown hts hkb hH hOX hks hE hS hA (s_M_laysGuide l D cs kf T O X a0 hg mq x1 t_a0 b_hg (by omega) (by omega) (hO.sub (by decide))) kw_1502 kw_1504 ks_71 kw_13 kw_1505 (by decide +kernel) ⟨Nat.le_of_ble_eq_true rfl, Nat.le_of_ble_eq_true rfl⟩ (HT.recv (ci := 12) hkb hH t_a0 (hO.no t_a0 (by decide)) rfl) rfl rfl hl.1 (Nat.le_of_ble_eq_true rfl) dX12_reach_19 ⟨Nat.le_of_ble_eq_true rfl, Nat.le_of_ble_eq_true rfl⟩) (fun u H locs hz9 hH hS => ?_)
    have hz9 : u = (T, O, X) := hz9
    subst hz9
    have hH : HT D cs A T O X H := hH
    refine W.widen (k := 0) (n := 0) (Nat.le_of_ble_eq_true rfl) (Nat.le_of_ble_eq_true rfl) ?_
    refine lv_aload_n hx hb dX12_reach_22 rfl (lv_at hl 0 rfl) ?_
    refine lv_aload_n hx hb dX12_reach_23 rfl (lv_at hl 0 rfl) ?_
    refine tk_i hH hS hA (tr_V (n := 0) (As := []) hx hb hml hown hts hkb hH hOX hks hE hS hA (s_M_openSet l D cs kf T O X a0 hg mq t_a0 b_hg (hO.sub (by decide))) kw_1510 kw_1512 ks_73 kw_13 kw_1513 (by decide +kernel) ⟨Nat.le_of_ble_eq_true rfl, Nat.le_of_ble_eq_true rfl⟩ (HT.recv (ci := 12) hkb hH t_a0 (hO.no t_a0 (by decide)) rfl) rfl rfl hl.1 (Nat.le_of_ble_eq_true rfl) dX12_reach_24 ⟨Nat.le_of_ble_eq_true rfl, Nat.le_of_ble_eq_true rfl⟩) (fun v24 u H locs hz9 hH hS => ?_)
    obtain ⟨rfl, l_v24, u_v24⟩ := hz9
    have hH : HT D cs A T O X H := hH
    refine W.widen (k := 0) (n := 0) (Nat.le_of_ble_eq_true rfl) (Nat.le_of_ble_eq_true rfl) ?_
    refine tk_i hH hS hA (tr_V (n := 1) (As := [.int v24]) hx hb hml hown hts hkb hH hOX hks hE hS hA (s_M_comesTo l D cs kf T O X a0 hg mq v24 t_a0 b_hg (hO.sub (by decide))) kw_1514 kw_1516 ks_74 kw_13 kw_1517 (by decide +kernel) ⟨Nat.le_of_ble_eq_true rfl, Nat.le_of_ble_eq_true rfl⟩ (HT.recv (ci := 12) hkb hH t_a0 (hO.no t_a0 (by decide)) rfl) rfl rfl hl.1 (Nat.le_of_ble_eq_true rfl) dX12_reach_27 ⟨Nat.le_of_ble_eq_true rfl, Nat.le_of_ble_eq_true rfl⟩) (fun v27 u H locs hz9 hH hS => ?_)
    obtain ⟨rfl, l_v27, u_v27⟩ := hz9
    have hH : HT D cs A T O X H := hH
    refine W.widen (k := 0) (n := 0) (Nat.le_of_ble_eq_true rfl) (Nat.le_of_ble_eq_true rfl) ?_
    exact te_i hx hb hr hlocks hH hS (⟨rfl, by omega, by omega⟩) dX12_reach_30
  · skip
    have tc11 := f_eq (k := 0) (by decide) c11
    clear x_v80
    refine lv_bipush (v := (-2)) hx hb dX12_reach_14 (by decide) ?_
    exact te_i hx hb hr hlocks hH hS (⟨rfl, by decide, by decide⟩) dX12_reach_16
set_option maxHeartbeats 4000000 in
set_option maxRecDepth 100000 in
theorem s_M_steps (l : Launch) (D : va_G) (cs : CS) (kf : KF) (T : TF) (O : List Nat) (X : va_W) (a0 hg mq : Nat) (x1 : Int32) (x2 : Int32) (x3 : Int32) (t_a0 : T a0 = some (22, hg, mq)) (b_hg : hg < 90) (hO : okO T O [1, 8, 22]) : TK l D cs kf yX12_steps cX12_steps 4 (some (.int)) { frames := 3, cells := 0, slots := 0, locals := 74 } [.ref a0, .int x1, .int x2, .int x3] T O X (Ti D cs (fun r u => u = (T, O, X) ∧ -2 ≤ r.toInt ∧ r.toInt ≤ 1)) := by
  refine tk_of (by decide) (Nat.le_of_ble_eq_true rfl) (fun p e s m below meth c ls A H locs hx hb hr hml hown hts hlocks hnm hkb hH hS hA hOX hks hE hl => ?_)
  have hown : s.vm.findClass RX12 = some m.cls := hown
  have hl : lv_has ls 4 [(0, .ref a0), (1, .int x1), (2, .int x2), (3, .int x3)] := hl
  refine lv_aload_n hx hb dX12_steps_0 rfl (lv_at hl 0 rfl) ?_
  refine lv_iconst (v := 0) hx hb dX12_steps_1 (by decide) ?_
  refine t_put (ci := 12) (lst := ft12 hg mq) (v := .int 0) (ty := tyX12 0) (C := RX12) (F := TX12) (N := 36) hx hb hts uX12 tyX12 tyX12_ok nmX12 hown hkb hH hS t_a0 (hO.no t_a0 (by decide)) (fun _ => Iff.rfl) rfl rfl 0 (by decide) rfl (⟨_, rfl⟩) kw_1223 (fun _ h9 => h9) rfl (tyX12_ok 0 (by decide)) rfl rfl dX12_steps_2 (fun H locs hH hS => ?_)
  refine lv_aload_n hx hb dX12_steps_5 rfl (lv_at hl 0 rfl) ?_
  refine lv_iload_n hx hb dX12_steps_6 rfl (lv_at hl 1 rfl) ?_
  refine lv_i2l hx hb dX12_steps_7 rfl ?_
  refine tk_i hH hS hA (tr_V (n := 1) (As := [.long x1.toInt64]) hx hb hml hown hts hkb hH hOX hks hE hS hA (s_M_isGuide l D cs kf T O X a0 hg mq x1.toInt64 t_a0 b_hg (hO.sub (by decide))) kw_1470 kw_1472 ks_67 kw_13 kw_1473 (by decide +kernel) ⟨Nat.le_of_ble_eq_true rfl, Nat.le_of_ble_eq_true rfl⟩ (HT.recv (ci := 12) hkb hH t_a0 (hO.no t_a0 (by decide)) rfl) rfl rfl hl.1 (Nat.le_of_ble_eq_true rfl) dX12_steps_8 ⟨Nat.le_of_ble_eq_true rfl, Nat.le_of_ble_eq_true rfl⟩) (fun v8 u H locs hz9 hH hS => ?_)
  obtain ⟨rfl, l_v8, u_v8, x_v80⟩ := hz9
  simp only [Int32.toInt_toInt64] at x_v80
  have hH : HT D cs A T O X H := hH
  refine W.widen (k := 0) (n := 0) (Nat.le_of_ble_eq_true rfl) (Nat.le_of_ble_eq_true rfl) ?_
  have J37 : ∀  (H : Heap) (locs : List Loc) (ls : Array Slot), HT D cs A T O X H → va_S A s.heap H locs → lv_has ls 4 [] → W p l e { frames := 3, cells := 0, slots := 0, locals := 74 } s m [.ref a0, .int x1, .int x2, .int x3].toArray below meth c H locs 0 0 (MQ below (Ti D cs (fun r u => u = (T, O, X) ∧ -2 ≤ r.toInt ∧ r.toInt ≤ 1) A) [.ref a0, .int x1, .int x2, .int x3].toArray s 0 0 A) (F0 m 37 ls []) := by
    intro  H locs ls  hH hS hl
    refine lv_bipush (v := (-2)) hx hb dX12_steps_37 (by decide) ?_
    exact te_i hx hb hr hlocks hH hS (⟨rfl, by decide, by decide⟩) dX12_steps_39
  refine lv_if_eq (tgt := 37) hx hb dX12_steps_11 (by decide) (fun c11 => ?_) (fun c11 => ?_)
  · skip
    have tc11 := f_eq (k := 0) (by decide) c11
    clear x_v80
    exact J37  _ _ _  hH hS (lv_sub hl [] rfl)
  · skip
    have tc11 := f_ne (k := 0) (by decide) c11
    replace x_v80 := x_v80.resolve_left tc11
    refine lv_aload_n hx hb dX12_steps_14 rfl (lv_at hl 0 rfl) ?_
    refine lv_iload_n hx hb dX12_steps_15 rfl (lv_at hl 2 rfl) ?_
    refine lv_i2l hx hb dX12_steps_16 rfl ?_
    refine tk_i hH hS hA (tr_V (n := 1) (As := [.long x2.toInt64]) hx hb hml hown hts hkb hH hOX hks hE hS hA (s_M_isHold l D cs kf T O X a0 hg mq x2.toInt64 t_a0 b_hg (hO.sub (by decide))) kw_1454 kw_1456 ks_64 kw_13 kw_1457 (by decide +kernel) ⟨Nat.le_of_ble_eq_true rfl, Nat.le_of_ble_eq_true rfl⟩ (HT.recv (ci := 12) hkb hH t_a0 (hO.no t_a0 (by decide)) rfl) rfl rfl hl.1 (Nat.le_of_ble_eq_true rfl) dX12_steps_17 ⟨Nat.le_of_ble_eq_true rfl, Nat.le_of_ble_eq_true rfl⟩) (fun v17 u H locs hz9 hH hS => ?_)
    obtain ⟨rfl, l_v17, u_v17, x_v170⟩ := hz9
    simp only [Int32.toInt_toInt64] at x_v170
    have hH : HT D cs A T O X H := hH
    refine W.widen (k := 0) (n := 0) (Nat.le_of_ble_eq_true rfl) (Nat.le_of_ble_eq_true rfl) ?_
    refine lv_if_eq (tgt := 37) hx hb dX12_steps_20 (by decide) (fun c20 => ?_) (fun c20 => ?_)
    · skip
      have tc20 := f_eq (k := 0) (by decide) c20
      clear x_v170
      exact J37  _ _ _  hH hS (lv_sub hl [] rfl)
    · skip
      have tc20 := f_ne (k := 0) (by decide) c20
      replace x_v170 := x_v170.resolve_left tc20
      refine lv_aload_n hx hb dX12_steps_23 rfl (lv_at hl 0 rfl) ?_
      refine lv_iload_n hx hb dX12_steps_24 rfl (lv_at hl 3 rfl) ?_
      refine lv_i2l hx hb dX12_steps_25 rfl ?_
      refine tk_i hH hS hA (tr_V (n := 1) (As := [.long x3.toInt64]) hx hb hml hown hts hkb hH hOX hks hE hS hA (s_M_isHold l D cs kf T O X a0 hg mq x3.toInt64 t_a0 b_hg (hO.sub (by decide))) kw_1454 kw_1456 ks_64 kw_13 kw_1457 (by decide +kernel) ⟨Nat.le_of_ble_eq_true rfl, Nat.le_of_ble_eq_true rfl⟩ (HT.recv (ci := 12) hkb hH t_a0 (hO.no t_a0 (by decide)) rfl) rfl rfl hl.1 (Nat.le_of_ble_eq_true rfl) dX12_steps_26 ⟨Nat.le_of_ble_eq_true rfl, Nat.le_of_ble_eq_true rfl⟩) (fun v26 u H locs hz9 hH hS => ?_)
      obtain ⟨rfl, l_v26, u_v26, x_v260⟩ := hz9
      simp only [Int32.toInt_toInt64] at x_v260
      have hH : HT D cs A T O X H := hH
      refine W.widen (k := 0) (n := 0) (Nat.le_of_ble_eq_true rfl) (Nat.le_of_ble_eq_true rfl) ?_
      refine lv_if_eq (tgt := 37) hx hb dX12_steps_29 (by decide) (fun c29 => ?_) (fun c29 => ?_)
      · skip
        have tc29 := f_eq (k := 0) (by decide) c29
        clear x_v260
        exact J37  _ _ _  hH hS (lv_sub hl [] rfl)
      · skip
        have tc29 := f_ne (k := 0) (by decide) c29
        replace x_v260 := x_v260.resolve_left tc29
        refine lv_iload_n hx hb dX12_steps_32 rfl (lv_at hl 2 rfl) ?_
        refine lv_iload_n hx hb dX12_steps_33 rfl (lv_at hl 3 rfl) ?_
        refine lv_icmp_ne (tgt := 40) hx hb dX12_steps_34 (by decide) (fun c34 => ?_) (fun c34 => ?_)
        · skip
          have fuc34 := full_i x2
          have fvc34 := full_i x3
          have tc34 := g_ne c34
          refine lv_aload_n hx hb dX12_steps_40 rfl (lv_at hl 0 rfl) ?_
          refine lv_aload_n hx hb dX12_steps_41 rfl (lv_at hl 0 rfl) ?_
          refine t_get (ci := 12) (lst := ft12 hg mq) (C := RX12) (F := TX12) (N := 36) hx hb hts uX12 hown hkb hH t_a0 (hO.no t_a0 (by decide)) (fun _ h9 => h9) rfl rfl 1 (by decide) rfl kw_1224 (fun _ h9 => h9) dX12_steps_42 (fun v9 h9 => ?_)
          obtain ⟨v42, rfl, t_v42⟩ := h9
          refine lv_bipush (v := 49) hx hb dX12_steps_45 (by decide) ?_
          refine lv_iload_n hx hb dX12_steps_47 rfl (lv_at hl 1 rfl) ?_
          refine lv_iadd hx hb dX12_steps_48 ?_
          refine lv_topi (fun v48 ev48 => ?_)
          have tv48 : v48.toInt = (49) + x1.toInt := by rw [ev48]; exact add_i (by decide : (49 : Int32).toInt = 49) rfl (by omega) (by omega)
          refine t_ild8 hx hb hkb hH t_v42 (hO.no t_v42 (by decide)) (by decide) (by omega) (by omega) dX12_steps_49 (fun v49 h9 h8 => ?_)
          refine t_put (ci := 12) (lst := ft12 hg mq) (v := .int v49) (ty := tyX12 16) (C := RX12) (F := TX12) (N := 36) hx hb hts uX12 tyX12 tyX12_ok nmX12 hown hkb hH hS t_a0 (hO.no t_a0 (by decide)) (fun _ => Iff.rfl) rfl rfl 16 (by decide) rfl (⟨_, rfl⟩) kw_1239 (fun _ h9 => h9) rfl (tyX12_ok 16 (by decide)) rfl rfl dX12_steps_50 (fun H locs hH hS => ?_)
          refine lv_aload_n hx hb dX12_steps_53 rfl (lv_at hl 0 rfl) ?_
          refine lv_iload_n hx hb dX12_steps_54 rfl (lv_at hl 1 rfl) ?_
          refine lv_iload_n hx hb dX12_steps_55 rfl (lv_at hl 2 rfl) ?_
          refine lv_iload_n hx hb dX12_steps_56 rfl (lv_at hl 3 rfl) ?_
          refine tk_i hH hS hA (tr_V (n := 3) (As := [.int x1, .int x2, .int x3]) hx hb hml hown hts hkb hH hOX hks hE hS hA (s_M_mayStep l D cs kf T O X a0 hg mq x1 x2 x3 t_a0 b_hg (by omega) (by omega) (by omega) (by omega) (by omega) (by omega) (hO.sub (by decide))) kw_1482 kw_1484 ks_69 kw_13 kw_1485 (by decide +kernel) ⟨Nat.le_of_ble_eq_true rfl, Nat.le_of_ble_eq_true rfl⟩ (HT.recv (ci := 12) hkb hH t_a0 (hO.no t_a0 (by decide)) rfl) rfl rfl hl.1 (Nat.le_of_ble_eq_true rfl) dX12_steps_57 ⟨Nat.le_of_ble_eq_true rfl, Nat.le_of_ble_eq_true rfl⟩) (fun v57 u H locs hz9 hH hS => ?_)
          obtain ⟨rfl, l_v57, u_v57⟩ := hz9
          have hH : HT D cs A T O X H := hH
          refine W.widen (k := 0) (n := 0) (Nat.le_of_ble_eq_true rfl) (Nat.le_of_ble_eq_true rfl) ?_
          have J68 : ∀ (k68_0 : Int32) (H : Heap) (locs : List Loc) (ls : Array Slot), (0 ≤ k68_0.toInt) → (k68_0.toInt ≤ 1) → HT D cs A T O X H → va_S A s.heap H locs → lv_has ls 4 [] → W p l e { frames := 3, cells := 0, slots := 0, locals := 74 } s m [.ref a0, .int x1, .int x2, .int x3].toArray below meth c H locs 0 0 (MQ below (Ti D cs (fun r u => u = (T, O, X) ∧ -2 ≤ r.toInt ∧ r.toInt ≤ 1) A) [.ref a0, .int x1, .int x2, .int x3].toArray s 0 0 A) (F0 m 68 ls [.int k68_0]) := by
            intro k68_0 H locs ls l_k68_0 u_k68_0 hH hS hl
            exact te_i hx hb hr hlocks hH hS (⟨rfl, by omega, by omega⟩) dX12_steps_68
          refine lv_if_eq (tgt := 67) hx hb dX12_steps_60 (by decide) (fun c60 => ?_) (fun c60 => ?_)
          · skip
            have tc60 := f_eq (k := 0) (by decide) c60
            refine lv_iconst (v := 0) hx hb dX12_steps_67 (by decide) ?_
            exact J68 0 _ _ _ (by decide) (by decide) hH hS (lv_sub hl [] rfl)
          · skip
            have tc60 := f_ne (k := 0) (by decide) c60
            refine lv_iconst (v := 1) hx hb dX12_steps_63 (by decide) ?_
            refine lv_goto (tgt := 68) hx hb dX12_steps_64 (by decide) ?_
            exact J68 1 _ _ _ (by decide) (by decide) hH hS (lv_sub hl [] rfl)
        · skip
          have fuc34 := full_i x2
          have fvc34 := full_i x3
          have tc34 := g_eq c34
          exact J37  _ _ _  hH hS (lv_sub hl [] rfl)
