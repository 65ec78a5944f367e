set_option maxHeartbeats 4000000 in
set_option maxRecDepth 100000 in
theorem s_M_goesTurn5 (l : Launch) (D : va_G) (cs : CS) (kf : KF) (T : TF) (O : List Nat) (X : va_W) (a0 hg mq : Nat) (x1 : Int32) (x2 : Int32) (x3 : Int32) (t_a0 : T a0 = some (22, hg, mq)) (b_hg : hg < 90) (l_x1 : 5 ≤ x1.toInt) (u_x1 : x1.toInt ≤ 5) (l_x2 : 0 ≤ x2.toInt) (u_x2 : x2.toInt ≤ 0) (hp : pcn 5 x2.toInt.toNat ≤ 0) (hO : okO T O [1, 22]) : TK l D cs kf yX12_goesTurn cX12_goesTurn 7 none { frames := 0, cells := 0, slots := 0, locals := 0 } [.ref a0, .int x1, .int x2, .int x3] T O X (Tv D cs (fun u => u = (T, O, X))) := by
  refine tk_of (by decide) (Nat.le_of_ble_eq_true rfl) (fun p e s m below meth c ls A H locs hx hb hr hml hown hts hlocks hnm hkb hH hS hA hOX hks hE hl => ?_)
  have hown : s.vm.findClass RX12 = some m.cls := hown
  have hl : lv_has ls 7 [(0, .ref a0), (1, .int x1), (2, .int x2), (3, .int x3)] := hl
  refine lv_iload_n hx hb dX12_goesTurn_0 rfl (lv_at hl 2 rfl) ?_
  refine lv_if_ne (tgt := 48) hx hb dX12_goesTurn_1 (by decide) (fun c1 => ?_) (fun c1 => ?_)
  · skip
    have tc1 := f_ne (k := 0) (by decide) c1
    exfalso; omega
  · skip
    have tc1 := f_eq (k := 0) (by decide) c1
    refine lv_iload_n hx hb dX12_goesTurn_4 rfl (lv_at hl 3 rfl) ?_
    refine lv_aload_n hx hb dX12_goesTurn_5 rfl (lv_at hl 0 rfl) ?_
    refine t_get (ci := 12) (lst := ft12 hg mq) (C := RX12) (F := TX12) (N := 36) hx hb hts uX12 hown hkb hH t_a0 (hO.no t_a0 (by decide)) (fun _ h9 => h9) rfl rfl 32 (by decide) rfl kw_1255 (fun _ h9 => h9) dX12_goesTurn_6 (fun v9 h9 => ?_)
    obtain ⟨v6, rfl⟩ := h9
    refine lv_icmp_gt (tgt := 13) hx hb dX12_goesTurn_9 (by decide) (fun c9 => ?_) (fun c9 => ?_)
    · skip
      have fuc9 := full_i x3
      have fvc9 := full_i v6
      have tc9 := g_lt c9
      refine lv_aload_n hx hb dX12_goesTurn_13 rfl (lv_at hl 0 rfl) ?_
      refine lv_iload_n hx hb dX12_goesTurn_14 rfl (lv_at hl 3 rfl) ?_
      refine t_put (ci := 12) (lst := ft12 hg mq) (v := .int x3) (ty := tyX12 32) (C := RX12) (F := TX12) (N := 36) hx hb hts uX12 tyX12 tyX12_ok nmX12 hown hkb hH hS t_a0 (hO.no t_a0 (by decide)) (fun _ => Iff.rfl) rfl rfl 32 (by decide) rfl (⟨_, rfl⟩) kw_1255 (fun _ h9 => h9) rfl (tyX12_ok 32 (by decide)) rfl rfl dX12_goesTurn_15 (fun H locs hH hS => ?_)
      refine lv_iconst (v := 0) hx hb dX12_goesTurn_18 (by decide) ?_
      have J21 : ∀ (n : Nat) (p21_4 : Int32) (H : Heap) (locs : List Loc) (ls : Array Slot), (5 - p21_4.toInt).toNat = n → (0 ≤ p21_4.toInt) → (p21_4.toInt ≤ 5) → HT D cs A T O X H → va_S A s.heap H locs → lv_has ls 7 [(4, .int p21_4), (0, .ref a0), (1, .int x1)] → W p l e { frames := 0, cells := 0, slots := 0, locals := 0 } s m [.ref a0, .int x1, .int x2, .int x3].toArray below meth c H locs 0 0 (MQ below (Tv D cs (fun u => u = (T, O, X)) A) [.ref a0, .int x1, .int x2, .int x3].toArray s 0 0 A) (F0 m 21 ls []) := by
        intro n
        induction n using Nat.strongRecOn with
        | _ n ih21 =>
          intro p21_4 H locs ls hm21 l_p21_4 u_p21_4 hH hS hl
          refine lv_iload hx hb dX12_goesTurn_21 (lv_at hl 0 rfl) ?_
          refine lv_iload_n hx hb dX12_goesTurn_23 rfl (lv_at hl 2 rfl) ?_
          refine lv_icmp_ge (tgt := 47) hx hb dX12_goesTurn_24 (by decide) (fun c24 => ?_) (fun c24 => ?_)
          · skip
            have fuc24 := full_i p21_4
            have fvc24 := full_i x1
            have tc24 := g_le c24
            exact te_v hx hb hr hlocks hH hS (rfl) dX12_goesTurn_47
          · skip
            have fuc24 := full_i p21_4
            have fvc24 := full_i x1
            have tc24 := g_nle c24
            refine lv_aload_n hx hb dX12_goesTurn_27 rfl (lv_at hl 1 rfl) ?_
            refine t_get (ci := 12) (lst := ft12 hg mq) (C := RX12) (F := TX12) (N := 36) hx hb hts uX12 hown hkb hH t_a0 (hO.no t_a0 (by decide)) (fun _ h9 => h9) rfl rfl 30 (by decide) rfl kw_1253 (fun _ h9 => h9) dX12_goesTurn_28 (fun v9 h9 => ?_)
            obtain ⟨v28, rfl, t_v28⟩ := h9
            refine lv_iload hx hb dX12_goesTurn_31 (lv_at hl 0 rfl) ?_
            refine lv_aload_n hx hb dX12_goesTurn_33 rfl (lv_at hl 1 rfl) ?_
            refine t_get (ci := 12) (lst := ft12 hg mq) (C := RX12) (F := TX12) (N := 36) hx hb hts uX12 hown hkb hH t_a0 (hO.no t_a0 (by decide)) (fun _ h9 => h9) rfl rfl 29 (by decide) rfl kw_1252 (fun _ h9 => h9) dX12_goesTurn_34 (fun v9 h9 => ?_)
            obtain ⟨v34, rfl, t_v34⟩ := h9
            refine lv_iload hx hb dX12_goesTurn_37 (lv_at hl 0 rfl) ?_
            refine t_ild hx hb hkb hH t_v34 (hO.no t_v34 (by decide)) (by omega) (by omega) dX12_goesTurn_39 (fun v39 h9 => ?_)
            refine t_ist hx hb hkb hH hS t_v28 (hO.no t_v28 (by decide)) (by omega) (by omega) (cp_0 _) dX12_goesTurn_40 (fun H locs hH hS => ?_)
            obtain ⟨v41, ev41⟩ : ∃ y : Int32, y = p21_4 + 1 := ⟨_, rfl⟩
            have tv41 : v41.toInt = p21_4.toInt + (1) := by rw [ev41]; exact add_i rfl (by decide) (by omega) (by omega)
            refine lv_iinc (v := v41) (lv' := [(4, .int v41), (0, .ref a0), (1, .int x1)]) hx hb dX12_goesTurn_41 hl (k := 0) rfl (by rw [ev41]; rfl) (by decide) rfl (fun ls hl => ?_)
            refine lv_goto (tgt := 21) hx hb dX12_goesTurn_44 (by decide) ?_
            exact ih21 _ (by omega) v41 _ _ _ rfl (by omega) (by omega) hH hS (lv_sub hl [0, 1, 2] rfl)
      refine lv_istore (lv' := [(4, .int 0), (0, .ref a0), (1, .int x1), (2, .int x2), (3, .int x3)]) hx hb dX12_goesTurn_19 hl (by decide) rfl (fun ls hl => ?_)
      exact J21 _ 0 _ _ _ rfl (by decide) (by decide) hH hS (lv_sub hl [0, 1, 2] rfl)
    · skip
      have fuc9 := full_i x3
      have fvc9 := full_i v6
      have tc9 := g_nlt c9
      exact te_v hx hb hr hlocks hH hS (rfl) dX12_goesTurn_12
set_option maxHeartbeats 4000000 in
set_option maxRecDepth 100000 in
theorem s_M_goesTurn4 (l : Launch) (D : va_G) (cs : CS) (kf : KF) (T : TF) (O : List Nat) (X : va_W) (a0 hg mq : Nat) (x1 : Int32) (x2 : Int32) (x3 : Int32) (t_a0 : T a0 = some (22, hg, mq)) (b_hg : hg < 90) (l_x1 : 4 ≤ x1.toInt) (u_x1 : x1.toInt ≤ 4) (l_x2 : 0 ≤ x2.toInt) (u_x2 : x2.toInt ≤ 31) (hp : pcn 5 x2.toInt.toNat ≤ 1) (hO : okO T O [1, 8, 9, 22]) : TK l D cs kf yX12_goesTurn cX12_goesTurn 7 none { frames := 6, cells := 0, slots := 0, locals := 140 } [.ref a0, .int x1, .int x2, .int x3] T O X (Tv D cs (fun u => u = (T, O, X))) := by
  refine tk_of (by decide) (Nat.le_of_ble_eq_true rfl) (fun p e s m below meth c ls A H locs hx hb hr hml hown hts hlocks hnm hkb hH hS hA hOX hks hE hl => ?_)
  have hown : s.vm.findClass RX12 = some m.cls := hown
  have hl : lv_has ls 7 [(0, .ref a0), (1, .int x1), (2, .int x2), (3, .int x3)] := hl
  refine lv_iload_n hx hb dX12_goesTurn_0 rfl (lv_at hl 2 rfl) ?_
  refine lv_if_ne (tgt := 48) hx hb dX12_goesTurn_1 (by decide) (fun c1 => ?_) (fun c1 => ?_)
  · skip
    have tc1 := f_ne (k := 0) (by decide) c1
    refine lv_iconst (v := 0) hx hb dX12_goesTurn_48 (by decide) ?_
    have J51 : ∀ (n : Nat) (p51_4 : Int32) (H : Heap) (locs : List Loc) (ls : Array Slot), (31 - p51_4.toInt).toNat = n → (0 ≤ p51_4.toInt) → (p51_4.toInt ≤ 31) → HT D cs A T O X H → va_S A s.heap H locs → lv_has ls 7 [(4, .int p51_4), (0, .ref a0), (1, .int x1), (2, .int x2), (3, .int x3)] → W p l e { frames := 6, cells := 0, slots := 0, locals := 140 } s m [.ref a0, .int x1, .int x2, .int x3].toArray below meth c H locs 0 0 (MQ below (Tv D cs (fun u => u = (T, O, X)) A) [.ref a0, .int x1, .int x2, .int x3].toArray s 0 0 A) (F0 m 51 ls []) := by
      intro n
      induction n using Nat.strongRecOn with
      | _ n ih51 =>
        intro p51_4 H locs ls hm51 l_p51_4 u_p51_4 hH hS hl
        refine lv_iload hx hb dX12_goesTurn_51 (lv_at hl 0 rfl) ?_
        refine lv_bipush (v := 31) hx hb dX12_goesTurn_53 (by decide) ?_
        refine lv_icmp_ge (tgt := 86) hx hb dX12_goesTurn_55 (by decide) (fun c55 => ?_) (fun c55 => ?_)
        · skip
          have tc55 := f_ge (k := 31) (by decide) c55
          refine lv_iconst (v := 0) hx hb dX12_goesTurn_86 (by decide) ?_
          have J89 : ∀ (n : Nat) (p89_4 : Int32) (H : Heap) (locs : List Loc) (ls : Array Slot), (5 - p89_4.toInt).toNat = n → (0 ≤ p89_4.toInt) → (p89_4.toInt ≤ 5) → HT D cs A T O X H → va_S A s.heap H locs → lv_has ls 7 [(4, .int p89_4), (0, .ref a0), (1, .int x1), (2, .int x2), (3, .int x3)] → W p l e { frames := 6, cells := 0, slots := 0, locals := 140 } s m [.ref a0, .int x1, .int x2, .int x3].toArray below meth c H locs 0 0 (MQ below (Tv D cs (fun u => u = (T, O, X)) A) [.ref a0, .int x1, .int x2, .int x3].toArray s 0 0 A) (F0 m 89 ls []) := by
            intro n
            induction n using Nat.strongRecOn with
            | _ n ih89 =>
              intro p89_4 H locs ls hm89 l_p89_4 u_p89_4 hH hS hl
              refine lv_iload hx hb dX12_goesTurn_89 (lv_at hl 0 rfl) ?_
              refine lv_aload_n hx hb dX12_goesTurn_91 rfl (lv_at hl 1 rfl) ?_
              refine t_get (ci := 12) (lst := ft12 hg mq) (C := RX12) (F := TX12) (N := 36) hx hb hts uX12 hown hkb hH t_a0 (hO.no t_a0 (by decide)) (fun _ h9 => h9) rfl rfl 1 (by decide) rfl kw_1224 (fun _ h9 => h9) dX12_goesTurn_92 (fun v9 h9 => ?_)
              obtain ⟨v92, rfl, t_v92⟩ := h9
              refine lv_iconst (v := 2) hx hb dX12_goesTurn_95 (by decide) ?_
              refine t_ild8 hx hb hkb hH t_v92 (hO.no t_v92 (by decide)) (by decide) (by decide) (by decide) dX12_goesTurn_96 (fun v96 h9 h8 => ?_)
              have q9 := (h8 rfl).2 rfl
              subst q9
              have eG9 : (nI (hg % 6)).toInt = (((hg % 6) : Nat) : Int) := nI_toInt (by omega)
              refine lv_icmp_ge (tgt := 212) hx hb dX12_goesTurn_97 (by decide) (fun c97 => ?_) (fun c97 => ?_)
              · skip
                have fuc97 := full_i p89_4
                have fvc97 := full_i (nI (hg % 6))
                have tc97 := g_le c97
                exact te_v hx hb hr hlocks hH hS (rfl) dX12_goesTurn_212
              · skip
                have fuc97 := full_i p89_4
                have fvc97 := full_i (nI (hg % 6))
                have tc97 := g_nle c97
                refine lv_iload_n hx hb dX12_goesTurn_100 rfl (lv_at hl 3 rfl) ?_
                refine lv_i2l hx hb dX12_goesTurn_101 rfl ?_
                refine lv_iload hx hb dX12_goesTurn_102 (lv_at hl 0 rfl) ?_
                refine tk_i hH hS hA (tr_S (n := 2) (As := [.long x2.toInt64, .int p89_4]) hx hb hml hown hts hkb hH hOX hks hE hS hA (s_M_isIn2 l D cs kf T O X x2.toInt64 p89_4  (hO.sub (by decide))) kw_1440 kw_1441 kw_13 kw_1442 (by decide +kernel) ⟨Nat.le_of_ble_eq_true rfl, Nat.le_of_ble_eq_true rfl⟩ rfl rfl hl.1 (Nat.le_of_ble_eq_true rfl) dX12_goesTurn_104 ⟨Nat.le_of_ble_eq_true rfl, Nat.le_of_ble_eq_true rfl⟩) (fun v104 u H locs hz9 hH hS => ?_)
                obtain ⟨rfl, l_v104, u_v104, x_v1040⟩ := hz9
                have hH : HT D cs A T O X H := hH
                refine W.widen (k := 0) (n := 0) (Nat.le_of_ble_eq_true rfl) (Nat.le_of_ble_eq_true rfl) ?_
                have J206 : ∀  (H : Heap) (locs : List Loc) (ls : Array Slot), HT D cs A T O X H → va_S A s.heap H locs → lv_has ls 7 [(4, .int p89_4), (0, .ref a0), (1, .int x1), (2, .int x2), (3, .int x3)] → W p l e { frames := 6, cells := 0, slots := 0, locals := 140 } s m [.ref a0, .int x1, .int x2, .int x3].toArray below meth c H locs 0 0 (MQ below (Tv D cs (fun u => u = (T, O, X)) A) [.ref a0, .int x1, .int x2, .int x3].toArray s 0 0 A) (F0 m 206 ls []) := by
                  intro  H locs ls  hH hS hl
                  obtain ⟨v206, ev206⟩ : ∃ y : Int32, y = p89_4 + 1 := ⟨_, rfl⟩
                  have tv206 : v206.toInt = p89_4.toInt + (1) := by rw [ev206]; exact add_i rfl (by decide) (by omega) (by omega)
                  refine lv_iinc (v := v206) (lv' := [(4, .int v206), (0, .ref a0), (1, .int x1), (2, .int x2), (3, .int x3)]) hx hb dX12_goesTurn_206 hl (k := 0) rfl (by rw [ev206]; rfl) (by decide) rfl (fun ls hl => ?_)
                  refine lv_goto (tgt := 89) hx hb dX12_goesTurn_209 (by decide) ?_
                  exact ih89 _ (by omega) v206 _ _ _ rfl (by omega) (by omega) hH hS (lv_sub hl [0, 1, 2, 3, 4] rfl)
                refine lv_if_ne (tgt := 113) hx hb dX12_goesTurn_107 (by decide) (fun c107 => ?_) (fun c107 => ?_)
                · skip
                  have tc107 := f_ne (k := 0) (by decide) c107
                  refine lv_aload_n hx hb dX12_goesTurn_113 rfl (lv_at hl 1 rfl) ?_
                  refine t_get (ci := 12) (lst := ft12 hg mq) (C := RX12) (F := TX12) (N := 36) hx hb hts uX12 hown hkb hH t_a0 (hO.no t_a0 (by decide)) (fun _ h9 => h9) rfl rfl 29 (by decide) rfl kw_1252 (fun _ h9 => h9) dX12_goesTurn_114 (fun v9 h9 => ?_)
                  obtain ⟨v114, rfl, t_v114⟩ := h9
                  refine lv_iload_n hx hb dX12_goesTurn_117 rfl (lv_at hl 2 rfl) ?_
                  refine lv_iload hx hb dX12_goesTurn_118 (lv_at hl 0 rfl) ?_
                  refine t_ist hx hb hkb hH hS t_v114 (hO.no t_v114 (by decide)) (by omega) (by omega) (cp_0 _) dX12_goesTurn_120 (fun H locs hH hS => ?_)
                  refine lv_aload_n hx hb dX12_goesTurn_121 rfl (lv_at hl 1 rfl) ?_
                  refine lv_iload hx hb dX12_goesTurn_122 (lv_at hl 0 rfl) ?_
                  refine tk_i hH hS hA (tr_V (n := 1) (As := [.int p89_4]) hx hb hml hown hts hkb hH hOX hks hE hS hA (s_M_laysWayOf l D cs kf T O X a0 hg mq p89_4 t_a0 b_hg (by omega) (by omega) (hO.sub (by decide))) kw_1560 kw_1562 ks_82 kw_13 kw_1563 (by decide +kernel) ⟨Nat.le_of_ble_eq_true rfl, Nat.le_of_ble_eq_true rfl⟩ (HT.recv (ci := 12) hkb hH t_a0 (hO.no t_a0 (by decide)) rfl) rfl rfl hl.1 (Nat.le_of_ble_eq_true rfl) dX12_goesTurn_124 ⟨Nat.le_of_ble_eq_true rfl, Nat.le_of_ble_eq_true rfl⟩) (fun v124 u H locs hz9 hH hS => ?_)
                  obtain ⟨rfl, l_v124, u_v124⟩ := hz9
                  have hH : HT D cs A T O X H := hH
                  refine W.widen (k := 0) (n := 0) (Nat.le_of_ble_eq_true rfl) (Nat.le_of_ble_eq_true rfl) ?_
                  refine lv_istore (lv' := [(5, .int v124), (4, .int p89_4), (0, .ref a0), (1, .int x1), (2, .int x2), (3, .int x3)]) hx hb dX12_goesTurn_127 hl (by decide) rfl (fun ls hl => ?_)
                  refine lv_iload hx hb dX12_goesTurn_129 (lv_at hl 0 rfl) ?_
                  have J141 : ∀  (H : Heap) (locs : List Loc) (ls : Array Slot), HT D cs A T O X H → va_S A s.heap H locs → lv_has ls 7 [(5, .int v124), (4, .int p89_4), (0, .ref a0), (1, .int x1), (2, .int x2), (3, .int x3)] → W p l e { frames := 6, cells := 0, slots := 0, locals := 140 } s m [.ref a0, .int x1, .int x2, .int x3].toArray below meth c H locs 0 0 (MQ below (Tv D cs (fun u => u = (T, O, X)) A) [.ref a0, .int x1, .int x2, .int x3].toArray s 0 0 A) (F0 m 141 ls []) := by
                    intro  H locs ls  hH hS hl
                    refine lv_aload_n hx hb dX12_goesTurn_141 rfl (lv_at hl 2 rfl) ?_
                    refine lv_iload_n hx hb dX12_goesTurn_142 rfl (lv_at hl 3 rfl) ?_
                    refine lv_iconst (v := 1) hx hb dX12_goesTurn_143 (by decide) ?_
                    refine lv_iadd hx hb dX12_goesTurn_144 ?_
                    refine lv_topi (fun v144 ev144 => ?_)
                    have tv144 : v144.toInt = x1.toInt + (1) := by rw [ev144]; exact add_i rfl (by decide : (1 : Int32).toInt = 1) (by omega) (by omega)
                    refine lv_iload_n hx hb dX12_goesTurn_145 rfl (lv_at hl 4 rfl) ?_
                    refine lv_iconst (v := 1) hx hb dX12_goesTurn_146 (by decide) ?_
                    refine lv_iload hx hb dX12_goesTurn_147 (lv_at hl 1 rfl) ?_
                    refine lv_ishl hx hb dX12_goesTurn_149 ?_
                    refine lv_topi (fun v149 ev149 => ?_)
                    have tv149 : 1 ≤ v149.toInt ∧ v149.toInt ≤ 16 := by rw [ev149]; exact shl_b 4 (by decide) (by omega) (by omega)
                    refine lv_iconst (v := (-1)) hx hb dX12_goesTurn_150 (by decide) ?_
                    refine lv_ixor hx hb dX12_goesTurn_151 ?_
                    refine lv_topi (fun v151 ev151 => ?_)
                    refine lv_iand hx hb dX12_goesTurn_152 ?_
                    refine lv_topi (fun v152 ev152 => ?_)
                    have tv152 : 0 ≤ v152.toInt ∧ v152.toInt ≤ x2.toInt := by rw [ev152]; exact and_l (by omega)
                    have hp9 := gt_step (by omega) (by omega) (by omega) (by omega) (inF_nz x_v1040 tc107) ev149 ev151 ev152
                    have hp8 := pcn5_0 v152.toInt.toNat (by omega) (by omega)
                    refine lv_iload_n hx hb dX12_goesTurn_153 rfl (lv_at hl 5 rfl) ?_
                    refine lv_iload hx hb dX12_goesTurn_154 (lv_at hl 0 rfl) ?_
                    have J164 : ∀ (k164_0 : Int32) (H : Heap) (locs : List Loc) (ls : Array Slot), (0 ≤ k164_0.toInt) → (k164_0.toInt ≤ 1) → HT D cs A T O X H → va_S A s.heap H locs → lv_has ls 7 [(4, .int p89_4), (0, .ref a0), (1, .int x1), (2, .int x2), (3, .int x3)] → W p l e { frames := 6, cells := 0, slots := 0, locals := 140 } s m [.ref a0, .int x1, .int x2, .int x3].toArray below meth c H locs 0 0 (MQ below (Tv D cs (fun u => u = (T, O, X)) A) [.ref a0, .int x1, .int x2, .int x3].toArray s 0 0 A) (F0 m 164 ls [.int k164_0, .int x3, .int v152, .int v144, .ref a0]) := by
                      intro k164_0 H locs ls l_k164_0 u_k164_0 hH hS hl
                      refine lv_iadd hx hb dX12_goesTurn_164 ?_
                      refine lv_topi (fun v164 ev164 => ?_)
                      refine tk_v hH hS hA (tr_V (n := 3) (As := [.int v144, .int v152, .int v164]) hx hb hml hown hts hkb hH hOX hks hE hS hA (s_M_goesTurn5 l D cs kf T O X a0 hg mq v144 v152 v164 t_a0 b_hg (by omega) (by omega) (by omega) (by omega) (by omega) (hO.sub (by decide))) kw_1756 kw_1758 ks_103 kw_13 kw_1759 (by decide +kernel) ⟨Nat.le_of_ble_eq_true rfl, Nat.le_of_ble_eq_true rfl⟩ (HT.recv (ci := 12) hkb hH t_a0 (hO.no t_a0 (by decide)) rfl) rfl rfl hl.1 (Nat.le_of_ble_eq_true rfl) dX12_goesTurn_165 ⟨Nat.le_of_ble_eq_true rfl, Nat.le_of_ble_eq_true rfl⟩) (fun u H locs hz9 hH hS => ?_)
                      obtain ⟨rfl⟩ := hz9
                      have hH : HT D cs A T O X H := hH
                      refine W.widen (k := 0) (n := 0) (Nat.le_of_ble_eq_true rfl) (Nat.le_of_ble_eq_true rfl) ?_
                      refine lv_iconst (v := 0) hx hb dX12_goesTurn_168 (by decide) ?_
                      have J171 : ∀ (n : Nat) (p171_6 : Int32) (H : Heap) (locs : List Loc) (ls : Array Slot), (31 - p171_6.toInt).toNat = n → (0 ≤ p171_6.toInt) → (p171_6.toInt ≤ 31) → HT D cs A T O X H → va_S A s.heap H locs → lv_has ls 7 [(6, .int p171_6), (4, .int p89_4), (0, .ref a0), (1, .int x1), (2, .int x2), (3, .int x3)] → W p l e { frames := 6, cells := 0, slots := 0, locals := 140 } s m [.ref a0, .int x1, .int x2, .int x3].toArray below meth c H locs 0 0 (MQ below (Tv D cs (fun u => u = (T, O, X)) A) [.ref a0, .int x1, .int x2, .int x3].toArray s 0 0 A) (F0 m 171 ls []) := by
                        intro n
                        induction n using Nat.strongRecOn with
                        | _ n ih171 =>
                          intro p171_6 H locs ls hm171 l_p171_6 u_p171_6 hH hS hl
                          refine lv_iload hx hb dX12_goesTurn_171 (lv_at hl 0 rfl) ?_
                          refine lv_bipush (v := 31) hx hb dX12_goesTurn_173 (by decide) ?_
                          refine lv_icmp_ge (tgt := 206) hx hb dX12_goesTurn_175 (by decide) (fun c175 => ?_) (fun c175 => ?_)
                          · skip
                            have tc175 := f_ge (k := 31) (by decide) c175
                            exact J206  _ _ _  hH hS (lv_sub hl [1, 2, 3, 4, 5] rfl)
                          · skip
                            have tc175 := f_nge (k := 31) (by decide) c175
                            refine lv_aload_n hx hb dX12_goesTurn_178 rfl (lv_at hl 2 rfl) ?_
                            refine t_get (ci := 12) (lst := ft12 hg mq) (C := RX12) (F := TX12) (N := 36) hx hb hts uX12 hown hkb hH t_a0 (hO.no t_a0 (by decide)) (fun _ h9 => h9) rfl rfl 1 (by decide) rfl kw_1224 (fun _ h9 => h9) dX12_goesTurn_179 (fun v9 h9 => ?_)
                            obtain ⟨v179, rfl, t_v179⟩ := h9
                            refine lv_bipush (v := 59) hx hb dX12_goesTurn_182 (by decide) ?_
                            refine lv_iload hx hb dX12_goesTurn_184 (lv_at hl 0 rfl) ?_
                            refine lv_iadd hx hb dX12_goesTurn_186 ?_
                            refine lv_topi (fun v186 ev186 => ?_)
                            have tv186 : v186.toInt = (59) + p171_6.toInt := by rw [ev186]; exact add_i (by decide : (59 : Int32).toInt = 59) rfl (by omega) (by omega)
                            refine lv_aload_n hx hb dX12_goesTurn_187 rfl (lv_at hl 2 rfl) ?_
                            refine t_get (ci := 12) (lst := ft12 hg mq) (C := RX12) (F := TX12) (N := 36) hx hb hts uX12 hown hkb hH t_a0 (hO.no t_a0 (by decide)) (fun _ h9 => h9) rfl rfl 31 (by decide) rfl kw_1254 (fun _ h9 => h9) dX12_goesTurn_188 (fun v9 h9 => ?_)
                            obtain ⟨v188, rfl, t_v188⟩ := h9
                            refine lv_bipush (v := 31) hx hb dX12_goesTurn_191 (by decide) ?_
                            refine lv_iload_n hx hb dX12_goesTurn_193 rfl (lv_at hl 3 rfl) ?_
                            refine lv_imul hx hb dX12_goesTurn_194 ?_
                            refine lv_topi (fun v194 ev194 => ?_)
                            have tv194 : v194.toInt = (31) * x1.toInt := by rw [ev194]; exact mul_i (by decide : (31 : Int32).toInt = 31) rfl (by omega) (by omega)
                            refine lv_iload hx hb dX12_goesTurn_195 (lv_at hl 0 rfl) ?_
                            refine lv_iadd hx hb dX12_goesTurn_197 ?_
                            refine lv_topi (fun v197 ev197 => ?_)
                            have tv197 : v197.toInt = v194.toInt + p171_6.toInt := by rw [ev197]; exact add_i rfl rfl (by omega) (by omega)
                            refine t_ild hx hb hkb hH t_v188 (hO.no t_v188 (by decide)) (by omega) (by omega) dX12_goesTurn_198 (fun v198 h9 => ?_)
                            refine t_ist8 hx hb hkb hH hS t_v179 (hO.no t_v179 (by decide)) (by decide) (by omega) (by omega) (by omega) (by omega) (p8_far (by omega) (by omega)) dX12_goesTurn_199 (fun H locs hH hS => ?_)
                            obtain ⟨v200, ev200⟩ : ∃ y : Int32, y = p171_6 + 1 := ⟨_, rfl⟩
                            have tv200 : v200.toInt = p171_6.toInt + (1) := by rw [ev200]; exact add_i rfl (by decide) (by omega) (by omega)
                            refine lv_iinc (v := v200) (lv' := [(6, .int v200), (4, .int p89_4), (0, .ref a0), (1, .int x1), (2, .int x2), (3, .int x3)]) hx hb dX12_goesTurn_200 hl (k := 0) rfl (by rw [ev200]; rfl) (by decide) rfl (fun ls hl => ?_)
                            refine lv_goto (tgt := 171) hx hb dX12_goesTurn_203 (by decide) ?_
                            exact ih171 _ (by omega) v200 _ _ _ rfl (by omega) (by omega) hH hS (lv_sub hl [0, 1, 2, 3, 4, 5] rfl)
                      refine lv_istore (lv' := [(6, .int 0), (4, .int p89_4), (0, .ref a0), (1, .int x1), (2, .int x2), (3, .int x3)]) hx hb dX12_goesTurn_169 hl (by decide) rfl (fun ls hl => ?_)
                      exact J171 _ 0 _ _ _ rfl (by decide) (by decide) hH hS (lv_sub hl [0, 1, 2, 3, 4, 5] rfl)
                    refine lv_if_eq (tgt := 163) hx hb dX12_goesTurn_156 (by decide) (fun c156 => ?_) (fun c156 => ?_)
                    · skip
                      have tc156 := f_eq (k := 0) (by decide) c156
                      refine lv_iconst (v := 0) hx hb dX12_goesTurn_163 (by decide) ?_
                      exact J164 0 _ _ _ (by decide) (by decide) hH hS (lv_sub hl [1, 2, 3, 4, 5] rfl)
                    · skip
                      have tc156 := f_ne (k := 0) (by decide) c156
                      refine lv_iconst (v := 1) hx hb dX12_goesTurn_159 (by decide) ?_
                      refine lv_goto (tgt := 164) hx hb dX12_goesTurn_160 (by decide) ?_
                      exact J164 1 _ _ _ (by decide) (by decide) hH hS (lv_sub hl [1, 2, 3, 4, 5] rfl)
                  refine lv_if_eq (tgt := 141) hx hb dX12_goesTurn_131 (by decide) (fun c131 => ?_) (fun c131 => ?_)
                  · skip
                    have tc131 := f_eq (k := 0) (by decide) c131
                    exact J141  _ _ _  hH hS (lv_sub hl [0, 1, 2, 3, 4, 5] rfl)
                  · skip
                    have tc131 := f_ne (k := 0) (by decide) c131
                    refine lv_aload_n hx hb dX12_goesTurn_134 rfl (lv_at hl 2 rfl) ?_
                    refine lv_iload hx hb dX12_goesTurn_135 (lv_at hl 1 rfl) ?_
                    refine tk_i hH hS hA (tr_V (n := 1) (As := [.int p89_4]) hx hb hml hown hts hkb hH hOX hks hE hS hA (s_M_usesRow l D cs kf T O X a0 hg mq p89_4 t_a0 b_hg (hO.sub (by decide))) kw_1548 kw_1550 ks_80 kw_13 kw_1551 (by decide +kernel) ⟨Nat.le_of_ble_eq_true rfl, Nat.le_of_ble_eq_true rfl⟩ (HT.recv (ci := 12) hkb hH t_a0 (hO.no t_a0 (by decide)) rfl) rfl rfl hl.1 (Nat.le_of_ble_eq_true rfl) dX12_goesTurn_137 ⟨Nat.le_of_ble_eq_true rfl, Nat.le_of_ble_eq_true rfl⟩) (fun v137 u H locs hz9 hH hS => ?_)
                    have hz9 : u = (T, O, X) := hz9
                    subst hz9
                    have hH : HT D cs A T O X H := hH
                    refine W.widen (k := 0) (n := 0) (Nat.le_of_ble_eq_true rfl) (Nat.le_of_ble_eq_true rfl) ?_
                    refine lv_pop hx hb dX12_goesTurn_140 rfl ?_
                    exact J141  _ _ _  hH hS (lv_sub hl [0, 1, 2, 3, 4, 5] rfl)
                · skip
                  have tc107 := f_eq (k := 0) (by decide) c107
                  refine lv_goto (tgt := 206) hx hb dX12_goesTurn_110 (by decide) ?_
                  exact J206  _ _ _  hH hS (lv_sub hl [0, 1, 2, 3, 4] rfl)
          refine lv_istore (lv' := [(4, .int 0), (0, .ref a0), (1, .int x1), (2, .int x2), (3, .int x3)]) hx hb dX12_goesTurn_87 hl (by decide) rfl (fun ls hl => ?_)
          exact J89 _ 0 _ _ _ rfl (by decide) (by decide) hH hS (lv_sub hl [0, 1, 2, 3, 4] rfl)
        · skip
          have tc55 := f_nge (k := 31) (by decide) c55
          refine lv_aload_n hx hb dX12_goesTurn_58 rfl (lv_at hl 1 rfl) ?_
          refine t_get (ci := 12) (lst := ft12 hg mq) (C := RX12) (F := TX12) (N := 36) hx hb hts uX12 hown hkb hH t_a0 (hO.no t_a0 (by decide)) (fun _ h9 => h9) rfl rfl 31 (by decide) rfl kw_1254 (fun _ h9 => h9) dX12_goesTurn_59 (fun v9 h9 => ?_)
          obtain ⟨v59, rfl, t_v59⟩ := h9
          refine lv_bipush (v := 31) hx hb dX12_goesTurn_62 (by decide) ?_
          refine lv_iload_n hx hb dX12_goesTurn_64 rfl (lv_at hl 2 rfl) ?_
          refine lv_imul hx hb dX12_goesTurn_65 ?_
          refine lv_topi (fun v65 ev65 => ?_)
          have tv65 : v65.toInt = (31) * x1.toInt := by rw [ev65]; exact mul_i (by decide : (31 : Int32).toInt = 31) rfl (by omega) (by omega)
          refine lv_iload hx hb dX12_goesTurn_66 (lv_at hl 0 rfl) ?_
          refine lv_iadd hx hb dX12_goesTurn_68 ?_
          refine lv_topi (fun v68 ev68 => ?_)
          have tv68 : v68.toInt = v65.toInt + p51_4.toInt := by rw [ev68]; exact add_i rfl rfl (by omega) (by omega)
          refine lv_aload_n hx hb dX12_goesTurn_69 rfl (lv_at hl 1 rfl) ?_
          refine t_get (ci := 12) (lst := ft12 hg mq) (C := RX12) (F := TX12) (N := 36) hx hb hts uX12 hown hkb hH t_a0 (hO.no t_a0 (by decide)) (fun _ h9 => h9) rfl rfl 1 (by decide) rfl kw_1224 (fun _ h9 => h9) dX12_goesTurn_70 (fun v9 h9 => ?_)
          obtain ⟨v70, rfl, t_v70⟩ := h9
          refine lv_bipush (v := 59) hx hb dX12_goesTurn_73 (by decide) ?_
          refine lv_iload hx hb dX12_goesTurn_75 (lv_at hl 0 rfl) ?_
          refine lv_iadd hx hb dX12_goesTurn_77 ?_
          refine lv_topi (fun v77 ev77 => ?_)
          have tv77 : v77.toInt = (59) + p51_4.toInt := by rw [ev77]; exact add_i (by decide : (59 : Int32).toInt = 59) rfl (by omega) (by omega)
          refine t_ild8 hx hb hkb hH t_v70 (hO.no t_v70 (by decide)) (by decide) (by omega) (by omega) dX12_goesTurn_78 (fun v78 h9 h8 => ?_)
          refine t_ist hx hb hkb hH hS t_v59 (hO.no t_v59 (by decide)) (by omega) (by omega) (cp_0 _) dX12_goesTurn_79 (fun H locs hH hS => ?_)
          obtain ⟨v80, ev80⟩ : ∃ y : Int32, y = p51_4 + 1 := ⟨_, rfl⟩
          have tv80 : v80.toInt = p51_4.toInt + (1) := by rw [ev80]; exact add_i rfl (by decide) (by omega) (by omega)
          refine lv_iinc (v := v80) (lv' := [(4, .int v80), (0, .ref a0), (1, .int x1), (2, .int x2), (3, .int x3)]) hx hb dX12_goesTurn_80 hl (k := 0) rfl (by rw [ev80]; rfl) (by decide) rfl (fun ls hl => ?_)
          refine lv_goto (tgt := 51) hx hb dX12_goesTurn_83 (by decide) ?_
          exact ih51 _ (by omega) v80 _ _ _ rfl (by omega) (by omega) hH hS (lv_sub hl [0, 1, 2, 3, 4] rfl)
    refine lv_istore (lv' := [(4, .int 0), (0, .ref a0), (1, .int x1), (2, .int x2), (3, .int x3)]) hx hb dX12_goesTurn_49 hl (by decide) rfl (fun ls hl => ?_)
    exact J51 _ 0 _ _ _ rfl (by decide) (by decide) hH hS (lv_sub hl [0, 1, 2, 3, 4] rfl)
  · skip
    have tc1 := f_eq (k := 0) (by decide) c1
    refine lv_iload_n hx hb dX12_goesTurn_4 rfl (lv_at hl 3 rfl) ?_
    refine lv_aload_n hx hb dX12_goesTurn_5 rfl (lv_at hl 0 rfl) ?_
    refine t_get (ci := 12) (lst := ft12 hg mq) (C := RX12) (F := TX12) (N := 36) hx hb hts uX12 hown hkb hH t_a0 (hO.no t_a0 (by decide)) (fun _ h9 => h9) rfl rfl 32 (by decide) rfl kw_1255 (fun _ h9 => h9) dX12_goesTurn_6 (fun v9 h9 => ?_)
    obtain ⟨v6, rfl⟩ := h9
    refine lv_icmp_gt (tgt := 13) hx hb dX12_goesTurn_9 (by decide) (fun c9 => ?_) (fun c9 => ?_)
    · skip
      have fuc9 := full_i x3
      have fvc9 := full_i v6
      have tc9 := g_lt c9
      refine lv_aload_n hx hb dX12_goesTurn_13 rfl (lv_at hl 0 rfl) ?_
      refine lv_iload_n hx hb dX12_goesTurn_14 rfl (lv_at hl 3 rfl) ?_
      refine t_put (ci := 12) (lst := ft12 hg mq) (v := .int x3) (ty := tyX12 32) (C := RX12) (F := TX12) (N := 36) hx hb hts uX12 tyX12 tyX12_ok nmX12 hown hkb hH hS t_a0 (hO.no t_a0 (by decide)) (fun _ => Iff.rfl) rfl rfl 32 (by decide) rfl (⟨_, rfl⟩) kw_1255 (fun _ h9 => h9) rfl (tyX12_ok 32 (by decide)) rfl rfl dX12_goesTurn_15 (fun H locs hH hS => ?_)
      refine lv_iconst (v := 0) hx hb dX12_goesTurn_18 (by decide) ?_
      have J21 : ∀ (n : Nat) (p21_4 : Int32) (H : Heap) (locs : List Loc) (ls : Array Slot), (5 - p21_4.toInt).toNat = n → (0 ≤ p21_4.toInt) → (p21_4.toInt ≤ 5) → HT D cs A T O X H → va_S A s.heap H locs → lv_has ls 7 [(4, .int p21_4), (0, .ref a0), (1, .int x1)] → W p l e { frames := 6, cells := 0, slots := 0, locals := 140 } s m [.ref a0, .int x1, .int x2, .int x3].toArray below meth c H locs 0 0 (MQ below (Tv D cs (fun u => u = (T, O, X)) A) [.ref a0, .int x1, .int x2, .int x3].toArray s 0 0 A) (F0 m 21 ls []) := by
        intro n
        induction n using Nat.strongRecOn with
        | _ n ih21 =>
          intro p21_4 H locs ls hm21 l_p21_4 u_p21_4 hH hS hl
          refine lv_iload hx hb dX12_goesTurn_21 (lv_at hl 0 rfl) ?_
          refine lv_iload_n hx hb dX12_goesTurn_23 rfl (lv_at hl 2 rfl) ?_
          refine lv_icmp_ge (tgt := 47) hx hb dX12_goesTurn_24 (by decide) (fun c24 => ?_) (fun c24 => ?_)
          · skip
            have fuc24 := full_i p21_4
            have fvc24 := full_i x1
            have tc24 := g_le c24
            exact te_v hx hb hr hlocks hH hS (rfl) dX12_goesTurn_47
          · skip
            have fuc24 := full_i p21_4
            have fvc24 := full_i x1
            have tc24 := g_nle c24
            refine lv_aload_n hx hb dX12_goesTurn_27 rfl (lv_at hl 1 rfl) ?_
            refine t_get (ci := 12) (lst := ft12 hg mq) (C := RX12) (F := TX12) (N := 36) hx hb hts uX12 hown hkb hH t_a0 (hO.no t_a0 (by decide)) (fun _ h9 => h9) rfl rfl 30 (by decide) rfl kw_1253 (fun _ h9 => h9) dX12_goesTurn_28 (fun v9 h9 => ?_)
            obtain ⟨v28, rfl, t_v28⟩ := h9
            refine lv_iload hx hb dX12_goesTurn_31 (lv_at hl 0 rfl) ?_
            refine lv_aload_n hx hb dX12_goesTurn_33 rfl (lv_at hl 1 rfl) ?_
            refine t_get (ci := 12) (lst := ft12 hg mq) (C := RX12) (F := TX12) (N := 36) hx hb hts uX12 hown hkb hH t_a0 (hO.no t_a0 (by decide)) (fun _ h9 => h9) rfl rfl 29 (by decide) rfl kw_1252 (fun _ h9 => h9) dX12_goesTurn_34 (fun v9 h9 => ?_)
            obtain ⟨v34, rfl, t_v34⟩ := h9
            refine lv_iload hx hb dX12_goesTurn_37 (lv_at hl 0 rfl) ?_
            refine t_ild hx hb hkb hH t_v34 (hO.no t_v34 (by decide)) (by omega) (by omega) dX12_goesTurn_39 (fun v39 h9 => ?_)
            refine t_ist hx hb hkb hH hS t_v28 (hO.no t_v28 (by decide)) (by omega) (by omega) (cp_0 _) dX12_goesTurn_40 (fun H locs hH hS => ?_)
            obtain ⟨v41, ev41⟩ : ∃ y : Int32, y = p21_4 + 1 := ⟨_, rfl⟩
            have tv41 : v41.toInt = p21_4.toInt + (1) := by rw [ev41]; exact add_i rfl (by decide) (by omega) (by omega)
            refine lv_iinc (v := v41) (lv' := [(4, .int v41), (0, .ref a0), (1, .int x1)]) hx hb dX12_goesTurn_41 hl (k := 0) rfl (by rw [ev41]; rfl) (by decide) rfl (fun ls hl => ?_)
            refine lv_goto (tgt := 21) hx hb dX12_goesTurn_44 (by decide) ?_
            exact ih21 _ (by omega) v41 _ _ _ rfl (by omega) (by omega) hH hS (lv_sub hl [0, 1, 2] rfl)
      refine lv_istore (lv' := [(4, .int 0), (0, .ref a0), (1, .int x1), (2, .int x2), (3, .int x3)]) hx hb dX12_goesTurn_19 hl (by decide) rfl (fun ls hl => ?_)
      exact J21 _ 0 _ _ _ rfl (by decide) (by decide) hH hS (lv_sub hl [0, 1, 2] rfl)
    · skip
      have fuc9 := full_i x3
      have fvc9 := full_i v6
      have tc9 := g_nlt c9
      exact te_v hx hb hr hlocks hH hS (rfl) dX12_goesTurn_12
set_option maxHeartbeats 4000000 in
set_option maxRecDepth 100000 in
theorem s_M_goesTurn3 (l : Launch) (D : va_G) (cs : CS) (kf : KF) (T : TF) (O : List Nat) (X : va_W) (a0 hg mq : Nat) (x1 : Int32) (x2 : Int32) (x3 : Int32) (t_a0 : T a0 = some (22, hg, mq)) (b_hg : hg < 90) (l_x1 : 3 ≤ x1.toInt) (u_x1 : x1.toInt ≤ 3) (l_x2 : 0 ≤ x2.toInt) (u_x2 : x2.toInt ≤ 31) (hp : pcn 5 x2.toInt.toNat ≤ 2) (hO : okO T O [1, 8, 9, 22]) : TK l D cs kf yX12_goesTurn cX12_goesTurn 7 none { frames := 7, cells := 0, slots := 0, locals := 166 } [.ref a0, .int x1, .int x2, .int x3] T O X (Tv D cs (fun u => u = (T, O, X))) := by
  refine tk_of (by decide) (Nat.le_of_ble_eq_true rfl) (fun p e s m below meth c ls A H locs hx hb hr hml hown hts hlocks hnm hkb hH hS hA hOX hks hE hl => ?_)
  have hown : s.vm.findClass RX12 = some m.cls := hown
  have hl : lv_has ls 7 [(0, .ref a0), (1, .int x1), (2, .int x2), (3, .int x3)] := hl
  refine lv_iload_n hx hb dX12_goesTurn_0 rfl (lv_at hl 2 rfl) ?_
  refine lv_if_ne (tgt := 48) hx hb dX12_goesTurn_1 (by decide) (fun c1 => ?_) (fun c1 => ?_)
  · skip
    have tc1 := f_ne (k := 0) (by decide) c1
    refine lv_iconst (v := 0) hx hb dX12_goesTurn_48 (by decide) ?_
    have J51 : ∀ (n : Nat) (p51_4 : Int32) (H : Heap) (locs : List Loc) (ls : Array Slot), (31 - p51_4.toInt).toNat = n → (0 ≤ p51_4.toInt) → (p51_4.toInt ≤ 31) → HT D cs A T O X H → va_S A s.heap H locs → lv_has ls 7 [(4, .int p51_4), (0, .ref a0), (1, .int x1), (2, .int x2), (3, .int x3)] → W p l e { frames := 7, cells := 0, slots := 0, locals := 166 } s m [.ref a0, .int x1, .int x2, .int x3].toArray below meth c H locs 0 0 (MQ below (Tv D cs (fun u => u = (T, O, X)) A) [.ref a0, .int x1, .int x2, .int x3].toArray s 0 0 A) (F0 m 51 ls []) := by
      intro n
      induction n using Nat.strongRecOn with
      | _ n ih51 =>
        intro p51_4 H locs ls hm51 l_p51_4 u_p51_4 hH hS hl
        refine lv_iload hx hb dX12_goesTurn_51 (lv_at hl 0 rfl) ?_
        refine lv_bipush (v := 31) hx hb dX12_goesTurn_53 (by decide) ?_
        refine lv_icmp_ge (tgt := 86) hx hb dX12_goesTurn_55 (by decide) (fun c55 => ?_) (fun c55 => ?_)
        · skip
          have tc55 := f_ge (k := 31) (by decide) c55
          refine lv_iconst (v := 0) hx hb dX12_goesTurn_86 (by decide) ?_
          have J89 : ∀ (n : Nat) (p89_4 : Int32) (H : Heap) (locs : List Loc) (ls : Array Slot), (5 - p89_4.toInt).toNat = n → (0 ≤ p89_4.toInt) → (p89_4.toInt ≤ 5) → HT D cs A T O X H → va_S A s.heap H locs → lv_has ls 7 [(4, .int p89_4), (0, .ref a0), (1, .int x1), (2, .int x2), (3, .int x3)] → W p l e { frames := 7, cells := 0, slots := 0, locals := 166 } s m [.ref a0, .int x1, .int x2, .int x3].toArray below meth c H locs 0 0 (MQ below (Tv D cs (fun u => u = (T, O, X)) A) [.ref a0, .int x1, .int x2, .int x3].toArray s 0 0 A) (F0 m 89 ls []) := by
            intro n
            induction n using Nat.strongRecOn with
            | _ n ih89 =>
              intro p89_4 H locs ls hm89 l_p89_4 u_p89_4 hH hS hl
              refine lv_iload hx hb dX12_goesTurn_89 (lv_at hl 0 rfl) ?_
              refine lv_aload_n hx hb dX12_goesTurn_91 rfl (lv_at hl 1 rfl) ?_
              refine t_get (ci := 12) (lst := ft12 hg mq) (C := RX12) (F := TX12) (N := 36) hx hb hts uX12 hown hkb hH t_a0 (hO.no t_a0 (by decide)) (fun _ h9 => h9) rfl rfl 1 (by decide) rfl kw_1224 (fun _ h9 => h9) dX12_goesTurn_92 (fun v9 h9 => ?_)
              obtain ⟨v92, rfl, t_v92⟩ := h9
              refine lv_iconst (v := 2) hx hb dX12_goesTurn_95 (by decide) ?_
              refine t_ild8 hx hb hkb hH t_v92 (hO.no t_v92 (by decide)) (by decide) (by decide) (by decide) dX12_goesTurn_96 (fun v96 h9 h8 => ?_)
              have q9 := (h8 rfl).2 rfl
              subst q9
              have eG9 : (nI (hg % 6)).toInt = (((hg % 6) : Nat) : Int) := nI_toInt (by omega)
              refine lv_icmp_ge (tgt := 212) hx hb dX12_goesTurn_97 (by decide) (fun c97 => ?_) (fun c97 => ?_)
              · skip
                have fuc97 := full_i p89_4
                have fvc97 := full_i (nI (hg % 6))
                have tc97 := g_le c97
                exact te_v hx hb hr hlocks hH hS (rfl) dX12_goesTurn_212
              · skip
                have fuc97 := full_i p89_4
                have fvc97 := full_i (nI (hg % 6))
                have tc97 := g_nle c97
                refine lv_iload_n hx hb dX12_goesTurn_100 rfl (lv_at hl 3 rfl) ?_
                refine lv_i2l hx hb dX12_goesTurn_101 rfl ?_
                refine lv_iload hx hb dX12_goesTurn_102 (lv_at hl 0 rfl) ?_
                refine tk_i hH hS hA (tr_S (n := 2) (As := [.long x2.toInt64, .int p89_4]) hx hb hml hown hts hkb hH hOX hks hE hS hA (s_M_isIn2 l D cs kf T O X x2.toInt64 p89_4  (hO.sub (by decide))) kw_1440 kw_1441 kw_13 kw_1442 (by decide +kernel) ⟨Nat.le_of_ble_eq_true rfl, Nat.le_of_ble_eq_true rfl⟩ rfl rfl hl.1 (Nat.le_of_ble_eq_true rfl) dX12_goesTurn_104 ⟨Nat.le_of_ble_eq_true rfl, Nat.le_of_ble_eq_true rfl⟩) (fun v104 u H locs hz9 hH hS => ?_)
                obtain ⟨rfl, l_v104, u_v104, x_v1040⟩ := hz9
                have hH : HT D cs A T O X H := hH
                refine W.widen (k := 0) (n := 0) (Nat.le_of_ble_eq_true rfl) (Nat.le_of_ble_eq_true rfl) ?_
                have J206 : ∀  (H : Heap) (locs : List Loc) (ls : Array Slot), HT D cs A T O X H → va_S A s.heap H locs → lv_has ls 7 [(4, .int p89_4), (0, .ref a0), (1, .int x1), (2, .int x2), (3, .int x3)] → W p l e { frames := 7, cells := 0, slots := 0, locals := 166 } s m [.ref a0, .int x1, .int x2, .int x3].toArray below meth c H locs 0 0 (MQ below (Tv D cs (fun u => u = (T, O, X)) A) [.ref a0, .int x1, .int x2, .int x3].toArray s 0 0 A) (F0 m 206 ls []) := by
                  intro  H locs ls  hH hS hl
                  obtain ⟨v206, ev206⟩ : ∃ y : Int32, y = p89_4 + 1 := ⟨_, rfl⟩
                  have tv206 : v206.toInt = p89_4.toInt + (1) := by rw [ev206]; exact add_i rfl (by decide) (by omega) (by omega)
                  refine lv_iinc (v := v206) (lv' := [(4, .int v206), (0, .ref a0), (1, .int x1), (2, .int x2), (3, .int x3)]) hx hb dX12_goesTurn_206 hl (k := 0) rfl (by rw [ev206]; rfl) (by decide) rfl (fun ls hl => ?_)
                  refine lv_goto (tgt := 89) hx hb dX12_goesTurn_209 (by decide) ?_
                  exact ih89 _ (by omega) v206 _ _ _ rfl (by omega) (by omega) hH hS (lv_sub hl [0, 1, 2, 3, 4] rfl)
                refine lv_if_ne (tgt := 113) hx hb dX12_goesTurn_107 (by decide) (fun c107 => ?_) (fun c107 => ?_)
                · skip
                  have tc107 := f_ne (k := 0) (by decide) c107
                  refine lv_aload_n hx hb dX12_goesTurn_113 rfl (lv_at hl 1 rfl) ?_
                  refine t_get (ci := 12) (lst := ft12 hg mq) (C := RX12) (F := TX12) (N := 36) hx hb hts uX12 hown hkb hH t_a0 (hO.no t_a0 (by decide)) (fun _ h9 => h9) rfl rfl 29 (by decide) rfl kw_1252 (fun _ h9 => h9) dX12_goesTurn_114 (fun v9 h9 => ?_)
                  obtain ⟨v114, rfl, t_v114⟩ := h9
                  refine lv_iload_n hx hb dX12_goesTurn_117 rfl (lv_at hl 2 rfl) ?_
                  refine lv_iload hx hb dX12_goesTurn_118 (lv_at hl 0 rfl) ?_
                  refine t_ist hx hb hkb hH hS t_v114 (hO.no t_v114 (by decide)) (by omega) (by omega) (cp_0 _) dX12_goesTurn_120 (fun H locs hH hS => ?_)
                  refine lv_aload_n hx hb dX12_goesTurn_121 rfl (lv_at hl 1 rfl) ?_
                  refine lv_iload hx hb dX12_goesTurn_122 (lv_at hl 0 rfl) ?_
                  refine tk_i hH hS hA (tr_V (n := 1) (As := [.int p89_4]) hx hb hml hown hts hkb hH hOX hks hE hS hA (s_M_laysWayOf l D cs kf T O X a0 hg mq p89_4 t_a0 b_hg (by omega) (by omega) (hO.sub (by decide))) kw_1560 kw_1562 ks_82 kw_13 kw_1563 (by decide +kernel) ⟨Nat.le_of_ble_eq_true rfl, Nat.le_of_ble_eq_true rfl⟩ (HT.recv (ci := 12) hkb hH t_a0 (hO.no t_a0 (by decide)) rfl) rfl rfl hl.1 (Nat.le_of_ble_eq_true rfl) dX12_goesTurn_124 ⟨Nat.le_of_ble_eq_true rfl, Nat.le_of_ble_eq_true rfl⟩) (fun v124 u H locs hz9 hH hS => ?_)
                  obtain ⟨rfl, l_v124, u_v124⟩ := hz9
                  have hH : HT D cs A T O X H := hH
                  refine W.widen (k := 0) (n := 0) (Nat.le_of_ble_eq_true rfl) (Nat.le_of_ble_eq_true rfl) ?_
                  refine lv_istore (lv' := [(5, .int v124), (4, .int p89_4), (0, .ref a0), (1, .int x1), (2, .int x2), (3, .int x3)]) hx hb dX12_goesTurn_127 hl (by decide) rfl (fun ls hl => ?_)
                  refine lv_iload hx hb dX12_goesTurn_129 (lv_at hl 0 rfl) ?_
                  have J141 : ∀  (H : Heap) (locs : List Loc) (ls : Array Slot), HT D cs A T O X H → va_S A s.heap H locs → lv_has ls 7 [(5, .int v124), (4, .int p89_4), (0, .ref a0), (1, .int x1), (2, .int x2), (3, .int x3)] → W p l e { frames := 7, cells := 0, slots := 0, locals := 166 } s m [.ref a0, .int x1, .int x2, .int x3].toArray below meth c H locs 0 0 (MQ below (Tv D cs (fun u => u = (T, O, X)) A) [.ref a0, .int x1, .int x2, .int x3].toArray s 0 0 A) (F0 m 141 ls []) := by
                    intro  H locs ls  hH hS hl
                    refine lv_aload_n hx hb dX12_goesTurn_141 rfl (lv_at hl 2 rfl) ?_
                    refine lv_iload_n hx hb dX12_goesTurn_142 rfl (lv_at hl 3 rfl) ?_
                    refine lv_iconst (v := 1) hx hb dX12_goesTurn_143 (by decide) ?_
                    refine lv_iadd hx hb dX12_goesTurn_144 ?_
                    refine lv_topi (fun v144 ev144 => ?_)
                    have tv144 : v144.toInt = x1.toInt + (1) := by rw [ev144]; exact add_i rfl (by decide : (1 : Int32).toInt = 1) (by omega) (by omega)
                    refine lv_iload_n hx hb dX12_goesTurn_145 rfl (lv_at hl 4 rfl) ?_
                    refine lv_iconst (v := 1) hx hb dX12_goesTurn_146 (by decide) ?_
                    refine lv_iload hx hb dX12_goesTurn_147 (lv_at hl 1 rfl) ?_
                    refine lv_ishl hx hb dX12_goesTurn_149 ?_
                    refine lv_topi (fun v149 ev149 => ?_)
                    have tv149 : 1 ≤ v149.toInt ∧ v149.toInt ≤ 16 := by rw [ev149]; exact shl_b 4 (by decide) (by omega) (by omega)
                    refine lv_iconst (v := (-1)) hx hb dX12_goesTurn_150 (by decide) ?_
                    refine lv_ixor hx hb dX12_goesTurn_151 ?_
                    refine lv_topi (fun v151 ev151 => ?_)
                    refine lv_iand hx hb dX12_goesTurn_152 ?_
                    refine lv_topi (fun v152 ev152 => ?_)
                    have tv152 : 0 ≤ v152.toInt ∧ v152.toInt ≤ x2.toInt := by rw [ev152]; exact and_l (by omega)
                    have hp9 := gt_step (by omega) (by omega) (by omega) (by omega) (inF_nz x_v1040 tc107) ev149 ev151 ev152
                    refine lv_iload_n hx hb dX12_goesTurn_153 rfl (lv_at hl 5 rfl) ?_
                    refine lv_iload hx hb dX12_goesTurn_154 (lv_at hl 0 rfl) ?_
                    have J164 : ∀ (k164_0 : Int32) (H : Heap) (locs : List Loc) (ls : Array Slot), (0 ≤ k164_0.toInt) → (k164_0.toInt ≤ 1) → HT D cs A T O X H → va_S A s.heap H locs → lv_has ls 7 [(4, .int p89_4), (0, .ref a0), (1, .int x1), (2, .int x2), (3, .int x3)] → W p l e { frames := 7, cells := 0, slots := 0, locals := 166 } s m [.ref a0, .int x1, .int x2, .int x3].toArray below meth c H locs 0 0 (MQ below (Tv D cs (fun u => u = (T, O, X)) A) [.ref a0, .int x1, .int x2, .int x3].toArray s 0 0 A) (F0 m 164 ls [.int k164_0, .int x3, .int v152, .int v144, .ref a0]) := by
                      intro k164_0 H locs ls l_k164_0 u_k164_0 hH hS hl
                      refine lv_iadd hx hb dX12_goesTurn_164 ?_
                      refine lv_topi (fun v164 ev164 => ?_)
                      refine tk_v hH hS hA (tr_V (n := 3) (As := [.int v144, .int v152, .int v164]) hx hb hml hown hts hkb hH hOX hks hE hS hA (s_M_goesTurn4 l D cs kf T O X a0 hg mq v144 v152 v164 t_a0 b_hg (by omega) (by omega) (by omega) (by omega) (by omega) (hO.sub (by decide))) kw_1756 kw_1758 ks_103 kw_13 kw_1759 (by decide +kernel) ⟨Nat.le_of_ble_eq_true rfl, Nat.le_of_ble_eq_true rfl⟩ (HT.recv (ci := 12) hkb hH t_a0 (hO.no t_a0 (by decide)) rfl) rfl rfl hl.1 (Nat.le_of_ble_eq_true rfl) dX12_goesTurn_165 ⟨Nat.le_of_ble_eq_true rfl, Nat.le_of_ble_eq_true rfl⟩) (fun u H locs hz9 hH hS => ?_)
                      obtain ⟨rfl⟩ := hz9
                      have hH : HT D cs A T O X H := hH
                      refine W.widen (k := 0) (n := 0) (Nat.le_of_ble_eq_true rfl) (Nat.le_of_ble_eq_true rfl) ?_
                      refine lv_iconst (v := 0) hx hb dX12_goesTurn_168 (by decide) ?_
                      have J171 : ∀ (n : Nat) (p171_6 : Int32) (H : Heap) (locs : List Loc) (ls : Array Slot), (31 - p171_6.toInt).toNat = n → (0 ≤ p171_6.toInt) → (p171_6.toInt ≤ 31) → HT D cs A T O X H → va_S A s.heap H locs → lv_has ls 7 [(6, .int p171_6), (4, .int p89_4), (0, .ref a0), (1, .int x1), (2, .int x2), (3, .int x3)] → W p l e { frames := 7, cells := 0, slots := 0, locals := 166 } s m [.ref a0, .int x1, .int x2, .int x3].toArray below meth c H locs 0 0 (MQ below (Tv D cs (fun u => u = (T, O, X)) A) [.ref a0, .int x1, .int x2, .int x3].toArray s 0 0 A) (F0 m 171 ls []) := by
                        intro n
                        induction n using Nat.strongRecOn with
                        | _ n ih171 =>
                          intro p171_6 H locs ls hm171 l_p171_6 u_p171_6 hH hS hl
                          refine lv_iload hx hb dX12_goesTurn_171 (lv_at hl 0 rfl) ?_
                          refine lv_bipush (v := 31) hx hb dX12_goesTurn_173 (by decide) ?_
                          refine lv_icmp_ge (tgt := 206) hx hb dX12_goesTurn_175 (by decide) (fun c175 => ?_) (fun c175 => ?_)
                          · skip
                            have tc175 := f_ge (k := 31) (by decide) c175
                            exact J206  _ _ _  hH hS (lv_sub hl [1, 2, 3, 4, 5] rfl)
                          · skip
                            have tc175 := f_nge (k := 31) (by decide) c175
                            refine lv_aload_n hx hb dX12_goesTurn_178 rfl (lv_at hl 2 rfl) ?_
                            refine t_get (ci := 12) (lst := ft12 hg mq) (C := RX12) (F := TX12) (N := 36) hx hb hts uX12 hown hkb hH t_a0 (hO.no t_a0 (by decide)) (fun _ h9 => h9) rfl rfl 1 (by decide) rfl kw_1224 (fun _ h9 => h9) dX12_goesTurn_179 (fun v9 h9 => ?_)
                            obtain ⟨v179, rfl, t_v179⟩ := h9
                            refine lv_bipush (v := 59) hx hb dX12_goesTurn_182 (by decide) ?_
                            refine lv_iload hx hb dX12_goesTurn_184 (lv_at hl 0 rfl) ?_
                            refine lv_iadd hx hb dX12_goesTurn_186 ?_
                            refine lv_topi (fun v186 ev186 => ?_)
                            have tv186 : v186.toInt = (59) + p171_6.toInt := by rw [ev186]; exact add_i (by decide : (59 : Int32).toInt = 59) rfl (by omega) (by omega)
                            refine lv_aload_n hx hb dX12_goesTurn_187 rfl (lv_at hl 2 rfl) ?_
                            refine t_get (ci := 12) (lst := ft12 hg mq) (C := RX12) (F := TX12) (N := 36) hx hb hts uX12 hown hkb hH t_a0 (hO.no t_a0 (by decide)) (fun _ h9 => h9) rfl rfl 31 (by decide) rfl kw_1254 (fun _ h9 => h9) dX12_goesTurn_188 (fun v9 h9 => ?_)
                            obtain ⟨v188, rfl, t_v188⟩ := h9
                            refine lv_bipush (v := 31) hx hb dX12_goesTurn_191 (by decide) ?_
                            refine lv_iload_n hx hb dX12_goesTurn_193 rfl (lv_at hl 3 rfl) ?_
                            refine lv_imul hx hb dX12_goesTurn_194 ?_
                            refine lv_topi (fun v194 ev194 => ?_)
                            have tv194 : v194.toInt = (31) * x1.toInt := by rw [ev194]; exact mul_i (by decide : (31 : Int32).toInt = 31) rfl (by omega) (by omega)
                            refine lv_iload hx hb dX12_goesTurn_195 (lv_at hl 0 rfl) ?_
                            refine lv_iadd hx hb dX12_goesTurn_197 ?_
                            refine lv_topi (fun v197 ev197 => ?_)
                            have tv197 : v197.toInt = v194.toInt + p171_6.toInt := by rw [ev197]; exact add_i rfl rfl (by omega) (by omega)
                            refine t_ild hx hb hkb hH t_v188 (hO.no t_v188 (by decide)) (by omega) (by omega) dX12_goesTurn_198 (fun v198 h9 => ?_)
                            refine t_ist8 hx hb hkb hH hS t_v179 (hO.no t_v179 (by decide)) (by decide) (by omega) (by omega) (by omega) (by omega) (p8_far (by omega) (by omega)) dX12_goesTurn_199 (fun H locs hH hS => ?_)
                            obtain ⟨v200, ev200⟩ : ∃ y : Int32, y = p171_6 + 1 := ⟨_, rfl⟩
                            have tv200 : v200.toInt = p171_6.toInt + (1) := by rw [ev200]; exact add_i rfl (by decide) (by omega) (by omega)
                            refine lv_iinc (v := v200) (lv' := [(6, .int v200), (4, .int p89_4), (0, .ref a0), (1, .int x1), (2, .int x2), (3, .int x3)]) hx hb dX12_goesTurn_200 hl (k := 0) rfl (by rw [ev200]; rfl) (by decide) rfl (fun ls hl => ?_)
                            refine lv_goto (tgt := 171) hx hb dX12_goesTurn_203 (by decide) ?_
                            exact ih171 _ (by omega) v200 _ _ _ rfl (by omega) (by omega) hH hS (lv_sub hl [0, 1, 2, 3, 4, 5] rfl)
                      refine lv_istore (lv' := [(6, .int 0), (4, .int p89_4), (0, .ref a0), (1, .int x1), (2, .int x2), (3, .int x3)]) hx hb dX12_goesTurn_169 hl (by decide) rfl (fun ls hl => ?_)
                      exact J171 _ 0 _ _ _ rfl (by decide) (by decide) hH hS (lv_sub hl [0, 1, 2, 3, 4, 5] rfl)
                    refine lv_if_eq (tgt := 163) hx hb dX12_goesTurn_156 (by decide) (fun c156 => ?_) (fun c156 => ?_)
                    · skip
                      have tc156 := f_eq (k := 0) (by decide) c156
                      refine lv_iconst (v := 0) hx hb dX12_goesTurn_163 (by decide) ?_
                      exact J164 0 _ _ _ (by decide) (by decide) hH hS (lv_sub hl [1, 2, 3, 4, 5] rfl)
                    · skip
                      have tc156 := f_ne (k := 0) (by decide) c156
                      refine lv_iconst (v := 1) hx hb dX12_goesTurn_159 (by decide) ?_
                      refine lv_goto (tgt := 164) hx hb dX12_goesTurn_160 (by decide) ?_
                      exact J164 1 _ _ _ (by decide) (by decide) hH hS (lv_sub hl [1, 2, 3, 4, 5] rfl)
                  refine lv_if_eq (tgt := 141) hx hb dX12_goesTurn_131 (by decide) (fun c131 => ?_) (fun c131 => ?_)
                  · skip
                    have tc131 := f_eq (k := 0) (by decide) c131
                    exact J141  _ _ _  hH hS (lv_sub hl [0, 1, 2, 3, 4, 5] rfl)
                  · skip
                    have tc131 := f_ne (k := 0) (by decide) c131
                    refine lv_aload_n hx hb dX12_goesTurn_134 rfl (lv_at hl 2 rfl) ?_
                    refine lv_iload hx hb dX12_goesTurn_135 (lv_at hl 1 rfl) ?_
                    refine tk_i hH hS hA (tr_V (n := 1) (As := [.int p89_4]) hx hb hml hown hts hkb hH hOX hks hE hS hA (s_M_usesRow l D cs kf T O X a0 hg mq p89_4 t_a0 b_hg (hO.sub (by decide))) kw_1548 kw_1550 ks_80 kw_13 kw_1551 (by decide +kernel) ⟨Nat.le_of_ble_eq_true rfl, Nat.le_of_ble_eq_true rfl⟩ (HT.recv (ci := 12) hkb hH t_a0 (hO.no t_a0 (by decide)) rfl) rfl rfl hl.1 (Nat.le_of_ble_eq_true rfl) dX12_goesTurn_137 ⟨Nat.le_of_ble_eq_true rfl, Nat.le_of_ble_eq_true rfl⟩) (fun v137 u H locs hz9 hH hS => ?_)
                    have hz9 : u = (T, O, X) := hz9
                    subst hz9
                    have hH : HT D cs A T O X H := hH
                    refine W.widen (k := 0) (n := 0) (Nat.le_of_ble_eq_true rfl) (Nat.le_of_ble_eq_true rfl) ?_
                    refine lv_pop hx hb dX12_goesTurn_140 rfl ?_
                    exact J141  _ _ _  hH hS (lv_sub hl [0, 1, 2, 3, 4, 5] rfl)
                · skip
                  have tc107 := f_eq (k := 0) (by decide) c107
                  refine lv_goto (tgt := 206) hx hb dX12_goesTurn_110 (by decide) ?_
                  exact J206  _ _ _  hH hS (lv_sub hl [0, 1, 2, 3, 4] rfl)
          refine lv_istore (lv' := [(4, .int 0), (0, .ref a0), (1, .int x1), (2, .int x2), (3, .int x3)]) hx hb dX12_goesTurn_87 hl (by decide) rfl (fun ls hl => ?_)
          exact J89 _ 0 _ _ _ rfl (by decide) (by decide) hH hS (lv_sub hl [0, 1, 2, 3, 4] rfl)
        · skip
          have tc55 := f_nge (k := 31) (by decide) c55
          refine lv_aload_n hx hb dX12_goesTurn_58 rfl (lv_at hl 1 rfl) ?_
          refine t_get (ci := 12) (lst := ft12 hg mq) (C := RX12) (F := TX12) (N := 36) hx hb hts uX12 hown hkb hH t_a0 (hO.no t_a0 (by decide)) (fun _ h9 => h9) rfl rfl 31 (by decide) rfl kw_1254 (fun _ h9 => h9) dX12_goesTurn_59 (fun v9 h9 => ?_)
          obtain ⟨v59, rfl, t_v59⟩ := h9
          refine lv_bipush (v := 31) hx hb dX12_goesTurn_62 (by decide) ?_
          refine lv_iload_n hx hb dX12_goesTurn_64 rfl (lv_at hl 2 rfl) ?_
          refine lv_imul hx hb dX12_goesTurn_65 ?_
          refine lv_topi (fun v65 ev65 => ?_)
          have tv65 : v65.toInt = (31) * x1.toInt := by rw [ev65]; exact mul_i (by decide : (31 : Int32).toInt = 31) rfl (by omega) (by omega)
          refine lv_iload hx hb dX12_goesTurn_66 (lv_at hl 0 rfl) ?_
          refine lv_iadd hx hb dX12_goesTurn_68 ?_
          refine lv_topi (fun v68 ev68 => ?_)
          have tv68 : v68.toInt = v65.toInt + p51_4.toInt := by rw [ev68]; exact add_i rfl rfl (by omega) (by omega)
          refine lv_aload_n hx hb dX12_goesTurn_69 rfl (lv_at hl 1 rfl) ?_
          refine t_get (ci := 12) (lst := ft12 hg mq) (C := RX12) (F := TX12) (N := 36) hx hb hts uX12 hown hkb hH t_a0 (hO.no t_a0 (by decide)) (fun _ h9 => h9) rfl rfl 1 (by decide) rfl kw_1224 (fun _ h9 => h9) dX12_goesTurn_70 (fun v9 h9 => ?_)
          obtain ⟨v70, rfl, t_v70⟩ := h9
          refine lv_bipush (v := 59) hx hb dX12_goesTurn_73 (by decide) ?_
          refine lv_iload hx hb dX12_goesTurn_75 (lv_at hl 0 rfl) ?_
          refine lv_iadd hx hb dX12_goesTurn_77 ?_
          refine lv_topi (fun v77 ev77 => ?_)
          have tv77 : v77.toInt = (59) + p51_4.toInt := by rw [ev77]; exact add_i (by decide : (59 : Int32).toInt = 59) rfl (by omega) (by omega)
          refine t_ild8 hx hb hkb hH t_v70 (hO.no t_v70 (by decide)) (by decide) (by omega) (by omega) dX12_goesTurn_78 (fun v78 h9 h8 => ?_)
          refine t_ist hx hb hkb hH hS t_v59 (hO.no t_v59 (by decide)) (by omega) (by omega) (cp_0 _) dX12_goesTurn_79 (fun H locs hH hS => ?_)
          obtain ⟨v80, ev80⟩ : ∃ y : Int32, y = p51_4 + 1 := ⟨_, rfl⟩
          have tv80 : v80.toInt = p51_4.toInt + (1) := by rw [ev80]; exact add_i rfl (by decide) (by omega) (by omega)
          refine lv_iinc (v := v80) (lv' := [(4, .int v80), (0, .ref a0), (1, .int x1), (2, .int x2), (3, .int x3)]) hx hb dX12_goesTurn_80 hl (k := 0) rfl (by rw [ev80]; rfl) (by decide) rfl (fun ls hl => ?_)
          refine lv_goto (tgt := 51) hx hb dX12_goesTurn_83 (by decide) ?_
          exact ih51 _ (by omega) v80 _ _ _ rfl (by omega) (by omega) hH hS (lv_sub hl [0, 1, 2, 3, 4] rfl)
    refine lv_istore (lv' := [(4, .int 0), (0, .ref a0), (1, .int x1), (2, .int x2), (3, .int x3)]) hx hb dX12_goesTurn_49 hl (by decide) rfl (fun ls hl => ?_)
    exact J51 _ 0 _ _ _ rfl (by decide) (by decide) hH hS (lv_sub hl [0, 1, 2, 3, 4] rfl)
  · skip
    have tc1 := f_eq (k := 0) (by decide) c1
    refine lv_iload_n hx hb dX12_goesTurn_4 rfl (lv_at hl 3 rfl) ?_
    refine lv_aload_n hx hb dX12_goesTurn_5 rfl (lv_at hl 0 rfl) ?_
    refine t_get (ci := 12) (lst := ft12 hg mq) (C := RX12) (F := TX12) (N := 36) hx hb hts uX12 hown hkb hH t_a0 (hO.no t_a0 (by decide)) (fun _ h9 => h9) rfl rfl 32 (by decide) rfl kw_1255 (fun _ h9 => h9) dX12_goesTurn_6 (fun v9 h9 => ?_)
    obtain ⟨v6, rfl⟩ := h9
    refine lv_icmp_gt (tgt := 13) hx hb dX12_goesTurn_9 (by decide) (fun c9 => ?_) (fun c9 => ?_)
    · skip
      have fuc9 := full_i x3
      have fvc9 := full_i v6
      have tc9 := g_lt c9
      refine lv_aload_n hx hb dX12_goesTurn_13 rfl (lv_at hl 0 rfl) ?_
      refine lv_iload_n hx hb dX12_goesTurn_14 rfl (lv_at hl 3 rfl) ?_
      refine t_put (ci := 12) (lst := ft12 hg mq) (v := .int x3) (ty := tyX12 32) (C := RX12) (F := TX12) (N := 36) hx hb hts uX12 tyX12 tyX12_ok nmX12 hown hkb hH hS t_a0 (hO.no t_a0 (by decide)) (fun _ => Iff.rfl) rfl rfl 32 (by decide) rfl (⟨_, rfl⟩) kw_1255 (fun _ h9 => h9) rfl (tyX12_ok 32 (by decide)) rfl rfl dX12_goesTurn_15 (fun H locs hH hS => ?_)
      refine lv_iconst (v := 0) hx hb dX12_goesTurn_18 (by decide) ?_
      have J21 : ∀ (n : Nat) (p21_4 : Int32) (H : Heap) (locs : List Loc) (ls : Array Slot), (3 - p21_4.toInt).toNat = n → (0 ≤ p21_4.toInt) → (p21_4.toInt ≤ 3) → HT D cs A T O X H → va_S A s.heap H locs → lv_has ls 7 [(4, .int p21_4), (0, .ref a0), (1, .int x1)] → W p l e { frames := 7, cells := 0, slots := 0, locals := 166 } s m [.ref a0, .int x1, .int x2, .int x3].toArray below meth c H locs 0 0 (MQ below (Tv D cs (fun u => u = (T, O, X)) A) [.ref a0, .int x1, .int x2, .int x3].toArray s 0 0 A) (F0 m 21 ls []) := by
        intro n
        induction n using Nat.strongRecOn with
        | _ n ih21 =>
          intro p21_4 H locs ls hm21 l_p21_4 u_p21_4 hH hS hl
          refine lv_iload hx hb dX12_goesTurn_21 (lv_at hl 0 rfl) ?_
          refine lv_iload_n hx hb dX12_goesTurn_23 rfl (lv_at hl 2 rfl) ?_
          refine lv_icmp_ge (tgt := 47) hx hb dX12_goesTurn_24 (by decide) (fun c24 => ?_) (fun c24 => ?_)
          · skip
            have fuc24 := full_i p21_4
            have fvc24 := full_i x1
            have tc24 := g_le c24
            exact te_v hx hb hr hlocks hH hS (rfl) dX12_goesTurn_47
          · skip
            have fuc24 := full_i p21_4
            have fvc24 := full_i x1
            have tc24 := g_nle c24
            refine lv_aload_n hx hb dX12_goesTurn_27 rfl (lv_at hl 1 rfl) ?_
            refine t_get (ci := 12) (lst := ft12 hg mq) (C := RX12) (F := TX12) (N := 36) hx hb hts uX12 hown hkb hH t_a0 (hO.no t_a0 (by decide)) (fun _ h9 => h9) rfl rfl 30 (by decide) rfl kw_1253 (fun _ h9 => h9) dX12_goesTurn_28 (fun v9 h9 => ?_)
            obtain ⟨v28, rfl, t_v28⟩ := h9
            refine lv_iload hx hb dX12_goesTurn_31 (lv_at hl 0 rfl) ?_
            refine lv_aload_n hx hb dX12_goesTurn_33 rfl (lv_at hl 1 rfl) ?_
            refine t_get (ci := 12) (lst := ft12 hg mq) (C := RX12) (F := TX12) (N := 36) hx hb hts uX12 hown hkb hH t_a0 (hO.no t_a0 (by decide)) (fun _ h9 => h9) rfl rfl 29 (by decide) rfl kw_1252 (fun _ h9 => h9) dX12_goesTurn_34 (fun v9 h9 => ?_)
            obtain ⟨v34, rfl, t_v34⟩ := h9
            refine lv_iload hx hb dX12_goesTurn_37 (lv_at hl 0 rfl) ?_
            refine t_ild hx hb hkb hH t_v34 (hO.no t_v34 (by decide)) (by omega) (by omega) dX12_goesTurn_39 (fun v39 h9 => ?_)
            refine t_ist hx hb hkb hH hS t_v28 (hO.no t_v28 (by decide)) (by omega) (by omega) (cp_0 _) dX12_goesTurn_40 (fun H locs hH hS => ?_)
            obtain ⟨v41, ev41⟩ : ∃ y : Int32, y = p21_4 + 1 := ⟨_, rfl⟩
            have tv41 : v41.toInt = p21_4.toInt + (1) := by rw [ev41]; exact add_i rfl (by decide) (by omega) (by omega)
            refine lv_iinc (v := v41) (lv' := [(4, .int v41), (0, .ref a0), (1, .int x1)]) hx hb dX12_goesTurn_41 hl (k := 0) rfl (by rw [ev41]; rfl) (by decide) rfl (fun ls hl => ?_)
            refine lv_goto (tgt := 21) hx hb dX12_goesTurn_44 (by decide) ?_
            exact ih21 _ (by omega) v41 _ _ _ rfl (by omega) (by omega) hH hS (lv_sub hl [0, 1, 2] rfl)
      refine lv_istore (lv' := [(4, .int 0), (0, .ref a0), (1, .int x1), (2, .int x2), (3, .int x3)]) hx hb dX12_goesTurn_19 hl (by decide) rfl (fun ls hl => ?_)
      exact J21 _ 0 _ _ _ rfl (by decide) (by decide) hH hS (lv_sub hl [0, 1, 2] rfl)
    · skip
      have fuc9 := full_i x3
      have fvc9 := full_i v6
      have tc9 := g_nlt c9
      exact te_v hx hb hr hlocks hH hS (rfl) dX12_goesTurn_12
set_option maxHeartbeats 4000000 in
set_option maxRecDepth 100000 in
theorem s_M_goesTurn2 (l : Launch) (D : va_G) (cs : CS) (kf : KF) (T : TF) (O : List Nat) (X : va_W) (a0 hg mq : Nat) (x1 : Int32) (x2 : Int32) (x3 : Int32) (t_a0 : T a0 = some (22, hg, mq)) (b_hg : hg < 90) (l_x1 : 2 ≤ x1.toInt) (u_x1 : x1.toInt ≤ 2) (l_x2 : 0 ≤ x2.toInt) (u_x2 : x2.toInt ≤ 31) (hp : pcn 5 x2.toInt.toNat ≤ 3) (hO : okO T O [1, 8, 9, 22]) : TK l D cs kf yX12_goesTurn cX12_goesTurn 7 none { frames := 8, cells := 0, slots := 0, locals := 192 } [.ref a0, .int x1, .int x2, .int x3] T O X (Tv D cs (fun u => u = (T, O, X))) := by
  refine tk_of (by decide) (Nat.le_of_ble_eq_true rfl) (fun p e s m below meth c ls A H locs hx hb hr hml hown hts hlocks hnm hkb hH hS hA hOX hks hE hl => ?_)
  have hown : s.vm.findClass RX12 = some m.cls := hown
  have hl : lv_has ls 7 [(0, .ref a0), (1, .int x1), (2, .int x2), (3, .int x3)] := hl
  refine lv_iload_n hx hb dX12_goesTurn_0 rfl (lv_at hl 2 rfl) ?_
  refine lv_if_ne (tgt := 48) hx hb dX12_goesTurn_1 (by decide) (fun c1 => ?_) (fun c1 => ?_)
  · skip
    have tc1 := f_ne (k := 0) (by decide) c1
    refine lv_iconst (v := 0) hx hb dX12_goesTurn_48 (by decide) ?_
    have J51 : ∀ (n : Nat) (p51_4 : Int32) (H : Heap) (locs : List Loc) (ls : Array Slot), (31 - p51_4.toInt).toNat = n → (0 ≤ p51_4.toInt) → (p51_4.toInt ≤ 31) → HT D cs A T O X H → va_S A s.heap H locs → lv_has ls 7 [(4, .int p51_4), (0, .ref a0), (1, .int x1), (2, .int x2), (3, .int x3)] → W p l e { frames := 8, cells := 0, slots := 0, locals := 192 } s m [.ref a0, .int x1, .int x2, .int x3].toArray below meth c H locs 0 0 (MQ below (Tv D cs (fun u => u = (T, O, X)) A) [.ref a0, .int x1, .int x2, .int x3].toArray s 0 0 A) (F0 m 51 ls []) := by
      intro n
      induction n using Nat.strongRecOn with
      | _ n ih51 =>
        intro p51_4 H locs ls hm51 l_p51_4 u_p51_4 hH hS hl
        refine lv_iload hx hb dX12_goesTurn_51 (lv_at hl 0 rfl) ?_
        refine lv_bipush (v := 31) hx hb dX12_goesTurn_53 (by decide) ?_
        refine lv_icmp_ge (tgt := 86) hx hb dX12_goesTurn_55 (by decide) (fun c55 => ?_) (fun c55 => ?_)
        · skip
          have tc55 := f_ge (k := 31) (by decide) c55
          refine lv_iconst (v := 0) hx hb dX12_goesTurn_86 (by decide) ?_
          have J89 : ∀ (n : Nat) (p89_4 : Int32) (H : Heap) (locs : List Loc) (ls : Array Slot), (5 - p89_4.toInt).toNat = n → (0 ≤ p89_4.toInt) → (p89_4.toInt ≤ 5) → HT D cs A T O X H → va_S A s.heap H locs → lv_has ls 7 [(4, .int p89_4), (0, .ref a0), (1, .int x1), (2, .int x2), (3, .int x3)] → W p l e { frames := 8, cells := 0, slots := 0, locals := 192 } s m [.ref a0, .int x1, .int x2, .int x3].toArray below meth c H locs 0 0 (MQ below (Tv D cs (fun u => u = (T, O, X)) A) [.ref a0, .int x1, .int x2, .int x3].toArray s 0 0 A) (F0 m 89 ls []) := by
            intro n
            induction n using Nat.strongRecOn with
            | _ n ih89 =>
              intro p89_4 H locs ls hm89 l_p89_4 u_p89_4 hH hS hl
              refine lv_iload hx hb dX12_goesTurn_89 (lv_at hl 0 rfl) ?_
              refine lv_aload_n hx hb dX12_goesTurn_91 rfl (lv_at hl 1 rfl) ?_
              refine t_get (ci := 12) (lst := ft12 hg mq) (C := RX12) (F := TX12) (N := 36) hx hb hts uX12 hown hkb hH t_a0 (hO.no t_a0 (by decide)) (fun _ h9 => h9) rfl rfl 1 (by decide) rfl kw_1224 (fun _ h9 => h9) dX12_goesTurn_92 (fun v9 h9 => ?_)
              obtain ⟨v92, rfl, t_v92⟩ := h9
              refine lv_iconst (v := 2) hx hb dX12_goesTurn_95 (by decide) ?_
              refine t_ild8 hx hb hkb hH t_v92 (hO.no t_v92 (by decide)) (by decide) (by decide) (by decide) dX12_goesTurn_96 (fun v96 h9 h8 => ?_)
              have q9 := (h8 rfl).2 rfl
              subst q9
              have eG9 : (nI (hg % 6)).toInt = (((hg % 6) : Nat) : Int) := nI_toInt (by omega)
              refine lv_icmp_ge (tgt := 212) hx hb dX12_goesTurn_97 (by decide) (fun c97 => ?_) (fun c97 => ?_)
              · skip
                have fuc97 := full_i p89_4
                have fvc97 := full_i (nI (hg % 6))
                have tc97 := g_le c97
                exact te_v hx hb hr hlocks hH hS (rfl) dX12_goesTurn_212
              · skip
                have fuc97 := full_i p89_4
                have fvc97 := full_i (nI (hg % 6))
                have tc97 := g_nle c97
                refine lv_iload_n hx hb dX12_goesTurn_100 rfl (lv_at hl 3 rfl) ?_
                refine lv_i2l hx hb dX12_goesTurn_101 rfl ?_
                refine lv_iload hx hb dX12_goesTurn_102 (lv_at hl 0 rfl) ?_
                refine tk_i hH hS hA (tr_S (n := 2) (As := [.long x2.toInt64, .int p89_4]) hx hb hml hown hts hkb hH hOX hks hE hS hA (s_M_isIn2 l D cs kf T O X x2.toInt64 p89_4  (hO.sub (by decide))) kw_1440 kw_1441 kw_13 kw_1442 (by decide +kernel) ⟨Nat.le_of_ble_eq_true rfl, Nat.le_of_ble_eq_true rfl⟩ rfl rfl hl.1 (Nat.le_of_ble_eq_true rfl) dX12_goesTurn_104 ⟨Nat.le_of_ble_eq_true rfl, Nat.le_of_ble_eq_true rfl⟩) (fun v104 u H locs hz9 hH hS => ?_)
                obtain ⟨rfl, l_v104, u_v104, x_v1040⟩ := hz9
                have hH : HT D cs A T O X H := hH
                refine W.widen (k := 0) (n := 0) (Nat.le_of_ble_eq_true rfl) (Nat.le_of_ble_eq_true rfl) ?_
                have J206 : ∀  (H : Heap) (locs : List Loc) (ls : Array Slot), HT D cs A T O X H → va_S A s.heap H locs → lv_has ls 7 [(4, .int p89_4), (0, .ref a0), (1, .int x1), (2, .int x2), (3, .int x3)] → W p l e { frames := 8, cells := 0, slots := 0, locals := 192 } s m [.ref a0, .int x1, .int x2, .int x3].toArray below meth c H locs 0 0 (MQ below (Tv D cs (fun u => u = (T, O, X)) A) [.ref a0, .int x1, .int x2, .int x3].toArray s 0 0 A) (F0 m 206 ls []) := by
                  intro  H locs ls  hH hS hl
                  obtain ⟨v206, ev206⟩ : ∃ y : Int32, y = p89_4 + 1 := ⟨_, rfl⟩
                  have tv206 : v206.toInt = p89_4.toInt + (1) := by rw [ev206]; exact add_i rfl (by decide) (by omega) (by omega)
                  refine lv_iinc (v := v206) (lv' := [(4, .int v206), (0, .ref a0), (1, .int x1), (2, .int x2), (3, .int x3)]) hx hb dX12_goesTurn_206 hl (k := 0) rfl (by rw [ev206]; rfl) (by decide) rfl (fun ls hl => ?_)
                  refine lv_goto (tgt := 89) hx hb dX12_goesTurn_209 (by decide) ?_
                  exact ih89 _ (by omega) v206 _ _ _ rfl (by omega) (by omega) hH hS (lv_sub hl [0, 1, 2, 3, 4] rfl)
                refine lv_if_ne (tgt := 113) hx hb dX12_goesTurn_107 (by decide) (fun c107 => ?_) (fun c107 => ?_)
                · skip
                  have tc107 := f_ne (k := 0) (by decide) c107
                  refine lv_aload_n hx hb dX12_goesTurn_113 rfl (lv_at hl 1 rfl) ?_
                  refine t_get (ci := 12) (lst := ft12 hg mq) (C := RX12) (F := TX12) (N := 36) hx hb hts uX12 hown hkb hH t_a0 (hO.no t_a0 (by decide)) (fun _ h9 => h9) rfl rfl 29 (by decide) rfl kw_1252 (fun _ h9 => h9) dX12_goesTurn_114 (fun v9 h9 => ?_)
                  obtain ⟨v114, rfl, t_v114⟩ := h9
                  refine lv_iload_n hx hb dX12_goesTurn_117 rfl (lv_at hl 2 rfl) ?_
                  refine lv_iload hx hb dX12_goesTurn_118 (lv_at hl 0 rfl) ?_
                  refine t_ist hx hb hkb hH hS t_v114 (hO.no t_v114 (by decide)) (by omega) (by omega) (cp_0 _) dX12_goesTurn_120 (fun H locs hH hS => ?_)
                  refine lv_aload_n hx hb dX12_goesTurn_121 rfl (lv_at hl 1 rfl) ?_
                  refine lv_iload hx hb dX12_goesTurn_122 (lv_at hl 0 rfl) ?_
                  refine tk_i hH hS hA (tr_V (n := 1) (As := [.int p89_4]) hx hb hml hown hts hkb hH hOX hks hE hS hA (s_M_laysWayOf l D cs kf T O X a0 hg mq p89_4 t_a0 b_hg (by omega) (by omega) (hO.sub (by decide))) kw_1560 kw_1562 ks_82 kw_13 kw_1563 (by decide +kernel) ⟨Nat.le_of_ble_eq_true rfl, Nat.le_of_ble_eq_true rfl⟩ (HT.recv (ci := 12) hkb hH t_a0 (hO.no t_a0 (by decide)) rfl) rfl rfl hl.1 (Nat.le_of_ble_eq_true rfl) dX12_goesTurn_124 ⟨Nat.le_of_ble_eq_true rfl, Nat.le_of_ble_eq_true rfl⟩) (fun v124 u H locs hz9 hH hS => ?_)
                  obtain ⟨rfl, l_v124, u_v124⟩ := hz9
                  have hH : HT D cs A T O X H := hH
                  refine W.widen (k := 0) (n := 0) (Nat.le_of_ble_eq_true rfl) (Nat.le_of_ble_eq_true rfl) ?_
                  refine lv_istore (lv' := [(5, .int v124), (4, .int p89_4), (0, .ref a0), (1, .int x1), (2, .int x2), (3, .int x3)]) hx hb dX12_goesTurn_127 hl (by decide) rfl (fun ls hl => ?_)
                  refine lv_iload hx hb dX12_goesTurn_129 (lv_at hl 0 rfl) ?_
                  have J141 : ∀  (H : Heap) (locs : List Loc) (ls : Array Slot), HT D cs A T O X H → va_S A s.heap H locs → lv_has ls 7 [(5, .int v124), (4, .int p89_4), (0, .ref a0), (1, .int x1), (2, .int x2), (3, .int x3)] → W p l e { frames := 8, cells := 0, slots := 0, locals := 192 } s m [.ref a0, .int x1, .int x2, .int x3].toArray below meth c H locs 0 0 (MQ below (Tv D cs (fun u => u = (T, O, X)) A) [.ref a0, .int x1, .int x2, .int x3].toArray s 0 0 A) (F0 m 141 ls []) := by
                    intro  H locs ls  hH hS hl
                    refine lv_aload_n hx hb dX12_goesTurn_141 rfl (lv_at hl 2 rfl) ?_
                    refine lv_iload_n hx hb dX12_goesTurn_142 rfl (lv_at hl 3 rfl) ?_
                    refine lv_iconst (v := 1) hx hb dX12_goesTurn_143 (by decide) ?_
                    refine lv_iadd hx hb dX12_goesTurn_144 ?_
                    refine lv_topi (fun v144 ev144 => ?_)
                    have tv144 : v144.toInt = x1.toInt + (1) := by rw [ev144]; exact add_i rfl (by decide : (1 : Int32).toInt = 1) (by omega) (by omega)
                    refine lv_iload_n hx hb dX12_goesTurn_145 rfl (lv_at hl 4 rfl) ?_
                    refine lv_iconst (v := 1) hx hb dX12_goesTurn_146 (by decide) ?_
                    refine lv_iload hx hb dX12_goesTurn_147 (lv_at hl 1 rfl) ?_
                    refine lv_ishl hx hb dX12_goesTurn_149 ?_
                    refine lv_topi (fun v149 ev149 => ?_)
                    have tv149 : 1 ≤ v149.toInt ∧ v149.toInt ≤ 16 := by rw [ev149]; exact shl_b 4 (by decide) (by omega) (by omega)
                    refine lv_iconst (v := (-1)) hx hb dX12_goesTurn_150 (by decide) ?_
                    refine lv_ixor hx hb dX12_goesTurn_151 ?_
                    refine lv_topi (fun v151 ev151 => ?_)
                    refine lv_iand hx hb dX12_goesTurn_152 ?_
                    refine lv_topi (fun v152 ev152 => ?_)
                    have tv152 : 0 ≤ v152.toInt ∧ v152.toInt ≤ x2.toInt := by rw [ev152]; exact and_l (by omega)
                    have hp9 := gt_step (by omega) (by omega) (by omega) (by omega) (inF_nz x_v1040 tc107) ev149 ev151 ev152
                    refine lv_iload_n hx hb dX12_goesTurn_153 rfl (lv_at hl 5 rfl) ?_
                    refine lv_iload hx hb dX12_goesTurn_154 (lv_at hl 0 rfl) ?_
                    have J164 : ∀ (k164_0 : Int32) (H : Heap) (locs : List Loc) (ls : Array Slot), (0 ≤ k164_0.toInt) → (k164_0.toInt ≤ 1) → HT D cs A T O X H → va_S A s.heap H locs → lv_has ls 7 [(4, .int p89_4), (0, .ref a0), (1, .int x1), (2, .int x2), (3, .int x3)] → W p l e { frames := 8, cells := 0, slots := 0, locals := 192 } s m [.ref a0, .int x1, .int x2, .int x3].toArray below meth c H locs 0 0 (MQ below (Tv D cs (fun u => u = (T, O, X)) A) [.ref a0, .int x1, .int x2, .int x3].toArray s 0 0 A) (F0 m 164 ls [.int k164_0, .int x3, .int v152, .int v144, .ref a0]) := by
                      intro k164_0 H locs ls l_k164_0 u_k164_0 hH hS hl
                      refine lv_iadd hx hb dX12_goesTurn_164 ?_
                      refine lv_topi (fun v164 ev164 => ?_)
                      refine tk_v hH hS hA (tr_V (n := 3) (As := [.int v144, .int v152, .int v164]) hx hb hml hown hts hkb hH hOX hks hE hS hA (s_M_goesTurn3 l D cs kf T O X a0 hg mq v144 v152 v164 t_a0 b_hg (by omega) (by omega) (by omega) (by omega) (by omega) (hO.sub (by decide))) kw_1756 kw_1758 ks_103 kw_13 kw_1759 (by decide +kernel) ⟨Nat.le_of_ble_eq_true rfl, Nat.le_of_ble_eq_true rfl⟩ (HT.recv (ci := 12) hkb hH t_a0 (hO.no t_a0 (by decide)) rfl) rfl rfl hl.1 (Nat.le_of_ble_eq_true rfl) dX12_goesTurn_165 ⟨Nat.le_of_ble_eq_true rfl, Nat.le_of_ble_eq_true rfl⟩) (fun u H locs hz9 hH hS => ?_)
                      obtain ⟨rfl⟩ := hz9
                      have hH : HT D cs A T O X H := hH
                      refine W.widen (k := 0) (n := 0) (Nat.le_of_ble_eq_true rfl) (Nat.le_of_ble_eq_true rfl) ?_
                      refine lv_iconst (v := 0) hx hb dX12_goesTurn_168 (by decide) ?_
                      have J171 : ∀ (n : Nat) (p171_6 : Int32) (H : Heap) (locs : List Loc) (ls : Array Slot), (31 - p171_6.toInt).toNat = n → (0 ≤ p171_6.toInt) → (p171_6.toInt ≤ 31) → HT D cs A T O X H → va_S A s.heap H locs → lv_has ls 7 [(6, .int p171_6), (4, .int p89_4), (0, .ref a0), (1, .int x1), (2, .int x2), (3, .int x3)] → W p l e { frames := 8, cells := 0, slots := 0, locals := 192 } s m [.ref a0, .int x1, .int x2, .int x3].toArray below meth c H locs 0 0 (MQ below (Tv D cs (fun u => u = (T, O, X)) A) [.ref a0, .int x1, .int x2, .int x3].toArray s 0 0 A) (F0 m 171 ls []) := by
                        intro n
                        induction n using Nat.strongRecOn with
                        | _ n ih171 =>
                          intro p171_6 H locs ls hm171 l_p171_6 u_p171_6 hH hS hl
                          refine lv_iload hx hb dX12_goesTurn_171 (lv_at hl 0 rfl) ?_
                          refine lv_bipush (v := 31) hx hb dX12_goesTurn_173 (by decide) ?_
                          refine lv_icmp_ge (tgt := 206) hx hb dX12_goesTurn_175 (by decide) (fun c175 => ?_) (fun c175 => ?_)
                          · skip
                            have tc175 := f_ge (k := 31) (by decide) c175
                            exact J206  _ _ _  hH hS (lv_sub hl [1, 2, 3, 4, 5] rfl)
                          · skip
                            have tc175 := f_nge (k := 31) (by decide) c175
                            refine lv_aload_n hx hb dX12_goesTurn_178 rfl (lv_at hl 2 rfl) ?_
                            refine t_get (ci := 12) (lst := ft12 hg mq) (C := RX12) (F := TX12) (N := 36) hx hb hts uX12 hown hkb hH t_a0 (hO.no t_a0 (by decide)) (fun _ h9 => h9) rfl rfl 1 (by decide) rfl kw_1224 (fun _ h9 => h9) dX12_goesTurn_179 (fun v9 h9 => ?_)
                            obtain ⟨v179, rfl, t_v179⟩ := h9
                            refine lv_bipush (v := 59) hx hb dX12_goesTurn_182 (by decide) ?_
                            refine lv_iload hx hb dX12_goesTurn_184 (lv_at hl 0 rfl) ?_
                            refine lv_iadd hx hb dX12_goesTurn_186 ?_
                            refine lv_topi (fun v186 ev186 => ?_)
                            have tv186 : v186.toInt = (59) + p171_6.toInt := by rw [ev186]; exact add_i (by decide : (59 : Int32).toInt = 59) rfl (by omega) (by omega)
                            refine lv_aload_n hx hb dX12_goesTurn_187 rfl (lv_at hl 2 rfl) ?_
                            refine t_get (ci := 12) (lst := ft12 hg mq) (C := RX12) (F := TX12) (N := 36) hx hb hts uX12 hown hkb hH t_a0 (hO.no t_a0 (by decide)) (fun _ h9 => h9) rfl rfl 31 (by decide) rfl kw_1254 (fun _ h9 => h9) dX12_goesTurn_188 (fun v9 h9 => ?_)
                            obtain ⟨v188, rfl, t_v188⟩ := h9
                            refine lv_bipush (v := 31) hx hb dX12_goesTurn_191 (by decide) ?_
                            refine lv_iload_n hx hb dX12_goesTurn_193 rfl (lv_at hl 3 rfl) ?_
                            refine lv_imul hx hb dX12_goesTurn_194 ?_
                            refine lv_topi (fun v194 ev194 => ?_)
                            have tv194 : v194.toInt = (31) * x1.toInt := by rw [ev194]; exact mul_i (by decide : (31 : Int32).toInt = 31) rfl (by omega) (by omega)
                            refine lv_iload hx hb dX12_goesTurn_195 (lv_at hl 0 rfl) ?_
                            refine lv_iadd hx hb dX12_goesTurn_197 ?_
                            refine lv_topi (fun v197 ev197 => ?_)
                            have tv197 : v197.toInt = v194.toInt + p171_6.toInt := by rw [ev197]; exact add_i rfl rfl (by omega) (by omega)
                            refine t_ild hx hb hkb hH t_v188 (hO.no t_v188 (by decide)) (by omega) (by omega) dX12_goesTurn_198 (fun v198 h9 => ?_)
                            refine t_ist8 hx hb hkb hH hS t_v179 (hO.no t_v179 (by decide)) (by decide) (by omega) (by omega) (by omega) (by omega) (p8_far (by omega) (by omega)) dX12_goesTurn_199 (fun H locs hH hS => ?_)
                            obtain ⟨v200, ev200⟩ : ∃ y : Int32, y = p171_6 + 1 := ⟨_, rfl⟩
                            have tv200 : v200.toInt = p171_6.toInt + (1) := by rw [ev200]; exact add_i rfl (by decide) (by omega) (by omega)
                            refine lv_iinc (v := v200) (lv' := [(6, .int v200), (4, .int p89_4), (0, .ref a0), (1, .int x1), (2, .int x2), (3, .int x3)]) hx hb dX12_goesTurn_200 hl (k := 0) rfl (by rw [ev200]; rfl) (by decide) rfl (fun ls hl => ?_)
                            refine lv_goto (tgt := 171) hx hb dX12_goesTurn_203 (by decide) ?_
                            exact ih171 _ (by omega) v200 _ _ _ rfl (by omega) (by omega) hH hS (lv_sub hl [0, 1, 2, 3, 4, 5] rfl)
                      refine lv_istore (lv' := [(6, .int 0), (4, .int p89_4), (0, .ref a0), (1, .int x1), (2, .int x2), (3, .int x3)]) hx hb dX12_goesTurn_169 hl (by decide) rfl (fun ls hl => ?_)
                      exact J171 _ 0 _ _ _ rfl (by decide) (by decide) hH hS (lv_sub hl [0, 1, 2, 3, 4, 5] rfl)
                    refine lv_if_eq (tgt := 163) hx hb dX12_goesTurn_156 (by decide) (fun c156 => ?_) (fun c156 => ?_)
                    · skip
                      have tc156 := f_eq (k := 0) (by decide) c156
                      refine lv_iconst (v := 0) hx hb dX12_goesTurn_163 (by decide) ?_
                      exact J164 0 _ _ _ (by decide) (by decide) hH hS (lv_sub hl [1, 2, 3, 4, 5] rfl)
                    · skip
                      have tc156 := f_ne (k := 0) (by decide) c156
                      refine lv_iconst (v := 1) hx hb dX12_goesTurn_159 (by decide) ?_
                      refine lv_goto (tgt := 164) hx hb dX12_goesTurn_160 (by decide) ?_
                      exact J164 1 _ _ _ (by decide) (by decide) hH hS (lv_sub hl [1, 2, 3, 4, 5] rfl)
                  refine lv_if_eq (tgt := 141) hx hb dX12_goesTurn_131 (by decide) (fun c131 => ?_) (fun c131 => ?_)
                  · skip
                    have tc131 := f_eq (k := 0) (by decide) c131
                    exact J141  _ _ _  hH hS (lv_sub hl [0, 1, 2, 3, 4, 5] rfl)
                  · skip
                    have tc131 := f_ne (k := 0) (by decide) c131
                    refine lv_aload_n hx hb dX12_goesTurn_134 rfl (lv_at hl 2 rfl) ?_
                    refine lv_iload hx hb dX12_goesTurn_135 (lv_at hl 1 rfl) ?_
                    refine tk_i hH hS hA (tr_V (n := 1) (As := [.int p89_4]) hx hb hml hown hts hkb hH hOX hks hE hS hA (s_M_usesRow l D cs kf T O X a0 hg mq p89_4 t_a0 b_hg (hO.sub (by decide))) kw_1548 kw_1550 ks_80 kw_13 kw_1551 (by decide +kernel) ⟨Nat.le_of_ble_eq_true rfl, Nat.le_of_ble_eq_true rfl⟩ (HT.recv (ci := 12) hkb hH t_a0 (hO.no t_a0 (by decide)) rfl) rfl rfl hl.1 (Nat.le_of_ble_eq_true rfl) dX12_goesTurn_137 ⟨Nat.le_of_ble_eq_true rfl, Nat.le_of_ble_eq_true rfl⟩) (fun v137 u H locs hz9 hH hS => ?_)
                    have hz9 : u = (T, O, X) := hz9
                    subst hz9
                    have hH : HT D cs A T O X H := hH
                    refine W.widen (k := 0) (n := 0) (Nat.le_of_ble_eq_true rfl) (Nat.le_of_ble_eq_true rfl) ?_
                    refine lv_pop hx hb dX12_goesTurn_140 rfl ?_
                    exact J141  _ _ _  hH hS (lv_sub hl [0, 1, 2, 3, 4, 5] rfl)
                · skip
                  have tc107 := f_eq (k := 0) (by decide) c107
                  refine lv_goto (tgt := 206) hx hb dX12_goesTurn_110 (by decide) ?_
                  exact J206  _ _ _  hH hS (lv_sub hl [0, 1, 2, 3, 4] rfl)
          refine lv_istore (lv' := [(4, .int 0), (0, .ref a0), (1, .int x1), (2, .int x2), (3, .int x3)]) hx hb dX12_goesTurn_87 hl (by decide) rfl (fun ls hl => ?_)
          exact J89 _ 0 _ _ _ rfl (by decide) (by decide) hH hS (lv_sub hl [0, 1, 2, 3, 4] rfl)
        · skip
          have tc55 := f_nge (k := 31) (by decide) c55
          refine lv_aload_n hx hb dX12_goesTurn_58 rfl (lv_at hl 1 rfl) ?_
          refine t_get (ci := 12) (lst := ft12 hg mq) (C := RX12) (F := TX12) (N := 36) hx hb hts uX12 hown hkb hH t_a0 (hO.no t_a0 (by decide)) (fun _ h9 => h9) rfl rfl 31 (by decide) rfl kw_1254 (fun _ h9 => h9) dX12_goesTurn_59 (fun v9 h9 => ?_)
          obtain ⟨v59, rfl, t_v59⟩ := h9
          refine lv_bipush (v := 31) hx hb dX12_goesTurn_62 (by decide) ?_
          refine lv_iload_n hx hb dX12_goesTurn_64 rfl (lv_at hl 2 rfl) ?_
          refine lv_imul hx hb dX12_goesTurn_65 ?_
          refine lv_topi (fun v65 ev65 => ?_)
          have tv65 : v65.toInt = (31) * x1.toInt := by rw [ev65]; exact mul_i (by decide : (31 : Int32).toInt = 31) rfl (by omega) (by omega)
          refine lv_iload hx hb dX12_goesTurn_66 (lv_at hl 0 rfl) ?_
          refine lv_iadd hx hb dX12_goesTurn_68 ?_
          refine lv_topi (fun v68 ev68 => ?_)
          have tv68 : v68.toInt = v65.toInt + p51_4.toInt := by rw [ev68]; exact add_i rfl rfl (by omega) (by omega)
          refine lv_aload_n hx hb dX12_goesTurn_69 rfl (lv_at hl 1 rfl) ?_
          refine t_get (ci := 12) (lst := ft12 hg mq) (C := RX12) (F := TX12) (N := 36) hx hb hts uX12 hown hkb hH t_a0 (hO.no t_a0 (by decide)) (fun _ h9 => h9) rfl rfl 1 (by decide) rfl kw_1224 (fun _ h9 => h9) dX12_goesTurn_70 (fun v9 h9 => ?_)
          obtain ⟨v70, rfl, t_v70⟩ := h9
          refine lv_bipush (v := 59) hx hb dX12_goesTurn_73 (by decide) ?_
          refine lv_iload hx hb dX12_goesTurn_75 (lv_at hl 0 rfl) ?_
          refine lv_iadd hx hb dX12_goesTurn_77 ?_
          refine lv_topi (fun v77 ev77 => ?_)
          have tv77 : v77.toInt = (59) + p51_4.toInt := by rw [ev77]; exact add_i (by decide : (59 : Int32).toInt = 59) rfl (by omega) (by omega)
          refine t_ild8 hx hb hkb hH t_v70 (hO.no t_v70 (by decide)) (by decide) (by omega) (by omega) dX12_goesTurn_78 (fun v78 h9 h8 => ?_)
          refine t_ist hx hb hkb hH hS t_v59 (hO.no t_v59 (by decide)) (by omega) (by omega) (cp_0 _) dX12_goesTurn_79 (fun H locs hH hS => ?_)
          obtain ⟨v80, ev80⟩ : ∃ y : Int32, y = p51_4 + 1 := ⟨_, rfl⟩
          have tv80 : v80.toInt = p51_4.toInt + (1) := by rw [ev80]; exact add_i rfl (by decide) (by omega) (by omega)
          refine lv_iinc (v := v80) (lv' := [(4, .int v80), (0, .ref a0), (1, .int x1), (2, .int x2), (3, .int x3)]) hx hb dX12_goesTurn_80 hl (k := 0) rfl (by rw [ev80]; rfl) (by decide) rfl (fun ls hl => ?_)
          refine lv_goto (tgt := 51) hx hb dX12_goesTurn_83 (by decide) ?_
          exact ih51 _ (by omega) v80 _ _ _ rfl (by omega) (by omega) hH hS (lv_sub hl [0, 1, 2, 3, 4] rfl)
    refine lv_istore (lv' := [(4, .int 0), (0, .ref a0), (1, .int x1), (2, .int x2), (3, .int x3)]) hx hb dX12_goesTurn_49 hl (by decide) rfl (fun ls hl => ?_)
    exact J51 _ 0 _ _ _ rfl (by decide) (by decide) hH hS (lv_sub hl [0, 1, 2, 3, 4] rfl)
  · skip
    have tc1 := f_eq (k := 0) (by decide) c1
    refine lv_iload_n hx hb dX12_goesTurn_4 rfl (lv_at hl 3 rfl) ?_
    refine lv_aload_n hx hb dX12_goesTurn_5 rfl (lv_at hl 0 rfl) ?_
    refine t_get (ci := 12) (lst := ft12 hg mq) (C := RX12) (F := TX12) (N := 36) hx hb hts uX12 hown hkb hH t_a0 (hO.no t_a0 (by decide)) (fun _ h9 => h9) rfl rfl 32 (by decide) rfl kw_1255 (fun _ h9 => h9) dX12_goesTurn_6 (fun v9 h9 => ?_)
    obtain ⟨v6, rfl⟩ := h9
    refine lv_icmp_gt (tgt := 13) hx hb dX12_goesTurn_9 (by decide) (fun c9 => ?_) (fun c9 => ?_)
    · skip
      have fuc9 := full_i x3
      have fvc9 := full_i v6
      have tc9 := g_lt c9
      refine lv_aload_n hx hb dX12_goesTurn_13 rfl (lv_at hl 0 rfl) ?_
      refine lv_iload_n hx hb dX12_goesTurn_14 rfl (lv_at hl 3 rfl) ?_
      refine t_put (ci := 12) (lst := ft12 hg mq) (v := .int x3) (ty := tyX12 32) (C := RX12) (F := TX12) (N := 36) hx hb hts uX12 tyX12 tyX12_ok nmX12 hown hkb hH hS t_a0 (hO.no t_a0 (by decide)) (fun _ => Iff.rfl) rfl rfl 32 (by decide) rfl (⟨_, rfl⟩) kw_1255 (fun _ h9 => h9) rfl (tyX12_ok 32 (by decide)) rfl rfl dX12_goesTurn_15 (fun H locs hH hS => ?_)
      refine lv_iconst (v := 0) hx hb dX12_goesTurn_18 (by decide) ?_
      have J21 : ∀ (n : Nat) (p21_4 : Int32) (H : Heap) (locs : List Loc) (ls : Array Slot), (2 - p21_4.toInt).toNat = n → (0 ≤ p21_4.toInt) → (p21_4.toInt ≤ 2) → HT D cs A T O X H → va_S A s.heap H locs → lv_has ls 7 [(4, .int p21_4), (0, .ref a0), (1, .int x1)] → W p l e { frames := 8, cells := 0, slots := 0, locals := 192 } s m [.ref a0, .int x1, .int x2, .int x3].toArray below meth c H locs 0 0 (MQ below (Tv D cs (fun u => u = (T, O, X)) A) [.ref a0, .int x1, .int x2, .int x3].toArray s 0 0 A) (F0 m 21 ls []) := by
        intro n
        induction n using Nat.strongRecOn with
        | _ n ih21 =>
          intro p21_4 H locs ls hm21 l_p21_4 u_p21_4 hH hS hl
          refine lv_iload hx hb dX12_goesTurn_21 (lv_at hl 0 rfl) ?_
          refine lv_iload_n hx hb dX12_goesTurn_23 rfl (lv_at hl 2 rfl) ?_
          refine lv_icmp_ge (tgt := 47) hx hb dX12_goesTurn_24 (by decide) (fun c24 => ?_) (fun c24 => ?_)
          · skip
            have fuc24 := full_i p21_4
            have fvc24 := full_i x1
            have tc24 := g_le c24
            exact te_v hx hb hr hlocks hH hS (rfl) dX12_goesTurn_47
          · skip
            have fuc24 := full_i p21_4
            have fvc24 := full_i x1
            have tc24 := g_nle c24
            refine lv_aload_n hx hb dX12_goesTurn_27 rfl (lv_at hl 1 rfl) ?_
            refine t_get (ci := 12) (lst := ft12 hg mq) (C := RX12) (F := TX12) (N := 36) hx hb hts uX12 hown hkb hH t_a0 (hO.no t_a0 (by decide)) (fun _ h9 => h9) rfl rfl 30 (by decide) rfl kw_1253 (fun _ h9 => h9) dX12_goesTurn_28 (fun v9 h9 => ?_)
            obtain ⟨v28, rfl, t_v28⟩ := h9
            refine lv_iload hx hb dX12_goesTurn_31 (lv_at hl 0 rfl) ?_
            refine lv_aload_n hx hb dX12_goesTurn_33 rfl (lv_at hl 1 rfl) ?_
            refine t_get (ci := 12) (lst := ft12 hg mq) (C := RX12) (F := TX12) (N := 36) hx hb hts uX12 hown hkb hH t_a0 (hO.no t_a0 (by decide)) (fun _ h9 => h9) rfl rfl 29 (by decide) rfl kw_1252 (fun _ h9 => h9) dX12_goesTurn_34 (fun v9 h9 => ?_)
            obtain ⟨v34, rfl, t_v34⟩ := h9
            refine lv_iload hx hb dX12_goesTurn_37 (lv_at hl 0 rfl) ?_
            refine t_ild hx hb hkb hH t_v34 (hO.no t_v34 (by decide)) (by omega) (by omega) dX12_goesTurn_39 (fun v39 h9 => ?_)
            refine t_ist hx hb hkb hH hS t_v28 (hO.no t_v28 (by decide)) (by omega) (by omega) (cp_0 _) dX12_goesTurn_40 (fun H locs hH hS => ?_)
            obtain ⟨v41, ev41⟩ : ∃ y : Int32, y = p21_4 + 1 := ⟨_, rfl⟩
            have tv41 : v41.toInt = p21_4.toInt + (1) := by rw [ev41]; exact add_i rfl (by decide) (by omega) (by omega)
            refine lv_iinc (v := v41) (lv' := [(4, .int v41), (0, .ref a0), (1, .int x1)]) hx hb dX12_goesTurn_41 hl (k := 0) rfl (by rw [ev41]; rfl) (by decide) rfl (fun ls hl => ?_)
            refine lv_goto (tgt := 21) hx hb dX12_goesTurn_44 (by decide) ?_
            exact ih21 _ (by omega) v41 _ _ _ rfl (by omega) (by omega) hH hS (lv_sub hl [0, 1, 2] rfl)
      refine lv_istore (lv' := [(4, .int 0), (0, .ref a0), (1, .int x1), (2, .int x2), (3, .int x3)]) hx hb dX12_goesTurn_19 hl (by decide) rfl (fun ls hl => ?_)
      exact J21 _ 0 _ _ _ rfl (by decide) (by decide) hH hS (lv_sub hl [0, 1, 2] rfl)
    · skip
      have fuc9 := full_i x3
      have fvc9 := full_i v6
      have tc9 := g_nlt c9
      exact te_v hx hb hr hlocks hH hS (rfl) dX12_goesTurn_12
set_option maxHeartbeats 4000000 in
set_option maxRecDepth 100000 in
theorem s_M_goesTurn1 (l : Launch) (D : va_G) (cs : CS) (kf : KF) (T : TF) (O : List Nat) (X : va_W) (a0 hg mq : Nat) (x1 : Int32) (x2 : Int32) (x3 : Int32) (t_a0 : T a0 = some (22, hg, mq)) (b_hg : hg < 90) (l_x1 : 1 ≤ x1.toInt) (u_x1 : x1.toInt ≤ 1) (l_x2 : 0 ≤ x2.toInt) (u_x2 : x2.toInt ≤ 31) (hp : pcn 5 x2.toInt.toNat ≤ 4) (hO : okO T O [1, 8, 9, 22]) : TK l D cs kf yX12_goesTurn cX12_goesTurn 7 none { frames := 9, cells := 0, slots := 0, locals := 218 } [.ref a0, .int x1, .int x2, .int x3] T O X (Tv D cs (fun u => u = (T, O, X))) := by
  refine tk_of (by decide) (Nat.le_of_ble_eq_true rfl) (fun p e s m below meth c ls A H locs hx hb hr hml hown hts hlocks hnm hkb hH hS hA hOX hks hE hl => ?_)
  have hown : s.vm.findClass RX12 = some m.cls := hown
  have hl : lv_has ls 7 [(0, .ref a0), (1, .int x1), (2, .int x2), (3, .int x3)] := hl
  refine lv_iload_n hx hb dX12_goesTurn_0 rfl (lv_at hl 2 rfl) ?_
  refine lv_if_ne (tgt := 48) hx hb dX12_goesTurn_1 (by decide) (fun c1 => ?_) (fun c1 => ?_)
  · skip
    have tc1 := f_ne (k := 0) (by decide) c1
    refine lv_iconst (v := 0) hx hb dX12_goesTurn_48 (by decide) ?_
    have J51 : ∀ (n : Nat) (p51_4 : Int32) (H : Heap) (locs : List Loc) (ls : Array Slot), (31 - p51_4.toInt).toNat = n → (0 ≤ p51_4.toInt) → (p51_4.toInt ≤ 31) → HT D cs A T O X H → va_S A s.heap H locs → lv_has ls 7 [(4, .int p51_4), (0, .ref a0), (1, .int x1), (2, .int x2), (3, .int x3)] → W p l e { frames := 9, cells := 0, slots := 0, locals := 218 } s m [.ref a0, .int x1, .int x2, .int x3].toArray below meth c H locs 0 0 (MQ below (Tv D cs (fun u => u = (T, O, X)) A) [.ref a0, .int x1, .int x2, .int x3].toArray s 0 0 A) (F0 m 51 ls []) := by
      intro n
      induction n using Nat.strongRecOn with
      | _ n ih51 =>
        intro p51_4 H locs ls hm51 l_p51_4 u_p51_4 hH hS hl
        refine lv_iload hx hb dX12_goesTurn_51 (lv_at hl 0 rfl) ?_
        refine lv_bipush (v := 31) hx hb dX12_goesTurn_53 (by decide) ?_
        refine lv_icmp_ge (tgt := 86) hx hb dX12_goesTurn_55 (by decide) (fun c55 => ?_) (fun c55 => ?_)
        · skip
          have tc55 := f_ge (k := 31) (by decide) c55
          refine lv_iconst (v := 0) hx hb dX12_goesTurn_86 (by decide) ?_
          have J89 : ∀ (n : Nat) (p89_4 : Int32) (H : Heap) (locs : List Loc) (ls : Array Slot), (5 - p89_4.toInt).toNat = n → (0 ≤ p89_4.toInt) → (p89_4.toInt ≤ 5) → HT D cs A T O X H → va_S A s.heap H locs → lv_has ls 7 [(4, .int p89_4), (0, .ref a0), (1, .int x1), (2, .int x2), (3, .int x3)] → W p l e { frames := 9, cells := 0, slots := 0, locals := 218 } s m [.ref a0, .int x1, .int x2, .int x3].toArray below meth c H locs 0 0 (MQ below (Tv D cs (fun u => u = (T, O, X)) A) [.ref a0, .int x1, .int x2, .int x3].toArray s 0 0 A) (F0 m 89 ls []) := by
            intro n
            induction n using Nat.strongRecOn with
            | _ n ih89 =>
              intro p89_4 H locs ls hm89 l_p89_4 u_p89_4 hH hS hl
              refine lv_iload hx hb dX12_goesTurn_89 (lv_at hl 0 rfl) ?_
              refine lv_aload_n hx hb dX12_goesTurn_91 rfl (lv_at hl 1 rfl) ?_
              refine t_get (ci := 12) (lst := ft12 hg mq) (C := RX12) (F := TX12) (N := 36) hx hb hts uX12 hown hkb hH t_a0 (hO.no t_a0 (by decide)) (fun _ h9 => h9) rfl rfl 1 (by decide) rfl kw_1224 (fun _ h9 => h9) dX12_goesTurn_92 (fun v9 h9 => ?_)
              obtain ⟨v92, rfl, t_v92⟩ := h9
              refine lv_iconst (v := 2) hx hb dX12_goesTurn_95 (by decide) ?_
              refine t_ild8 hx hb hkb hH t_v92 (hO.no t_v92 (by decide)) (by decide) (by decide) (by decide) dX12_goesTurn_96 (fun v96 h9 h8 => ?_)
              have q9 := (h8 rfl).2 rfl
              subst q9
              have eG9 : (nI (hg % 6)).toInt = (((hg % 6) : Nat) : Int) := nI_toInt (by omega)
              refine lv_icmp_ge (tgt := 212) hx hb dX12_goesTurn_97 (by decide) (fun c97 => ?_) (fun c97 => ?_)
              · skip
                have fuc97 := full_i p89_4
                have fvc97 := full_i (nI (hg % 6))
                have tc97 := g_le c97
                exact te_v hx hb hr hlocks hH hS (rfl) dX12_goesTurn_212
              · skip
                have fuc97 := full_i p89_4
                have fvc97 := full_i (nI (hg % 6))
                have tc97 := g_nle c97
                refine lv_iload_n hx hb dX12_goesTurn_100 rfl (lv_at hl 3 rfl) ?_
                refine lv_i2l hx hb dX12_goesTurn_101 rfl ?_
                refine lv_iload hx hb dX12_goesTurn_102 (lv_at hl 0 rfl) ?_
                refine tk_i hH hS hA (tr_S (n := 2) (As := [.long x2.toInt64, .int p89_4]) hx hb hml hown hts hkb hH hOX hks hE hS hA (s_M_isIn2 l D cs kf T O X x2.toInt64 p89_4  (hO.sub (by decide))) kw_1440 kw_1441 kw_13 kw_1442 (by decide +kernel) ⟨Nat.le_of_ble_eq_true rfl, Nat.le_of_ble_eq_true rfl⟩ rfl rfl hl.1 (Nat.le_of_ble_eq_true rfl) dX12_goesTurn_104 ⟨Nat.le_of_ble_eq_true rfl, Nat.le_of_ble_eq_true rfl⟩) (fun v104 u H locs hz9 hH hS => ?_)
                obtain ⟨rfl, l_v104, u_v104, x_v1040⟩ := hz9
                have hH : HT D cs A T O X H := hH
                refine W.widen (k := 0) (n := 0) (Nat.le_of_ble_eq_true rfl) (Nat.le_of_ble_eq_true rfl) ?_
                have J206 : ∀  (H : Heap) (locs : List Loc) (ls : Array Slot), HT D cs A T O X H → va_S A s.heap H locs → lv_has ls 7 [(4, .int p89_4), (0, .ref a0), (1, .int x1), (2, .int x2), (3, .int x3)] → W p l e { frames := 9, cells := 0, slots := 0, locals := 218 } s m [.ref a0, .int x1, .int x2, .int x3].toArray below meth c H locs 0 0 (MQ below (Tv D cs (fun u => u = (T, O, X)) A) [.ref a0, .int x1, .int x2, .int x3].toArray s 0 0 A) (F0 m 206 ls []) := by
                  intro  H locs ls  hH hS hl
                  obtain ⟨v206, ev206⟩ : ∃ y : Int32, y = p89_4 + 1 := ⟨_, rfl⟩
                  have tv206 : v206.toInt = p89_4.toInt + (1) := by rw [ev206]; exact add_i rfl (by decide) (by omega) (by omega)
                  refine lv_iinc (v := v206) (lv' := [(4, .int v206), (0, .ref a0), (1, .int x1), (2, .int x2), (3, .int x3)]) hx hb dX12_goesTurn_206 hl (k := 0) rfl (by rw [ev206]; rfl) (by decide) rfl (fun ls hl => ?_)
                  refine lv_goto (tgt := 89) hx hb dX12_goesTurn_209 (by decide) ?_
                  exact ih89 _ (by omega) v206 _ _ _ rfl (by omega) (by omega) hH hS (lv_sub hl [0, 1, 2, 3, 4] rfl)
                refine lv_if_ne (tgt := 113) hx hb dX12_goesTurn_107 (by decide) (fun c107 => ?_) (fun c107 => ?_)
                · skip
                  have tc107 := f_ne (k := 0) (by decide) c107
                  refine lv_aload_n hx hb dX12_goesTurn_113 rfl (lv_at hl 1 rfl) ?_
                  refine t_get (ci := 12) (lst := ft12 hg mq) (C := RX12) (F := TX12) (N := 36) hx hb hts uX12 hown hkb hH t_a0 (hO.no t_a0 (by decide)) (fun _ h9 => h9) rfl rfl 29 (by decide) rfl kw_1252 (fun _ h9 => h9) dX12_goesTurn_114 (fun v9 h9 => ?_)
                  obtain ⟨v114, rfl, t_v114⟩ := h9
                  refine lv_iload_n hx hb dX12_goesTurn_117 rfl (lv_at hl 2 rfl) ?_
                  refine lv_iload hx hb dX12_goesTurn_118 (lv_at hl 0 rfl) ?_
                  refine t_ist hx hb hkb hH hS t_v114 (hO.no t_v114 (by decide)) (by omega) (by omega) (cp_0 _) dX12_goesTurn_120 (fun H locs hH hS => ?_)
                  refine lv_aload_n hx hb dX12_goesTurn_121 rfl (lv_at hl 1 rfl) ?_
                  refine lv_iload hx hb dX12_goesTurn_122 (lv_at hl 0 rfl) ?_
                  refine tk_i hH hS hA (tr_V (n := 1) (As := [.int p89_4]) hx hb hml hown hts hkb hH hOX hks hE hS hA (s_M_laysWayOf l D cs kf T O X a0 hg mq p89_4 t_a0 b_hg (by omega) (by omega) (hO.sub (by decide))) kw_1560 kw_1562 ks_82 kw_13 kw_1563 (by decide +kernel) ⟨Nat.le_of_ble_eq_true rfl, Nat.le_of_ble_eq_true rfl⟩ (HT.recv (ci := 12) hkb hH t_a0 (hO.no t_a0 (by decide)) rfl) rfl rfl hl.1 (Nat.le_of_ble_eq_true rfl) dX12_goesTurn_124 ⟨Nat.le_of_ble_eq_true rfl, Nat.le_of_ble_eq_true rfl⟩) (fun v124 u H locs hz9 hH hS => ?_)
                  obtain ⟨rfl, l_v124, u_v124⟩ := hz9
                  have hH : HT D cs A T O X H := hH
                  refine W.widen (k := 0) (n := 0) (Nat.le_of_ble_eq_true rfl) (Nat.le_of_ble_eq_true rfl) ?_
                  refine lv_istore (lv' := [(5, .int v124), (4, .int p89_4), (0, .ref a0), (1, .int x1), (2, .int x2), (3, .int x3)]) hx hb dX12_goesTurn_127 hl (by decide) rfl (fun ls hl => ?_)
                  refine lv_iload hx hb dX12_goesTurn_129 (lv_at hl 0 rfl) ?_
                  have J141 : ∀  (H : Heap) (locs : List Loc) (ls : Array Slot), HT D cs A T O X H → va_S A s.heap H locs → lv_has ls 7 [(5, .int v124), (4, .int p89_4), (0, .ref a0), (1, .int x1), (2, .int x2), (3, .int x3)] → W p l e { frames := 9, cells := 0, slots := 0, locals := 218 } s m [.ref a0, .int x1, .int x2, .int x3].toArray below meth c H locs 0 0 (MQ below (Tv D cs (fun u => u = (T, O, X)) A) [.ref a0, .int x1, .int x2, .int x3].toArray s 0 0 A) (F0 m 141 ls []) := by
                    intro  H locs ls  hH hS hl
                    refine lv_aload_n hx hb dX12_goesTurn_141 rfl (lv_at hl 2 rfl) ?_
                    refine lv_iload_n hx hb dX12_goesTurn_142 rfl (lv_at hl 3 rfl) ?_
                    refine lv_iconst (v := 1) hx hb dX12_goesTurn_143 (by decide) ?_
                    refine lv_iadd hx hb dX12_goesTurn_144 ?_
                    refine lv_topi (fun v144 ev144 => ?_)
                    have tv144 : v144.toInt = x1.toInt + (1) := by rw [ev144]; exact add_i rfl (by decide : (1 : Int32).toInt = 1) (by omega) (by omega)
                    refine lv_iload_n hx hb dX12_goesTurn_145 rfl (lv_at hl 4 rfl) ?_
                    refine lv_iconst (v := 1) hx hb dX12_goesTurn_146 (by decide) ?_
                    refine lv_iload hx hb dX12_goesTurn_147 (lv_at hl 1 rfl) ?_
                    refine lv_ishl hx hb dX12_goesTurn_149 ?_
                    refine lv_topi (fun v149 ev149 => ?_)
                    have tv149 : 1 ≤ v149.toInt ∧ v149.toInt ≤ 16 := by rw [ev149]; exact shl_b 4 (by decide) (by omega) (by omega)
                    refine lv_iconst (v := (-1)) hx hb dX12_goesTurn_150 (by decide) ?_
                    refine lv_ixor hx hb dX12_goesTurn_151 ?_
                    refine lv_topi (fun v151 ev151 => ?_)
                    refine lv_iand hx hb dX12_goesTurn_152 ?_
                    refine lv_topi (fun v152 ev152 => ?_)
                    have tv152 : 0 ≤ v152.toInt ∧ v152.toInt ≤ x2.toInt := by rw [ev152]; exact and_l (by omega)
                    have hp9 := gt_step (by omega) (by omega) (by omega) (by omega) (inF_nz x_v1040 tc107) ev149 ev151 ev152
                    refine lv_iload_n hx hb dX12_goesTurn_153 rfl (lv_at hl 5 rfl) ?_
                    refine lv_iload hx hb dX12_goesTurn_154 (lv_at hl 0 rfl) ?_
                    have J164 : ∀ (k164_0 : Int32) (H : Heap) (locs : List Loc) (ls : Array Slot), (0 ≤ k164_0.toInt) → (k164_0.toInt ≤ 1) → HT D cs A T O X H → va_S A s.heap H locs → lv_has ls 7 [(4, .int p89_4), (0, .ref a0), (1, .int x1), (2, .int x2), (3, .int x3)] → W p l e { frames := 9, cells := 0, slots := 0, locals := 218 } s m [.ref a0, .int x1, .int x2, .int x3].toArray below meth c H locs 0 0 (MQ below (Tv D cs (fun u => u = (T, O, X)) A) [.ref a0, .int x1, .int x2, .int x3].toArray s 0 0 A) (F0 m 164 ls [.int k164_0, .int x3, .int v152, .int v144, .ref a0]) := by
                      intro k164_0 H locs ls l_k164_0 u_k164_0 hH hS hl
                      refine lv_iadd hx hb dX12_goesTurn_164 ?_
                      refine lv_topi (fun v164 ev164 => ?_)
                      refine tk_v hH hS hA (tr_V (n := 3) (As := [.int v144, .int v152, .int v164]) hx hb hml hown hts hkb hH hOX hks hE hS hA (s_M_goesTurn2 l D cs kf T O X a0 hg mq v144 v152 v164 t_a0 b_hg (by omega) (by omega) (by omega) (by omega) (by omega) (hO.sub (by decide))) kw_1756 kw_1758 ks_103 kw_13 kw_1759 (by decide +kernel) ⟨Nat.le_of_ble_eq_true rfl, Nat.le_of_ble_eq_true rfl⟩ (HT.recv (ci := 12) hkb hH t_a0 (hO.no t_a0 (by decide)) rfl) rfl rfl hl.1 (Nat.le_of_ble_eq_true rfl) dX12_goesTurn_165 ⟨Nat.le_of_ble_eq_true rfl, Nat.le_of_ble_eq_true rfl⟩) (fun u H locs hz9 hH hS => ?_)
                      obtain ⟨rfl⟩ := hz9
                      have hH : HT D cs A T O X H := hH
                      refine W.widen (k := 0) (n := 0) (Nat.le_of_ble_eq_true rfl) (Nat.le_of_ble_eq_true rfl) ?_
                      refine lv_iconst (v := 0) hx hb dX12_goesTurn_168 (by decide) ?_
                      have J171 : ∀ (n : Nat) (p171_6 : Int32) (H : Heap) (locs : List Loc) (ls : Array Slot), (31 - p171_6.toInt).toNat = n → (0 ≤ p171_6.toInt) → (p171_6.toInt ≤ 31) → HT D cs A T O X H → va_S A s.heap H locs → lv_has ls 7 [(6, .int p171_6), (4, .int p89_4), (0, .ref a0), (1, .int x1), (2, .int x2), (3, .int x3)] → W p l e { frames := 9, cells := 0, slots := 0, locals := 218 } s m [.ref a0, .int x1, .int x2, .int x3].toArray below meth c H locs 0 0 (MQ below (Tv D cs (fun u => u = (T, O, X)) A) [.ref a0, .int x1, .int x2, .int x3].toArray s 0 0 A) (F0 m 171 ls []) := by
                        intro n
                        induction n using Nat.strongRecOn with
                        | _ n ih171 =>
                          intro p171_6 H locs ls hm171 l_p171_6 u_p171_6 hH hS hl
                          refine lv_iload hx hb dX12_goesTurn_171 (lv_at hl 0 rfl) ?_
                          refine lv_bipush (v := 31) hx hb dX12_goesTurn_173 (by decide) ?_
                          refine lv_icmp_ge (tgt := 206) hx hb dX12_goesTurn_175 (by decide) (fun c175 => ?_) (fun c175 => ?_)
                          · skip
                            have tc175 := f_ge (k := 31) (by decide) c175
                            exact J206  _ _ _  hH hS (lv_sub hl [1, 2, 3, 4, 5] rfl)
                          · skip
                            have tc175 := f_nge (k := 31) (by decide) c175
                            refine lv_aload_n hx hb dX12_goesTurn_178 rfl (lv_at hl 2 rfl) ?_
                            refine t_get (ci := 12) (lst := ft12 hg mq) (C := RX12) (F := TX12) (N := 36) hx hb hts uX12 hown hkb hH t_a0 (hO.no t_a0 (by decide)) (fun _ h9 => h9) rfl rfl 1 (by decide) rfl kw_1224 (fun _ h9 => h9) dX12_goesTurn_179 (fun v9 h9 => ?_)
                            obtain ⟨v179, rfl, t_v179⟩ := h9
                            refine lv_bipush (v := 59) hx hb dX12_goesTurn_182 (by decide) ?_
                            refine lv_iload hx hb dX12_goesTurn_184 (lv_at hl 0 rfl) ?_
                            refine lv_iadd hx hb dX12_goesTurn_186 ?_
                            refine lv_topi (fun v186 ev186 => ?_)
                            have tv186 : v186.toInt = (59) + p171_6.toInt := by rw [ev186]; exact add_i (by decide : (59 : Int32).toInt = 59) rfl (by omega) (by omega)
                            refine lv_aload_n hx hb dX12_goesTurn_187 rfl (lv_at hl 2 rfl) ?_
                            refine t_get (ci := 12) (lst := ft12 hg mq) (C := RX12) (F := TX12) (N := 36) hx hb hts uX12 hown hkb hH t_a0 (hO.no t_a0 (by decide)) (fun _ h9 => h9) rfl rfl 31 (by decide) rfl kw_1254 (fun _ h9 => h9) dX12_goesTurn_188 (fun v9 h9 => ?_)
                            obtain ⟨v188, rfl, t_v188⟩ := h9
                            refine lv_bipush (v := 31) hx hb dX12_goesTurn_191 (by decide) ?_
                            refine lv_iload_n hx hb dX12_goesTurn_193 rfl (lv_at hl 3 rfl) ?_
                            refine lv_imul hx hb dX12_goesTurn_194 ?_
                            refine lv_topi (fun v194 ev194 => ?_)
                            have tv194 : v194.toInt = (31) * x1.toInt := by rw [ev194]; exact mul_i (by decide : (31 : Int32).toInt = 31) rfl (by omega) (by omega)
                            refine lv_iload hx hb dX12_goesTurn_195 (lv_at hl 0 rfl) ?_
                            refine lv_iadd hx hb dX12_goesTurn_197 ?_
                            refine lv_topi (fun v197 ev197 => ?_)
                            have tv197 : v197.toInt = v194.toInt + p171_6.toInt := by rw [ev197]; exact add_i rfl rfl (by omega) (by omega)
                            refine t_ild hx hb hkb hH t_v188 (hO.no t_v188 (by decide)) (by omega) (by omega) dX12_goesTurn_198 (fun v198 h9 => ?_)
                            refine t_ist8 hx hb hkb hH hS t_v179 (hO.no t_v179 (by decide)) (by decide) (by omega) (by omega) (by omega) (by omega) (p8_far (by omega) (by omega)) dX12_goesTurn_199 (fun H locs hH hS => ?_)
                            obtain ⟨v200, ev200⟩ : ∃ y : Int32, y = p171_6 + 1 := ⟨_, rfl⟩
                            have tv200 : v200.toInt = p171_6.toInt + (1) := by rw [ev200]; exact add_i rfl (by decide) (by omega) (by omega)
                            refine lv_iinc (v := v200) (lv' := [(6, .int v200), (4, .int p89_4), (0, .ref a0), (1, .int x1), (2, .int x2), (3, .int x3)]) hx hb dX12_goesTurn_200 hl (k := 0) rfl (by rw [ev200]; rfl) (by decide) rfl (fun ls hl => ?_)
                            refine lv_goto (tgt := 171) hx hb dX12_goesTurn_203 (by decide) ?_
                            exact ih171 _ (by omega) v200 _ _ _ rfl (by omega) (by omega) hH hS (lv_sub hl [0, 1, 2, 3, 4, 5] rfl)
                      refine lv_istore (lv' := [(6, .int 0), (4, .int p89_4), (0, .ref a0), (1, .int x1), (2, .int x2), (3, .int x3)]) hx hb dX12_goesTurn_169 hl (by decide) rfl (fun ls hl => ?_)
                      exact J171 _ 0 _ _ _ rfl (by decide) (by decide) hH hS (lv_sub hl [0, 1, 2, 3, 4, 5] rfl)
                    refine lv_if_eq (tgt := 163) hx hb dX12_goesTurn_156 (by decide) (fun c156 => ?_) (fun c156 => ?_)
                    · skip
                      have tc156 := f_eq (k := 0) (by decide) c156
                      refine lv_iconst (v := 0) hx hb dX12_goesTurn_163 (by decide) ?_
                      exact J164 0 _ _ _ (by decide) (by decide) hH hS (lv_sub hl [1, 2, 3, 4, 5] rfl)
                    · skip
                      have tc156 := f_ne (k := 0) (by decide) c156
                      refine lv_iconst (v := 1) hx hb dX12_goesTurn_159 (by decide) ?_
                      refine lv_goto (tgt := 164) hx hb dX12_goesTurn_160 (by decide) ?_
                      exact J164 1 _ _ _ (by decide) (by decide) hH hS (lv_sub hl [1, 2, 3, 4, 5] rfl)
                  refine lv_if_eq (tgt := 141) hx hb dX12_goesTurn_131 (by decide) (fun c131 => ?_) (fun c131 => ?_)
                  · skip
                    have tc131 := f_eq (k := 0) (by decide) c131
                    exact J141  _ _ _  hH hS (lv_sub hl [0, 1, 2, 3, 4, 5] rfl)
                  · skip
                    have tc131 := f_ne (k := 0) (by decide) c131
                    refine lv_aload_n hx hb dX12_goesTurn_134 rfl (lv_at hl 2 rfl) ?_
                    refine lv_iload hx hb dX12_goesTurn_135 (lv_at hl 1 rfl) ?_
                    refine tk_i hH hS hA (tr_V (n := 1) (As := [.int p89_4]) hx hb hml hown hts hkb hH hOX hks hE hS hA (s_M_usesRow l D cs kf T O X a0 hg mq p89_4 t_a0 b_hg (hO.sub (by decide))) kw_1548 kw_1550 ks_80 kw_13 kw_1551 (by decide +kernel) ⟨Nat.le_of_ble_eq_true rfl, Nat.le_of_ble_eq_true rfl⟩ (HT.recv (ci := 12) hkb hH t_a0 (hO.no t_a0 (by decide)) rfl) rfl rfl hl.1 (Nat.le_of_ble_eq_true rfl) dX12_goesTurn_137 ⟨Nat.le_of_ble_eq_true rfl, Nat.le_of_ble_eq_true rfl⟩) (fun v137 u H locs hz9 hH hS => ?_)
                    have hz9 : u = (T, O, X) := hz9
                    subst hz9
                    have hH : HT D cs A T O X H := hH
                    refine W.widen (k := 0) (n := 0) (Nat.le_of_ble_eq_true rfl) (Nat.le_of_ble_eq_true rfl) ?_
                    refine lv_pop hx hb dX12_goesTurn_140 rfl ?_
                    exact J141  _ _ _  hH hS (lv_sub hl [0, 1, 2, 3, 4, 5] rfl)
                · skip
                  have tc107 := f_eq (k := 0) (by decide) c107
                  refine lv_goto (tgt := 206) hx hb dX12_goesTurn_110 (by decide) ?_
                  exact J206  _ _ _  hH hS (lv_sub hl [0, 1, 2, 3, 4] rfl)
          refine lv_istore (lv' := [(4, .int 0), (0, .ref a0), (1, .int x1), (2, .int x2), (3, .int x3)]) hx hb dX12_goesTurn_87 hl (by decide) rfl (fun ls hl => ?_)
          exact J89 _ 0 _ _ _ rfl (by decide) (by decide) hH hS (lv_sub hl [0, 1, 2, 3, 4] rfl)
        · skip
          have tc55 := f_nge (k := 31) (by decide) c55
          refine lv_aload_n hx hb dX12_goesTurn_58 rfl (lv_at hl 1 rfl) ?_
          refine t_get (ci := 12) (lst := ft12 hg mq) (C := RX12) (F := TX12) (N := 36) hx hb hts uX12 hown hkb hH t_a0 (hO.no t_a0 (by decide)) (fun _ h9 => h9) rfl rfl 31 (by decide) rfl kw_1254 (fun _ h9 => h9) dX12_goesTurn_59 (fun v9 h9 => ?_)
          obtain ⟨v59, rfl, t_v59⟩ := h9
          refine lv_bipush (v := 31) hx hb dX12_goesTurn_62 (by decide) ?_
          refine lv_iload_n hx hb dX12_goesTurn_64 rfl (lv_at hl 2 rfl) ?_
          refine lv_imul hx hb dX12_goesTurn_65 ?_
          refine lv_topi (fun v65 ev65 => ?_)
          have tv65 : v65.toInt = (31) * x1.toInt := by rw [ev65]; exact mul_i (by decide : (31 : Int32).toInt = 31) rfl (by omega) (by omega)
          refine lv_iload hx hb dX12_goesTurn_66 (lv_at hl 0 rfl) ?_
          refine lv_iadd hx hb dX12_goesTurn_68 ?_
          refine lv_topi (fun v68 ev68 => ?_)
          have tv68 : v68.toInt = v65.toInt + p51_4.toInt := by rw [ev68]; exact add_i rfl rfl (by omega) (by omega)
          refine lv_aload_n hx hb dX12_goesTurn_69 rfl (lv_at hl 1 rfl) ?_
          refine t_get (ci := 12) (lst := ft12 hg mq) (C := RX12) (F := TX12) (N := 36) hx hb hts uX12 hown hkb hH t_a0 (hO.no t_a0 (by decide)) (fun _ h9 => h9) rfl rfl 1 (by decide) rfl kw_1224 (fun _ h9 => h9) dX12_goesTurn_70 (fun v9 h9 => ?_)
          obtain ⟨v70, rfl, t_v70⟩ := h9
          refine lv_bipush (v := 59) hx hb dX12_goesTurn_73 (by decide) ?_
          refine lv_iload hx hb dX12_goesTurn_75 (lv_at hl 0 rfl) ?_
          refine lv_iadd hx hb dX12_goesTurn_77 ?_
          refine lv_topi (fun v77 ev77 => ?_)
          have tv77 : v77.toInt = (59) + p51_4.toInt := by rw [ev77]; exact add_i (by decide : (59 : Int32).toInt = 59) rfl (by omega) (by omega)
          refine t_ild8 hx hb hkb hH t_v70 (hO.no t_v70 (by decide)) (by decide) (by omega) (by omega) dX12_goesTurn_78 (fun v78 h9 h8 => ?_)
          refine t_ist hx hb hkb hH hS t_v59 (hO.no t_v59 (by decide)) (by omega) (by omega) (cp_0 _) dX12_goesTurn_79 (fun H locs hH hS => ?_)
          obtain ⟨v80, ev80⟩ : ∃ y : Int32, y = p51_4 + 1 := ⟨_, rfl⟩
          have tv80 : v80.toInt = p51_4.toInt + (1) := by rw [ev80]; exact add_i rfl (by decide) (by omega) (by omega)
          refine lv_iinc (v := v80) (lv' := [(4, .int v80), (0, .ref a0), (1, .int x1), (2, .int x2), (3, .int x3)]) hx hb dX12_goesTurn_80 hl (k := 0) rfl (by rw [ev80]; rfl) (by decide) rfl (fun ls hl => ?_)
          refine lv_goto (tgt := 51) hx hb dX12_goesTurn_83 (by decide) ?_
          exact ih51 _ (by omega) v80 _ _ _ rfl (by omega) (by omega) hH hS (lv_sub hl [0, 1, 2, 3, 4] rfl)
    refine lv_istore (lv' := [(4, .int 0), (0, .ref a0), (1, .int x1), (2, .int x2), (3, .int x3)]) hx hb dX12_goesTurn_49 hl (by decide) rfl (fun ls hl => ?_)
    exact J51 _ 0 _ _ _ rfl (by decide) (by decide) hH hS (lv_sub hl [0, 1, 2, 3, 4] rfl)
  · skip
    have tc1 := f_eq (k := 0) (by decide) c1
    refine lv_iload_n hx hb dX12_goesTurn_4 rfl (lv_at hl 3 rfl) ?_
    refine lv_aload_n hx hb dX12_goesTurn_5 rfl (lv_at hl 0 rfl) ?_
    refine t_get (ci := 12) (lst := ft12 hg mq) (C := RX12) (F := TX12) (N := 36) hx hb hts uX12 hown hkb hH t_a0 (hO.no t_a0 (by decide)) (fun _ h9 => h9) rfl rfl 32 (by decide) rfl kw_1255 (fun _ h9 => h9) dX12_goesTurn_6 (fun v9 h9 => ?_)
    obtain ⟨v6, rfl⟩ := h9
    refine lv_icmp_gt (tgt := 13) hx hb dX12_goesTurn_9 (by decide) (fun c9 => ?_) (fun c9 => ?_)
    · skip
      have fuc9 := full_i x3
      have fvc9 := full_i v6
      have tc9 := g_lt c9
      refine lv_aload_n hx hb dX12_goesTurn_13 rfl (lv_at hl 0 rfl) ?_
      refine lv_iload_n hx hb dX12_goesTurn_14 rfl (lv_at hl 3 rfl) ?_
      refine t_put (ci := 12) (lst := ft12 hg mq) (v := .int x3) (ty := tyX12 32) (C := RX12) (F := TX12) (N := 36) hx hb hts uX12 tyX12 tyX12_ok nmX12 hown hkb hH hS t_a0 (hO.no t_a0 (by decide)) (fun _ => Iff.rfl) rfl rfl 32 (by decide) rfl (⟨_, rfl⟩) kw_1255 (fun _ h9 => h9) rfl (tyX12_ok 32 (by decide)) rfl rfl dX12_goesTurn_15 (fun H locs hH hS => ?_)
      refine lv_iconst (v := 0) hx hb dX12_goesTurn_18 (by decide) ?_
      have J21 : ∀ (n : Nat) (p21_4 : Int32) (H : Heap) (locs : List Loc) (ls : Array Slot), (1 - p21_4.toInt).toNat = n → (0 ≤ p21_4.toInt) → (p21_4.toInt ≤ 1) → HT D cs A T O X H → va_S A s.heap H locs → lv_has ls 7 [(4, .int p21_4), (0, .ref a0), (1, .int x1)] → W p l e { frames := 9, cells := 0, slots := 0, locals := 218 } s m [.ref a0, .int x1, .int x2, .int x3].toArray below meth c H locs 0 0 (MQ below (Tv D cs (fun u => u = (T, O, X)) A) [.ref a0, .int x1, .int x2, .int x3].toArray s 0 0 A) (F0 m 21 ls []) := by
        intro n
        induction n using Nat.strongRecOn with
        | _ n ih21 =>
          intro p21_4 H locs ls hm21 l_p21_4 u_p21_4 hH hS hl
          refine lv_iload hx hb dX12_goesTurn_21 (lv_at hl 0 rfl) ?_
          refine lv_iload_n hx hb dX12_goesTurn_23 rfl (lv_at hl 2 rfl) ?_
          refine lv_icmp_ge (tgt := 47) hx hb dX12_goesTurn_24 (by decide) (fun c24 => ?_) (fun c24 => ?_)
          · skip
            have fuc24 := full_i p21_4
            have fvc24 := full_i x1
            have tc24 := g_le c24
            exact te_v hx hb hr hlocks hH hS (rfl) dX12_goesTurn_47
          · skip
            have fuc24 := full_i p21_4
            have fvc24 := full_i x1
            have tc24 := g_nle c24
            refine lv_aload_n hx hb dX12_goesTurn_27 rfl (lv_at hl 1 rfl) ?_
            refine t_get (ci := 12) (lst := ft12 hg mq) (C := RX12) (F := TX12) (N := 36) hx hb hts uX12 hown hkb hH t_a0 (hO.no t_a0 (by decide)) (fun _ h9 => h9) rfl rfl 30 (by decide) rfl kw_1253 (fun _ h9 => h9) dX12_goesTurn_28 (fun v9 h9 => ?_)
            obtain ⟨v28, rfl, t_v28⟩ := h9
            refine lv_iload hx hb dX12_goesTurn_31 (lv_at hl 0 rfl) ?_
            refine lv_aload_n hx hb dX12_goesTurn_33 rfl (lv_at hl 1 rfl) ?_
            refine t_get (ci := 12) (lst := ft12 hg mq) (C := RX12) (F := TX12) (N := 36) hx hb hts uX12 hown hkb hH t_a0 (hO.no t_a0 (by decide)) (fun _ h9 => h9) rfl rfl 29 (by decide) rfl kw_1252 (fun _ h9 => h9) dX12_goesTurn_34 (fun v9 h9 => ?_)
            obtain ⟨v34, rfl, t_v34⟩ := h9
            refine lv_iload hx hb dX12_goesTurn_37 (lv_at hl 0 rfl) ?_
            refine t_ild hx hb hkb hH t_v34 (hO.no t_v34 (by decide)) (by omega) (by omega) dX12_goesTurn_39 (fun v39 h9 => ?_)
            refine t_ist hx hb hkb hH hS t_v28 (hO.no t_v28 (by decide)) (by omega) (by omega) (cp_0 _) dX12_goesTurn_40 (fun H locs hH hS => ?_)
            obtain ⟨v41, ev41⟩ : ∃ y : Int32, y = p21_4 + 1 := ⟨_, rfl⟩
            have tv41 : v41.toInt = p21_4.toInt + (1) := by rw [ev41]; exact add_i rfl (by decide) (by omega) (by omega)
            refine lv_iinc (v := v41) (lv' := [(4, .int v41), (0, .ref a0), (1, .int x1)]) hx hb dX12_goesTurn_41 hl (k := 0) rfl (by rw [ev41]; rfl) (by decide) rfl (fun ls hl => ?_)
            refine lv_goto (tgt := 21) hx hb dX12_goesTurn_44 (by decide) ?_
            exact ih21 _ (by omega) v41 _ _ _ rfl (by omega) (by omega) hH hS (lv_sub hl [0, 1, 2] rfl)
      refine lv_istore (lv' := [(4, .int 0), (0, .ref a0), (1, .int x1), (2, .int x2), (3, .int x3)]) hx hb dX12_goesTurn_19 hl (by decide) rfl (fun ls hl => ?_)
      exact J21 _ 0 _ _ _ rfl (by decide) (by decide) hH hS (lv_sub hl [0, 1, 2] rfl)
    · skip
      have fuc9 := full_i x3
      have fvc9 := full_i v6
      have tc9 := g_nlt c9
      exact te_v hx hb hr hlocks hH hS (rfl) dX12_goesTurn_12
set_option maxHeartbeats 4000000 in
set_option maxRecDepth 100000 in
theorem s_M_goesTurn0 (l : Launch) (D : va_G) (cs : CS) (kf : KF) (T : TF) (O : List Nat) (X : va_W) (a0 hg mq : Nat) (x1 : Int32) (x2 : Int32) (x3 : Int32) (t_a0 : T a0 = some (22, hg, mq)) (b_hg : hg < 90) (l_x1 : 0 ≤ x1.toInt) (u_x1 : x1.toInt ≤ 0) (l_x2 : 0 ≤ x2.toInt) (u_x2 : x2.toInt ≤ 31) (hp : pcn 5 x2.toInt.toNat ≤ 5) (hO : okO T O [1, 8, 9, 22]) : TK l D cs kf yX12_goesTurn cX12_goesTurn 7 none { frames := 10, cells := 0, slots := 0, locals := 244 } [.ref a0, .int x1, .int x2, .int x3] T O X (Tv D cs (fun u => u = (T, O, X))) := by
  refine tk_of (by decide) (Nat.le_of_ble_eq_true rfl) (fun p e s m below meth c ls A H locs hx hb hr hml hown hts hlocks hnm hkb hH hS hA hOX hks hE hl => ?_)
  have hown : s.vm.findClass RX12 = some m.cls := hown
  have hl : lv_has ls 7 [(0, .ref a0), (1, .int x1), (2, .int x2), (3, .int x3)] := hl
  refine lv_iload_n hx hb dX12_goesTurn_0 rfl (lv_at hl 2 rfl) ?_
  refine lv_if_ne (tgt := 48) hx hb dX12_goesTurn_1 (by decide) (fun c1 => ?_) (fun c1 => ?_)
  · skip
    have tc1 := f_ne (k := 0) (by decide) c1
    refine lv_iconst (v := 0) hx hb dX12_goesTurn_48 (by decide) ?_
    have J51 : ∀ (n : Nat) (p51_4 : Int32) (H : Heap) (locs : List Loc) (ls : Array Slot), (31 - p51_4.toInt).toNat = n → (0 ≤ p51_4.toInt) → (p51_4.toInt ≤ 31) → HT D cs A T O X H → va_S A s.heap H locs → lv_has ls 7 [(4, .int p51_4), (0, .ref a0), (1, .int x1), (2, .int x2), (3, .int x3)] → W p l e { frames := 10, cells := 0, slots := 0, locals := 244 } s m [.ref a0, .int x1, .int x2, .int x3].toArray below meth c H locs 0 0 (MQ below (Tv D cs (fun u => u = (T, O, X)) A) [.ref a0, .int x1, .int x2, .int x3].toArray s 0 0 A) (F0 m 51 ls []) := by
      intro n
      induction n using Nat.strongRecOn with
      | _ n ih51 =>
        intro p51_4 H locs ls hm51 l_p51_4 u_p51_4 hH hS hl
        refine lv_iload hx hb dX12_goesTurn_51 (lv_at hl 0 rfl) ?_
        refine lv_bipush (v := 31) hx hb dX12_goesTurn_53 (by decide) ?_
        refine lv_icmp_ge (tgt := 86) hx hb dX12_goesTurn_55 (by decide) (fun c55 => ?_) (fun c55 => ?_)
        · skip
          have tc55 := f_ge (k := 31) (by decide) c55
          refine lv_iconst (v := 0) hx hb dX12_goesTurn_86 (by decide) ?_
          have J89 : ∀ (n : Nat) (p89_4 : Int32) (H : Heap) (locs : List Loc) (ls : Array Slot), (5 - p89_4.toInt).toNat = n → (0 ≤ p89_4.toInt) → (p89_4.toInt ≤ 5) → HT D cs A T O X H → va_S A s.heap H locs → lv_has ls 7 [(4, .int p89_4), (0, .ref a0), (1, .int x1), (2, .int x2), (3, .int x3)] → W p l e { frames := 10, cells := 0, slots := 0, locals := 244 } s m [.ref a0, .int x1, .int x2, .int x3].toArray below meth c H locs 0 0 (MQ below (Tv D cs (fun u => u = (T, O, X)) A) [.ref a0, .int x1, .int x2, .int x3].toArray s 0 0 A) (F0 m 89 ls []) := by
            intro n
            induction n using Nat.strongRecOn with
            | _ n ih89 =>
              intro p89_4 H locs ls hm89 l_p89_4 u_p89_4 hH hS hl
              refine lv_iload hx hb dX12_goesTurn_89 (lv_at hl 0 rfl) ?_
              refine lv_aload_n hx hb dX12_goesTurn_91 rfl (lv_at hl 1 rfl) ?_
              refine t_get (ci := 12) (lst := ft12 hg mq) (C := RX12) (F := TX12) (N := 36) hx hb hts uX12 hown hkb hH t_a0 (hO.no t_a0 (by decide)) (fun _ h9 => h9) rfl rfl 1 (by decide) rfl kw_1224 (fun _ h9 => h9) dX12_goesTurn_92 (fun v9 h9 => ?_)
              obtain ⟨v92, rfl, t_v92⟩ := h9
              refine lv_iconst (v := 2) hx hb dX12_goesTurn_95 (by decide) ?_
              refine t_ild8 hx hb hkb hH t_v92 (hO.no t_v92 (by decide)) (by decide) (by decide) (by decide) dX12_goesTurn_96 (fun v96 h9 h8 => ?_)
              have q9 := (h8 rfl).2 rfl
              subst q9
              have eG9 : (nI (hg % 6)).toInt = (((hg % 6) : Nat) : Int) := nI_toInt (by omega)
              refine lv_icmp_ge (tgt := 212) hx hb dX12_goesTurn_97 (by decide) (fun c97 => ?_) (fun c97 => ?_)
              · skip
                have fuc97 := full_i p89_4
                have fvc97 := full_i (nI (hg % 6))
                have tc97 := g_le c97
                exact te_v hx hb hr hlocks hH hS (rfl) dX12_goesTurn_212
              · skip
                have fuc97 := full_i p89_4
                have fvc97 := full_i (nI (hg % 6))
                have tc97 := g_nle c97
                refine lv_iload_n hx hb dX12_goesTurn_100 rfl (lv_at hl 3 rfl) ?_
                refine lv_i2l hx hb dX12_goesTurn_101 rfl ?_
                refine lv_iload hx hb dX12_goesTurn_102 (lv_at hl 0 rfl) ?_
                refine tk_i hH hS hA (tr_S (n := 2) (As := [.long x2.toInt64, .int p89_4]) hx hb hml hown hts hkb hH hOX hks hE hS hA (s_M_isIn2 l D cs kf T O X x2.toInt64 p89_4  (hO.sub (by decide))) kw_1440 kw_1441 kw_13 kw_1442 (by decide +kernel) ⟨Nat.le_of_ble_eq_true rfl, Nat.le_of_ble_eq_true rfl⟩ rfl rfl hl.1 (Nat.le_of_ble_eq_true rfl) dX12_goesTurn_104 ⟨Nat.le_of_ble_eq_true rfl, Nat.le_of_ble_eq_true rfl⟩) (fun v104 u H locs hz9 hH hS => ?_)
                obtain ⟨rfl, l_v104, u_v104, x_v1040⟩ := hz9
                have hH : HT D cs A T O X H := hH
                refine W.widen (k := 0) (n := 0) (Nat.le_of_ble_eq_true rfl) (Nat.le_of_ble_eq_true rfl) ?_
                have J206 : ∀  (H : Heap) (locs : List Loc) (ls : Array Slot), HT D cs A T O X H → va_S A s.heap H locs → lv_has ls 7 [(4, .int p89_4), (0, .ref a0), (1, .int x1), (2, .int x2), (3, .int x3)] → W p l e { frames := 10, cells := 0, slots := 0, locals := 244 } s m [.ref a0, .int x1, .int x2, .int x3].toArray below meth c H locs 0 0 (MQ below (Tv D cs (fun u => u = (T, O, X)) A) [.ref a0, .int x1, .int x2, .int x3].toArray s 0 0 A) (F0 m 206 ls []) := by
                  intro  H locs ls  hH hS hl
                  obtain ⟨v206, ev206⟩ : ∃ y : Int32, y = p89_4 + 1 := ⟨_, rfl⟩
                  have tv206 : v206.toInt = p89_4.toInt + (1) := by rw [ev206]; exact add_i rfl (by decide) (by omega) (by omega)
                  refine lv_iinc (v := v206) (lv' := [(4, .int v206), (0, .ref a0), (1, .int x1), (2, .int x2), (3, .int x3)]) hx hb dX12_goesTurn_206 hl (k := 0) rfl (by rw [ev206]; rfl) (by decide) rfl (fun ls hl => ?_)
                  refine lv_goto (tgt := 89) hx hb dX12_goesTurn_209 (by decide) ?_
                  exact ih89 _ (by omega) v206 _ _ _ rfl (by omega) (by omega) hH hS (lv_sub hl [0, 1, 2, 3, 4] rfl)
                refine lv_if_ne (tgt := 113) hx hb dX12_goesTurn_107 (by decide) (fun c107 => ?_) (fun c107 => ?_)
                · skip
                  have tc107 := f_ne (k := 0) (by decide) c107
                  refine lv_aload_n hx hb dX12_goesTurn_113 rfl (lv_at hl 1 rfl) ?_
                  refine t_get (ci := 12) (lst := ft12 hg mq) (C := RX12) (F := TX12) (N := 36) hx hb hts uX12 hown hkb hH t_a0 (hO.no t_a0 (by decide)) (fun _ h9 => h9) rfl rfl 29 (by decide) rfl kw_1252 (fun _ h9 => h9) dX12_goesTurn_114 (fun v9 h9 => ?_)
                  obtain ⟨v114, rfl, t_v114⟩ := h9
                  refine lv_iload_n hx hb dX12_goesTurn_117 rfl (lv_at hl 2 rfl) ?_
                  refine lv_iload hx hb dX12_goesTurn_118 (lv_at hl 0 rfl) ?_
                  refine t_ist hx hb hkb hH hS t_v114 (hO.no t_v114 (by decide)) (by omega) (by omega) (cp_0 _) dX12_goesTurn_120 (fun H locs hH hS => ?_)
                  refine lv_aload_n hx hb dX12_goesTurn_121 rfl (lv_at hl 1 rfl) ?_
                  refine lv_iload hx hb dX12_goesTurn_122 (lv_at hl 0 rfl) ?_
                  refine tk_i hH hS hA (tr_V (n := 1) (As := [.int p89_4]) hx hb hml hown hts hkb hH hOX hks hE hS hA (s_M_laysWayOf l D cs kf T O X a0 hg mq p89_4 t_a0 b_hg (by omega) (by omega) (hO.sub (by decide))) kw_1560 kw_1562 ks_82 kw_13 kw_1563 (by decide +kernel) ⟨Nat.le_of_ble_eq_true rfl, Nat.le_of_ble_eq_true rfl⟩ (HT.recv (ci := 12) hkb hH t_a0 (hO.no t_a0 (by decide)) rfl) rfl rfl hl.1 (Nat.le_of_ble_eq_true rfl) dX12_goesTurn_124 ⟨Nat.le_of_ble_eq_true rfl, Nat.le_of_ble_eq_true rfl⟩) (fun v124 u H locs hz9 hH hS => ?_)
                  obtain ⟨rfl, l_v124, u_v124⟩ := hz9
                  have hH : HT D cs A T O X H := hH
                  refine W.widen (k := 0) (n := 0) (Nat.le_of_ble_eq_true rfl) (Nat.le_of_ble_eq_true rfl) ?_
                  refine lv_istore (lv' := [(5, .int v124), (4, .int p89_4), (0, .ref a0), (1, .int x1), (2, .int x2), (3, .int x3)]) hx hb dX12_goesTurn_127 hl (by decide) rfl (fun ls hl => ?_)
                  refine lv_iload hx hb dX12_goesTurn_129 (lv_at hl 0 rfl) ?_
                  have J141 : ∀  (H : Heap) (locs : List Loc) (ls : Array Slot), HT D cs A T O X H → va_S A s.heap H locs → lv_has ls 7 [(5, .int v124), (4, .int p89_4), (0, .ref a0), (1, .int x1), (2, .int x2), (3, .int x3)] → W p l e { frames := 10, cells := 0, slots := 0, locals := 244 } s m [.ref a0, .int x1, .int x2, .int x3].toArray below meth c H locs 0 0 (MQ below (Tv D cs (fun u => u = (T, O, X)) A) [.ref a0, .int x1, .int x2, .int x3].toArray s 0 0 A) (F0 m 141 ls []) := by
                    intro  H locs ls  hH hS hl
                    refine lv_aload_n hx hb dX12_goesTurn_141 rfl (lv_at hl 2 rfl) ?_
                    refine lv_iload_n hx hb dX12_goesTurn_142 rfl (lv_at hl 3 rfl) ?_
                    refine lv_iconst (v := 1) hx hb dX12_goesTurn_143 (by decide) ?_
                    refine lv_iadd hx hb dX12_goesTurn_144 ?_
                    refine lv_topi (fun v144 ev144 => ?_)
                    have tv144 : v144.toInt = x1.toInt + (1) := by rw [ev144]; exact add_i rfl (by decide : (1 : Int32).toInt = 1) (by omega) (by omega)
                    refine lv_iload_n hx hb dX12_goesTurn_145 rfl (lv_at hl 4 rfl) ?_
                    refine lv_iconst (v := 1) hx hb dX12_goesTurn_146 (by decide) ?_
                    refine lv_iload hx hb dX12_goesTurn_147 (lv_at hl 1 rfl) ?_
                    refine lv_ishl hx hb dX12_goesTurn_149 ?_
                    refine lv_topi (fun v149 ev149 => ?_)
                    have tv149 : 1 ≤ v149.toInt ∧ v149.toInt ≤ 16 := by rw [ev149]; exact shl_b 4 (by decide) (by omega) (by omega)
                    refine lv_iconst (v := (-1)) hx hb dX12_goesTurn_150 (by decide) ?_
                    refine lv_ixor hx hb dX12_goesTurn_151 ?_
                    refine lv_topi (fun v151 ev151 => ?_)
                    refine lv_iand hx hb dX12_goesTurn_152 ?_
                    refine lv_topi (fun v152 ev152 => ?_)
                    have tv152 : 0 ≤ v152.toInt ∧ v152.toInt ≤ x2.toInt := by rw [ev152]; exact and_l (by omega)
                    have hp9 := gt_step (by omega) (by omega) (by omega) (by omega) (inF_nz x_v1040 tc107) ev149 ev151 ev152
                    refine lv_iload_n hx hb dX12_goesTurn_153 rfl (lv_at hl 5 rfl) ?_
                    refine lv_iload hx hb dX12_goesTurn_154 (lv_at hl 0 rfl) ?_
                    have J164 : ∀ (k164_0 : Int32) (H : Heap) (locs : List Loc) (ls : Array Slot), (0 ≤ k164_0.toInt) → (k164_0.toInt ≤ 1) → HT D cs A T O X H → va_S A s.heap H locs → lv_has ls 7 [(4, .int p89_4), (0, .ref a0), (1, .int x1), (2, .int x2), (3, .int x3)] → W p l e { frames := 10, cells := 0, slots := 0, locals := 244 } s m [.ref a0, .int x1, .int x2, .int x3].toArray below meth c H locs 0 0 (MQ below (Tv D cs (fun u => u = (T, O, X)) A) [.ref a0, .int x1, .int x2, .int x3].toArray s 0 0 A) (F0 m 164 ls [.int k164_0, .int x3, .int v152, .int v144, .ref a0]) := by
                      intro k164_0 H locs ls l_k164_0 u_k164_0 hH hS hl
                      refine lv_iadd hx hb dX12_goesTurn_164 ?_
                      refine lv_topi (fun v164 ev164 => ?_)
                      refine tk_v hH hS hA (tr_V (n := 3) (As := [.int v144, .int v152, .int v164]) hx hb hml hown hts hkb hH hOX hks hE hS hA (s_M_goesTurn1 l D cs kf T O X a0 hg mq v144 v152 v164 t_a0 b_hg (by omega) (by omega) (by omega) (by omega) (by omega) (hO.sub (by decide))) kw_1756 kw_1758 ks_103 kw_13 kw_1759 (by decide +kernel) ⟨Nat.le_of_ble_eq_true rfl, Nat.le_of_ble_eq_true rfl⟩ (HT.recv (ci := 12) hkb hH t_a0 (hO.no t_a0 (by decide)) rfl) rfl rfl hl.1 (Nat.le_of_ble_eq_true rfl) dX12_goesTurn_165 ⟨Nat.le_of_ble_eq_true rfl, Nat.le_of_ble_eq_true rfl⟩) (fun u H locs hz9 hH hS => ?_)
                      obtain ⟨rfl⟩ := hz9
                      have hH : HT D cs A T O X H := hH
                      refine W.widen (k := 0) (n := 0) (Nat.le_of_ble_eq_true rfl) (Nat.le_of_ble_eq_true rfl) ?_
                      refine lv_iconst (v := 0) hx hb dX12_goesTurn_168 (by decide) ?_
                      have J171 : ∀ (n : Nat) (p171_6 : Int32) (H : Heap) (locs : List Loc) (ls : Array Slot), (31 - p171_6.toInt).toNat = n → (0 ≤ p171_6.toInt) → (p171_6.toInt ≤ 31) → HT D cs A T O X H → va_S A s.heap H locs → lv_has ls 7 [(6, .int p171_6), (4, .int p89_4), (0, .ref a0), (1, .int x1), (2, .int x2), (3, .int x3)] → W p l e { frames := 10, cells := 0, slots := 0, locals := 244 } s m [.ref a0, .int x1, .int x2, .int x3].toArray below meth c H locs 0 0 (MQ below (Tv D cs (fun u => u = (T, O, X)) A) [.ref a0, .int x1, .int x2, .int x3].toArray s 0 0 A) (F0 m 171 ls []) := by
                        intro n
                        induction n using Nat.strongRecOn with
                        | _ n ih171 =>
                          intro p171_6 H locs ls hm171 l_p171_6 u_p171_6 hH hS hl
                          refine lv_iload hx hb dX12_goesTurn_171 (lv_at hl 0 rfl) ?_
                          refine lv_bipush (v := 31) hx hb dX12_goesTurn_173 (by decide) ?_
                          refine lv_icmp_ge (tgt := 206) hx hb dX12_goesTurn_175 (by decide) (fun c175 => ?_) (fun c175 => ?_)
                          · skip
                            have tc175 := f_ge (k := 31) (by decide) c175
                            exact J206  _ _ _  hH hS (lv_sub hl [1, 2, 3, 4, 5] rfl)
                          · skip
                            have tc175 := f_nge (k := 31) (by decide) c175
                            refine lv_aload_n hx hb dX12_goesTurn_178 rfl (lv_at hl 2 rfl) ?_
                            refine t_get (ci := 12) (lst := ft12 hg mq) (C := RX12) (F := TX12) (N := 36) hx hb hts uX12 hown hkb hH t_a0 (hO.no t_a0 (by decide)) (fun _ h9 => h9) rfl rfl 1 (by decide) rfl kw_1224 (fun _ h9 => h9) dX12_goesTurn_179 (fun v9 h9 => ?_)
                            obtain ⟨v179, rfl, t_v179⟩ := h9
                            refine lv_bipush (v := 59) hx hb dX12_goesTurn_182 (by decide) ?_
                            refine lv_iload hx hb dX12_goesTurn_184 (lv_at hl 0 rfl) ?_
                            refine lv_iadd hx hb dX12_goesTurn_186 ?_
                            refine lv_topi (fun v186 ev186 => ?_)
                            have tv186 : v186.toInt = (59) + p171_6.toInt := by rw [ev186]; exact add_i (by decide : (59 : Int32).toInt = 59) rfl (by omega) (by omega)
                            refine lv_aload_n hx hb dX12_goesTurn_187 rfl (lv_at hl 2 rfl) ?_
                            refine t_get (ci := 12) (lst := ft12 hg mq) (C := RX12) (F := TX12) (N := 36) hx hb hts uX12 hown hkb hH t_a0 (hO.no t_a0 (by decide)) (fun _ h9 => h9) rfl rfl 31 (by decide) rfl kw_1254 (fun _ h9 => h9) dX12_goesTurn_188 (fun v9 h9 => ?_)
                            obtain ⟨v188, rfl, t_v188⟩ := h9
                            refine lv_bipush (v := 31) hx hb dX12_goesTurn_191 (by decide) ?_
                            refine lv_iload_n hx hb dX12_goesTurn_193 rfl (lv_at hl 3 rfl) ?_
                            refine lv_imul hx hb dX12_goesTurn_194 ?_
                            refine lv_topi (fun v194 ev194 => ?_)
                            have tv194 : v194.toInt = (31) * x1.toInt := by rw [ev194]; exact mul_i (by decide : (31 : Int32).toInt = 31) rfl (by omega) (by omega)
                            refine lv_iload hx hb dX12_goesTurn_195 (lv_at hl 0 rfl) ?_
                            refine lv_iadd hx hb dX12_goesTurn_197 ?_
                            refine lv_topi (fun v197 ev197 => ?_)
                            have tv197 : v197.toInt = v194.toInt + p171_6.toInt := by rw [ev197]; exact add_i rfl rfl (by omega) (by omega)
                            refine t_ild hx hb hkb hH t_v188 (hO.no t_v188 (by decide)) (by omega) (by omega) dX12_goesTurn_198 (fun v198 h9 => ?_)
                            refine t_ist8 hx hb hkb hH hS t_v179 (hO.no t_v179 (by decide)) (by decide) (by omega) (by omega) (by omega) (by omega) (p8_far (by omega) (by omega)) dX12_goesTurn_199 (fun H locs hH hS => ?_)
                            obtain ⟨v200, ev200⟩ : ∃ y : Int32, y = p171_6 + 1 := ⟨_, rfl⟩
                            have tv200 : v200.toInt = p171_6.toInt + (1) := by rw [ev200]; exact add_i rfl (by decide) (by omega) (by omega)
                            refine lv_iinc (v := v200) (lv' := [(6, .int v200), (4, .int p89_4), (0, .ref a0), (1, .int x1), (2, .int x2), (3, .int x3)]) hx hb dX12_goesTurn_200 hl (k := 0) rfl (by rw [ev200]; rfl) (by decide) rfl (fun ls hl => ?_)
                            refine lv_goto (tgt := 171) hx hb dX12_goesTurn_203 (by decide) ?_
                            exact ih171 _ (by omega) v200 _ _ _ rfl (by omega) (by omega) hH hS (lv_sub hl [0, 1, 2, 3, 4, 5] rfl)
                      refine lv_istore (lv' := [(6, .int 0), (4, .int p89_4), (0, .ref a0), (1, .int x1), (2, .int x2), (3, .int x3)]) hx hb dX12_goesTurn_169 hl (by decide) rfl (fun ls hl => ?_)
                      exact J171 _ 0 _ _ _ rfl (by decide) (by decide) hH hS (lv_sub hl [0, 1, 2, 3, 4, 5] rfl)
                    refine lv_if_eq (tgt := 163) hx hb dX12_goesTurn_156 (by decide) (fun c156 => ?_) (fun c156 => ?_)
                    · skip
                      have tc156 := f_eq (k := 0) (by decide) c156
                      refine lv_iconst (v := 0) hx hb dX12_goesTurn_163 (by decide) ?_
                      exact J164 0 _ _ _ (by decide) (by decide) hH hS (lv_sub hl [1, 2, 3, 4, 5] rfl)
                    · skip
                      have tc156 := f_ne (k := 0) (by decide) c156
                      refine lv_iconst (v := 1) hx hb dX12_goesTurn_159 (by decide) ?_
                      refine lv_goto (tgt := 164) hx hb dX12_goesTurn_160 (by decide) ?_
                      exact J164 1 _ _ _ (by decide) (by decide) hH hS (lv_sub hl [1, 2, 3, 4, 5] rfl)
                  refine lv_if_eq (tgt := 141) hx hb dX12_goesTurn_131 (by decide) (fun c131 => ?_) (fun c131 => ?_)
                  · skip
                    have tc131 := f_eq (k := 0) (by decide) c131
                    exact J141  _ _ _  hH hS (lv_sub hl [0, 1, 2, 3, 4, 5] rfl)
                  · skip
                    have tc131 := f_ne (k := 0) (by decide) c131
                    refine lv_aload_n hx hb dX12_goesTurn_134 rfl (lv_at hl 2 rfl) ?_
                    refine lv_iload hx hb dX12_goesTurn_135 (lv_at hl 1 rfl) ?_
                    refine tk_i hH hS hA (tr_V (n := 1) (As := [.int p89_4]) hx hb hml hown hts hkb hH hOX hks hE hS hA (s_M_usesRow l D cs kf T O X a0 hg mq p89_4 t_a0 b_hg (hO.sub (by decide))) kw_1548 kw_1550 ks_80 kw_13 kw_1551 (by decide +kernel) ⟨Nat.le_of_ble_eq_true rfl, Nat.le_of_ble_eq_true rfl⟩ (HT.recv (ci := 12) hkb hH t_a0 (hO.no t_a0 (by decide)) rfl) rfl rfl hl.1 (Nat.le_of_ble_eq_true rfl) dX12_goesTurn_137 ⟨Nat.le_of_ble_eq_true rfl, Nat.le_of_ble_eq_true rfl⟩) (fun v137 u H locs hz9 hH hS => ?_)
                    have hz9 : u = (T, O, X) := hz9
                    subst hz9
                    have hH : HT D cs A T O X H := hH
                    refine W.widen (k := 0) (n := 0) (Nat.le_of_ble_eq_true rfl) (Nat.le_of_ble_eq_true rfl) ?_
                    refine lv_pop hx hb dX12_goesTurn_140 rfl ?_
                    exact J141  _ _ _  hH hS (lv_sub hl [0, 1, 2, 3, 4, 5] rfl)
                · skip
                  have tc107 := f_eq (k := 0) (by decide) c107
                  refine lv_goto (tgt := 206) hx hb dX12_goesTurn_110 (by decide) ?_
                  exact J206  _ _ _  hH hS (lv_sub hl [0, 1, 2, 3, 4] rfl)
          refine lv_istore (lv' := [(4, .int 0), (0, .ref a0), (1, .int x1), (2, .int x2), (3, .int x3)]) hx hb dX12_goesTurn_87 hl (by decide) rfl (fun ls hl => ?_)
          exact J89 _ 0 _ _ _ rfl (by decide) (by decide) hH hS (lv_sub hl [0, 1, 2, 3, 4] rfl)
        · skip
          have tc55 := f_nge (k := 31) (by decide) c55
          refine lv_aload_n hx hb dX12_goesTurn_58 rfl (lv_at hl 1 rfl) ?_
          refine t_get (ci := 12) (lst := ft12 hg mq) (C := RX12) (F := TX12) (N := 36) hx hb hts uX12 hown hkb hH t_a0 (hO.no t_a0 (by decide)) (fun _ h9 => h9) rfl rfl 31 (by decide) rfl kw_1254 (fun _ h9 => h9) dX12_goesTurn_59 (fun v9 h9 => ?_)
          obtain ⟨v59, rfl, t_v59⟩ := h9
          refine lv_bipush (v := 31) hx hb dX12_goesTurn_62 (by decide) ?_
          refine lv_iload_n hx hb dX12_goesTurn_64 rfl (lv_at hl 2 rfl) ?_
          refine lv_imul hx hb dX12_goesTurn_65 ?_
          refine lv_topi (fun v65 ev65 => ?_)
          have tv65 : v65.toInt = (31) * x1.toInt := by rw [ev65]; exact mul_i (by decide : (31 : Int32).toInt = 31) rfl (by omega) (by omega)
          refine lv_iload hx hb dX12_goesTurn_66 (lv_at hl 0 rfl) ?_
          refine lv_iadd hx hb dX12_goesTurn_68 ?_
          refine lv_topi (fun v68 ev68 => ?_)
          have tv68 : v68.toInt = v65.toInt + p51_4.toInt := by rw [ev68]; exact add_i rfl rfl (by omega) (by omega)
          refine lv_aload_n hx hb dX12_goesTurn_69 rfl (lv_at hl 1 rfl) ?_
          refine t_get (ci := 12) (lst := ft12 hg mq) (C := RX12) (F := TX12) (N := 36) hx hb hts uX12 hown hkb hH t_a0 (hO.no t_a0 (by decide)) (fun _ h9 => h9) rfl rfl 1 (by decide) rfl kw_1224 (fun _ h9 => h9) dX12_goesTurn_70 (fun v9 h9 => ?_)
          obtain ⟨v70, rfl, t_v70⟩ := h9
          refine lv_bipush (v := 59) hx hb dX12_goesTurn_73 (by decide) ?_
          refine lv_iload hx hb dX12_goesTurn_75 (lv_at hl 0 rfl) ?_
          refine lv_iadd hx hb dX12_goesTurn_77 ?_
          refine lv_topi (fun v77 ev77 => ?_)
          have tv77 : v77.toInt = (59) + p51_4.toInt := by rw [ev77]; exact add_i (by decide : (59 : Int32).toInt = 59) rfl (by omega) (by omega)
          refine t_ild8 hx hb hkb hH t_v70 (hO.no t_v70 (by decide)) (by decide) (by omega) (by omega) dX12_goesTurn_78 (fun v78 h9 h8 => ?_)
          refine t_ist hx hb hkb hH hS t_v59 (hO.no t_v59 (by decide)) (by omega) (by omega) (cp_0 _) dX12_goesTurn_79 (fun H locs hH hS => ?_)
          obtain ⟨v80, ev80⟩ : ∃ y : Int32, y = p51_4 + 1 := ⟨_, rfl⟩
          have tv80 : v80.toInt = p51_4.toInt + (1) := by rw [ev80]; exact add_i rfl (by decide) (by omega) (by omega)
          refine lv_iinc (v := v80) (lv' := [(4, .int v80), (0, .ref a0), (1, .int x1), (2, .int x2), (3, .int x3)]) hx hb dX12_goesTurn_80 hl (k := 0) rfl (by rw [ev80]; rfl) (by decide) rfl (fun ls hl => ?_)
          refine lv_goto (tgt := 51) hx hb dX12_goesTurn_83 (by decide) ?_
          exact ih51 _ (by omega) v80 _ _ _ rfl (by omega) (by omega) hH hS (lv_sub hl [0, 1, 2, 3, 4] rfl)
    refine lv_istore (lv' := [(4, .int 0), (0, .ref a0), (1, .int x1), (2, .int x2), (3, .int x3)]) hx hb dX12_goesTurn_49 hl (by decide) rfl (fun ls hl => ?_)
    exact J51 _ 0 _ _ _ rfl (by decide) (by decide) hH hS (lv_sub hl [0, 1, 2, 3, 4] rfl)
  · skip
    have tc1 := f_eq (k := 0) (by decide) c1
    refine lv_iload_n hx hb dX12_goesTurn_4 rfl (lv_at hl 3 rfl) ?_
    refine lv_aload_n hx hb dX12_goesTurn_5 rfl (lv_at hl 0 rfl) ?_
    refine t_get (ci := 12) (lst := ft12 hg mq) (C := RX12) (F := TX12) (N := 36) hx hb hts uX12 hown hkb hH t_a0 (hO.no t_a0 (by decide)) (fun _ h9 => h9) rfl rfl 32 (by decide) rfl kw_1255 (fun _ h9 => h9) dX12_goesTurn_6 (fun v9 h9 => ?_)
    obtain ⟨v6, rfl⟩ := h9
    refine lv_icmp_gt (tgt := 13) hx hb dX12_goesTurn_9 (by decide) (fun c9 => ?_) (fun c9 => ?_)
    · skip
      have fuc9 := full_i x3
      have fvc9 := full_i v6
      have tc9 := g_lt c9
      refine lv_aload_n hx hb dX12_goesTurn_13 rfl (lv_at hl 0 rfl) ?_
      refine lv_iload_n hx hb dX12_goesTurn_14 rfl (lv_at hl 3 rfl) ?_
      refine t_put (ci := 12) (lst := ft12 hg mq) (v := .int x3) (ty := tyX12 32) (C := RX12) (F := TX12) (N := 36) hx hb hts uX12 tyX12 tyX12_ok nmX12 hown hkb hH hS t_a0 (hO.no t_a0 (by decide)) (fun _ => Iff.rfl) rfl rfl 32 (by decide) rfl (⟨_, rfl⟩) kw_1255 (fun _ h9 => h9) rfl (tyX12_ok 32 (by decide)) rfl rfl dX12_goesTurn_15 (fun H locs hH hS => ?_)
      refine lv_iconst (v := 0) hx hb dX12_goesTurn_18 (by decide) ?_
      refine lv_istore (lv' := [(4, .int 0), (0, .ref a0), (1, .int x1), (2, .int x2), (3, .int x3)]) hx hb dX12_goesTurn_19 hl (by decide) rfl (fun ls hl => ?_)
      refine lv_iload hx hb dX12_goesTurn_21 (lv_at hl 0 rfl) ?_
      refine lv_iload_n hx hb dX12_goesTurn_23 rfl (lv_at hl 2 rfl) ?_
      refine lv_icmp_ge (tgt := 47) hx hb dX12_goesTurn_24 (by decide) (fun c24 => ?_) (fun c24 => ?_)
      · skip
        have tc24 := f_le (k := 0) (by decide) c24
        exact te_v hx hb hr hlocks hH hS (rfl) dX12_goesTurn_47
      · skip
        have tc24 := f_nle (k := 0) (by decide) c24
        exfalso; omega
    · skip
      have fuc9 := full_i x3
      have fvc9 := full_i v6
      have tc9 := g_nlt c9
      exact te_v hx hb hr hlocks hH hS (rfl) dX12_goesTurn_12
set_option maxHeartbeats 4000000 in
set_option maxRecDepth 100000 in
theorem s_M_inTurn (l : Launch) (D : va_G) (cs : CS) (kf : KF) (T : TF) (O : List Nat) (X : va_W) (a0 hg mq : Nat) (x1 : Int32) (x2 : Int32) (t_a0 : T a0 = some (22, hg, mq)) (b_hg : hg < 90) (hO : okO T O [1, 8, 9, 22]) : TK l D cs kf yX12_inTurn cX12_inTurn 3 (some (.int)) { frames := 11, cells := 0, slots := 0, locals := 270 } [.ref a0, .int x1, .int x2] T O X (Ti D cs (fun r u => u = (T, O, X))) := by
  refine tk_of (by decide) (Nat.le_of_ble_eq_true rfl) (fun p e s m below meth c ls A H locs hx hb hr hml hown hts hlocks hnm hkb hH hS hA hOX hks hE hl => ?_)
  have hown : s.vm.findClass RX12 = some m.cls := hown
  have hl : lv_has ls 3 [(0, .ref a0), (1, .int x1), (2, .int x2)] := hl
  refine lv_aload_n hx hb dX12_inTurn_0 rfl (lv_at hl 0 rfl) ?_
  refine lv_iconst (v := 0) hx hb dX12_inTurn_1 (by decide) ?_
  refine t_put (ci := 12) (lst := ft12 hg mq) (v := .int 0) (ty := tyX12 0) (C := RX12) (F := TX12) (N := 36) hx hb hts uX12 tyX12 tyX12_ok nmX12 hown hkb hH hS t_a0 (hO.no t_a0 (by decide)) (fun _ => Iff.rfl) rfl rfl 0 (by decide) rfl (⟨_, rfl⟩) kw_1223 (fun _ h9 => h9) rfl (tyX12_ok 0 (by decide)) rfl rfl dX12_inTurn_2 (fun H locs hH hS => ?_)
  refine lv_iload_n hx hb dX12_inTurn_5 rfl (lv_at hl 1 rfl) ?_
  refine lv_i2l hx hb dX12_inTurn_6 rfl ?_
  refine lv_lconst (v := 0) hx hb dX12_inTurn_7 (by decide) ?_
  refine lv_iconst (v := 1) hx hb dX12_inTurn_8 (by decide) ?_
  refine lv_aload_n hx hb dX12_inTurn_9 rfl (lv_at hl 0 rfl) ?_
  refine t_get (ci := 12) (lst := ft12 hg mq) (C := RX12) (F := TX12) (N := 36) hx hb hts uX12 hown hkb hH t_a0 (hO.no t_a0 (by decide)) (fun _ h9 => h9) rfl rfl 1 (by decide) rfl kw_1224 (fun _ h9 => h9) dX12_inTurn_10 (fun v9 h9 => ?_)
  obtain ⟨v10, rfl, t_v10⟩ := h9
  refine lv_iconst (v := 2) hx hb dX12_inTurn_13 (by decide) ?_
  refine t_ild8 hx hb hkb hH t_v10 (hO.no t_v10 (by decide)) (by decide) (by decide) (by decide) dX12_inTurn_14 (fun v14 h9 h8 => ?_)
  have q9 := (h8 rfl).2 rfl
  subst q9
  have eG9 : (nI (hg % 6)).toInt = (((hg % 6) : Nat) : Int) := nI_toInt (by omega)
  refine lv_ishl hx hb dX12_inTurn_15 ?_
  refine lv_topi (fun v15 ev15 => ?_)
  have tv15 : 1 ≤ v15.toInt ∧ v15.toInt ≤ 32 := by rw [ev15]; exact shl_b 5 (by decide) (by omega) (by omega)
  refine lv_iconst (v := 1) hx hb dX12_inTurn_16 (by decide) ?_
  refine lv_isub hx hb dX12_inTurn_17 ?_
  refine lv_topi (fun v17 ev17 => ?_)
  have tv17 : v17.toInt = v15.toInt - (1) := by rw [ev17]; exact sub_i rfl (by decide : (1 : Int32).toInt = 1) (by omega) (by omega)
  refine lv_i2l hx hb dX12_inTurn_18 rfl ?_
  refine tk_i hH hS hA (tr_S (n := 3) (As := [.long x1.toInt64, .long 0, .long v17.toInt64]) hx hb hml hown hts hkb hH hOX hks hE hS hA (s_M_within l D cs kf T O X x1.toInt64 0 v17.toInt64  (hO.sub (by decide))) kw_1341 kw_1342 kw_13 kw_1343 (by decide +kernel) ⟨Nat.le_of_ble_eq_true rfl, Nat.le_of_ble_eq_true rfl⟩ rfl rfl hl.1 (Nat.le_of_ble_eq_true rfl) dX12_inTurn_19 ⟨Nat.le_of_ble_eq_true rfl, Nat.le_of_ble_eq_true rfl⟩) (fun v19 u H locs hz9 hH hS => ?_)
  obtain ⟨rfl, l_v19, u_v19, x_v190, x_v191⟩ := hz9
  simp only [Int32.toInt_toInt64] at x_v190 x_v191
  have k9_0 : (0 : Int64).toInt = 0 := by decide
  have hH : HT D cs A T O X H := hH
  refine W.widen (k := 0) (n := 0) (Nat.le_of_ble_eq_true rfl) (Nat.le_of_ble_eq_true rfl) ?_
  refine lv_if_ne (tgt := 28) hx hb dX12_inTurn_22 (by decide) (fun c22 => ?_) (fun c22 => ?_)
  · skip
    have tc22 := f_ne (k := 0) (by decide) c22
    replace x_v190 := x_v190.resolve_left tc22
    clear x_v191
    refine lv_iload_n hx hb dX12_inTurn_28 rfl (lv_at hl 2 rfl) ?_
    refine lv_if_eq (tgt := 49) hx hb dX12_inTurn_29 (by decide) (fun c29 => ?_) (fun c29 => ?_)
    · skip
      have tc29 := f_eq (k := 0) (by decide) c29
      refine lv_aload_n hx hb dX12_inTurn_49 rfl (lv_at hl 0 rfl) ?_
      refine lv_iconst (v := (-1)) hx hb dX12_inTurn_50 (by decide) ?_
      refine t_put (ci := 12) (lst := ft12 hg mq) (v := .int (-1)) (ty := tyX12 32) (C := RX12) (F := TX12) (N := 36) hx hb hts uX12 tyX12 tyX12_ok nmX12 hown hkb hH hS t_a0 (hO.no t_a0 (by decide)) (fun _ => Iff.rfl) rfl rfl 32 (by decide) rfl (⟨_, rfl⟩) kw_1255 (fun _ h9 => h9) rfl (tyX12_ok 32 (by decide)) rfl rfl dX12_inTurn_51 (fun H locs hH hS => ?_)
      have hpl := pcn_le 5 x1.toInt.toNat
      refine lv_aload_n hx hb dX12_inTurn_54 rfl (lv_at hl 0 rfl) ?_
      refine lv_iconst (v := 0) hx hb dX12_inTurn_55 (by decide) ?_
      refine lv_iload_n hx hb dX12_inTurn_56 rfl (lv_at hl 1 rfl) ?_
      refine lv_iconst (v := 0) hx hb dX12_inTurn_57 (by decide) ?_
      have z9_0 : (0 : Int32).toInt = 0 := by decide
      have z9_0 : (0 : Int32).toInt = 0 := by decide
      refine tk_v hH hS hA (tr_V (n := 3) (As := [.int 0, .int x1, .int 0]) hx hb hml hown hts hkb hH hOX hks hE hS hA (s_M_goesTurn0 l D cs kf T O X a0 hg mq (0) x1 (0) t_a0 b_hg (by decide) (by decide) (by omega) (by omega) (by omega) (hO.sub (by decide))) kw_1756 kw_1758 ks_103 kw_13 kw_1759 (by decide +kernel) ⟨Nat.le_of_ble_eq_true rfl, Nat.le_of_ble_eq_true rfl⟩ (HT.recv (ci := 12) hkb hH t_a0 (hO.no t_a0 (by decide)) rfl) rfl rfl hl.1 (Nat.le_of_ble_eq_true rfl) dX12_inTurn_58 ⟨Nat.le_of_ble_eq_true rfl, Nat.le_of_ble_eq_true rfl⟩) (fun u H locs hz9 hH hS => ?_)
      obtain ⟨rfl⟩ := hz9
      have hH : HT D cs A T O X H := hH
      refine W.widen (k := 0) (n := 0) (Nat.le_of_ble_eq_true rfl) (Nat.le_of_ble_eq_true rfl) ?_
      refine lv_iload_n hx hb dX12_inTurn_61 rfl (lv_at hl 2 rfl) ?_
      refine lv_if_ne (tgt := 72) hx hb dX12_inTurn_62 (by decide) (fun c62 => ?_) (fun c62 => ?_)
      · skip
        have tc62 := f_ne (k := 0) (by decide) c62
        exfalso; omega
      · skip
        have tc62 := f_eq (k := 0) (by decide) c62
        refine lv_aload_n hx hb dX12_inTurn_65 rfl (lv_at hl 0 rfl) ?_
        refine t_get (ci := 12) (lst := ft12 hg mq) (C := RX12) (F := TX12) (N := 36) hx hb hts uX12 hown hkb hH t_a0 (hO.no t_a0 (by decide)) (fun _ h9 => h9) rfl rfl 32 (by decide) rfl kw_1255 (fun _ h9 => h9) dX12_inTurn_66 (fun v9 h9 => ?_)
        obtain ⟨v66, rfl⟩ := h9
        refine lv_goto (tgt := 96) hx hb dX12_inTurn_69 (by decide) ?_
        exact te_i hx hb hr hlocks hH hS (rfl) dX12_inTurn_96
    · skip
      have tc29 := f_ne (k := 0) (by decide) c29
      refine lv_iload_n hx hb dX12_inTurn_32 rfl (lv_at hl 2 rfl) ?_
      refine lv_i2l hx hb dX12_inTurn_33 rfl ?_
      refine lv_ldc2 hx hb hown (hts _ kw_1602) dX12_inTurn_34 ?_
      refine lv_ldc2 hx hb hown (hts _ kw_1581) dX12_inTurn_37 ?_
      refine tk_i hH hS hA (tr_S (n := 3) (As := [.long x2.toInt64, .long 10, .long 14]) hx hb hml hown hts hkb hH hOX hks hE hS hA (s_M_within l D cs kf T O X x2.toInt64 10 14  (hO.sub (by decide))) kw_1341 kw_1342 kw_13 kw_1343 (by decide +kernel) ⟨Nat.le_of_ble_eq_true rfl, Nat.le_of_ble_eq_true rfl⟩ rfl rfl hl.1 (Nat.le_of_ble_eq_true rfl) dX12_inTurn_40 ⟨Nat.le_of_ble_eq_true rfl, Nat.le_of_ble_eq_true rfl⟩) (fun v40 u H locs hz9 hH hS => ?_)
      obtain ⟨rfl, l_v40, u_v40, x_v400, x_v401⟩ := hz9
      simp only [Int32.toInt_toInt64] at x_v400 x_v401
      have k9_10 : (10 : Int64).toInt = 10 := by decide
      have k9_14 : (14 : Int64).toInt = 14 := by decide
      have hH : HT D cs A T O X H := hH
      refine W.widen (k := 0) (n := 0) (Nat.le_of_ble_eq_true rfl) (Nat.le_of_ble_eq_true rfl) ?_
      refine lv_if_ne (tgt := 49) hx hb dX12_inTurn_43 (by decide) (fun c43 => ?_) (fun c43 => ?_)
      · skip
        have tc43 := f_ne (k := 0) (by decide) c43
        replace x_v400 := x_v400.resolve_left tc43
        clear x_v401
        refine lv_aload_n hx hb dX12_inTurn_49 rfl (lv_at hl 0 rfl) ?_
        refine lv_iconst (v := (-1)) hx hb dX12_inTurn_50 (by decide) ?_
        refine t_put (ci := 12) (lst := ft12 hg mq) (v := .int (-1)) (ty := tyX12 32) (C := RX12) (F := TX12) (N := 36) hx hb hts uX12 tyX12 tyX12_ok nmX12 hown hkb hH hS t_a0 (hO.no t_a0 (by decide)) (fun _ => Iff.rfl) rfl rfl 32 (by decide) rfl (⟨_, rfl⟩) kw_1255 (fun _ h9 => h9) rfl (tyX12_ok 32 (by decide)) rfl rfl dX12_inTurn_51 (fun H locs hH hS => ?_)
        have hpl := pcn_le 5 x1.toInt.toNat
        refine lv_aload_n hx hb dX12_inTurn_54 rfl (lv_at hl 0 rfl) ?_
        refine lv_iconst (v := 0) hx hb dX12_inTurn_55 (by decide) ?_
        refine lv_iload_n hx hb dX12_inTurn_56 rfl (lv_at hl 1 rfl) ?_
        refine lv_iconst (v := 0) hx hb dX12_inTurn_57 (by decide) ?_
        have z9_0 : (0 : Int32).toInt = 0 := by decide
        have z9_0 : (0 : Int32).toInt = 0 := by decide
        refine tk_v hH hS hA (tr_V (n := 3) (As := [.int 0, .int x1, .int 0]) hx hb hml hown hts hkb hH hOX hks hE hS hA (s_M_goesTurn0 l D cs kf T O X a0 hg mq (0) x1 (0) t_a0 b_hg (by decide) (by decide) (by omega) (by omega) (by omega) (hO.sub (by decide))) kw_1756 kw_1758 ks_103 kw_13 kw_1759 (by decide +kernel) ⟨Nat.le_of_ble_eq_true rfl, Nat.le_of_ble_eq_true rfl⟩ (HT.recv (ci := 12) hkb hH t_a0 (hO.no t_a0 (by decide)) rfl) rfl rfl hl.1 (Nat.le_of_ble_eq_true rfl) dX12_inTurn_58 ⟨Nat.le_of_ble_eq_true rfl, Nat.le_of_ble_eq_true rfl⟩) (fun u H locs hz9 hH hS => ?_)
        obtain ⟨rfl⟩ := hz9
        have hH : HT D cs A T O X H := hH
        refine W.widen (k := 0) (n := 0) (Nat.le_of_ble_eq_true rfl) (Nat.le_of_ble_eq_true rfl) ?_
        refine lv_iload_n hx hb dX12_inTurn_61 rfl (lv_at hl 2 rfl) ?_
        refine lv_if_ne (tgt := 72) hx hb dX12_inTurn_62 (by decide) (fun c62 => ?_) (fun c62 => ?_)
        · skip
          have tc62 := f_ne (k := 0) (by decide) c62
          refine lv_iload_n hx hb dX12_inTurn_72 rfl (lv_at hl 2 rfl) ?_
          refine lv_bipush (v := 10) hx hb dX12_inTurn_73 (by decide) ?_
          refine lv_isub hx hb dX12_inTurn_75 ?_
          refine lv_topi (fun v75 ev75 => ?_)
          have tv75 : v75.toInt = x2.toInt - (10) := by rw [ev75]; exact sub_i rfl (by decide : (10 : Int32).toInt = 10) (by omega) (by omega)
          refine lv_iload_n hx hb dX12_inTurn_76 rfl (lv_at hl 1 rfl) ?_
          refine tk_i hH hS hA (tr_S (n := 1) (As := [.int x1]) hx hb hml hown hts hkb hH hOX hks hE hS hA (s_M_bitsOf l D cs kf T O X x1  (hO.sub (by decide))) kw_1631 kw_1632 kw_13 kw_1633 (by decide +kernel) ⟨Nat.le_of_ble_eq_true rfl, Nat.le_of_ble_eq_true rfl⟩ rfl rfl hl.1 (Nat.le_of_ble_eq_true rfl) dX12_inTurn_77 ⟨Nat.le_of_ble_eq_true rfl, Nat.le_of_ble_eq_true rfl⟩) (fun v77 u H locs hz9 hH hS => ?_)
          have hz9 : u = (T, O, X) := hz9
          subst hz9
          have hH : HT D cs A T O X H := hH
          refine W.widen (k := 0) (n := 0) (Nat.le_of_ble_eq_true rfl) (Nat.le_of_ble_eq_true rfl) ?_
          refine lv_icmp_ge (tgt := 95) hx hb dX12_inTurn_80 (by decide) (fun c80 => ?_) (fun c80 => ?_)
          · skip
            have fuc80 := full_i v75
            have fvc80 := full_i v77
            have tc80 := g_le c80
            refine lv_iconst (v := (-1)) hx hb dX12_inTurn_95 (by decide) ?_
            exact te_i hx hb hr hlocks hH hS (rfl) dX12_inTurn_96
          · skip
            have fuc80 := full_i v75
            have fvc80 := full_i v77
            have tc80 := g_nle c80
            refine lv_aload_n hx hb dX12_inTurn_83 rfl (lv_at hl 0 rfl) ?_
            refine t_get (ci := 12) (lst := ft12 hg mq) (C := RX12) (F := TX12) (N := 36) hx hb hts uX12 hown hkb hH t_a0 (hO.no t_a0 (by decide)) (fun _ h9 => h9) rfl rfl 30 (by decide) rfl kw_1253 (fun _ h9 => h9) dX12_inTurn_84 (fun v9 h9 => ?_)
            obtain ⟨v84, rfl, t_v84⟩ := h9
            refine lv_iload_n hx hb dX12_inTurn_87 rfl (lv_at hl 2 rfl) ?_
            refine lv_bipush (v := 10) hx hb dX12_inTurn_88 (by decide) ?_
            refine lv_isub hx hb dX12_inTurn_90 ?_
            refine lv_topi (fun v90 ev90 => ?_)
            have tv90 : v90.toInt = x2.toInt - (10) := by rw [ev90]; exact sub_i rfl (by decide : (10 : Int32).toInt = 10) (by omega) (by omega)
            refine t_ild hx hb hkb hH t_v84 (hO.no t_v84 (by decide)) (by omega) (by omega) dX12_inTurn_91 (fun v91 h9 => ?_)
            refine lv_goto (tgt := 96) hx hb dX12_inTurn_92 (by decide) ?_
            exact te_i hx hb hr hlocks hH hS (rfl) dX12_inTurn_96
        · skip
          have tc62 := f_eq (k := 0) (by decide) c62
          exfalso; omega
      · skip
        have tc43 := f_eq (k := 0) (by decide) c43
        clear x_v400
        replace x_v401 := x_v401.resolve_left (fun q9 => q9 tc43)
        refine lv_bipush (v := (-2)) hx hb dX12_inTurn_46 (by decide) ?_
        exact te_i hx hb hr hlocks hH hS (rfl) dX12_inTurn_48
  · skip
    have tc22 := f_eq (k := 0) (by decide) c22
    clear x_v190
    replace x_v191 := x_v191.resolve_left (fun q9 => q9 tc22)
    refine lv_bipush (v := (-3)) hx hb dX12_inTurn_25 (by decide) ?_
    exact te_i hx hb hr hlocks hH hS (rfl) dX12_inTurn_27
