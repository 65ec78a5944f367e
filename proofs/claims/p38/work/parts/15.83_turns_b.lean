set_option maxHeartbeats 4000000 in
set_option maxRecDepth 100000 in
theorem s_M_goesTurn5 (l : Launch) (D : va_G) (cs : CS) (kf : KF) (T : TF) (O : List Nat) (X : va_W) (a0 hg mq : Nat) (x1 : Int32) (x2 : Int32) (x3 : Int32) (t_a0 : T a0 = some (22, hg, mq)) (b_hg : hg < 90) (l_x1 : 5 ≤ x1.toInt) (u_x1 : x1.toInt ≤ 5) (l_x2 : 0 ≤ x2.toInt) (u_x2 : x2.toInt ≤ 0) (hp : pcn 5 x2.toInt.toNat ≤ 0) (hO : okO T O [1, 22]) : TK l D cs kf yX12_goesTurn cX12_goesTurn 7 none { frames := 0, cells := 0, slots := 0, locals := 0 } [.ref a0, .int x1, .int x2, .int x3] T O X (Tv D cs (fun u => u = (T, O, X))) := by
  refine tk_of (by decide) (Nat.le_of_ble_eq_true rfl) (fun p e s m below meth c ls A H locs hx hb hr hml hown hts hlocks hnm hkb hH hS hA hOX hks hE hl => ?_)
  have hown : s.vm.findClass RX12 = some m.cls := hown
  have hl : lv_has ls 7 [(0, .ref a0), (1, .int x1), (2, .int x2), (3, .int x3)] := hl
  refine lv_iload_n hx hb dX12_goesTurn_0 rfl (lv_at hl 2 rfl) ?_
  refine lv_if_ne (tgt := 48) hx hb dX12_goesTurn_1 (by decide) (fun c1 => ?_) (fun c1 => ?_)
  · skip
    have tc1 := f_ne (k := 0) (by decide) c1
    exfalso; omega
  · skip
    have tc1 := f_eq (k := 0) (by decide) c1
    refine lv_iload_n hx hb dX12_goesTurn_4 rfl (lv_at hl 3 rfl) ?_
    refine lv_aload_n hx hb dX12_goesTurn_5 rfl (lv_at hl 0 rfl) ?_
    refine t_get (ci := 12) (lst := ft12 hg mq) (C := RX12) (F := TX12) (N := 36) hx hb hts uX12 hown hkb hH t_a0 (hO.no t_a0 (by decide)) (fun _ h9 => h9) rfl rfl 32 (by decide) rfl kw_1255 (fun _ h9 => h9) dX12_goesTurn_6 (fun v9 h9 => ?_)
    obtain ⟨v6, rfl⟩ := h9
    refine lv_icmp_gt (tgt := 13) hx hb dX12_goesTurn_9 (by decide) (fun c9 => ?_) (fun c9 => ?_)
    · skip
      have fuc9 := full_i x3
      have fvc9 := full_i v6
      have tc9 := g_lt c9
      refine lv_aload_n hx hb dX12_goesTurn_13 rfl (lv_at hl 0 rfl) ?_
      refine lv_iload_n hx hb dX12_goesTurn_14 rfl (lv_at hl 3 rfl) ?_
      refine t_put (ci := 12) (lst := ft12 hg mq) (v := .int x3) (ty := tyX12 32) (C := RX12) (F := TX12) (N := 36) hx hb hts uX12 tyX12 tyX12_ok nmX12 hown hkb hH hS t_a0 (hO.no t_a0 (by decide)) (fun _ => Iff.rfl) rfl rfl 32 (by decide) rfl (⟨_, rfl⟩) kw_1255 (fun _ h9 => h9) rfl (tyX12_ok 32 (by decide)) rfl rfl dX12_goesTurn_15 (fun H locs hH hS => ?_)
      refine lv_iconst (v := 0) hx hb dX12_goesTurn_18 (by decide) ?_
      have J21 : ∀ (n : Nat) (p21_4 : Int32) (H : Heap) (locs : List Loc) (ls : Array Slot), (5 - p21_4.toInt).toNat = n → (0 ≤ p21_4.toInt) → (p21_4.toInt ≤ 5) → HT D cs A T O X H → va_S A s.heap H locs → lv_has ls 7 [(4, .int p21_4), (0, .ref a0), (1, .int x1)] → W p l e { frames := 0, cells := 0, slots := 0, locals := 0 } s m [.ref a0, .int x1, .int x2, .int x3].toArray below meth c H locs 0 0 (MQ below (Tv D cs (fun u => u = (T, O, X)) A) [.ref a0, .int x1, .int x2, .int x3].toArray s 0 0 A) (F0 m 21 ls []) := by
        intro n
        induction n using Nat.strongRecOn with
        | _ n ih21 =>
          intro p21_4 H locs ls hm21 l_p21_4 u_p21_4 hH hS hl
          refine lv_iload hx hb dX12_goesTurn_21 (lv_at hl 0 rfl) ?_
          refine lv_iload_n hx hb dX12_goesTurn_23 rfl (lv_at hl 2 rfl) ?_
          refine lv_icmp_ge (tgt := 47) hx hb dX12_goesTurn_24 (by decide) (fun c24 => ?_) (fun c24 => ?_)
          · skip
            have fuc24 := full_i p21_4
            have fvc24 := full_i x1
            have tc24 := g_le c24
            exact te_v hx hb hr hlocks hH hS (rfl) dX12_goesTurn_47
          · skip
            have fuc24 := full_i p21_4
            have fvc24 := full_i x1
            have tc24 := g_nle c24
            refine lv_aload_n hx hb dX12_goesTurn_27 rfl (lv_at hl 1 rfl) ?_
            refine t_get (ci := 12) (lst := ft12 hg mq) (C := RX12) (F := TX12) (N := 36) hx hb hts uX12 hown hkb hH t_a0 (hO.no t_a0 (by decide)) (fun _ h9 => h9) rfl rfl 30 (by decide) rfl kw_1253 (fun _ h9 => h9) dX12_goesTurn_28 (fun v9 h9 => ?_)
            obtain ⟨v28, rfl, t_v28⟩ := h9
            refine lv_iload hx hb dX12_goesTurn_31 (lv_at hl 0 rfl) ?_
            refine lv_aload_n hx hb dX12_goesTurn_33 rfl (lv_at hl 1 rfl) ?_
            refine t_get (ci := 12) (lst := ft12 hg mq) (C := RX12) (F := TX12) (N := 36) hx hb hts uX12 hown hkb hH t_a0 (hO.no t_a0 (by decide)) (fun _ h9 => h9) rfl rfl 29 (by decide) rfl kw_1252 (fun _ h9 => h9) dX12_goesTurn_34 (fun v9 h9 => ?_)
            obtain ⟨v34, rfl, t_v34⟩ := h9
            refine lv_iload hx hb dX12_goesTurn_37 (lv_at hl 0 rfl) ?_
            refine t_ild hx hb hkb hH t_v34 (hO.no t_v34 (by decide)) (by omega) (by omega) dX12_goesTurn_39 (fun v39 h9 => ?_)
            refine t_ist hx hb hkb hH hS t_v28 (hO.no t_v28 (by decide)) (by omega) (by omega) (cp_0 _) dX12_goesTurn_40 (fun H locs hH hS => ?_)
            obtain ⟨v41, ev41⟩ : ∃ y : Int32, y = p21_4 + 1 := ⟨_, rfl⟩
            have tv41 : v41.toInt = p21_4.toInt + (1) := by rw [ev41]; exact add_i rfl (by decide) (by omega) (by omega)
            refine lv_iinc (v := v41) (lv' := [(4, .int v41), (0, .ref a0), (1, .int x1)]) hx hb dX12_goesTurn_41 hl (k := 0) rfl (by rw [ev41]; rfl) (by decide) rfl (fun ls hl => ?_)
            refine lv_goto (tgt := 21) hx hb dX12_goesTurn_44 (by decide) ?_
            exact ih21 _ (by omega) v41 _ _ _ rfl (by omega) (by omega) hH hS (lv_sub hl [0, 1, 2] rfl)
      refine lv_istore (lv' := [(4, .int 0), (0, .ref a0), (1, .int x1), (2, .int x2), (3, .int x3)]) hx hb dX12_goesTurn_19 hl (by decide) rfl (fun ls hl => ?_)
      exact J21 _ 0 _ _ _ rfl (by decide) (by decide) hH hS (lv_sub hl [0, 1, 2] rfl)
    · skip
      have fuc9 := full_i x3
      have fvc9 := full_i v6
      have tc9 := g_nlt c9
      exact te_v hx hb hr hlocks hH hS (rfl) dX12_goesTurn_12
set_option maxHeartbeats 4000000 in
set_option maxRecDepth 100000 in
theorem s_M_goesTurn4 (l : Launch) (D : va_G) (cs : CS) (kf : KF) (T : TF) (O : List Nat) (X : va_W) (a0 hg mq : Nat) (x1 : Int32) (x2 : Int32) (x3 : Int32) (t_a0 : T a0 = some (22, hg, mq)) (b_hg : hg < 90) (l_x1 : 4 ≤ x1.toInt) (u_x1 : x1.toInt ≤ 4) (l_x2 : 0 ≤ x2.toInt) (u_x2 : x2.toInt ≤ 31) (hp : pcn 5 x2.toInt.toNat ≤ 1) (hO : okO T O [1, 8, 9, 22]) : TK l D cs kf yX12_goesTurn cX12_goesTurn 7 none { frames := 6, cells := 0, slots := 0, locals := 140 } [.ref a0, .int x1, .int x2, .int x3] T O X (Tv D cs (fun u => u = (T, O, X))) := by
  refine tk_of (by decide) (Nat.le_of_ble_eq_true rfl) (fun p e s m below meth c ls A H locs hx hb hr hml hown hts hlocks hnm hkb hH hS hA hOX hks hE hl => ?_)
  have hown : s.vm.findClass RX12 = some m.cls := hown
  have hl : lv_has ls 7 [(0, .ref a0), (1, .int x1), (2, .int x2), (3, .int x3)] := hl
  refine lv_iload_n hx hb dX12_goesTurn_0 rfl (lv_at hl 2 rfl) ?_
  refine lv_if_ne (tgt := 48) hx hb dX12_goesTurn_1 (by decide) (fun c1 => ?_) (fun c1 => ?_)
  · skip
    have tc1 := f_ne (k := 0) (by decide) c1
    refine lv_iconst (v := 0) hx hb dX12_goesTurn_48 (by decide) ?_
    have J51 : ∀ (n : Nat) (p51_4 : Int32) (H : Heap) (locs : List Loc) (ls : Array Slot), (31 - p51_4.toInt).toNat = n → (0 ≤ p51_4.toInt) → (p51_4.toInt ≤ 31) → HT D cs A T O X H → va_S A s.heap H locs → lv_has ls 7 [(4, .int p51_4), (0, .ref a0), (1, .int x1), (2, .int x2), (3, .int x3)] → W p l e { frames := 6, cells := 0, slots := 0, locals := 140 } s m [.ref a0, .int x1, .int x2, .int x3].toArray below meth c H locs 0 0 (MQ below (Tv D cs (fun u => u = (T, O, X)) A) [.ref a0, .int x1, .int x2, .int x3].toArray s 0 0 A) (F0 m 51 ls []) := by
      intro n
      induction n using Nat.strongRecOn with
      | _ n ih51 =>
        intro p51_4 H locs ls hm51 l_p51_4 u_p51_4 hH hS hl
        refine lv_iload hx hb dX12_goesTurn_51 (lv_at hl 0 rfl) ?_
        refine lv_bipush (v := 31) hx hb dX12_goesTurn_53 (by decide) ?_
        refine lv_icmp_ge (tgt := 86) hx hb dX12_goesTurn_55 (by decide) (fun c55 => ?_) (fun c55 => ?_)
        · skip
          have tc55 := f_ge (k := 31) (by decide) c55
          refine lv_iconst (v := 0) hx hb dX12_goesTurn_86 (by decide) ?_
          have J89 : ∀ (n : Nat) (p89_4 : Int32) (H : Heap) (locs : List Loc) (ls : Array Slot), (5 - p89_4.toInt).toNat = n → (0 ≤ p89_4.toInt) → (p89_4.toInt ≤ 5) → HT D cs A T O X H → va_S A s.heap H locs → lv_has ls 7 [(4, .int p89_4), (0, .ref a0), (1, .int x1), (2, .int x2), (3, .int x3)] → W p l e { frames := 6, cells := 0, slots := 0, locals := 140 } s m [.ref a0, .int x1, .int x2, .int x3].toArray below meth c H locs 0 0 (MQ below (Tv D cs (fun u => u = (T, O, X)) A) [.ref a0, .int x1, .int x2, .int x3].toArray s 0 0 A) (F0 m 89 ls []) := by
            intro n
            induction n using Nat.strongRecOn with
            | _ n ih89 =>
              intro p89_4 H locs ls hm89 l_p89_4 u_p89_4 hH hS hl
              refine lv_iload hx hb dX12_goesTurn_89 (lv_at hl 0 rfl) ?_
              refine lv_aload_n hx hb dX12_goesTurn_91 rfl (lv_at hl 1 rfl) ?_
              refine t_get (ci := 12) (lst := ft12 hg mq) (C := RX12) (F := TX12) (N := 36) hx hb hts uX12 hown hkb hH t_a0 (hO.no t_a0 (by decide)) (fun _ h9 => h9) rfl rfl 1 (by decide) rfl kw_1224 (fun _ h9 => h9) dX12_goesTurn_92 (fun v9 h9 => ?_)
              obtain ⟨v92, rfl, t_v92⟩ := h9
              refine lv_iconst (v := 2) hx hb dX12_goesTurn_95 (by decide) ?_
              refine t_ild8 hx hb hkb hH t_v92 (hO.no t_v92 (by decide)) (by decide) (by decide) (by decide) dX12_goesTurn_96 (fun v96 h9 h8 => ?_)
              have q9 := (h8 rfl).2 rfl
              subst q9
              have eG9 : (nI (hg % 6)).toInt = (((hg % 6) : Nat) : Int) := nI_toInt (by omega)
              refine lv_icmp_ge (tgt := 212) hx hb dX12_goesTurn_97 (by decide) (fun c97 => ?_) (fun c97 => ?_)
              · skip
                have fuc97 := full_i p89_4
                have fvc97 := full_i (nI (hg % 6))
                have tc97 := g_le c97
                exact te_v hx hb hr hlocks hH hS (rfl) dX12_goesTurn_212
              · skip
                have fuc97 := full_i p89_4
                have fvc97 := full_i (nI (hg % 6))
                have tc97 := g_nle c97
                refine lv_iload_n hx hb dX12_goesTurn_100 rfl (lv_at hl 3 rfl) ?_
                refine lv_i2l hx hb dX12_goesTurn_101 rfl ?_
                refine lv_iload hx hb dX12_goesTurn_102 (lv_at hl 0 rfl) ?_
                refine tk_i hH hS hA (tr_S (n := 2) (As := [.long x2.toInt64, .int p89_4]) hx hb hml hown hts hkb hH hOX hks hE hS hA (s_M_isIn2 l D cs kf T O X x2.toInt64 p89_4  (hO.sub (by decide))) kw_1440 kw_1441 kw_13 kw_1442 (by decide +kernel) ⟨Nat.le_of_ble_eq_true rfl, Nat.le_of_ble_eq_true rfl⟩ rfl rfl hl.1 (Nat.le_of_ble_eq_true rfl) dX12_goesTurn_104 ⟨Nat.le_of_ble_eq_true rfl, Nat.le_of_ble_eq_true rfl⟩) (fun v104 u H locs hz9 hH hS => ?_)
                obtain ⟨rfl, l_v104, u_v104, x_v1040⟩ := hz9
                have hH : HT D cs A T O X H := hH
                refine W.widen (k := 0) (n := 0) (Nat.le_of_ble_eq_true rfl) (Nat.le_of_ble_eq_true rfl) ?_
                have J206 : ∀  (H : Heap) (locs : List Loc) (ls : Array Slot), HT D cs A T O X H → va_S A s.heap H locs → lv_has ls 7 [(4, .int p89_4), (0, .ref a0), (1, .int x1), (2, .int x2), (3, .int x3)] → W p l e { frames := 6, cells := 0, slots := 0, locals := 140 } s m [.ref a0, .int x1, .int x2, .int x3].toArray below meth c H locs 0 0 (MQ below (Tv D cs (fun u => u = (T, O, X)) A) [.ref a0, .int x1, .int x2, .int x3].toArray s 0 0 A) (F0 m 206 ls []) := by
                  intro  H locs ls  hH hS hl
                  obtain ⟨v206, ev206⟩ : ∃ y : Int32, y = p89_4 + 1 := ⟨_, rfl⟩
                  have tv206 : v206.toInt = p89_4.toInt + (1) := by rw [ev206]; exact add_i rfl (by decide) (by omega) (by omega)
                  refine lv_iinc (v := v206) (lv' := [(4, .int v206), (0, .ref a0), (1, .int x1), (2, .int x2), (3, .int x3)]) hx hb dX12_goesTurn_206 hl (k := 0) rfl (by rw [ev206]; rfl) (by decide) rfl (fun ls hl => ?_)
                  refine lv_goto (tgt := 89) hx hb dX12_goesTurn_209 (by decide) ?_
                  exact ih89 _ (by omega) v206 _ _ _ rfl (by omega) (by omega) hH hS (lv_sub hl [0, 1, 2, 3, 4] rfl)
                refine lv_if_ne (tgt := 113) hx hb dX12_goesTurn_107 (by decide) (fun c107 => ?_) (fun c107 => ?_)
                · skip
                  have tc107 := f_ne (k := 0) (by decide) c107
                  refine lv_aload_n hx hb dX12_goesTurn_113 rfl (lv_at hl 1 rfl) ?_
                  refine t_get (ci := 12) (lst := ft12 hg mq) (C := RX12) (F := TX12) (N := 36) hx hb hts uX12 hown hkb hH t_a0 (hO.no t_a0 (by decide)) (fun _ h9 => h9) rfl rfl 29 (by decide) rfl kw_1252 (fun _ h9 => h9) dX12_goesTurn_114 (fun v9 h9 => ?_)
                  obtain ⟨v114, rfl, t_v114⟩ := h9
                  refine lv_iload_n hx hb dX12_goesTurn_117 rfl (lv_at hl 2 rfl) ?_
                  refine lv_iload hx hb dX12_goesTurn_118 (lv_at hl 0 rfl) ?_
                  refine t_ist hx hb hkb hH hS t_v114 (hO.no t_v114 (by decide)) (by omega) (by omega) (cp_0 _) dX12_goesTurn_120 (fun H locs hH hS => ?_)
                  refine lv_aload_n hx hb dX12_goesTurn_121 rfl (lv_at hl 1 rfl) ?_
                  refine lv_iload hx hb dX12_goesTurn_122 (lv_at hl 0 rfl) ?_
                  refine tk_i hH hS hA (tr_V (n := 1) (As := [.int p89_4]) hx hb hml hown hts hkb hH hOX hks hE hS hA (s_M_laysWayOf l D cs kf T O X a0 hg mq p89_4 t_a0 b_hg (by omega) (by omega) (hO.sub (by decide))) kw_1560 kw_1562 ks_82 kw_13 kw_1563 (by decide +kernel) ⟨Nat.le_of_ble_eq_true rfl, Nat.le_of_ble_eq_true rfl⟩ (HT.recv (ci := 12) hkb hH t_a0 (hO.no t_a0 (by decide)) rfl) rfl rfl hl.1 (Nat.le_of_ble_eq_true rfl) dX12_goesTurn_124 ⟨Nat.le_of_ble_eq_true rfl, Nat.le_of_ble_eq_true rfl⟩) (fun v124 u H locs hz9 hH hS => ?_)
                  obtain ⟨rfl, l_v124, u_v124⟩ := hz9
                  have hH : HT D cs A T O X H := hH
                  refine W.widen (k := 0) (n := 0) (Nat.le_of_ble_eq_true rfl) (Nat.le_of_ble_eq_true rfl) ?_
                  refine lv_istore (lv' := [(5, .int v124), (4, .int p89_4), (0, .ref a0), (1, .int x1), (2, .int x2), (3, .int x3)]) hx hb dX12_goesTurn_127 hl (by decide) rfl (fun ls hl => ?_)
                  refine lv_iload hx hb dX12_goesTurn_129 (lv_at hl 0 rfl) ?_
                  have J141 : ∀  (H : Heap) (locs : List Loc) (ls : Array Slot), HT D cs A T O X H → va_S A s.heap H locs → lv_has ls 7 [(5, .int v124), (4, .int p89_4), (0, .ref a0), (1, .int x1), (2, .int x2), (3, .int x3)] → W p l e { frames := 6, cells := 0, slots := 0, locals := 140 } s m [.ref a0, .int x1, .int x2, .int x3].toArray below meth c H locs 0 0 (MQ below (Tv D cs (fun u => u = (T, O, X)) A) [.ref a0, .int x1, .int x2, .int x3].toArray s 0 0 A) (F0 m 141 ls []) := by
                    intro  H locs ls  hH hS hl
                    refine lv_aload_n hx hb dX12_goesTurn_141 rfl (lv_at hl 2 rfl) ?_
                    refine lv_iload_n hx hb dX12_goesTurn_142 rfl (lv_at hl 3 rfl) ?_
                    refine lv_iconst (v := 1) hx hb dX12_goesTurn_143 (by decide) ?_
                    refine lv_iadd hx hb dX12_goesTurn_144 ?_
                    refine lv_topi (fun v144 ev144 => ?_)
                    have tv144 : v144.toInt = x1.toInt + (1) := by rw [ev144]; exact add_i rfl (by decide : (1 : Int32).toInt = 1) (by omega) (by omega)
                    refine lv_iload_n hx hb dX12_goesTurn_145 rfl (lv_at hl 4 rfl) ?_
                    refine lv_iconst (v := 1) hx hb dX12_goesTurn_146 (by decide) ?_
                    refine lv_iload hx hb dX12_goesTurn_147 (lv_at hl 1 rfl) ?_
                    refine lv_ishl hx hb dX12_goesTurn_149 ?_
                    refine lv_topi (fun v149 ev149 => ?_)
                    have tv149 : 1 ≤ v149.toInt ∧ v149.toInt ≤ 16 := by rw [ev149]; exact shl_b 4 (by decide) (by omega) (by omega)
                    refine lv_iconst (v := (-1)) hx hb dX12_goesTurn_150 (by decide) ?_
                    refine lv_ixor hx hb dX12_goesTurn_151 ?_
                    refine lv_topi (fun v151 ev151 => ?_)
                    refine lv_iand hx hb dX12_goesTurn_152 ?_
                    refine lv_topi (fun v152 ev152 => ?_)
                    have tv152 : 0 ≤ v152.toInt ∧ v152.toInt ≤ x2.toInt := by rw [ev152]; exact and_l (by omega)
                    have hp9 := gt_step (by omega) (by omega) (by omega) (by omega) (inF_nz x_v1040 tc107) ev149 ev151 ev152
                    have hp8 := pcn5_0 v152.toInt.toNat (by omega) (by omega)
                    refine lv_iload_n hx hb dX12_goesTurn_153 rfl (lv_at hl 5 rfl) ?_
                    refine lv_iload hx hb dX12_goesTurn_154 (lv_at hl 0 rfl) ?_
                    have J164 : ∀ (k164_0 : Int32) (H : Heap) (locs : List Loc) (ls : Array Slot), (0 ≤ k164_0.toInt) → (k164_0.toInt ≤ 1) → HT D cs A T O X H → va_S A s.heap H locs → lv_has ls 7 [(4, .int p89_4), (0, .ref a0), (1, .int x1), (2, .int x2), (3, .int x3)] → W p l e { frames := 6, cells := 0, slots := 0, locals := 140 } s m [.ref a0, .int x1, .int x2, .int x3].toArray below meth c H locs 0 0 (MQ below (Tv D cs (fun u => u = (T, O, X)) A) [.ref a0, .int x1, .int x2, .int x3].toArray s 0 0 A) (F0 m 164 ls [.int k164_0, .int x3, .int v152, .int v144, .ref a0]) := by
                      intro k164_0 H locs ls l_k164_0 u_k164_0 hH hS hl
                      refine lv_iadd hx hb dX12_goesTurn_164 ?_
                      refine lv_topi (fun v164 ev164 => ?_)
                      refine tk_v hH hS hA (tr_V (n := 3) (As := [.int v144, .int v152, .int v164]) hx hb hml hown hts hkb hH hOX hks hE hS hA (s_M_goesTurn5 l D cs kf T O X a0 hg mq v144 v152 v164 t_a0 b_hg (by omega) (by omega) (by omega) (by omega) (by omega) (hO.sub (by decide))) kw_1756 kw_1758 ks_103 kw_13 kw_1759 (by decide +kernel) ⟨Nat.le_of_ble_eq_true rfl, Nat.le_of_ble_eq_true rfl⟩ (HT.recv (ci := 12) hkb hH t_a0 (hO.no t_a0 (by decide)) rfl) rfl rfl hl.1 (Nat.le_of_ble_eq_true rfl) dX12_goesTurn_165 ⟨Nat.le_of_ble_eq_true rfl, Nat.le_of_ble_eq_true rfl⟩) (fun u H locs hz9 hH hS => ?_)
                      obtain ⟨rfl⟩ := hz9
                      have hH : HT D cs A T O X H := hH
                      refine W.widen (k := 0) (n := 0) (Nat.le_of_ble_eq_true rfl) (Nat.le_of_ble_eq_true rfl) ?_
                      refine lv_iconst (v := 0) hx hb dX12_goesTurn_168 (by decide) ?_
                      have J171 : ∀ (n : Nat) (p171_6 : Int32) (H : Heap) (locs : List Loc) (ls : Array Slot), (31 - p171_6.toInt).toNat = n → (0 ≤ p171_6.toInt) → (p171_6.toInt ≤ 31) → HT D cs A T O X H → va_S A s.heap H locs → lv_has ls 7 [(6, .int p171_6), (4, .int p89_4), (0, .ref a0), (1, .int x1), (2, .int x2), (3, .int x3)] → W p l e { frames := 6, cells := 0, slots := 0, locals := 140 } s m [.ref a0, .int x1, .int x2, .int x3].toArray below meth c H locs 0 0 (MQ below (Tv D cs (fun u => u = (T, O, X)) A) [.ref a0, .int x1, .int x2, .int x3].toArray s 0 0 A) (F0 m 171 ls []) := by
                        intro n
                        induction n using Nat.strongRecOn with
                        | _ n ih171 =>
                          intro p171_6 H locs ls hm171 l_p171_6 u_p171_6 hH hS hl
                          refine lv_iload hx hb dX12_goesTurn_171 (lv_at hl 0 rfl) ?_
                          refine lv_bipush (v := 31) hx hb dX12_goesTurn_173 (by decide) ?_
                          refine lv_icmp_ge (tgt := 206) hx hb dX12_goesTurn_175 (by decide) (fun c175 => ?_) (fun c175 => ?_)
                          · skip
                            have tc175 := f_ge (k := 31) (by decide) c175
                            exact J206  _ _ _  hH hS (lv_sub hl [1, 2, 3, 4, 5] rfl)
                          · skip
                            have tc175 := f_nge (k := 31) (by decide) c175
                            refine lv_aload_n hx hb dX12_goesTurn_178 rfl (lv_at hl 2 rfl) ?_
                            refine t_get (ci := 12) (lst := ft12 hg mq) (C := RX12) (F := TX12) (N := 36) hx hb hts uX12 hown hkb hH t_a0 (hO.no t_a0 (by decide)) (fun _ h9 => h9) rfl rfl 1 (by decide) rfl kw_1224 (fun _ h9 => h9) dX12_goesTurn_179 (fun v9 h9 => ?_)
                            obtain ⟨v179, rfl, t_v179⟩ := h9
                            refine lv_bipush (v := 59) hx hb dX12_goesTurn_182 (by decide) ?_
                            refine lv_iload hx hb dX12_goesTurn_184 (lv_at hl 0 rfl) ?_
                            refine lv_iadd hx hb dX12_goesTurn_186 ?_
                            refine lv_topi (fun v186 ev186 => ?_)
                            have tv186 : v186.toInt = (59) + p171_6.toInt := by rw [ev186]; exact add_i (by decide : (59 : Int32).toInt = 59) rfl (by omega) (by omega)
                            refine lv_aload_n hx hb dX12_goesTurn_187 rfl (lv_at hl 2 rfl) ?_
                            refine t_get (ci := 12) (lst := ft12 hg mq) (C := RX12) (F := TX12) (N := 36) hx hb hts uX12 hown hkb hH t_a0 (hO.no t_a0 (by decide)) (fun _ h9 => h9) rfl rfl 31 (by decide) rfl kw_1254 (fun _ h9 => h9) dX12_goesTurn_188 (fun v9 h9 => ?_)
                            obtain ⟨v188, rfl, t_v188⟩ := h9
                            refine lv_bipush (v := 31) hx hb dX12_goesTurn_191 (by decide) ?_
                            refine lv_iload_n hx hb dX12_goesTurn_193 rfl (lv_at hl 3 rfl) ?_
                            refine lv_imul hx hb dX12_goesTurn_194 ?_
                            refine lv_topi (fun v194 ev194 => ?_)
                            have tv194 : v194.toInt = (31) * x1.toInt := by rw [ev194]; exact mul_i (by decide : (31 : Int32).toInt = 31) rfl (by omega) (by omega)
                            refine lv_iload hx hb dX12_goesTurn_195 (lv_at hl 0 rfl) ?_
                            refine lv_iadd hx hb dX12_goesTurn_197 ?_
                            refine lv_topi (fun v197 ev197 => ?_)
                            have tv197 : v197.toInt = v194.toInt + p171_6.toInt := by rw [ev197]; exact add_i rfl rfl (by omega) (by omega)
                            refine t_ild hx hb hkb hH t_v188 (hO.no t_v188 (by decide)) (by omega) (by omega) dX12_goesTurn_198 (fun v198 h9 => ?_)
                            refine t_ist8 hx hb hkb hH hS t_v179 (hO.no t_v179 (by decide)) (by decide) (by omega) (by omega) (by omega) (by omega) (p8_far (by omega) (by omega)) dX12_goesTurn_199 (fun H locs hH hS => ?_)
                            obtain ⟨v200, ev200⟩ : ∃ y : Int32, y = p171_6 + 1 := ⟨_, rfl⟩
                            have tv200 : v200.toInt = p171_6.toInt + (1) := by rw [ev200]; exact add_i rfl (by decide) (by omega) (by omega)
                            refine lv_iinc (v := v200) (lv' := [(6, .int v200), (4, .int p89_4), (0, .ref a0), (1, .int x1), (2, .int x2), (3, .int x3)]) hx hb dX12_goesTurn_200 hl (k := 0) rfl (by rw [ev200]; rfl) (by decide) rfl (fun ls hl => ?_)
                            refine lv_goto (tgt := 171) hx hb dX12_goesTurn_203 (by decide) ?_
                            exact ih171 _ (by omega) v200 _ _ _ rfl (by omega) (by omega) hH hS (lv_sub hl [0, 1, 2, 3, 4, 5] rfl)
                      refine lv_istore (lv' := [(6, .int 0), (4, .int p89_4), (0, .ref a0), (1, .int x1), (2, .int x2), (3, .int x3)]) hx hb dX12_goesTurn_169 hl (by decide) rfl (fun ls hl => ?_)
                      exact J171 _ 0 _ _ _ rfl (by decide) (by decide) hH hS (lv_sub hl [0, 1, 2, 3, 4, 5] rfl)
                    refine lv_if_eq (tgt := 163) hx hb dX12_goesTurn_156 (by decide) (fun c156 => ?_) (fun c156 => ?_)
                    · skip
                      have tc156 := f_eq (k := 0) (by decide) c156
                      refine lv_iconst (v := 0) hx hb dX12_goesTurn_163 (by decide) ?_
                      exact J164 0 _ _ _ (by decide) (by decide) hH hS (lv_sub hl [1, 2, 3, 4, 5] rfl)
                    · skip
                      have tc156 := f_ne (k := 0) (by decide) c156
                      refine lv_iconst (v := 1) hx hb dX12_goesTurn_159 (by decide) ?_
                      refine lv_goto (tgt := 164) hx hb dX12_goesTurn_160 (by decide) ?_
                      exact J164 1 _ _ _ (by decide) (by decide) hH hS (lv_sub hl [1, 2, 3, 4, 5] rfl)
                  refine lv_if_eq (tgt := 141) hx hb dX12_goesTurn_131 (by decide) (fun c131 => ?_) (fun c131 => ?_)
                  · skip
                    have tc131 := f_eq (k := 0) (by decide) c131
                    exact J141  _ _ _  hH hS (lv_sub hl [0, 1, 2, 3, 4, 5] rfl)
                  · skip
                    have tc131 := f_ne (k := 0) (by decide) c131
                    refine lv_aload_n hx hb dX12_goesTurn_134 rfl (lv_at hl 2 rfl) ?_
                    refine lv_iload hx hb dX12_goesTurn_135 (lv_at hl 1 rfl) ?_
                    refine tk_i hH hS hA (tr_V (n := 1) (As := [.int p89_4]) hx hb hml hown hts hkb hH hOX hks hE hS hA (s_M_usesRow l D cs kf T O X a0 hg mq p89_4 t_a0 b_hg (hO.sub (by decide))) kw_1548 kw_1550 ks_80 kw_13 kw_1551 (by decide +kernel) ⟨Nat.le_of_ble_eq_true rfl, Nat.le_of_ble_eq_true rfl⟩ (HT.recv (ci := 12) hkb hH t_a0 (hO.no t_a0 (by decide)) rfl) rfl rfl hl.1 (Nat.le_of_ble_eq_true rfl) dX12_goesTurn_137 ⟨Nat.le_of_ble_eq_true rfl, Nat.le_of_ble_eq_true rfl⟩) (fun v137 u H locs hz9 hH hS => ?_)
                    have hz9 : u = (T, O, X) := hz9
                    subst hz9
                    have hH : HT D cs A T O X H := hH
                    refine W.widen (k := 0) (n := 0) (Nat.le_of_ble_eq_true rfl) (Nat.le_of_ble_eq_true rfl) ?_
                    refine lv_pop hx hb dX12_goesTurn_140 rfl ?_
                    exact J141  _ _ _  hH hS (lv_sub hl [0, 1, 2, 3, 4, 5] rfl)
                · skip
                  have tc107 := f_eq (k := 0) (by decide) c107
                  refine lv_goto (tgt := 206) hx hb dX12_goesTurn_110 (by decide) ?_
                  exact J206  _ _ _  hH hS (lv_sub hl [0, 1, 2, 3, 4] rfl)
          refine lv_istore (lv' := [(4, .int 0), (0, .ref a0), (1, .int x1), (2, .int x2), (3, .int x3)]) hx hb dX12_goesTurn_87 hl (by decide) rfl (fun ls hl => ?_)
          exact J89 _ 0 _ _ _ rfl (by decide) (by decide) hH hS (lv_sub hl [0, 1, 2, 3, 4] rfl)
        · skip
          have tc55 := f_nge (k := 31) (by decide) c55
          refine lv_aload_n hx hb dX12_goesTurn_58 rfl (lv_at hl 1 rfl) ?_
          refine t_get (ci := 12) (lst := ft12 hg mq) (C := RX12) (F := TX12) (N := 36) hx hb hts uX12 hown hkb hH t_a0 (hO.no t_a0 (by decide)) (fun _ h9 => h9) rfl rfl 31 (by decide) rfl kw_1254 (fun _ h9 => h9) dX12_goesTurn_59 (fun v9 h9 => ?_)
          obtain ⟨v59, rfl, t_v59⟩ := h9
          refine lv_bipush (v := 31) hx hb dX12_goesTurn_62 (by decide) ?_
          refine lv_iload_n hx hb dX12_goesTurn_64 rfl (lv_at hl 2 rfl) ?_
          refine lv_imul hx hb dX12_goesTurn_65 ?_
          refine lv_topi (fun v65 ev65 => ?_)
          have tv65 : v65.toInt = (31) * x1.toInt := by rw [ev65]; exact mul_i (by decide : (31 : Int32).toInt = 31) rfl (by omega) (by omega)
          refine lv_iload hx hb dX12_goesTurn_66 (lv_at hl 0 rfl) ?_
          refine lv_iadd hx hb dX12_goesTurn_68 ?_
          refine lv_topi (fun v68 ev68 => ?_)
          have tv68 : v68.toInt = v65.toInt + p51_4.toInt := by rw [ev68]; exact add_i rfl rfl (by omega) (by omega)
          refine lv_aload_n hx hb dX12_goesTurn_69 rfl (lv_at hl 1 rfl) ?_
          refine t_get (ci := 12) (lst := ft12 hg mq) (C := RX12) (F := TX12) (N := 36) hx hb hts uX12 hown hkb hH t_a0 (hO.no t_a0 (by decide)) (fun _ h9 => h9) rfl rfl 1 (by decide) rfl kw_1224 (fun _ h9 => h9) dX12_goesTurn_70 (fun v9 h9 => ?_)
          obtain ⟨v70, rfl, t_v70⟩ := h9
          refine lv_bipush (v := 59) hx hb dX12_goesTurn_73 (by decide) ?_
          refine lv_iload hx hb dX12_goesTurn_75 (lv_at hl 0 rfl) ?_
          refine lv_iadd hx hb dX12_goesTurn_77 ?_
          refine lv_topi (fun v77 ev77 => ?_)
          have tv77 : v77.toInt = (59) + p51_4.toInt := by rw [ev77]; exact add_i (by decide : (59 : Int32).toInt = 59) rfl (by omega) (by omega)
          refine t_ild8 hx hb hkb hH t_v70 (hO.no t_v70 (by decide)) (by decide) (by omega) (by omega) dX12_goesTurn_78 (fun v78 h9 h8 => ?_)
          refine t_ist hx hb hkb hH hS t_v59 (hO.no t_v59 (by decide)) (by omega) (by omega) (cp_0 _) dX12_goesTurn_79 (fun H locs hH hS => ?_)
          obtain ⟨v80, ev80⟩ : ∃ y : Int32, y = p51_4 + 1 := ⟨_, rfl⟩
          have tv80 : v80.toInt = p51_4.toInt + (1) := by rw [ev80]; exact add_i rfl (by decide) (by omega) (by omega)
          refine lv_iinc (v := v80) (lv' := [(4, .int v80), (0, .ref a0), (1, .int x1), (2, .int x2), (3, .int x3)]) hx hb dX12_goesTurn_80 hl (k := 0) rfl (by rw [ev80]; rfl) (by decide) rfl (fun ls hl => ?_)
          refine lv_goto (tgt := 51) hx hb dX12_goesTurn_83 (by decide) ?_
          exact ih51 _ (by omega) v80 _ _ _ rfl (by omega) (by omega) hH hS (lv_sub hl [0, 1, 2, 3, 4] rfl)
    refine lv_istore (lv' := [(4, .int 0), (0, .ref a0), (1, .int x1), (2, .int x2), (3, .int x3)]) hx hb dX12_goesTurn_49 hl (by decide) rfl (fun ls hl => ?_)
    exact J51 _ 0 _ _ _ rfl (by decide) (by decide) hH hS (lv_sub hl [0, 1, 2, 3, 4] rfl)
  · skip
    have tc1 := f_eq (k := 0) (by decide) c1
    refine lv_iload_n hx hb dX12_goesTurn_4 rfl (lv_at hl 3 rfl) ?_
    refine lv_aload_n hx hb dX12_goesTurn_5 rfl (lv_at hl 0 rfl) ?_
    refine t_get (ci := 12) (lst := ft12 hg mq) (C := RX12) (F := TX12) (N := 36) hx hb hts uX12 hown hkb hH t_a0 (hO.no t_a0 (by decide)) (fun _ h9 => h9) rfl rfl 32 (by decide) rfl kw_1255 (fun _ h9 => h9) dX12_goesTurn_6 (fun v9 h9 => ?_)
    obtain ⟨v6, rfl⟩ := h9
    refine lv_icmp_gt (tgt := 13) hx hb dX12_goesTurn_9 (by decide) (fun c9 => ?_) (fun c9 => ?_)
    · skip
      have fuc9 := full_i x3
      have fvc9 := full_i v6
      have tc9 := g_lt c9
      refine lv_aload_n hx hb dX12_goesTurn_13 rfl (lv_at hl 0 rfl) ?_
      refine lv_iload_n hx hb dX12_goesTurn_14 rfl (lv_at hl 3 rfl) ?_
      refine t_put (ci := 12) (lst := ft12 hg mq) (v := .int x3) (ty := tyX12 32) (C := RX12) (F := TX12) (N := 36) hx hb hts uX12 tyX12 tyX12_ok nmX12 hown hkb hH hS t_a0 (hO.no t_a0 (by decide)) (fun _ => Iff.rfl) rfl rfl 32 (by decide) rfl (⟨_, rfl⟩) kw_1255 (fun _ h9 => h9) rfl (tyX12_ok 32 (by decide)) rfl rfl dX12_goesTurn_15 (fun H locs hH hS => ?_)
      refine lv_iconst (v := 0) hx hb dX12_goesTurn_18 (by decide) ?_
      have J21 : ∀ (n : Nat) (p21_4 : Int32) (H : Heap) (locs : List Loc) (ls : Array Slot), (5 - p21_4.toInt).toNat = n → (0 ≤ p21_4.toInt) → (p21_4.toInt ≤ 5) → HT D cs A T O X H → va_S A s.heap H locs → lv_has ls 7 [(4, .int p21_4), (0, .ref a0), (1, .int x1)] → W p l e { frames := 6, cells := 0, slots := 0, locals := 140 } s m [.ref a0, .int x1, .int x2, .int x3].toArray below meth c H locs 0 0 (MQ below (Tv D cs (fun u => u = (T, O, X)) A) [.ref a0, .int x1, .int x2, .int x3].toArray s 0 0 A) (F0 m 21 ls []) := by
        intro n
        induction n using Nat.strongRecOn with
        | _ n ih21 =>
          intro p21_4 H locs ls hm21 l_p21_4 u_p21_4 hH hS hl
          refine lv_iload hx hb dX12_goesTurn_21 (lv_at hl 0 rfl) ?_
          refine lv_iload_n hx hb dX12_goesTurn_23 rfl (lv_at hl 2 rfl) ?_
          refine lv_icmp_ge (tgt := 47) hx hb dX12_goesTurn_24 (by decide) (fun c24 => ?_) (fun c24 => ?_)
          · skip
            have fuc24 := full_i p21_4
            have fvc24 := full_i x1
            have tc24 := g_le c24
            exact te_v hx hb hr hlocks hH hS (rfl) dX12_goesTurn_47
          · skip
            have fuc24 := full_i p21_4
            have fvc24 := full_i x1
            have tc24 := g_nle c24
            refine lv_aload_n hx hb dX12_goesTurn_27 rfl (lv_at hl 1 rfl) ?_
            refine t_get (ci := 12) (lst := ft12 hg mq) (C := RX12) (F := TX12) (N := 36) hx hb hts uX12 hown hkb hH t_a0 (hO.no t_a0 (by decide)) (fun _ h9 => h9) rfl rfl 30 (by decide) rfl kw_1253 (fun _ h9 => h9) dX12_goesTurn_28 (fun v9 h9 => ?_)
            obtain ⟨v28, rfl, t_v28⟩ := h9
            refine lv_iload hx hb dX12_goesTurn_31 (lv_at hl 0 rfl) ?_
            refine lv_aload_n hx hb dX12_goesTurn_33 rfl (lv_at hl 1 rfl) ?_
            refine t_get (ci := 12) (lst := ft12 hg mq) (C := RX12) (F := TX12) (N := 36) hx hb hts uX12 hown hkb hH t_a0 (hO.no t_a0 (by decide)) (fun _ h9 => h9) rfl rfl 29 (by decide) rfl kw_1252 (fun _ h9 => h9) dX12_goesTurn_34 (fun v9 h9 => ?_)
            obtain ⟨v34, rfl, t_v34⟩ := h9
            refine lv_iload hx hb dX12_goesTurn_37 (lv_at hl 0 rfl) ?_
            refine t_ild hx hb hkb hH t_v34 (hO.no t_v34 (by decide)) (by omega) (by omega) dX12_goesTurn_39 (fun v39 h9 => ?_)
            refine t_ist hx hb hkb hH hS t_v28 (hO.no t_v28 (by decide)) (by omega) (by omega) (cp_0 _) dX12_goesTurn_40 (fun H locs hH hS => ?_)
            obtain ⟨v41, ev41⟩ : ∃ y : Int32, y = p21_4 + 1 := ⟨_, rfl⟩
            have tv41 : v41.toInt = p21_4.toInt + (1) := by rw [ev41]; exact add_i rfl (by decide) (by omega) (by omega)
            refine lv_iinc (v := v41) (lv' := [(4, .int v41), (0, .ref a0), (1, .int x1)]) hx hb dX12_goesTurn_41 hl (k := 0) rfl (by rw [ev41]; rfl) (by decide) rfl (fun ls hl => ?_)
            refine lv_goto (tgt := 21) hx hb dX12_goesTurn_44 (by decide) ?_
            exact ih21 _ (by omega) v41 _ _ _ rfl (by omega) (by omega) hH hS (lv_sub hl [0, 1, 2] rfl)
      refine lv_istore (lv' := [(4, .int 0), (0, .ref a0), (1, .int x1), (2, .int x2), (3, .int x3)]) hx hb dX12_goesTurn_19 hl (by decide) rfl (fun ls hl => ?_)
      exact J21 _ 0 _ _ _ rfl (by decide) (by decide) hH hS (lv_sub hl [0, 1, 2] rfl)
    · skip
      have fuc9 := full_i x3
      have fvc9 := full_i v6
      have tc9 := g_nlt c9
      exact te_v hx hb hr hlocks hH hS (rfl) dX12_goesTurn_12
set_option maxHeartbeats 4000000 in
set_option maxRecDepth 100000 in
theorem s_M_goesTurn3 (l : Launch) (D : va_G) (cs : CS) (kf : KF) (T : TF) (O : List Nat) (X : va_W) (a0 hg mq : Nat) (x1 : Int32) (x2 : Int32) (x3 : Int32) (t_a0 : T a0 = some (22, hg, mq)) (b_hg : hg < 90) (l_x1 : 3 ≤ x1.toInt) (u_x1 : x1.toInt ≤ 3) (l_x2 : 0 ≤ x2.toInt) (u_x2 : x2.toInt ≤ 31) (hp : pcn 5 x2.toInt.toNat ≤ 2) (hO : okO T O [1, 8, 9, 22]) : TK l D cs kf yX12_goesTurn cX12_goesTurn 7 none { frames := 7, cells := 0, slots := 0, locals := 166 } [.ref a0, .int x1, .int x2, .int x3] T O X (Tv D cs (fun u => u = (T, O, X))) := by
  refine tk_of (by decide) (Nat.le_of_ble_eq_true rfl) (fun p e s m below meth c ls A H locs hx hb hr hml hown hts hlocks hnm hkb hH hS hA hOX hks hE hl => ?_)
  have hown : s.vm.findClass RX12 = some m.cls := hown
  have hl : lv_has ls 7 [(0, .ref a0), (1, .int x1), (2, .int x2), (3, .int x3)] := hl
  refine lv_iload_n hx hb dX12_goesTurn_0 rfl (lv_at hl 2 rfl) ?_
  refine lv_if_ne (tgt := 48) hx hb dX12_goesTurn_1 (by decide) (fun c1 => ?_) (fun c1 => ?_)
  · skip
    have tc1 := f_ne (k := 0) (by decide) c1
    refine lv_iconst (v := 0) hx hb dX12_goesTurn_48 (by decide) ?_
    have J51 : ∀ (n : Nat) (p51_4 : Int32) (H : Heap) (locs : List Loc) (ls : Array Slot), (31 - p51_4.toInt).toNat = n → (0 ≤ p51_4.toInt) → (p51_4.toInt ≤ 31) → HT D cs A T O X H → va_S A s.heap H locs → lv_has ls 7 [(4, .int p51_4), (0, .ref a0), (1, .int x1), (2, .int x2), (3, .int x3)] → W p l e { frames := 7, cells := 0, slots := 0, locals := 166 } s m [.ref a0, .int x1, .int x2, .int x3].toArray below meth c H locs 0 0 (MQ below (Tv D cs (fun u => u = (T, O, X)) A) [.ref a0, .int x1, .int x2, .int x3].toArray s 0 0 A) (F0 m 51 ls []) := by
      intro n
      induction n using Nat.strongRecOn with
      | _ n ih51 =>
        intro p51_4 H locs ls hm51 l_p51_4 u_p51_4 hH hS hl
        refine lv_iload hx hb dX12_goesTurn_51 (lv_at hl 0 rfl) ?_
        refine lv_bipush (v := 31) hx hb dX12_goesTurn_53 (by decide) ?_
        refine lv_icmp_ge (tgt := 86) hx hb dX12_goesTurn_55 (by decide) (fun c55 => ?_) (fun c55 => ?_)
        · skip
          have tc55 := f_ge (k := 31) (by decide) c55
          refine lv_iconst (v := 0) hx hb dX12_goesTurn_86 (by decide) ?_
          have J89 : ∀ (n : Nat) (p89_4 : Int32) (H : Heap) (locs : List Loc) (ls : Array Slot), (5 - p89_4.toInt).toNat = n → (0 ≤ p89_4.toInt) → (p89_4.toInt ≤ 5) → HT D cs A T O X H → va_S A s.heap H locs → lv_has ls 7 [(4, .int p89_4), (0, .ref a0), (1, .int x1), (2, .int x2), (3, .int x3)] → W p l e { frames := 7, cells := 0, slots := 0, locals := 166 } s m [.ref a0, .int x1, .int x2, .int x3].toArray below meth c H locs 0 0 (MQ below (Tv D cs (fun u => u = (T, O, X)) A) [.ref a0, .int x1, .int x2, .int x3].toArray s 0 0 A) (F0 m 89 ls []) := by
            intro n
            induction n using Nat.strongRecOn with
            | _ n ih89 =>
              intro p89_4 H locs ls hm89 l_p89_4 u_p89_4 hH hS hl
              refine lv_iload hx hb dX12_goesTurn_89 (lv_at hl 0 rfl) ?_
              refine lv_aload_n hx hb dX12_goesTurn_91 rfl (lv_at hl 1 rfl) ?_
              refine t_get (ci := 12) (lst := ft12 hg mq) (C := RX12) (F := TX12) (N := 36) hx hb hts uX12 hown hkb hH t_a0 (hO.no t_a0 (by decide)) (fun _ h9 => h9) rfl rfl 1 (by decide) rfl kw_1224 (fun _ h9 => h9) dX12_goesTurn_92 (fun v9 h9 => ?_)
              obtain ⟨v92, rfl, t_v92⟩ := h9
              refine lv_iconst (v := 2) hx hb dX12_goesTurn_95 (by decide) ?_
              refine t_ild8 hx hb hkb hH t_v92 (hO.no t_v92 (by decide)) (by decide) (by decide) (by decide) dX12_goesTurn_96 (fun v96 h9 h8 => ?_)
              have q9 := (h8 rfl).2 rfl
              subst q9
              have eG9 : (nI (hg % 6)).toInt = (((hg % 6) : Nat) : Int) := nI_toInt (by omega)
              refine lv_icmp_ge (tgt := 212) hx hb dX12_goesTurn_97 (by decide) (fun c97 => ?_) (fun c97 => ?_)
              · skip
                have fuc97 := full_i p89_4
                have fvc97 := full_i (nI (hg % 6))
                have tc97 := g_le c97
                exact te_v hx hb hr hlocks hH hS (rfl) dX12_goesTurn_212
              · skip
                have fuc97 := full_i p89_4
                have fvc97 := full_i (nI (hg % 6))
                have tc97 := g_nle c97
                refine lv_iload_n hx hb dX12_goesTurn_100 rfl (lv_at hl 3 rfl) ?_
                refine lv_i2l hx hb dX12_goesTurn_101 rfl ?_
                refine lv_iload hx hb dX12_goesTurn_102 (lv_at hl 0 rfl) ?_
                refine tk_i hH hS hA (tr_S (n := 2) (As := [.long x2.toInt64, .int p89_4]) hx hb hml hown hts hkb hH hOX hks hE hS hA (s_M_isIn2 l D cs kf T O X x2.toInt64 p89_4  (hO.sub (by decide))) kw_1440 kw_1441 kw_13 kw_1442 (by decide +kernel) ⟨Nat.le_of_ble_eq_true rfl, Nat.le_of_ble_eq_true rfl⟩ rfl rfl hl.1 (Nat.le_of_ble_eq_true rfl) dX12_goesTurn_104 ⟨Nat.le_of_ble_eq_true rfl, Nat.le_of_ble_eq_true rfl⟩) (fun v104 u H locs hz9 hH hS => ?_)
                obtain ⟨rfl, l_v104, u_v104, x_v1040⟩ := hz9
                have hH : HT D cs A T O X H := hH
                refine W.widen (k := 0) (n := 0) (Nat.le_of_ble_eq_true rfl) (Nat.le_of_ble_eq_true rfl) ?_
                have J206 : ∀  (H : Heap) (locs : List Loc) (ls : Array Slot), HT D cs A T O X H → va_S A s.heap H locs → lv_has ls 7 [(4, .int p89_4), (0, .ref a0), (1, .int x1), (2, .int x2), (3, .int x3)] → W p l e { frames := 7, cells := 0, slots := 0, locals := 166 } s m [.ref a0, .int x1, .int x2, .int x3].toArray below meth c H locs 0 0 (MQ below (Tv D cs (fun u => u = (T, O, X)) A) [.ref a0, .int x1, .int x2, .int x3].toArray s 0 0 A) (F0 m 206 ls []) := by
                  intro  H locs ls  hH hS hl
                  obtain ⟨v206, ev206⟩ : ∃ y : Int32, y = p89_4 + 1 := ⟨_, rfl⟩
                  have tv206 : v206.toInt = p89_4.toInt + (1) := by rw [ev206]; exact add_i rfl (by decide) (by omega) (by omega)
                  refine lv_iinc (v := v206) (lv' := [(4, .int v206), (0, .ref a0), (1, .int x1), (2, .int x2), (3, .int x3)]) hx hb dX12_goesTurn_206 hl (k := 0) rfl (by rw [ev206]; rfl) (by decide) rfl (fun ls hl => ?_)
                  refine lv_goto (tgt := 89) hx hb dX12_goesTurn_209 (by decide) ?_
                  exact ih89 _ (by omega) v206 _ _ _ rfl (by omega) (by omega) hH hS (lv_sub hl [0, 1, 2, 3, 4] rfl)
                refine lv_if_ne (tgt := 113) hx hb dX12_goesTurn_107 (by decide) (fun c107 => ?_) (fun c107 => ?_)
                · skip
                  have tc107 := f_ne (k := 0) (by decide) c107
                  refine lv_aload_n hx hb dX12_goesTurn_113 rfl (lv_at hl 1 rfl) ?_
                  refine t_get (ci := 12) (lst := ft12 hg mq) (C := RX12) (F := TX12) (N := 36) hx hb hts uX12 hown hkb hH t_a0 (hO.no t_a0 (by decide)) (fun _ h9 => h9) rfl rfl 29 (by decide) rfl kw_1252 (fun _ h9 => h9) dX12_goesTurn_114 (fun v9 h9 => ?_)
                  obtain ⟨v114, rfl, t_v114⟩ := h9
                  refine lv_iload_n hx hb dX12_goesTurn_117 rfl (lv_at hl 2 rfl) ?_
                  refine lv_iload hx hb dX12_goesTurn_118 (lv_at hl 0 rfl) ?_
                  refine t_ist hx hb hkb hH hS t_v114 (hO.no t_v114 (by decide)) (by omega) (by omega) (cp_0 _) dX12_goesTurn_120 (fun H locs hH hS => ?_)
                  refine lv_aload_n hx hb dX12_goesTurn_121 rfl (lv_at hl 1 rfl) ?_
                  refine lv_iload hx hb dX12_goesTurn_122 (lv_at hl 0 rfl) ?_
                  refine tk_i hH hS hA (tr_V (n := 1) (As := [.int p89_4]) hx hb hml hown hts hkb hH hOX hks hE hS hA (s_M_laysWayOf l D cs kf T O X a0 hg mq p89_4 t_a0 b_hg (by omega) (by omega) (hO.sub (by decide))) kw_1560 kw_1562 ks_82 kw_13 kw_1563 (by decide +kernel) ⟨Nat.le_of_ble_eq_true rfl, Nat.le_of_ble_eq_true rfl⟩ (HT.recv (ci := 12) hkb hH t_a0 (hO.no t_a0 (by decide)) rfl) rfl rfl hl.1 (Nat.le_of_ble_eq_true rfl) dX12_goesTurn_124 ⟨Nat.le_of_ble_eq_true rfl, Nat.le_of_ble_eq_true rfl⟩) (fun v124 u H locs hz9 hH hS => ?_)
                  obtain ⟨rfl, l_v124, u_v124⟩ := hz9
                  have hH : HT D cs A T O X H := hH
                  refine W.widen (k := 0) (n := 0) (Nat.le_of_ble_eq_true rfl) (Nat.le_of_ble_eq_true rfl) ?_
                  refine lv_istore (lv' := [(5, .int v124), (4, .int p89_4), (0, .ref a0), (1, .int x1), (2, .int x2), (3, .int x3)]) hx hb dX12_goesTurn_127 hl (by decide) rfl (fun ls hl => ?_)
                  refine lv_iload hx hb dX12_goesTurn_129 (lv_at hl 0 rfl) ?_
                  have J141 : ∀  (H : Heap) (locs : List Loc) (ls : Array Slot), HT D cs A T O X H → va_S A s.heap H locs → lv_has ls 7 [(5, .int v124), (4, .int p89_4), (0, .ref a0), (1, .int x1), (2, .int x2), (3, .int x3)] → W p l e { frames := 7, cells := 0, slots := 0, locals := 166 } s m [.ref a0, .int x1, .int x2, .int x3].toArray below meth c H locs 0 0 (MQ below (Tv D cs (fun u => u = (T, O, X)) A) [.ref a0, .int x1, .int x2, .int x3].toArray s 0 0 A) (F0 m 141 ls []) := by
                    intro  H locs ls  hH hS hl
                    refine lv_aload_n hx hb dX12_goesTurn_141 rfl (lv_at hl 2 rfl) ?_
                    refine lv_iload_n hx hb dX12_goesTurn_142 rfl (lv_at hl 3 rfl) ?_
                    refine lv_iconst (v := 1) hx hb dX12_goesTurn_143 (by decide) ?_
                    refine lv_iadd hx hb dX12_goesTurn_144 ?_
                    refine lv_topi (fun v144 ev144 => ?_)
                    have tv144 : v144.toInt = x1.toInt + (1) := by rw [ev144]; exact add_i rfl (by decide : (1 : Int32).toInt = 1) (by omega) (by omega)
                    refine lv_iload_n hx hb dX12_goesTurn_145 rfl (lv_at hl 4 rfl) ?_
                    refine lv_iconst (v := 1) hx hb dX12_goesTurn_146 (by decide) ?_
                    refine lv_iload hx hb dX12_goesTurn_147 (lv_at hl 1 rfl) ?_
                    refine lv_ishl hx hb dX12_goesTurn_149 ?_
                    refine lv_topi (fun v149 ev149 => ?_)
                    have tv149 : 1 ≤ v149.toInt ∧ v149.toInt ≤ 16 := by rw [ev149]; exact shl_b 4 (by decide) (by omega) (by omega)
                    refine lv_iconst (v := (-1)) hx hb dX12_goesTurn_150 (by decide) ?_
                    refine lv_ixor hx hb dX12_goesTurn_151 ?_
                    refine lv_topi (fun v151 ev151 => ?_)
                    refine lv_iand hx hb dX12_goesTurn_152 ?_
                    refine lv_topi (fun v152 ev152 => ?_)
                    have tv152 : 0 ≤ v152.toInt ∧ v152.toInt ≤ x2.toInt := by rw [ev152]; exact and_l (by omega)
                    have hp9 := gt_step (by omega) (by omega) (by omega) (by omega) (inF_nz x_v1040 tc107) ev149 ev151 ev152
                    refine lv_iload_n hx hb dX12_goesTurn_153 rfl (lv_at hl 5 rfl) ?_
                    refine lv_iload hx hb dX12_goesTurn_154 (lv_at hl 0 rfl) ?_
                    have J164 : ∀ (k164_0 : Int32) (H : Heap) (locs : List Loc) (ls : Array Slot), (0 ≤ k164_0.toInt) → (k164_0.toInt ≤ 1) → HT D cs A T O X H → va_S A s.heap H locs → lv_has ls 7 [(4, .int p89_4), (0, .ref a0), (1, .int x1), (2, .int x2), (3, .int x3)] → W p l e { frames := 7, cells := 0, slots := 0, locals := 166 } s m [.ref a0, .int x1, .int x2, .int x3].toArray below meth c H locs 0 0 (MQ below (Tv D cs (fun u => u = (T, O, X)) A) [.ref a0, .int x1, .int x2, .int x3].toArray s 0 0 A) (F0 m 164 ls [.int k164_0, .int x3, .int v152, .int v144, .ref a0]) := by
                      intro k164_0 H locs ls l_k164_0 u_k164_0 hH hS hl
                      refine lv_iadd hx hb dX12_goesTurn_164 ?_
                      refine lv_topi (fun v164 ev164 => ?_)
                      refine tk_v hH hS hA (tr_V (n := 3) (As := [.int v144, .int v152, .int v164]) hx hb hml hown hts hkb hH hOX hks hE hS hA (s_M_goesTurn4 l D cs kf T O X a0 hg mq v144 v152 v164 t_a0 b_hg (by omega) (by omega) (by omega) (by omega) (by omega) (hO.sub (by decide))) kw_1756 kw_1758 ks_103 kw_13 kw_1759 (by decide +kernel) ⟨Nat.le_of_ble_eq_true rfl, Nat.le_of_ble_eq_true rfl⟩ (HT.recv (ci := 12) hkb hH t_a0 (hO.no t_a0 (by decide)) rfl) rfl rfl hl.1 (Nat.le_of_ble_eq_true rfl) dX12_goesTurn_165 ⟨Nat.le_of_ble_eq_true rfl, Nat.le_of_ble_eq_true rfl⟩) (fun u H locs hz9 hH hS => ?_)
                      obtain ⟨rfl⟩ := hz9
                      have hH : HT D cs A T O X H := hH
                      refine W.widen (k := 0) (n := 0) (Nat.le_of_ble_eq_true rfl) (Nat.le_of_ble_eq_true rfl) ?_
                      refine lv_iconst (v := 0) hx hb dX12_goesTurn_168 (by decide) ?_
                      have J171 : ∀ (n : Nat) (p171_6 : Int32) (H : Heap) (locs : List Loc) (ls : Array Slot), (31 - p171_6.toInt).toNat = n → (0 ≤ p171_6.toInt) → (p171_6.toInt ≤ 31) → HT D cs A T O X H → va_S A s.heap H locs → lv_has ls 7 [(6, .int p171_6), (4, .int p89_4), (0, .ref a0), (1, .int x1), (2, .int x2), (3, .int x3)] → W p l e { frames := 7, cells := 0, slots := 0, locals := 166 } s m [.ref a0, .int x1, .int x2, .int x3].toArray below meth c H locs 0 0 (MQ below (Tv D cs (fun u => u = (T, O, X)) A) [.ref a0, .int x1, .int x2, .int x3].toArray s 0 0 A) (F0 m 171 ls []) := by
                        intro n
                        induction n using Nat.strongRecOn with
                        | _ n ih171 =>
                          intro p171_6 H locs ls hm171 l_p171_6 u_p171_6 hH hS hl
                          refine lv_iload hx hb dX12_goesTurn_171 (lv_at hl 0 rfl) ?_
                          refine lv_bipush (v := 31) hx hb dX12_goesTurn_173 (by decide) ?_
                          refine lv_icmp_ge (tgt := 206) hx hb dX12_goesTurn_175 (by decide) (fun c175 => ?_) (fun c175 => ?_)
                          · skip
                            have tc175 := f_ge (k := 31) (by decide) c175
                            exact J206  _ _ _  hH hS (lv_sub hl [1, 2, 3, 4, 5] rfl)
                          · skip
                            have tc175 := f_nge (k := 31) (by decide) c175
                            refine lv_aload_n hx hb dX12_goesTurn_178 rfl (lv_at hl 2 rfl) ?_
                            refine t_get (ci := 12) (lst := ft12 hg mq) (C := RX12) (F := TX12) (N := 36) hx hb hts uX12 hown hkb hH t_a0 (hO.no t_a0 (by decide)) (fun _ h9 => h9) rfl rfl 1 (by decide) rfl kw_1224 (fun _ h9 => h9) dX12_goesTurn_179 (fun v9 h9 => ?_)
                            obtain ⟨v179, rfl, t_v179⟩ := h9
                            refine lv_bipush (v := 59) hx hb dX12_goesTurn_182 (by decide) ?_
                            refine lv_iload hx hb dX12_goesTurn_184 (lv_at hl 0 rfl) ?_
                            refine lv_iadd hx hb dX12_goesTurn_186 ?_
                            refine lv_topi (fun v186 ev186 => ?_)
                            have tv186 : v186.toInt = (59) + p171_6.toInt := by rw [ev186]; exact add_i (by decide : (59 : Int32).toInt = 59) rfl (by omega) (by omega)
                            refine lv_aload_n hx hb dX12_goesTurn_187 rfl (lv_at hl 2 rfl) ?_
                            refine t_get (ci := 12) (lst := ft12 hg mq) (C := RX12) (F := TX12) (N := 36) hx hb hts uX12 hown hkb hH t_a0 (hO.no t_a0 (by decide)) (fun _ h9 => h9) rfl rfl 31 (by decide) rfl kw_1254 (fun _ h9 => h9) dX12_goesTurn_188 (fun v9 h9 => ?_)
                            obtain ⟨v188, rfl, t_v188⟩ := h9
                            refine lv_bipush (v := 31) hx hb dX12_goesTurn_191 (by decide) ?_
                            refine lv_iload_n hx hb dX12_goesTurn_193 rfl (lv_at hl 3 rfl) ?_
                            refine lv_imul hx hb dX12_goesTurn_194 ?_
                            refine lv_topi (fun v194 ev194 => ?_)
                            have tv194 : v194.toInt = (31) * x1.toInt := by rw [ev194]; exact mul_i (by decide : (31 : Int32).toInt = 31) rfl (by omega) (by omega)
                            refine lv_iload hx hb dX12_goesTurn_195 (lv_at hl 0 rfl) ?_
                            refine lv_iadd hx hb dX12_goesTurn_197 ?_
                            refine lv_topi (fun v197 ev197 => ?_)
                            have tv197 : v197.toInt = v194.toInt + p171_6.toInt := by rw [ev197]; exact add_i rfl rfl (by omega) (by omega)
                            refine t_ild hx hb hkb hH t_v188 (hO.no t_v188 (by decide)) (by omega) (by omega) dX12_goesTurn_198 (fun v198 h9 => ?_)
                            refine t_ist8 hx hb hkb hH hS t_v179 (hO.no t_v179 (by decide)) (by decide) (by omega) (by omega) (by omega) (by omega) (p8_far (by omega) (by omega)) dX12_goesTurn_199 (fun H locs hH hS => ?_)
                            obtain ⟨v200, ev200⟩ : ∃ y : Int32, y = p171_6 + 1 := ⟨_, rfl⟩
                            have tv200 : v200.toInt = p171_6.toInt + (1) := by rw [ev200]; exact add_i rfl (by decide) (by omega) (by omega)
                            refine lv_iinc (v := v200) (lv' := [(6, .int v200), (4, .int p89_4), (0, .ref a0), (1, .int x1), (2, .int x2), (3, .int x3)]) hx hb dX12_goesTurn_200 hl (k := 0) rfl (by rw [ev200]; rfl) (by decide) rfl (fun ls hl => ?_)
                            refine lv_goto (tgt := 171) hx hb dX12_goesTurn_203 (by decide) ?_
                            exact ih171 _ (by omega) v200 _ _ _ rfl (by omega) (by omega) hH hS (lv_sub hl [0, 1, 2, 3, 4, 5] rfl)
                      refine lv_istore (lv' := [(6, .int 0), (4, .int p89_4), (0, .ref a0), (1, .int x1), (2, .int x2), (3, .int x3)]) hx hb dX12_goesTurn_169 hl (by decide) rfl (fun ls hl => ?_)
                      exact J171 _ 0 _ _ _ rfl (by decide) (by decide) hH hS (lv_sub hl [0, 1, 2, 3, 4, 5] rfl)
                    refine lv_if_eq (tgt := 163) hx hb dX12_goesTurn_156 (by decide) (fun c156 => ?_) (fun c156 => ?_)
                    · skip
                      have tc156 := f_eq (k := 0) (by decide) c156
                      refine lv_iconst (v := 0) hx hb dX12_goesTurn_163 (by decide) ?_
                      exact J164 0 _ _ _ (by decide) (by decide) hH hS (lv_sub hl [1, 2, 3, 4, 5] rfl)
                    · skip
                      have tc156 := f_ne (k := 0) (by decide) c156
                      refine lv_iconst (v := 1) hx hb dX12_goesTurn_159 (by decide) ?_
                      refine lv_goto (tgt := 164) hx hb dX12_goesTurn_160 (by decide) ?_
                      exact J164 1 _ _ _ (by decide) (by decide) hH hS (lv_sub hl [1, 2, 3, 4, 5] rfl)
                  refine lv_if_eq (tgt := 141) hx hb dX12_goesTurn_131 (by decide) (fun c131 => ?_) (fun c131 => ?_)
                  · skip
                    have tc131 := f_eq (k := 0) (by decide) c131
                    exact J141  _ _ _  hH hS (lv_sub hl [0, 1, 2, 3, 4, 5] rfl)
                  · skip
                    have tc131 := f_ne (k := 0) (by decide) c131
                    refine lv_aload_n hx hb dX12_goesTurn_134 rfl (lv_at hl 2 rfl) ?_
                    refine lv_iload hx hb dX12_goesTurn_135 (lv_at hl 1 rfl) ?_
                    refine tk_i hH hS hA (tr_V (n := 1) (As := [.int p89_4]) hx hb hml hown hts hkb hH hOX hks hE hS hA (s_M_usesRow l D cs kf T O X a0 hg mq p89_4 t_a0 b_hg (hO.sub (by decide))) kw_1548 kw_1550 ks_80 kw_13 kw_1551 (by decide +kernel) ⟨Nat.le_of_ble_eq_true rfl, Nat.le_of_ble_eq_true rfl⟩ (HT.recv (ci := 12) hkb hH t_a0 (hO.no t_a0 (by decide)) rfl) rfl rfl hl.1 (Nat.le_of_ble_eq_true rfl) dX12_goesTurn_137 ⟨Nat.le_of_ble_eq_true rfl, Nat.le_of_ble_eq_true rfl⟩) (fun v137 u H locs hz9 hH hS => ?_)
                    have hz9 : u = (T, O, X) := hz9
                    subst hz9
                    have hH : HT D cs A T O X H := hH
                    refine W.widen (k := 0) (n := 0) (Nat.le_of_ble_eq_true rfl) (Nat.le_of_ble_eq_true rfl) ?_
                    refine lv_pop hx hb dX12_goesTurn_140 rfl ?_
                    exact J141  _ _ _  hH hS (lv_sub hl [0, 1, 2, 3, 4, 5] rfl)
                · skip
                  have tc107 := f_eq (k := 0) (by decide) c107
                  refine lv_goto (tgt := 206) hx hb dX12_goesTurn_110 (by decide) ?_
                  exact J206  _ _ _  hH hS (lv_sub hl [0, 1, 2, 3, 4] rfl)
          refine lv_istore (lv' := [(4, .int 0), (0, .ref a0), (1, .int x1), (2, .int x2), (3, .int x3)]) hx hb dX12_goesTurn_87 hl (by decide) rfl (fun ls hl => ?_)
          exact J89 _ 0 _ _ _ rfl (by decide) (by decide) hH hS (lv_sub hl [0, 1, 2, 3, 4] rfl)
        · skip
          have tc55 := f_nge (k := 31) (by decide) c55
          refine lv_aload_n hx hb dX12_goesTurn_58 rfl (lv_at hl 1 rfl) ?_
          refine t_get (ci := 12) (lst := ft12 hg mq) (C := RX12) (F := TX12) (N := 36) hx hb hts uX12 hown hkb hH t_a0 (hO.no t_a0 (by decide)) (fun _ h9 => h9) rfl rfl 31 (by decide) rfl kw_1254 (fun _ h9 => h9) dX12_goesTurn_59 (fun v9 h9 => ?_)
          obtain ⟨v59, rfl, t_v59⟩ := h9
          refine lv_bipush (v := 31) hx hb dX12_goesTurn_62 (by decide) ?_
          refine lv_iload_n hx hb dX12_goesTurn_64 rfl (lv_at hl 2 rfl) ?_
          refine lv_imul hx hb dX12_goesTurn_65 ?_
          refine lv_topi (fun v65 ev65 => ?_)
          have tv65 : v65.toInt = (31) * x1.toInt := by rw [ev65]; exact mul_i (by decide : (31 : Int32).toInt = 31) rfl (by omega) (by omega)
          refine lv_iload hx hb dX12_goesTurn_66 (lv_at hl 0 rfl) ?_
          refine lv_iadd hx hb dX12_goesTurn_68 ?_
          refine lv_topi (fun v68 ev68 => ?_)
          have tv68 : v68.toInt = v65.toInt + p51_4.toInt := by rw [ev68]; exact add_i rfl rfl (by omega) (by omega)
          refine lv_aload_n hx hb dX12_goesTurn_69 rfl (lv_at hl 1 rfl) ?_
          refine t_get (ci := 12) (lst := ft12 hg mq) (C := RX12) (F := TX12) (N := 36) hx hb hts uX12 hown hkb hH t_a0 (hO.no t_a0 (by decide)) (fun _ h9 => h9) rfl rfl 1 (by decide) rfl kw_1224 (fun _ h9 => h9) dX12_goesTurn_70 (fun v9 h9 => ?_)
          obtain ⟨v70, rfl, t_v70⟩ := h9
          refine lv_bipush (v := 59) hx hb dX12_goesTurn_73 (by decide) ?_
          refine lv_iload hx hb dX12_goesTurn_75 (lv_at hl 0 rfl) ?_
          refine lv_iadd hx hb dX12_goesTurn_77 ?_
          refine lv_topi (fun v77 ev77 => ?_)
          have tv77 : v77.toInt = (59) + p51_4.toInt := by rw [ev77]; exact add_i (by decide : (59 : Int32).toInt = 59) rfl (by omega) (by omega)
          refine t_ild8 hx hb hkb hH t_v70 (hO.no t_v70 (by decide)) (by decide) (by omega) (by omega) dX12_goesTurn_78 (fun v78 h9 h8 => ?_)
          refine t_ist hx hb hkb hH hS t_v59 (hO.no t_v59 (by decide)) (by omega) (by omega) (cp_0 _) dX12_goesTurn_79 (fun H locs hH hS => ?_)
          obtain ⟨v80, ev80⟩ : ∃ y : Int32, y = p51_4 + 1 := ⟨_, rfl⟩
          have tv80 : v80.toInt = p51_4.toInt + (1) := by rw [ev80]; exact add_i rfl (by decide) (by omega) (by omega)
          refine lv_iinc (v := v80) (lv' := [(4, .int v80), (0, .ref a0), (1, .int x1), (2, .int x2), (3, .int x3)]) hx hb dX12_goesTurn_80 hl (k := 0) rfl (by rw [ev80]; rfl) (by decide) rfl (fun ls hl => ?_)
          refine lv_goto (tgt := 51) hx hb dX12_goesTurn_83 (by decide) ?_
          exact ih51 _ (by omega) v80 _ _ _ rfl (by omega) (by omega) hH hS (lv_sub hl [0, 1, 2, 3, 4] rfl)
    refine lv_istore (lv' := [(4, .int 0), (0, .ref a0), (1, .int x1), (2, .int x2), (3, .int x3)]) hx hb dX12_goesTurn_49 hl (by decide) rfl (fun ls hl => ?_)
    exact J51 _ 0 _ _ _ rfl (by decide) (by decide) hH hS (lv_sub hl [0, 1, 2, 3, 4] rfl)
  · skip
    have tc1 := f_eq (k := 0) (by decide) c1
    refine lv_iload_n hx hb dX12_goesTurn_4 rfl (lv_at hl 3 rfl) ?_
    refine lv_aload_n hx hb dX12_goesTurn_5 rfl (lv_at hl 0 rfl) ?_
    refine t_get (ci := 12) (lst := ft12 hg mq) (C := RX12) (F := TX12) (N := 36) hx hb hts uX12 hown hkb hH t_a0 (hO.no t_a0 (by decide)) (fun _ h9 => h9) rfl rfl 32 (by decide) rfl kw_1255 (fun _ h9 => h9) dX12_goesTurn_6 (fun v9 h9 => ?_)
    obtain ⟨v6, rfl⟩ := h9
    refine lv_icmp_gt (tgt := 13) hx hb dX12_goesTurn_9 (by decide) (fun c9 => ?_) (fun c9 => ?_)
    · skip
      have fuc9 := full_i x3
      have fvc9 := full_i v6
      have tc9 := g_lt c9
      refine lv_aload_n hx hb dX12_goesTurn_13 rfl (lv_at hl 0 rfl) ?_
      refine lv_iload_n hx hb dX12_goesTurn_14 rfl (lv_at hl 3 rfl) ?_
      refine t_put (ci := 12) (lst := ft12 hg mq) (v := .int x3) (ty := tyX12 32) (C := RX12) (F := TX12) (N := 36) hx hb hts uX12 tyX12 tyX12_ok nmX12 hown hkb hH hS t_a0 (hO.no t_a0 (by decide)) (fun _ => Iff.rfl) rfl rfl 32 (by decide) rfl (⟨_, rfl⟩) kw_1255 (fun _ h9 => h9) rfl (tyX12_ok 32 (by decide)) rfl rfl dX12_goesTurn_15 (fun H locs hH hS => ?_)
      refine lv_iconst (v := 0) hx hb dX12_goesTurn_18 (by decide) ?_
      have J21 : ∀ (n : Nat) (p21_4 : Int32) (H : Heap) (locs : List Loc) (ls : Array Slot), (3 - p21_4.toInt).toNat = n → (0 ≤ p21_4.toInt) → (p21_4.toInt ≤ 3) → HT D cs A T O X H → va_S A s.heap H locs → lv_has ls 7 [(4, .int p21_4), (0, .ref a0), (1, .int x1)] → W p l e { frames := 7, cells := 0, slots := 0, locals := 166 } s m [.ref a0, .int x1, .int x2, .int x3].toArray below meth c H locs 0 0 (MQ below (Tv D cs (fun u => u = (T, O, X)) A) [.ref a0, .int x1, .int x2, .int x3].toArray s 0 0 A) (F0 m 21 ls []) := by
        intro n
        induction n using Nat.strongRecOn with
        | _ n ih21 =>
          intro p21_4 H locs ls hm21 l_p21_4 u_p21_4 hH hS hl
          refine lv_iload hx hb dX12_goesTurn_21 (lv_at hl 0 rfl) ?_
          refine lv_iload_n hx hb dX12_goesTurn_23 rfl (lv_at hl 2 rfl) ?_
          refine lv_icmp_ge (tgt := 47) hx hb dX12_goesTurn_24 (by decide) (fun c24 => ?_) (fun c24 => ?_)
          · skip
            have fuc24 := full_i p21_4
            have fvc24 := full_i x1
            have tc24 := g_le c24
            exact te_v hx hb hr hlocks hH hS (rfl) dX12_goesTurn_47
          · skip
            have fuc24 := full_i p21_4
            have fvc24 := full_i x1
            have tc24 := g_nle c24
            refine lv_aload_n hx hb dX12_goesTurn_27 rfl (lv_at hl 1 rfl) ?_
            refine t_get (ci := 12) (lst := ft12 hg mq) (C := RX12) (F := TX12) (N := 36) hx hb hts uX12 hown hkb hH t_a0 (hO.no t_a0 (by decide)) (fun _ h9 => h9) rfl rfl 30 (by decide) rfl kw_1253 (fun _ h9 => h9) dX12_goesTurn_28 (fun v9 h9 => ?_)
            obtain ⟨v28, rfl, t_v28⟩ := h9
            refine lv_iload hx hb dX12_goesTurn_31 (lv_at hl 0 rfl) ?_
            refine lv_aload_n hx hb dX12_goesTurn_33 rfl (lv_at hl 1 rfl) ?_
            refine t_get (ci := 12) (lst := ft12 hg mq) (C := RX12) (F := TX12) (N := 36) hx hb hts uX12 hown hkb hH t_a0 (hO.no t_a0 (by decide)) (fun _ h9 => h9) rfl rfl 29 (by decide) rfl kw_1252 (fun _ h9 => h9) dX12_goesTurn_34 (fun v9 h9 => ?_)
            obtain ⟨v34, rfl, t_v34⟩ := h9
            refine lv_iload hx hb dX12_goesTurn_37 (lv_at hl 0 rfl) ?_
            refine t_ild hx hb hkb hH t_v34 (hO.no t_v34 (by decide)) (by omega) (by omega) dX12_goesTurn_39 (fun v39 h9 => ?_)
            refine t_ist hx hb hkb hH hS t_v28 (hO.no t_v28 (by decide)) (by omega) (by omega) (cp_0 _) dX12_goesTurn_40 (fun H locs hH hS => ?_)
            obtain ⟨v41, ev41⟩ : ∃ y : Int32, y = p21_4 + 1 := ⟨_, rfl⟩
            have tv41 : v41.toInt = p21_4.toInt + (1) := by rw [ev41]; exact add_i rfl (by decide) (by omega) (by omega)
            refine lv_iinc (v := v41) (lv' := [(4, .int v41), (0, .ref a0), (1, .int x1)]) hx hb dX12_goesTurn_41 hl (k := 0) rfl (by rw [ev41]; rfl) (by decide) rfl (fun ls hl => ?_)
            refine lv_goto (tgt := 21) hx hb dX12_goesTurn_44 (by decide) ?_
            exact ih21 _ (by omega) v41 _ _ _ rfl (by omega) (by omega) hH hS (lv_sub hl [0, 1, 2] rfl)
      refine lv_istore (lv' := [(4, .int 0), (0, .ref a0), (1, .int x1), (2, .int x2), (3, .int x3)]) hx hb dX12_goesTurn_19 hl (by decide) rfl (fun ls hl => ?_)
      exact J21 _ 0 _ _ _ rfl (by decide) (by decide) hH hS (lv_sub hl [0, 1, 2] rfl)
    · skip
      have fuc9 := full_i x3
      have fvc9 := full_i v6
      have tc9 := g_nlt c9
      exact te_v hx hb hr hlocks hH hS (rfl) dX12_goesTurn_12
set_option maxHeartbeats 4000000 in
set_option maxRecDepth 100000 in
theorem s_M_goesTurn2 (l : Launch) (D : va_G) (cs : CS) (kf : KF) (T : TF) (O : List Nat) (X : va_W) (a0 hg mq : Nat) (x1 : Int32) (x2 : Int32) (x3 : Int32) (t_a0 : T a0 = some (22, hg, mq)) (b_hg : hg < 90) (l_x1 : 2 ≤ x1.toInt) (u_x1 : x1.toInt ≤ 2) (l_x2 : 0 ≤ x2.toInt) (u_x2 : x2.toInt ≤ 31) (hp : pcn 5 x2.toInt.toNat ≤ 3) (hO : okO T O [1, 8, 9, 22]) : TK l D cs kf yX12_goesTurn cX12_goesTurn 7 none { frames := 8, cells := 0, slots := 0, locals := 192 } [.ref a0, .int x1, .int x2, .int x3] T O X (Tv D cs (fun u => u = (T, O, X))) := by
  refine tk_of (by decide) (Nat.le_of_ble_eq_true rfl) (fun p e s m below meth c ls A H locs hx hb hr hml hown hts hlocks hnm hkb hH hS hA hOX hks hE hl => ?_)
  have hown : s.vm.findClass RX12 = some m.cls := hown
  have hl : lv_has ls 7 [(0, .ref a0), (1, .int x1), (2, .int x2), (3, .int x3)] := hl
  refine lv_iload_n hx hb dX12_goesTurn_0 rfl (lv_at hl 2 rfl) ?_
  refine lv_if_ne (tgt := 48) hx hb dX12_goesTurn_1 (by decide) (fun c1 => ?_) (fun c1 => ?_)
  · skip
    have tc1 := f_ne (k := 0) (by decide) c1
    refine lv_iconst (v := 0) hx hb dX12_goesTurn_48 (by decide) ?_
    have J51 : ∀ (n : Nat) (p51_4 : Int32) (H : Heap) (locs : List Loc) (ls : Array Slot), (31 - p51_4.toInt).toNat = n → (0 ≤ p51_4.toInt) → (p51_4.toInt ≤ 31) → HT D cs A T O X H → va_S A s.heap H locs → lv_has ls 7 [(4, .int p51_4), (0, .ref a0), (1, .int x1), (2, .int x2), (3, .int x3)] → W p l e { frames := 8, cells := 0, slots := 0, locals := 192 } s m [.ref a0, .int x1, .int x2, .int x3].toArray below meth c H locs 0 0 (MQ below (Tv D cs (fun u => u = (T, O, X)) A) [.ref a0, .int x1, .int x2, .int x3].toArray s 0 0 A) (F0 m 51 ls []) := by
      intro n
      induction n using Nat.strongRecOn with
      | _ n ih51 =>
        intro p51_4 H locs ls hm51 l_p51_4 u_p51_4 hH hS hl
        refine lv_iload hx hb dX12_goesTurn_51 (lv_at hl 0 rfl) ?_
        refine lv_bipush (v := 31) hx hb dX12_goesTurn_53 (by decide) ?_
        refine lv_icmp_ge (tgt := 86) hx hb dX12_goesTurn_55 (by decide) (fun c55 => ?_) (fun c55 => ?_)
        · skip
          have tc55 := f_ge (k := 31) (by decide) c55
          refine lv_iconst (v := 0) hx hb dX12_goesTurn_86 (by decide) ?_
          have J89 : ∀ (n : Nat) (p89_4 : Int32) (H : Heap) (locs : List Loc) (ls : Array Slot), (5 - p89_4.toInt).toNat = n → (0 ≤ p89_4.toInt) → (p89_4.toInt ≤ 5) → HT D cs A T O X H → va_S A s.heap H locs → lv_has ls 7 [(4, .int p89_4), (0, .ref a0), (1, .int x1), (2, .int x2), (3, .int x3)] → W p l e { frames := 8, cells := 0, slots := 0, locals := 192 } s m [.ref a0, .int x1, .int x2, .int x3].toArray below meth c H locs 0 0 (MQ below (Tv D cs (fun u => u = (T, O, X)) A) [.ref a0, .int x1, .int x2, .int x3].toArray s 0 0 A) (F0 m 89 ls []) := by
            intro n
            induction n using Nat.strongRecOn with
            | _ n ih89 =>
              intro p89_4 H locs ls hm89 l_p89_4 u_p89_4 hH hS hl
              refine lv_iload hx hb dX12_goesTurn_89 (lv_at hl 0 rfl) ?_
              refine lv_aload_n hx hb dX12_goesTurn_91 rfl (lv_at hl 1 rfl) ?_
              refine t_get (ci := 12) (lst := ft12 hg mq) (C := RX12) (F := TX12) (N := 36) hx hb hts uX12 hown hkb hH t_a0 (hO.no t_a0 (by decide)) (fun _ h9 => h9) rfl rfl 1 (by decide) rfl kw_1224 (fun _ h9 => h9) dX12_goesTurn_92 (fun v9 h9 => ?_)
              obtain ⟨v92, rfl, t_v92⟩ := h9
              refine lv_iconst (v := 2) hx hb dX12_goesTurn_95 (by decide) ?_
              refine t_ild8 hx hb hkb hH t_v92 (hO.no t_v92 (by decide)) (by decide) (by decide) (by decide) dX12_goesTurn_96 (fun v96 h9 h8 => ?_)
              have q9 := (h8 rfl).2 rfl
              subst q9
              have eG9 : (nI (hg % 6)).toInt = (((hg % 6) : Nat) : Int) := nI_toInt (by omega)
              refine lv_icmp_ge (tgt := 212) hx hb dX12_goesTurn_97 (by decide) (fun c97 => ?_) (fun c97 => ?_)
              · skip
                have fuc97 := full_i p89_4
                have fvc97 := full_i (nI (hg % 6))
                have tc97 := g_le c97
                exact te_v hx hb hr hlocks hH hS (rfl) dX12_goesTurn_212
              · skip
                have fuc97 := full_i p89_4
                have fvc97 := full_i (nI (hg % 6))
                have tc97 := g_nle c97
                refine lv_iload_n hx hb dX12_goesTurn_100 rfl (lv_at hl 3 rfl) ?_
                refine lv_i2l hx hb dX12_goesTurn_101 rfl ?_
                refine lv_iload hx hb dX12_goesTurn_102 (lv_at hl 0 rfl) ?_
                refine tk_i hH hS hA (tr_S (n := 2) (As := [.long x2.toInt64, .int p89_4]) hx hb hml hown hts hkb hH hOX hks hE hS hA (s_M_isIn2 l D cs kf T O X x2.toInt64 p89_4  (hO.sub (by decide))) kw_1440 kw_1441 kw_13 kw_1442 (by decide +kernel) ⟨Nat.le_of_ble_eq_true rfl, Nat.le_of_ble_eq_true rfl⟩ rfl rfl hl.1 (Nat.le_of_ble_eq_true rfl) dX12_goesTurn_104 ⟨Nat.le_of_ble_eq_true rfl, Nat.le_of_ble_eq_true rfl⟩) (fun v104 u H locs hz9 hH hS => ?_)
                obtain ⟨rfl, l_v104, u_v104, x_v1040⟩ := hz9
                have hH : HT D cs A T O X H := hH
                refine W.widen (k := 0) (n := 0) (Nat.le_of_ble_eq_true rfl) (Nat.le_of_ble_eq_true rfl) ?_
                have J206 : ∀  (H : Heap) (locs : List Loc) (ls : Array Slot), HT D cs A T O X H → va_S A s.heap H locs → lv_has ls 7 [(4, .int p89_4), (0, .ref a0), (1, .int x1), (2, .int x2), (3, .int x3)] → W p l e { frames := 8, cells := 0, slots := 0, locals := 192 } s m [.ref a0, .int x1, .int x2, .int x3].toArray below meth c H locs 0 0 (MQ below (Tv D cs (fun u => u = (T, O, X)) A) [.ref a0, .int x1, .int x2, .int x3].toArray s 0 0 A) (F0 m 206 ls []) := by
                  intro  H locs ls  hH hS hl
                  obtain ⟨v206, ev206⟩ : ∃ y : Int32, y = p89_4 + 1 := ⟨_, rfl⟩
                  have tv206 : v206.toInt = p89_4.toInt + (1) := by rw [ev206]; exact add_i rfl (by decide) (by omega) (by omega)
                  refine lv_iinc (v := v206) (lv' := [(4, .int v206), (0, .ref a0), (1, .int x1), (2, .int x2), (3, .int x3)]) hx hb dX12_goesTurn_206 hl (k := 0) rfl (by rw [ev206]; rfl) (by decide) rfl (fun ls hl => ?_)
                  refine lv_goto (tgt := 89) hx hb dX12_goesTurn_209 (by decide) ?_
                  exact ih89 _ (by omega) v206 _ _ _ rfl (by omega) (by omega) hH hS (lv_sub hl [0, 1, 2, 3, 4] rfl)
                refine lv_if_ne (tgt := 113) hx hb dX12_goesTurn_107 (by decide) (fun c107 => ?_) (fun c107 => ?_)
                · skip
                  have tc107 := f_ne (k := 0) (by decide) c107
                  refine lv_aload_n hx hb dX12_goesTurn_113 rfl (lv_at hl 1 rfl) ?_
                  refine t_get (ci := 12) (lst := ft12 hg mq) (C := RX12) (F := TX12) (N := 36) hx hb hts uX12 hown hkb hH t_a0 (hO.no t_a0 (by decide)) (fun _ h9 => h9) rfl rfl 29 (by decide) rfl kw_1252 (fun _ h9 => h9) dX12_goesTurn_114 (fun v9 h9 => ?_)
                  obtain ⟨v114, rfl, t_v114⟩ := h9
                  refine lv_iload_n hx hb dX12_goesTurn_117 rfl (lv_at hl 2 rfl) ?_
                  refine lv_iload hx hb dX12_goesTurn_118 (lv_at hl 0 rfl) ?_
                  refine t_ist hx hb hkb hH hS t_v114 (hO.no t_v114 (by decide)) (by omega) (by omega) (cp_0 _) dX12_goesTurn_120 (fun H locs hH hS => ?_)
                  refine lv_aload_n hx hb dX12_goesTurn_121 rfl (lv_at hl 1 rfl) ?_
                  refine lv_iload hx hb dX12_goesTurn_122 (lv_at hl 0 rfl) ?_
                  refine tk_i hH hS hA (tr_V (n := 1) (As := [.int p89_4]) hx hb hml hown hts hkb hH hOX hks hE hS hA (s_M_laysWayOf l D cs kf T O X a0 hg mq p89_4 t_a0 b_hg (by omega) (by omega) (hO.sub (by decide))) kw_1560 kw_1562 ks_82 kw_13 kw_1563 (by decide +kernel) ⟨Nat.le_of_ble_eq_true rfl, Nat.le_of_ble_eq_true rfl⟩ (HT.recv (ci := 12) hkb hH t_a0 (hO.no t_a0 (by decide)) rfl) rfl rfl hl.1 (Nat.le_of_ble_eq_true rfl) dX12_goesTurn_124 ⟨Nat.le_of_ble_eq_true rfl, Nat.le_of_ble_eq_true rfl⟩) (fun v124 u H locs hz9 hH hS => ?_)
                  obtain ⟨rfl, l_v124, u_v124⟩ := hz9
                  have hH : HT D cs A T O X H := hH
                  refine W.widen (k := 0) (n := 0) (Nat.le_of_ble_eq_true rfl) (Nat.le_of_ble_eq_true rfl) ?_
                  refine lv_istore (lv' := [(5, .int v124), (4, .int p89_4), (0, .ref a0), (1, .int x1), (2, .int x2), (3, .int x3)]) hx hb dX12_goesTurn_127 hl (by decide) rfl (fun ls hl => ?_)
                  refine lv_iload hx hb dX12_goesTurn_129 (lv_at hl 0 rfl) ?_
                  have J141 : ∀  (H : Heap) (locs : List Loc) (ls : Array Slot), HT D cs A T O X H → va_S A s.heap H locs → lv_has ls 7 [(5, .int v124), (4, .int p89_4), (0, .ref a0), (1, .int x1), (2, .int x2), (3, .int x3)] → W p l e { frames := 8, cells := 0, slots := 0, locals := 192 } s m [.ref a0, .int x1, .int x2, .int x3].toArray below meth c H locs 0 0 (MQ below (Tv D cs (fun u => u = (T, O, X)) A) [.ref a0, .int x1, .int x2, .int x3].toArray s 0 0 A) (F0 m 141 ls []) := by
                    intro  H locs ls  hH hS hl
                    refine lv_aload_n hx hb dX12_goesTurn_141 rfl (lv_at hl 2 rfl) ?_
                    refine lv_iload_n hx hb dX12_goesTurn_142 rfl (lv_at hl 3 rfl) ?_
                    refine lv_iconst (v := 1) hx hb dX12_goesTurn_143 (by decide) ?_
                    refine lv_iadd hx hb dX12_goesTurn_144 ?_
                    refine lv_topi (fun v144 ev144 => ?_)
                    have tv144 : v144.toInt = x1.toInt + (1) := by rw [ev144]; exact add_i rfl (by decide : (1 : Int32).toInt = 1) (by omega) (by omega)
                    refine lv_iload_n hx hb dX12_goesTurn_145 rfl (lv_at hl 4 rfl) ?_
                    refine lv_iconst (v := 1) hx hb dX12_goesTurn_146 (by decide) ?_
                    refine lv_iload hx hb dX12_goesTurn_147 (lv_at hl 1 rfl) ?_
                    refine lv_ishl hx hb dX12_goesTurn_149 ?_
                    refine lv_topi (fun v149 ev149 => ?_)
                    have tv149 : 1 ≤ v149.toInt ∧ v149.toInt ≤ 16 := by rw [ev149]; exact shl_b 4 (by decide) (by omega) (by omega)
                    refine lv_iconst (v := (-1)) hx hb dX12_goesTurn_150 (by decide) ?_
                    refine lv_ixor hx hb dX12_goesTurn_151 ?_
                    refine lv_topi (fun v151 ev151 => ?_)
                    refine lv_iand hx hb dX12_goesTurn_152 ?_
                    refine lv_topi (fun v152 ev152 => ?_)
                    have tv152 : 0 ≤ v152.toInt ∧ v152.toInt ≤ x2.toInt := by rw [ev152]; exact and_l (by omega)
                    have hp9 := gt_step (by omega) (by omega) (by omega) (by omega) (inF_nz x_v1040 tc107) ev149 ev151 ev152
                    refine lv_iload_n hx hb dX12_goesTurn_153 rfl (lv_at hl 5 rfl) ?_
                    refine lv_iload hx hb dX12_goesTurn_154 (lv_at hl 0 rfl) ?_
                    have J164 : ∀ (k164_0 : Int32) (H : Heap) (locs : List Loc) (ls : Array Slot), (0 ≤ k164_0.toInt) → (k164_0.toInt ≤ 1) → HT D cs A T O X H → va_S A s.heap H locs → lv_has ls 7 [(4, .int p89_4), (0, .ref a0), (1, .int x1), (2, .int x2), (3, .int x3)] → W p l e { frames := 8, cells := 0, slots := 0, locals := 192 } s m [.ref a0, .int x1, .int x2, .int x3].toArray below meth c H locs 0 0 (MQ below (Tv D cs (fun u => u = (T, O, X)) A) [.ref a0, .int x1, .int x2, .int x3].toArray s 0 0 A) (F0 m 164 ls [.int k164_0, .int x3, .int v152, .int v144, .ref a0]) := by
                      intro k164_0 H locs ls l_k164_0 u_k164_0 hH hS hl
                      refine lv_iadd hx hb dX12_goesTurn_164 ?_
                      refine lv_topi (fun v164 ev164 => ?_)
                      refine tk_v hH hS hA (tr_V (n := 3) (As := [.int v144, .int v152, .int v164]) hx hb hml hown hts hkb hH hOX hks hE hS hA (s_M_goesTurn3 l D cs kf T O X a0 hg mq v144 v152 v164 t_a0 b_hg (by omega) (by omega) (by omega) (by omega) (by omega) (hO.sub (by decide))) kw_1756 kw_1758 ks_103 kw_13 kw_1759 (by decide +kernel) ⟨Nat.le_of_ble_eq_true rfl, Nat.le_of_ble_eq_true rfl⟩ (HT.recv (ci := 12) hkb hH t_a0 (hO.no t_a0 (by decide)) rfl) rfl rfl hl.1 (Nat.le_of_ble_eq_true rfl) dX12_goesTurn_165 ⟨Nat.le_of_ble_eq_true rfl, Nat.le_of_ble_eq_true rfl⟩) (fun u H locs hz9 hH hS => ?_)
                      obtain ⟨rfl⟩ := hz9
                      have hH : HT D cs A T O X H := hH
                      refine W.widen (k := 0) (n := 0) (Nat.le_of_ble_eq_true rfl) (Nat.le_of_ble_eq_true rfl) ?_
                      refine lv_iconst (v := 0) hx hb dX12_goesTurn_168 (by decide) ?_
                      have J171 : ∀ (n : Nat) (p171_6 : Int32) (H : Heap) (locs : List Loc) (ls : Array Slot), (31 - p171_6.toInt).toNat = n → (0 ≤ p171_6.toInt) → (p171_6.toInt ≤ 31) → HT D cs A T O X H → va_S A s.heap H locs → lv_has ls 7 [(6, .int p171_6), (4, .int p89_4), (0, .ref a0), (1, .int x1), (2, .int x2), (3, .int x3)] → W p l e { frames := 8, cells := 0, slots := 0, locals := 192 } s m [.ref a0, .int x1, .int x2, .int x3].toArray below meth c H locs 0 0 (MQ below (Tv D cs (fun u => u = (T, O, X)) A) [.ref a0, .int x1, .int x2, .int x3].toArray s 0 0 A) (F0 m 171 ls []) := by
                        intro n
                        induction n using Nat.strongRecOn with
                        | _ n ih171 =>
                          intro p171_6 H locs ls hm171 l_p171_6 u_p171_6 hH hS hl
                          refine lv_iload hx hb dX12_goesTurn_171 (lv_at hl 0 rfl) ?_
                          refine lv_bipush (v := 31) hx hb dX12_goesTurn_173 (by decide) ?_
                          refine lv_icmp_ge (tgt := 206) hx hb dX12_goesTurn_175 (by decide) (fun c175 => ?_) (fun c175 => ?_)
                          · skip
                            have tc175 := f_ge (k := 31) (by decide) c175
                            exact J206  _ _ _  hH hS (lv_sub hl [1, 2, 3, 4, 5] rfl)
                          · skip
                            have tc175 := f_nge (k := 31) (by decide) c175
                            refine lv_aload_n hx hb dX12_goesTurn_178 rfl (lv_at hl 2 rfl) ?_
                            refine t_get (ci := 12) (lst := ft12 hg mq) (C := RX12) (F := TX12) (N := 36) hx hb hts uX12 hown hkb hH t_a0 (hO.no t_a0 (by decide)) (fun _ h9 => h9) rfl rfl 1 (by decide) rfl kw_1224 (fun _ h9 => h9) dX12_goesTurn_179 (fun v9 h9 => ?_)
                            obtain ⟨v179, rfl, t_v179⟩ := h9
                            refine lv_bipush (v := 59) hx hb dX12_goesTurn_182 (by decide) ?_
                            refine lv_iload hx hb dX12_goesTurn_184 (lv_at hl 0 rfl) ?_
                            refine lv_iadd hx hb dX12_goesTurn_186 ?_
                            refine lv_topi (fun v186 ev186 => ?_)
                            have tv186 : v186.toInt = (59) + p171_6.toInt := by rw [ev186]; exact add_i (by decide : (59 : Int32).toInt = 59) rfl (by omega) (by omega)
                            refine lv_aload_n hx hb dX12_goesTurn_187 rfl (lv_at hl 2 rfl) ?_
                            refine t_get (ci := 12) (lst := ft12 hg mq) (C := RX12) (F := TX12) (N := 36) hx hb hts uX12 hown hkb hH t_a0 (hO.no t_a0 (by decide)) (fun _ h9 => h9) rfl rfl 31 (by decide) rfl kw_1254 (fun _ h9 => h9) dX12_goesTurn_188 (fun v9 h9 => ?_)
                            obtain ⟨v188, rfl, t_v188⟩ := h9
                            refine lv_bipush (v := 31) hx hb dX12_goesTurn_191 (by decide) ?_
                            refine lv_iload_n hx hb dX12_goesTurn_193 rfl (lv_at hl 3 rfl) ?_
                            refine lv_imul hx hb dX12_goesTurn_194 ?_
                            refine lv_topi (fun v194 ev194 => ?_)
                            have tv194 : v194.toInt = (31) * x1.toInt := by rw [ev194]; exact mul_i (by decide : (31 : Int32).toInt = 31) rfl (by omega) (by omega)
                            refine lv_iload hx hb dX12_goesTurn_195 (lv_at hl 0 rfl) ?_
                            refine lv_iadd hx hb dX12_goesTurn_197 ?_
                            refine lv_topi (fun v197 ev197 => ?_)
                            have tv197 : v197.toInt = v194.toInt + p171_6.toInt := by rw [ev197]; exact add_i rfl rfl (by omega) (by omega)
                            refine t_ild hx hb hkb hH t_v188 (hO.no t_v188 (by decide)) (by omega) (by omega) dX12_goesTurn_198 (fun v198 h9 => ?_)
                            refine t_ist8 hx hb hkb hH hS t_v179 (hO.no t_v179 (by decide)) (by decide) (by omega) (by omega) (by omega) (by omega) (p8_far (by omega) (by omega)) dX12_goesTurn_199 (fun H locs hH hS => ?_)
                            obtain ⟨v200, ev200⟩ : ∃ y : Int32, y = p171_6 + 1 := ⟨_, rfl⟩
                            have tv200 : v200.toInt = p171_6.toInt + (1) := by rw [ev200]; exact add_i rfl (by decide) (by omega) (by omega)
                            refine lv_iinc (v := v200) (lv' := [(6, .int v200), (4, .int p89_4), (0, .ref a0), (1, .int x1), (2, .int x2), (3, .int x3)]) hx hb dX12_goesTurn_200 hl (k := 0) rfl (by rw [ev200]; rfl) (by decide) rfl (fun ls hl => ?_)
                            refine lv_goto (tgt := 171) hx hb dX12_goesTurn_203 (by decide) ?_
                            exact ih171 _ (by omega) v200 _ _ _ rfl (by omega) (by omega) hH hS (lv_sub hl [0, 1, 2, 3, 4, 5] rfl)
                      refine lv_istore (lv' := [(6, .int 0), (4, .int p89_4), (0, .ref a0), (1, .int x1), (2, .int x2), (3, .int x3)]) hx hb dX12_goesTurn_169 hl (by decide) rfl (fun ls hl => ?_)
                      exact J171 _ 0 _ _ _ rfl (by decide) (by decide) hH hS (lv_sub hl [0, 1, 2, 3, 4, 5] rfl)
                    refine lv_if_eq (tgt := 163) hx hb dX12_goesTurn_156 (by decide) (fun c156 => ?_) (fun c156 => ?_)
                    · skip
                      have tc156 := f_eq (k := 0) (by decide) c156
                      refine lv_iconst (v := 0) hx hb dX12_goesTurn_163 (by decide) ?_
                      exact J164 0 _ _ _ (by decide) (by decide) hH hS (lv_sub hl [1, 2, 3, 4, 5] rfl)
                    · skip
                      have tc156 := f_ne (k := 0) (by decide) c156
                      refine lv_iconst (v := 1) hx hb dX12_goesTurn_159 (by decide) ?_
                      refine lv_goto (tgt := 164) hx hb dX12_goesTurn_160 (by decide) ?_
                      exact J164 1 _ _ _ (by decide) (by decide) hH hS (lv_sub hl [1, 2, 3, 4, 5] rfl)
                  refine lv_if_eq (tgt := 141) hx hb dX12_goesTurn_131 (by decide) (fun c131 => ?_) (fun c131 => ?_)
                  · skip
                    have tc131 := f_eq (k := 0) (by decide) c131
                    exact J141  _ _ _  hH hS (lv_sub hl [0, 1, 2, 3, 4, 5] rfl)
                  · skip
                    have tc131 := f_ne (k := 0) (by decide) c131
                    refine lv_aload_n hx hb dX12_goesTurn_134 rfl (lv_at hl 2 rfl) ?_
                    refine lv_iload hx hb dX12_goesTurn_135 (lv_at hl 1 rfl) ?_
                    refine tk_i hH hS hA (tr_V (n := 1) (As := [.int p89_4]) hx hb hml hown hts hkb hH hOX hks hE hS hA (s_M_usesRow l D cs kf T O X a0 hg mq p89_4 t_a0 b_hg (hO.sub (by decide))) kw_1548 kw_1550 ks_80 kw_13 kw_1551 (by decide +kernel) ⟨Nat.le_of_ble_eq_true rfl, Nat.le_of_ble_eq_true rfl⟩ (HT.recv (ci := 12) hkb hH t_a0 (hO.no t_a0 (by decide)) rfl) rfl rfl hl.1 (Nat.le_of_ble_eq_true rfl) dX12_goesTurn_137 ⟨Nat.le_of_ble_eq_true rfl, Nat.le_of_ble_eq_true rfl⟩) (fun v137 u H locs hz9 hH hS => ?_)
                    have hz9 : u = (T, O, X) := hz9
                    subst hz9
                    have hH : HT D cs A T O X H := hH
                    refine W.widen (k := 0) (n := 0) (Nat.le_of_ble_eq_true rfl) (Nat.le_of_ble_eq_true rfl) ?_
                    refine lv_pop hx hb dX12_goesTurn_140 rfl ?_
                    exact J141  _ _ _  hH hS (lv_sub hl [0, 1, 2, 3, 4, 5] rfl)
                · skip
                  have tc107 := f_eq (k := 0) (by decide) c107
                  refine lv_goto (tgt := 206) hx hb dX12_goesTurn_110 (by decide) ?_
                  exact J206  _ _ _  hH hS (lv_sub hl [0, 1, 2, 3, 4] rfl)
          refine lv_istore (lv' := [(4, .int 0), (0, .ref a0), (1, .int x1), (2, .int x2), (3, .int x3)]) hx hb dX12_goesTurn_87 hl (by decide) rfl (fun ls hl => ?_)
          exact J89 _ 0 _ _ _ rfl (by decide) (by decide) hH hS (lv_sub hl [0, 1, 2, 3, 4] rfl)
        · skip
          have tc55 := f_nge (k := 31) (by decide) c55
          refine lv_aload_n hx hb dX12_goesTurn_58 rfl (lv_at hl 1 rfl) ?_
          refine t_get (ci := 12) (lst := ft12 hg mq) (C := RX12) (F := TX12) (N := 36) hx hb hts uX12 hown hkb hH t_a0 (hO.no t_a0 (by decide)) (fun _ h9 => h9) rfl rfl 31 (by decide) rfl kw_1254 (fun _ h9 => h9) dX12_goesTurn_59 (fun v9 h9 => ?_)
          obtain ⟨v59, rfl, t_v59⟩ := h9
          refine lv_bipush (v := 31) hx hb dX12_goesTurn_62 (by decide) ?_
          refine lv_iload_n hx hb dX12_goesTurn_64 rfl (lv_at hl 2 rfl) ?_
          refine lv_imul hx hb dX12_goesTurn_65 ?_
          refine lv_topi (fun v65 ev65 => ?_)
          have tv65 : v65.toInt = (31) * x1.toInt := by rw [ev65]; exact mul_i (by decide : (31 : Int32).toInt = 31) rfl (by omega) (by omega)
          refine lv_iload hx hb dX12_goesTurn_66 (lv_at hl 0 rfl) ?_
          refine lv_iadd hx hb dX12_goesTurn_68 ?_
          refine lv_topi (fun v68 ev68 => ?_)
          have tv68 : v68.toInt = v65.toInt + p51_4.toInt := by rw [ev68]; exact add_i rfl rfl (by omega) (by omega)
          refine lv_aload_n hx hb dX12_goesTurn_69 rfl (lv_at hl 1 rfl) ?_
          refine t_get (ci := 12) (lst := ft12 hg mq) (C := RX12) (F := TX12) (N := 36) hx hb hts uX12 hown hkb hH t_a0 (hO.no t_a0 (by decide)) (fun _ h9 => h9) rfl rfl 1 (by decide) rfl kw_1224 (fun _ h9 => h9) dX12_goesTurn_70 (fun v9 h9 => ?_)
          obtain ⟨v70, rfl, t_v70⟩ := h9
          refine lv_bipush (v := 59) hx hb dX12_goesTurn_73 (by decide) ?_
          refine lv_iload hx hb dX12_goesTurn_75 (lv_at hl 0 rfl) ?_
          refine lv_iadd hx hb dX12_goesTurn_77 ?_
          refine lv_topi (fun v77 ev77 => ?_)
          have tv77 : v77.toInt = (59) + p51_4.toInt := by rw [ev77]; exact add_i (by decide : (59 : Int32).toInt = 59) rfl (by omega) (by omega)
          refine t_ild8 hx hb hkb hH t_v70 (hO.no t_v70 (by decide)) (by decide) (by omega) (by omega) dX12_goesTurn_78 (fun v78 h9 h8 => ?_)
          refine t_ist hx hb hkb hH hS t_v59 (hO.no t_v59 (by decide)) (by omega) (by omega) (cp_0 _) dX12_goesTurn_79 (fun H locs hH hS => ?_)
          obtain ⟨v80, ev80⟩ : ∃ y : Int32, y = p51_4 + 1 := ⟨_, rfl⟩
          have tv80 : v80.toInt = p51_4.toInt + (1) := by rw [ev80]; exact add_i rfl (by decide) (by omega) (by omega)
          refine lv_iinc (v := v80) (lv' := [(4, .int v80), (0, .ref a0), (1, .int x1), (2, .int x2), (3, .int x3)]) hx hb dX12_goesTurn_80 hl (k := 0) rfl (by rw [ev80]; rfl) (by decide) rfl (fun ls hl => ?_)
          refine lv_goto (tgt := 51) hx hb dX12_goesTurn_83 (by decide) ?_
          exact ih51 _ (by omega) v80 _ _ _ rfl (by omega) (by omega) hH hS (lv_sub hl [0, 1, 2, 3, 4] rfl)
    refine lv_istore (lv' := [(4, .int 0), (0, .ref a0), (1, .int x1), (2, .int x2), (3, .int x3)]) hx hb dX12_goesTurn_49 hl (by decide) rfl (fun ls hl => ?_)
    exact J51 _ 0 _ _ _ rfl (by decide) (by decide) hH hS (lv_sub hl [0, 1, 2, 3, 4] rfl)
  · skip
    have tc1 := f_eq (k := 0) (by decide) c1
    refine lv_iload_n hx hb dX12_goesTurn_4 rfl (lv_at hl 3 rfl) ?_
    refine lv_aload_n hx hb dX12_goesTurn_5 rfl (lv_at hl 0 rfl) ?_
    refine t_get (ci := 12) (lst := ft12 hg mq) (C := RX12) (F := TX12) (N := 36) hx hb hts uX12 hown hkb hH t_a0 (hO.no t_a0 (by decide)) (fun _ h9 => h9) rfl rfl 32 (by decide) rfl kw_1255 (fun _ h9 => h9) dX12_goesTurn_6 (fun v9 h9 => ?_)
    obtain ⟨v6, rfl⟩ := h9
    refine lv_icmp_gt (tgt := 13) hx hb dX12_goesTurn_9 (by decide) (fun c9 => ?_) (fun c9 => ?_)
    · skip
      have fuc9 := full_i x3
      have fvc9 := full_i v6
      have tc9 := g_lt c9
      refine lv_aload_n hx hb dX12_goesTurn_13 rfl (lv_at hl 0 rfl) ?_
      refine lv_iload_n hx hb dX12_goesTurn_14 rfl (lv_at hl 3 rfl) ?_
      refine t_put (ci := 12) (lst := ft12 hg mq) (v := .int x3) (ty := tyX12 32) (C := RX12) (F := TX12) (N := 36) hx hb hts uX12 tyX12 tyX12_ok nmX12 hown hkb hH hS t_a0 (hO.no t_a0 (by decide)) (fun _ => Iff.rfl) rfl rfl 32 (by decide) rfl (⟨_, rfl⟩) kw_1255 (fun _ h9 => h9) rfl (tyX12_ok 32 (by decide)) rfl rfl dX12_goesTurn_15 (fun H locs hH hS => ?_)
      refine lv_iconst (v := 0) hx hb dX12_goesTurn_18 (by decide) ?_
      have J21 : ∀ (n : Nat) (p21_4 : Int32) (H : Heap) (locs : List Loc) (ls : Array Slot), (2 - p21_4.toInt).toNat = n → (0 ≤ p21_4.toInt) → (p21_4.toInt ≤ 2) → HT D cs A T O X H → va_S A s.heap H locs → lv_has ls 7 [(4, .int p21_4), (0, .ref a0), (1, .int x1)] → W p l e { frames := 8, cells := 0, slots := 0, locals := 192 } s m [.ref a0, .int x1, .int x2, .int x3].toArray below meth c H locs 0 0 (MQ below (Tv D cs (fun u => u = (T, O, X)) A) [.ref a0, .int x1, .int x2, .int x3].toArray s 0 0 A) (F0 m 21 ls []) := by
        intro n
        induction n using Nat.strongRecOn with
        | _ n ih21 =>
          intro p21_4 H locs ls hm21 l_p21_4 u_p21_4 hH hS hl
          refine lv_iload hx hb dX12_goesTurn_21 (lv_at hl 0 rfl) ?_
          refine lv_iload_n hx hb dX12_goesTurn_23 rfl (lv_at hl 2 rfl) ?_
          refine lv_icmp_ge (tgt := 47) hx hb dX12_goesTurn_24 (by decide) (fun c24 => ?_) (fun c24 => ?_)
          · skip
            have fuc24 := full_i p21_4
            have fvc24 := full_i x1
            have tc24 := g_le c24
            exact te_v hx hb hr hlocks hH hS (rfl) dX12_goesTurn_47
          · skip
            have fuc24 := full_i p21_4
            have fvc24 := full_i x1
            have tc24 := g_nle c24
            refine lv_aload_n hx hb dX12_goesTurn_27 rfl (lv_at hl 1 rfl) ?_
            refine t_get (ci := 12) (lst := ft12 hg mq) (C := RX12) (F := TX12) (N := 36) hx hb hts uX12 hown hkb hH t_a0 (hO.no t_a0 (by decide)) (fun _ h9 => h9) rfl rfl 30 (by decide) rfl kw_1253 (fun _ h9 => h9) dX12_goesTurn_28 (fun v9 h9 => ?_)
            obtain ⟨v28, rfl, t_v28⟩ := h9
            refine lv_iload hx hb dX12_goesTurn_31 (lv_at hl 0 rfl) ?_
            refine lv_aload_n hx hb dX12_goesTurn_33 rfl (lv_at hl 1 rfl) ?_
            refine t_get (ci := 12) (lst := ft12 hg mq) (C := RX12) (F := TX12) (N := 36) hx hb hts uX12 hown hkb hH t_a0 (hO.no t_a0 (by decide)) (fun _ h9 => h9) rfl rfl 29 (by decide) rfl kw_1252 (fun _ h9 => h9) dX12_goesTurn_34 (fun v9 h9 => ?_)
            obtain ⟨v34, rfl, t_v34⟩ := h9
            refine lv_iload hx hb dX12_goesTurn_37 (lv_at hl 0 rfl) ?_
            refine t_ild hx hb hkb hH t_v34 (hO.no t_v34 (by decide)) (by omega) (by omega) dX12_goesTurn_39 (fun v39 h9 => ?_)
            refine t_ist hx hb hkb hH hS t_v28 (hO.no t_v28 (by decide)) (by omega) (by omega) (cp_0 _) dX12_goesTurn_40 (fun H locs hH hS => ?_)
            obtain ⟨v41, ev41⟩ : ∃ y : Int32, y = p21_4 + 1 := ⟨_, rfl⟩
            have tv41 : v41.toInt = p21_4.toInt + (1) := by rw [ev41]; exact add_i rfl (by decide) (by omega) (by omega)
            refine lv_iinc (v := v41) (lv' := [(4, .int v41), (0, .ref a0), (1, .int x1)]) hx hb dX12_goesTurn_41 hl (k := 0) rfl (by rw [ev41]; rfl) (by decide) rfl (fun ls hl => ?_)
            refine lv_goto (tgt := 21) hx hb dX12_goesTurn_44 (by decide) ?_
            exact ih21 _ (by omega) v41 _ _ _ rfl (by omega) (by omega) hH hS (lv_sub hl [0, 1, 2] rfl)
      refine lv_istore (lv' := [(4, .int 0), (0, .ref a0), (1, .int x1), (2, .int x2), (3, .int x3)]) hx hb dX12_goesTurn_19 hl (by decide) rfl (fun ls hl => ?_)
      exact J21 _ 0 _ _ _ rfl (by decide) (by decide) hH hS (lv_sub hl [0, 1, 2] rfl)
    · skip
      have fuc9 := full_i x3
      have fvc9 := full_i v6
      have tc9 := g_nlt c9
      exact te_v hx hb hr hlocks hH hS (rfl) dX12_goesTurn_12
set_option maxHeartbeats 4000000 in
set_option maxRecDepth 100000 in
theorem s_M_goesTurn1 (l : Launch) (D : va_G) (cs : CS) (kf : KF) (T : TF) (O : List Nat) (X : va_W) (a0 hg mq : Nat) (x1 : Int32) (x2 : Int32) (x3 : Int32) (t_a0 : T a0 = some (22, hg, mq)) (b_hg : hg < 90) (l_x1 : 1 ≤ x1.toInt) (u_x1 : x1.toInt ≤ 1) (l_x2 : 0 ≤ x2.toInt) (u_x2 : x2.toInt ≤ 31) (hp : pcn 5 x2.toInt.toNat ≤ 4) (hO : okO T O [1, 8, 9, 22]) : TK l D cs kf yX12_goesTurn cX12_goesTurn 7 none { frames := 9, cells := 0, slots := 0, locals := 218 } [.ref a0, .int x1, .int x2, .int x3] T O X (Tv D cs (fun u => u = (T, O, X))) := by
  refine tk_of (by decide) (Nat.le_of_ble_eq_true rfl) (fun p e s m below meth c ls A H locs hx hb hr hml hown hts hlocks hnm hkb hH hS hA hOX hks hE hl => ?_)
  have hown : s.vm.findClass RX12 = some m.cls := hown
  have hl : lv_has ls 7 [(0, .ref a0), (1, .int x1), (2, .int x2), (3, .int x3)] := hl
  refine lv_iload_n hx hb dX12_goesTurn_0 rfl (lv_at hl 2 rfl) ?_
  refine lv_if_ne (tgt := 48) hx hb dX12_goesTurn_1 (by decide) (fun c1 => ?_) (fun c1 => ?_)
  · skip
    have tc1 := f_ne (k := 0) (by decide) c1
    refine lv_iconst (v := 0) hx hb dX12_goesTurn_48 (by decide) ?_
    have J51 : ∀ (n : Nat) (p51_4 : Int32) (H : Heap) (locs : List Loc) (ls : Array Slot), (31 - p51_4.toInt).toNat = n → (0 ≤ p51_4.toInt) → (p51_4.toInt ≤ 31) → HT D cs A T O X H → va_S A s.heap H locs → lv_has ls 7 [(4, .int p51_4), (0, .ref a0), (1, .int x1), (2, .int x2), (3, .int x3)] → W p l e { frames := 9, cells := 0, slots := 0, locals := 218 } s m [.ref a0, .int x1, .int x2, .int x3].toArray below meth c H locs 0 0 (MQ below (Tv D cs (fun u => u = (T, O, X)) A) [.ref a0, .int x1, .int x2, .int x3].toArray s 0 0 A) (F0 m 51 ls []) := by
      intro n
      induction n using Nat.strongRecOn with
      | _ n ih51 =>
        intro p51_4 H locs ls hm51 l_p51_4 u_p51_4 hH hS hl
        refine lv_iload hx hb dX12_goesTurn_51 (lv_at hl 0 rfl) ?_
        refine lv_bipush (v := 31) hx hb dX12_goesTurn_53 (by decide) ?_
        refine lv_icmp_ge (tgt := 86) hx hb dX12_goesTurn_55 (by decide) (fun c55 => ?_) (fun c55 => ?_)
        · skip
          have tc55 := f_ge (k := 31) (by decide) c55
          refine lv_iconst (v := 0) hx hb dX12_goesTurn_86 (by decide) ?_
          have J89 : ∀ (n : Nat) (p89_4 : Int32) (H : Heap) (locs : List Loc) (ls : Array Slot), (5 - p89_4.toInt).toNat = n → (0 ≤ p89_4.toInt) → (p89_4.toInt ≤ 5) → HT D cs A T O X H → va_S A s.heap H locs → lv_has ls 7 [(4, .int p89_4), (0, .ref a0), (1, .int x1), (2, .int x2), (3, .int x3)] → W p l e { frames := 9, cells := 0, slots := 0, locals := 218 } s m [.ref a0, .int x1, .int x2, .int x3].toArray below meth c H locs 0 0 (MQ below (Tv D cs (fun u => u = (T, O, X)) A) [.ref a0, .int x1, .int x2, .int x3].toArray s 0 0 A) (F0 m 89 ls []) := by
            intro n
            induction n using Nat.strongRecOn with
            | _ n ih89 =>
              intro p89_4 H locs ls hm89 l_p89_4 u_p89_4 hH hS hl
              refine lv_iload hx hb dX12_goesTurn_89 (lv_at hl 0 rfl) ?_
              refine lv_aload_n hx hb dX12_goesTurn_91 rfl (lv_at hl 1 rfl) ?_
              refine t_get (ci := 12) (lst := ft12 hg mq) (C := RX12) (F := TX12) (N := 36) hx hb hts uX12 hown hkb hH t_a0 (hO.no t_a0 (by decide)) (fun _ h9 => h9) rfl rfl 1 (by decide) rfl kw_1224 (fun _ h9 => h9) dX12_goesTurn_92 (fun v9 h9 => ?_)
              obtain ⟨v92, rfl, t_v92⟩ := h9
              refine lv_iconst (v := 2) hx hb dX12_goesTurn_95 (by decide) ?_
              refine t_ild8 hx hb hkb hH t_v92 (hO.no t_v92 (by decide)) (by decide) (by decide) (by decide) dX12_goesTurn_96 (fun v96 h9 h8 => ?_)
              have q9 := (h8 rfl).2 rfl
              subst q9
              have eG9 : (nI (hg % 6)).toInt = (((hg % 6) : Nat) : Int) := nI_toInt (by omega)
              refine lv_icmp_ge (tgt := 212) hx hb dX12_goesTurn_97 (by decide) (fun c97 => ?_) (fun c97 => ?_)
              · skip
                have fuc97 := full_i p89_4
                have fvc97 := full_i (nI (hg % 6))
                have tc97 := g_le c97
                exact te_v hx hb hr hlocks hH hS (rfl) dX12_goesTurn_212
              · skip
                have fuc97 := full_i p89_4
                have fvc97 := full_i (nI (hg % 6))
                have tc97 := g_nle c97
                refine lv_iload_n hx hb dX12_goesTurn_100 rfl (lv_at hl 3 rfl) ?_
                refine lv_i2l hx hb dX12_goesTurn_101 rfl ?_
                refine lv_iload hx hb dX12_goesTurn_102 (lv_at hl 0 rfl) ?_
                refine tk_i hH hS hA (tr_S (n := 2) (As := [.long x2.toInt64, .int p89_4]) hx hb hml hown hts hkb hH hOX hks hE hS hA (s_M_isIn2 l D cs kf T O X x2.toInt64 p89_4  (hO.sub (by decide))) kw_1440 kw_1441 kw_13 kw_1442 (by decide +kernel) ⟨Nat.le_of_ble_eq_true rfl, Nat.le_of_ble_eq_true rfl⟩ rfl rfl hl.1 (Nat.le_of_ble_eq_true rfl) dX12_goesTurn_104 ⟨Nat.le_of_ble_eq_true rfl, Nat.le_of_ble_eq_true rfl⟩) (fun v104 u H locs hz9 hH hS => ?_)
                obtain ⟨rfl, l_v104, u_v104, x_v1040⟩ := hz9
                have hH : HT D cs A T O X H := hH
                refine W.widen (k := 0) (n := 0) (Nat.le_of_ble_eq_true rfl) (Nat.le_of_ble_eq_true rfl) ?_
                have J206 : ∀  (H : Heap) (locs : List Loc) (ls : Array Slot), HT D cs A T O X H → va_S A s.heap H locs → lv_has ls 7 [(4, .int p89_4), (0, .ref a0), (1, .int x1), (2, .int x2), (3, .int x3)] → W p l e { frames := 9, cells := 0, slots := 0, locals := 218 } s m [.ref a0, .int x1, .int x2, .int x3].toArray below meth c H locs 0 0 (MQ below (Tv D cs (fun u => u = (T, O, X)) A) [.ref a0, .int x1, .int x2, .int x3].toArray s 0 0 A) (F0 m 206 ls []) := by
                  intro  H locs ls  hH hS hl
                  obtain ⟨v206, ev206⟩ : ∃ y : Int32, y = p89_4 + 1 := ⟨_, rfl⟩
                  have tv206 : v206.toInt = p89_4.toInt + (1) := by rw [ev206]; exact add_i rfl (by decide) (by omega) (by omega)
                  refine lv_iinc (v := v206) (lv' := [(4, .int v206), (0, .ref a0), (1, .int x1), (2, .int x2), (3, .int x3)]) hx hb dX12_goesTurn_206 hl (k := 0) rfl (by rw [ev206]; rfl) (by decide) rfl (fun ls hl => ?_)
                  refine lv_goto (tgt := 89) hx hb dX12_goesTurn_209 (by decide) ?_
                  exact ih89 _ (by omega) v206 _ _ _ rfl (by omega) (by omega) hH hS (lv_sub hl [0, 1, 2, 3, 4] rfl)
                refine lv_if_ne (tgt := 113) hx hb dX12_goesTurn_107 (by decide) (fun c107 => ?_) (fun c107 => ?_)
                · skip
                  have tc107 := f_ne (k := 0) (by decide) c107
                  refine lv_aload_n hx hb dX12_goesTurn_113 rfl (lv_at hl 1 rfl) ?_
                  refine t_get (ci := 12) (lst := ft12 hg mq) (C := RX12) (F := TX12) (N := 36) hx hb hts uX12 hown hkb hH t_a0 (hO.no t_a0 (by decide)) (fun _ h9 => h9) rfl rfl 29 (by decide) rfl kw_1252 (fun _ h9 => h9) dX12_goesTurn_114 (fun v9 h9 => ?_)
                  obtain ⟨v114, rfl, t_v114⟩ := h9
                  refine lv_iload_n hx hb dX12_goesTurn_117 rfl (lv_at hl 2 rfl) ?_
                  refine lv_iload hx hb dX12_goesTurn_118 (lv_at hl 0 rfl) ?_
                  refine t_ist hx hb hkb hH hS t_v114 (hO.no t_v114 (by decide)) (by omega) (by omega) (cp_0 _) dX12_goesTurn_120 (fun H locs hH hS => ?_)
                  refine lv_aload_n hx hb dX12_goesTurn_121 rfl (lv_at hl 1 rfl) ?_
                  refine lv_iload hx hb dX12_goesTurn_122 (lv_at hl 0 rfl) ?_
                  refine tk_i hH hS hA (tr_V (n := 1) (As := [.int p89_4]) hx hb hml hown hts hkb hH hOX hks hE hS hA (s_M_laysWayOf l D cs kf T O X a0 hg mq p89_4 t_a0 b_hg (by omega) (by omega) (hO.sub (by decide))) kw_1560 kw_1562 ks_82 kw_13 kw_1563 (by decide +kernel) ⟨Nat.le_of_ble_eq_true rfl, Nat.le_of_ble_eq_true rfl⟩ (HT.recv (ci := 12) hkb hH t_a0 (hO.no t_a0 (by decide)) rfl) rfl rfl hl.1 (Nat.le_of_ble_eq_true rfl) dX12_goesTurn_124 ⟨Nat.le_of_ble_eq_true rfl, Nat.le_of_ble_eq_true rfl⟩) (fun v124 u H locs hz9 hH hS => ?_)
                  obtain ⟨rfl, l_v124, u_v124⟩ := hz9
                  have hH : HT D cs A T O X H := hH
                  refine W.widen (k := 0) (n := 0) (Nat.le_of_ble_eq_true rfl) (Nat.le_of_ble_eq_true rfl) ?_
                  refine lv_istore (lv' := [(5, .int v124), (4, .int p89_4), (0, .ref a0), (1, .int x1), (2, .int x2), (3, .int x3)]) hx hb dX12_goesTurn_127 hl (by decide) rfl (fun ls hl => ?_)
                  refine lv_iload hx hb dX12_goesTurn_129 (lv_at hl 0 rfl) ?_
                  have J141 : ∀  (H : Heap) (locs : List Loc) (ls : Array Slot), HT D cs A T O X H → va_S A s.heap H locs → lv_has ls 7 [(5, .int v124), (4, .int p89_4), (0, .ref a0), (1, .int x1), (2, .int x2), (3, .int x3)] → W p l e { frames := 9, cells := 0, slots := 0, locals := 218 } s m [.ref a0, .int x1, .int x2, .int x3].toArray below meth c H locs 0 0 (MQ below (Tv D cs (fun u => u = (T, O, X)) A) [.ref a0, .int x1, .int x2, .int x3].toArray s 0 0 A) (F0 m 141 ls []) := by
                    intro  H locs ls  hH hS hl
                    refine lv_aload_n hx hb dX12_goesTurn_141 rfl (lv_at hl 2 rfl) ?_
                    refine lv_iload_n hx hb dX12_goesTurn_142 rfl (lv_at hl 3 rfl) ?_
                    refine lv_iconst (v := 1) hx hb dX12_goesTurn_143 (by decide) ?_
                    refine lv_iadd hx hb dX12_goesTurn_144 ?_
                    refine lv_topi (fun v144 ev144 => ?_)
                    have tv144 : v144.toInt = x1.toInt + (1) := by rw [ev144]; exact add_i rfl (by decide : (1 : Int32).toInt = 1) (by omega) (by omega)
                    refine lv_iload_n hx hb dX12_goesTurn_145 rfl (lv_at hl 4 rfl) ?_
                    refine lv_iconst (v := 1) hx hb dX12_goesTurn_146 (by decide) ?_
                    refine lv_iload hx hb dX12_goesTurn_147 (lv_at hl 1 rfl) ?_
                    refine lv_ishl hx hb dX12_goesTurn_149 ?_
                    refine lv_topi (fun v149 ev149 => ?_)
                    have tv149 : 1 ≤ v149.toInt ∧ v149.toInt ≤ 16 := by rw [ev149]; exact shl_b 4 (by decide) (by omega) (by omega)
                    refine lv_iconst (v := (-1)) hx hb dX12_goesTurn_150 (by decide) ?_
                    refine lv_ixor hx hb dX12_goesTurn_151 ?_
                    refine lv_topi (fun v151 ev151 => ?_)
                    refine lv_iand hx hb dX12_goesTurn_152 ?_
                    refine lv_topi (fun v152 ev152 => ?_)
                    have tv152 : 0 ≤ v152.toInt ∧ v152.toInt ≤ x2.toInt := by rw [ev152]; exact and_l (by omega)
                    have hp9 := gt_step (by omega) (by omega) (by omega) (by omega) (inF_nz x_v1040 tc107) ev149 ev151 ev152
                    refine lv_iload_n hx hb dX12_goesTurn_153 rfl (lv_at hl 5 rfl) ?_
                    refine lv_iload hx hb dX12_goesTurn_154 (lv_at hl 0 rfl) ?_
                    have J164 : ∀ (k164_0 : Int32) (H : Heap) (locs : List Loc) (ls : Array Slot), (0 ≤ k164_0.toInt) → (k164_0.toInt ≤ 1) → HT D cs A T O X H → va_S A s.heap H locs → lv_has ls 7 [(4, .int p89_4), (0, .ref a0), (1, .int x1), (2, .int x2), (3, .int x3)] → W p l e { frames := 9, cells := 0, slots := 0, locals := 218 } s m [.ref a0, .int x1, .int x2, .int x3].toArray below meth c H locs 0 0 (MQ below (Tv D cs (fun u => u = (T, O, X)) A) [.ref a0, .int x1, .int x2, .int x3].toArray s 0 0 A) (F0 m 164 ls [.int k164_0, .int x3, .int v152, .int v144, .ref a0]) := by
                      intro k164_0 H locs ls l_k164_0 u_k164_0 hH hS hl
                      refine lv_iadd hx hb dX12_goesTurn_164 ?_
                      refine lv_topi (fun v164 ev164 => ?_)
                      refine tk_v hH hS hA (tr_V (n := 3) (As := [.int v144, .int v152, .int v164]) hx hb hml hown hts hkb hH hOX hks hE hS hA (s_M_goesTurn2 l D cs kf T O X a0 hg mq v144 v152 v164 t_a0 b_hg (by omega) (by omega) (by omega) (by omega) (by omega) (hO.sub (by decide))) kw_1756 kw_1758 ks_103 kw_13 kw_1759 (by decide +kernel) ⟨Nat.le_of_ble_eq_true rfl, Nat.le_of_ble_eq_true rfl⟩ (HT.recv (ci := 12) hkb hH t_a0 (hO.no t_a0 (by decide)) rfl) rfl rfl hl.1 (Nat.le_of_ble_eq_true rfl) dX12_goesTurn_165 ⟨Nat.le_of_ble_eq_true rfl, Nat.le_of_ble_eq_true rfl⟩) (fun u H locs hz9 hH hS => ?_)
                      obtain ⟨rfl⟩ := hz9
                      have hH : HT D cs A T O X H := hH
                      refine W.widen (k := 0) (n := 0) (Nat.le_of_ble_eq_true rfl) (Nat.le_of_ble_eq_true rfl) ?_
                      refine lv_iconst (v := 0) hx hb dX12_goesTurn_168 (by decide) ?_
                      have J171 : ∀ (n : Nat) (p171_6 : Int32) (H : Heap) (locs : List Loc) (ls : Array Slot), (31 - p171_6.toInt).toNat = n → (0 ≤ p171_6.toInt) → (p171_6.toInt ≤ 31) → HT D cs A T O X H → va_S A s.heap H locs → lv_has ls 7 [(6, .int p171_6), (4, .int p89_4), (0, .ref a0), (1, .int x1), (2, .int x2), (3, .int x3)] → W p l e { frames := 9, cells := 0, slots := 0, locals := 218 } s m [.ref a0, .int x1, .int x2, .int x3].toArray below meth c H locs 0 0 (MQ below (Tv D cs (fun u => u = (T, O, X)) A) [.ref a0, .int x1, .int x2, .int x3].toArray s 0 0 A) (F0 m 171 ls []) := by
                        intro n
                        induction n using Nat.strongRecOn with
                        | _ n ih171 =>
                          intro p171_6 H locs ls hm171 l_p171_6 u_p171_6 hH hS hl
                          refine lv_iload hx hb dX12_goesTurn_171 (lv_at hl 0 rfl) ?_
                          refine lv_bipush (v := 31) hx hb dX12_goesTurn_173 (by decide) ?_
                          refine lv_icmp_ge (tgt := 206) hx hb dX12_goesTurn_175 (by decide) (fun c175 => ?_) (fun c175 => ?_)
                          · skip
                            have tc175 := f_ge (k := 31) (by decide) c175
                            exact J206  _ _ _  hH hS (lv_sub hl [1, 2, 3, 4, 5] rfl)
                          · skip
                            have tc175 := f_nge (k := 31) (by decide) c175
                            refine lv_aload_n hx hb dX12_goesTurn_178 rfl (lv_at hl 2 rfl) ?_
                            refine t_get (ci := 12) (lst := ft12 hg mq) (C := RX12) (F := TX12) (N := 36) hx hb hts uX12 hown hkb hH t_a0 (hO.no t_a0 (by decide)) (fun _ h9 => h9) rfl rfl 1 (by decide) rfl kw_1224 (fun _ h9 => h9) dX12_goesTurn_179 (fun v9 h9 => ?_)
                            obtain ⟨v179, rfl, t_v179⟩ := h9
                            refine lv_bipush (v := 59) hx hb dX12_goesTurn_182 (by decide) ?_
                            refine lv_iload hx hb dX12_goesTurn_184 (lv_at hl 0 rfl) ?_
                            refine lv_iadd hx hb dX12_goesTurn_186 ?_
                            refine lv_topi (fun v186 ev186 => ?_)
                            have tv186 : v186.toInt = (59) + p171_6.toInt := by rw [ev186]; exact add_i (by decide : (59 : Int32).toInt = 59) rfl (by omega) (by omega)
                            refine lv_aload_n hx hb dX12_goesTurn_187 rfl (lv_at hl 2 rfl) ?_
                            refine t_get (ci := 12) (lst := ft12 hg mq) (C := RX12) (F := TX12) (N := 36) hx hb hts uX12 hown hkb hH t_a0 (hO.no t_a0 (by decide)) (fun _ h9 => h9) rfl rfl 31 (by decide) rfl kw_1254 (fun _ h9 => h9) dX12_goesTurn_188 (fun v9 h9 => ?_)
                            obtain ⟨v188, rfl, t_v188⟩ := h9
                            refine lv_bipush (v := 31) hx hb dX12_goesTurn_191 (by decide) ?_
                            refine lv_iload_n hx hb dX12_goesTurn_193 rfl (lv_at hl 3 rfl) ?_
                            refine lv_imul hx hb dX12_goesTurn_194 ?_
                            refine lv_topi (fun v194 ev194 => ?_)
                            have tv194 : v194.toInt = (31) * x1.toInt := by rw [ev194]; exact mul_i (by decide : (31 : Int32).toInt = 31) rfl (by omega) (by omega)
                            refine lv_iload hx hb dX12_goesTurn_195 (lv_at hl 0 rfl) ?_
                            refine lv_iadd hx hb dX12_goesTurn_197 ?_
                            refine lv_topi (fun v197 ev197 => ?_)
                            have tv197 : v197.toInt = v194.toInt + p171_6.toInt := by rw [ev197]; exact add_i rfl rfl (by omega) (by omega)
                            refine t_ild hx hb hkb hH t_v188 (hO.no t_v188 (by decide)) (by omega) (by omega) dX12_goesTurn_198 (fun v198 h9 => ?_)
                            refine t_ist8 hx hb hkb hH hS t_v179 (hO.no t_v179 (by decide)) (by decide) (by omega) (by omega) (by omega) (by omega) (p8_far (by omega) (by omega)) dX12_goesTurn_199 (fun H locs hH hS => ?_)
                            obtain ⟨v200, ev200⟩ : ∃ y : Int32, y = p171_6 + 1 := ⟨_, rfl⟩
                            have tv200 : v200.toInt = p171_6.toInt + (1) := by rw [ev200]; exact add_i rfl (by decide) (by omega) (by omega)
                            refine lv_iinc (v := v200) (lv' := [(6, .int v200), (4, .int p89_4), (0, .ref a0), (1, .int x1), (2, .int x2), (3, .int x3)]) hx hb dX12_goesTurn_200 hl (k := 0) rfl (by rw [ev200]; rfl) (by decide) rfl (fun ls hl => ?_)
                            refine lv_goto (tgt := 171) hx hb dX12_goesTurn_203 (by decide) ?_
                            exact ih171 _ (by omega) v200 _ _ _ rfl (by omega) (by omega) hH hS (lv_sub hl [0, 1, 2, 3, 4, 5] rfl)
                      refine lv_istore (lv' := [(6, .int 0), (4, .int p89_4), (0, .ref a0), (1, .int x1), (2, .int x2), (3, .int x3)]) hx hb dX12_goesTurn_169 hl (by decide) rfl (fun ls hl => ?_)
                      exact J171 _ 0 _ _ _ rfl (by decide) (by decide) hH hS (lv_sub hl [0, 1, 2, 3, 4, 5] rfl)
                    refine lv_if_eq (tgt := 163) hx hb dX12_goesTurn_156 (by decide) (fun c156 => ?_) (fun c156 => ?_)
                    · skip
                      have tc156 := f_eq (k := 0) (by decide) c156
                      refine lv_iconst (v := 0) hx hb dX12_goesTurn_163 (by decide) ?_
                      exact J164 0 _ _ _ (by decide) (by decide) hH hS (lv_sub hl [1, 2, 3, 4, 5] rfl)
                    · skip
                      have tc156 := f_ne (k := 0) (by decide) c156
                      refine lv_iconst (v := 1) hx hb dX12_goesTurn_159 (by decide) ?_
                      refine lv_goto (tgt := 164) hx hb dX12_goesTurn_160 (by decide) ?_
                      exact J164 1 _ _ _ (by decide) (by decide) hH hS (lv_sub hl [1, 2, 3, 4, 5] rfl)
                  refine lv_if_eq (tgt := 141) hx hb dX12_goesTurn_131 (by decide) (fun c131 => ?_) (fun c131 => ?_)
                  · skip
                    have tc131 := f_eq (k := 0) (by decide) c131
                    exact J141  _ _ _  hH hS (lv_sub hl [0, 1, 2, 3, 4, 5] rfl)
                  · skip
                    have tc131 := f_ne (k := 0) (by decide) c131
                    refine lv_aload_n hx hb dX12_goesTurn_134 rfl (lv_at hl 2 rfl) ?_
                    refine lv_iload hx hb dX12_goesTurn_135 (lv_at hl 1 rfl) ?_
                    refine tk_i hH hS hA (tr_V (n := 1) (As := [.int p89_4]) hx hb hml hown hts hkb hH hOX hks hE hS hA (s_M_usesRow l D cs kf T O X a0 hg mq p89_4 t_a0 b_hg (hO.sub (by decide))) kw_1548 kw_1550 ks_80 kw_13 kw_1551 (by decide +kernel) ⟨Nat.le_of_ble_eq_true rfl, Nat.le_of_ble_eq_true rfl⟩ (HT.recv (ci := 12) hkb hH t_a0 (hO.no t_a0 (by decide)) rfl) rfl rfl hl.1 (Nat.le_of_ble_eq_true rfl) dX12_goesTurn_137 ⟨Nat.le_of_ble_eq_true rfl, Nat.le_of_ble_eq_true rfl⟩) (fun v137 u H locs hz9 hH hS => ?_)
                    have hz9 : u = (T, O, X) := hz9
                    subst hz9
                    have hH : HT D cs A T O X H := hH
                    refine W.widen (k := 0) (n := 0) (Nat.le_of_ble_eq_true rfl) (Nat.le_of_ble_eq_true rfl) ?_
                    refine lv_pop hx hb dX12_goesTurn_140 rfl ?_
                    exact J141  _ _ _  hH hS (lv_sub hl [0, 1, 2, 3, 4, 5] rfl)
                · skip
                  have tc107 := f_eq (k := 0) (by decide) c107
                  refine lv_goto (tgt := 206) hx hb dX12_goesTurn_110 (by decide) ?_
                  exact J206  _ _ _  hH hS (lv_sub hl [0, 1, 2, 3, 4] rfl)
          refine lv_istore (lv' := [(4, .int 0), (0, .ref a0), (1, .int x1), (2, .int x2), (3, .int x3)]) hx hb dX12_goesTurn_87 hl (by decide) rfl (fun ls hl => ?_)
          exact J89 _ 0 _ _ _ rfl (by decide) (by decide) hH hS (lv_sub hl [0, 1, 2, 3, 4] rfl)
        · skip
          have tc55 := f_nge (k := 31) (by decide) c55
          refine lv_aload_n hx hb dX12_goesTurn_58 rfl (lv_at hl 1 rfl) ?_
          refine t_get (ci := 12) (lst := ft12 hg mq) (C := RX12) (F := TX12) (N := 36) hx hb hts uX12 hown hkb hH t_a0 (hO.no t_a0 (by decide)) (fun _ h9 => h9) rfl rfl 31 (by decide) rfl kw_1254 (fun _ h9 => h9) dX12_goesTurn_59 (fun v9 h9 => ?_)
          obtain ⟨v59, rfl, t_v59⟩ := h9
          refine lv_bipush (v := 31) hx hb dX12_goesTurn_62 (by decide) ?_
          refine lv_iload_n hx hb dX12_goesTurn_64 rfl (lv_at hl 2 rfl) ?_
          refine lv_imul hx hb dX12_goesTurn_65 ?_
          refine lv_topi (fun v65 ev65 => ?_)
          have tv65 : v65.toInt = (31) * x1.toInt := by rw [ev65]; exact mul_i (by decide : (31 : Int32).toInt = 31) rfl (by omega) (by omega)
          refine lv_iload hx hb dX12_goesTurn_66 (lv_at hl 0 rfl) ?_
          refine lv_iadd hx hb dX12_goesTurn_68 ?_
          refine lv_topi (fun v68 ev68 => ?_)
          have tv68 : v68.toInt = v65.toInt + p51_4.toInt := by rw [ev68]; exact add_i rfl rfl (by omega) (by omega)
          refine lv_aload_n hx hb dX12_goesTurn_69 rfl (lv_at hl 1 rfl) ?_
          refine t_get (ci := 12) (lst := ft12 hg mq) (C := RX12) (F := TX12) (N := 36) hx hb hts uX12 hown hkb hH t_a0 (hO.no t_a0 (by decide)) (fun _ h9 => h9) rfl rfl 1 (by decide) rfl kw_1224 (fun _ h9 => h9) dX12_goesTurn_70 (fun v9 h9 => ?_)
          obtain ⟨v70, rfl, t_v70⟩ := h9
          refine lv_bipush (v := 59) hx hb dX12_goesTurn_73 (by decide) ?_
          refine lv_iload hx hb dX12_goesTurn_75 (lv_at hl 0 rfl) ?_
          refine lv_iadd hx hb dX12_goesTurn_77 ?_
          refine lv_topi (fun v77 ev77 => ?_)
          have tv77 : v77.toInt = (59) + p51_4.toInt := by rw [ev77]; exact add_i (by decide : (59 : Int32).toInt = 59) rfl (by omega) (by omega)
          refine t_ild8 hx hb hkb hH t_v70 (hO.no t_v70 (by decide)) (by decide) (by omega) (by omega) dX12_goesTurn_78 (fun v78 h9 h8 => ?_)
          refine t_ist hx hb hkb hH hS t_v59 (hO.no t_v59 (by decide)) (by omega) (by omega) (cp_0 _) dX12_goesTurn_79 (fun H locs hH hS => ?_)
          obtain ⟨v80, ev80⟩ : ∃ y : Int32, y = p51_4 + 1 := ⟨_, rfl⟩
          have tv80 : v80.toInt = p51_4.toInt + (1) := by rw [ev80]; exact add_i rfl (by decide) (by omega) (by omega)
          refine lv_iinc (v := v80) (lv' := [(4, .int v80), (0, .ref a0), (1, .int x1), (2, .int x2), (3, .int x3)]) hx hb dX12_goesTurn_80 hl (k := 0) rfl (by rw [ev80]; rfl) (by decide) rfl (fun ls hl => ?_)
          refine lv_goto (tgt := 51) hx hb dX12_goesTurn_83 (by decide) ?_
          exact ih51 _ (by omega) v80 _ _ _ rfl (by omega) (by omega) hH hS (lv_sub hl [0, 1, 2, 3, 4] rfl)
    refine lv_istore (lv' := [(4, .int 0), (0, .ref a0), (1, .int x1), (2, .int x2), (3, .int x3)]) hx hb dX12_goesTurn_49 hl (by decide) rfl (fun ls hl => ?_)
    exact J51 _ 0 _ _ _ rfl (by decide) (by decide) hH hS (lv_sub hl [0, 1, 2, 3, 4] rfl)
  · skip
    have tc1 := f_eq (k := 0) (by decide) c1
    refine lv_iload_n hx hb dX12_goesTurn_4 rfl (lv_at hl 3 rfl) ?_
    refine lv_aload_n hx hb dX12_goesTurn_5 rfl (lv_at hl 0 rfl) ?_
    refine t_get (ci := 12) (lst := ft12 hg mq) (C := RX12) (F := TX12) (N := 36) hx hb hts uX12 hown hkb hH t_a0 (hO.no t_a0 (by decide)) (fun _ h9 => h9) rfl rfl 32 (by decide) rfl kw_1255 (fun _ h9 => h9) dX12_goesTurn_6 (fun v9 h9 => ?_)
    obtain ⟨v6, rfl⟩ := h9
    refine lv_icmp_gt (tgt := 13) hx hb dX12_goesTurn_9 (by decide) (fun c9 => ?_) (fun c9 => ?_)
    · skip
      have fuc9 := full_i x3
      have fvc9 := full_i v6
      have tc9 := g_lt c9
      refine lv_aload_n hx hb dX12_goesTurn_13 rfl (lv_at hl 0 rfl) ?_
      refine lv_iload_n hx hb dX12_goesTurn_14 rfl (lv_at hl 3 rfl) ?_
      refine t_put (ci := 12) (lst := ft12 hg mq) (v := .int x3) (ty := tyX12 32) (C := RX12) (F := TX12) (N := 36) hx hb hts uX12 tyX12 tyX12_ok nmX12 hown hkb hH hS t_a0 (hO.no t_a0 (by decide)) (fun _ => Iff.rfl) rfl rfl 32 (by decide) rfl (⟨_, rfl⟩) kw_1255 (fun _ h9 => h9) rfl (tyX12_ok 32 (by decide)) rfl rfl dX12_goesTurn_15 (fun H locs hH hS => ?_)
      refine lv_iconst (v := 0) hx hb dX12_goesTurn_18 (by decide) ?_
      have J21 : ∀ (n : Nat) (p21_4 : Int32) (H : Heap) (locs : List Loc) (ls : Array Slot), (1 - p21_4.toInt).toNat = n → (0 ≤ p21_4.toInt) → (p21_4.toInt ≤ 1) → HT D cs A T O X H → va_S A s.heap H locs → lv_has ls 7 [(4, .int p21_4), (0, .ref a0), (1, .int x1)] → W p l e { frames := 9, cells := 0, slots := 0, locals := 218 } s m [.ref a0, .int x1, .int x2, .int x3].toArray below meth c H locs 0 0 (MQ below (Tv D cs (fun u => u = (T, O, X)) A) [.ref a0, .int x1, .int x2, .int x3].toArray s 0 0 A) (F0 m 21 ls []) := by
        intro n
        induction n using Nat.strongRecOn with
        | _ n ih21 =>
          intro p21_4 H locs ls hm21 l_p21_4 u_p21_4 hH hS hl
          refine lv_iload hx hb dX12_goesTurn_21 (lv_at hl 0 rfl) ?_
          refine lv_iload_n hx hb dX12_goesTurn_23 rfl (lv_at hl 2 rfl) ?_
          refine lv_icmp_ge (tgt := 47) hx hb dX12_goesTurn_24 (by decide) (fun c24 => ?_) (fun c24 => ?_)
          · skip
            have fuc24 := full_i p21_4
            have fvc24 := full_i x1
            have tc24 := g_le c24
            exact te_v hx hb hr hlocks hH hS (rfl) dX12_goesTurn_47
          · skip
            have fuc24 := full_i p21_4
            have fvc24 := full_i x1
            have tc24 := g_nle c24
            refine lv_aload_n hx hb dX12_goesTurn_27 rfl (lv_at hl 1 rfl) ?_
            refine t_get (ci := 12) (lst := ft12 hg mq) (C := RX12) (F := TX12) (N := 36) hx hb hts uX12 hown hkb hH t_a0 (hO.no t_a0 (by decide)) (fun _ h9 => h9) rfl rfl 30 (by decide) rfl kw_1253 (fun _ h9 => h9) dX12_goesTurn_28 (fun v9 h9 => ?_)
            obtain ⟨v28, rfl, t_v28⟩ := h9
            refine lv_iload hx hb dX12_goesTurn_31 (lv_at hl 0 rfl) ?_
            refine lv_aload_n hx hb dX12_goesTurn_33 rfl (lv_at hl 1 rfl) ?_
            refine t_get (ci := 12) (lst := ft12 hg mq) (C := RX12) (F := TX12) (N := 36) hx hb hts uX12 hown hkb hH t_a0 (hO.no t_a0 (by decide)) (fun _ h9 => h9) rfl rfl 29 (by decide) rfl kw_1252 (fun _ h9 => h9) dX12_goesTurn_34 (fun v9 h9 => ?_)
            obtain ⟨v34, rfl, t_v34⟩ := h9
            refine lv_iload hx hb dX12_goesTurn_37 (lv_at hl 0 rfl) ?_
            refine t_ild hx hb hkb hH t_v34 (hO.no t_v34 (by decide)) (by omega) (by omega) dX12_goesTurn_39 (fun v39 h9 => ?_)
            refine t_ist hx hb hkb hH hS t_v28 (hO.no t_v28 (by decide)) (by omega) (by omega) (cp_0 _) dX12_goesTurn_40 (fun H locs hH hS => ?_)
            obtain ⟨v41, ev41⟩ : ∃ y : Int32, y = p21_4 + 1 := ⟨_, rfl⟩
            have tv41 : v41.toInt = p21_4.toInt + (1) := by rw [ev41]; exact add_i rfl (by decide) (by omega) (by omega)
            refine lv_iinc (v := v41) (lv' := [(4, .int v41), (0, .ref a0), (1, .int x1)]) hx hb dX12_goesTurn_41 hl (k := 0) rfl (by rw [ev41]; rfl) (by decide) rfl (fun ls hl => ?_)
            refine lv_goto (tgt := 21) hx hb dX12_goesTurn_44 (by decide) ?_
            exact ih21 _ (by omega) v41 _ _ _ rfl (by omega) (by omega) hH hS (lv_sub hl [0, 1, 2] rfl)
      refine lv_istore (lv' := [(4, .int 0), (0, .ref a0), (1, .int x1), (2, .int x2), (3, .int x3)]) hx hb dX12_goesTurn_19 hl (by decide) rfl (fun ls hl => ?_)
      exact J21 _ 0 _ _ _ rfl (by decide) (by decide) hH hS (lv_sub hl [0, 1, 2] rfl)
    · skip
      have fuc9 := full_i x3
      have fvc9 := full_i v6
      have tc9 := g_nlt c9
      exact te_v hx hb hr hlocks hH hS (rfl) dX12_goesTurn_12
set_option maxHeartbeats 4000000 in
set_option maxRecDepth 100000 in
theorem s_M_goesTurn0 (l : Launch) (D : va_G) (cs : CS) (kf : KF) (T : TF) (O : List Nat) (X : va_W) (a0 hg mq : Nat) (x1 : Int32) (x2 : Int32) (x3 : Int32) (t_a0 : T a0 = some (22, hg, mq)) (b_hg : hg < 90) (l_x1 : 0 ≤ x1.toInt) (u_x1 : x1.toInt ≤ 0) (l_x2 : 0 ≤ x2.toInt) (u_x2 : x2.toInt ≤ 31) (hp : pcn 5 x2.toInt.toNat ≤ 5) (hO : okO T O [1, 8, 9, 22]) : TK l D cs kf yX12_goesTurn cX12_goesTurn 7 none { frames := 10, cells := 0, slots := 0, locals := 244 } [.ref a0, .int x1, .int x2, .int x3] T O X (Tv D cs (fun u => u = (T, O, X))) := by
  refine tk_of (by decide) (Nat.le_of_ble_eq_true rfl) (fun p e s m below meth c ls A H locs hx hb hr hml hown hts hlocks hnm hkb hH hS hA hOX hks hE hl => ?_)
  have hown : s.vm.findClass RX12 = some m.cls := hown
  have hl : lv_has ls 7 [(0, .ref a0), (1, .int x1), (2, .int x2), (3, .int x3)] := hl
  refine lv_iload_n hx hb dX12_goesTurn_0 rfl (lv_at hl 2 rfl) ?_
  refine lv_if_ne (tgt := 48) hx hb dX12_goesTurn_1 (by decide) (fun c1 => ?_) (fun c1 => ?_)
  · skip
    have tc1 := f_ne (k := 0) (by decide) c1
    refine lv_iconst (v := 0) hx hb dX12_goesTurn_48 (by decide) ?_
    have J51 : ∀ (n : Nat) (p51_4 : Int32) (H : Heap) (locs : List Loc) (ls : Array Slot), (31 - p51_4.toInt).toNat = n → (0 ≤ p51_4.toInt) → (p51_4.toInt ≤ 31) → HT D cs A T O X H → va_S A s.heap H locs → lv_has ls 7 [(4, .int p51_4), (0, .ref a0), (1, .int x1), (2, .int x2), (3, .int x3)] → W p l e { frames := 10, cells := 0, slots := 0, locals := 244 } s m [.ref a0, .int x1, .int x2, .int x3].toArray below meth c H locs 0 0 (MQ below (Tv D cs (fun u => u = (T, O, X)) A) [.ref a0, .int x1, .int x2, .int x3].toArray s 0 0 A) (F0 m 51 ls []) := by
      intro n
      induction n using Nat.strongRecOn with
      | _ n ih51 =>
        intro p51_4 H locs ls hm51 l_p51_4 u_p51_4 hH hS hl
        refine lv_iload hx hb dX12_goesTurn_51 (lv_at hl 0 rfl) ?_
        refine lv_bipush (v := 31) hx hb dX12_goesTurn_53 (by decide) ?_
        refine lv_icmp_ge (tgt := 86) hx hb dX12_goesTurn_55 (by decide) (fun c55 => ?_) (fun c55 => ?_)
        · skip
          have tc55 := f_ge (k := 31) (by decide) c55
          refine lv_iconst (v := 0) hx hb dX12_goesTurn_86 (by decide) ?_
          have J89 : ∀ (n : Nat) (p89_4 : Int32) (H : Heap) (locs : List Loc) (ls : Array Slot), (5 - p89_4.toInt).toNat = n → (0 ≤ p89_4.toInt) → (p89_4.toInt ≤ 5) → HT D cs A T O X H → va_S A s.heap H locs → lv_has ls 7 [(4, .int p89_4), (0, .ref a0), (1, .int x1), (2, .int x2), (3, .int x3)] → W p l e { frames := 10, cells := 0, slots := 0, locals := 244 } s m [.ref a0, .int x1, .int x2, .int x3].toArray below meth c H locs 0 0 (MQ below (Tv D cs (fun u => u = (T, O, X)) A) [.ref a0, .int x1, .int x2, .int x3].toArray s 0 0 A) (F0 m 89 ls []) := by
            intro n
            induction n using Nat.strongRecOn with
            | _ n ih89 =>
              intro p89_4 H locs ls hm89 l_p89_4 u_p89_4 hH hS hl
              refine lv_iload hx hb dX12_goesTurn_89 (lv_at hl 0 rfl) ?_
              refine lv_aload_n hx hb dX12_goesTurn_91 rfl (lv_at hl 1 rfl) ?_
              refine t_get (ci := 12) (lst := ft12 hg mq) (C := RX12) (F := TX12) (N := 36) hx hb hts uX12 hown hkb hH t_a0 (hO.no t_a0 (by decide)) (fun _ h9 => h9) rfl rfl 1 (by decide) rfl kw_1224 (fun _ h9 => h9) dX12_goesTurn_92 (fun v9 h9 => ?_)
              obtain ⟨v92, rfl, t_v92⟩ := h9
              refine lv_iconst (v := 2) hx hb dX12_goesTurn_95 (by decide) ?_
              refine t_ild8 hx hb hkb hH t_v92 (hO.no t_v92 (by decide)) (by decide) (by decide) (by decide) dX12_goesTurn_96 (fun v96 h9 h8 => ?_)
              have q9 := (h8 rfl).2 rfl
              subst q9
              have eG9 : (nI (hg % 6)).toInt = (((hg % 6) : Nat) : Int) := nI_toInt (by omega)
              refine lv_icmp_ge (tgt := 212) hx hb dX12_goesTurn_97 (by decide) (fun c97 => ?_) (fun c97 => ?_)
              · skip
                have fuc97 := full_i p89_4
                have fvc97 := full_i (nI (hg % 6))
                have tc97 := g_le c97
                exact te_v hx hb hr hlocks hH hS (rfl) dX12_goesTurn_212
              · skip
                have fuc97 := full_i p89_4
                have fvc97 := full_i (nI (hg % 6))
                have tc97 := g_nle c97
                refine lv_iload_n hx hb dX12_goesTurn_100 rfl (lv_at hl 3 rfl) ?_
                refine lv_i2l hx hb dX12_goesTurn_101 rfl ?_
                refine lv_iload hx hb dX12_goesTurn_102 (lv_at hl 0 rfl) ?_
                refine tk_i hH hS hA (tr_S (n := 2) (As := [.long x2.toInt64, .int p89_4]) hx hb hml hown hts hkb hH hOX hks hE hS hA (s_M_isIn2 l D cs kf T O X x2.toInt64 p89_4  (hO.sub (by decide))) kw_1440 kw_1441 kw_13 kw_1442 (by decide +kernel) ⟨Nat.le_of_ble_eq_true rfl, Nat.le_of_ble_eq_true rfl⟩ rfl rfl hl.1 (Nat.le_of_ble_eq_true rfl) dX12_goesTurn_104 ⟨Nat.le_of_ble_eq_true rfl, Nat.le_of_ble_eq_true rfl⟩) (fun v104 u H locs hz9 hH hS => ?_)
                obtain ⟨rfl, l_v104, u_v104, x_v1040⟩ := hz9
                have hH : HT D cs A T O X H := hH
                refine W.widen (k := 0) (n := 0) (Nat.le_of_ble_eq_true rfl) (Nat.le_of_ble_eq_true rfl) ?_
                have J206 : ∀  (H : Heap) (locs : List Loc) (ls : Array Slot), HT D cs A T O X H → va_S A s.heap H locs → lv_has ls 7 [(4, .int p89_4), (0, .ref a0), (1, .int x1), (2, .int x2), (3, .int x3)] → W p l e { frames := 10, cells := 0, slots := 0, locals := 244 } s m [.ref a0, .int x1, .int x2, .int x3].toArray below meth c H locs 0 0 (MQ below (Tv D cs (fun u => u = (T, O, X)) A) [.ref a0, .int x1, .int x2, .int x3].toArray s 0 0 A) (F0 m 206 ls []) := by
                  intro  H locs ls  hH hS hl
                  obtain ⟨v206, ev206⟩ : ∃ y : Int32, y = p89_4 + 1 := ⟨_, rfl⟩
                  have tv206 : v206.toInt = p89_4.toInt + (1) := by rw [ev206]; exact add_i rfl (by decide) (by omega) (by omega)
                  refine lv_iinc (v := v206) (lv' := [(4, .int v206), (0, .ref a0), (1, .int x1), (2, .int x2), (3, .int x3)]) hx hb dX12_goesTurn_206 hl (k := 0) rfl (by rw [ev206]; rfl) (by decide) rfl (fun ls hl => ?_)
                  refine lv_goto (tgt := 89) hx hb dX12_goesTurn_209 (by decide) ?_
                  exact ih89 _ (by omega) v206 _ _ _ rfl (by omega) (by omega) hH hS (lv_sub hl [0, 1, 2, 3, 4] rfl)
                refine lv_if_ne (tgt := 113) hx hb dX12_goesTurn_107 (by decide) (fun c107 => ?_) (fun c107 => ?_)
                · skip
                  have tc107 := f_ne (k := 0) (by decide) c107
                  refine lv_aload_n hx hb dX12_goesTurn_113 rfl (lv_at hl 1 rfl) ?_
                  refine t_get (ci := 12) (lst := ft12 hg mq) (C := RX12) (F := TX12) (N := 36) hx hb hts uX12 hown hkb hH t_a0 (hO.no t_a0 (by decide)) (fun _ h9 => h9) rfl rfl 29 (by decide) rfl kw_1252 (fun _ h9 => h9) dX12_goesTurn_114 (fun v9 h9 => ?_)
                  obtain ⟨v114, rfl, t_v114⟩ := h9
                  refine lv_iload_n hx hb dX12_goesTurn_117 rfl (lv_at hl 2 rfl) ?_
                  refine lv_iload hx hb dX12_goesTurn_118 (lv_at hl 0 rfl) ?_
                  refine t_ist hx hb hkb hH hS t_v114 (hO.no t_v114 (by decide)) (by omega) (by omega) (cp_0 _) dX12_goesTurn_120 (fun H locs hH hS => ?_)
                  refine lv_aload_n hx hb dX12_goesTurn_121 rfl (lv_at hl 1 rfl) ?_
                  refine lv_iload hx hb dX12_goesTurn_122 (lv_at hl 0 rfl) ?_
                  refine tk_i hH hS hA (tr_V (n := 1) (As := [.int p89_4]) hx hb hml hown hts hkb hH hOX hks hE hS hA (s_M_laysWayOf l D cs kf T O X a0 hg mq p89_4 t_a0 b_hg (by omega) (by omega) (hO.sub (by decide))) kw_1560 kw_1562 ks_82 kw_13 kw_1563 (by decide +kernel) ⟨Nat.le_of_ble_eq_true rfl, Nat.le_of_ble_eq_true rfl⟩ (HT.recv (ci := 12) hkb hH t_a0 (hO.no t_a0 (by decide)) rfl) rfl rfl hl.1 (Nat.le_of_ble_eq_true rfl) dX12_goesTurn_124 ⟨Nat.le_of_ble_eq_true rfl, Nat.le_of_ble_eq_true rfl⟩) (fun v124 u H locs hz9 hH hS => ?_)
                  obtain ⟨rfl, l_v124, u_v124⟩ := hz9
                  have hH : HT D cs A T O X H := hH
                  refine W.widen (k := 0) (n := 0) (Nat.le_of_ble_eq_true rfl) (Nat.le_of_ble_eq_true rfl) ?_
                  refine lv_istore (lv' := [(5, .int v124), (4, .int p89_4), (0, .ref a0), (1, .int x1), (2, .int x2), (3, .int x3)]) hx hb dX12_goesTurn_127 hl (by decide) rfl (fun ls hl => ?_)
                  refine lv_iload hx hb dX12_goesTurn_129 (lv_at hl 0 rfl) ?_
                  have J141 : ∀  (H : Heap) (locs : List Loc) (ls : Array Slot), HT D cs A T O X H → va_S A s.heap H locs → lv_has ls 7 [(5, .int v124), (4, .int p89_4), (0, .ref a0), (1, .int x1), (2, .int x2), (3, .int x3)] → W p l e { frames := 10, cells := 0, slots := 0, locals := 244 } s m [.ref a0, .int x1, .int x2, .int x3].toArray below meth c H locs 0 0 (MQ below (Tv D cs (fun u => u = (T, O, X)) A) [.ref a0, .int x1, .int x2, .int x3].toArray s 0 0 A) (F0 m 141 ls []) := by
                    intro  H locs ls  hH hS hl
                    refine lv_aload_n hx hb dX12_goesTurn_141 rfl (lv_at hl 2 rfl) ?_
                    refine lv_iload_n hx hb dX12_goesTurn_142 rfl (lv_at hl 3 rfl) ?_
                    refine lv_iconst (v := 1) hx hb dX12_goesTurn_143 (by decide) ?_
                    refine lv_iadd hx hb dX12_goesTurn_144 ?_
                    refine lv_topi (fun v144 ev144 => ?_)
                    have tv144 : v144.toInt = x1.toInt + (1) := by rw [ev144]; exact add_i rfl (by decide : (1 : Int32).toInt = 1) (by omega) (by omega)
                    refine lv_iload_n hx hb dX12_goesTurn_145 rfl (lv_at hl 4 rfl) ?_
                    refine lv_iconst (v := 1) hx hb dX12_goesTurn_146 (by decide) ?_
                    refine lv_iload hx hb dX12_goesTurn_147 (lv_at hl 1 rfl) ?_
                    refine lv_ishl hx hb dX12_goesTurn_149 ?_
                    refine lv_topi (fun v149 ev149 => ?_)
                    have tv149 : 1 ≤ v149.toInt ∧ v149.toInt ≤ 16 := by rw [ev149]; exact shl_b 4 (by decide) (by omega) (by omega)
                    refine lv_iconst (v := (-1)) hx hb dX12_goesTurn_150 (by decide) ?_
                    refine lv_ixor hx hb dX12_goesTurn_151 ?_
                    refine lv_topi (fun v151 ev151 => ?_)
                    refine lv_iand hx hb dX12_goesTurn_152 ?_
                    refine lv_topi (fun v152 ev152 => ?_)
                    have tv152 : 0 ≤ v152.toInt ∧ v152.toInt ≤ x2.toInt := by rw [ev152]; exact and_l (by omega)
                    have hp9 := gt_step (by omega) (by omega) (by omega) (by omega) (inF_nz x_v1040 tc107) ev149 ev151 ev152
                    refine lv_iload_n hx hb dX12_goesTurn_153 rfl (lv_at hl 5 rfl) ?_
                    refine lv_iload hx hb dX12_goesTurn_154 (lv_at hl 0 rfl) ?_
                    have J164 : ∀ (k164_0 : Int32) (H : Heap) (locs : List Loc) (ls : Array Slot), (0 ≤ k164_0.toInt) → (k164_0.toInt ≤ 1) → HT D cs A T O X H → va_S A s.heap H locs → lv_has ls 7 [(4, .int p89_4), (0, .ref a0), (1, .int x1), (2, .int x2), (3, .int x3)] → W p l e { frames := 10, cells := 0, slots := 0, locals := 244 } s m [.ref a0, .int x1, .int x2, .int x3].toArray below meth c H locs 0 0 (MQ below (Tv D cs (fun u => u = (T, O, X)) A) [.ref a0, .int x1, .int x2, .int x3].toArray s 0 0 A) (F0 m 164 ls [.int k164_0, .int x3, .int v152, .int v144, .ref a0]) := by
                      intro k164_0 H locs ls l_k164_0 u_k164_0 hH hS hl
                      refine lv_iadd hx hb dX12_goesTurn_164 ?_
                      refine lv_topi (fun v164 ev164 => ?_)
                      refine tk_v hH hS hA (tr_V (n := 3) (As := [.int v144, .int v152, .int v164]) hx hb hml hown hts hkb hH hOX hks hE hS hA (s_M_goesTurn1 l D cs kf T O X a0 hg mq v144 v152 v164 t_a0 b_hg (by omega) (by omega) (by omega) (by omega) (by omega) (hO.sub (by decide))) kw_1756 kw_1758 ks_103 kw_13 kw_1759 (by decide +kernel) ⟨Nat.le_of_ble_eq_true rfl, Nat.le_of_ble_eq_true rfl⟩ (HT.recv (ci := 12) hkb hH t_a0 (hO.no t_a0 (by decide)) rfl) rfl rfl hl.1 (Nat.le_of_ble_eq_true rfl) dX12_goesTurn_165 ⟨Nat.le_of_ble_eq_true rfl, Nat.le_of_ble_eq_true rfl⟩) (fun u H locs hz9 hH hS => ?_)
                      obtain ⟨rfl⟩ := hz9
                      have hH : HT D cs A T O X H := hH
                      refine W.widen (k := 0) (n := 0) (Nat.le_of_ble_eq_true rfl) (Nat.le_of_ble_eq_true rfl) ?_
                      refine lv_iconst (v := 0) hx hb dX12_goesTurn_168 (by decide) ?_
                      have J171 : ∀ (n : Nat) (p171_6 : Int32) (H : Heap) (locs : List Loc) (ls : Array Slot), (31 - p171_6.toInt).toNat = n → (0 ≤ p171_6.toInt) → (p171_6.toInt ≤ 31) → HT D cs A T O X H → va_S A s.heap H locs → lv_has ls 7 [(6, .int p171_6), (4, .int p89_4), (0, .ref a0), (1, .int x1), (2, .int x2), (3, .int x3)] → W p l e { frames := 10, cells := 0, slots := 0, locals := 244 } s m [.ref a0, .int x1, .int x2, .int x3].toArray below meth c H locs 0 0 (MQ below (Tv D cs (fun u => u = (T, O, X)) A) [.ref a0, .int x1, .int x2, .int x3].toArray s 0 0 A) (F0 m 171 ls []) := by
                        intro n
                        induction n using Nat.strongRecOn with
                        | _ n ih171 =>
                          intro p171_6 H locs ls hm171 l_p171_6 u_p171_6 hH hS hl
                          refine lv_iload hx hb dX12_goesTurn_171 (lv_at hl 0 rfl) ?_
                          refine lv_bipush (v := 31) hx hb dX12_goesTurn_173 (by decide) ?_
                          refine lv_icmp_ge (tgt := 206) hx hb dX12_goesTurn_175 (by decide) (fun c175 => ?_) (fun c175 => ?_)
                          · skip
                            have tc175 := f_ge (k := 31) (by decide) c175
                            exact J206  _ _ _  hH hS (lv_sub hl [1, 2, 3, 4, 5] rfl)
                          · skip
                            have tc175 := f_nge (k := 31) (by decide) c175
                            refine lv_aload_n hx hb dX12_goesTurn_178 rfl (lv_at hl 2 rfl) ?_
                            refine t_get (ci := 12) (lst := ft12 hg mq) (C := RX12) (F := TX12) (N := 36) hx hb hts uX12 hown hkb hH t_a0 (hO.no t_a0 (by decide)) (fun _ h9 => h9) rfl rfl 1 (by decide) rfl kw_1224 (fun _ h9 => h9) dX12_goesTurn_179 (fun v9 h9 => ?_)
                            obtain ⟨v179, rfl, t_v179⟩ := h9
                            refine lv_bipush (v := 59) hx hb dX12_goesTurn_182 (by decide) ?_
                            refine lv_iload hx hb dX12_goesTurn_184 (lv_at hl 0 rfl) ?_
                            refine lv_iadd hx hb dX12_goesTurn_186 ?_
                            refine lv_topi (fun v186 ev186 => ?_)
                            have tv186 : v186.toInt = (59) + p171_6.toInt := by rw [ev186]; exact add_i (by decide : (59 : Int32).toInt = 59) rfl (by omega) (by omega)
                            refine lv_aload_n hx hb dX12_goesTurn_187 rfl (lv_at hl 2 rfl) ?_
                            refine t_get (ci := 12) (lst := ft12 hg mq) (C := RX12) (F := TX12) (N := 36) hx hb hts uX12 hown hkb hH t_a0 (hO.no t_a0 (by decide)) (fun _ h9 => h9) rfl rfl 31 (by decide) rfl kw_1254 (fun _ h9 => h9) dX12_goesTurn_188 (fun v9 h9 => ?_)
                            obtain ⟨v188, rfl, t_v188⟩ := h9
                            refine lv_bipush (v := 31) hx hb dX12_goesTurn_191 (by decide) ?_
                            refine lv_iload_n hx hb dX12_goesTurn_193 rfl (lv_at hl 3 rfl) ?_
                            refine lv_imul hx hb dX12_goesTurn_194 ?_
                            refine lv_topi (fun v194 ev194 => ?_)
                            have tv194 : v194.toInt = (31) * x1.toInt := by rw [ev194]; exact mul_i (by decide : (31 : Int32).toInt = 31) rfl (by omega) (by omega)
                            refine lv_iload hx hb dX12_goesTurn_195 (lv_at hl 0 rfl) ?_
                            refine lv_iadd hx hb dX12_goesTurn_197 ?_
                            refine lv_topi (fun v197 ev197 => ?_)
                            have tv197 : v197.toInt = v194.toInt + p171_6.toInt := by rw [ev197]; exact add_i rfl rfl (by omega) (by omega)
                            refine t_ild hx hb hkb hH t_v188 (hO.no t_v188 (by decide)) (by omega) (by omega) dX12_goesTurn_198 (fun v198 h9 => ?_)
                            refine t_ist8 hx hb hkb hH hS t_v179 (hO.no t_v179 (by decide)) (by decide) (by omega) (by omega) (by omega) (by omega) (p8_far (by omega) (by omega)) dX12_goesTurn_199 (fun H locs hH hS => ?_)
                            obtain ⟨v200, ev200⟩ : ∃ y : Int32, y = p171_6 + 1 := ⟨_, rfl⟩
                            have tv200 : v200.toInt = p171_6.toInt + (1) := by rw [ev200]; exact add_i rfl (by decide) (by omega) (by omega)
                            refine lv_iinc (v := v200) (lv' := [(6, .int v200), (4, .int p89_4), (0, .ref a0), (1, .int x1), (2, .int x2), (3, .int x3)]) hx hb dX12_goesTurn_200 hl (k := 0) rfl (by rw [ev200]; rfl) (by decide) rfl (fun ls hl => ?_)
                            refine lv_goto (tgt := 171) hx hb dX12_goesTurn_203 (by decide) ?_
                            exact ih171 _ (by omega) v200 _ _ _ rfl (by omega) (by omega) hH hS (lv_sub hl [0, 1, 2, 3, 4, 5] rfl)
                      refine lv_istore (lv' := [(6, .int 0), (4, .int p89_4), (0, .ref a0), (1, .int x1), (2, .int x2), (3, .int x3)]) hx hb dX12_goesTurn_169 hl (by decide) rfl (fun ls hl => ?_)
                      exact J171 _ 0 _ _ _ rfl (by decide) (by decide) hH hS (lv_sub hl [0, 1, 2, 3, 4, 5] rfl)
                    refine lv_if_eq (tgt := 163) hx hb dX12_goesTurn_156 (by decide) (fun c156 => ?_) (fun c156 => ?_)
                    · skip
                      have tc156 := f_eq (k := 0) (by decide) c156
                      refine lv_iconst (v := 0) hx hb dX12_goesTurn_163 (by decide) ?_
                      exact J164 0 _ _ _ (by decide) (by decide) hH hS (lv_sub hl [1, 2, 3, 4, 5] rfl)
                    · skip
                      have tc156 := f_ne (k := 0) (by decide) c156
                      refine lv_iconst (v := 1) hx hb dX12_goesTurn_159 (by decide) ?_
                      refine lv_goto (tgt := 164) hx hb dX12_goesTurn_160 (by decide) ?_
                      exact J164 1 _ _ _ (by decide) (by decide) hH hS (lv_sub hl [1, 2, 3, 4, 5] rfl)
                  refine lv_if_eq (tgt := 141) hx hb dX12_goesTurn_131 (by decide) (fun c131 => ?_) (fun c131 => ?_)
                  · skip
                    have tc131 := f_eq (k := 0) (by decide) c131
                    exact J141  _ _ _  hH hS (lv_sub hl [0, 1, 2, 3, 4, 5] rfl)
                  · skip
                    have tc131 := f_ne (k := 0) (by decide) c131
                    refine lv_aload_n hx hb dX12_goesTurn_134 rfl (lv_at hl 2 rfl) ?_
                    refine lv_iload hx hb dX12_goesTurn_135 (lv_at hl 1 rfl) ?_
                    refine tk_i hH hS hA (tr_V (n := 1) (As := [.int p89_4]) hx hb hml hown hts hkb hH hOX hks hE hS hA (s_M_usesRow l D cs kf T O X a0 hg mq p89_4 t_a0 b_hg (hO.sub (by decide))) kw_1548 kw_1550 ks_80 kw_13 kw_1551 (by decide +kernel) ⟨Nat.le_of_ble_eq_true rfl, Nat.le_of_ble_eq_true rfl⟩ (HT.recv (ci := 12) hkb hH t_a0 (hO.no t_a0 (by decide)) rfl) rfl rfl hl.1 (Nat.le_of_ble_eq_true rfl) dX12_goesTurn_137 ⟨Nat.le_of_ble_eq_true rfl, Nat.le_of_ble_eq_true rfl⟩) (fun v137 u H locs hz9 hH hS => ?_)
                    have hz9 : u = (T, O, X) := hz9
                    subst hz9
                    have hH : HT D cs A T O X H := hH
                    refine W.widen (k := 0) (n := 0) (Nat.le_of_ble_eq_true rfl) (Nat.le_of_ble_eq_true rfl) ?_
                    refine lv_pop hx hb dX12_goesTurn_140 rfl ?_
                    exact J141  _ _ _  hH hS (lv_sub hl [0, 1, 2, 3, 4, 5] rfl)
                · skip
                  have tc107 := f_eq (k := 0) (by decide) c107
                  refine lv_goto (tgt := 206) hx hb dX12_goesTurn_110 (by decide) ?_
                  exact J206  _ _ _  hH hS (lv_sub hl [0, 1, 2, 3, 4] rfl)
          refine lv_istore (lv' := [(4, .int 0), (0, .ref a0), (1, .int x1), (2, .int x2), (3, .int x3)]) hx hb dX12_goesTurn_87 hl (by decide) rfl (fun ls hl => ?_)
          exact J89 _ 0 _ _ _ rfl (by decide) (by decide) hH hS (lv_sub hl [0, 1, 2, 3, 4] rfl)
        · skip
          have tc55 := f_nge (k := 31) (by decide) c55
          refine lv_aload_n hx hb dX12_goesTurn_58 rfl (lv_at hl 1 rfl) ?_
          refine t_get (ci := 12) (lst := ft12 hg mq) (C := RX12) (F := TX12) (N := 36) hx hb hts uX12 hown hkb hH t_a0 (hO.no t_a0 (by decide)) (fun _ h9 => h9) rfl rfl 31 (by decide) rfl kw_1254 (fun _ h9 => h9) dX12_goesTurn_59 (fun v9 h9 => ?_)
          obtain ⟨v59, rfl, t_v59⟩ := h9
          refine lv_bipush (v := 31) hx hb dX12_goesTurn_62 (by decide) ?_
          refine lv_iload_n hx hb dX12_goesTurn_64 rfl (lv_at hl 2 rfl) ?_
          refine lv_imul hx hb dX12_goesTurn_65 ?_
          refine lv_topi (fun v65 ev65 => ?_)
          have tv65 : v65.toInt = (31) * x1.toInt := by rw [ev65]; exact mul_i (by decide : (31 : Int32).toInt = 31) rfl (by omega) (by omega)
          refine lv_iload hx hb dX12_goesTurn_66 (lv_at hl 0 rfl) ?_
          refine lv_iadd hx hb dX12_goesTurn_68 ?_
          refine lv_topi (fun v68 ev68 => ?_)
          have tv68 : v68.toInt = v65.toInt + p51_4.toInt := by rw [ev68]; exact add_i rfl rfl (by omega) (by omega)
          refine lv_aload_n hx hb dX12_goesTurn_69 rfl (lv_at hl 1 rfl) ?_
          refine t_get (ci := 12) (lst := ft12 hg mq) (C := RX12) (F := TX12) (N := 36) hx hb hts uX12 hown hkb hH t_a0 (hO.no t_a0 (by decide)) (fun _ h9 => h9) rfl rfl 1 (by decide) rfl kw_1224 (fun _ h9 => h9) dX12_goesTurn_70 (fun v9 h9 => ?_)
          obtain ⟨v70, rfl, t_v70⟩ := h9
          refine lv_bipush (v := 59) hx hb dX12_goesTurn_73 (by decide) ?_
          refine lv_iload hx hb dX12_goesTurn_75 (lv_at hl 0 rfl) ?_
          refine lv_iadd hx hb dX12_goesTurn_77 ?_
          refine lv_topi (fun v77 ev77 => ?_)
          have tv77 : v77.toInt = (59) + p51_4.toInt := by rw [ev77]; exact add_i (by decide : (59 : Int32).toInt = 59) rfl (by omega) (by omega)
          refine t_ild8 hx hb hkb hH t_v70 (hO.no t_v70 (by decide)) (by decide) (by omega) (by omega) dX12_goesTurn_78 (fun v78 h9 h8 => ?_)
          refine t_ist hx hb hkb hH hS t_v59 (hO.no t_v59 (by decide)) (by omega) (by omega) (cp_0 _) dX12_goesTurn_79 (fun H locs hH hS => ?_)
          obtain ⟨v80, ev80⟩ : ∃ y : Int32, y = p51_4 + 1 := ⟨_, rfl⟩
          have tv80 : v80.toInt = p51_4.toInt + (1) := by rw [ev80]; exact add_i rfl (by decide) (by omega) (by omega)
          refine lv_iinc (v := v80) (lv' := [(4, .int v80), (0, .ref a0), (1, .int x1), (2, .int x2), (3, .int x3)]) hx hb dX12_goesTurn_80 hl (k := 0) rfl (by rw [ev80]; rfl) (by decide) rfl (fun ls hl => ?_)
          refine lv_goto (tgt := 51) hx hb dX12_goesTurn_83 (by decide) ?_
          exact ih51 _ (by omega) v80 _ _ _ rfl (by omega) (by omega) hH hS (lv_sub hl [0, 1, 2, 3, 4] rfl)
    refine lv_istore (lv' := [(4, .int 0), (0, .ref a0), (1, .int x1), (2, .int x2), (3, .int x3)]) hx hb dX12_goesTurn_49 hl (by decide) rfl (fun ls hl => ?_)
    exact J51 _ 0 _ _ _ rfl (by decide) (by decide) hH hS (lv_sub hl [0, 1, 2, 3, 4] rfl)
  · skip
    have tc1 := f_eq (k := 0) (by decide) c1
    refine lv_iload_n hx hb dX12_goesTurn_4 rfl (lv_at hl 3 rfl) ?_
    refine lv_aload_n hx hb dX12_goesTurn_5 rfl (lv_at hl 0 rfl) ?_
    refine t_get (ci := 12) (lst := ft12 hg mq) (C := RX12) (F := TX12) (N := 36) hx hb hts uX12 hown hkb hH t_a0 (hO.no t_a0 (by decide)) (fun _ h9 => h9) rfl rfl 32 (by decide) rfl kw_1255 (fun _ h9 => h9) dX12_goesTurn_6 (fun v9 h9 => ?_)
    obtain ⟨v6, rfl⟩ := h9
    refine lv_icmp_gt (tgt := 13) hx hb dX12_goesTurn_9 (by decide) (fun c9 => ?_) (fun c9 => ?_)
    · skip
      have fuc9 := full_i x3
      have fvc9 := full_i v6
      have tc9 := g_lt c9
      refine lv_aload_n hx hb dX12_goesTurn_13 rfl (lv_at hl 0 rfl) ?_
      refine lv_iload_n hx hb dX12_goesTurn_14 rfl (lv_at hl 3 rfl) ?_
      refine t_put (ci := 12) (lst := ft12 hg mq) (v := .int x3) (ty := tyX12 32) (C := RX12) (F := TX12) (N := 36) hx hb hts uX12 tyX12 tyX12_ok nmX12 hown hkb hH hS t_a0 (hO.no t_a0 (by decide)) (fun _ => Iff.rfl) rfl rfl 32 (by decide) rfl (⟨_, rfl⟩) kw_1255 (fun _ h9 => h9) rfl (tyX12_ok 32 (by decide)) rfl rfl dX12_goesTurn_15 (fun H locs hH hS => ?_)
      refine lv_iconst (v := 0) hx hb dX12_goesTurn_18 (by decide) ?_
      refine lv_istore (lv' := [(4, .int 0), (0, .ref a0), (1, .int x1), (2, .int x2), (3, .int x3)]) hx hb dX12_goesTurn_19 hl (by decide) rfl (fun ls hl => ?_)
      refine lv_iload hx hb dX12_goesTurn_21 (lv_at hl 0 rfl) ?_
      refine lv_iload_n hx hb dX12_goesTurn_23 rfl (lv_at hl 2 rfl) ?_
      refine lv_icmp_ge (tgt := 47) hx hb dX12_goesTurn_24 (by decide) (fun c24 => ?_) (fun c24 => ?_)
      · skip
        have tc24 := f_le (k := 0) (by decide) c24
        exact te_v hx hb hr hlocks hH hS (rfl) dX12_goesTurn_47
      · skip
        have tc24 := f_nle (k := 0) (by decide) c24
        exfalso; omega
    · skip
      have fuc9 := full_i x3
      have fvc9 := full_i v6
      have tc9 := g_nlt c9
      exact te_v hx hb hr hlocks hH hS (rfl) dX12_goesTurn_12
set_option maxHeartbeats 4000000 in
set_option maxRecDepth 100000 in
theorem s_M_inTurn (l : Launch) (D : va_G) (cs : CS) (kf : KF) (T : TF) (O : List Nat) (X : va_W) (a0 hg mq : Nat) (x1 : Int32) (x2 : Int32) (t_a0 : T a0 = some (22, hg, mq)) (b_hg : hg < 90) (hO : okO T O [1, 8, 9, 22]) : TK l D cs kf yX12_inTurn cX12_inTurn 3 (some (.int)) { frames := 11, cells := 0, slots := 0, locals := 270 } [.ref a0, .int x1, .int x2] T O X (Ti D cs (fun r u => u = (T, O, X))) := by
  refine tk_of (by decide) (Nat.le_of_ble_eq_true rfl) (fun p e s m below meth c ls A H locs hx hb hr hml hown hts hlocks hnm hkb hH hS hA hOX hks hE hl => ?_)
  have hown : s.vm.findClass RX12 = some m.cls := hown
  have hl : lv_has ls 3 [(0, .ref a0), (1, .int x1), (2, .int x2)] := hl
  refine lv_aload_n hx hb dX12_inTurn_0 rfl (lv_at hl 0 rfl) ?_
  refine lv_iconst (v := 0) hx hb dX12_inTurn_1 (by decide) ?_
  refine t_put (ci := 12) (lst := ft12 hg mq) (v := .int 0) (ty := tyX12 0) (C := RX12) (F := TX12) (N := 36) hx hb hts uX12 tyX12 tyX12_ok nmX12 hown hkb hH hS t_a0 (hO.no t_a0 (by decide)) (fun _ => Iff.rfl) rfl rfl 0 (by decide) rfl (⟨_, rfl⟩) kw_1223 (fun _ h9 => h9) rfl (tyX12_ok 0 (by decide)) rfl rfl dX12_inTurn_2 (fun H locs hH hS => ?_)
  refine lv_iload_n hx hb dX12_inTurn_5 rfl (lv_at hl 1 rfl) ?_
  refine lv_i2l hx hb dX12_inTurn_6 rfl ?_
  refine lv_lconst (v := 0) hx hb dX12_inTurn_7 (by decide) ?_
  refine lv_iconst (v := 1) hx hb dX12_inTurn_8 (by decide) ?_
  refine lv_aload_n hx hb dX12_inTurn_9 rfl (lv_at hl 0 rfl) ?_
  refine t_get (ci := 12) (lst := ft12 hg mq) (C := RX12) (F := TX12) (N := 36) hx hb hts uX12 hown hkb hH t_a0 (hO.no t_a0 (by decide)) (fun _ h9 => h9) rfl rfl 1 (by decide) rfl kw_1224 (fun _ h9 => h9) dX12_inTurn_10 (fun v9 h9 => ?_)
  obtain ⟨v10, rfl, t_v10⟩ := h9
  refine lv_iconst (v := 2) hx hb dX12_inTurn_13 (by decide) ?_
  refine t_ild8 hx hb hkb hH t_v10 (hO.no t_v10 (by decide)) (by decide) (by decide) (by decide) dX12_inTurn_14 (fun v14 h9 h8 => ?_)
  have q9 := (h8 rfl).2 rfl
  subst q9
  have eG9 : (nI (hg % 6)).toInt = (((hg % 6) : Nat) : Int) := nI_toInt (by omega)
  refine lv_ishl hx hb dX12_inTurn_15 ?_
  refine lv_topi (fun v15 ev15 => ?_)
  have tv15 : 1 ≤ v15.toInt ∧ v15.toInt ≤ 32 := by rw [ev15]; exact shl_b 5 (by decide) (by omega) (by omega)
  refine lv_iconst (v := 1) hx hb dX12_inTurn_16 (by decide) ?_
  refine lv_isub hx hb dX12_inTurn_17 ?_
  refine lv_topi (fun v17 ev17 => ?_)
  have tv17 : v17.toInt = v15.toInt - (1) := by rw [ev17]; exact sub_i rfl (by decide : (1 : Int32).toInt = 1) (by omega) (by omega)
  refine lv_i2l hx hb dX12_inTurn_18 rfl ?_
  refine tk_i hH hS hA (tr_S (n := 3) (As := [.long x1.toInt64, .long 0, .long v17.toInt64]) hx hb hml hown hts hkb hH hOX hks hE hS hA (s_M_within l D cs kf T O X x1.toInt64 0 v17.toInt64  (hO.sub (by decide))) kw_1341 kw_1342 kw_13 kw_1343 (by decide +kernel) ⟨Nat.le_of_ble_eq_true rfl, Nat.le_of_ble_eq_true rfl⟩ rfl rfl hl.1 (Nat.le_of_ble_eq_true rfl) dX12_inTurn_19 ⟨Nat.le_of_ble_eq_true rfl, Nat.le_of_ble_eq_true rfl⟩) (fun v19 u H locs hz9 hH hS => ?_)
  obtain ⟨rfl, l_v19, u_v19, x_v190, x_v191⟩ := hz9
  simp only [Int32.toInt_toInt64] at x_v190 x_v191
  have k9_0 : (0 : Int64).toInt = 0 := by decide
  have hH : HT D cs A T O X H := hH
  refine W.widen (k := 0) (n := 0) (Nat.le_of_ble_eq_true rfl) (Nat.le_of_ble_eq_true rfl) ?_
  refine lv_if_ne (tgt := 28) hx hb dX12_inTurn_22 (by decide) (fun c22 => ?_) (fun c22 => ?_)
  · skip
    have tc22 := f_ne (k := 0) (by decide) c22
    replace x_v190 := x_v190.resolve_left tc22
    clear x_v191
    refine lv_iload_n hx hb dX12_inTurn_28 rfl (lv_at hl 2 rfl) ?_
    refine lv_if_eq (tgt := 49) hx hb dX12_inTurn_29 (by decide) (fun c29 => ?_) (fun c29 => ?_)
    · skip
      have tc29 := f_eq (k := 0) (by decide) c29
      refine lv_aload_n hx hb dX12_inTurn_49 rfl (lv_at hl 0 rfl) ?_
      refine lv_iconst (v := (-1)) hx hb dX12_inTurn_50 (by decide) ?_
      refine t_put (ci := 12) (lst := ft12 hg mq) (v := .int (-1)) (ty := tyX12 32) (C := RX12) (F := TX12) (N := 36) hx hb hts uX12 tyX12 tyX12_ok nmX12 hown hkb hH hS t_a0 (hO.no t_a0 (by decide)) (fun _ => Iff.rfl) rfl rfl 32 (by decide) rfl (⟨_, rfl⟩) kw_1255 (fun _ h9 => h9) rfl (tyX12_ok 32 (by decide)) rfl rfl dX12_inTurn_51 (fun H locs hH hS => ?_)
      have hpl := pcn_le 5 x1.toInt.toNat
      refine lv_aload_n hx hb dX12_inTurn_54 rfl (lv_at hl 0 rfl) ?_
      refine lv_iconst (v := 0) hx hb dX12_inTurn_55 (by decide) ?_
      refine lv_iload_n hx hb dX12_inTurn_56 rfl (lv_at hl 1 rfl) ?_
      refine lv_iconst (v := 0) hx hb dX12_inTurn_57 (by decide) ?_
      have z9_0 : (0 : Int32).toInt = 0 := by decide
      have z9_0 : (0 : Int32).toInt = 0 := by decide
      refine tk_v hH hS hA (tr_V (n := 3) (As := [.int 0, .int x1, .int 0]) hx hb hml hown hts hkb hH hOX hks hE hS hA (s_M_goesTurn0 l D cs kf T O X a0 hg mq (0) x1 (0) t_a0 b_hg (by decide) (by decide) (by omega) (by omega) (by omega) (hO.sub (by decide))) kw_1756 kw_1758 ks_103 kw_13 kw_1759 (by decide +kernel) ⟨Nat.le_of_ble_eq_true rfl, Nat.le_of_ble_eq_true rfl⟩ (HT.recv (ci := 12) hkb hH t_a0 (hO.no t_a0 (by decide)) rfl) rfl rfl hl.1 (Nat.le_of_ble_eq_true rfl) dX12_inTurn_58 ⟨Nat.le_of_ble_eq_true rfl, Nat.le_of_ble_eq_true rfl⟩) (fun u H locs hz9 hH hS => ?_)
      obtain ⟨rfl⟩ := hz9
      have hH : HT D cs A T O X H := hH
      refine W.widen (k := 0) (n := 0) (Nat.le_of_ble_eq_true rfl) (Nat.le_of_ble_eq_true rfl) ?_
      refine lv_iload_n hx hb dX12_inTurn_61 rfl (lv_at hl 2 rfl) ?_
      refine lv_if_ne (tgt := 72) hx hb dX12_inTurn_62 (by decide) (fun c62 => ?_) (fun c62 => ?_)
      · skip
        have tc62 := f_ne (k := 0) (by decide) c62
        exfalso; omega
      · skip
        have tc62 := f_eq (k := 0) (by decide) c62
        refine lv_aload_n hx hb dX12_inTurn_65 rfl (lv_at hl 0 rfl) ?_
        refine t_get (ci := 12) (lst := ft12 hg mq) (C := RX12) (F := TX12) (N := 36) hx hb hts uX12 hown hkb hH t_a0 (hO.no t_a0 (by decide)) (fun _ h9 => h9) rfl rfl 32 (by decide) rfl kw_1255 (fun _ h9 => h9) dX12_inTurn_66 (fun v9 h9 => ?_)
        obtain ⟨v66, rfl⟩ := h9
        refine lv_goto (tgt := 96) hx hb dX12_inTurn_69 (by decide) ?_
        exact te_i hx hb hr hlocks hH hS (rfl) dX12_inTurn_96
    · skip
      have tc29 := f_ne (k := 0) (by decide) c29
      refine lv_iload_n hx hb dX12_inTurn_32 rfl (lv_at hl 2 rfl) ?_
      refine lv_i2l hx hb dX12_inTurn_33 rfl ?_
      refine lv_ldc2 hx hb hown (hts _ kw_1602) dX12_inTurn_34 ?_
      refine lv_ldc2 hx hb hown (hts _ kw_1581) dX12_inTurn_37 ?_
      refine tk_i hH hS hA (tr_S (n := 3) (As := [.long x2.toInt64, .long 10, .long 14]) hx hb hml hown hts hkb hH hOX hks hE hS hA (s_M_within l D cs kf T O X x2.toInt64 10 14  (hO.sub (by decide))) kw_1341 kw_1342 kw_13 kw_1343 (by decide +kernel) ⟨Nat.le_of_ble_eq_true rfl, Nat.le_of_ble_eq_true rfl⟩ rfl rfl hl.1 (Nat.le_of_ble_eq_true rfl) dX12_inTurn_40 ⟨Nat.le_of_ble_eq_true rfl, Nat.le_of_ble_eq_true rfl⟩) (fun v40 u H locs hz9 hH hS => ?_)
      obtain ⟨rfl, l_v40, u_v40, x_v400, x_v401⟩ := hz9
      simp only [Int32.toInt_toInt64] at x_v400 x_v401
      have k9_10 : (10 : Int64).toInt = 10 := by decide
      have k9_14 : (14 : Int64).toInt = 14 := by decide
      have hH : HT D cs A T O X H := hH
      refine W.widen (k := 0) (n := 0) (Nat.le_of_ble_eq_true rfl) (Nat.le_of_ble_eq_true rfl) ?_
      refine lv_if_ne (tgt := 49) hx hb dX12_inTurn_43 (by decide) (fun c43 => ?_) (fun c43 => ?_)
      · skip
        have tc43 := f_ne (k := 0) (by decide) c43
        replace x_v400 := x_v400.resolve_left tc43
        clear x_v401
        refine lv_aload_n hx hb dX12_inTurn_49 rfl (lv_at hl 0 rfl) ?_
        refine lv_iconst (v := (-1)) hx hb dX12_inTurn_50 (by decide) ?_
        refine t_put (ci := 12) (lst := ft12 hg mq) (v := .int (-1)) (ty := tyX12 32) (C := RX12) (F := TX12) (N := 36) hx hb hts uX12 tyX12 tyX12_ok nmX12 hown hkb hH hS t_a0 (hO.no t_a0 (by decide)) (fun _ => Iff.rfl) rfl rfl 32 (by decide) rfl (⟨_, rfl⟩) kw_1255 (fun _ h9 => h9) rfl (tyX12_ok 32 (by decide)) rfl rfl dX12_inTurn_51 (fun H locs hH hS => ?_)
        have hpl := pcn_le 5 x1.toInt.toNat
        refine lv_aload_n hx hb dX12_inTurn_54 rfl (lv_at hl 0 rfl) ?_
        refine lv_iconst (v := 0) hx hb dX12_inTurn_55 (by decide) ?_
        refine lv_iload_n hx hb dX12_inTurn_56 rfl (lv_at hl 1 rfl) ?_
        refine lv_iconst (v := 0) hx hb dX12_inTurn_57 (by decide) ?_
        have z9_0 : (0 : Int32).toInt = 0 := by decide
        have z9_0 : (0 : Int32).toInt = 0 := by decide
        refine tk_v hH hS hA (tr_V (n := 3) (As := [.int 0, .int x1, .int 0]) hx hb hml hown hts hkb hH hOX hks hE hS hA (s_M_goesTurn0 l D cs kf T O X a0 hg mq (0) x1 (0) t_a0 b_hg (by decide) (by decide) (by omega) (by omega) (by omega) (hO.sub (by decide))) kw_1756 kw_1758 ks_103 kw_13 kw_1759 (by decide +kernel) ⟨Nat.le_of_ble_eq_true rfl, Nat.le_of_ble_eq_true rfl⟩ (HT.recv (ci := 12) hkb hH t_a0 (hO.no t_a0 (by decide)) rfl) rfl rfl hl.1 (Nat.le_of_ble_eq_true rfl) dX12_inTurn_58 ⟨Nat.le_of_ble_eq_true rfl, Nat.le_of_ble_eq_true rfl⟩) (fun u H locs hz9 hH hS => ?_)
        obtain ⟨rfl⟩ := hz9
        have hH : HT D cs A T O X H := hH
        refine W.widen (k := 0) (n := 0) (Nat.le_of_ble_eq_true rfl) (Nat.le_of_ble_eq_true rfl) ?_
        refine lv_iload_n hx hb dX12_inTurn_61 rfl (lv_at hl 2 rfl) ?_
        refine lv_if_ne (tgt := 72) hx hb dX12_inTurn_62 (by decide) (fun c62 => ?_) (fun c62 => ?_)
        · skip
          have tc62 := f_ne (k := 0) (by decide) c62
          refine lv_iload_n hx hb dX12_inTurn_72 rfl (lv_at hl 2 rfl) ?_
          refine lv_bipush (v := 10) hx hb dX12_inTurn_73 (by decide) ?_
          refine lv_isub hx hb dX12_inTurn_75 ?_
          refine lv_topi (fun v75 ev75 => ?_)
          have tv75 : v75.toInt = x2.toInt - (10) := by rw [ev75]; exact sub_i rfl (by decide : (10 : Int32).toInt = 10) (by omega) (by omega)
          refine lv_iload_n hx hb dX12_inTurn_76 rfl (lv_at hl 1 rfl) ?_
          refine tk_i hH hS hA (tr_S (n := 1) (As := [.int x1]) hx hb hml hown hts hkb hH hOX hks hE hS hA (s_M_bitsOf l D cs kf T O X x1  (hO.sub (by decide))) kw_1631 kw_1632 kw_13 kw_1633 (by decide +kernel) ⟨Nat.le_of_ble_eq_true rfl, Nat.le_of_ble_eq_true rfl⟩ rfl rfl hl.1 (Nat.le_of_ble_eq_true rfl) dX12_inTurn_77 ⟨Nat.le_of_ble_eq_true rfl, Nat.le_of_ble_eq_true rfl⟩) (fun v77 u H locs hz9 hH hS => ?_)
          have hz9 : u = (T, O, X) := hz9
          subst hz9
          have hH : HT D cs A T O X H := hH
          refine W.widen (k := 0) (n := 0) (Nat.le_of_ble_eq_true rfl) (Nat.le_of_ble_eq_true rfl) ?_
          refine lv_icmp_ge (tgt := 95) hx hb dX12_inTurn_80 (by decide) (fun c80 => ?_) (fun c80 => ?_)
          · skip
            have fuc80 := full_i v75
            have fvc80 := full_i v77
            have tc80 := g_le c80
            refine lv_iconst (v := (-1)) hx hb dX12_inTurn_95 (by decide) ?_
            exact te_i hx hb hr hlocks hH hS (rfl) dX12_inTurn_96
          · skip
            have fuc80 := full_i v75
            have fvc80 := full_i v77
            have tc80 := g_nle c80
            refine lv_aload_n hx hb dX12_inTurn_83 rfl (lv_at hl 0 rfl) ?_
            refine t_get (ci := 12) (lst := ft12 hg mq) (C := RX12) (F := TX12) (N := 36) hx hb hts uX12 hown hkb hH t_a0 (hO.no t_a0 (by decide)) (fun _ h9 => h9) rfl rfl 30 (by decide) rfl kw_1253 (fun _ h9 => h9) dX12_inTurn_84 (fun v9 h9 => ?_)
            obtain ⟨v84, rfl, t_v84⟩ := h9
            refine lv_iload_n hx hb dX12_inTurn_87 rfl (lv_at hl 2 rfl) ?_
            refine lv_bipush (v := 10) hx hb dX12_inTurn_88 (by decide) ?_
            refine lv_isub hx hb dX12_inTurn_90 ?_
            refine lv_topi (fun v90 ev90 => ?_)
            have tv90 : v90.toInt = x2.toInt - (10) := by rw [ev90]; exact sub_i rfl (by decide : (10 : Int32).toInt = 10) (by omega) (by omega)
            refine t_ild hx hb hkb hH t_v84 (hO.no t_v84 (by decide)) (by omega) (by omega) dX12_inTurn_91 (fun v91 h9 => ?_)
            refine lv_goto (tgt := 96) hx hb dX12_inTurn_92 (by decide) ?_
            exact te_i hx hb hr hlocks hH hS (rfl) dX12_inTurn_96
        · skip
          have tc62 := f_eq (k := 0) (by decide) c62
          exfalso; omega
      · skip
        have tc43 := f_eq (k := 0) (by decide) c43
        clear x_v400
        replace x_v401 := x_v401.resolve_left (fun q9 => q9 tc43)
        refine lv_bipush (v := (-2)) hx hb dX12_inTurn_46 (by decide) ?_
        exact te_i hx hb hr hlocks hH hS (rfl) dX12_inTurn_48
  · skip
    have tc22 := f_eq (k := 0) (by decide) c22
    clear x_v190
    replace x_v191 := x_v191.resolve_left (fun q9 => q9 tc22)
    refine lv_bipush (v := (-3)) hx hb dX12_inTurn_25 (by decide) ?_
    exact te_i hx hb hr hlocks hH hS (rfl) dX12_inTurn_27
theorem dX12_whyNot_0 : decode cX12_whyNot 0 = .ok (.aload_n 0, 1) := by decide +kernel
theorem dX12_whyNot_1 : decode cX12_whyNot 1 = .ok (.lload_n 2, 1) := by decide +kernel
theorem dX12_whyNot_2 : decode cX12_whyNot 2 = .ok (.invokevirtual 218, 3) := by decide +kernel
theorem dX12_whyNot_5 : decode cX12_whyNot 5 = .ok (.ifCond .ne 5, 3) := by decide +kernel
theorem dX12_whyNot_8 : decode cX12_whyNot 8 = .ok (.iconst 1, 1) := by decide +kernel
theorem dX12_whyNot_9 : decode cX12_whyNot 9 = .ok (.ireturn, 1) := by decide +kernel
theorem dX12_whyNot_10 : decode cX12_whyNot 10 = .ok (.lload_n 2, 1) := by decide +kernel
theorem dX12_whyNot_11 : decode cX12_whyNot 11 = .ok (.l2i, 1) := by decide +kernel
theorem dX12_whyNot_12 : decode cX12_whyNot 12 = .ok (.istore 6, 2) := by decide +kernel
theorem dX12_whyNot_14 : decode cX12_whyNot 14 = .ok (.aload_n 0, 1) := by decide +kernel
theorem dX12_whyNot_15 : decode cX12_whyNot 15 = .ok (.iload 6, 2) := by decide +kernel
theorem dX12_whyNot_17 : decode cX12_whyNot 17 = .ok (.invokevirtual 215, 3) := by decide +kernel
theorem dX12_whyNot_20 : decode cX12_whyNot 20 = .ok (.ifCond .eq 14, 3) := by decide +kernel
theorem dX12_whyNot_23 : decode cX12_whyNot 23 = .ok (.iload 4, 2) := by decide +kernel
theorem dX12_whyNot_25 : decode cX12_whyNot 25 = .ok (.i2l, 1) := by decide +kernel
theorem dX12_whyNot_26 : decode cX12_whyNot 26 = .ok (.iload 6, 2) := by decide +kernel
theorem dX12_whyNot_28 : decode cX12_whyNot 28 = .ok (.invokestatic 186, 3) := by decide +kernel
theorem dX12_whyNot_31 : decode cX12_whyNot 31 = .ok (.ifCond .eq 5, 3) := by decide +kernel
theorem dX12_whyNot_34 : decode cX12_whyNot 34 = .ok (.iconst 2, 1) := by decide +kernel
theorem dX12_whyNot_35 : decode cX12_whyNot 35 = .ok (.ireturn, 1) := by decide +kernel
theorem dX12_whyNot_36 : decode cX12_whyNot 36 = .ok (.iload 5, 2) := by decide +kernel
theorem dX12_whyNot_38 : decode cX12_whyNot 38 = .ok (.iconst (-1), 1) := by decide +kernel
theorem dX12_whyNot_39 : decode cX12_whyNot 39 = .ok (.if_icmp .ne 24, 3) := by decide +kernel
theorem dX12_whyNot_42 : decode cX12_whyNot 42 = .ok (.aload_n 0, 1) := by decide +kernel
theorem dX12_whyNot_43 : decode cX12_whyNot 43 = .ok (.getfield 13, 3) := by decide +kernel
theorem dX12_whyNot_46 : decode cX12_whyNot 46 = .ok (.iconst 4, 1) := by decide +kernel
theorem dX12_whyNot_47 : decode cX12_whyNot 47 = .ok (.iaload, 1) := by decide +kernel
theorem dX12_whyNot_48 : decode cX12_whyNot 48 = .ok (.i2l, 1) := by decide +kernel
theorem dX12_whyNot_49 : decode cX12_whyNot 49 = .ok (.iload 6, 2) := by decide +kernel
theorem dX12_whyNot_51 : decode cX12_whyNot 51 = .ok (.invokestatic 186, 3) := by decide +kernel
theorem dX12_whyNot_54 : decode cX12_whyNot 54 = .ok (.ifCond .eq 7, 3) := by decide +kernel
theorem dX12_whyNot_57 : decode cX12_whyNot 57 = .ok (.iconst 0, 1) := by decide +kernel
theorem dX12_whyNot_58 : decode cX12_whyNot 58 = .ok (.goto 4, 3) := by decide +kernel
theorem dX12_whyNot_61 : decode cX12_whyNot 61 = .ok (.iconst 3, 1) := by decide +kernel
theorem dX12_whyNot_62 : decode cX12_whyNot 62 = .ok (.ireturn, 1) := by decide +kernel
theorem dX12_whyNot_63 : decode cX12_whyNot 63 = .ok (.aload_n 0, 1) := by decide +kernel
theorem dX12_whyNot_64 : decode cX12_whyNot 64 = .ok (.aload_n 0, 1) := by decide +kernel
theorem dX12_whyNot_65 : decode cX12_whyNot 65 = .ok (.getfield 13, 3) := by decide +kernel
theorem dX12_whyNot_68 : decode cX12_whyNot 68 = .ok (.bipush 49, 2) := by decide +kernel
theorem dX12_whyNot_70 : decode cX12_whyNot 70 = .ok (.iload_n 1, 1) := by decide +kernel
theorem dX12_whyNot_71 : decode cX12_whyNot 71 = .ok (.iadd, 1) := by decide +kernel
theorem dX12_whyNot_72 : decode cX12_whyNot 72 = .ok (.iaload, 1) := by decide +kernel
theorem dX12_whyNot_73 : decode cX12_whyNot 73 = .ok (.putfield 231, 3) := by decide +kernel
theorem dX12_whyNot_76 : decode cX12_whyNot 76 = .ok (.aload_n 0, 1) := by decide +kernel
theorem dX12_whyNot_77 : decode cX12_whyNot 77 = .ok (.getfield 13, 3) := by decide +kernel
theorem dX12_whyNot_80 : decode cX12_whyNot 80 = .ok (.iconst 5, 1) := by decide +kernel
theorem dX12_whyNot_81 : decode cX12_whyNot 81 = .ok (.iaload, 1) := by decide +kernel
theorem dX12_whyNot_82 : decode cX12_whyNot 82 = .ok (.i2l, 1) := by decide +kernel
theorem dX12_whyNot_83 : decode cX12_whyNot 83 = .ok (.iload 5, 2) := by decide +kernel
theorem dX12_whyNot_85 : decode cX12_whyNot 85 = .ok (.invokestatic 186, 3) := by decide +kernel
theorem dX12_whyNot_88 : decode cX12_whyNot 88 = .ok (.ifCond .ne 19, 3) := by decide +kernel
theorem dX12_whyNot_91 : decode cX12_whyNot 91 = .ok (.aload_n 0, 1) := by decide +kernel
theorem dX12_whyNot_92 : decode cX12_whyNot 92 = .ok (.iload_n 1, 1) := by decide +kernel
theorem dX12_whyNot_93 : decode cX12_whyNot 93 = .ok (.iload 5, 2) := by decide +kernel
theorem dX12_whyNot_95 : decode cX12_whyNot 95 = .ok (.iload 6, 2) := by decide +kernel
theorem dX12_whyNot_97 : decode cX12_whyNot 97 = .ok (.invokevirtual 246, 3) := by decide +kernel
theorem dX12_whyNot_100 : decode cX12_whyNot 100 = .ok (.ifCond .eq 7, 3) := by decide +kernel
theorem dX12_whyNot_103 : decode cX12_whyNot 103 = .ok (.iconst 0, 1) := by decide +kernel
theorem dX12_whyNot_104 : decode cX12_whyNot 104 = .ok (.goto 4, 3) := by decide +kernel
theorem dX12_whyNot_107 : decode cX12_whyNot 107 = .ok (.iconst 3, 1) := by decide +kernel
theorem dX12_whyNot_108 : decode cX12_whyNot 108 = .ok (.ireturn, 1) := by decide +kernel
set_option maxHeartbeats 4000000 in
set_option maxRecDepth 100000 in
theorem s_M_isHoldX (l : Launch) (D : va_G) (cs : CS) (kf : KF) (T : TF) (O : List Nat) (X : va_W) (a0 hg mq : Nat) (x1 : Int64) (f1 : Nat → Int32) (o0 : Value) (y1 : Nat) (o2 : Value) (o3 : Value) (o4 : Value) (o5 : Value) (o6 : Value) (o7 : Value) (o8 : Value) (o9 : Value) (o10 : Value) (o11 : Value) (o12 : Value) (o13 : Value) (o14 : Value) (y15 : Nat) (y16 : Int32) (tl : List Value) (t_a0 : T a0 = some (22, hg, mq)) (b_hg : hg < 90) (s_f1 : B8 3906 f1) (g_f1 : f1 1 = nI (hg / 6) ∧ f1 2 = nI (hg % 6)) (t_y1 : T y1 = some (8, 3906, hg)) (t_y15 : T y15 = some (1, 900, 0)) (hO : okO T (y1 :: a0 :: O) []) : TK l D cs kf yX12_isHold cX12_isHold 3 (some (.boolean)) { frames := 1, cells := 0, slots := 0, locals := 25 } [.ref a0, .long x1] T (y1 :: a0 :: O) ((y1, .inl (cs.2.1, 3906, .inl f1)) :: (a0, .inr (12, o0 :: (.ref y1) :: o2 :: o3 :: o4 :: o5 :: o6 :: o7 :: o8 :: o9 :: o10 :: o11 :: o12 :: o13 :: o14 :: (.ref y15) :: (.int y16) :: tl)) :: X) (Ti D cs (fun r u => u = (T, y1 :: a0 :: O, (y1, .inl (cs.2.1, 3906, .inl f1)) :: (a0, .inr (12, o0 :: (.ref y1) :: o2 :: o3 :: o4 :: o5 :: o6 :: o7 :: o8 :: o9 :: o10 :: o11 :: o12 :: o13 :: o14 :: (.ref y15) :: (.int y16) :: tl)) :: X) ∧ 0 ≤ r.toInt ∧ r.toInt ≤ 1 ∧ (r.toInt = 0 ∨ (0 ≤ x1.toInt ∧ x1.toInt ≤ 13)))) := by
  refine tk_of (by decide) (Nat.le_of_ble_eq_true rfl) (fun p e s m below meth c ls A H locs hx hb hr hml hown hts hlocks hnm hkb hH hS hA hOX hks hE hl => ?_)
  have hown : s.vm.findClass RX12 = some m.cls := hown
  have hl : lv_has ls 3 [(0, .ref a0), (1, .long x1)] := hl
  have hOXf := hOX
  refine lv_lload_n hx hb dX12_isHold_0 rfl (lv_at hl 1 rfl) ?_
  refine lv_lconst (v := 0) hx hb dX12_isHold_1 (by decide) ?_
  refine lv_aload_n hx hb dX12_isHold_2 rfl (lv_at hl 0 rfl) ?_
  refine x_getk (ci := 12) (C := RX12) (F := TX12) (N := 36) (v := .ref y1) hx hb hts uX12 hown hkb hH 1 rfl rfl 1 (by decide) rfl kw_1224 (fun _ h9 => h9) dX12_isHold_3 ?_
  refine lv_iconst (v := 1) hx hb dX12_isHold_6 (by decide) ?_
  refine xa_ild hx hb hkb hH 0 rfl (by decide) (by decide) dX12_isHold_7 ?_
  refine lv_topi (fun v7 ev7 => ?_)
  have tv7 : v7 = f1 1 := by rw [ev7]; rfl
  have bv7 : 0 ≤ v7.toInt ∧ v7.toInt ≤ 14 := by rw [ev7]; exact (s_f1.at (by decide) 1).1 (by decide)
  have hv7 : v7.toInt = ((hg / 6 : Nat) : Int) := by rw [tv7, g_f1.1]; exact nI_toInt (by omega)
  refine lv_iconst (v := 1) hx hb dX12_isHold_8 (by decide) ?_
  refine lv_isub hx hb dX12_isHold_9 ?_
  refine lv_topi (fun v9 ev9 => ?_)
  have tv9 : v9.toInt = v7.toInt - (1) := by rw [ev9]; exact sub_i rfl (by decide : (1 : Int32).toInt = 1) (by omega) (by omega)
  refine lv_i2l hx hb dX12_isHold_10 rfl ?_
  refine tk_i hH hS hA (tr_S (n := 3) (As := [.long x1, .long 0, .long v9.toInt64]) hx hb hml hown hts hkb hH (ox_map hOX rfl) hks hE hS hA (s_M_within l D cs kf T (y1 :: a0 :: O) ((y1, .inl (cs.2.1, 3906, .inl f1)) :: (a0, .inr (12, o0 :: (.ref y1) :: o2 :: o3 :: o4 :: o5 :: o6 :: o7 :: o8 :: o9 :: o10 :: o11 :: o12 :: o13 :: o14 :: (.ref y15) :: (.int y16) :: tl)) :: X) x1 0 v9.toInt64  (hO.sub (by decide))) kw_1341 kw_1342 kw_13 kw_1343 (by decide +kernel) ⟨Nat.le_of_ble_eq_true rfl, Nat.le_of_ble_eq_true rfl⟩ rfl rfl hl.1 (Nat.le_of_ble_eq_true rfl) dX12_isHold_11 ⟨Nat.le_of_ble_eq_true rfl, Nat.le_of_ble_eq_true rfl⟩) (fun v11 u H locs hz9 hH hS => ?_)
  obtain ⟨rfl, l_v11, u_v11, x_v110, x_v111⟩ := hz9
  simp only [Int32.toInt_toInt64] at x_v110 x_v111
  have k9_0 : (0 : Int64).toInt = 0 := by decide
  have hH : HT D cs A T (y1 :: a0 :: O) ((y1, .inl (cs.2.1, 3906, .inl f1)) :: (a0, .inr (12, o0 :: (.ref y1) :: o2 :: o3 :: o4 :: o5 :: o6 :: o7 :: o8 :: o9 :: o10 :: o11 :: o12 :: o13 :: o14 :: (.ref y15) :: (.int y16) :: tl)) :: X) H := hH
  refine W.widen (k := 0) (n := 0) (Nat.le_of_ble_eq_true rfl) (Nat.le_of_ble_eq_true rfl) ?_
  exact te_z hx hb hr hlocks (nar01 (by omega) (by omega)) hH hS (⟨rfl, by omega, by omega, by omega⟩) dX12_isHold_14
set_option maxHeartbeats 4000000 in
set_option maxRecDepth 100000 in
theorem s_M_isGuideX (l : Launch) (D : va_G) (cs : CS) (kf : KF) (T : TF) (O : List Nat) (X : va_W) (a0 hg mq : Nat) (x1 : Int64) (f1 : Nat → Int32) (o0 : Value) (y1 : Nat) (o2 : Value) (o3 : Value) (o4 : Value) (o5 : Value) (o6 : Value) (o7 : Value) (o8 : Value) (o9 : Value) (o10 : Value) (o11 : Value) (o12 : Value) (o13 : Value) (o14 : Value) (y15 : Nat) (y16 : Int32) (tl : List Value) (t_a0 : T a0 = some (22, hg, mq)) (b_hg : hg < 90) (s_f1 : B8 3906 f1) (g_f1 : f1 1 = nI (hg / 6) ∧ f1 2 = nI (hg % 6)) (t_y1 : T y1 = some (8, 3906, hg)) (t_y15 : T y15 = some (1, 900, 0)) (hO : okO T (y1 :: a0 :: O) []) : TK l D cs kf yX12_isGuide cX12_isGuide 3 (some (.boolean)) { frames := 1, cells := 0, slots := 0, locals := 25 } [.ref a0, .long x1] T (y1 :: a0 :: O) ((y1, .inl (cs.2.1, 3906, .inl f1)) :: (a0, .inr (12, o0 :: (.ref y1) :: o2 :: o3 :: o4 :: o5 :: o6 :: o7 :: o8 :: o9 :: o10 :: o11 :: o12 :: o13 :: o14 :: (.ref y15) :: (.int y16) :: tl)) :: X) (Ti D cs (fun r u => u = (T, y1 :: a0 :: O, (y1, .inl (cs.2.1, 3906, .inl f1)) :: (a0, .inr (12, o0 :: (.ref y1) :: o2 :: o3 :: o4 :: o5 :: o6 :: o7 :: o8 :: o9 :: o10 :: o11 :: o12 :: o13 :: o14 :: (.ref y15) :: (.int y16) :: tl)) :: X) ∧ 0 ≤ r.toInt ∧ r.toInt ≤ 1 ∧ (r.toInt = 0 ∨ (0 ≤ x1.toInt ∧ x1.toInt ≤ 4)))) := by
  refine tk_of (by decide) (Nat.le_of_ble_eq_true rfl) (fun p e s m below meth c ls A H locs hx hb hr hml hown hts hlocks hnm hkb hH hS hA hOX hks hE hl => ?_)
  have hown : s.vm.findClass RX12 = some m.cls := hown
  have hl : lv_has ls 3 [(0, .ref a0), (1, .long x1)] := hl
  have hOXf := hOX
  refine lv_lload_n hx hb dX12_isGuide_0 rfl (lv_at hl 1 rfl) ?_
  refine lv_lconst (v := 0) hx hb dX12_isGuide_1 (by decide) ?_
  refine lv_aload_n hx hb dX12_isGuide_2 rfl (lv_at hl 0 rfl) ?_
  refine x_getk (ci := 12) (C := RX12) (F := TX12) (N := 36) (v := .ref y1) hx hb hts uX12 hown hkb hH 1 rfl rfl 1 (by decide) rfl kw_1224 (fun _ h9 => h9) dX12_isGuide_3 ?_
  refine lv_iconst (v := 2) hx hb dX12_isGuide_6 (by decide) ?_
  refine xa_ild hx hb hkb hH 0 rfl (by decide) (by decide) dX12_isGuide_7 ?_
  refine lv_topi (fun v7 ev7 => ?_)
  have tv7 : v7 = f1 2 := by rw [ev7]; rfl
  have bv7 : 0 ≤ v7.toInt ∧ v7.toInt ≤ 5 := by rw [ev7]; exact (s_f1.at (by decide) 2).2.1 (by decide)
  have hv7 : v7.toInt = ((hg % 6 : Nat) : Int) := by rw [tv7, g_f1.2]; exact nI_toInt (by omega)
  refine lv_iconst (v := 1) hx hb dX12_isGuide_8 (by decide) ?_
  refine lv_isub hx hb dX12_isGuide_9 ?_
  refine lv_topi (fun v9 ev9 => ?_)
  have tv9 : v9.toInt = v7.toInt - (1) := by rw [ev9]; exact sub_i rfl (by decide : (1 : Int32).toInt = 1) (by omega) (by omega)
  refine lv_i2l hx hb dX12_isGuide_10 rfl ?_
  refine tk_i hH hS hA (tr_S (n := 3) (As := [.long x1, .long 0, .long v9.toInt64]) hx hb hml hown hts hkb hH (ox_map hOX rfl) hks hE hS hA (s_M_within l D cs kf T (y1 :: a0 :: O) ((y1, .inl (cs.2.1, 3906, .inl f1)) :: (a0, .inr (12, o0 :: (.ref y1) :: o2 :: o3 :: o4 :: o5 :: o6 :: o7 :: o8 :: o9 :: o10 :: o11 :: o12 :: o13 :: o14 :: (.ref y15) :: (.int y16) :: tl)) :: X) x1 0 v9.toInt64  (hO.sub (by decide))) kw_1341 kw_1342 kw_13 kw_1343 (by decide +kernel) ⟨Nat.le_of_ble_eq_true rfl, Nat.le_of_ble_eq_true rfl⟩ rfl rfl hl.1 (Nat.le_of_ble_eq_true rfl) dX12_isGuide_11 ⟨Nat.le_of_ble_eq_true rfl, Nat.le_of_ble_eq_true rfl⟩) (fun v11 u H locs hz9 hH hS => ?_)
  obtain ⟨rfl, l_v11, u_v11, x_v110, x_v111⟩ := hz9
  simp only [Int32.toInt_toInt64] at x_v110 x_v111
  have k9_0 : (0 : Int64).toInt = 0 := by decide
  have hH : HT D cs A T (y1 :: a0 :: O) ((y1, .inl (cs.2.1, 3906, .inl f1)) :: (a0, .inr (12, o0 :: (.ref y1) :: o2 :: o3 :: o4 :: o5 :: o6 :: o7 :: o8 :: o9 :: o10 :: o11 :: o12 :: o13 :: o14 :: (.ref y15) :: (.int y16) :: tl)) :: X) H := hH
  refine W.widen (k := 0) (n := 0) (Nat.le_of_ble_eq_true rfl) (Nat.le_of_ble_eq_true rfl) ?_
  exact te_z hx hb hr hlocks (nar01 (by omega) (by omega)) hH hS (⟨rfl, by omega, by omega, by omega⟩) dX12_isGuide_14
set_option maxHeartbeats 4000000 in
set_option maxRecDepth 100000 in
theorem s_M_isThereX (l : Launch) (D : va_G) (cs : CS) (kf : KF) (T : TF) (O : List Nat) (X : va_W) (a0 hg mq : Nat) (x1 : Int32) (f1 : Nat → Int32) (o0 : Value) (y1 : Nat) (o2 : Value) (o3 : Value) (o4 : Value) (o5 : Value) (o6 : Value) (o7 : Value) (o8 : Value) (o9 : Value) (o10 : Value) (o11 : Value) (o12 : Value) (o13 : Value) (o14 : Value) (y15 : Nat) (y16 : Int32) (tl : List Value) (t_a0 : T a0 = some (22, hg, mq)) (b_hg : hg < 90) (l_x1 : 0 ≤ x1.toInt) (u_x1 : x1.toInt ≤ 13) (s_f1 : B8 3906 f1) (g_f1 : f1 1 = nI (hg / 6) ∧ f1 2 = nI (hg % 6)) (t_y1 : T y1 = some (8, 3906, hg)) (t_y15 : T y15 = some (1, 900, 0)) (hO : okO T (y1 :: a0 :: O) []) : TK l D cs kf yX12_isThere cX12_isThere 2 (some (.boolean)) { frames := 1, cells := 0, slots := 0, locals := 22 } [.ref a0, .int x1] T (y1 :: a0 :: O) ((y1, .inl (cs.2.1, 3906, .inl f1)) :: (a0, .inr (12, o0 :: (.ref y1) :: o2 :: o3 :: o4 :: o5 :: o6 :: o7 :: o8 :: o9 :: o10 :: o11 :: o12 :: o13 :: o14 :: (.ref y15) :: (.int y16) :: tl)) :: X) (Ti D cs (fun r u => u = (T, y1 :: a0 :: O, (y1, .inl (cs.2.1, 3906, .inl f1)) :: (a0, .inr (12, o0 :: (.ref y1) :: o2 :: o3 :: o4 :: o5 :: o6 :: o7 :: o8 :: o9 :: o10 :: o11 :: o12 :: o13 :: o14 :: (.ref y15) :: (.int y16) :: tl)) :: X) ∧ 0 ≤ r.toInt ∧ r.toInt ≤ 1)) := by
  refine tk_of (by decide) (Nat.le_of_ble_eq_true rfl) (fun p e s m below meth c ls A H locs hx hb hr hml hown hts hlocks hnm hkb hH hS hA hOX hks hE hl => ?_)
  have hown : s.vm.findClass RX12 = some m.cls := hown
  have hl : lv_has ls 2 [(0, .ref a0), (1, .int x1)] := hl
  have hOXf := hOX
  refine lv_aload_n hx hb dX12_isThere_0 rfl (lv_at hl 0 rfl) ?_
  refine x_getk (ci := 12) (C := RX12) (F := TX12) (N := 36) (v := .ref y1) hx hb hts uX12 hown hkb hH 1 rfl rfl 1 (by decide) rfl kw_1224 (fun _ h9 => h9) dX12_isThere_1 ?_
  refine lv_bipush (v := 87) hx hb dX12_isThere_4 (by decide) ?_
  refine xa_ild hx hb hkb hH 0 rfl (by decide) (by decide) dX12_isThere_6 ?_
  refine lv_topi (fun v6 ev6 => ?_)
  have tv6 : v6 = f1 87 := by rw [ev6]; rfl
  refine lv_i2l hx hb dX12_isThere_7 rfl ?_
  refine lv_iload_n hx hb dX12_isThere_8 rfl (lv_at hl 1 rfl) ?_
  refine tk_i hH hS hA (tr_S (n := 2) (As := [.long v6.toInt64, .int x1]) hx hb hml hown hts hkb hH (ox_map hOX rfl) hks hE hS hA (s_M_isIn2 l D cs kf T (y1 :: a0 :: O) ((y1, .inl (cs.2.1, 3906, .inl f1)) :: (a0, .inr (12, o0 :: (.ref y1) :: o2 :: o3 :: o4 :: o5 :: o6 :: o7 :: o8 :: o9 :: o10 :: o11 :: o12 :: o13 :: o14 :: (.ref y15) :: (.int y16) :: tl)) :: X) v6.toInt64 x1  (hO.sub (by decide))) kw_1440 kw_1441 kw_13 kw_1442 (by decide +kernel) ⟨Nat.le_of_ble_eq_true rfl, Nat.le_of_ble_eq_true rfl⟩ rfl rfl hl.1 (Nat.le_of_ble_eq_true rfl) dX12_isThere_9 ⟨Nat.le_of_ble_eq_true rfl, Nat.le_of_ble_eq_true rfl⟩) (fun v9 u H locs hz9 hH hS => ?_)
  obtain ⟨rfl, l_v9, u_v9, x_v90⟩ := hz9
  have hH : HT D cs A T (y1 :: a0 :: O) ((y1, .inl (cs.2.1, 3906, .inl f1)) :: (a0, .inr (12, o0 :: (.ref y1) :: o2 :: o3 :: o4 :: o5 :: o6 :: o7 :: o8 :: o9 :: o10 :: o11 :: o12 :: o13 :: o14 :: (.ref y15) :: (.int y16) :: tl)) :: X) H := hH
  refine W.widen (k := 0) (n := 0) (Nat.le_of_ble_eq_true rfl) (Nat.le_of_ble_eq_true rfl) ?_
  have J39 : ∀ (k39_0 : Int32) (H : Heap) (locs : List Loc) (ls : Array Slot), (0 ≤ k39_0.toInt) → (k39_0.toInt ≤ 1) → HT D cs A T (y1 :: a0 :: O) ((y1, .inl (cs.2.1, 3906, .inl f1)) :: (a0, .inr (12, o0 :: (.ref y1) :: o2 :: o3 :: o4 :: o5 :: o6 :: o7 :: o8 :: o9 :: o10 :: o11 :: o12 :: o13 :: o14 :: (.ref y15) :: (.int y16) :: tl)) :: X) H → va_S A s.heap H locs → lv_has ls 2 [] → W p l e { frames := 1, cells := 0, slots := 0, locals := 22 } s m [.ref a0, .int x1].toArray below meth c H locs 0 0 (MQ below (Ti D cs (fun r u => u = (T, y1 :: a0 :: O, (y1, .inl (cs.2.1, 3906, .inl f1)) :: (a0, .inr (12, o0 :: (.ref y1) :: o2 :: o3 :: o4 :: o5 :: o6 :: o7 :: o8 :: o9 :: o10 :: o11 :: o12 :: o13 :: o14 :: (.ref y15) :: (.int y16) :: tl)) :: X) ∧ 0 ≤ r.toInt ∧ r.toInt ≤ 1) A) [.ref a0, .int x1].toArray s 0 0 A) (F0 m 39 ls [.int k39_0]) := by
    intro k39_0 H locs ls l_k39_0 u_k39_0 hH hS hl
    exact te_z hx hb hr hlocks (nar01 (by omega) (by omega)) hH hS (⟨rfl, by omega, by omega⟩) dX12_isThere_39
  have J38 : ∀  (H : Heap) (locs : List Loc) (ls : Array Slot), HT D cs A T (y1 :: a0 :: O) ((y1, .inl (cs.2.1, 3906, .inl f1)) :: (a0, .inr (12, o0 :: (.ref y1) :: o2 :: o3 :: o4 :: o5 :: o6 :: o7 :: o8 :: o9 :: o10 :: o11 :: o12 :: o13 :: o14 :: (.ref y15) :: (.int y16) :: tl)) :: X) H → va_S A s.heap H locs → lv_has ls 2 [] → W p l e { frames := 1, cells := 0, slots := 0, locals := 22 } s m [.ref a0, .int x1].toArray below meth c H locs 0 0 (MQ below (Ti D cs (fun r u => u = (T, y1 :: a0 :: O, (y1, .inl (cs.2.1, 3906, .inl f1)) :: (a0, .inr (12, o0 :: (.ref y1) :: o2 :: o3 :: o4 :: o5 :: o6 :: o7 :: o8 :: o9 :: o10 :: o11 :: o12 :: o13 :: o14 :: (.ref y15) :: (.int y16) :: tl)) :: X) ∧ 0 ≤ r.toInt ∧ r.toInt ≤ 1) A) [.ref a0, .int x1].toArray s 0 0 A) (F0 m 38 ls []) := by
    intro  H locs ls  hH hS hl
    refine lv_iconst (v := 0) hx hb dX12_isThere_38 (by decide) ?_
    exact J39 0 _ _ _ (by decide) (by decide) hH hS (lv_sub hl [] rfl)
  refine lv_if_ne (tgt := 38) hx hb dX12_isThere_12 (by decide) (fun c12 => ?_) (fun c12 => ?_)
  · skip
    have tc12 := f_ne (k := 0) (by decide) c12
    exact J38  _ _ _  hH hS (lv_sub hl [] rfl)
  · skip
    have tc12 := f_eq (k := 0) (by decide) c12
    refine lv_aload_n hx hb dX12_isThere_15 rfl (lv_at hl 0 rfl) ?_
    refine x_getk (ci := 12) (C := RX12) (F := TX12) (N := 36) (v := .ref y1) hx hb hts uX12 hown hkb hH 1 rfl rfl 1 (by decide) rfl kw_1224 (fun _ h9 => h9) dX12_isThere_16 ?_
    refine lv_bipush (v := 88) hx hb dX12_isThere_19 (by decide) ?_
    refine xa_ild hx hb hkb hH 0 rfl (by decide) (by decide) dX12_isThere_21 ?_
    refine lv_topi (fun v21 ev21 => ?_)
    have tv21 : v21 = f1 88 := by rw [ev21]; rfl
    refine lv_aload_n hx hb dX12_isThere_22 rfl (lv_at hl 0 rfl) ?_
    refine x_getk (ci := 12) (C := RX12) (F := TX12) (N := 36) (v := .ref y1) hx hb hts uX12 hown hkb hH 1 rfl rfl 1 (by decide) rfl kw_1224 (fun _ h9 => h9) dX12_isThere_23 ?_
    refine lv_bipush (v := 35) hx hb dX12_isThere_26 (by decide) ?_
    refine lv_iload_n hx hb dX12_isThere_28 rfl (lv_at hl 1 rfl) ?_
    refine lv_iadd hx hb dX12_isThere_29 ?_
    refine lv_topi (fun v29 ev29 => ?_)
    have tv29 : v29.toInt = (35) + x1.toInt := by rw [ev29]; exact add_i (by decide : (35 : Int32).toInt = 35) rfl (by omega) (by omega)
    refine xa_ild hx hb hkb hH 0 rfl (by omega) (by omega) dX12_isThere_30 ?_
    refine lv_topi (fun v30 ev30 => ?_)
    have tv30 : v30 = f1 v29.toInt.toNat := ev30
    refine lv_icmp_lt (tgt := 38) hx hb dX12_isThere_31 (by decide) (fun c31 => ?_) (fun c31 => ?_)
    · skip
      have fuc31 := full_i v21
      have fvc31 := full_i v30
      have tc31 := g_lt c31
      exact J38  _ _ _  hH hS (lv_sub hl [] rfl)
    · skip
      have fuc31 := full_i v21
      have fvc31 := full_i v30
      have tc31 := g_nlt c31
      refine lv_iconst (v := 1) hx hb dX12_isThere_34 (by decide) ?_
      refine lv_goto (tgt := 39) hx hb dX12_isThere_35 (by decide) ?_
      exact J39 1 _ _ _ (by decide) (by decide) hH hS (lv_sub hl [] rfl)
set_option maxHeartbeats 4000000 in
set_option maxRecDepth 100000 in
theorem s_M_isOpenX (l : Launch) (D : va_G) (cs : CS) (kf : KF) (T : TF) (O : List Nat) (X : va_W) (a0 hg mq : Nat) (x1 : Int32) (f1 : Nat → Int32) (o0 : Value) (y1 : Nat) (o2 : Value) (o3 : Value) (o4 : Value) (o5 : Value) (o6 : Value) (o7 : Value) (o8 : Value) (o9 : Value) (o10 : Value) (o11 : Value) (o12 : Value) (o13 : Value) (o14 : Value) (y15 : Nat) (y16 : Int32) (tl : List Value) (t_a0 : T a0 = some (22, hg, mq)) (b_hg : hg < 90) (l_x1 : 0 ≤ x1.toInt) (u_x1 : x1.toInt ≤ 13) (s_f1 : B8 3906 f1) (g_f1 : f1 1 = nI (hg / 6) ∧ f1 2 = nI (hg % 6)) (t_y1 : T y1 = some (8, 3906, hg)) (t_y15 : T y15 = some (1, 900, 0)) (hO : okO T (y1 :: a0 :: O) []) : TK l D cs kf yX12_isOpen cX12_isOpen 2 (some (.boolean)) { frames := 2, cells := 0, slots := 0, locals := 43 } [.ref a0, .int x1] T (y1 :: a0 :: O) ((y1, .inl (cs.2.1, 3906, .inl f1)) :: (a0, .inr (12, o0 :: (.ref y1) :: o2 :: o3 :: o4 :: o5 :: o6 :: o7 :: o8 :: o9 :: o10 :: o11 :: o12 :: o13 :: o14 :: (.ref y15) :: (.int y16) :: tl)) :: X) (Ti D cs (fun r u => u = (T, y1 :: a0 :: O, (y1, .inl (cs.2.1, 3906, .inl f1)) :: (a0, .inr (12, o0 :: (.ref y1) :: o2 :: o3 :: o4 :: o5 :: o6 :: o7 :: o8 :: o9 :: o10 :: o11 :: o12 :: o13 :: o14 :: (.ref y15) :: (.int y16) :: tl)) :: X) ∧ 0 ≤ r.toInt ∧ r.toInt ≤ 1)) := by
  refine tk_of (by decide) (Nat.le_of_ble_eq_true rfl) (fun p e s m below meth c ls A H locs hx hb hr hml hown hts hlocks hnm hkb hH hS hA hOX hks hE hl => ?_)
  have hown : s.vm.findClass RX12 = some m.cls := hown
  have hl : lv_has ls 2 [(0, .ref a0), (1, .int x1)] := hl
  have hOXf := hOX
  refine lv_aload_n hx hb dX12_isOpen_0 rfl (lv_at hl 0 rfl) ?_
  refine lv_iload_n hx hb dX12_isOpen_1 rfl (lv_at hl 1 rfl) ?_
  refine tk_i hH hS hA (tr_V (n := 1) (As := [.int x1]) hx hb hml hown hts hkb hH (ox_map hOX rfl) hks hE hS hA (s_M_isThereX l D cs kf T O X a0 hg mq x1 f1 o0 y1 o2 o3 o4 o5 o6 o7 o8 o9 o10 o11 o12 o13 o14 y15 y16 tl t_a0 b_hg (by omega) (by omega) s_f1 g_f1 t_y1 t_y15 (hO.sub (by decide))) kw_1458 kw_1460 ks_65 kw_13 kw_1461 (by decide +kernel) ⟨Nat.le_of_ble_eq_true rfl, Nat.le_of_ble_eq_true rfl⟩ (x_recv (ci := 12) hkb hH 1 rfl rfl) rfl rfl hl.1 (Nat.le_of_ble_eq_true rfl) dX12_isOpen_2 ⟨Nat.le_of_ble_eq_true rfl, Nat.le_of_ble_eq_true rfl⟩) (fun v2 u H locs hz9 hH hS => ?_)
  obtain ⟨rfl, l_v2, u_v2⟩ := hz9
  have hH : HT D cs A T (y1 :: a0 :: O) ((y1, .inl (cs.2.1, 3906, .inl f1)) :: (a0, .inr (12, o0 :: (.ref y1) :: o2 :: o3 :: o4 :: o5 :: o6 :: o7 :: o8 :: o9 :: o10 :: o11 :: o12 :: o13 :: o14 :: (.ref y15) :: (.int y16) :: tl)) :: X) H := hH
  refine W.widen (k := 0) (n := 0) (Nat.le_of_ble_eq_true rfl) (Nat.le_of_ble_eq_true rfl) ?_
  have J26 : ∀ (k26_0 : Int32) (H : Heap) (locs : List Loc) (ls : Array Slot), (0 ≤ k26_0.toInt) → (k26_0.toInt ≤ 1) → HT D cs A T (y1 :: a0 :: O) ((y1, .inl (cs.2.1, 3906, .inl f1)) :: (a0, .inr (12, o0 :: (.ref y1) :: o2 :: o3 :: o4 :: o5 :: o6 :: o7 :: o8 :: o9 :: o10 :: o11 :: o12 :: o13 :: o14 :: (.ref y15) :: (.int y16) :: tl)) :: X) H → va_S A s.heap H locs → lv_has ls 2 [] → W p l e { frames := 2, cells := 0, slots := 0, locals := 43 } s m [.ref a0, .int x1].toArray below meth c H locs 0 0 (MQ below (Ti D cs (fun r u => u = (T, y1 :: a0 :: O, (y1, .inl (cs.2.1, 3906, .inl f1)) :: (a0, .inr (12, o0 :: (.ref y1) :: o2 :: o3 :: o4 :: o5 :: o6 :: o7 :: o8 :: o9 :: o10 :: o11 :: o12 :: o13 :: o14 :: (.ref y15) :: (.int y16) :: tl)) :: X) ∧ 0 ≤ r.toInt ∧ r.toInt ≤ 1) A) [.ref a0, .int x1].toArray s 0 0 A) (F0 m 26 ls [.int k26_0]) := by
    intro k26_0 H locs ls l_k26_0 u_k26_0 hH hS hl
    exact te_z hx hb hr hlocks (nar01 (by omega) (by omega)) hH hS (⟨rfl, by omega, by omega⟩) dX12_isOpen_26
  have J25 : ∀  (H : Heap) (locs : List Loc) (ls : Array Slot), HT D cs A T (y1 :: a0 :: O) ((y1, .inl (cs.2.1, 3906, .inl f1)) :: (a0, .inr (12, o0 :: (.ref y1) :: o2 :: o3 :: o4 :: o5 :: o6 :: o7 :: o8 :: o9 :: o10 :: o11 :: o12 :: o13 :: o14 :: (.ref y15) :: (.int y16) :: tl)) :: X) H → va_S A s.heap H locs → lv_has ls 2 [] → W p l e { frames := 2, cells := 0, slots := 0, locals := 43 } s m [.ref a0, .int x1].toArray below meth c H locs 0 0 (MQ below (Ti D cs (fun r u => u = (T, y1 :: a0 :: O, (y1, .inl (cs.2.1, 3906, .inl f1)) :: (a0, .inr (12, o0 :: (.ref y1) :: o2 :: o3 :: o4 :: o5 :: o6 :: o7 :: o8 :: o9 :: o10 :: o11 :: o12 :: o13 :: o14 :: (.ref y15) :: (.int y16) :: tl)) :: X) ∧ 0 ≤ r.toInt ∧ r.toInt ≤ 1) A) [.ref a0, .int x1].toArray s 0 0 A) (F0 m 25 ls []) := by
    intro  H locs ls  hH hS hl
    refine lv_iconst (v := 0) hx hb dX12_isOpen_25 (by decide) ?_
    exact J26 0 _ _ _ (by decide) (by decide) hH hS (lv_sub hl [] rfl)
  refine lv_if_eq (tgt := 25) hx hb dX12_isOpen_5 (by decide) (fun c5 => ?_) (fun c5 => ?_)
  · skip
    have tc5 := f_eq (k := 0) (by decide) c5
    exact J25  _ _ _  hH hS (lv_sub hl [] rfl)
  · skip
    have tc5 := f_ne (k := 0) (by decide) c5
    refine lv_aload_n hx hb dX12_isOpen_8 rfl (lv_at hl 0 rfl) ?_
    refine x_getk (ci := 12) (C := RX12) (F := TX12) (N := 36) (v := .ref y1) hx hb hts uX12 hown hkb hH 1 rfl rfl 1 (by decide) rfl kw_1224 (fun _ h9 => h9) dX12_isOpen_9 ?_
    refine lv_bipush (v := 59) hx hb dX12_isOpen_12 (by decide) ?_
    refine lv_iload_n hx hb dX12_isOpen_14 rfl (lv_at hl 1 rfl) ?_
    refine lv_iadd hx hb dX12_isOpen_15 ?_
    refine lv_topi (fun v15 ev15 => ?_)
    have tv15 : v15.toInt = (59) + x1.toInt := by rw [ev15]; exact add_i (by decide : (59 : Int32).toInt = 59) rfl (by omega) (by omega)
    refine xa_ild hx hb hkb hH 0 rfl (by omega) (by omega) dX12_isOpen_16 ?_
    refine lv_topi (fun v16 ev16 => ?_)
    have tv16 : v16 = f1 v15.toInt.toNat := ev16
    refine lv_iconst (v := (-1)) hx hb dX12_isOpen_17 (by decide) ?_
    refine lv_icmp_ne (tgt := 25) hx hb dX12_isOpen_18 (by decide) (fun c18 => ?_) (fun c18 => ?_)
    · skip
      have tc18 := f_ne (k := -1) (by decide) c18
      exact J25  _ _ _  hH hS (lv_sub hl [] rfl)
    · skip
      have tc18 := f_eq (k := -1) (by decide) c18
      refine lv_iconst (v := 1) hx hb dX12_isOpen_21 (by decide) ?_
      refine lv_goto (tgt := 26) hx hb dX12_isOpen_22 (by decide) ?_
      exact J26 1 _ _ _ (by decide) (by decide) hH hS (lv_sub hl [] rfl)
set_option maxHeartbeats 4000000 in
set_option maxRecDepth 100000 in
theorem s_M_endsX (l : Launch) (D : va_G) (cs : CS) (kf : KF) (T : TF) (O : List Nat) (X : va_W) (a0 hg mq : Nat) (f1 : Nat → Int32) (o0 : Value) (y1 : Nat) (o2 : Value) (o3 : Value) (o4 : Value) (o5 : Value) (o6 : Value) (o7 : Value) (o8 : Value) (o9 : Value) (o10 : Value) (o11 : Value) (o12 : Value) (o13 : Value) (o14 : Value) (y15 : Nat) (y16 : Int32) (tl : List Value) (t_a0 : T a0 = some (22, hg, mq)) (b_hg : hg < 90) (s_f1 : B8 3906 f1) (g_f1 : f1 1 = nI (hg / 6) ∧ f1 2 = nI (hg % 6)) (t_y1 : T y1 = some (8, 3906, hg)) (t_y15 : T y15 = some (1, 900, 0)) (hO : okO T (y1 :: a0 :: O) []) : TK l D cs kf yX12_ends cX12_ends 1 (some (.int)) { frames := 0, cells := 0, slots := 0, locals := 0 } [.ref a0] T (y1 :: a0 :: O) ((y1, .inl (cs.2.1, 3906, .inl f1)) :: (a0, .inr (12, o0 :: (.ref y1) :: o2 :: o3 :: o4 :: o5 :: o6 :: o7 :: o8 :: o9 :: o10 :: o11 :: o12 :: o13 :: o14 :: (.ref y15) :: (.int y16) :: tl)) :: X) (Ti D cs (fun r u => u = (T, y1 :: a0 :: O, (y1, .inl (cs.2.1, 3906, .inl f1)) :: (a0, .inr (12, o0 :: (.ref y1) :: o2 :: o3 :: o4 :: o5 :: o6 :: o7 :: o8 :: o9 :: o10 :: o11 :: o12 :: o13 :: o14 :: (.ref y15) :: (.int y16) :: tl)) :: X) ∧ 0 ≤ r.toInt ∧ r.toInt ≤ 16383)) := by
  refine tk_of (by decide) (Nat.le_of_ble_eq_true rfl) (fun p e s m below meth c ls A H locs hx hb hr hml hown hts hlocks hnm hkb hH hS hA hOX hks hE hl => ?_)
  have hown : s.vm.findClass RX12 = some m.cls := hown
  have hl : lv_has ls 1 [(0, .ref a0)] := hl
  have hOXf := hOX
  refine lv_aload_n hx hb dX12_ends_0 rfl (lv_at hl 0 rfl) ?_
  refine x_getk (ci := 12) (C := RX12) (F := TX12) (N := 36) (v := .ref y1) hx hb hts uX12 hown hkb hH 1 rfl rfl 1 (by decide) rfl kw_1224 (fun _ h9 => h9) dX12_ends_1 ?_
  refine lv_iconst (v := 4) hx hb dX12_ends_4 (by decide) ?_
  refine xa_ild hx hb hkb hH 0 rfl (by decide) (by decide) dX12_ends_5 ?_
  refine lv_topi (fun v5 ev5 => ?_)
  have tv5 : v5 = f1 4 := by rw [ev5]; rfl
  have bv5 : 0 ≤ v5.toInt ∧ v5.toInt ≤ 16383 := by rw [ev5]; exact (s_f1.at (by decide) 4).2.2.1 (by decide)
  refine lv_aload_n hx hb dX12_ends_6 rfl (lv_at hl 0 rfl) ?_
  refine x_getk (ci := 12) (C := RX12) (F := TX12) (N := 36) (v := .ref y1) hx hb hts uX12 hown hkb hH 1 rfl rfl 1 (by decide) rfl kw_1224 (fun _ h9 => h9) dX12_ends_7 ?_
  refine lv_iconst (v := 5) hx hb dX12_ends_10 (by decide) ?_
  refine xa_ild hx hb hkb hH 0 rfl (by decide) (by decide) dX12_ends_11 ?_
  refine lv_topi (fun v11 ev11 => ?_)
  have tv11 : v11 = f1 5 := by rw [ev11]; rfl
  have bv11 : 0 ≤ v11.toInt ∧ v11.toInt ≤ 16383 := by rw [ev11]; exact (s_f1.at (by decide) 5).2.2.2.1 (by decide)
  refine lv_ior hx hb dX12_ends_12 ?_
  refine lv_topi (fun v12 ev12 => ?_)
  have tv12 : 0 ≤ v12.toInt ∧ v12.toInt < 16384 := by rw [ev12]; exact or_b 14 (by decide) (by omega) (by omega) (by omega) (by omega)
  exact te_i hx hb hr hlocks hH hS (⟨rfl, by omega, by omega⟩) dX12_ends_13
set_option maxHeartbeats 4000000 in
set_option maxRecDepth 100000 in
theorem s_M_mayStepX (l : Launch) (D : va_G) (cs : CS) (kf : KF) (T : TF) (O : List Nat) (X : va_W) (a0 hg mq : Nat) (x1 : Int32) (x2 : Int32) (x3 : Int32) (f1 : Nat → Int32) (o0 : Value) (y1 : Nat) (o2 : Value) (o3 : Value) (o4 : Value) (o5 : Value) (o6 : Value) (o7 : Value) (o8 : Value) (o9 : Value) (o10 : Value) (o11 : Value) (o12 : Value) (o13 : Value) (o14 : Value) (y15 : Nat) (y16 : Int32) (tl : List Value) (t_a0 : T a0 = some (22, hg, mq)) (b_hg : hg < 90) (l_x1 : 0 ≤ x1.toInt) (u_x1 : x1.toInt ≤ 4) (l_x2 : 0 ≤ x2.toInt) (u_x2 : x2.toInt ≤ 13) (l_x3 : 0 ≤ x3.toInt) (u_x3 : x3.toInt ≤ 13) (s_f1 : B8 3906 f1) (g_f1 : f1 1 = nI (hg / 6) ∧ f1 2 = nI (hg % 6)) (t_y1 : T y1 = some (8, 3906, hg)) (t_y15 : T y15 = some (1, 900, 0)) (hO : okO T (y1 :: a0 :: O) [1]) : TK l D cs kf yX12_mayStep cX12_mayStep 7 (some (.boolean)) { frames := 2, cells := 0, slots := 0, locals := 48 } [.ref a0, .int x1, .int x2, .int x3] T (y1 :: a0 :: O) ((y1, .inl (cs.2.1, 3906, .inl f1)) :: (a0, .inr (12, o0 :: (.ref y1) :: o2 :: o3 :: o4 :: o5 :: o6 :: o7 :: o8 :: o9 :: o10 :: o11 :: o12 :: o13 :: o14 :: (.ref y15) :: (.int y16) :: tl)) :: X) (Ti D cs (fun r u => u = (T, y1 :: a0 :: O, (y1, .inl (cs.2.1, 3906, .inl f1)) :: (a0, .inr (12, o0 :: (.ref y1) :: o2 :: o3 :: o4 :: o5 :: o6 :: o7 :: o8 :: o9 :: o10 :: o11 :: o12 :: o13 :: o14 :: (.ref y15) :: (.int y16) :: tl)) :: X) ∧ 0 ≤ r.toInt ∧ r.toInt ≤ 1)) := by
  refine tk_of (by decide) (Nat.le_of_ble_eq_true rfl) (fun p e s m below meth c ls A H locs hx hb hr hml hown hts hlocks hnm hkb hH hS hA hOX hks hE hl => ?_)
  have hown : s.vm.findClass RX12 = some m.cls := hown
  have hl : lv_has ls 7 [(0, .ref a0), (1, .int x1), (2, .int x2), (3, .int x3)] := hl
  have hOXf := hOX
  refine lv_aload_n hx hb dX12_mayStep_0 rfl (lv_at hl 0 rfl) ?_
  refine x_getk (ci := 12) (C := RX12) (F := TX12) (N := 36) (v := .ref y1) hx hb hts uX12 hown hkb hH 1 rfl rfl 1 (by decide) rfl kw_1224 (fun _ h9 => h9) dX12_mayStep_1 ?_
  refine lv_iconst (v := 3) hx hb dX12_mayStep_4 (by decide) ?_
  refine xa_ild hx hb hkb hH 0 rfl (by decide) (by decide) dX12_mayStep_5 ?_
  refine lv_topi (fun v5 ev5 => ?_)
  have tv5 : v5 = f1 3 := by rw [ev5]; rfl
  refine lv_if_ne (tgt := 30) hx hb dX12_mayStep_6 (by decide) (fun c6 => ?_) (fun c6 => ?_)
  · skip
    have tc6 := f_ne (k := 0) (by decide) c6
    refine lv_iconst (v := 0) hx hb dX12_mayStep_30 (by decide) ?_
    refine lv_istore (lv' := [(4, .int 0), (0, .ref a0), (1, .int x1), (2, .int x2), (3, .int x3)]) hx hb dX12_mayStep_31 hl (by decide) rfl (fun ls hl => ?_)
    refine lv_iconst (v := 0) hx hb dX12_mayStep_33 (by decide) ?_
    have J36 : ∀ (n : Nat) (p36_5 : Int32) (p36_4 : Int32) (H : Heap) (locs : List Loc) (ls : Array Slot), (900 - p36_5.toInt).toNat = n → (0 ≤ p36_5.toInt) → (p36_5.toInt ≤ 900) → (0 ≤ p36_4.toInt) → (p36_4.toInt ≤ 900) → (p36_4.toInt = dpn f1 p36_5.toInt.toNat) → HT D cs A T (y1 :: a0 :: O) ((y1, .inl (cs.2.1, 3906, .inl f1)) :: (a0, .inr (12, o0 :: (.ref y1) :: o2 :: o3 :: o4 :: o5 :: o6 :: o7 :: o8 :: o9 :: o10 :: o11 :: o12 :: o13 :: o14 :: (.ref y15) :: (.int y16) :: tl)) :: X) H → va_S A s.heap H locs → lv_has ls 7 [(5, .int p36_5), (4, .int p36_4), (0, .ref a0), (1, .int x1), (2, .int x2), (3, .int x3)] → W p l e { frames := 2, cells := 0, slots := 0, locals := 48 } s m [.ref a0, .int x1, .int x2, .int x3].toArray below meth c H locs 0 0 (MQ below (Ti D cs (fun r u => u = (T, y1 :: a0 :: O, (y1, .inl (cs.2.1, 3906, .inl f1)) :: (a0, .inr (12, o0 :: (.ref y1) :: o2 :: o3 :: o4 :: o5 :: o6 :: o7 :: o8 :: o9 :: o10 :: o11 :: o12 :: o13 :: o14 :: (.ref y15) :: (.int y16) :: tl)) :: X) ∧ 0 ≤ r.toInt ∧ r.toInt ≤ 1) A) [.ref a0, .int x1, .int x2, .int x3].toArray s 0 0 A) (F0 m 36 ls []) := by
      intro n
      induction n using Nat.strongRecOn with
      | _ n ih36 =>
        intro p36_5 p36_4 H locs ls hm36 l_p36_5 u_p36_5 l_p36_4 u_p36_4 i36 hH hS hl
        refine lv_iload hx hb dX12_mayStep_36 (lv_at hl 0 rfl) ?_
        refine lv_aload_n hx hb dX12_mayStep_38 rfl (lv_at hl 2 rfl) ?_
        refine x_getk (ci := 12) (C := RX12) (F := TX12) (N := 36) (v := .ref y1) hx hb hts uX12 hown hkb hH 1 rfl rfl 1 (by decide) rfl kw_1224 (fun _ h9 => h9) dX12_mayStep_39 ?_
        refine lv_sipush (v := 401) hx hb dX12_mayStep_42 (by decide) ?_
        refine xa_ild hx hb hkb hH 0 rfl (by decide) (by decide) dX12_mayStep_45 ?_
        refine lv_topi (fun v45 ev45 => ?_)
        have tv45 : v45 = f1 401 := by rw [ev45]; rfl
        have bv45 : 0 ≤ v45.toInt ∧ v45.toInt ≤ 900 := by rw [ev45]; exact (s_f1.at (by decide) 401).2.2.2.2.2.2 (by decide)
        refine lv_icmp_ge (tgt := 179) hx hb dX12_mayStep_46 (by decide) (fun c46 => ?_) (fun c46 => ?_)
        · skip
          have fuc46 := full_i p36_5
          have fvc46 := full_i v45
          have tc46 := g_le c46
          refine lv_aload_n hx hb dX12_mayStep_179 rfl (lv_at hl 2 rfl) ?_
          refine x_getk (ci := 12) (C := RX12) (F := TX12) (N := 36) (v := .ref y15) hx hb hts uX12 hown hkb hH 1 rfl rfl 15 (by decide) rfl kw_1238 (fun _ h9 => h9) dX12_mayStep_180 ?_
          refine lv_iconst (v := 0) hx hb dX12_mayStep_183 (by decide) ?_
          refine t_ild hx hb hkb hH t_y15 (hO.no t_y15 (by decide)) (by decide) (by decide) dX12_mayStep_184 (fun v184 h9 => ?_)
          refine lv_iconst (v := 1) hx hb dX12_mayStep_185 (by decide) ?_
          have J194 : ∀ (k194_0 : Int32) (H : Heap) (locs : List Loc) (ls : Array Slot), (0 ≤ k194_0.toInt) → (k194_0.toInt ≤ 1) → HT D cs A T (y1 :: a0 :: O) ((y1, .inl (cs.2.1, 3906, .inl f1)) :: (a0, .inr (12, o0 :: (.ref y1) :: o2 :: o3 :: o4 :: o5 :: o6 :: o7 :: o8 :: o9 :: o10 :: o11 :: o12 :: o13 :: o14 :: (.ref y15) :: (.int y16) :: tl)) :: X) H → va_S A s.heap H locs → lv_has ls 7 [] → W p l e { frames := 2, cells := 0, slots := 0, locals := 48 } s m [.ref a0, .int x1, .int x2, .int x3].toArray below meth c H locs 0 0 (MQ below (Ti D cs (fun r u => u = (T, y1 :: a0 :: O, (y1, .inl (cs.2.1, 3906, .inl f1)) :: (a0, .inr (12, o0 :: (.ref y1) :: o2 :: o3 :: o4 :: o5 :: o6 :: o7 :: o8 :: o9 :: o10 :: o11 :: o12 :: o13 :: o14 :: (.ref y15) :: (.int y16) :: tl)) :: X) ∧ 0 ≤ r.toInt ∧ r.toInt ≤ 1) A) [.ref a0, .int x1, .int x2, .int x3].toArray s 0 0 A) (F0 m 194 ls [.int k194_0]) := by
            intro k194_0 H locs ls l_k194_0 u_k194_0 hH hS hl
            exact te_z hx hb hr hlocks (nar01 (by omega) (by omega)) hH hS (⟨rfl, by omega, by omega⟩) dX12_mayStep_194
          refine lv_icmp_ne (tgt := 193) hx hb dX12_mayStep_186 (by decide) (fun c186 => ?_) (fun c186 => ?_)
          · skip
            have tc186 := f_ne (k := 1) (by decide) c186
            refine lv_iconst (v := 0) hx hb dX12_mayStep_193 (by decide) ?_
            exact J194 0 _ _ _ (by decide) (by decide) hH hS (lv_sub hl [] rfl)
          · skip
            have tc186 := f_eq (k := 1) (by decide) c186
            refine lv_iconst (v := 1) hx hb dX12_mayStep_189 (by decide) ?_
            refine lv_goto (tgt := 194) hx hb dX12_mayStep_190 (by decide) ?_
            exact J194 1 _ _ _ (by decide) (by decide) hH hS (lv_sub hl [] rfl)
        · skip
          have fuc46 := full_i p36_5
          have fvc46 := full_i v45
          have tc46 := g_nle c46
          refine lv_aload_n hx hb dX12_mayStep_49 rfl (lv_at hl 2 rfl) ?_
          refine x_getk (ci := 12) (C := RX12) (F := TX12) (N := 36) (v := .ref y1) hx hb hts uX12 hown hkb hH 1 rfl rfl 1 (by decide) rfl kw_1224 (fun _ h9 => h9) dX12_mayStep_50 ?_
          refine lv_sipush (v := 402) hx hb dX12_mayStep_53 (by decide) ?_
          refine lv_iload hx hb dX12_mayStep_56 (lv_at hl 0 rfl) ?_
          refine lv_iadd hx hb dX12_mayStep_58 ?_
          refine lv_topi (fun v58 ev58 => ?_)
          have tv58 : v58.toInt = (402) + p36_5.toInt := by rw [ev58]; exact add_i (by decide : (402 : Int32).toInt = 402) rfl (by omega) (by omega)
          refine xa_ild hx hb hkb hH 0 rfl (by omega) (by omega) dX12_mayStep_59 ?_
          refine lv_topi (fun v59 ev59 => ?_)
          have tv59 : v59 = f1 v58.toInt.toNat := ev59
          refine lv_istore (lv' := [(6, .int v59), (5, .int p36_5), (4, .int p36_4), (0, .ref a0), (1, .int x1), (2, .int x2), (3, .int x3)]) hx hb dX12_mayStep_60 hl (by decide) rfl (fun ls hl => ?_)
          have hc59 : v59 = f1 (402 + p36_5.toInt.toNat) := by rw [tv59, show v58.toInt.toNat = 402 + p36_5.toInt.toNat by omega]
          have hw9 := dpn_at s_f1.first (by omega) tv45 (by omega) hc59
          refine lv_iload hx hb dX12_mayStep_62 (lv_at hl 0 rfl) ?_
          refine lv_sipush (v := 3000) hx hb dX12_mayStep_64 (by decide) ?_
          refine lv_icmp_ge (tgt := 109) hx hb dX12_mayStep_67 (by decide) (fun c67 => ?_) (fun c67 => ?_)
          · skip
            have tc67 := f_ge (k := 3000) (by decide) c67
            refine lv_iload hx hb dX12_mayStep_109 (lv_at hl 0 rfl) ?_
            refine lv_sipush (v := 3008) hx hb dX12_mayStep_111 (by decide) ?_
            refine lv_icmp_ne (tgt := 140) hx hb dX12_mayStep_114 (by decide) (fun c114 => ?_) (fun c114 => ?_)
            · skip
              have tc114 := f_ne (k := 3008) (by decide) c114
              obtain ⟨v140, ev140⟩ : ∃ y : Int32, y = p36_4 + (-1) := ⟨_, rfl⟩
              have tv140 : v140.toInt = p36_4.toInt + (-1) := by rw [ev140]; exact add_i rfl (by decide) (by omega) (by omega)
              refine lv_iinc (v := v140) (lv' := [(4, .int v140), (6, .int v59), (5, .int p36_5), (0, .ref a0), (1, .int x1), (2, .int x2), (3, .int x3)]) hx hb dX12_mayStep_140 hl (k := 2) rfl (by rw [ev140]; rfl) (by decide) rfl (fun ls hl => ?_)
              refine lv_aload_n hx hb dX12_mayStep_143 rfl (lv_at hl 3 rfl) ?_
              refine x_getk (ci := 12) (C := RX12) (F := TX12) (N := 36) (v := .ref y15) hx hb hts uX12 hown hkb hH 1 rfl rfl 15 (by decide) rfl kw_1238 (fun _ h9 => h9) dX12_mayStep_144 ?_
              refine lv_iload hx hb dX12_mayStep_147 (lv_at hl 0 rfl) ?_
              refine lv_iconst (v := 1) hx hb dX12_mayStep_149 (by decide) ?_
              refine lv_isub hx hb dX12_mayStep_150 ?_
              refine lv_topi (fun v150 ev150 => ?_)
              have tv150 : v150.toInt = v140.toInt - (1) := by rw [ev150]; exact sub_i rfl (by decide : (1 : Int32).toInt = 1) (by omega) (by omega)
              refine lv_iload hx hb dX12_mayStep_151 (lv_at hl 1 rfl) ?_
              refine lv_aload_n hx hb dX12_mayStep_153 rfl (lv_at hl 3 rfl) ?_
              refine x_getk (ci := 12) (C := RX12) (F := TX12) (N := 36) (v := .ref y15) hx hb hts uX12 hown hkb hH 1 rfl rfl 15 (by decide) rfl kw_1238 (fun _ h9 => h9) dX12_mayStep_154 ?_
              refine lv_iload hx hb dX12_mayStep_157 (lv_at hl 0 rfl) ?_
              refine lv_iconst (v := 1) hx hb dX12_mayStep_159 (by decide) ?_
              refine lv_isub hx hb dX12_mayStep_160 ?_
              refine lv_topi (fun v160 ev160 => ?_)
              have tv160 : v160.toInt = v140.toInt - (1) := by rw [ev160]; exact sub_i rfl (by decide : (1 : Int32).toInt = 1) (by omega) (by omega)
              refine t_ild hx hb hkb hH t_y15 (hO.no t_y15 (by decide)) (by omega) (by omega) dX12_mayStep_161 (fun v161 h9 => ?_)
              refine lv_aload_n hx hb dX12_mayStep_162 rfl (lv_at hl 3 rfl) ?_
              refine x_getk (ci := 12) (C := RX12) (F := TX12) (N := 36) (v := .ref y15) hx hb hts uX12 hown hkb hH 1 rfl rfl 15 (by decide) rfl kw_1238 (fun _ h9 => h9) dX12_mayStep_163 ?_
              refine lv_iload hx hb dX12_mayStep_166 (lv_at hl 0 rfl) ?_
              refine t_ild hx hb hkb hH t_y15 (hO.no t_y15 (by decide)) (by omega) (by omega) dX12_mayStep_168 (fun v168 h9 => ?_)
              refine tk_i hH hS hA (tr_S (n := 3) (As := [.int v59, .int v161, .int v168]) hx hb hml hown hts hkb hH (ox_map hOX rfl) hks hE hS hA (s_M_between l D cs kf T (y1 :: a0 :: O) ((y1, .inl (cs.2.1, 3906, .inl f1)) :: (a0, .inr (12, o0 :: (.ref y1) :: o2 :: o3 :: o4 :: o5 :: o6 :: o7 :: o8 :: o9 :: o10 :: o11 :: o12 :: o13 :: o14 :: (.ref y15) :: (.int y16) :: tl)) :: X) v59 v161 v168  (hO.sub (by decide))) kw_1493 kw_1494 kw_13 kw_1495 (by decide +kernel) ⟨Nat.le_of_ble_eq_true rfl, Nat.le_of_ble_eq_true rfl⟩ rfl rfl hl.1 (Nat.le_of_ble_eq_true rfl) dX12_mayStep_169 ⟨Nat.le_of_ble_eq_true rfl, Nat.le_of_ble_eq_true rfl⟩) (fun v169 u H locs hz9 hH hS => ?_)
              have hz9 : u = (T, y1 :: a0 :: O, (y1, .inl (cs.2.1, 3906, .inl f1)) :: (a0, .inr (12, o0 :: (.ref y1) :: o2 :: o3 :: o4 :: o5 :: o6 :: o7 :: o8 :: o9 :: o10 :: o11 :: o12 :: o13 :: o14 :: (.ref y15) :: (.int y16) :: tl)) :: X) := hz9
              subst hz9
              have hH : HT D cs A T (y1 :: a0 :: O) ((y1, .inl (cs.2.1, 3906, .inl f1)) :: (a0, .inr (12, o0 :: (.ref y1) :: o2 :: o3 :: o4 :: o5 :: o6 :: o7 :: o8 :: o9 :: o10 :: o11 :: o12 :: o13 :: o14 :: (.ref y15) :: (.int y16) :: tl)) :: X) H := hH
              refine W.widen (k := 0) (n := 0) (Nat.le_of_ble_eq_true rfl) (Nat.le_of_ble_eq_true rfl) ?_
              refine t_ist hx hb hkb hH hS t_y15 (hO.no t_y15 (by decide)) (by omega) (by omega) (cp_0 _) dX12_mayStep_172 (fun H locs hH hS => ?_)
              obtain ⟨v173, ev173⟩ : ∃ y : Int32, y = p36_5 + 1 := ⟨_, rfl⟩
              have tv173 : v173.toInt = p36_5.toInt + (1) := by rw [ev173]; exact add_i rfl (by decide) (by omega) (by omega)
              refine lv_iinc (v := v173) (lv' := [(5, .int v173), (4, .int v140), (6, .int v59), (0, .ref a0), (1, .int x1), (2, .int x2), (3, .int x3)]) hx hb dX12_mayStep_173 hl (k := 2) rfl (by rw [ev173]; rfl) (by decide) rfl (fun ls hl => ?_)
              have hd9 := dpn_step (by omega) tv173 hc59
              refine lv_goto (tgt := 36) hx hb dX12_mayStep_176 (by decide) ?_
              exact ih36 _ (by omega) v173 v140 _ _ _ rfl (by omega) (by omega) (by omega) (by omega) (by first | omega | rfl) hH hS (lv_sub hl [0, 1, 3, 4, 5, 6] rfl)
            · skip
              have tc114 := f_eq (k := 3008) (by decide) c114
              refine lv_aload_n hx hb dX12_mayStep_117 rfl (lv_at hl 3 rfl) ?_
              refine x_getk (ci := 12) (C := RX12) (F := TX12) (N := 36) (v := .ref y15) hx hb hts uX12 hown hkb hH 1 rfl rfl 15 (by decide) rfl kw_1238 (fun _ h9 => h9) dX12_mayStep_118 ?_
              refine lv_iload hx hb dX12_mayStep_121 (lv_at hl 2 rfl) ?_
              refine lv_iconst (v := 1) hx hb dX12_mayStep_123 (by decide) ?_
              refine lv_isub hx hb dX12_mayStep_124 ?_
              refine lv_topi (fun v124 ev124 => ?_)
              have tv124 : v124.toInt = p36_4.toInt - (1) := by rw [ev124]; exact sub_i rfl (by decide : (1 : Int32).toInt = 1) (by omega) (by omega)
              refine lv_iconst (v := 1) hx hb dX12_mayStep_125 (by decide) ?_
              refine lv_aload_n hx hb dX12_mayStep_126 rfl (lv_at hl 3 rfl) ?_
              refine x_getk (ci := 12) (C := RX12) (F := TX12) (N := 36) (v := .ref y15) hx hb hts uX12 hown hkb hH 1 rfl rfl 15 (by decide) rfl kw_1238 (fun _ h9 => h9) dX12_mayStep_127 ?_
              refine lv_iload hx hb dX12_mayStep_130 (lv_at hl 2 rfl) ?_
              refine lv_iconst (v := 1) hx hb dX12_mayStep_132 (by decide) ?_
              refine lv_isub hx hb dX12_mayStep_133 ?_
              refine lv_topi (fun v133 ev133 => ?_)
              have tv133 : v133.toInt = p36_4.toInt - (1) := by rw [ev133]; exact sub_i rfl (by decide : (1 : Int32).toInt = 1) (by omega) (by omega)
              refine t_ild hx hb hkb hH t_y15 (hO.no t_y15 (by decide)) (by omega) (by omega) dX12_mayStep_134 (fun v134 h9 => ?_)
              refine lv_isub hx hb dX12_mayStep_135 ?_
              refine lv_topi (fun v135 ev135 => ?_)
              refine t_ist hx hb hkb hH hS t_y15 (hO.no t_y15 (by decide)) (by omega) (by omega) (cp_0 _) dX12_mayStep_136 (fun H locs hH hS => ?_)
              refine lv_goto (tgt := 173) hx hb dX12_mayStep_137 (by decide) ?_
              obtain ⟨v173, ev173⟩ : ∃ y : Int32, y = p36_5 + 1 := ⟨_, rfl⟩
              have tv173 : v173.toInt = p36_5.toInt + (1) := by rw [ev173]; exact add_i rfl (by decide) (by omega) (by omega)
              refine lv_iinc (v := v173) (lv' := [(5, .int v173), (6, .int v59), (4, .int p36_4), (0, .ref a0), (1, .int x1), (2, .int x2), (3, .int x3)]) hx hb dX12_mayStep_173 hl (k := 1) rfl (by rw [ev173]; rfl) (by decide) rfl (fun ls hl => ?_)
              have hd9 := dpn_step (by omega) tv173 hc59
              refine lv_goto (tgt := 36) hx hb dX12_mayStep_176 (by decide) ?_
              exact ih36 _ (by omega) v173 p36_4 _ _ _ rfl (by omega) (by omega) (by omega) (by omega) (by first | omega | rfl) hH hS (lv_sub hl [0, 2, 3, 4, 5, 6] rfl)
          · skip
            have tc67 := f_nge (k := 3000) (by decide) c67
            refine lv_aload_n hx hb dX12_mayStep_70 rfl (lv_at hl 3 rfl) ?_
            refine x_getk (ci := 12) (C := RX12) (F := TX12) (N := 36) (v := .ref y15) hx hb hts uX12 hown hkb hH 1 rfl rfl 15 (by decide) rfl kw_1238 (fun _ h9 => h9) dX12_mayStep_71 ?_
            refine lv_iload hx hb dX12_mayStep_74 (lv_at hl 2 rfl) ?_
            refine lv_iload hx hb dX12_mayStep_76 (lv_at hl 0 rfl) ?_
            refine lv_sipush (v := 1000) hx hb dX12_mayStep_78 (by decide) ?_
            have J102 : ∀ (k102_0 : Int32) (H : Heap) (locs : List Loc) (ls : Array Slot), HT D cs A T (y1 :: a0 :: O) ((y1, .inl (cs.2.1, 3906, .inl f1)) :: (a0, .inr (12, o0 :: (.ref y1) :: o2 :: o3 :: o4 :: o5 :: o6 :: o7 :: o8 :: o9 :: o10 :: o11 :: o12 :: o13 :: o14 :: (.ref y15) :: (.int y16) :: tl)) :: X) H → va_S A s.heap H locs → lv_has ls 7 [(5, .int p36_5), (4, .int p36_4), (0, .ref a0), (1, .int x1), (2, .int x2), (3, .int x3)] → W p l e { frames := 2, cells := 0, slots := 0, locals := 48 } s m [.ref a0, .int x1, .int x2, .int x3].toArray below meth c H locs 0 0 (MQ below (Ti D cs (fun r u => u = (T, y1 :: a0 :: O, (y1, .inl (cs.2.1, 3906, .inl f1)) :: (a0, .inr (12, o0 :: (.ref y1) :: o2 :: o3 :: o4 :: o5 :: o6 :: o7 :: o8 :: o9 :: o10 :: o11 :: o12 :: o13 :: o14 :: (.ref y15) :: (.int y16) :: tl)) :: X) ∧ 0 ≤ r.toInt ∧ r.toInt ≤ 1) A) [.ref a0, .int x1, .int x2, .int x3].toArray s 0 0 A) (F0 m 102 ls [.int k102_0, .int p36_4, .ref y15]) := by
              intro k102_0 H locs ls  hH hS hl
              refine t_ist hx hb hkb hH hS t_y15 (hO.no t_y15 (by decide)) (by omega) (by omega) (cp_0 _) dX12_mayStep_102 (fun H locs hH hS => ?_)
              obtain ⟨v103, ev103⟩ : ∃ y : Int32, y = p36_4 + 1 := ⟨_, rfl⟩
              have tv103 : v103.toInt = p36_4.toInt + (1) := by rw [ev103]; exact add_i rfl (by decide) (by omega) (by omega)
              refine lv_iinc (v := v103) (lv' := [(4, .int v103), (5, .int p36_5), (0, .ref a0), (1, .int x1), (2, .int x2), (3, .int x3)]) hx hb dX12_mayStep_103 hl (k := 1) rfl (by rw [ev103]; rfl) (by decide) rfl (fun ls hl => ?_)
              refine lv_goto (tgt := 173) hx hb dX12_mayStep_106 (by decide) ?_
              obtain ⟨v173, ev173⟩ : ∃ y : Int32, y = p36_5 + 1 := ⟨_, rfl⟩
              have tv173 : v173.toInt = p36_5.toInt + (1) := by rw [ev173]; exact add_i rfl (by decide) (by omega) (by omega)
              refine lv_iinc (v := v173) (lv' := [(5, .int v173), (4, .int v103), (0, .ref a0), (1, .int x1), (2, .int x2), (3, .int x3)]) hx hb dX12_mayStep_173 hl (k := 1) rfl (by rw [ev173]; rfl) (by decide) rfl (fun ls hl => ?_)
              have hd9 := dpn_step (by omega) tv173 hc59
              refine lv_goto (tgt := 36) hx hb dX12_mayStep_176 (by decide) ?_
              exact ih36 _ (by omega) v173 v103 _ _ _ rfl (by omega) (by omega) (by omega) (by omega) (by first | omega | rfl) hH hS (lv_sub hl [0, 1, 2, 3, 4, 5] rfl)
            refine lv_icmp_ge (tgt := 89) hx hb dX12_mayStep_81 (by decide) (fun c81 => ?_) (fun c81 => ?_)
            · skip
              have tc81 := f_ge (k := 1000) (by decide) c81
              refine lv_aload_n hx hb dX12_mayStep_89 rfl (lv_at hl 3 rfl) ?_
              refine lv_iload hx hb dX12_mayStep_90 (lv_at hl 0 rfl) ?_
              refine lv_sipush (v := 1000) hx hb dX12_mayStep_92 (by decide) ?_
              refine lv_isub hx hb dX12_mayStep_95 ?_
              refine lv_topi (fun v95 ev95 => ?_)
              have tv95 : v95.toInt = v59.toInt - (1000) := by rw [ev95]; exact sub_i rfl (by decide : (1000 : Int32).toInt = 1000) (by omega) (by omega)
              refine lv_iload_n hx hb dX12_mayStep_96 rfl (lv_at hl 4 rfl) ?_
              refine lv_iload_n hx hb dX12_mayStep_97 rfl (lv_at hl 5 rfl) ?_
              refine lv_iload_n hx hb dX12_mayStep_98 rfl (lv_at hl 6 rfl) ?_
              refine tk_i hH hS hA (tr_V (n := 4) (As := [.int v95, .int x1, .int x2, .int x3]) hx hb hml hown hts hkb hH (ox_map hOX rfl) hks hE hS hA (s_M_wordOf l D cs kf T O X a0 hg mq v95 x1 x2 x3 f1 o0 y1 o2 o3 o4 o5 o6 o7 o8 o9 o10 o11 o12 o13 o14 y15 y16 tl t_a0 b_hg (by omega) (by omega) (by omega) (by omega) (by omega) (by omega) s_f1 g_f1 t_y1 t_y15 (hO.sub (by decide))) kw_1486 kw_1488 ks_70 kw_13 kw_1489 (by decide +kernel) ⟨Nat.le_of_ble_eq_true rfl, Nat.le_of_ble_eq_true rfl⟩ (x_recv (ci := 12) hkb hH 1 rfl rfl) rfl rfl hl.1 (Nat.le_of_ble_eq_true rfl) dX12_mayStep_99 ⟨Nat.le_of_ble_eq_true rfl, Nat.le_of_ble_eq_true rfl⟩) (fun v99 u H locs hz9 hH hS => ?_)
              obtain ⟨rfl⟩ := hz9
              have hH : HT D cs A T (y1 :: a0 :: O) ((y1, .inl (cs.2.1, 3906, .inl f1)) :: (a0, .inr (12, o0 :: (.ref y1) :: o2 :: o3 :: o4 :: o5 :: o6 :: o7 :: o8 :: o9 :: o10 :: o11 :: o12 :: o13 :: o14 :: (.ref y15) :: (.int y16) :: tl)) :: X) H := hH
              refine W.widen (k := 0) (n := 0) (Nat.le_of_ble_eq_true rfl) (Nat.le_of_ble_eq_true rfl) ?_
              exact J102 v99 _ _ _  hH hS (lv_sub hl [1, 2, 3, 4, 5, 6] rfl)
            · skip
              have tc81 := f_nge (k := 1000) (by decide) c81
              refine lv_iload hx hb dX12_mayStep_84 (lv_at hl 0 rfl) ?_
              refine lv_goto (tgt := 102) hx hb dX12_mayStep_86 (by decide) ?_
              exact J102 v59 _ _ _  hH hS (lv_sub hl [1, 2, 3, 4, 5, 6] rfl)
    refine lv_istore (lv' := [(5, .int 0), (4, .int 0), (0, .ref a0), (1, .int x1), (2, .int x2), (3, .int x3)]) hx hb dX12_mayStep_34 hl (by decide) rfl (fun ls hl => ?_)
    have z_0 : (0 : Int32).toInt = 0 := by decide
    exact J36 _ 0 0 _ _ _ rfl (by decide) (by decide) (by decide) (by decide) (by first | omega | rfl) hH hS (lv_sub hl [0, 1, 2, 3, 4, 5] rfl)
  · skip
    have tc6 := f_eq (k := 0) (by decide) c6
    refine lv_aload_n hx hb dX12_mayStep_9 rfl (lv_at hl 0 rfl) ?_
    refine lv_iconst (v := 2) hx hb dX12_mayStep_10 (by decide) ?_
    refine lv_iload_n hx hb dX12_mayStep_11 rfl (lv_at hl 1 rfl) ?_
    refine lv_iload_n hx hb dX12_mayStep_12 rfl (lv_at hl 2 rfl) ?_
    refine lv_iload_n hx hb dX12_mayStep_13 rfl (lv_at hl 3 rfl) ?_
    have z9_2 : (2 : Int32).toInt = 2 := by decide
    refine tk_i hH hS hA (tr_V (n := 4) (As := [.int 2, .int x1, .int x2, .int x3]) hx hb hml hown hts hkb hH (ox_map hOX rfl) hks hE hS hA (s_M_wordOf l D cs kf T O X a0 hg mq (2) x1 x2 x3 f1 o0 y1 o2 o3 o4 o5 o6 o7 o8 o9 o10 o11 o12 o13 o14 y15 y16 tl t_a0 b_hg (by omega) (by omega) (by omega) (by omega) (by omega) (by omega) s_f1 g_f1 t_y1 t_y15 (hO.sub (by decide))) kw_1486 kw_1488 ks_70 kw_13 kw_1489 (by decide +kernel) ⟨Nat.le_of_ble_eq_true rfl, Nat.le_of_ble_eq_true rfl⟩ (x_recv (ci := 12) hkb hH 1 rfl rfl) rfl rfl hl.1 (Nat.le_of_ble_eq_true rfl) dX12_mayStep_14 ⟨Nat.le_of_ble_eq_true rfl, Nat.le_of_ble_eq_true rfl⟩) (fun v14 u H locs hz9 hH hS => ?_)
    obtain ⟨rfl⟩ := hz9
    have hH : HT D cs A T (y1 :: a0 :: O) ((y1, .inl (cs.2.1, 3906, .inl f1)) :: (a0, .inr (12, o0 :: (.ref y1) :: o2 :: o3 :: o4 :: o5 :: o6 :: o7 :: o8 :: o9 :: o10 :: o11 :: o12 :: o13 :: o14 :: (.ref y15) :: (.int y16) :: tl)) :: X) H := hH
    refine W.widen (k := 0) (n := 0) (Nat.le_of_ble_eq_true rfl) (Nat.le_of_ble_eq_true rfl) ?_
    refine lv_aload_n hx hb dX12_mayStep_17 rfl (lv_at hl 0 rfl) ?_
    refine x_getk (ci := 12) (C := RX12) (F := TX12) (N := 36) (v := .int y16) hx hb hts uX12 hown hkb hH 1 rfl rfl 16 (by decide) rfl kw_1239 (fun _ h9 => h9) dX12_mayStep_18 ?_
    have J29 : ∀ (k29_0 : Int32) (H : Heap) (locs : List Loc) (ls : Array Slot), (0 ≤ k29_0.toInt) → (k29_0.toInt ≤ 1) → HT D cs A T (y1 :: a0 :: O) ((y1, .inl (cs.2.1, 3906, .inl f1)) :: (a0, .inr (12, o0 :: (.ref y1) :: o2 :: o3 :: o4 :: o5 :: o6 :: o7 :: o8 :: o9 :: o10 :: o11 :: o12 :: o13 :: o14 :: (.ref y15) :: (.int y16) :: tl)) :: X) H → va_S A s.heap H locs → lv_has ls 7 [] → W p l e { frames := 2, cells := 0, slots := 0, locals := 48 } s m [.ref a0, .int x1, .int x2, .int x3].toArray below meth c H locs 0 0 (MQ below (Ti D cs (fun r u => u = (T, y1 :: a0 :: O, (y1, .inl (cs.2.1, 3906, .inl f1)) :: (a0, .inr (12, o0 :: (.ref y1) :: o2 :: o3 :: o4 :: o5 :: o6 :: o7 :: o8 :: o9 :: o10 :: o11 :: o12 :: o13 :: o14 :: (.ref y15) :: (.int y16) :: tl)) :: X) ∧ 0 ≤ r.toInt ∧ r.toInt ≤ 1) A) [.ref a0, .int x1, .int x2, .int x3].toArray s 0 0 A) (F0 m 29 ls [.int k29_0]) := by
      intro k29_0 H locs ls l_k29_0 u_k29_0 hH hS hl
      exact te_z hx hb hr hlocks (nar01 (by omega) (by omega)) hH hS (⟨rfl, by omega, by omega⟩) dX12_mayStep_29
    refine lv_icmp_gt (tgt := 28) hx hb dX12_mayStep_21 (by decide) (fun c21 => ?_) (fun c21 => ?_)
    · skip
      have fuc21 := full_i v14
      have fvc21 := full_i y16
      have tc21 := g_lt c21
      refine lv_iconst (v := 0) hx hb dX12_mayStep_28 (by decide) ?_
      exact J29 0 _ _ _ (by decide) (by decide) hH hS (lv_sub hl [] rfl)
    · skip
      have fuc21 := full_i v14
      have fvc21 := full_i y16
      have tc21 := g_nlt c21
      refine lv_iconst (v := 1) hx hb dX12_mayStep_24 (by decide) ?_
      refine lv_goto (tgt := 29) hx hb dX12_mayStep_25 (by decide) ?_
      exact J29 1 _ _ _ (by decide) (by decide) hH hS (lv_sub hl [] rfl)
set_option maxHeartbeats 4000000 in
set_option maxRecDepth 100000 in
theorem s_M_whyNotX (l : Launch) (D : va_G) (cs : CS) (kf : KF) (T : TF) (O : List Nat) (X : va_W) (a0 hg mq : Nat) (x1 : Int32) (x2 : Int64) (x4 : Int32) (x5 : Int32) (f1 : Nat → Int32) (o0 : Value) (y1 : Nat) (o2 : Value) (o3 : Value) (o4 : Value) (o5 : Value) (o6 : Value) (o7 : Value) (o8 : Value) (o9 : Value) (o10 : Value) (o11 : Value) (o12 : Value) (o13 : Value) (o14 : Value) (y15 : Nat) (y16 : Int32) (tl : List Value) (t_a0 : T a0 = some (22, hg, mq)) (b_hg : hg < 90) (l_x1 : 0 ≤ x1.toInt) (u_x1 : x1.toInt ≤ 4) (l_x5 : -1 ≤ x5.toInt) (u_x5 : x5.toInt ≤ 13) (s_f1 : B8 3906 f1) (g_f1 : f1 1 = nI (hg / 6) ∧ f1 2 = nI (hg % 6)) (t_y1 : T y1 = some (8, 3906, hg)) (t_y15 : T y15 = some (1, 900, 0)) (hO : okO T (y1 :: a0 :: O) [1]) : TK l D cs kf yX12_whyNot cX12_whyNot 7 (some (.int)) { frames := 3, cells := 0, slots := 0, locals := 74 } [.ref a0, .int x1, .long x2, .int x4, .int x5] T (y1 :: a0 :: O) ((y1, .inl (cs.2.1, 3906, .inl f1)) :: (a0, .inr (12, o0 :: (.ref y1) :: o2 :: o3 :: o4 :: o5 :: o6 :: o7 :: o8 :: o9 :: o10 :: o11 :: o12 :: o13 :: o14 :: (.ref y15) :: (.int y16) :: tl)) :: X) (Ti D cs (fun r u => ∃ (n1_16 : Int32), u = (T, y1 :: a0 :: O, (y1, .inl (cs.2.1, 3906, .inl f1)) :: (a0, .inr (12, o0 :: (.ref y1) :: o2 :: o3 :: o4 :: o5 :: o6 :: o7 :: o8 :: o9 :: o10 :: o11 :: o12 :: o13 :: o14 :: (.ref y15) :: (.int n1_16) :: tl)) :: X) ∧ 0 ≤ r.toInt ∧ r.toInt ≤ 3 ∧ (r.toInt ≠ 0 ∨ (0 ≤ x2.toInt ∧ x2.toInt ≤ 13 ∧ inF x4.toInt64 x2.toInt32 ≠ 1)))) := by
  refine tk_of (by decide) (Nat.le_of_ble_eq_true rfl) (fun p e s m below meth c ls A H locs hx hb hr hml hown hts hlocks hnm hkb hH hS hA hOX hks hE hl => ?_)
  have hown : s.vm.findClass RX12 = some m.cls := hown
  have hl : lv_has ls 7 [(0, .ref a0), (1, .int x1), (2, .long x2), (4, .int x4), (5, .int x5)] := hl
  have hOXf := hOX
  refine lv_aload_n hx hb dX12_whyNot_0 rfl (lv_at hl 0 rfl) ?_
  refine lv_lload_n hx hb dX12_whyNot_1 rfl (lv_at hl 2 rfl) ?_
  refine tk_i hH hS hA (tr_V (n := 1) (As := [.long x2]) hx hb hml hown hts hkb hH (ox_map hOX rfl) hks hE hS hA (s_M_isHoldX l D cs kf T O X a0 hg mq x2 f1 o0 y1 o2 o3 o4 o5 o6 o7 o8 o9 o10 o11 o12 o13 o14 y15 y16 tl t_a0 b_hg s_f1 g_f1 t_y1 t_y15 (hO.sub (by decide))) kw_1454 kw_1456 ks_64 kw_13 kw_1457 (by decide +kernel) ⟨Nat.le_of_ble_eq_true rfl, Nat.le_of_ble_eq_true rfl⟩ (x_recv (ci := 12) hkb hH 1 rfl rfl) rfl rfl hl.1 (Nat.le_of_ble_eq_true rfl) dX12_whyNot_2 ⟨Nat.le_of_ble_eq_true rfl, Nat.le_of_ble_eq_true rfl⟩) (fun v2 u H locs hz9 hH hS => ?_)
  obtain ⟨rfl, l_v2, u_v2, x_v20⟩ := hz9
  have hH : HT D cs A T (y1 :: a0 :: O) ((y1, .inl (cs.2.1, 3906, .inl f1)) :: (a0, .inr (12, o0 :: (.ref y1) :: o2 :: o3 :: o4 :: o5 :: o6 :: o7 :: o8 :: o9 :: o10 :: o11 :: o12 :: o13 :: o14 :: (.ref y15) :: (.int y16) :: tl)) :: X) H := hH
  refine W.widen (k := 0) (n := 0) (Nat.le_of_ble_eq_true rfl) (Nat.le_of_ble_eq_true rfl) ?_
  refine lv_if_ne (tgt := 10) hx hb dX12_whyNot_5 (by decide) (fun c5 => ?_) (fun c5 => ?_)
  · skip
    have tc5 := f_ne (k := 0) (by decide) c5
    replace x_v20 := x_v20.resolve_left tc5
    refine lv_lload_n hx hb dX12_whyNot_10 rfl (lv_at hl 2 rfl) ?_
    refine lv_l2i hx hb dX12_whyNot_11 rfl ?_
    refine lv_topi (fun v11 ev11 => ?_)
    have tv11 : v11.toInt = x2.toInt := by rw [ev11]; exact l2i_b (by omega) (by omega)
    refine lv_istore (lv' := [(6, .int v11), (0, .ref a0), (1, .int x1), (2, .long x2), (4, .int x4), (5, .int x5)]) hx hb dX12_whyNot_12 hl (by decide) rfl (fun ls hl => ?_)
    refine lv_aload_n hx hb dX12_whyNot_14 rfl (lv_at hl 1 rfl) ?_
    refine lv_iload hx hb dX12_whyNot_15 (lv_at hl 0 rfl) ?_
    refine tk_i hH hS hA (tr_V (n := 1) (As := [.int v11]) hx hb hml hown hts hkb hH (ox_map hOX rfl) hks hE hS hA (s_M_isOpenX l D cs kf T O X a0 hg mq v11 f1 o0 y1 o2 o3 o4 o5 o6 o7 o8 o9 o10 o11 o12 o13 o14 y15 y16 tl t_a0 b_hg (by omega) (by omega) s_f1 g_f1 t_y1 t_y15 (hO.sub (by decide))) kw_1462 kw_1464 ks_66 kw_13 kw_1465 (by decide +kernel) ⟨Nat.le_of_ble_eq_true rfl, Nat.le_of_ble_eq_true rfl⟩ (x_recv (ci := 12) hkb hH 1 rfl rfl) rfl rfl hl.1 (Nat.le_of_ble_eq_true rfl) dX12_whyNot_17 ⟨Nat.le_of_ble_eq_true rfl, Nat.le_of_ble_eq_true rfl⟩) (fun v17 u H locs hz9 hH hS => ?_)
    obtain ⟨rfl, l_v17, u_v17⟩ := hz9
    have hH : HT D cs A T (y1 :: a0 :: O) ((y1, .inl (cs.2.1, 3906, .inl f1)) :: (a0, .inr (12, o0 :: (.ref y1) :: o2 :: o3 :: o4 :: o5 :: o6 :: o7 :: o8 :: o9 :: o10 :: o11 :: o12 :: o13 :: o14 :: (.ref y15) :: (.int y16) :: tl)) :: X) H := hH
    refine W.widen (k := 0) (n := 0) (Nat.le_of_ble_eq_true rfl) (Nat.le_of_ble_eq_true rfl) ?_
    refine lv_if_eq (tgt := 34) hx hb dX12_whyNot_20 (by decide) (fun c20 => ?_) (fun c20 => ?_)
    · skip
      have tc20 := f_eq (k := 0) (by decide) c20
      refine lv_iconst (v := 2) hx hb dX12_whyNot_34 (by decide) ?_
      have z9_2 : (2 : Int32).toInt = 2 := by decide
      exact te_i hx hb hr hlocks hH hS (⟨y16, rfl, by decide, by decide, (Or.inl (by decide))⟩) dX12_whyNot_35
    · skip
      have tc20 := f_ne (k := 0) (by decide) c20
      refine lv_iload hx hb dX12_whyNot_23 (lv_at hl 4 rfl) ?_
      refine lv_i2l hx hb dX12_whyNot_25 rfl ?_
      refine lv_iload hx hb dX12_whyNot_26 (lv_at hl 0 rfl) ?_
      refine tk_i hH hS hA (tr_S (n := 2) (As := [.long x4.toInt64, .int v11]) hx hb hml hown hts hkb hH (ox_map hOX rfl) hks hE hS hA (s_M_isIn2 l D cs kf T (y1 :: a0 :: O) ((y1, .inl (cs.2.1, 3906, .inl f1)) :: (a0, .inr (12, o0 :: (.ref y1) :: o2 :: o3 :: o4 :: o5 :: o6 :: o7 :: o8 :: o9 :: o10 :: o11 :: o12 :: o13 :: o14 :: (.ref y15) :: (.int y16) :: tl)) :: X) x4.toInt64 v11  (hO.sub (by decide))) kw_1440 kw_1441 kw_13 kw_1442 (by decide +kernel) ⟨Nat.le_of_ble_eq_true rfl, Nat.le_of_ble_eq_true rfl⟩ rfl rfl hl.1 (Nat.le_of_ble_eq_true rfl) dX12_whyNot_28 ⟨Nat.le_of_ble_eq_true rfl, Nat.le_of_ble_eq_true rfl⟩) (fun v28 u H locs hz9 hH hS => ?_)
      obtain ⟨rfl, l_v28, u_v28, x_v280⟩ := hz9
      have hH : HT D cs A T (y1 :: a0 :: O) ((y1, .inl (cs.2.1, 3906, .inl f1)) :: (a0, .inr (12, o0 :: (.ref y1) :: o2 :: o3 :: o4 :: o5 :: o6 :: o7 :: o8 :: o9 :: o10 :: o11 :: o12 :: o13 :: o14 :: (.ref y15) :: (.int y16) :: tl)) :: X) H := hH
      refine W.widen (k := 0) (n := 0) (Nat.le_of_ble_eq_true rfl) (Nat.le_of_ble_eq_true rfl) ?_
      refine lv_if_eq (tgt := 36) hx hb dX12_whyNot_31 (by decide) (fun c31 => ?_) (fun c31 => ?_)
      · skip
        have tc31 := f_eq (k := 0) (by decide) c31
        refine lv_iload hx hb dX12_whyNot_36 (lv_at hl 5 rfl) ?_
        refine lv_iconst (v := (-1)) hx hb dX12_whyNot_38 (by decide) ?_
        refine lv_icmp_ne (tgt := 63) hx hb dX12_whyNot_39 (by decide) (fun c39 => ?_) (fun c39 => ?_)
        · skip
          have tc39 := f_ne (k := -1) (by decide) c39
          refine lv_aload_n hx hb dX12_whyNot_63 rfl (lv_at hl 1 rfl) ?_
          refine lv_aload_n hx hb dX12_whyNot_64 rfl (lv_at hl 1 rfl) ?_
          refine x_getk (ci := 12) (C := RX12) (F := TX12) (N := 36) (v := .ref y1) hx hb hts uX12 hown hkb hH 1 rfl rfl 1 (by decide) rfl kw_1224 (fun _ h9 => h9) dX12_whyNot_65 ?_
          refine lv_bipush (v := 49) hx hb dX12_whyNot_68 (by decide) ?_
          refine lv_iload_n hx hb dX12_whyNot_70 rfl (lv_at hl 2 rfl) ?_
          refine lv_iadd hx hb dX12_whyNot_71 ?_
          refine lv_topi (fun v71 ev71 => ?_)
          have tv71 : v71.toInt = (49) + x1.toInt := by rw [ev71]; exact add_i (by decide : (49 : Int32).toInt = 49) rfl (by omega) (by omega)
          refine xa_ild hx hb hkb hH 0 rfl (by omega) (by omega) dX12_whyNot_72 ?_
          refine lv_topi (fun v72 ev72 => ?_)
          have tv72 : v72 = f1 v71.toInt.toNat := ev72
          refine x_putk (ci := 12) (v := .int v72) (ty := tyX12 16) (C := RX12) (F := TX12) (N := 36) hx hb hts uX12 tyX12 tyX12_ok nmX12 hown hkb hH hS 1 rfl rfl 16 (by decide) kw_1239 (fun _ h9 => h9) rfl (tyX12_ok 16 (by decide)) rfl rfl (by show 16 < tl.length + 17; omega) dX12_whyNot_73 (fun H locs hH hS => ?_)
          have hH : HT D cs A T (y1 :: a0 :: O) ((y1, .inl (cs.2.1, 3906, .inl f1)) :: (a0, .inr (12, o0 :: (.ref y1) :: o2 :: o3 :: o4 :: o5 :: o6 :: o7 :: o8 :: o9 :: o10 :: o11 :: o12 :: o13 :: o14 :: (.ref y15) :: (.int v72) :: tl)) :: X) H := hH
          refine lv_aload_n hx hb dX12_whyNot_76 rfl (lv_at hl 1 rfl) ?_
          refine x_getk (ci := 12) (C := RX12) (F := TX12) (N := 36) (v := .ref y1) hx hb hts uX12 hown hkb hH 1 rfl rfl 1 (by decide) rfl kw_1224 (fun _ h9 => h9) dX12_whyNot_77 ?_
          refine lv_iconst (v := 5) hx hb dX12_whyNot_80 (by decide) ?_
          refine xa_ild hx hb hkb hH 0 rfl (by decide) (by decide) dX12_whyNot_81 ?_
          refine lv_topi (fun v81 ev81 => ?_)
          have tv81 : v81 = f1 5 := by rw [ev81]; rfl
          have bv81 : 0 ≤ v81.toInt ∧ v81.toInt ≤ 16383 := by rw [ev81]; exact (s_f1.at (by decide) 5).2.2.2.1 (by decide)
          refine lv_i2l hx hb dX12_whyNot_82 rfl ?_
          refine lv_iload hx hb dX12_whyNot_83 (lv_at hl 5 rfl) ?_
          refine tk_i hH hS hA (tr_S (n := 2) (As := [.long v81.toInt64, .int x5]) hx hb hml hown hts hkb hH (ox_map hOX rfl) hks hE hS hA (s_M_isIn2 l D cs kf T (y1 :: a0 :: O) ((y1, .inl (cs.2.1, 3906, .inl f1)) :: (a0, .inr (12, o0 :: (.ref y1) :: o2 :: o3 :: o4 :: o5 :: o6 :: o7 :: o8 :: o9 :: o10 :: o11 :: o12 :: o13 :: o14 :: (.ref y15) :: (.int v72) :: tl)) :: X) v81.toInt64 x5  (hO.sub (by decide))) kw_1440 kw_1441 kw_13 kw_1442 (by decide +kernel) ⟨Nat.le_of_ble_eq_true rfl, Nat.le_of_ble_eq_true rfl⟩ rfl rfl hl.1 (Nat.le_of_ble_eq_true rfl) dX12_whyNot_85 ⟨Nat.le_of_ble_eq_true rfl, Nat.le_of_ble_eq_true rfl⟩) (fun v85 u H locs hz9 hH hS => ?_)
          obtain ⟨rfl, l_v85, u_v85, x_v850⟩ := hz9
          have hH : HT D cs A T (y1 :: a0 :: O) ((y1, .inl (cs.2.1, 3906, .inl f1)) :: (a0, .inr (12, o0 :: (.ref y1) :: o2 :: o3 :: o4 :: o5 :: o6 :: o7 :: o8 :: o9 :: o10 :: o11 :: o12 :: o13 :: o14 :: (.ref y15) :: (.int v72) :: tl)) :: X) H := hH
          refine W.widen (k := 0) (n := 0) (Nat.le_of_ble_eq_true rfl) (Nat.le_of_ble_eq_true rfl) ?_
          refine lv_if_ne (tgt := 107) hx hb dX12_whyNot_88 (by decide) (fun c88 => ?_) (fun c88 => ?_)
          · skip
            have tc88 := f_ne (k := 0) (by decide) c88
            refine lv_iconst (v := 3) hx hb dX12_whyNot_107 (by decide) ?_
            have z9_3 : (3 : Int32).toInt = 3 := by decide
            exact te_i hx hb hr hlocks hH hS (⟨v72, rfl, by decide, by decide, (Or.inl (by decide))⟩) dX12_whyNot_108
          · skip
            have tc88 := f_eq (k := 0) (by decide) c88
            refine lv_aload_n hx hb dX12_whyNot_91 rfl (lv_at hl 1 rfl) ?_
            refine lv_iload_n hx hb dX12_whyNot_92 rfl (lv_at hl 2 rfl) ?_
            refine lv_iload hx hb dX12_whyNot_93 (lv_at hl 5 rfl) ?_
            refine lv_iload hx hb dX12_whyNot_95 (lv_at hl 0 rfl) ?_
            refine tk_i hH hS hA (tr_V (n := 3) (As := [.int x1, .int x5, .int v11]) hx hb hml hown hts hkb hH (ox_map hOX rfl) hks hE hS hA (s_M_mayStepX l D cs kf T O X a0 hg mq x1 x5 v11 f1 o0 y1 o2 o3 o4 o5 o6 o7 o8 o9 o10 o11 o12 o13 o14 y15 v72 tl t_a0 b_hg (by omega) (by omega) (by omega) (by omega) (by omega) (by omega) s_f1 g_f1 t_y1 t_y15 (hO.sub (by decide))) kw_1482 kw_1484 ks_69 kw_13 kw_1485 (by decide +kernel) ⟨Nat.le_of_ble_eq_true rfl, Nat.le_of_ble_eq_true rfl⟩ (x_recv (ci := 12) hkb hH 1 rfl rfl) rfl rfl hl.1 (Nat.le_of_ble_eq_true rfl) dX12_whyNot_97 ⟨Nat.le_of_ble_eq_true rfl, Nat.le_of_ble_eq_true rfl⟩) (fun v97 u H locs hz9 hH hS => ?_)
            obtain ⟨rfl, l_v97, u_v97⟩ := hz9
            have hH : HT D cs A T (y1 :: a0 :: O) ((y1, .inl (cs.2.1, 3906, .inl f1)) :: (a0, .inr (12, o0 :: (.ref y1) :: o2 :: o3 :: o4 :: o5 :: o6 :: o7 :: o8 :: o9 :: o10 :: o11 :: o12 :: o13 :: o14 :: (.ref y15) :: (.int v72) :: tl)) :: X) H := hH
            refine W.widen (k := 0) (n := 0) (Nat.le_of_ble_eq_true rfl) (Nat.le_of_ble_eq_true rfl) ?_
            refine lv_if_eq (tgt := 107) hx hb dX12_whyNot_100 (by decide) (fun c100 => ?_) (fun c100 => ?_)
            · skip
              have tc100 := f_eq (k := 0) (by decide) c100
              refine lv_iconst (v := 3) hx hb dX12_whyNot_107 (by decide) ?_
              have z9_3 : (3 : Int32).toInt = 3 := by decide
              exact te_i hx hb hr hlocks hH hS (⟨v72, rfl, by decide, by decide, (Or.inl (by decide))⟩) dX12_whyNot_108
            · skip
              have tc100 := f_ne (k := 0) (by decide) c100
              refine lv_iconst (v := 0) hx hb dX12_whyNot_103 (by decide) ?_
              refine lv_goto (tgt := 108) hx hb dX12_whyNot_104 (by decide) ?_
              have z9_0 : (0 : Int32).toInt = 0 := by decide
              exact te_i hx hb hr hlocks hH hS (⟨v72, rfl, by decide, by decide, (Or.inr ⟨by omega, by omega, by rw [← ev11]; exact inF_z x_v280 tc31⟩)⟩) dX12_whyNot_108
        · skip
          have tc39 := f_eq (k := -1) (by decide) c39
          refine lv_aload_n hx hb dX12_whyNot_42 rfl (lv_at hl 1 rfl) ?_
          refine x_getk (ci := 12) (C := RX12) (F := TX12) (N := 36) (v := .ref y1) hx hb hts uX12 hown hkb hH 1 rfl rfl 1 (by decide) rfl kw_1224 (fun _ h9 => h9) dX12_whyNot_43 ?_
          refine lv_iconst (v := 4) hx hb dX12_whyNot_46 (by decide) ?_
          refine xa_ild hx hb hkb hH 0 rfl (by decide) (by decide) dX12_whyNot_47 ?_
          refine lv_topi (fun v47 ev47 => ?_)
          have tv47 : v47 = f1 4 := by rw [ev47]; rfl
          have bv47 : 0 ≤ v47.toInt ∧ v47.toInt ≤ 16383 := by rw [ev47]; exact (s_f1.at (by decide) 4).2.2.1 (by decide)
          refine lv_i2l hx hb dX12_whyNot_48 rfl ?_
          refine lv_iload hx hb dX12_whyNot_49 (lv_at hl 0 rfl) ?_
          refine tk_i hH hS hA (tr_S (n := 2) (As := [.long v47.toInt64, .int v11]) hx hb hml hown hts hkb hH (ox_map hOX rfl) hks hE hS hA (s_M_isIn2 l D cs kf T (y1 :: a0 :: O) ((y1, .inl (cs.2.1, 3906, .inl f1)) :: (a0, .inr (12, o0 :: (.ref y1) :: o2 :: o3 :: o4 :: o5 :: o6 :: o7 :: o8 :: o9 :: o10 :: o11 :: o12 :: o13 :: o14 :: (.ref y15) :: (.int y16) :: tl)) :: X) v47.toInt64 v11  (hO.sub (by decide))) kw_1440 kw_1441 kw_13 kw_1442 (by decide +kernel) ⟨Nat.le_of_ble_eq_true rfl, Nat.le_of_ble_eq_true rfl⟩ rfl rfl hl.1 (Nat.le_of_ble_eq_true rfl) dX12_whyNot_51 ⟨Nat.le_of_ble_eq_true rfl, Nat.le_of_ble_eq_true rfl⟩) (fun v51 u H locs hz9 hH hS => ?_)
          obtain ⟨rfl, l_v51, u_v51, x_v510⟩ := hz9
          have hH : HT D cs A T (y1 :: a0 :: O) ((y1, .inl (cs.2.1, 3906, .inl f1)) :: (a0, .inr (12, o0 :: (.ref y1) :: o2 :: o3 :: o4 :: o5 :: o6 :: o7 :: o8 :: o9 :: o10 :: o11 :: o12 :: o13 :: o14 :: (.ref y15) :: (.int y16) :: tl)) :: X) H := hH
          refine W.widen (k := 0) (n := 0) (Nat.le_of_ble_eq_true rfl) (Nat.le_of_ble_eq_true rfl) ?_
          refine lv_if_eq (tgt := 61) hx hb dX12_whyNot_54 (by decide) (fun c54 => ?_) (fun c54 => ?_)
          · skip
            have tc54 := f_eq (k := 0) (by decide) c54
            refine lv_iconst (v := 3) hx hb dX12_whyNot_61 (by decide) ?_
            have z9_3 : (3 : Int32).toInt = 3 := by decide
            exact te_i hx hb hr hlocks hH hS (⟨y16, rfl, by decide, by decide, (Or.inl (by decide))⟩) dX12_whyNot_62
          · skip
            have tc54 := f_ne (k := 0) (by decide) c54
            refine lv_iconst (v := 0) hx hb dX12_whyNot_57 (by decide) ?_
            refine lv_goto (tgt := 62) hx hb dX12_whyNot_58 (by decide) ?_
            have z9_0 : (0 : Int32).toInt = 0 := by decide
            exact te_i hx hb hr hlocks hH hS (⟨y16, rfl, by decide, by decide, (Or.inr ⟨by omega, by omega, by rw [← ev11]; exact inF_z x_v280 tc31⟩)⟩) dX12_whyNot_62
      · skip
        have tc31 := f_ne (k := 0) (by decide) c31
        refine lv_iconst (v := 2) hx hb dX12_whyNot_34 (by decide) ?_
        have z9_2 : (2 : Int32).toInt = 2 := by decide
        exact te_i hx hb hr hlocks hH hS (⟨y16, rfl, by decide, by decide, (Or.inl (by decide))⟩) dX12_whyNot_35
  · skip
    have tc5 := f_eq (k := 0) (by decide) c5
    clear x_v20
    refine lv_iconst (v := 1) hx hb dX12_whyNot_8 (by decide) ?_
    have z9_1 : (1 : Int32).toInt = 1 := by decide
    exact te_i hx hb hr hlocks hH hS (⟨y16, rfl, by decide, by decide, (Or.inl (by decide))⟩) dX12_whyNot_9
theorem dX12_climb_0 : decode cX12_climb 0 = .ok (.aload_n 0, 1) := by decide +kernel
theorem dX12_climb_1 : decode cX12_climb 1 = .ok (.iconst 0, 1) := by decide +kernel
theorem dX12_climb_2 : decode cX12_climb 2 = .ok (.putfield 1, 3) := by decide +kernel
theorem dX12_climb_5 : decode cX12_climb 5 = .ok (.aload_n 0, 1) := by decide +kernel
theorem dX12_climb_6 : decode cX12_climb 6 = .ok (.iload_n 1, 1) := by decide +kernel
theorem dX12_climb_7 : decode cX12_climb 7 = .ok (.invokevirtual 289, 3) := by decide +kernel
theorem dX12_climb_10 : decode cX12_climb 10 = .ok (.istore_n 2, 1) := by decide +kernel
theorem dX12_climb_11 : decode cX12_climb 11 = .ok (.iload_n 2, 1) := by decide +kernel
theorem dX12_climb_12 : decode cX12_climb 12 = .ok (.ifCond .eq 5, 3) := by decide +kernel
theorem dX12_climb_15 : decode cX12_climb 15 = .ok (.iload_n 2, 1) := by decide +kernel
theorem dX12_climb_16 : decode cX12_climb 16 = .ok (.ireturn, 1) := by decide +kernel
theorem dX12_climb_17 : decode cX12_climb 17 = .ok (.aload_n 0, 1) := by decide +kernel
theorem dX12_climb_18 : decode cX12_climb 18 = .ok (.iload_n 1, 1) := by decide +kernel
theorem dX12_climb_19 : decode cX12_climb 19 = .ok (.invokevirtual 292, 3) := by decide +kernel
theorem dX12_climb_22 : decode cX12_climb 22 = .ok (.iconst (-1), 1) := by decide +kernel
theorem dX12_climb_23 : decode cX12_climb 23 = .ok (.if_icmp .eq 6, 3) := by decide +kernel
theorem dX12_climb_26 : decode cX12_climb 26 = .ok (.bipush (-5), 2) := by decide +kernel
theorem dX12_climb_28 : decode cX12_climb 28 = .ok (.ireturn, 1) := by decide +kernel
theorem dX12_climb_29 : decode cX12_climb 29 = .ok (.aload_n 0, 1) := by decide +kernel
theorem dX12_climb_30 : decode cX12_climb 30 = .ok (.invokevirtual 295, 3) := by decide +kernel
theorem dX12_climb_33 : decode cX12_climb 33 = .ok (.aload_n 0, 1) := by decide +kernel
theorem dX12_climb_34 : decode cX12_climb 34 = .ok (.aload_n 0, 1) := by decide +kernel
theorem dX12_climb_35 : decode cX12_climb 35 = .ok (.getfield 75, 3) := by decide +kernel
theorem dX12_climb_38 : decode cX12_climb 38 = .ok (.bipush 40, 2) := by decide +kernel
theorem dX12_climb_40 : decode cX12_climb 40 = .ok (.iload_n 1, 1) := by decide +kernel
theorem dX12_climb_41 : decode cX12_climb 41 = .ok (.imul, 1) := by decide +kernel
theorem dX12_climb_42 : decode cX12_climb 42 = .ok (.laload, 1) := by decide +kernel
theorem dX12_climb_43 : decode cX12_climb 43 = .ok (.l2i, 1) := by decide +kernel
theorem dX12_climb_44 : decode cX12_climb 44 = .ok (.invokevirtual 298, 3) := by decide +kernel
theorem dX12_climb_47 : decode cX12_climb 47 = .ok (.istore_n 3, 1) := by decide +kernel
theorem dX12_climb_48 : decode cX12_climb 48 = .ok (.aload_n 0, 1) := by decide +kernel
theorem dX12_climb_49 : decode cX12_climb 49 = .ok (.invokevirtual 301, 3) := by decide +kernel
theorem dX12_climb_52 : decode cX12_climb 52 = .ok (.iload_n 3, 1) := by decide +kernel
theorem dX12_climb_53 : decode cX12_climb 53 = .ok (.ireturn, 1) := by decide +kernel
theorem dX12_judge_0 : decode cX12_judge 0 = .ok (.aload_n 0, 1) := by decide +kernel
theorem dX12_judge_1 : decode cX12_judge 1 = .ok (.iconst 0, 1) := by decide +kernel
theorem dX12_judge_2 : decode cX12_judge 2 = .ok (.putfield 1, 3) := by decide +kernel
theorem dX12_judge_5 : decode cX12_judge 5 = .ok (.iload_n 2, 1) := by decide +kernel
theorem dX12_judge_6 : decode cX12_judge 6 = .ok (.i2l, 1) := by decide +kernel
theorem dX12_judge_7 : decode cX12_judge 7 = .ok (.lconst 0, 1) := by decide +kernel
theorem dX12_judge_8 : decode cX12_judge 8 = .ok (.ldc2_w 287, 3) := by decide +kernel
theorem dX12_judge_11 : decode cX12_judge 11 = .ok (.invokestatic 144, 3) := by decide +kernel
theorem dX12_judge_14 : decode cX12_judge 14 = .ok (.ifCond .ne 6, 3) := by decide +kernel
theorem dX12_judge_17 : decode cX12_judge 17 = .ok (.bipush (-2), 2) := by decide +kernel
theorem dX12_judge_19 : decode cX12_judge 19 = .ok (.ireturn, 1) := by decide +kernel
theorem dX12_judge_20 : decode cX12_judge 20 = .ok (.aload_n 0, 1) := by decide +kernel
theorem dX12_judge_21 : decode cX12_judge 21 = .ok (.iload_n 1, 1) := by decide +kernel
theorem dX12_judge_22 : decode cX12_judge 22 = .ok (.invokevirtual 289, 3) := by decide +kernel
theorem dX12_judge_25 : decode cX12_judge 25 = .ok (.istore_n 3, 1) := by decide +kernel
theorem dX12_judge_26 : decode cX12_judge 26 = .ok (.iload_n 3, 1) := by decide +kernel
theorem dX12_judge_27 : decode cX12_judge 27 = .ok (.ifCond .eq 5, 3) := by decide +kernel
theorem dX12_judge_30 : decode cX12_judge 30 = .ok (.iload_n 3, 1) := by decide +kernel
theorem dX12_judge_31 : decode cX12_judge 31 = .ok (.ireturn, 1) := by decide +kernel
theorem dX12_judge_32 : decode cX12_judge 32 = .ok (.aload_n 0, 1) := by decide +kernel
theorem dX12_judge_33 : decode cX12_judge 33 = .ok (.iload_n 1, 1) := by decide +kernel
theorem dX12_judge_34 : decode cX12_judge 34 = .ok (.invokevirtual 292, 3) := by decide +kernel
theorem dX12_judge_37 : decode cX12_judge 37 = .ok (.istore 4, 2) := by decide +kernel
theorem dX12_judge_39 : decode cX12_judge 39 = .ok (.iload_n 2, 1) := by decide +kernel
theorem dX12_judge_40 : decode cX12_judge 40 = .ok (.ifCond .ne 8, 3) := by decide +kernel
theorem dX12_judge_43 : decode cX12_judge 43 = .ok (.iload 4, 2) := by decide +kernel
theorem dX12_judge_45 : decode cX12_judge 45 = .ok (.goto 30, 3) := by decide +kernel
theorem dX12_judge_48 : decode cX12_judge 48 = .ok (.iload_n 2, 1) := by decide +kernel
theorem dX12_judge_49 : decode cX12_judge 49 = .ok (.iconst 1, 1) := by decide +kernel
theorem dX12_judge_50 : decode cX12_judge 50 = .ok (.if_icmp .ne 10, 3) := by decide +kernel
theorem dX12_judge_53 : decode cX12_judge 53 = .ok (.aload_n 0, 1) := by decide +kernel
theorem dX12_judge_54 : decode cX12_judge 54 = .ok (.getfield 277, 3) := by decide +kernel
theorem dX12_judge_57 : decode cX12_judge 57 = .ok (.goto 18, 3) := by decide +kernel
theorem dX12_judge_60 : decode cX12_judge 60 = .ok (.aload_n 0, 1) := by decide +kernel
theorem dX12_judge_61 : decode cX12_judge 61 = .ok (.getfield 277, 3) := by decide +kernel
theorem dX12_judge_64 : decode cX12_judge 64 = .ok (.ifCond .ne 10, 3) := by decide +kernel
theorem dX12_judge_67 : decode cX12_judge 67 = .ok (.aload_n 0, 1) := by decide +kernel
theorem dX12_judge_68 : decode cX12_judge 68 = .ok (.getfield 280, 3) := by decide +kernel
theorem dX12_judge_71 : decode cX12_judge 71 = .ok (.goto 4, 3) := by decide +kernel
theorem dX12_judge_74 : decode cX12_judge 74 = .ok (.iconst 0, 1) := by decide +kernel
theorem dX12_judge_75 : decode cX12_judge 75 = .ok (.ireturn, 1) := by decide +kernel
theorem dX12_told_0 : decode cX12_told 0 = .ok (.aload_n 0, 1) := by decide +kernel
theorem dX12_told_1 : decode cX12_told 1 = .ok (.iconst 0, 1) := by decide +kernel
theorem dX12_told_2 : decode cX12_told 2 = .ok (.putfield 277, 3) := by decide +kernel
theorem dX12_told_5 : decode cX12_told 5 = .ok (.aload_n 0, 1) := by decide +kernel
theorem dX12_told_6 : decode cX12_told 6 = .ok (.iconst 0, 1) := by decide +kernel
theorem dX12_told_7 : decode cX12_told 7 = .ok (.putfield 280, 3) := by decide +kernel
theorem dX12_told_10 : decode cX12_told 10 = .ok (.aload_n 0, 1) := by decide +kernel
theorem dX12_told_11 : decode cX12_told 11 = .ok (.iconst 0, 1) := by decide +kernel
theorem dX12_told_12 : decode cX12_told 12 = .ok (.putfield 266, 3) := by decide +kernel
theorem dX12_told_15 : decode cX12_told 15 = .ok (.aload_n 0, 1) := by decide +kernel
theorem dX12_told_16 : decode cX12_told 16 = .ok (.getfield 72, 3) := by decide +kernel
theorem dX12_told_19 : decode cX12_told 19 = .ok (.iload_n 1, 1) := by decide +kernel
theorem dX12_told_20 : decode cX12_told 20 = .ok (.iaload, 1) := by decide +kernel
theorem dX12_told_21 : decode cX12_told 21 = .ok (.istore_n 2, 1) := by decide +kernel
theorem dX12_told_22 : decode cX12_told 22 = .ok (.iload_n 2, 1) := by decide +kernel
theorem dX12_told_23 : decode cX12_told 23 = .ok (.ifCond .eq 19, 3) := by decide +kernel
theorem dX12_told_26 : decode cX12_told 26 = .ok (.aload_n 0, 1) := by decide +kernel
theorem dX12_told_27 : decode cX12_told 27 = .ok (.aload_n 0, 1) := by decide +kernel
theorem dX12_told_28 : decode cX12_told 28 = .ok (.getfield 75, 3) := by decide +kernel
theorem dX12_told_31 : decode cX12_told 31 = .ok (.bipush 40, 2) := by decide +kernel
theorem dX12_told_33 : decode cX12_told 33 = .ok (.iload_n 1, 1) := by decide +kernel
theorem dX12_told_34 : decode cX12_told 34 = .ok (.imul, 1) := by decide +kernel
theorem dX12_told_35 : decode cX12_told 35 = .ok (.laload, 1) := by decide +kernel
theorem dX12_told_36 : decode cX12_told 36 = .ok (.invokevirtual 222, 3) := by decide +kernel
theorem dX12_told_39 : decode cX12_told 39 = .ok (.ifCond .ne 10, 3) := by decide +kernel
theorem dX12_told_42 : decode cX12_told 42 = .ok (.aload_n 0, 1) := by decide +kernel
theorem dX12_told_43 : decode cX12_told 43 = .ok (.iconst 1, 1) := by decide +kernel
theorem dX12_told_44 : decode cX12_told 44 = .ok (.putfield 277, 3) := by decide +kernel
theorem dX12_told_47 : decode cX12_told 47 = .ok (.iconst 0, 1) := by decide +kernel
theorem dX12_told_48 : decode cX12_told 48 = .ok (.ireturn, 1) := by decide +kernel
theorem dX12_told_49 : decode cX12_told 49 = .ok (.iconst 0, 1) := by decide +kernel
theorem dX12_told_50 : decode cX12_told 50 = .ok (.istore_n 3, 1) := by decide +kernel
theorem dX12_told_51 : decode cX12_told 51 = .ok (.iconst (-1), 1) := by decide +kernel
theorem dX12_told_52 : decode cX12_told 52 = .ok (.istore 4, 2) := by decide +kernel
theorem dX12_told_54 : decode cX12_told 54 = .ok (.iconst 1, 1) := by decide +kernel
theorem dX12_told_55 : decode cX12_told 55 = .ok (.istore 5, 2) := by decide +kernel
theorem dX12_told_57 : decode cX12_told 57 = .ok (.iload 5, 2) := by decide +kernel
theorem dX12_told_59 : decode cX12_told 59 = .ok (.iload_n 2, 1) := by decide +kernel
theorem dX12_told_60 : decode cX12_told 60 = .ok (.if_icmp .ge 116, 3) := by decide +kernel
theorem dX12_told_63 : decode cX12_told 63 = .ok (.aload_n 0, 1) := by decide +kernel
theorem dX12_told_64 : decode cX12_told 64 = .ok (.getfield 75, 3) := by decide +kernel
theorem dX12_told_67 : decode cX12_told 67 = .ok (.bipush 40, 2) := by decide +kernel
theorem dX12_told_69 : decode cX12_told 69 = .ok (.iload_n 1, 1) := by decide +kernel
theorem dX12_told_70 : decode cX12_told 70 = .ok (.imul, 1) := by decide +kernel
theorem dX12_told_71 : decode cX12_told 71 = .ok (.iload 5, 2) := by decide +kernel
theorem dX12_told_73 : decode cX12_told 73 = .ok (.iadd, 1) := by decide +kernel
theorem dX12_told_74 : decode cX12_told 74 = .ok (.laload, 1) := by decide +kernel
theorem dX12_told_75 : decode cX12_told 75 = .ok (.lstore 6, 2) := by decide +kernel
theorem dX12_told_77 : decode cX12_told 77 = .ok (.aload_n 0, 1) := by decide +kernel
theorem dX12_told_78 : decode cX12_told 78 = .ok (.aload_n 0, 1) := by decide +kernel
theorem dX12_told_79 : decode cX12_told 79 = .ok (.aload_n 0, 1) := by decide +kernel
theorem dX12_told_80 : decode cX12_told 80 = .ok (.getfield 75, 3) := by decide +kernel
theorem dX12_told_83 : decode cX12_told 83 = .ok (.bipush 40, 2) := by decide +kernel
theorem dX12_told_85 : decode cX12_told 85 = .ok (.iload_n 1, 1) := by decide +kernel
theorem dX12_told_86 : decode cX12_told 86 = .ok (.imul, 1) := by decide +kernel
theorem dX12_told_87 : decode cX12_told 87 = .ok (.laload, 1) := by decide +kernel
theorem dX12_told_88 : decode cX12_told 88 = .ok (.l2i, 1) := by decide +kernel
theorem dX12_told_89 : decode cX12_told 89 = .ok (.lload 6, 2) := by decide +kernel
theorem dX12_told_91 : decode cX12_told 91 = .ok (.iload_n 3, 1) := by decide +kernel
theorem dX12_told_92 : decode cX12_told 92 = .ok (.iload 4, 2) := by decide +kernel
theorem dX12_told_94 : decode cX12_told 94 = .ok (.invokevirtual 283, 3) := by decide +kernel
theorem dX12_told_97 : decode cX12_told 97 = .ok (.putfield 277, 3) := by decide +kernel
theorem dX12_told_100 : decode cX12_told 100 = .ok (.aload_n 0, 1) := by decide +kernel
theorem dX12_told_101 : decode cX12_told 101 = .ok (.getfield 277, 3) := by decide +kernel
theorem dX12_told_104 : decode cX12_told 104 = .ok (.ifCond .eq 6, 3) := by decide +kernel
theorem dX12_told_107 : decode cX12_told 107 = .ok (.iload 5, 2) := by decide +kernel
theorem dX12_told_109 : decode cX12_told 109 = .ok (.ireturn, 1) := by decide +kernel
theorem dX12_told_110 : decode cX12_told 110 = .ok (.lload 6, 2) := by decide +kernel
theorem dX12_told_112 : decode cX12_told 112 = .ok (.l2i, 1) := by decide +kernel
theorem dX12_told_113 : decode cX12_told 113 = .ok (.istore 4, 2) := by decide +kernel
theorem dX12_told_115 : decode cX12_told 115 = .ok (.iload_n 3, 1) := by decide +kernel
theorem dX12_told_116 : decode cX12_told 116 = .ok (.iconst 1, 1) := by decide +kernel
theorem dX12_told_117 : decode cX12_told 117 = .ok (.iload 4, 2) := by decide +kernel
theorem dX12_told_119 : decode cX12_told 119 = .ok (.ishl, 1) := by decide +kernel
theorem dX12_told_120 : decode cX12_told 120 = .ok (.ior, 1) := by decide +kernel
theorem dX12_told_121 : decode cX12_told 121 = .ok (.istore_n 3, 1) := by decide +kernel
theorem dX12_told_122 : decode cX12_told 122 = .ok (.aload_n 0, 1) := by decide +kernel
theorem dX12_told_123 : decode cX12_told 123 = .ok (.getfield 39, 3) := by decide +kernel
theorem dX12_told_126 : decode cX12_told 126 = .ok (.aload_n 0, 1) := by decide +kernel
theorem dX12_told_127 : decode cX12_told 127 = .ok (.getfield 266, 3) := by decide +kernel
theorem dX12_told_130 : decode cX12_told 130 = .ok (.iload 4, 2) := by decide +kernel
theorem dX12_told_132 : decode cX12_told 132 = .ok (.iastore, 1) := by decide +kernel
theorem dX12_told_133 : decode cX12_told 133 = .ok (.aload_n 0, 1) := by decide +kernel
theorem dX12_told_134 : decode cX12_told 134 = .ok (.dup, 1) := by decide +kernel
theorem dX12_told_135 : decode cX12_told 135 = .ok (.getfield 266, 3) := by decide +kernel
theorem dX12_told_138 : decode cX12_told 138 = .ok (.iconst 1, 1) := by decide +kernel
theorem dX12_told_139 : decode cX12_told 139 = .ok (.iadd, 1) := by decide +kernel
theorem dX12_told_140 : decode cX12_told 140 = .ok (.putfield 266, 3) := by decide +kernel
theorem dX12_told_143 : decode cX12_told 143 = .ok (.aload_n 0, 1) := by decide +kernel
theorem dX12_told_144 : decode cX12_told 144 = .ok (.dup, 1) := by decide +kernel
theorem dX12_told_145 : decode cX12_told 145 = .ok (.getfield 280, 3) := by decide +kernel
theorem dX12_told_148 : decode cX12_told 148 = .ok (.aload_n 0, 1) := by decide +kernel
theorem dX12_told_149 : decode cX12_told 149 = .ok (.invokevirtual 272, 3) := by decide +kernel
theorem dX12_told_152 : decode cX12_told 152 = .ok (.i2l, 1) := by decide +kernel
theorem dX12_told_153 : decode cX12_told 153 = .ok (.iload 4, 2) := by decide +kernel
theorem dX12_told_155 : decode cX12_told 155 = .ok (.invokestatic 186, 3) := by decide +kernel
theorem dX12_told_158 : decode cX12_told 158 = .ok (.ifCond .eq 7, 3) := by decide +kernel
theorem dX12_told_161 : decode cX12_told 161 = .ok (.iconst 0, 1) := by decide +kernel
theorem dX12_told_162 : decode cX12_told 162 = .ok (.goto 4, 3) := by decide +kernel
theorem dX12_told_165 : decode cX12_told 165 = .ok (.iconst 1, 1) := by decide +kernel
theorem dX12_told_166 : decode cX12_told 166 = .ok (.iadd, 1) := by decide +kernel
theorem dX12_told_167 : decode cX12_told 167 = .ok (.putfield 280, 3) := by decide +kernel
theorem dX12_told_170 : decode cX12_told 170 = .ok (.iinc 5 1, 3) := by decide +kernel
theorem dX12_told_173 : decode cX12_told 173 = .ok (.goto (-116), 3) := by decide +kernel
theorem dX12_told_176 : decode cX12_told 176 = .ok (.iload 4, 2) := by decide +kernel
theorem dX12_told_178 : decode cX12_told 178 = .ok (.iconst (-1), 1) := by decide +kernel
theorem dX12_told_179 : decode cX12_told 179 = .ok (.if_icmp .eq 20, 3) := by decide +kernel
theorem dX12_told_182 : decode cX12_told 182 = .ok (.aload_n 0, 1) := by decide +kernel
theorem dX12_told_183 : decode cX12_told 183 = .ok (.getfield 13, 3) := by decide +kernel
theorem dX12_told_186 : decode cX12_told 186 = .ok (.iconst 5, 1) := by decide +kernel
theorem dX12_told_187 : decode cX12_told 187 = .ok (.iaload, 1) := by decide +kernel
theorem dX12_told_188 : decode cX12_told 188 = .ok (.i2l, 1) := by decide +kernel
theorem dX12_told_189 : decode cX12_told 189 = .ok (.iload 4, 2) := by decide +kernel
theorem dX12_told_191 : decode cX12_told 191 = .ok (.invokestatic 186, 3) := by decide +kernel
theorem dX12_told_194 : decode cX12_told 194 = .ok (.ifCond .eq 5, 3) := by decide +kernel
theorem dX12_told_197 : decode cX12_told 197 = .ok (.iconst (-1), 1) := by decide +kernel
theorem dX12_told_198 : decode cX12_told 198 = .ok (.ireturn, 1) := by decide +kernel
theorem dX12_told_199 : decode cX12_told 199 = .ok (.aload_n 0, 1) := by decide +kernel
theorem dX12_told_200 : decode cX12_told 200 = .ok (.iconst 4, 1) := by decide +kernel
theorem dX12_told_201 : decode cX12_told 201 = .ok (.putfield 277, 3) := by decide +kernel
theorem dX12_told_204 : decode cX12_told 204 = .ok (.iload_n 2, 1) := by decide +kernel
theorem dX12_told_205 : decode cX12_told 205 = .ok (.ireturn, 1) := by decide +kernel
theorem kw_1246 : Cond.fieldLink "FootholdWallModel" 277 "FootholdWallModel" "toldWhy" "I" ∈ gw := gw_of (tb_of 1246 (by decide +kernel)) (by decide +kernel)
theorem kw_1247 : Cond.fieldLink "FootholdWallModel" 280 "FootholdWallModel" "toldUses" "I" ∈ gw := gw_of (tb_of 1247 (by decide +kernel)) (by decide +kernel)
theorem kw_1257 : Cond.fieldLink "FootholdWallModel" 72 "FootholdWallModel" "rowMany" "[I" ∈ gw := gw_of (tb_of 1257 (by decide +kernel)) (by decide +kernel)
theorem kw_1258 : Cond.fieldLink "FootholdWallModel" 75 "FootholdWallModel" "numbers" "[J" ∈ gw := gw_of (tb_of 1258 (by decide +kernel)) (by decide +kernel)
theorem kw_1522 : Cond.constantLong "FootholdWallModel" 287 2 ∈ gw := gw_of (tb_of 1522 (by decide +kernel)) (by decide +kernel)
theorem kw_1523 : Cond.methodLink "FootholdWallModel" 289 yX12_noTray ∈ gw := gw_of (tb_of 1523 (by decide +kernel)) (by decide +kernel)
theorem kw_1525 : Cond.instanceMethod yX12_noTray ∈ gw := gw_of (tb_of 1525 (by decide +kernel)) (by decide +kernel)
theorem kw_1526 : Cond.code yX12_noTray cX12_noTray 2 (some (.int)) ∈ gw := gw_of (tb_of 1526 (by decide +kernel)) (by decide +kernel)
theorem kw_1528 : Cond.methodLink "FootholdWallModel" 292 yX12_told ∈ gw := gw_of (tb_of 1528 (by decide +kernel)) (by decide +kernel)
theorem kw_1530 : Cond.instanceMethod yX12_told ∈ gw := gw_of (tb_of 1530 (by decide +kernel)) (by decide +kernel)
theorem kw_1531 : Cond.code yX12_told cX12_told 8 (some (.int)) ∈ gw := gw_of (tb_of 1531 (by decide +kernel)) (by decide +kernel)
theorem kw_1532 : Cond.methodLink "FootholdWallModel" 283 yX12_whyNot ∈ gw := gw_of (tb_of 1532 (by decide +kernel)) (by decide +kernel)
theorem kw_1534 : Cond.instanceMethod yX12_whyNot ∈ gw := gw_of (tb_of 1534 (by decide +kernel)) (by decide +kernel)
theorem kw_1535 : Cond.code yX12_whyNot cX12_whyNot 7 (some (.int)) ∈ gw := gw_of (tb_of 1535 (by decide +kernel)) (by decide +kernel)
theorem ks_75 : Cond.selects RX12 yX12_noTray yX12_noTray ∈ gw := gw_of (pv_of 75 (by decide +kernel)) (by decide +kernel)
theorem ks_76 : Cond.selects RX12 yX12_told yX12_told ∈ gw := gw_of (pv_of 76 (by decide +kernel)) (by decide +kernel)
theorem ks_77 : Cond.selects RX12 yX12_whyNot yX12_whyNot ∈ gw := gw_of (pv_of 77 (by decide +kernel)) (by decide +kernel)
section ThRows8
variable {p : Program} {l : Launch} {e : Env} {R : Room} {s : State} {m : MethodId} {args : Array Value} {below : List Frame} {meth : Method} {c : Code} {H : Heap} {locs : List Loc} {cells slots : Nat} {Q : State → Prop}
variable {cc : ByteArray} {pc : Nat} {ls : Array Slot} {rest : List Value} {D : va_G} {A : Nat → Prop} {a : Nat} {cs : CS} {T : TF} {O : List Nat} {X : va_W} {H0 : Heap}
theorem xa_lld {n : Nat} {f : Nat → Int64} {j : Int32} (hx : p.tables.exec = Jvm.exec) (hb : c.code = cc) (hkb : kb D (tyc cs) s) (hH : HT D cs A T O X H) (i : Nat) (hi : X[i]? = some (a, .inl (cs.2.2.1, n, .inr (.inl f)))) (h0 : 0 ≤ j.toInt) (h1 : j.toInt < n) (hdg : decode cc pc = .ok (.laload, 1))
    (kk : W p l e R s m args below meth c H locs cells slots Q (F0 m (pc + 1) ls (.long (f j.toNatClampNeg) :: rest))) : W p l e R s m args below meth c H locs cells slots Q (F0 m pc ls (.int j :: .ref a :: rest)) := by
  obtain ⟨ws, hP, hD, h3, h4⟩ := hH
  exact va_lald hx hb hkb.1 hP i 2 (ap_l hi) rfl (in_t h0 h1) hdg kk
end ThRows8
set_option maxHeartbeats 4000000 in
set_option maxRecDepth 100000 in
theorem s_M_told (l : Launch) (D : va_G) (cs : CS) (kf : KF) (T : TF) (O : List Nat) (X : va_W) (a0 hg mq : Nat) (x1 : Int32) (t_a0 : T a0 = some (22, hg, mq)) (b_hg : hg < 90) (l_x1 : 0 ≤ x1.toInt) (u_x1 : x1.toInt ≤ 3) (hO : okO T O [1, 2, 8, 9, 22]) : TK l D cs kf yX12_told cX12_told 8 (some (.int)) { frames := 4, cells := 0, slots := 0, locals := 100 } [.ref a0, .int x1] T O X (Ti D cs (fun r u => u = (T, O, X) ∧ -1 ≤ r.toInt ∧ r.toInt ≤ 40)) := by
  refine tk_of (by decide) (Nat.le_of_ble_eq_true rfl) (fun p e s m below meth c ls A H locs hx hb hr hml hown hts hlocks hnm hkb hH hS hA hOX hks hE hl => ?_)
  have hown : s.vm.findClass RX12 = some m.cls := hown
  have hl : lv_has ls 8 [(0, .ref a0), (1, .int x1)] := hl
  have hO0 := hO
  obtain ⟨fs9, ho9, hH⟩ := hH.take t_a0 (hO0.no t_a0 (by decide))
  have hp0 : okL T (ft12 hg mq) fs9 := ho9
  clear ho9
  obtain ⟨v9, fs9, rfl, h9, hp1⟩ := okL_i hp0
  obtain ⟨q0_0, rfl⟩ := h9
  obtain ⟨v9, fs9, rfl, h9, hp2⟩ := okL_i hp1
  obtain ⟨q0_1, rfl, t_q0_1⟩ := h9
  obtain ⟨v9, fs9, rfl, h9, hp3⟩ := okL_i hp2
  obtain ⟨q0_2, rfl, t_q0_2⟩ := h9
  obtain ⟨v9, fs9, rfl, h9, hp4⟩ := okL_i hp3
  obtain ⟨q0_3, rfl, t_q0_3⟩ := h9
  obtain ⟨v9, fs9, rfl, h9, hp5⟩ := okL_i hp4
  obtain ⟨q0_4, rfl, t_q0_4⟩ := h9
  obtain ⟨v9, fs9, rfl, h9, hp6⟩ := okL_i hp5
  obtain ⟨q0_5, rfl, l_q0_5, u_q0_5⟩ := h9
  obtain ⟨v9, fs9, rfl, h9, hp7⟩ := okL_i hp6
  obtain ⟨q0_6, rfl⟩ := h9
  obtain ⟨v9, fs9, rfl, h9, hp8⟩ := okL_i hp7
  obtain ⟨q0_7, rfl⟩ := h9
  obtain ⟨v9, fs9, rfl, h9, hp9⟩ := okL_i hp8
  obtain ⟨q0_8, rfl⟩ := h9
  obtain ⟨v9, fs9, rfl, h9, hp10⟩ := okL_i hp9
  obtain ⟨q0_9, rfl⟩ := h9
  obtain ⟨v9, fs9, rfl, h9, hp11⟩ := okL_i hp10
  obtain ⟨q0_10, rfl, l_q0_10, u_q0_10⟩ := h9
  obtain ⟨v9, fs9, rfl, h9, hp12⟩ := okL_i hp11
  obtain ⟨q0_11, rfl⟩ := h9
  obtain ⟨v9, fs9, rfl, h9, hp13⟩ := okL_i hp12
  obtain ⟨q0_12, rfl⟩ := h9
  obtain ⟨v9, fs9, rfl, h9, hp14⟩ := okL_i hp13
  obtain ⟨q0_13, rfl⟩ := h9
  obtain ⟨v9, fs9, rfl, h9, hp15⟩ := okL_i hp14
  obtain ⟨q0_14, rfl⟩ := h9
  obtain ⟨v9, fs9, rfl, h9, hp16⟩ := okL_i hp15
  obtain ⟨q0_15, rfl, t_q0_15⟩ := h9
  obtain ⟨v9, fs9, rfl, h9, hp17⟩ := okL_i hp16
  obtain ⟨q0_16, rfl⟩ := h9
  obtain ⟨v9, fs9, rfl, h9, hp18⟩ := okL_i hp17
  obtain ⟨q0_17, rfl, t_q0_17⟩ := h9
  obtain ⟨v9, fs9, rfl, h9, hp19⟩ := okL_i hp18
  obtain ⟨q0_18, rfl, t_q0_18⟩ := h9
  obtain ⟨v9, fs9, rfl, h9, hp20⟩ := okL_i hp19
  obtain ⟨q0_19, rfl, t_q0_19⟩ := h9
  obtain ⟨v9, fs9, rfl, h9, hp21⟩ := okL_i hp20
  obtain ⟨q0_20, rfl, l_q0_20, u_q0_20⟩ := h9
  obtain ⟨v9, fs9, rfl, h9, hp22⟩ := okL_i hp21
  obtain ⟨q0_21, rfl, t_q0_21⟩ := h9
  obtain ⟨v9, fs9, rfl, h9, hp23⟩ := okL_i hp22
  obtain ⟨q0_22, rfl, t_q0_22⟩ := h9
  obtain ⟨v9, fs9, rfl, h9, hp24⟩ := okL_i hp23
  obtain ⟨q0_23, rfl⟩ := h9
  obtain ⟨v9, fs9, rfl, h9, hp25⟩ := okL_i hp24
  obtain ⟨q0_24, rfl⟩ := h9
  obtain ⟨v9, fs9, rfl, h9, hp26⟩ := okL_i hp25
  obtain ⟨q0_25, rfl⟩ := h9
  obtain ⟨v9, fs9, rfl, h9, hp27⟩ := okL_i hp26
  obtain ⟨q0_26, rfl, t_q0_26⟩ := h9
  obtain ⟨v9, fs9, rfl, h9, hp28⟩ := okL_i hp27
  obtain ⟨q0_27, rfl, t_q0_27⟩ := h9
  obtain ⟨v9, fs9, rfl, h9, hp29⟩ := okL_i hp28
  obtain ⟨q0_28, rfl, t_q0_28⟩ := h9
  obtain ⟨v9, fs9, rfl, h9, hp30⟩ := okL_i hp29
  obtain ⟨q0_29, rfl, t_q0_29⟩ := h9
  obtain ⟨v9, fs9, rfl, h9, hp31⟩ := okL_i hp30
  obtain ⟨q0_30, rfl, t_q0_30⟩ := h9
  obtain ⟨v9, fs9, rfl, h9, hp32⟩ := okL_i hp31
  obtain ⟨q0_31, rfl, t_q0_31⟩ := h9
  obtain ⟨v9, fs9, rfl, h9, hp33⟩ := okL_i hp32
  obtain ⟨q0_32, rfl⟩ := h9
  obtain ⟨v9, fs9, rfl, h9, hp34⟩ := okL_i hp33
  obtain ⟨q0_33, rfl, t_q0_33⟩ := h9
  obtain ⟨v9, fs9, rfl, h9, hp35⟩ := okL_i hp34
  obtain ⟨q0_34, rfl, t_q0_34⟩ := h9
  obtain ⟨v9, fs9, rfl, h9, hp36⟩ := okL_i hp35
  obtain ⟨q0_35, rfl, t_q0_35⟩ := h9
  have hpz := okL_z hp36
  subst hpz
  have hH : HT D cs A T (a0 :: O) ((a0, .inr (12, [.int q0_0, .ref q0_1, .ref q0_2, .ref q0_3, .ref q0_4, .int q0_5, .int q0_6, .int q0_7, .int q0_8, .int q0_9, .int q0_10, .int q0_11, .int q0_12, .int q0_13, .int q0_14, .ref q0_15, .int q0_16, .ref q0_17, .ref q0_18, .ref q0_19, .int q0_20, .ref q0_21, .ref q0_22, .int q0_23, .int q0_24, .int q0_25, .ref q0_26, .ref q0_27, .ref q0_28, .ref q0_29, .ref q0_30, .ref q0_31, .int q0_32, .ref q0_33, .ref q0_34, .ref q0_35])) :: X) H := hH
  have hO : okO T (a0 :: O) [1, 2, 8, 9] := okO.cons (hO0.sub (by decide)) t_a0 (by decide)
  obtain ⟨e9, hs9, hH⟩ := HT.takeA hH t_q0_35 (nm_c (tag_ne t_q0_35 t_a0 (fun q => absurd (show 2 = 22 from congrArg Prod.fst q) (by decide))) (hO0.no t_q0_35 (by decide)))
  obtain ⟨f35, rfl⟩ : ∃ f : Nat → Int64, e9 = .inl (cs.2.2.1, 160, .inr (.inl f)) := hs9
  have hO : okO T (q0_35 :: a0 :: O) [1, 9] := okO.cons (hO.sub (by decide)) t_q0_35 (by decide)
  have hH : HT D cs A T (a0 :: q0_35 :: O) ((a0, .inr (12, [.int q0_0, .ref q0_1, .ref q0_2, .ref q0_3, .ref q0_4, .int q0_5, .int q0_6, .int q0_7, .int q0_8, .int q0_9, .int q0_10, .int q0_11, .int q0_12, .int q0_13, .int q0_14, .ref q0_15, .int q0_16, .ref q0_17, .ref q0_18, .ref q0_19, .int q0_20, .ref q0_21, .ref q0_22, .int q0_23, .int q0_24, .int q0_25, .ref q0_26, .ref q0_27, .ref q0_28, .ref q0_29, .ref q0_30, .ref q0_31, .int q0_32, .ref q0_33, .ref q0_34, .ref q0_35])) :: (q0_35, .inl (cs.2.2.1, 160, .inr (.inl f35))) :: X) H := HT.swap hH
  have hO := okO.swap hO
  obtain ⟨e9, hs9, hH⟩ := HT.takeA hH t_q0_1 (nm_c (tag_ne t_q0_1 t_a0 (by first | decide | exact fun q => absurd (show 8 = 22 from congrArg Prod.fst q) (by decide))) (nm_c (tag_ne t_q0_1 t_q0_35 (fun q => absurd (show 8 = 2 from congrArg Prod.fst q) (by decide))) (hO0.no t_q0_1 (by decide))))
  obtain ⟨f1, rfl, s_f1, g_f1⟩ : ∃ f : Nat → Int32, e9 = .inl (cs.2.1, 3906, .inl f) ∧ B8 3906 f ∧ (3906 = 3906 → f 1 = nI (hg / 6) ∧ f 2 = nI (hg % 6)) := hs9
  have g_f1 := g_f1 rfl
  have hO : okO T (q0_1 :: a0 :: q0_35 :: O) [1, 9] := okO.cons (hO.sub (by decide)) t_q0_1 (by decide)
  refine lv_aload_n hx hb dX12_told_0 rfl (lv_at hl 0 rfl) ?_
  refine lv_iconst (v := 0) hx hb dX12_told_1 (by decide) ?_
  refine x_putk (ci := 12) (v := .int 0) (ty := tyX12 23) (C := RX12) (F := TX12) (N := 36) hx hb hts uX12 tyX12 tyX12_ok nmX12 hown hkb hH hS 1 rfl rfl 23 (by decide) kw_1246 (fun _ h9 => h9) rfl (tyX12_ok 23 (by decide)) rfl rfl (Nat.le_of_ble_eq_true rfl) dX12_told_2 (fun H locs hH hS => ?_)
  have hH : HT D cs A T (q0_1 :: a0 :: q0_35 :: O) ((q0_1, .inl (cs.2.1, 3906, .inl f1)) :: (a0, .inr (12, [.int q0_0, .ref q0_1, .ref q0_2, .ref q0_3, .ref q0_4, .int q0_5, .int q0_6, .int q0_7, .int q0_8, .int q0_9, .int q0_10, .int q0_11, .int q0_12, .int q0_13, .int q0_14, .ref q0_15, .int q0_16, .ref q0_17, .ref q0_18, .ref q0_19, .int q0_20, .ref q0_21, .ref q0_22, .int 0, .int q0_24, .int q0_25, .ref q0_26, .ref q0_27, .ref q0_28, .ref q0_29, .ref q0_30, .ref q0_31, .int q0_32, .ref q0_33, .ref q0_34, .ref q0_35])) :: (q0_35, .inl (cs.2.2.1, 160, .inr (.inl f35))) :: X) H := hH
  refine lv_aload_n hx hb dX12_told_5 rfl (lv_at hl 0 rfl) ?_
  refine lv_iconst (v := 0) hx hb dX12_told_6 (by decide) ?_
  refine x_putk (ci := 12) (v := .int 0) (ty := tyX12 24) (C := RX12) (F := TX12) (N := 36) hx hb hts uX12 tyX12 tyX12_ok nmX12 hown hkb hH hS 1 rfl rfl 24 (by decide) kw_1247 (fun _ h9 => h9) rfl (tyX12_ok 24 (by decide)) rfl rfl (Nat.le_of_ble_eq_true rfl) dX12_told_7 (fun H locs hH hS => ?_)
  have hH : HT D cs A T (q0_1 :: a0 :: q0_35 :: O) ((q0_1, .inl (cs.2.1, 3906, .inl f1)) :: (a0, .inr (12, [.int q0_0, .ref q0_1, .ref q0_2, .ref q0_3, .ref q0_4, .int q0_5, .int q0_6, .int q0_7, .int q0_8, .int q0_9, .int q0_10, .int q0_11, .int q0_12, .int q0_13, .int q0_14, .ref q0_15, .int q0_16, .ref q0_17, .ref q0_18, .ref q0_19, .int q0_20, .ref q0_21, .ref q0_22, .int 0, .int 0, .int q0_25, .ref q0_26, .ref q0_27, .ref q0_28, .ref q0_29, .ref q0_30, .ref q0_31, .int q0_32, .ref q0_33, .ref q0_34, .ref q0_35])) :: (q0_35, .inl (cs.2.2.1, 160, .inr (.inl f35))) :: X) H := hH
  refine lv_aload_n hx hb dX12_told_10 rfl (lv_at hl 0 rfl) ?_
  refine lv_iconst (v := 0) hx hb dX12_told_11 (by decide) ?_
  refine x_putk (ci := 12) (v := .int 0) (ty := tyX12 20) (C := RX12) (F := TX12) (N := 36) hx hb hts uX12 tyX12 tyX12_ok nmX12 hown hkb hH hS 1 rfl rfl 20 (by decide) kw_1243 (fun _ h9 => h9) rfl (tyX12_ok 20 (by decide)) rfl rfl (Nat.le_of_ble_eq_true rfl) dX12_told_12 (fun H locs hH hS => ?_)
  have hH : HT D cs A T (q0_1 :: a0 :: q0_35 :: O) ((q0_1, .inl (cs.2.1, 3906, .inl f1)) :: (a0, .inr (12, [.int q0_0, .ref q0_1, .ref q0_2, .ref q0_3, .ref q0_4, .int q0_5, .int q0_6, .int q0_7, .int q0_8, .int q0_9, .int q0_10, .int q0_11, .int q0_12, .int q0_13, .int q0_14, .ref q0_15, .int q0_16, .ref q0_17, .ref q0_18, .ref q0_19, .int 0, .ref q0_21, .ref q0_22, .int 0, .int 0, .int q0_25, .ref q0_26, .ref q0_27, .ref q0_28, .ref q0_29, .ref q0_30, .ref q0_31, .int q0_32, .ref q0_33, .ref q0_34, .ref q0_35])) :: (q0_35, .inl (cs.2.2.1, 160, .inr (.inl f35))) :: X) H := hH
  refine lv_aload_n hx hb dX12_told_15 rfl (lv_at hl 0 rfl) ?_
  refine x_getk (ci := 12) (C := RX12) (F := TX12) (N := 36) (v := .ref q0_34) hx hb hts uX12 hown hkb hH 1 rfl rfl 34 (by decide) rfl kw_1257 (fun _ h9 => h9) dX12_told_16 ?_
  refine lv_iload_n hx hb dX12_told_19 rfl (lv_at hl 1 rfl) ?_
  refine t_ild4 hx hb hkb hH t_q0_34 (hO.no t_q0_34 (by decide)) (by omega) (by omega) dX12_told_20 (fun v20 pv_v20 l_v20 u_v20 => ?_)
  have l_v20 : 0 ≤ v20.toInt := by rw [pv_v20]; exact pvr_nn _ _
  refine lv_istore_n (lv' := [(2, .int v20), (0, .ref a0), (1, .int x1)]) hx hb dX12_told_21 rfl hl (by decide) rfl (fun ls hl => ?_)
  refine lv_iload_n hx hb dX12_told_22 rfl (lv_at hl 0 rfl) ?_
  have J42 : ∀  (H : Heap) (locs : List Loc) (ls : Array Slot), HT D cs A T (q0_1 :: a0 :: q0_35 :: O) ((q0_1, .inl (cs.2.1, 3906, .inl f1)) :: (a0, .inr (12, [.int q0_0, .ref q0_1, .ref q0_2, .ref q0_3, .ref q0_4, .int q0_5, .int q0_6, .int q0_7, .int q0_8, .int q0_9, .int q0_10, .int q0_11, .int q0_12, .int q0_13, .int q0_14, .ref q0_15, .int q0_16, .ref q0_17, .ref q0_18, .ref q0_19, .int 0, .ref q0_21, .ref q0_22, .int 0, .int 0, .int q0_25, .ref q0_26, .ref q0_27, .ref q0_28, .ref q0_29, .ref q0_30, .ref q0_31, .int q0_32, .ref q0_33, .ref q0_34, .ref q0_35])) :: (q0_35, .inl (cs.2.2.1, 160, .inr (.inl f35))) :: X) H → va_S A s.heap H locs → lv_has ls 8 [(0, .ref a0)] → W p l e { frames := 4, cells := 0, slots := 0, locals := 100 } s m [.ref a0, .int x1].toArray below meth c H locs 0 0 (MQ below (Ti D cs (fun r u => u = (T, O, X) ∧ -1 ≤ r.toInt ∧ r.toInt ≤ 40) A) [.ref a0, .int x1].toArray s 0 0 A) (F0 m 42 ls []) := by
    intro  H locs ls  hH hS hl
    refine lv_aload_n hx hb dX12_told_42 rfl (lv_at hl 0 rfl) ?_
    refine lv_iconst (v := 1) hx hb dX12_told_43 (by decide) ?_
    refine x_putk (ci := 12) (v := .int 1) (ty := tyX12 23) (C := RX12) (F := TX12) (N := 36) hx hb hts uX12 tyX12 tyX12_ok nmX12 hown hkb hH hS 1 rfl rfl 23 (by decide) kw_1246 (fun _ h9 => h9) rfl (tyX12_ok 23 (by decide)) rfl rfl (Nat.le_of_ble_eq_true rfl) dX12_told_44 (fun H locs hH hS => ?_)
    have hH : HT D cs A T (q0_1 :: a0 :: q0_35 :: O) ((q0_1, .inl (cs.2.1, 3906, .inl f1)) :: (a0, .inr (12, [.int q0_0, .ref q0_1, .ref q0_2, .ref q0_3, .ref q0_4, .int q0_5, .int q0_6, .int q0_7, .int q0_8, .int q0_9, .int q0_10, .int q0_11, .int q0_12, .int q0_13, .int q0_14, .ref q0_15, .int q0_16, .ref q0_17, .ref q0_18, .ref q0_19, .int 0, .ref q0_21, .ref q0_22, .int 1, .int 0, .int q0_25, .ref q0_26, .ref q0_27, .ref q0_28, .ref q0_29, .ref q0_30, .ref q0_31, .int q0_32, .ref q0_33, .ref q0_34, .ref q0_35])) :: (q0_35, .inl (cs.2.2.1, 160, .inr (.inl f35))) :: X) H := hH
    refine lv_iconst (v := 0) hx hb dX12_told_47 (by decide) ?_
    have hH : HT D cs A T (a0 :: q0_35 :: O) ((a0, .inr (12, [.int q0_0, .ref q0_1, .ref q0_2, .ref q0_3, .ref q0_4, .int q0_5, .int q0_6, .int q0_7, .int q0_8, .int q0_9, .int q0_10, .int q0_11, .int q0_12, .int q0_13, .int q0_14, .ref q0_15, .int q0_16, .ref q0_17, .ref q0_18, .ref q0_19, .int 0, .ref q0_21, .ref q0_22, .int 1, .int 0, .int q0_25, .ref q0_26, .ref q0_27, .ref q0_28, .ref q0_29, .ref q0_30, .ref q0_31, .int q0_32, .ref q0_33, .ref q0_34, .ref q0_35])) :: (q0_35, .inl (cs.2.2.1, 160, .inr (.inl f35))) :: X) H := HT.layA hH t_q0_1 (show sp cs T (8, 3906, hg) _ from ⟨_, rfl, s_f1, fun _ => g_f1⟩)
    have hH : HT D cs A T (q0_35 :: O) ((q0_35, .inl (cs.2.2.1, 160, .inr (.inl f35))) :: X) H := HT.lay (ci := 12) hH t_a0 (okL_c (⟨_, rfl⟩) (okL_c (⟨_, rfl, t_q0_1⟩) (okL_c (⟨_, rfl, t_q0_2⟩) (okL_c (⟨_, rfl, t_q0_3⟩) (okL_c (⟨_, rfl, t_q0_4⟩) (okL_c (⟨_, rfl, by omega, by omega⟩) (okL_c (⟨_, rfl⟩) (okL_c (⟨_, rfl⟩) (okL_c (⟨_, rfl⟩) (okL_c (⟨_, rfl⟩) (okL_c (⟨_, rfl, by omega, by omega⟩) (okL_c (⟨_, rfl⟩) (okL_c (⟨_, rfl⟩) (okL_c (⟨_, rfl⟩) (okL_c (⟨_, rfl⟩) (okL_c (⟨_, rfl, t_q0_15⟩) (okL_c (⟨_, rfl⟩) (okL_c (⟨_, rfl, t_q0_17⟩) (okL_c (⟨_, rfl, t_q0_18⟩) (okL_c (⟨_, rfl, t_q0_19⟩) (okL_c (⟨_, rfl, by decide, by decide⟩) (okL_c (⟨_, rfl, t_q0_21⟩) (okL_c (⟨_, rfl, t_q0_22⟩) (okL_c (⟨_, rfl⟩) (okL_c (⟨_, rfl⟩) (okL_c (⟨_, rfl⟩) (okL_c (⟨_, rfl, t_q0_26⟩) (okL_c (⟨_, rfl, t_q0_27⟩) (okL_c (⟨_, rfl, t_q0_28⟩) (okL_c (⟨_, rfl, t_q0_29⟩) (okL_c (⟨_, rfl, t_q0_30⟩) (okL_c (⟨_, rfl, t_q0_31⟩) (okL_c (⟨_, rfl⟩) (okL_c (⟨_, rfl, t_q0_33⟩) (okL_c (⟨_, rfl, t_q0_34⟩) (okL_c (⟨_, rfl, t_q0_35⟩) (okL_n)))))))))))))))))))))))))))))))))))))
    have hO := hO0
    have hH : HT D cs A T O X H := HT.layA hH t_q0_35 (show sp cs T (2, 160, 0) _ from ⟨_, rfl⟩)
    have z9_0 : (0 : Int32).toInt = 0 := by decide
    exact te_i hx hb hr hlocks hH hS (⟨rfl, by decide, by decide⟩) dX12_told_48
  refine lv_if_eq (tgt := 42) hx hb dX12_told_23 (by decide) (fun c23 => ?_) (fun c23 => ?_)
  · skip
    have tc23 := f_eq (k := 0) (by decide) c23
    exact J42  _ _ _  hH hS (lv_sub hl [1] rfl)
  · skip
    have tc23 := f_ne (k := 0) (by decide) c23
    refine lv_aload_n hx hb dX12_told_26 rfl (lv_at hl 1 rfl) ?_
    refine lv_aload_n hx hb dX12_told_27 rfl (lv_at hl 1 rfl) ?_
    refine x_getk (ci := 12) (C := RX12) (F := TX12) (N := 36) (v := .ref q0_35) hx hb hts uX12 hown hkb hH 1 rfl rfl 35 (by decide) rfl kw_1258 (fun _ h9 => h9) dX12_told_28 ?_
    refine lv_bipush (v := 40) hx hb dX12_told_31 (by decide) ?_
    refine lv_iload_n hx hb dX12_told_33 rfl (lv_at hl 2 rfl) ?_
    refine lv_imul hx hb dX12_told_34 ?_
    refine lv_topi (fun v34 ev34 => ?_)
    have tv34 : v34.toInt = (40) * x1.toInt := by rw [ev34]; exact mul_i (by decide : (40 : Int32).toInt = 40) rfl (by omega) (by omega)
    refine xa_lld hx hb hkb hH 2 rfl (by omega) (by omega) dX12_told_35 ?_
    refine lv_topl (fun v35 ev35 => ?_)
    have z9_0 : (0 : Int32).toInt = 0 := by decide
    have z9_0 : (0 : Int32).toInt = 0 := by decide
    have z9_0 : (0 : Int32).toInt = 0 := by decide
    refine tk_i hH hS hA (tr_V (n := 1) (As := [.long v35]) hx hb hml hown hts hkb hH (ox_c (ox_c (ox_c hOX))) hks hE hS hA (s_M_isGuideX l D cs kf T (q0_35 :: O) ((q0_35, .inl (cs.2.2.1, 160, .inr (.inl f35))) :: X) a0 hg mq v35 f1 (.int q0_0) q0_1 (.ref q0_2) (.ref q0_3) (.ref q0_4) (.int q0_5) (.int q0_6) (.int q0_7) (.int q0_8) (.int q0_9) (.int q0_10) (.int q0_11) (.int q0_12) (.int q0_13) (.int q0_14) q0_15 q0_16 [.ref q0_17, .ref q0_18, .ref q0_19, .int 0, .ref q0_21, .ref q0_22, .int 0, .int 0, .int q0_25, .ref q0_26, .ref q0_27, .ref q0_28, .ref q0_29, .ref q0_30, .ref q0_31, .int q0_32, .ref q0_33, .ref q0_34, .ref q0_35] t_a0 b_hg s_f1 g_f1 t_q0_1 t_q0_15 (hO.sub (by decide))) kw_1470 kw_1472 ks_67 kw_13 kw_1473 (by decide +kernel) ⟨Nat.le_of_ble_eq_true rfl, Nat.le_of_ble_eq_true rfl⟩ (x_recv (ci := 12) hkb hH 1 rfl rfl) rfl rfl hl.1 (Nat.le_of_ble_eq_true rfl) dX12_told_36 ⟨Nat.le_of_ble_eq_true rfl, Nat.le_of_ble_eq_true rfl⟩) (fun v36 u H locs hz9 hH hS => ?_)
    obtain ⟨rfl, l_v36, u_v36, x_v360⟩ := hz9
    have hH : HT D cs A T (q0_1 :: a0 :: q0_35 :: O) ((q0_1, .inl (cs.2.1, 3906, .inl f1)) :: (a0, .inr (12, [.int q0_0, .ref q0_1, .ref q0_2, .ref q0_3, .ref q0_4, .int q0_5, .int q0_6, .int q0_7, .int q0_8, .int q0_9, .int q0_10, .int q0_11, .int q0_12, .int q0_13, .int q0_14, .ref q0_15, .int q0_16, .ref q0_17, .ref q0_18, .ref q0_19, .int 0, .ref q0_21, .ref q0_22, .int 0, .int 0, .int q0_25, .ref q0_26, .ref q0_27, .ref q0_28, .ref q0_29, .ref q0_30, .ref q0_31, .int q0_32, .ref q0_33, .ref q0_34, .ref q0_35])) :: (q0_35, .inl (cs.2.2.1, 160, .inr (.inl f35))) :: X) H := hH
    refine W.widen (k := 0) (n := 0) (Nat.le_of_ble_eq_true rfl) (Nat.le_of_ble_eq_true rfl) ?_
    refine lv_if_ne (tgt := 49) hx hb dX12_told_39 (by decide) (fun c39 => ?_) (fun c39 => ?_)
    · skip
      have tc39 := f_ne (k := 0) (by decide) c39
      replace x_v360 := x_v360.resolve_left tc39
      refine lv_iconst (v := 0) hx hb dX12_told_49 (by decide) ?_
      refine lv_istore_n (lv' := [(3, .int 0), (2, .int v20), (0, .ref a0), (1, .int x1)]) hx hb dX12_told_50 rfl hl (by decide) rfl (fun ls hl => ?_)
      refine lv_iconst (v := (-1)) hx hb dX12_told_51 (by decide) ?_
      refine lv_istore (lv' := [(4, .int (-1)), (3, .int 0), (2, .int v20), (0, .ref a0), (1, .int x1)]) hx hb dX12_told_52 hl (by decide) rfl (fun ls hl => ?_)
      refine lv_iconst (v := 1) hx hb dX12_told_54 (by decide) ?_
      have J57 : ∀ (n : Nat) (p57_5 : Int32) (p57_4 : Int32) (p57_3 : Int32) (f57_216 : Int32) (f57_220 : Int32) (f57_223 : Int32) (f57_224 : Int32) (H : Heap) (locs : List Loc) (ls : Array Slot), (40 - p57_5.toInt).toNat = n → (1 ≤ p57_5.toInt) → (p57_5.toInt ≤ 40) → (-1 ≤ p57_4.toInt) → (p57_4.toInt ≤ 13) → (0 ≤ f57_220.toInt) → (f57_220.toInt ≤ 14) → (0 ≤ f57_223.toInt) → (f57_223.toInt ≤ 0) → (TD p57_3 f57_220) → HT D cs A T (q0_1 :: a0 :: q0_35 :: O) ((q0_1, .inl (cs.2.1, 3906, .inl f1)) :: (a0, .inr (12, [.int q0_0, .ref q0_1, .ref q0_2, .ref q0_3, .ref q0_4, .int q0_5, .int q0_6, .int q0_7, .int q0_8, .int q0_9, .int q0_10, .int q0_11, .int q0_12, .int q0_13, .int q0_14, .ref q0_15, .int f57_216, .ref q0_17, .ref q0_18, .ref q0_19, .int f57_220, .ref q0_21, .ref q0_22, .int f57_223, .int f57_224, .int q0_25, .ref q0_26, .ref q0_27, .ref q0_28, .ref q0_29, .ref q0_30, .ref q0_31, .int q0_32, .ref q0_33, .ref q0_34, .ref q0_35])) :: (q0_35, .inl (cs.2.2.1, 160, .inr (.inl f35))) :: X) H → va_S A s.heap H locs → lv_has ls 8 [(5, .int p57_5), (4, .int p57_4), (3, .int p57_3), (2, .int v20), (0, .ref a0), (1, .int x1)] → W p l e { frames := 4, cells := 0, slots := 0, locals := 100 } s m [.ref a0, .int x1].toArray below meth c H locs 0 0 (MQ below (Ti D cs (fun r u => u = (T, O, X) ∧ -1 ≤ r.toInt ∧ r.toInt ≤ 40) A) [.ref a0, .int x1].toArray s 0 0 A) (F0 m 57 ls []) := by
        intro n
        induction n using Nat.strongRecOn with
        | _ n ih57 =>
          intro p57_5 p57_4 p57_3 f57_216 f57_220 f57_223 f57_224 H locs ls hm57 l_p57_5 u_p57_5 l_p57_4 u_p57_4 l_f57_220 u_f57_220 l_f57_223 u_f57_223 i57 hH hS hl
          refine lv_iload hx hb dX12_told_57 (lv_at hl 0 rfl) ?_
          refine lv_iload_n hx hb dX12_told_59 rfl (lv_at hl 3 rfl) ?_
          refine lv_icmp_ge (tgt := 176) hx hb dX12_told_60 (by decide) (fun c60 => ?_) (fun c60 => ?_)
          · skip
            have fuc60 := full_i p57_5
            have fvc60 := full_i v20
            have tc60 := g_le c60
            refine lv_iload hx hb dX12_told_176 (lv_at hl 1 rfl) ?_
            refine lv_iconst (v := (-1)) hx hb dX12_told_178 (by decide) ?_
            have J199 : ∀  (H : Heap) (locs : List Loc) (ls : Array Slot), HT D cs A T (q0_1 :: a0 :: q0_35 :: O) ((q0_1, .inl (cs.2.1, 3906, .inl f1)) :: (a0, .inr (12, [.int q0_0, .ref q0_1, .ref q0_2, .ref q0_3, .ref q0_4, .int q0_5, .int q0_6, .int q0_7, .int q0_8, .int q0_9, .int q0_10, .int q0_11, .int q0_12, .int q0_13, .int q0_14, .ref q0_15, .int f57_216, .ref q0_17, .ref q0_18, .ref q0_19, .int f57_220, .ref q0_21, .ref q0_22, .int f57_223, .int f57_224, .int q0_25, .ref q0_26, .ref q0_27, .ref q0_28, .ref q0_29, .ref q0_30, .ref q0_31, .int q0_32, .ref q0_33, .ref q0_34, .ref q0_35])) :: (q0_35, .inl (cs.2.2.1, 160, .inr (.inl f35))) :: X) H → va_S A s.heap H locs → lv_has ls 8 [(2, .int v20), (0, .ref a0)] → W p l e { frames := 4, cells := 0, slots := 0, locals := 100 } s m [.ref a0, .int x1].toArray below meth c H locs 0 0 (MQ below (Ti D cs (fun r u => u = (T, O, X) ∧ -1 ≤ r.toInt ∧ r.toInt ≤ 40) A) [.ref a0, .int x1].toArray s 0 0 A) (F0 m 199 ls []) := by
              intro  H locs ls  hH hS hl
              refine lv_aload_n hx hb dX12_told_199 rfl (lv_at hl 1 rfl) ?_
              refine lv_iconst (v := 4) hx hb dX12_told_200 (by decide) ?_
              refine x_putk (ci := 12) (v := .int 4) (ty := tyX12 23) (C := RX12) (F := TX12) (N := 36) hx hb hts uX12 tyX12 tyX12_ok nmX12 hown hkb hH hS 1 rfl rfl 23 (by decide) kw_1246 (fun _ h9 => h9) rfl (tyX12_ok 23 (by decide)) rfl rfl (Nat.le_of_ble_eq_true rfl) dX12_told_201 (fun H locs hH hS => ?_)
              have hH : HT D cs A T (q0_1 :: a0 :: q0_35 :: O) ((q0_1, .inl (cs.2.1, 3906, .inl f1)) :: (a0, .inr (12, [.int q0_0, .ref q0_1, .ref q0_2, .ref q0_3, .ref q0_4, .int q0_5, .int q0_6, .int q0_7, .int q0_8, .int q0_9, .int q0_10, .int q0_11, .int q0_12, .int q0_13, .int q0_14, .ref q0_15, .int f57_216, .ref q0_17, .ref q0_18, .ref q0_19, .int f57_220, .ref q0_21, .ref q0_22, .int 4, .int f57_224, .int q0_25, .ref q0_26, .ref q0_27, .ref q0_28, .ref q0_29, .ref q0_30, .ref q0_31, .int q0_32, .ref q0_33, .ref q0_34, .ref q0_35])) :: (q0_35, .inl (cs.2.2.1, 160, .inr (.inl f35))) :: X) H := hH
              refine lv_iload_n hx hb dX12_told_204 rfl (lv_at hl 0 rfl) ?_
              have hH : HT D cs A T (a0 :: q0_35 :: O) ((a0, .inr (12, [.int q0_0, .ref q0_1, .ref q0_2, .ref q0_3, .ref q0_4, .int q0_5, .int q0_6, .int q0_7, .int q0_8, .int q0_9, .int q0_10, .int q0_11, .int q0_12, .int q0_13, .int q0_14, .ref q0_15, .int f57_216, .ref q0_17, .ref q0_18, .ref q0_19, .int f57_220, .ref q0_21, .ref q0_22, .int 4, .int f57_224, .int q0_25, .ref q0_26, .ref q0_27, .ref q0_28, .ref q0_29, .ref q0_30, .ref q0_31, .int q0_32, .ref q0_33, .ref q0_34, .ref q0_35])) :: (q0_35, .inl (cs.2.2.1, 160, .inr (.inl f35))) :: X) H := HT.layA hH t_q0_1 (show sp cs T (8, 3906, hg) _ from ⟨_, rfl, s_f1, fun _ => g_f1⟩)
              have hH : HT D cs A T (q0_35 :: O) ((q0_35, .inl (cs.2.2.1, 160, .inr (.inl f35))) :: X) H := HT.lay (ci := 12) hH t_a0 (okL_c (⟨_, rfl⟩) (okL_c (⟨_, rfl, t_q0_1⟩) (okL_c (⟨_, rfl, t_q0_2⟩) (okL_c (⟨_, rfl, t_q0_3⟩) (okL_c (⟨_, rfl, t_q0_4⟩) (okL_c (⟨_, rfl, by omega, by omega⟩) (okL_c (⟨_, rfl⟩) (okL_c (⟨_, rfl⟩) (okL_c (⟨_, rfl⟩) (okL_c (⟨_, rfl⟩) (okL_c (⟨_, rfl, by omega, by omega⟩) (okL_c (⟨_, rfl⟩) (okL_c (⟨_, rfl⟩) (okL_c (⟨_, rfl⟩) (okL_c (⟨_, rfl⟩) (okL_c (⟨_, rfl, t_q0_15⟩) (okL_c (⟨_, rfl⟩) (okL_c (⟨_, rfl, t_q0_17⟩) (okL_c (⟨_, rfl, t_q0_18⟩) (okL_c (⟨_, rfl, t_q0_19⟩) (okL_c (⟨_, rfl, by omega, by omega⟩) (okL_c (⟨_, rfl, t_q0_21⟩) (okL_c (⟨_, rfl, t_q0_22⟩) (okL_c (⟨_, rfl⟩) (okL_c (⟨_, rfl⟩) (okL_c (⟨_, rfl⟩) (okL_c (⟨_, rfl, t_q0_26⟩) (okL_c (⟨_, rfl, t_q0_27⟩) (okL_c (⟨_, rfl, t_q0_28⟩) (okL_c (⟨_, rfl, t_q0_29⟩) (okL_c (⟨_, rfl, t_q0_30⟩) (okL_c (⟨_, rfl, t_q0_31⟩) (okL_c (⟨_, rfl⟩) (okL_c (⟨_, rfl, t_q0_33⟩) (okL_c (⟨_, rfl, t_q0_34⟩) (okL_c (⟨_, rfl, t_q0_35⟩) (okL_n)))))))))))))))))))))))))))))))))))))
              have hO := hO0
              have hH : HT D cs A T O X H := HT.layA hH t_q0_35 (show sp cs T (2, 160, 0) _ from ⟨_, rfl⟩)
              exact te_i hx hb hr hlocks hH hS (⟨rfl, by omega, by omega⟩) dX12_told_205
            refine lv_icmp_eq (tgt := 199) hx hb dX12_told_179 (by decide) (fun c179 => ?_) (fun c179 => ?_)
            · skip
              have tc179 := f_eq (k := -1) (by decide) c179
              exact J199  _ _ _  hH hS (lv_sub hl [3, 4] rfl)
            · skip
              have tc179 := f_ne (k := -1) (by decide) c179
              refine lv_aload_n hx hb dX12_told_182 rfl (lv_at hl 4 rfl) ?_
              refine x_getk (ci := 12) (C := RX12) (F := TX12) (N := 36) (v := .ref q0_1) hx hb hts uX12 hown hkb hH 1 rfl rfl 1 (by decide) rfl kw_1224 (fun _ h9 => h9) dX12_told_183 ?_
              refine lv_iconst (v := 5) hx hb dX12_told_186 (by decide) ?_
              refine xa_ild hx hb hkb hH 0 rfl (by decide) (by decide) dX12_told_187 ?_
              refine lv_topi (fun v187 ev187 => ?_)
              have tv187 : v187 = f1 5 := by rw [ev187]; rfl
              have bv187 : 0 ≤ v187.toInt ∧ v187.toInt ≤ 16383 := by rw [ev187]; exact (s_f1.at (by decide) 5).2.2.2.1 (by decide)
              refine lv_i2l hx hb dX12_told_188 rfl ?_
              refine lv_iload hx hb dX12_told_189 (lv_at hl 1 rfl) ?_
              refine tk_i hH hS hA (tr_S (n := 2) (As := [.long v187.toInt64, .int p57_4]) hx hb hml hown hts hkb hH (ox_c (ox_c (ox_c hOX))) hks hE hS hA (s_M_isIn2 l D cs kf T (q0_1 :: a0 :: q0_35 :: O) ((q0_1, .inl (cs.2.1, 3906, .inl f1)) :: (a0, .inr (12, [.int q0_0, .ref q0_1, .ref q0_2, .ref q0_3, .ref q0_4, .int q0_5, .int q0_6, .int q0_7, .int q0_8, .int q0_9, .int q0_10, .int q0_11, .int q0_12, .int q0_13, .int q0_14, .ref q0_15, .int f57_216, .ref q0_17, .ref q0_18, .ref q0_19, .int f57_220, .ref q0_21, .ref q0_22, .int f57_223, .int f57_224, .int q0_25, .ref q0_26, .ref q0_27, .ref q0_28, .ref q0_29, .ref q0_30, .ref q0_31, .int q0_32, .ref q0_33, .ref q0_34, .ref q0_35])) :: (q0_35, .inl (cs.2.2.1, 160, .inr (.inl f35))) :: X) v187.toInt64 p57_4  (hO.sub (by decide))) kw_1440 kw_1441 kw_13 kw_1442 (by decide +kernel) ⟨Nat.le_of_ble_eq_true rfl, Nat.le_of_ble_eq_true rfl⟩ rfl rfl hl.1 (Nat.le_of_ble_eq_true rfl) dX12_told_191 ⟨Nat.le_of_ble_eq_true rfl, Nat.le_of_ble_eq_true rfl⟩) (fun v191 u H locs hz9 hH hS => ?_)
              obtain ⟨rfl, l_v191, u_v191, x_v1910⟩ := hz9
              have hH : HT D cs A T (q0_1 :: a0 :: q0_35 :: O) ((q0_1, .inl (cs.2.1, 3906, .inl f1)) :: (a0, .inr (12, [.int q0_0, .ref q0_1, .ref q0_2, .ref q0_3, .ref q0_4, .int q0_5, .int q0_6, .int q0_7, .int q0_8, .int q0_9, .int q0_10, .int q0_11, .int q0_12, .int q0_13, .int q0_14, .ref q0_15, .int f57_216, .ref q0_17, .ref q0_18, .ref q0_19, .int f57_220, .ref q0_21, .ref q0_22, .int f57_223, .int f57_224, .int q0_25, .ref q0_26, .ref q0_27, .ref q0_28, .ref q0_29, .ref q0_30, .ref q0_31, .int q0_32, .ref q0_33, .ref q0_34, .ref q0_35])) :: (q0_35, .inl (cs.2.2.1, 160, .inr (.inl f35))) :: X) H := hH
              refine W.widen (k := 0) (n := 0) (Nat.le_of_ble_eq_true rfl) (Nat.le_of_ble_eq_true rfl) ?_
              refine lv_if_eq (tgt := 199) hx hb dX12_told_194 (by decide) (fun c194 => ?_) (fun c194 => ?_)
              · skip
                have tc194 := f_eq (k := 0) (by decide) c194
                exact J199  _ _ _  hH hS (lv_sub hl [3, 4] rfl)
              · skip
                have tc194 := f_ne (k := 0) (by decide) c194
                refine lv_iconst (v := (-1)) hx hb dX12_told_197 (by decide) ?_
                have hH : HT D cs A T (a0 :: q0_35 :: O) ((a0, .inr (12, [.int q0_0, .ref q0_1, .ref q0_2, .ref q0_3, .ref q0_4, .int q0_5, .int q0_6, .int q0_7, .int q0_8, .int q0_9, .int q0_10, .int q0_11, .int q0_12, .int q0_13, .int q0_14, .ref q0_15, .int f57_216, .ref q0_17, .ref q0_18, .ref q0_19, .int f57_220, .ref q0_21, .ref q0_22, .int f57_223, .int f57_224, .int q0_25, .ref q0_26, .ref q0_27, .ref q0_28, .ref q0_29, .ref q0_30, .ref q0_31, .int q0_32, .ref q0_33, .ref q0_34, .ref q0_35])) :: (q0_35, .inl (cs.2.2.1, 160, .inr (.inl f35))) :: X) H := HT.layA hH t_q0_1 (show sp cs T (8, 3906, hg) _ from ⟨_, rfl, s_f1, fun _ => g_f1⟩)
                have hH : HT D cs A T (q0_35 :: O) ((q0_35, .inl (cs.2.2.1, 160, .inr (.inl f35))) :: X) H := HT.lay (ci := 12) hH t_a0 (okL_c (⟨_, rfl⟩) (okL_c (⟨_, rfl, t_q0_1⟩) (okL_c (⟨_, rfl, t_q0_2⟩) (okL_c (⟨_, rfl, t_q0_3⟩) (okL_c (⟨_, rfl, t_q0_4⟩) (okL_c (⟨_, rfl, by omega, by omega⟩) (okL_c (⟨_, rfl⟩) (okL_c (⟨_, rfl⟩) (okL_c (⟨_, rfl⟩) (okL_c (⟨_, rfl⟩) (okL_c (⟨_, rfl, by omega, by omega⟩) (okL_c (⟨_, rfl⟩) (okL_c (⟨_, rfl⟩) (okL_c (⟨_, rfl⟩) (okL_c (⟨_, rfl⟩) (okL_c (⟨_, rfl, t_q0_15⟩) (okL_c (⟨_, rfl⟩) (okL_c (⟨_, rfl, t_q0_17⟩) (okL_c (⟨_, rfl, t_q0_18⟩) (okL_c (⟨_, rfl, t_q0_19⟩) (okL_c (⟨_, rfl, by omega, by omega⟩) (okL_c (⟨_, rfl, t_q0_21⟩) (okL_c (⟨_, rfl, t_q0_22⟩) (okL_c (⟨_, rfl⟩) (okL_c (⟨_, rfl⟩) (okL_c (⟨_, rfl⟩) (okL_c (⟨_, rfl, t_q0_26⟩) (okL_c (⟨_, rfl, t_q0_27⟩) (okL_c (⟨_, rfl, t_q0_28⟩) (okL_c (⟨_, rfl, t_q0_29⟩) (okL_c (⟨_, rfl, t_q0_30⟩) (okL_c (⟨_, rfl, t_q0_31⟩) (okL_c (⟨_, rfl⟩) (okL_c (⟨_, rfl, t_q0_33⟩) (okL_c (⟨_, rfl, t_q0_34⟩) (okL_c (⟨_, rfl, t_q0_35⟩) (okL_n)))))))))))))))))))))))))))))))))))))
                have hO := hO0
                have hH : HT D cs A T O X H := HT.layA hH t_q0_35 (show sp cs T (2, 160, 0) _ from ⟨_, rfl⟩)
                have z9_m1 : ((-1) : Int32).toInt = -1 := by decide
                exact te_i hx hb hr hlocks hH hS (⟨rfl, by decide, by decide⟩) dX12_told_198
          · skip
            have fuc60 := full_i p57_5
            have fvc60 := full_i v20
            have tc60 := g_nle c60
            refine lv_aload_n hx hb dX12_told_63 rfl (lv_at hl 4 rfl) ?_
            refine x_getk (ci := 12) (C := RX12) (F := TX12) (N := 36) (v := .ref q0_35) hx hb hts uX12 hown hkb hH 1 rfl rfl 35 (by decide) rfl kw_1258 (fun _ h9 => h9) dX12_told_64 ?_
            refine lv_bipush (v := 40) hx hb dX12_told_67 (by decide) ?_
            refine lv_iload_n hx hb dX12_told_69 rfl (lv_at hl 5 rfl) ?_
            refine lv_imul hx hb dX12_told_70 ?_
            refine lv_topi (fun v70 ev70 => ?_)
            have tv70 : v70.toInt = (40) * x1.toInt := by rw [ev70]; exact mul_i (by decide : (40 : Int32).toInt = 40) rfl (by omega) (by omega)
            refine lv_iload hx hb dX12_told_71 (lv_at hl 0 rfl) ?_
            refine lv_iadd hx hb dX12_told_73 ?_
            refine lv_topi (fun v73 ev73 => ?_)
            have tv73 : v73.toInt = v70.toInt + p57_5.toInt := by rw [ev73]; exact add_i rfl rfl (by omega) (by omega)
            refine xa_lld hx hb hkb hH 2 rfl (by omega) (by omega) dX12_told_74 ?_
            refine lv_topl (fun v74 ev74 => ?_)
            refine lv_lstore (lv' := [(6, .long v74), (5, .int p57_5), (4, .int p57_4), (3, .int p57_3), (2, .int v20), (0, .ref a0), (1, .int x1)]) hx hb dX12_told_75 hl (by decide) rfl (fun ls hl => ?_)
            refine lv_aload_n hx hb dX12_told_77 rfl (lv_at hl 5 rfl) ?_
            refine lv_aload_n hx hb dX12_told_78 rfl (lv_at hl 5 rfl) ?_
            refine lv_aload_n hx hb dX12_told_79 rfl (lv_at hl 5 rfl) ?_
            refine x_getk (ci := 12) (C := RX12) (F := TX12) (N := 36) (v := .ref q0_35) hx hb hts uX12 hown hkb hH 1 rfl rfl 35 (by decide) rfl kw_1258 (fun _ h9 => h9) dX12_told_80 ?_
            refine lv_bipush (v := 40) hx hb dX12_told_83 (by decide) ?_
            refine lv_iload_n hx hb dX12_told_85 rfl (lv_at hl 6 rfl) ?_
            refine lv_imul hx hb dX12_told_86 ?_
            refine lv_topi (fun v86 ev86 => ?_)
            have tv86 : v86.toInt = (40) * x1.toInt := by rw [ev86]; exact mul_i (by decide : (40 : Int32).toInt = 40) rfl (by omega) (by omega)
            refine xa_lld hx hb hkb hH 2 rfl (by omega) (by omega) dX12_told_87 ?_
            refine lv_topl (fun v87 ev87 => ?_)
            have hq9 : v87.toInt = v35.toInt := by rw [ev87, ev35, show v86 = v34 from Int32.toInt_inj.mp (by omega)]
            refine lv_l2i hx hb dX12_told_88 rfl ?_
            refine lv_topi (fun v88 ev88 => ?_)
            have tv88 : v88.toInt = v87.toInt := by rw [ev88]; exact l2i_b (by omega) (by omega)
            refine lv_lload hx hb dX12_told_89 (lv_at hl 0 rfl) ?_
            refine lv_iload_n hx hb dX12_told_91 rfl (lv_at hl 3 rfl) ?_
            refine lv_iload hx hb dX12_told_92 (lv_at hl 2 rfl) ?_
            refine tk_i hH hS hA (tr_V (n := 4) (As := [.int v88, .long v74, .int p57_3, .int p57_4]) hx hb hml hown hts hkb hH (ox_c (ox_c (ox_c hOX))) hks hE hS hA (s_M_whyNotX l D cs kf T (q0_35 :: O) ((q0_35, .inl (cs.2.2.1, 160, .inr (.inl f35))) :: X) a0 hg mq v88 v74 p57_3 p57_4 f1 (.int q0_0) q0_1 (.ref q0_2) (.ref q0_3) (.ref q0_4) (.int q0_5) (.int q0_6) (.int q0_7) (.int q0_8) (.int q0_9) (.int q0_10) (.int q0_11) (.int q0_12) (.int q0_13) (.int q0_14) q0_15 f57_216 [.ref q0_17, .ref q0_18, .ref q0_19, .int f57_220, .ref q0_21, .ref q0_22, .int f57_223, .int f57_224, .int q0_25, .ref q0_26, .ref q0_27, .ref q0_28, .ref q0_29, .ref q0_30, .ref q0_31, .int q0_32, .ref q0_33, .ref q0_34, .ref q0_35] t_a0 b_hg (by omega) (by omega) (by omega) (by omega) s_f1 g_f1 t_q0_1 t_q0_15 (hO.sub (by decide))) kw_1532 kw_1534 ks_77 kw_13 kw_1535 (by decide +kernel) ⟨Nat.le_of_ble_eq_true rfl, Nat.le_of_ble_eq_true rfl⟩ (x_recv (ci := 12) hkb hH 1 rfl rfl) rfl rfl hl.1 (Nat.le_of_ble_eq_true rfl) dX12_told_94 ⟨Nat.le_of_ble_eq_true rfl, Nat.le_of_ble_eq_true rfl⟩) (fun v94 u H locs hz9 hH hS => ?_)
            obtain ⟨n94_1_16, rfl, l_v94, u_v94, x_v940⟩ := hz9
            have hH : HT D cs A T (q0_1 :: a0 :: q0_35 :: O) ((q0_1, .inl (cs.2.1, 3906, .inl f1)) :: (a0, .inr (12, [.int q0_0, .ref q0_1, .ref q0_2, .ref q0_3, .ref q0_4, .int q0_5, .int q0_6, .int q0_7, .int q0_8, .int q0_9, .int q0_10, .int q0_11, .int q0_12, .int q0_13, .int q0_14, .ref q0_15, .int n94_1_16, .ref q0_17, .ref q0_18, .ref q0_19, .int f57_220, .ref q0_21, .ref q0_22, .int f57_223, .int f57_224, .int q0_25, .ref q0_26, .ref q0_27, .ref q0_28, .ref q0_29, .ref q0_30, .ref q0_31, .int q0_32, .ref q0_33, .ref q0_34, .ref q0_35])) :: (q0_35, .inl (cs.2.2.1, 160, .inr (.inl f35))) :: X) H := hH
            refine W.widen (k := 0) (n := 0) (Nat.le_of_ble_eq_true rfl) (Nat.le_of_ble_eq_true rfl) ?_
            refine x_putk (ci := 12) (v := .int v94) (ty := tyX12 23) (C := RX12) (F := TX12) (N := 36) hx hb hts uX12 tyX12 tyX12_ok nmX12 hown hkb hH hS 1 rfl rfl 23 (by decide) kw_1246 (fun _ h9 => h9) rfl (tyX12_ok 23 (by decide)) rfl rfl (Nat.le_of_ble_eq_true rfl) dX12_told_97 (fun H locs hH hS => ?_)
            have hH : HT D cs A T (q0_1 :: a0 :: q0_35 :: O) ((q0_1, .inl (cs.2.1, 3906, .inl f1)) :: (a0, .inr (12, [.int q0_0, .ref q0_1, .ref q0_2, .ref q0_3, .ref q0_4, .int q0_5, .int q0_6, .int q0_7, .int q0_8, .int q0_9, .int q0_10, .int q0_11, .int q0_12, .int q0_13, .int q0_14, .ref q0_15, .int n94_1_16, .ref q0_17, .ref q0_18, .ref q0_19, .int f57_220, .ref q0_21, .ref q0_22, .int v94, .int f57_224, .int q0_25, .ref q0_26, .ref q0_27, .ref q0_28, .ref q0_29, .ref q0_30, .ref q0_31, .int q0_32, .ref q0_33, .ref q0_34, .ref q0_35])) :: (q0_35, .inl (cs.2.2.1, 160, .inr (.inl f35))) :: X) H := hH
            refine lv_aload_n hx hb dX12_told_100 rfl (lv_at hl 5 rfl) ?_
            refine x_getk (ci := 12) (C := RX12) (F := TX12) (N := 36) (v := .int v94) hx hb hts uX12 hown hkb hH 1 rfl rfl 23 (by decide) rfl kw_1246 (fun _ h9 => h9) dX12_told_101 ?_
            refine lv_if_eq (tgt := 110) hx hb dX12_told_104 (by decide) (fun c104 => ?_) (fun c104 => ?_)
            · skip
              have tc104 := f_eq (k := 0) (by decide) c104
              replace x_v940 := x_v940.resolve_left (fun q9 => q9 tc104)
              refine lv_lload hx hb dX12_told_110 (lv_at hl 0 rfl) ?_
              refine lv_l2i hx hb dX12_told_112 rfl ?_
              refine lv_topi (fun v112 ev112 => ?_)
              have tv112 : v112.toInt = v74.toInt := by rw [ev112]; exact l2i_b (by omega) (by omega)
              refine lv_istore (lv' := [(4, .int v112), (6, .long v74), (5, .int p57_5), (3, .int p57_3), (2, .int v20), (0, .ref a0), (1, .int x1)]) hx hb dX12_told_113 hl (by decide) rfl (fun ls hl => ?_)
              refine lv_iload_n hx hb dX12_told_115 rfl (lv_at hl 3 rfl) ?_
              refine lv_iconst (v := 1) hx hb dX12_told_116 (by decide) ?_
              refine lv_iload hx hb dX12_told_117 (lv_at hl 0 rfl) ?_
              refine lv_ishl hx hb dX12_told_119 ?_
              refine lv_topi (fun v119 ev119 => ?_)
              have tv119 : 1 ≤ v119.toInt ∧ v119.toInt ≤ 8192 := by rw [ev119]; exact shl_b 13 (by decide) (by omega) (by omega)
              refine lv_ior hx hb dX12_told_120 ?_
              refine lv_topi (fun v120 ev120 => ?_)
              refine lv_istore_n (lv' := [(3, .int v120), (4, .int v112), (6, .long v74), (5, .int p57_5), (2, .int v20), (0, .ref a0), (1, .int x1)]) hx hb dX12_told_121 rfl hl (by decide) rfl (fun ls hl => ?_)
              have ht9 := TD_s i57 (by omega) (by omega) (by rw [ev112]; exact x_v940.2.2) ev119 ev120
              have ht8 := ht9.1
              refine lv_aload_n hx hb dX12_told_122 rfl (lv_at hl 5 rfl) ?_
              refine x_getk (ci := 12) (C := RX12) (F := TX12) (N := 36) (v := .ref q0_19) hx hb hts uX12 hown hkb hH 1 rfl rfl 19 (by decide) rfl kw_1242 (fun _ h9 => h9) dX12_told_123 ?_
              refine lv_aload_n hx hb dX12_told_126 rfl (lv_at hl 5 rfl) ?_
              refine x_getk (ci := 12) (C := RX12) (F := TX12) (N := 36) (v := .int f57_220) hx hb hts uX12 hown hkb hH 1 rfl rfl 20 (by decide) rfl kw_1243 (fun _ h9 => h9) dX12_told_127 ?_
              refine lv_iload hx hb dX12_told_130 (lv_at hl 1 rfl) ?_
              refine t_ist hx hb hkb hH hS t_q0_19 (hO.no t_q0_19 (by decide)) (by omega) (by omega) (show 0 ≤ v112.toInt ∧ v112.toInt ≤ 13 from by omega) dX12_told_132 (fun H locs hH hS => ?_)
              refine lv_aload_n hx hb dX12_told_133 rfl (lv_at hl 5 rfl) ?_
              refine lv_dup hx hb dX12_told_134 rfl ?_
              refine x_getk (ci := 12) (C := RX12) (F := TX12) (N := 36) (v := .int f57_220) hx hb hts uX12 hown hkb hH 1 rfl rfl 20 (by decide) rfl kw_1243 (fun _ h9 => h9) dX12_told_135 ?_
              refine lv_iconst (v := 1) hx hb dX12_told_138 (by decide) ?_
              refine lv_iadd hx hb dX12_told_139 ?_
              refine lv_topi (fun v139 ev139 => ?_)
              have tv139 : v139.toInt = f57_220.toInt + (1) := by rw [ev139]; exact add_i rfl (by decide : (1 : Int32).toInt = 1) (by omega) (by omega)
              refine x_putk (ci := 12) (v := .int v139) (ty := tyX12 20) (C := RX12) (F := TX12) (N := 36) hx hb hts uX12 tyX12 tyX12_ok nmX12 hown hkb hH hS 1 rfl rfl 20 (by decide) kw_1243 (fun _ h9 => h9) rfl (tyX12_ok 20 (by decide)) rfl rfl (Nat.le_of_ble_eq_true rfl) dX12_told_140 (fun H locs hH hS => ?_)
              have hH : HT D cs A T (q0_1 :: a0 :: q0_35 :: O) ((q0_1, .inl (cs.2.1, 3906, .inl f1)) :: (a0, .inr (12, [.int q0_0, .ref q0_1, .ref q0_2, .ref q0_3, .ref q0_4, .int q0_5, .int q0_6, .int q0_7, .int q0_8, .int q0_9, .int q0_10, .int q0_11, .int q0_12, .int q0_13, .int q0_14, .ref q0_15, .int n94_1_16, .ref q0_17, .ref q0_18, .ref q0_19, .int v139, .ref q0_21, .ref q0_22, .int v94, .int f57_224, .int q0_25, .ref q0_26, .ref q0_27, .ref q0_28, .ref q0_29, .ref q0_30, .ref q0_31, .int q0_32, .ref q0_33, .ref q0_34, .ref q0_35])) :: (q0_35, .inl (cs.2.2.1, 160, .inr (.inl f35))) :: X) H := hH
              refine lv_aload_n hx hb dX12_told_143 rfl (lv_at hl 5 rfl) ?_
              refine lv_dup hx hb dX12_told_144 rfl ?_
              refine x_getk (ci := 12) (C := RX12) (F := TX12) (N := 36) (v := .int f57_224) hx hb hts uX12 hown hkb hH 1 rfl rfl 24 (by decide) rfl kw_1247 (fun _ h9 => h9) dX12_told_145 ?_
              refine lv_aload_n hx hb dX12_told_148 rfl (lv_at hl 5 rfl) ?_
              refine tk_i hH hS hA (tr_V (n := 0) (As := []) hx hb hml hown hts hkb hH (ox_c (ox_c (ox_c hOX))) hks hE hS hA (s_M_endsX l D cs kf T (q0_35 :: O) ((q0_35, .inl (cs.2.2.1, 160, .inr (.inl f35))) :: X) a0 hg mq f1 (.int q0_0) q0_1 (.ref q0_2) (.ref q0_3) (.ref q0_4) (.int q0_5) (.int q0_6) (.int q0_7) (.int q0_8) (.int q0_9) (.int q0_10) (.int q0_11) (.int q0_12) (.int q0_13) (.int q0_14) q0_15 n94_1_16 [.ref q0_17, .ref q0_18, .ref q0_19, .int v139, .ref q0_21, .ref q0_22, .int v94, .int f57_224, .int q0_25, .ref q0_26, .ref q0_27, .ref q0_28, .ref q0_29, .ref q0_30, .ref q0_31, .int q0_32, .ref q0_33, .ref q0_34, .ref q0_35] t_a0 b_hg s_f1 g_f1 t_q0_1 t_q0_15 (hO.sub (by decide))) kw_1536 kw_1538 ks_78 kw_13 kw_1539 (by decide +kernel) ⟨Nat.le_of_ble_eq_true rfl, Nat.le_of_ble_eq_true rfl⟩ (x_recv (ci := 12) hkb hH 1 rfl rfl) rfl rfl hl.1 (Nat.le_of_ble_eq_true rfl) dX12_told_149 ⟨Nat.le_of_ble_eq_true rfl, Nat.le_of_ble_eq_true rfl⟩) (fun v149 u H locs hz9 hH hS => ?_)
              obtain ⟨rfl, l_v149, u_v149⟩ := hz9
              have hH : HT D cs A T (q0_1 :: a0 :: q0_35 :: O) ((q0_1, .inl (cs.2.1, 3906, .inl f1)) :: (a0, .inr (12, [.int q0_0, .ref q0_1, .ref q0_2, .ref q0_3, .ref q0_4, .int q0_5, .int q0_6, .int q0_7, .int q0_8, .int q0_9, .int q0_10, .int q0_11, .int q0_12, .int q0_13, .int q0_14, .ref q0_15, .int n94_1_16, .ref q0_17, .ref q0_18, .ref q0_19, .int v139, .ref q0_21, .ref q0_22, .int v94, .int f57_224, .int q0_25, .ref q0_26, .ref q0_27, .ref q0_28, .ref q0_29, .ref q0_30, .ref q0_31, .int q0_32, .ref q0_33, .ref q0_34, .ref q0_35])) :: (q0_35, .inl (cs.2.2.1, 160, .inr (.inl f35))) :: X) H := hH
              refine W.widen (k := 0) (n := 0) (Nat.le_of_ble_eq_true rfl) (Nat.le_of_ble_eq_true rfl) ?_
              refine lv_i2l hx hb dX12_told_152 rfl ?_
              refine lv_iload hx hb dX12_told_153 (lv_at hl 1 rfl) ?_
              refine tk_i hH hS hA (tr_S (n := 2) (As := [.long v149.toInt64, .int v112]) hx hb hml hown hts hkb hH (ox_c (ox_c (ox_c hOX))) hks hE hS hA (s_M_isIn2 l D cs kf T (q0_1 :: a0 :: q0_35 :: O) ((q0_1, .inl (cs.2.1, 3906, .inl f1)) :: (a0, .inr (12, [.int q0_0, .ref q0_1, .ref q0_2, .ref q0_3, .ref q0_4, .int q0_5, .int q0_6, .int q0_7, .int q0_8, .int q0_9, .int q0_10, .int q0_11, .int q0_12, .int q0_13, .int q0_14, .ref q0_15, .int n94_1_16, .ref q0_17, .ref q0_18, .ref q0_19, .int v139, .ref q0_21, .ref q0_22, .int v94, .int f57_224, .int q0_25, .ref q0_26, .ref q0_27, .ref q0_28, .ref q0_29, .ref q0_30, .ref q0_31, .int q0_32, .ref q0_33, .ref q0_34, .ref q0_35])) :: (q0_35, .inl (cs.2.2.1, 160, .inr (.inl f35))) :: X) v149.toInt64 v112  (hO.sub (by decide))) kw_1440 kw_1441 kw_13 kw_1442 (by decide +kernel) ⟨Nat.le_of_ble_eq_true rfl, Nat.le_of_ble_eq_true rfl⟩ rfl rfl hl.1 (Nat.le_of_ble_eq_true rfl) dX12_told_155 ⟨Nat.le_of_ble_eq_true rfl, Nat.le_of_ble_eq_true rfl⟩) (fun v155 u H locs hz9 hH hS => ?_)
              obtain ⟨rfl, l_v155, u_v155, x_v1550⟩ := hz9
              have hH : HT D cs A T (q0_1 :: a0 :: q0_35 :: O) ((q0_1, .inl (cs.2.1, 3906, .inl f1)) :: (a0, .inr (12, [.int q0_0, .ref q0_1, .ref q0_2, .ref q0_3, .ref q0_4, .int q0_5, .int q0_6, .int q0_7, .int q0_8, .int q0_9, .int q0_10, .int q0_11, .int q0_12, .int q0_13, .int q0_14, .ref q0_15, .int n94_1_16, .ref q0_17, .ref q0_18, .ref q0_19, .int v139, .ref q0_21, .ref q0_22, .int v94, .int f57_224, .int q0_25, .ref q0_26, .ref q0_27, .ref q0_28, .ref q0_29, .ref q0_30, .ref q0_31, .int q0_32, .ref q0_33, .ref q0_34, .ref q0_35])) :: (q0_35, .inl (cs.2.2.1, 160, .inr (.inl f35))) :: X) H := hH
              refine W.widen (k := 0) (n := 0) (Nat.le_of_ble_eq_true rfl) (Nat.le_of_ble_eq_true rfl) ?_
              have J166 : ∀ (k166_0 : Int32) (H : Heap) (locs : List Loc) (ls : Array Slot), (0 ≤ k166_0.toInt) → (k166_0.toInt ≤ 1) → HT D cs A T (q0_1 :: a0 :: q0_35 :: O) ((q0_1, .inl (cs.2.1, 3906, .inl f1)) :: (a0, .inr (12, [.int q0_0, .ref q0_1, .ref q0_2, .ref q0_3, .ref q0_4, .int q0_5, .int q0_6, .int q0_7, .int q0_8, .int q0_9, .int q0_10, .int q0_11, .int q0_12, .int q0_13, .int q0_14, .ref q0_15, .int n94_1_16, .ref q0_17, .ref q0_18, .ref q0_19, .int v139, .ref q0_21, .ref q0_22, .int v94, .int f57_224, .int q0_25, .ref q0_26, .ref q0_27, .ref q0_28, .ref q0_29, .ref q0_30, .ref q0_31, .int q0_32, .ref q0_33, .ref q0_34, .ref q0_35])) :: (q0_35, .inl (cs.2.2.1, 160, .inr (.inl f35))) :: X) H → va_S A s.heap H locs → lv_has ls 8 [(3, .int v120), (4, .int v112), (5, .int p57_5), (2, .int v20), (0, .ref a0), (1, .int x1)] → W p l e { frames := 4, cells := 0, slots := 0, locals := 100 } s m [.ref a0, .int x1].toArray below meth c H locs 0 0 (MQ below (Ti D cs (fun r u => u = (T, O, X) ∧ -1 ≤ r.toInt ∧ r.toInt ≤ 40) A) [.ref a0, .int x1].toArray s 0 0 A) (F0 m 166 ls [.int k166_0, .int f57_224, .ref a0]) := by
                intro k166_0 H locs ls l_k166_0 u_k166_0 hH hS hl
                refine lv_iadd hx hb dX12_told_166 ?_
                refine lv_topi (fun v166 ev166 => ?_)
                refine x_putk (ci := 12) (v := .int v166) (ty := tyX12 24) (C := RX12) (F := TX12) (N := 36) hx hb hts uX12 tyX12 tyX12_ok nmX12 hown hkb hH hS 1 rfl rfl 24 (by decide) kw_1247 (fun _ h9 => h9) rfl (tyX12_ok 24 (by decide)) rfl rfl (Nat.le_of_ble_eq_true rfl) dX12_told_167 (fun H locs hH hS => ?_)
                have hH : HT D cs A T (q0_1 :: a0 :: q0_35 :: O) ((q0_1, .inl (cs.2.1, 3906, .inl f1)) :: (a0, .inr (12, [.int q0_0, .ref q0_1, .ref q0_2, .ref q0_3, .ref q0_4, .int q0_5, .int q0_6, .int q0_7, .int q0_8, .int q0_9, .int q0_10, .int q0_11, .int q0_12, .int q0_13, .int q0_14, .ref q0_15, .int n94_1_16, .ref q0_17, .ref q0_18, .ref q0_19, .int v139, .ref q0_21, .ref q0_22, .int v94, .int v166, .int q0_25, .ref q0_26, .ref q0_27, .ref q0_28, .ref q0_29, .ref q0_30, .ref q0_31, .int q0_32, .ref q0_33, .ref q0_34, .ref q0_35])) :: (q0_35, .inl (cs.2.2.1, 160, .inr (.inl f35))) :: X) H := hH
                obtain ⟨v170, ev170⟩ : ∃ y : Int32, y = p57_5 + 1 := ⟨_, rfl⟩
                have tv170 : v170.toInt = p57_5.toInt + (1) := by rw [ev170]; exact add_i rfl (by decide) (by omega) (by omega)
                refine lv_iinc (v := v170) (lv' := [(5, .int v170), (3, .int v120), (4, .int v112), (2, .int v20), (0, .ref a0), (1, .int x1)]) hx hb dX12_told_170 hl (k := 2) rfl (by rw [ev170]; rfl) (by decide) rfl (fun ls hl => ?_)
                refine lv_goto (tgt := 57) hx hb dX12_told_173 (by decide) ?_
                exact ih57 _ (by omega) v170 v112 v120 n94_1_16 v139 v94 v166 _ _ _ rfl (by omega) (by omega) (by omega) (by omega) (by omega) (by omega) (by omega) (by omega) (by first | (refine TD_0 ?_ ?_ <;> decide) | exact (ht9.2 _ tv139)) hH hS (lv_sub hl [0, 2, 1, 3, 4, 5] rfl)
              refine lv_if_eq (tgt := 165) hx hb dX12_told_158 (by decide) (fun c158 => ?_) (fun c158 => ?_)
              · skip
                have tc158 := f_eq (k := 0) (by decide) c158
                refine lv_iconst (v := 1) hx hb dX12_told_165 (by decide) ?_
                exact J166 1 _ _ _ (by decide) (by decide) hH hS (lv_sub hl [0, 1, 3, 4, 5, 6] rfl)
              · skip
                have tc158 := f_ne (k := 0) (by decide) c158
                refine lv_iconst (v := 0) hx hb dX12_told_161 (by decide) ?_
                refine lv_goto (tgt := 166) hx hb dX12_told_162 (by decide) ?_
                exact J166 0 _ _ _ (by decide) (by decide) hH hS (lv_sub hl [0, 1, 3, 4, 5, 6] rfl)
            · skip
              have tc104 := f_ne (k := 0) (by decide) c104
              clear x_v940
              refine lv_iload hx hb dX12_told_107 (lv_at hl 1 rfl) ?_
              have hH : HT D cs A T (a0 :: q0_35 :: O) ((a0, .inr (12, [.int q0_0, .ref q0_1, .ref q0_2, .ref q0_3, .ref q0_4, .int q0_5, .int q0_6, .int q0_7, .int q0_8, .int q0_9, .int q0_10, .int q0_11, .int q0_12, .int q0_13, .int q0_14, .ref q0_15, .int n94_1_16, .ref q0_17, .ref q0_18, .ref q0_19, .int f57_220, .ref q0_21, .ref q0_22, .int v94, .int f57_224, .int q0_25, .ref q0_26, .ref q0_27, .ref q0_28, .ref q0_29, .ref q0_30, .ref q0_31, .int q0_32, .ref q0_33, .ref q0_34, .ref q0_35])) :: (q0_35, .inl (cs.2.2.1, 160, .inr (.inl f35))) :: X) H := HT.layA hH t_q0_1 (show sp cs T (8, 3906, hg) _ from ⟨_, rfl, s_f1, fun _ => g_f1⟩)
              have hH : HT D cs A T (q0_35 :: O) ((q0_35, .inl (cs.2.2.1, 160, .inr (.inl f35))) :: X) H := HT.lay (ci := 12) hH t_a0 (okL_c (⟨_, rfl⟩) (okL_c (⟨_, rfl, t_q0_1⟩) (okL_c (⟨_, rfl, t_q0_2⟩) (okL_c (⟨_, rfl, t_q0_3⟩) (okL_c (⟨_, rfl, t_q0_4⟩) (okL_c (⟨_, rfl, by omega, by omega⟩) (okL_c (⟨_, rfl⟩) (okL_c (⟨_, rfl⟩) (okL_c (⟨_, rfl⟩) (okL_c (⟨_, rfl⟩) (okL_c (⟨_, rfl, by omega, by omega⟩) (okL_c (⟨_, rfl⟩) (okL_c (⟨_, rfl⟩) (okL_c (⟨_, rfl⟩) (okL_c (⟨_, rfl⟩) (okL_c (⟨_, rfl, t_q0_15⟩) (okL_c (⟨_, rfl⟩) (okL_c (⟨_, rfl, t_q0_17⟩) (okL_c (⟨_, rfl, t_q0_18⟩) (okL_c (⟨_, rfl, t_q0_19⟩) (okL_c (⟨_, rfl, by omega, by omega⟩) (okL_c (⟨_, rfl, t_q0_21⟩) (okL_c (⟨_, rfl, t_q0_22⟩) (okL_c (⟨_, rfl⟩) (okL_c (⟨_, rfl⟩) (okL_c (⟨_, rfl⟩) (okL_c (⟨_, rfl, t_q0_26⟩) (okL_c (⟨_, rfl, t_q0_27⟩) (okL_c (⟨_, rfl, t_q0_28⟩) (okL_c (⟨_, rfl, t_q0_29⟩) (okL_c (⟨_, rfl, t_q0_30⟩) (okL_c (⟨_, rfl, t_q0_31⟩) (okL_c (⟨_, rfl⟩) (okL_c (⟨_, rfl, t_q0_33⟩) (okL_c (⟨_, rfl, t_q0_34⟩) (okL_c (⟨_, rfl, t_q0_35⟩) (okL_n)))))))))))))))))))))))))))))))))))))
              have hO := hO0
              have hH : HT D cs A T O X H := HT.layA hH t_q0_35 (show sp cs T (2, 160, 0) _ from ⟨_, rfl⟩)
              exact te_i hx hb hr hlocks hH hS (⟨rfl, by omega, by omega⟩) dX12_told_109
      refine lv_istore (lv' := [(5, .int 1), (4, .int (-1)), (3, .int 0), (2, .int v20), (0, .ref a0), (1, .int x1)]) hx hb dX12_told_55 hl (by decide) rfl (fun ls hl => ?_)
      have z_m1 : ((-1) : Int32).toInt = -1 := by decide
      have z_0 : (0 : Int32).toInt = 0 := by decide
      have z_1 : (1 : Int32).toInt = 1 := by decide
      exact J57 _ 1 (-1) 0 q0_16 0 0 0 _ _ _ rfl (by decide) (by decide) (by decide) (by decide) (by decide) (by decide) (by decide) (by decide) (by first | (refine TD_0 ?_ ?_ <;> decide) | exact (ht9.2 _ tv139)) hH hS (lv_sub hl [0, 1, 2, 3, 4, 5] rfl)
    · skip
      have tc39 := f_eq (k := 0) (by decide) c39
      clear x_v360
      exact J42  _ _ _  hH hS (lv_sub hl [1] rfl)
set_option maxHeartbeats 4000000 in
set_option maxRecDepth 100000 in
theorem s_M_judge (l : Launch) (D : va_G) (cs : CS) (kf : KF) (T : TF) (O : List Nat) (X : va_W) (a0 hg mq : Nat) (x1 : Int32) (x2 : Int32) (t_a0 : T a0 = some (22, hg, mq)) (b_hg : hg < 90) (hO : okO T O [1, 2, 8, 9, 22]) : TK l D cs kf yX12_judge cX12_judge 5 (some (.int)) { frames := 5, cells := 0, slots := 0, locals := 127 } [.ref a0, .int x1, .int x2] T O X (Ti D cs (fun r u => u = (T, O, X))) := by
  refine tk_of (by decide) (Nat.le_of_ble_eq_true rfl) (fun p e s m below meth c ls A H locs hx hb hr hml hown hts hlocks hnm hkb hH hS hA hOX hks hE hl => ?_)
  have hown : s.vm.findClass RX12 = some m.cls := hown
  have hl : lv_has ls 5 [(0, .ref a0), (1, .int x1), (2, .int x2)] := hl
  refine lv_aload_n hx hb dX12_judge_0 rfl (lv_at hl 0 rfl) ?_
  refine lv_iconst (v := 0) hx hb dX12_judge_1 (by decide) ?_
  refine t_put (ci := 12) (lst := ft12 hg mq) (v := .int 0) (ty := tyX12 0) (C := RX12) (F := TX12) (N := 36) hx hb hts uX12 tyX12 tyX12_ok nmX12 hown hkb hH hS t_a0 (hO.no t_a0 (by decide)) (fun _ => Iff.rfl) rfl rfl 0 (by decide) rfl (⟨_, rfl⟩) kw_1223 (fun _ h9 => h9) rfl (tyX12_ok 0 (by decide)) rfl rfl dX12_judge_2 (fun H locs hH hS => ?_)
  refine lv_iload_n hx hb dX12_judge_5 rfl (lv_at hl 2 rfl) ?_
  refine lv_i2l hx hb dX12_judge_6 rfl ?_
  refine lv_lconst (v := 0) hx hb dX12_judge_7 (by decide) ?_
  refine lv_ldc2 hx hb hown (hts _ kw_1522) dX12_judge_8 ?_
  refine tk_i hH hS hA (tr_S (n := 3) (As := [.long x2.toInt64, .long 0, .long 2]) hx hb hml hown hts hkb hH hOX hks hE hS hA (s_M_within l D cs kf T O X x2.toInt64 0 2  (hO.sub (by decide))) kw_1341 kw_1342 kw_13 kw_1343 (by decide +kernel) ⟨Nat.le_of_ble_eq_true rfl, Nat.le_of_ble_eq_true rfl⟩ rfl rfl hl.1 (Nat.le_of_ble_eq_true rfl) dX12_judge_11 ⟨Nat.le_of_ble_eq_true rfl, Nat.le_of_ble_eq_true rfl⟩) (fun v11 u H locs hz9 hH hS => ?_)
  obtain ⟨rfl, l_v11, u_v11, x_v110, x_v111⟩ := hz9
  simp only [Int32.toInt_toInt64] at x_v110 x_v111
  have k9_0 : (0 : Int64).toInt = 0 := by decide
  have k9_2 : (2 : Int64).toInt = 2 := by decide
  have hH : HT D cs A T O X H := hH
  refine W.widen (k := 0) (n := 0) (Nat.le_of_ble_eq_true rfl) (Nat.le_of_ble_eq_true rfl) ?_
  refine lv_if_ne (tgt := 20) hx hb dX12_judge_14 (by decide) (fun c14 => ?_) (fun c14 => ?_)
  · skip
    have tc14 := f_ne (k := 0) (by decide) c14
    replace x_v110 := x_v110.resolve_left tc14
    clear x_v111
    refine lv_aload_n hx hb dX12_judge_20 rfl (lv_at hl 0 rfl) ?_
    refine lv_iload_n hx hb dX12_judge_21 rfl (lv_at hl 1 rfl) ?_
    refine tk_i hH hS hA (tr_V (n := 1) (As := [.int x1]) hx hb hml hown hts hkb hH hOX hks hE hS hA (s_M_noTray l D cs kf T O X a0 hg mq x1 t_a0 b_hg (hO.sub (by decide))) kw_1523 kw_1525 ks_75 kw_13 kw_1526 (by decide +kernel) ⟨Nat.le_of_ble_eq_true rfl, Nat.le_of_ble_eq_true rfl⟩ (HT.recv (ci := 12) hkb hH t_a0 (hO.no t_a0 (by decide)) rfl) rfl rfl hl.1 (Nat.le_of_ble_eq_true rfl) dX12_judge_22 ⟨Nat.le_of_ble_eq_true rfl, Nat.le_of_ble_eq_true rfl⟩) (fun v22 u H locs hz9 hH hS => ?_)
    obtain ⟨rfl, l_v22, u_v22, x_v220⟩ := hz9
    have hH : HT D cs A T O X H := hH
    refine W.widen (k := 0) (n := 0) (Nat.le_of_ble_eq_true rfl) (Nat.le_of_ble_eq_true rfl) ?_
    refine lv_istore_n (lv' := [(3, .int v22), (0, .ref a0), (1, .int x1), (2, .int x2)]) hx hb dX12_judge_25 rfl hl (by decide) rfl (fun ls hl => ?_)
    refine lv_iload_n hx hb dX12_judge_26 rfl (lv_at hl 0 rfl) ?_
    refine lv_if_eq (tgt := 32) hx hb dX12_judge_27 (by decide) (fun c27 => ?_) (fun c27 => ?_)
    · skip
      have tc27 := f_eq (k := 0) (by decide) c27
      refine lv_aload_n hx hb dX12_judge_32 rfl (lv_at hl 1 rfl) ?_
      refine lv_iload_n hx hb dX12_judge_33 rfl (lv_at hl 2 rfl) ?_
      refine tk_i hH hS hA (tr_V (n := 1) (As := [.int x1]) hx hb hml hown hts hkb hH hOX hks hE hS hA (s_M_told l D cs kf T O X a0 hg mq x1 t_a0 b_hg (by omega) (by omega) (hO.sub (by decide))) kw_1528 kw_1530 ks_76 kw_13 kw_1531 (by decide +kernel) ⟨Nat.le_of_ble_eq_true rfl, Nat.le_of_ble_eq_true rfl⟩ (HT.recv (ci := 12) hkb hH t_a0 (hO.no t_a0 (by decide)) rfl) rfl rfl hl.1 (Nat.le_of_ble_eq_true rfl) dX12_judge_34 ⟨Nat.le_of_ble_eq_true rfl, Nat.le_of_ble_eq_true rfl⟩) (fun v34 u H locs hz9 hH hS => ?_)
      obtain ⟨rfl, l_v34, u_v34⟩ := hz9
      have hH : HT D cs A T O X H := hH
      refine W.widen (k := 0) (n := 0) (Nat.le_of_ble_eq_true rfl) (Nat.le_of_ble_eq_true rfl) ?_
      refine lv_istore (lv' := [(4, .int v34), (3, .int v22), (0, .ref a0), (1, .int x1), (2, .int x2)]) hx hb dX12_judge_37 hl (by decide) rfl (fun ls hl => ?_)
      refine lv_iload_n hx hb dX12_judge_39 rfl (lv_at hl 4 rfl) ?_
      refine lv_if_ne (tgt := 48) hx hb dX12_judge_40 (by decide) (fun c40 => ?_) (fun c40 => ?_)
      · skip
        have tc40 := f_ne (k := 0) (by decide) c40
        refine lv_iload_n hx hb dX12_judge_48 rfl (lv_at hl 4 rfl) ?_
        refine lv_iconst (v := 1) hx hb dX12_judge_49 (by decide) ?_
        refine lv_icmp_ne (tgt := 60) hx hb dX12_judge_50 (by decide) (fun c50 => ?_) (fun c50 => ?_)
        · skip
          have tc50 := f_ne (k := 1) (by decide) c50
          refine lv_aload_n hx hb dX12_judge_60 rfl (lv_at hl 2 rfl) ?_
          refine t_get (ci := 12) (lst := ft12 hg mq) (C := RX12) (F := TX12) (N := 36) hx hb hts uX12 hown hkb hH t_a0 (hO.no t_a0 (by decide)) (fun _ h9 => h9) rfl rfl 23 (by decide) rfl kw_1246 (fun _ h9 => h9) dX12_judge_61 (fun v9 h9 => ?_)
          obtain ⟨v61, rfl⟩ := h9
          refine lv_if_ne (tgt := 74) hx hb dX12_judge_64 (by decide) (fun c64 => ?_) (fun c64 => ?_)
          · skip
            have tc64 := f_ne (k := 0) (by decide) c64
            refine lv_iconst (v := 0) hx hb dX12_judge_74 (by decide) ?_
            exact te_i hx hb hr hlocks hH hS (rfl) dX12_judge_75
          · skip
            have tc64 := f_eq (k := 0) (by decide) c64
            refine lv_aload_n hx hb dX12_judge_67 rfl (lv_at hl 2 rfl) ?_
            refine t_get (ci := 12) (lst := ft12 hg mq) (C := RX12) (F := TX12) (N := 36) hx hb hts uX12 hown hkb hH t_a0 (hO.no t_a0 (by decide)) (fun _ h9 => h9) rfl rfl 24 (by decide) rfl kw_1247 (fun _ h9 => h9) dX12_judge_68 (fun v9 h9 => ?_)
            obtain ⟨v68, rfl⟩ := h9
            refine lv_goto (tgt := 75) hx hb dX12_judge_71 (by decide) ?_
            exact te_i hx hb hr hlocks hH hS (rfl) dX12_judge_75
        · skip
          have tc50 := f_eq (k := 1) (by decide) c50
          refine lv_aload_n hx hb dX12_judge_53 rfl (lv_at hl 2 rfl) ?_
          refine t_get (ci := 12) (lst := ft12 hg mq) (C := RX12) (F := TX12) (N := 36) hx hb hts uX12 hown hkb hH t_a0 (hO.no t_a0 (by decide)) (fun _ h9 => h9) rfl rfl 23 (by decide) rfl kw_1246 (fun _ h9 => h9) dX12_judge_54 (fun v9 h9 => ?_)
          obtain ⟨v54, rfl⟩ := h9
          refine lv_goto (tgt := 75) hx hb dX12_judge_57 (by decide) ?_
          exact te_i hx hb hr hlocks hH hS (rfl) dX12_judge_75
      · skip
        have tc40 := f_eq (k := 0) (by decide) c40
        refine lv_iload hx hb dX12_judge_43 (lv_at hl 0 rfl) ?_
        refine lv_goto (tgt := 75) hx hb dX12_judge_45 (by decide) ?_
        exact te_i hx hb hr hlocks hH hS (rfl) dX12_judge_75
    · skip
      have tc27 := f_ne (k := 0) (by decide) c27
      refine lv_iload_n hx hb dX12_judge_30 rfl (lv_at hl 0 rfl) ?_
      exact te_i hx hb hr hlocks hH hS (rfl) dX12_judge_31
  · skip
    have tc14 := f_eq (k := 0) (by decide) c14
    clear x_v110
    replace x_v111 := x_v111.resolve_left (fun q9 => q9 tc14)
    refine lv_bipush (v := (-2)) hx hb dX12_judge_17 (by decide) ?_
    exact te_i hx hb hr hlocks hH hS (rfl) dX12_judge_19
set_option maxHeartbeats 4000000 in
set_option maxRecDepth 100000 in
theorem s_M_climb (l : Launch) (D : va_G) (cs : CS) (kf : KF) (T : TF) (O : List Nat) (X : va_W) (a0 hg mq : Nat) (x1 : Int32) (t_a0 : T a0 = some (22, hg, mq)) (b_hg : hg < 90) (hO : okO T O [1, 2, 8, 9, 22]) : TK l D cs kf yX12_climb cX12_climb 4 (some (.int)) { frames := 5, cells := 0, slots := 0, locals := 127 } [.ref a0, .int x1] T O X (Ti D cs (fun r u => u = (T, O, X))) := by
  refine tk_of (by decide) (Nat.le_of_ble_eq_true rfl) (fun p e s m below meth c ls A H locs hx hb hr hml hown hts hlocks hnm hkb hH hS hA hOX hks hE hl => ?_)
  have hown : s.vm.findClass RX12 = some m.cls := hown
  have hl : lv_has ls 4 [(0, .ref a0), (1, .int x1)] := hl
  refine lv_aload_n hx hb dX12_climb_0 rfl (lv_at hl 0 rfl) ?_
  refine lv_iconst (v := 0) hx hb dX12_climb_1 (by decide) ?_
  refine t_put (ci := 12) (lst := ft12 hg mq) (v := .int 0) (ty := tyX12 0) (C := RX12) (F := TX12) (N := 36) hx hb hts uX12 tyX12 tyX12_ok nmX12 hown hkb hH hS t_a0 (hO.no t_a0 (by decide)) (fun _ => Iff.rfl) rfl rfl 0 (by decide) rfl (⟨_, rfl⟩) kw_1223 (fun _ h9 => h9) rfl (tyX12_ok 0 (by decide)) rfl rfl dX12_climb_2 (fun H locs hH hS => ?_)
  refine lv_aload_n hx hb dX12_climb_5 rfl (lv_at hl 0 rfl) ?_
  refine lv_iload_n hx hb dX12_climb_6 rfl (lv_at hl 1 rfl) ?_
  refine tk_i hH hS hA (tr_V (n := 1) (As := [.int x1]) hx hb hml hown hts hkb hH hOX hks hE hS hA (s_M_noTray l D cs kf T O X a0 hg mq x1 t_a0 b_hg (hO.sub (by decide))) kw_1523 kw_1525 ks_75 kw_13 kw_1526 (by decide +kernel) ⟨Nat.le_of_ble_eq_true rfl, Nat.le_of_ble_eq_true rfl⟩ (HT.recv (ci := 12) hkb hH t_a0 (hO.no t_a0 (by decide)) rfl) rfl rfl hl.1 (Nat.le_of_ble_eq_true rfl) dX12_climb_7 ⟨Nat.le_of_ble_eq_true rfl, Nat.le_of_ble_eq_true rfl⟩) (fun v7 u H locs hz9 hH hS => ?_)
  obtain ⟨rfl, l_v7, u_v7, x_v70⟩ := hz9
  have hH : HT D cs A T O X H := hH
  refine W.widen (k := 0) (n := 0) (Nat.le_of_ble_eq_true rfl) (Nat.le_of_ble_eq_true rfl) ?_
  refine lv_istore_n (lv' := [(2, .int v7), (0, .ref a0), (1, .int x1)]) hx hb dX12_climb_10 rfl hl (by decide) rfl (fun ls hl => ?_)
  refine lv_iload_n hx hb dX12_climb_11 rfl (lv_at hl 0 rfl) ?_
  refine lv_if_eq (tgt := 17) hx hb dX12_climb_12 (by decide) (fun c12 => ?_) (fun c12 => ?_)
  · skip
    have tc12 := f_eq (k := 0) (by decide) c12
    refine lv_aload_n hx hb dX12_climb_17 rfl (lv_at hl 1 rfl) ?_
    refine lv_iload_n hx hb dX12_climb_18 rfl (lv_at hl 2 rfl) ?_
    refine tk_i hH hS hA (tr_V (n := 1) (As := [.int x1]) hx hb hml hown hts hkb hH hOX hks hE hS hA (s_M_told l D cs kf T O X a0 hg mq x1 t_a0 b_hg (by omega) (by omega) (hO.sub (by decide))) kw_1528 kw_1530 ks_76 kw_13 kw_1531 (by decide +kernel) ⟨Nat.le_of_ble_eq_true rfl, Nat.le_of_ble_eq_true rfl⟩ (HT.recv (ci := 12) hkb hH t_a0 (hO.no t_a0 (by decide)) rfl) rfl rfl hl.1 (Nat.le_of_ble_eq_true rfl) dX12_climb_19 ⟨Nat.le_of_ble_eq_true rfl, Nat.le_of_ble_eq_true rfl⟩) (fun v19 u H locs hz9 hH hS => ?_)
    obtain ⟨rfl, l_v19, u_v19⟩ := hz9
    have hH : HT D cs A T O X H := hH
    refine W.widen (k := 0) (n := 0) (Nat.le_of_ble_eq_true rfl) (Nat.le_of_ble_eq_true rfl) ?_
    refine lv_iconst (v := (-1)) hx hb dX12_climb_22 (by decide) ?_
    refine lv_icmp_eq (tgt := 29) hx hb dX12_climb_23 (by decide) (fun c23 => ?_) (fun c23 => ?_)
    · skip
      have tc23 := f_eq (k := -1) (by decide) c23
      refine lv_aload_n hx hb dX12_climb_29 rfl (lv_at hl 1 rfl) ?_
      refine tk_v hH hS hA (tr_V (n := 0) (As := []) hx hb hml hown hts hkb hH hOX hks hE hS hA (s_M_keeps l D cs kf T O X a0 hg mq t_a0 b_hg (hO.sub (by decide))) kw_1544 kw_1546 ks_79 kw_13 kw_1547 (by decide +kernel) ⟨Nat.le_of_ble_eq_true rfl, Nat.le_of_ble_eq_true rfl⟩ (HT.recv (ci := 12) hkb hH t_a0 (hO.no t_a0 (by decide)) rfl) rfl rfl hl.1 (Nat.le_of_ble_eq_true rfl) dX12_climb_30 ⟨Nat.le_of_ble_eq_true rfl, Nat.le_of_ble_eq_true rfl⟩) (fun u H locs hz9 hH hS => ?_)
      have hz9 : u = (T, O, X) := hz9
      subst hz9
      have hH : HT D cs A T O X H := hH
      refine W.widen (k := 0) (n := 0) (Nat.le_of_ble_eq_true rfl) (Nat.le_of_ble_eq_true rfl) ?_
      refine lv_aload_n hx hb dX12_climb_33 rfl (lv_at hl 1 rfl) ?_
      refine lv_aload_n hx hb dX12_climb_34 rfl (lv_at hl 1 rfl) ?_
      refine t_get (ci := 12) (lst := ft12 hg mq) (C := RX12) (F := TX12) (N := 36) hx hb hts uX12 hown hkb hH t_a0 (hO.no t_a0 (by decide)) (fun _ h9 => h9) rfl rfl 35 (by decide) rfl kw_1258 (fun _ h9 => h9) dX12_climb_35 (fun v9 h9 => ?_)
      obtain ⟨v35, rfl, t_v35⟩ := h9
      refine lv_bipush (v := 40) hx hb dX12_climb_38 (by decide) ?_
      refine lv_iload_n hx hb dX12_climb_40 rfl (lv_at hl 2 rfl) ?_
      refine lv_imul hx hb dX12_climb_41 ?_
      refine lv_topi (fun v41 ev41 => ?_)
      have tv41 : v41.toInt = (40) * x1.toInt := by rw [ev41]; exact mul_i (by decide : (40 : Int32).toInt = 40) rfl (by omega) (by omega)
      refine t_lld hx hb hkb hH t_v35 (hO.no t_v35 (by decide)) (by omega) (by omega) dX12_climb_42 (fun v42 => ?_)
      refine lv_l2i hx hb dX12_climb_43 rfl ?_
      refine lv_topi (fun v43 ev43 => ?_)
      refine tk_i hH hS hA (tr_V (n := 1) (As := [.int v43]) hx hb hml hown hts hkb hH hOX hks hE hS hA (s_M_usesRow l D cs kf T O X a0 hg mq v43 t_a0 b_hg (hO.sub (by decide))) kw_1548 kw_1550 ks_80 kw_13 kw_1551 (by decide +kernel) ⟨Nat.le_of_ble_eq_true rfl, Nat.le_of_ble_eq_true rfl⟩ (HT.recv (ci := 12) hkb hH t_a0 (hO.no t_a0 (by decide)) rfl) rfl rfl hl.1 (Nat.le_of_ble_eq_true rfl) dX12_climb_44 ⟨Nat.le_of_ble_eq_true rfl, Nat.le_of_ble_eq_true rfl⟩) (fun v44 u H locs hz9 hH hS => ?_)
      have hz9 : u = (T, O, X) := hz9
      subst hz9
      have hH : HT D cs A T O X H := hH
      refine W.widen (k := 0) (n := 0) (Nat.le_of_ble_eq_true rfl) (Nat.le_of_ble_eq_true rfl) ?_
      refine lv_istore_n (lv' := [(3, .int v44), (2, .int v7), (0, .ref a0), (1, .int x1)]) hx hb dX12_climb_47 rfl hl (by decide) rfl (fun ls hl => ?_)
      refine lv_aload_n hx hb dX12_climb_48 rfl (lv_at hl 2 rfl) ?_
      refine tk_v hH hS hA (tr_V (n := 0) (As := []) hx hb hml hown hts hkb hH hOX hks hE hS hA (s_M_notes l D cs kf T O X a0 hg mq t_a0 b_hg (hO.sub (by decide))) kw_1552 kw_1554 ks_81 kw_13 kw_1555 (by decide +kernel) ⟨Nat.le_of_ble_eq_true rfl, Nat.le_of_ble_eq_true rfl⟩ (HT.recv (ci := 12) hkb hH t_a0 (hO.no t_a0 (by decide)) rfl) rfl rfl hl.1 (Nat.le_of_ble_eq_true rfl) dX12_climb_49 ⟨Nat.le_of_ble_eq_true rfl, Nat.le_of_ble_eq_true rfl⟩) (fun u H locs hz9 hH hS => ?_)
      obtain ⟨rfl⟩ := hz9
      have hH : HT D cs A T O X H := hH
      refine W.widen (k := 0) (n := 0) (Nat.le_of_ble_eq_true rfl) (Nat.le_of_ble_eq_true rfl) ?_
      refine lv_iload_n hx hb dX12_climb_52 rfl (lv_at hl 0 rfl) ?_
      exact te_i hx hb hr hlocks hH hS (rfl) dX12_climb_53
    · skip
      have tc23 := f_ne (k := -1) (by decide) c23
      refine lv_bipush (v := (-5)) hx hb dX12_climb_26 (by decide) ?_
      exact te_i hx hb hr hlocks hH hS (rfl) dX12_climb_28
  · skip
    have tc12 := f_ne (k := 0) (by decide) c12
    refine lv_iload_n hx hb dX12_climb_15 rfl (lv_at hl 0 rfl) ?_
    exact te_i hx hb hr hlocks hH hS (rfl) dX12_climb_16
/-! walls of the reference that are copied -/
theorem S8_cong {p q : Nat → Int32} (h : ∀ j, j < 1302 → q j = p j) (hS : S8 p) : S8 q := by
  obtain ⟨a1, a2, a3, a4, a5, a6, a7, a8⟩ := hS
  refine ⟨?_, ?_, ?_, ?_, ?_, ?_, ?_, ?_⟩
  · rw [h 1 (by omega)]; exact a1
  · rw [h 2 (by omega)]; exact a2
  · rw [h 4 (by omega)]; exact a3
  · rw [h 5 (by omega)]; exact a4
  · rw [h 6 (by omega)]; exact a5
  · rw [h 90 (by omega)]; exact a6
  · rw [h 401 (by omega)]; exact a7
  · intro k hk h1
    rw [h 401 (by omega)] at hk
    have hk9 : k < 900 := by omega
    rw [h (402 + k) (by omega)] at h1 ⊢
    rw [dpn_same (f := p) (g := q) (N := 900) (fun j hj => h (402 + j) (by omega)) k (by omega)]
    exact a8 k hk h1
/-- so many numbers of the first wall are copied to b on -/
def CI (f g : Nat → Int32) (b k : Nat) : Prop := ∀ j, g j = if b ≤ j ∧ j < b + k then f (j - b) else f j
theorem CI_0 {f : Nat → Int32} {b : Nat} {z : Int32} (hz : z.toInt = 0) : CI f f b z.toInt.toNat := fun j => by rw [if_neg (by omega)]
theorem CI_s {f g F : Nat → Int32} {b : Nat} {p v w x : Int32} (hi : CI f g b p.toInt.toNat) (h0 : 0 ≤ p.toInt) (h1 : p.toInt < 1302) (hb : 1302 ≤ b) (hv : v.toInt = p.toInt + 1) (hx : x = g p.toInt.toNat) (hw : w.toInt = b + p.toInt) (eF : F = upd g w.toInt.toNat x) : CI f F b v.toInt.toNat := fun j => by
  have e : w.toInt.toNat = b + p.toInt.toNat := by omega
  have hk := hi p.toInt.toNat
  rw [if_neg (by omega)] at hk
  rw [eF, e]
  by_cases q : j = b + p.toInt.toNat
  · rw [q, upd_eq, hx, hk, if_pos (by omega), show b + p.toInt.toNat - b = p.toInt.toNat by omega]
  · rw [upd_ne q, hi j]
    by_cases q2 : b ≤ j ∧ j < b + p.toInt.toNat
    · rw [if_pos q2, if_pos (by omega)]
    · rw [if_neg q2, if_neg (by omega)]
theorem CI_B8 {f g : Nat → Int32} {b : Nat} {p : Int32} (hi : CI f g b p.toInt.toNat) (hp : p.toInt = 1302) (hB : B8 3906 f) (hb : b = 1302 ∨ b = 2604) : B8 3906 g ∧ g 1 = f 1 ∧ g 2 = f 2 := by
  have e : p.toInt.toNat = 1302 := by omega
  rw [e] at hi
  refine ⟨fun z hz => ?_, by rw [hi 1, if_neg (by omega)], by rw [hi 2, if_neg (by omega)]⟩
  by_cases q : z * 1302 = b
  · refine S8_cong (p := f) (fun j hj => ?_) hB.first
    show g (z * 1302 + j) = f j
    rw [hi, if_pos (by omega), show z * 1302 + j - b = j by omega]
  · refine S8_cong (p := fun j => f (z * 1302 + j)) (fun j hj => ?_) (hB z hz)
    show g (z * 1302 + j) = f (z * 1302 + j)
    rw [hi, if_neg (by omega)]
theorem dX12_image_0 : decode cX12_image 0 = .ok (.aload_n 0, 1) := by decide +kernel
theorem dX12_image_1 : decode cX12_image 1 = .ok (.iconst 0, 1) := by decide +kernel
theorem dX12_image_2 : decode cX12_image 2 = .ok (.putfield 1, 3) := by decide +kernel
theorem dX12_image_5 : decode cX12_image 5 = .ok (.iload_n 1, 1) := by decide +kernel
theorem dX12_image_6 : decode cX12_image 6 = .ok (.i2l, 1) := by decide +kernel
theorem dX12_image_7 : decode cX12_image 7 = .ok (.lconst 0, 1) := by decide +kernel
theorem dX12_image_8 : decode cX12_image 8 = .ok (.lconst 1, 1) := by decide +kernel
theorem dX12_image_9 : decode cX12_image 9 = .ok (.invokestatic 144, 3) := by decide +kernel
theorem dX12_image_12 : decode cX12_image 12 = .ok (.ifCond .ne 6, 3) := by decide +kernel
theorem dX12_image_15 : decode cX12_image 15 = .ok (.bipush (-2), 2) := by decide +kernel
theorem dX12_image_17 : decode cX12_image 17 = .ok (.ireturn, 1) := by decide +kernel
theorem dX12_image_18 : decode cX12_image 18 = .ok (.iconst 0, 1) := by decide +kernel
theorem dX12_image_19 : decode cX12_image 19 = .ok (.istore_n 2, 1) := by decide +kernel
theorem dX12_image_20 : decode cX12_image 20 = .ok (.iload_n 2, 1) := by decide +kernel
theorem dX12_image_21 : decode cX12_image 21 = .ok (.sipush 1302, 3) := by decide +kernel
theorem dX12_image_24 : decode cX12_image 24 = .ok (.if_icmp .ge 29, 3) := by decide +kernel
theorem dX12_image_27 : decode cX12_image 27 = .ok (.aload_n 0, 1) := by decide +kernel
theorem dX12_image_28 : decode cX12_image 28 = .ok (.getfield 13, 3) := by decide +kernel
theorem dX12_image_31 : decode cX12_image 31 = .ok (.sipush 1302, 3) := by decide +kernel
theorem dX12_image_34 : decode cX12_image 34 = .ok (.iload_n 1, 1) := by decide +kernel
theorem dX12_image_35 : decode cX12_image 35 = .ok (.iconst 1, 1) := by decide +kernel
theorem dX12_image_36 : decode cX12_image 36 = .ok (.iadd, 1) := by decide +kernel
theorem dX12_image_37 : decode cX12_image 37 = .ok (.imul, 1) := by decide +kernel
theorem dX12_image_38 : decode cX12_image 38 = .ok (.iload_n 2, 1) := by decide +kernel
theorem dX12_image_39 : decode cX12_image 39 = .ok (.iadd, 1) := by decide +kernel
theorem dX12_image_40 : decode cX12_image 40 = .ok (.aload_n 0, 1) := by decide +kernel
theorem dX12_image_41 : decode cX12_image 41 = .ok (.getfield 13, 3) := by decide +kernel
theorem dX12_image_44 : decode cX12_image 44 = .ok (.iload_n 2, 1) := by decide +kernel
theorem dX12_image_45 : decode cX12_image 45 = .ok (.iaload, 1) := by decide +kernel
theorem dX12_image_46 : decode cX12_image 46 = .ok (.iastore, 1) := by decide +kernel
theorem dX12_image_47 : decode cX12_image 47 = .ok (.iinc 2 1, 3) := by decide +kernel
theorem dX12_image_50 : decode cX12_image 50 = .ok (.goto (-30), 3) := by decide +kernel
theorem dX12_image_53 : decode cX12_image 53 = .ok (.aload_n 0, 1) := by decide +kernel
theorem dX12_image_54 : decode cX12_image 54 = .ok (.getfield 17, 3) := by decide +kernel
theorem dX12_image_57 : decode cX12_image 57 = .ok (.iload_n 1, 1) := by decide +kernel
theorem dX12_image_58 : decode cX12_image 58 = .ok (.iconst 1, 1) := by decide +kernel
theorem dX12_image_59 : decode cX12_image 59 = .ok (.bastore, 1) := by decide +kernel
theorem dX12_image_60 : decode cX12_image 60 = .ok (.iconst 0, 1) := by decide +kernel
theorem dX12_image_61 : decode cX12_image 61 = .ok (.ireturn, 1) := by decide +kernel
theorem kw_1225 : Cond.fieldLink "FootholdWallModel" 17 "FootholdWallModel" "hasImage" "[Z" ∈ gw := gw_of (tb_of 1225 (by decide +kernel)) (by decide +kernel)
set_option maxHeartbeats 4000000 in
set_option maxRecDepth 100000 in
theorem s_M_image (l : Launch) (D : va_G) (cs : CS) (kf : KF) (T : TF) (O : List Nat) (X : va_W) (a0 hg mq : Nat) (x1 : Int32) (t_a0 : T a0 = some (22, hg, mq)) (b_hg : hg < 90) (hO : okO T O [3, 8, 22]) : TK l D cs kf yX12_image cX12_image 3 (some (.int)) { frames := 1, cells := 0, slots := 0, locals := 25 } [.ref a0, .int x1] T O X (Ti D cs (fun r u => u = (T, O, X) ∧ -2 ≤ r.toInt ∧ r.toInt ≤ 0)) := by
  refine tk_of (by decide) (Nat.le_of_ble_eq_true rfl) (fun p e s m below meth c ls A H locs hx hb hr hml hown hts hlocks hnm hkb hH hS hA hOX hks hE hl => ?_)
  have hown : s.vm.findClass RX12 = some m.cls := hown
  have hl : lv_has ls 3 [(0, .ref a0), (1, .int x1)] := hl
  have hO0 := hO
  obtain ⟨fs9, ho9, hH⟩ := hH.take t_a0 (hO0.no t_a0 (by decide))
  have hp0 : okL T (ft12 hg mq) fs9 := ho9
  clear ho9
  obtain ⟨v9, fs9, rfl, h9, hp1⟩ := okL_i hp0
  obtain ⟨q0_0, rfl⟩ := h9
  obtain ⟨v9, fs9, rfl, h9, hp2⟩ := okL_i hp1
  obtain ⟨q0_1, rfl, t_q0_1⟩ := h9
  obtain ⟨v9, fs9, rfl, h9, hp3⟩ := okL_i hp2
  obtain ⟨q0_2, rfl, t_q0_2⟩ := h9
  obtain ⟨v9, fs9, rfl, h9, hp4⟩ := okL_i hp3
  obtain ⟨q0_3, rfl, t_q0_3⟩ := h9
  obtain ⟨v9, fs9, rfl, h9, hp5⟩ := okL_i hp4
  obtain ⟨q0_4, rfl, t_q0_4⟩ := h9
  obtain ⟨v9, fs9, rfl, h9, hp6⟩ := okL_i hp5
  obtain ⟨q0_5, rfl, l_q0_5, u_q0_5⟩ := h9
  obtain ⟨v9, fs9, rfl, h9, hp7⟩ := okL_i hp6
  obtain ⟨q0_6, rfl⟩ := h9
  obtain ⟨v9, fs9, rfl, h9, hp8⟩ := okL_i hp7
  obtain ⟨q0_7, rfl⟩ := h9
  obtain ⟨v9, fs9, rfl, h9, hp9⟩ := okL_i hp8
  obtain ⟨q0_8, rfl⟩ := h9
  obtain ⟨v9, fs9, rfl, h9, hp10⟩ := okL_i hp9
  obtain ⟨q0_9, rfl⟩ := h9
  obtain ⟨v9, fs9, rfl, h9, hp11⟩ := okL_i hp10
  obtain ⟨q0_10, rfl, l_q0_10, u_q0_10⟩ := h9
  obtain ⟨v9, fs9, rfl, h9, hp12⟩ := okL_i hp11
  obtain ⟨q0_11, rfl⟩ := h9
  obtain ⟨v9, fs9, rfl, h9, hp13⟩ := okL_i hp12
  obtain ⟨q0_12, rfl⟩ := h9
  obtain ⟨v9, fs9, rfl, h9, hp14⟩ := okL_i hp13
  obtain ⟨q0_13, rfl⟩ := h9
  obtain ⟨v9, fs9, rfl, h9, hp15⟩ := okL_i hp14
  obtain ⟨q0_14, rfl⟩ := h9
  obtain ⟨v9, fs9, rfl, h9, hp16⟩ := okL_i hp15
  obtain ⟨q0_15, rfl, t_q0_15⟩ := h9
  obtain ⟨v9, fs9, rfl, h9, hp17⟩ := okL_i hp16
  obtain ⟨q0_16, rfl⟩ := h9
  obtain ⟨v9, fs9, rfl, h9, hp18⟩ := okL_i hp17
  obtain ⟨q0_17, rfl, t_q0_17⟩ := h9
  obtain ⟨v9, fs9, rfl, h9, hp19⟩ := okL_i hp18
  obtain ⟨q0_18, rfl, t_q0_18⟩ := h9
  obtain ⟨v9, fs9, rfl, h9, hp20⟩ := okL_i hp19
  obtain ⟨q0_19, rfl, t_q0_19⟩ := h9
  obtain ⟨v9, fs9, rfl, h9, hp21⟩ := okL_i hp20
  obtain ⟨q0_20, rfl, l_q0_20, u_q0_20⟩ := h9
  obtain ⟨v9, fs9, rfl, h9, hp22⟩ := okL_i hp21
  obtain ⟨q0_21, rfl, t_q0_21⟩ := h9
  obtain ⟨v9, fs9, rfl, h9, hp23⟩ := okL_i hp22
  obtain ⟨q0_22, rfl, t_q0_22⟩ := h9
  obtain ⟨v9, fs9, rfl, h9, hp24⟩ := okL_i hp23
  obtain ⟨q0_23, rfl⟩ := h9
  obtain ⟨v9, fs9, rfl, h9, hp25⟩ := okL_i hp24
  obtain ⟨q0_24, rfl⟩ := h9
  obtain ⟨v9, fs9, rfl, h9, hp26⟩ := okL_i hp25
  obtain ⟨q0_25, rfl⟩ := h9
  obtain ⟨v9, fs9, rfl, h9, hp27⟩ := okL_i hp26
  obtain ⟨q0_26, rfl, t_q0_26⟩ := h9
  obtain ⟨v9, fs9, rfl, h9, hp28⟩ := okL_i hp27
  obtain ⟨q0_27, rfl, t_q0_27⟩ := h9
  obtain ⟨v9, fs9, rfl, h9, hp29⟩ := okL_i hp28
  obtain ⟨q0_28, rfl, t_q0_28⟩ := h9
  obtain ⟨v9, fs9, rfl, h9, hp30⟩ := okL_i hp29
  obtain ⟨q0_29, rfl, t_q0_29⟩ := h9
  obtain ⟨v9, fs9, rfl, h9, hp31⟩ := okL_i hp30
  obtain ⟨q0_30, rfl, t_q0_30⟩ := h9
  obtain ⟨v9, fs9, rfl, h9, hp32⟩ := okL_i hp31
  obtain ⟨q0_31, rfl, t_q0_31⟩ := h9
  obtain ⟨v9, fs9, rfl, h9, hp33⟩ := okL_i hp32
  obtain ⟨q0_32, rfl⟩ := h9
  obtain ⟨v9, fs9, rfl, h9, hp34⟩ := okL_i hp33
  obtain ⟨q0_33, rfl, t_q0_33⟩ := h9
  obtain ⟨v9, fs9, rfl, h9, hp35⟩ := okL_i hp34
  obtain ⟨q0_34, rfl, t_q0_34⟩ := h9
  obtain ⟨v9, fs9, rfl, h9, hp36⟩ := okL_i hp35
  obtain ⟨q0_35, rfl, t_q0_35⟩ := h9
  have hpz := okL_z hp36
  subst hpz
  have hH : HT D cs A T (a0 :: O) ((a0, .inr (12, [.int q0_0, .ref q0_1, .ref q0_2, .ref q0_3, .ref q0_4, .int q0_5, .int q0_6, .int q0_7, .int q0_8, .int q0_9, .int q0_10, .int q0_11, .int q0_12, .int q0_13, .int q0_14, .ref q0_15, .int q0_16, .ref q0_17, .ref q0_18, .ref q0_19, .int q0_20, .ref q0_21, .ref q0_22, .int q0_23, .int q0_24, .int q0_25, .ref q0_26, .ref q0_27, .ref q0_28, .ref q0_29, .ref q0_30, .ref q0_31, .int q0_32, .ref q0_33, .ref q0_34, .ref q0_35])) :: X) H := hH
  have hO : okO T (a0 :: O) [3, 8] := okO.cons (hO0.sub (by decide)) t_a0 (by decide)
  obtain ⟨e9, hs9, hH⟩ := HT.takeA hH t_q0_1 (nm_c (tag_ne t_q0_1 t_a0 (fun q => absurd (show 8 = 22 from congrArg Prod.fst q) (by decide))) (hO0.no t_q0_1 (by decide)))
  obtain ⟨f1, rfl, s_f1, g_f1⟩ : ∃ f : Nat → Int32, e9 = .inl (cs.2.1, 3906, .inl f) ∧ B8 3906 f ∧ (3906 = 3906 → f 1 = nI (hg / 6) ∧ f 2 = nI (hg % 6)) := hs9
  have g_f1 := g_f1 rfl
  have hO : okO T (q0_1 :: a0 :: O) [3] := okO.cons (hO.sub (by decide)) t_q0_1 (by decide)
  refine lv_aload_n hx hb dX12_image_0 rfl (lv_at hl 0 rfl) ?_
  refine lv_iconst (v := 0) hx hb dX12_image_1 (by decide) ?_
  refine x_putk (ci := 12) (v := .int 0) (ty := tyX12 0) (C := RX12) (F := TX12) (N := 36) hx hb hts uX12 tyX12 tyX12_ok nmX12 hown hkb hH hS 1 rfl rfl 0 (by decide) kw_1223 (fun _ h9 => h9) rfl (tyX12_ok 0 (by decide)) rfl rfl (Nat.le_of_ble_eq_true rfl) dX12_image_2 (fun H locs hH hS => ?_)
  have hH : HT D cs A T (q0_1 :: a0 :: O) ((q0_1, .inl (cs.2.1, 3906, .inl f1)) :: (a0, .inr (12, [.int 0, .ref q0_1, .ref q0_2, .ref q0_3, .ref q0_4, .int q0_5, .int q0_6, .int q0_7, .int q0_8, .int q0_9, .int q0_10, .int q0_11, .int q0_12, .int q0_13, .int q0_14, .ref q0_15, .int q0_16, .ref q0_17, .ref q0_18, .ref q0_19, .int q0_20, .ref q0_21, .ref q0_22, .int q0_23, .int q0_24, .int q0_25, .ref q0_26, .ref q0_27, .ref q0_28, .ref q0_29, .ref q0_30, .ref q0_31, .int q0_32, .ref q0_33, .ref q0_34, .ref q0_35])) :: X) H := hH
  refine lv_iload_n hx hb dX12_image_5 rfl (lv_at hl 1 rfl) ?_
  refine lv_i2l hx hb dX12_image_6 rfl ?_
  refine lv_lconst (v := 0) hx hb dX12_image_7 (by decide) ?_
  refine lv_lconst (v := 1) hx hb dX12_image_8 (by decide) ?_
  refine tk_i hH hS hA (tr_S (n := 3) (As := [.long x1.toInt64, .long 0, .long 1]) hx hb hml hown hts hkb hH (ox_c (ox_c hOX)) hks hE hS hA (s_M_within l D cs kf T (q0_1 :: a0 :: O) ((q0_1, .inl (cs.2.1, 3906, .inl f1)) :: (a0, .inr (12, [.int 0, .ref q0_1, .ref q0_2, .ref q0_3, .ref q0_4, .int q0_5, .int q0_6, .int q0_7, .int q0_8, .int q0_9, .int q0_10, .int q0_11, .int q0_12, .int q0_13, .int q0_14, .ref q0_15, .int q0_16, .ref q0_17, .ref q0_18, .ref q0_19, .int q0_20, .ref q0_21, .ref q0_22, .int q0_23, .int q0_24, .int q0_25, .ref q0_26, .ref q0_27, .ref q0_28, .ref q0_29, .ref q0_30, .ref q0_31, .int q0_32, .ref q0_33, .ref q0_34, .ref q0_35])) :: X) x1.toInt64 0 1  (hO.sub (by decide))) kw_1341 kw_1342 kw_13 kw_1343 (by decide +kernel) ⟨Nat.le_of_ble_eq_true rfl, Nat.le_of_ble_eq_true rfl⟩ rfl rfl hl.1 (Nat.le_of_ble_eq_true rfl) dX12_image_9 ⟨Nat.le_of_ble_eq_true rfl, Nat.le_of_ble_eq_true rfl⟩) (fun v9 u H locs hz9 hH hS => ?_)
  obtain ⟨rfl, l_v9, u_v9, x_v90, x_v91⟩ := hz9
  simp only [Int32.toInt_toInt64] at x_v90 x_v91
  have k9_0 : (0 : Int64).toInt = 0 := by decide
  have k9_1 : (1 : Int64).toInt = 1 := by decide
  have hH : HT D cs A T (q0_1 :: a0 :: O) ((q0_1, .inl (cs.2.1, 3906, .inl f1)) :: (a0, .inr (12, [.int 0, .ref q0_1, .ref q0_2, .ref q0_3, .ref q0_4, .int q0_5, .int q0_6, .int q0_7, .int q0_8, .int q0_9, .int q0_10, .int q0_11, .int q0_12, .int q0_13, .int q0_14, .ref q0_15, .int q0_16, .ref q0_17, .ref q0_18, .ref q0_19, .int q0_20, .ref q0_21, .ref q0_22, .int q0_23, .int q0_24, .int q0_25, .ref q0_26, .ref q0_27, .ref q0_28, .ref q0_29, .ref q0_30, .ref q0_31, .int q0_32, .ref q0_33, .ref q0_34, .ref q0_35])) :: X) H := hH
  refine W.widen (k := 0) (n := 0) (Nat.le_of_ble_eq_true rfl) (Nat.le_of_ble_eq_true rfl) ?_
  refine lv_if_ne (tgt := 18) hx hb dX12_image_12 (by decide) (fun c12 => ?_) (fun c12 => ?_)
  · skip
    have tc12 := f_ne (k := 0) (by decide) c12
    replace x_v90 := x_v90.resolve_left tc12
    clear x_v91
    refine lv_iconst (v := 0) hx hb dX12_image_18 (by decide) ?_
    have J20 : ∀ (n : Nat) (p20_2 : Int32) (g20_0 : Nat → Int32) (H : Heap) (locs : List Loc) (ls : Array Slot), (1302 - p20_2.toInt).toNat = n → (0 ≤ p20_2.toInt) → (p20_2.toInt ≤ 1302) → (CI f1 g20_0 (1302 * (x1.toInt.toNat + 1)) p20_2.toInt.toNat) → HT D cs A T (q0_1 :: a0 :: O) ((q0_1, .inl (cs.2.1, 3906, .inl g20_0)) :: (a0, .inr (12, [.int 0, .ref q0_1, .ref q0_2, .ref q0_3, .ref q0_4, .int q0_5, .int q0_6, .int q0_7, .int q0_8, .int q0_9, .int q0_10, .int q0_11, .int q0_12, .int q0_13, .int q0_14, .ref q0_15, .int q0_16, .ref q0_17, .ref q0_18, .ref q0_19, .int q0_20, .ref q0_21, .ref q0_22, .int q0_23, .int q0_24, .int q0_25, .ref q0_26, .ref q0_27, .ref q0_28, .ref q0_29, .ref q0_30, .ref q0_31, .int q0_32, .ref q0_33, .ref q0_34, .ref q0_35])) :: X) H → va_S A s.heap H locs → lv_has ls 3 [(2, .int p20_2), (0, .ref a0), (1, .int x1)] → W p l e { frames := 1, cells := 0, slots := 0, locals := 25 } s m [.ref a0, .int x1].toArray below meth c H locs 0 0 (MQ below (Ti D cs (fun r u => u = (T, O, X) ∧ -2 ≤ r.toInt ∧ r.toInt ≤ 0) A) [.ref a0, .int x1].toArray s 0 0 A) (F0 m 20 ls []) := by
      intro n
      induction n using Nat.strongRecOn with
      | _ n ih20 =>
        intro p20_2 g20_0 H locs ls hm20 l_p20_2 u_p20_2 i20 hH hS hl
        refine lv_iload_n hx hb dX12_image_20 rfl (lv_at hl 0 rfl) ?_
        refine lv_sipush (v := 1302) hx hb dX12_image_21 (by decide) ?_
        refine lv_icmp_ge (tgt := 53) hx hb dX12_image_24 (by decide) (fun c24 => ?_) (fun c24 => ?_)
        · skip
          have tc24 := f_ge (k := 1302) (by decide) c24
          have hB9 := CI_B8 i20 (by omega) s_f1 (by omega)
          refine lv_aload_n hx hb dX12_image_53 rfl (lv_at hl 1 rfl) ?_
          refine x_getk (ci := 12) (C := RX12) (F := TX12) (N := 36) (v := .ref q0_2) hx hb hts uX12 hown hkb hH 1 rfl rfl 2 (by decide) rfl kw_1225 (fun _ h9 => h9) dX12_image_54 ?_
          refine lv_iload_n hx hb dX12_image_57 rfl (lv_at hl 2 rfl) ?_
          refine lv_iconst (v := 1) hx hb dX12_image_58 (by decide) ?_
          refine t_zst hx hb hkb hH hS t_q0_2 (hO.no t_q0_2 (by decide)) (by omega) (by omega) dX12_image_59 (fun H locs hH hS => ?_)
          refine lv_iconst (v := 0) hx hb dX12_image_60 (by decide) ?_
          have hH : HT D cs A T (a0 :: O) ((a0, .inr (12, [.int 0, .ref q0_1, .ref q0_2, .ref q0_3, .ref q0_4, .int q0_5, .int q0_6, .int q0_7, .int q0_8, .int q0_9, .int q0_10, .int q0_11, .int q0_12, .int q0_13, .int q0_14, .ref q0_15, .int q0_16, .ref q0_17, .ref q0_18, .ref q0_19, .int q0_20, .ref q0_21, .ref q0_22, .int q0_23, .int q0_24, .int q0_25, .ref q0_26, .ref q0_27, .ref q0_28, .ref q0_29, .ref q0_30, .ref q0_31, .int q0_32, .ref q0_33, .ref q0_34, .ref q0_35])) :: X) H := HT.layA hH t_q0_1 (show sp cs T (8, 3906, hg) _ from ⟨_, rfl, hB9.1, fun _ => ⟨hB9.2.1.trans g_f1.1, hB9.2.2.trans g_f1.2⟩⟩)
          have hH : HT D cs A T O X H := HT.lay (ci := 12) hH t_a0 (okL_c (⟨_, rfl⟩) (okL_c (⟨_, rfl, t_q0_1⟩) (okL_c (⟨_, rfl, t_q0_2⟩) (okL_c (⟨_, rfl, t_q0_3⟩) (okL_c (⟨_, rfl, t_q0_4⟩) (okL_c (⟨_, rfl, by omega, by omega⟩) (okL_c (⟨_, rfl⟩) (okL_c (⟨_, rfl⟩) (okL_c (⟨_, rfl⟩) (okL_c (⟨_, rfl⟩) (okL_c (⟨_, rfl, by omega, by omega⟩) (okL_c (⟨_, rfl⟩) (okL_c (⟨_, rfl⟩) (okL_c (⟨_, rfl⟩) (okL_c (⟨_, rfl⟩) (okL_c (⟨_, rfl, t_q0_15⟩) (okL_c (⟨_, rfl⟩) (okL_c (⟨_, rfl, t_q0_17⟩) (okL_c (⟨_, rfl, t_q0_18⟩) (okL_c (⟨_, rfl, t_q0_19⟩) (okL_c (⟨_, rfl, by omega, by omega⟩) (okL_c (⟨_, rfl, t_q0_21⟩) (okL_c (⟨_, rfl, t_q0_22⟩) (okL_c (⟨_, rfl⟩) (okL_c (⟨_, rfl⟩) (okL_c (⟨_, rfl⟩) (okL_c (⟨_, rfl, t_q0_26⟩) (okL_c (⟨_, rfl, t_q0_27⟩) (okL_c (⟨_, rfl, t_q0_28⟩) (okL_c (⟨_, rfl, t_q0_29⟩) (okL_c (⟨_, rfl, t_q0_30⟩) (okL_c (⟨_, rfl, t_q0_31⟩) (okL_c (⟨_, rfl⟩) (okL_c (⟨_, rfl, t_q0_33⟩) (okL_c (⟨_, rfl, t_q0_34⟩) (okL_c (⟨_, rfl, t_q0_35⟩) (okL_n)))))))))))))))))))))))))))))))))))))
          have hO := hO0
          have z9_0 : (0 : Int32).toInt = 0 := by decide
          exact te_i hx hb hr hlocks hH hS (⟨rfl, by decide, by decide⟩) dX12_image_61
        · skip
          have tc24 := f_nge (k := 1302) (by decide) c24
          refine lv_aload_n hx hb dX12_image_27 rfl (lv_at hl 1 rfl) ?_
          refine x_getk (ci := 12) (C := RX12) (F := TX12) (N := 36) (v := .ref q0_1) hx hb hts uX12 hown hkb hH 1 rfl rfl 1 (by decide) rfl kw_1224 (fun _ h9 => h9) dX12_image_28 ?_
          refine lv_sipush (v := 1302) hx hb dX12_image_31 (by decide) ?_
          refine lv_iload_n hx hb dX12_image_34 rfl (lv_at hl 2 rfl) ?_
          refine lv_iconst (v := 1) hx hb dX12_image_35 (by decide) ?_
          refine lv_iadd hx hb dX12_image_36 ?_
          refine lv_topi (fun v36 ev36 => ?_)
          have tv36 : v36.toInt = x1.toInt + (1) := by rw [ev36]; exact add_i rfl (by decide : (1 : Int32).toInt = 1) (by omega) (by omega)
          refine lv_imul hx hb dX12_image_37 ?_
          refine lv_topi (fun v37 ev37 => ?_)
          have tv37 : v37.toInt = (1302) * v36.toInt := by rw [ev37]; exact mul_i (by decide : (1302 : Int32).toInt = 1302) rfl (by omega) (by omega)
          refine lv_iload_n hx hb dX12_image_38 rfl (lv_at hl 0 rfl) ?_
          refine lv_iadd hx hb dX12_image_39 ?_
          refine lv_topi (fun v39 ev39 => ?_)
          have tv39 : v39.toInt = v37.toInt + p20_2.toInt := by rw [ev39]; exact add_i rfl rfl (by omega) (by omega)
          refine lv_aload_n hx hb dX12_image_40 rfl (lv_at hl 1 rfl) ?_
          refine x_getk (ci := 12) (C := RX12) (F := TX12) (N := 36) (v := .ref q0_1) hx hb hts uX12 hown hkb hH 1 rfl rfl 1 (by decide) rfl kw_1224 (fun _ h9 => h9) dX12_image_41 ?_
          refine lv_iload_n hx hb dX12_image_44 rfl (lv_at hl 0 rfl) ?_
          refine xa_ild hx hb hkb hH 0 rfl (by omega) (by omega) dX12_image_45 ?_
          refine lv_topi (fun v45 ev45 => ?_)
          have tv45 : v45 = g20_0 p20_2.toInt.toNat := ev45
          refine xa_ist hx hb hkb hH hS 0 rfl (by omega) (by omega) dX12_image_46 (fun H locs hH hS => ?_)
          have hH : HT D cs A T (q0_1 :: a0 :: O) ((q0_1, .inl (cs.2.1, 3906, .inl (upd g20_0 (v39.toInt.toNat) v45))) :: (a0, .inr (12, [.int 0, .ref q0_1, .ref q0_2, .ref q0_3, .ref q0_4, .int q0_5, .int q0_6, .int q0_7, .int q0_8, .int q0_9, .int q0_10, .int q0_11, .int q0_12, .int q0_13, .int q0_14, .ref q0_15, .int q0_16, .ref q0_17, .ref q0_18, .ref q0_19, .int q0_20, .ref q0_21, .ref q0_22, .int q0_23, .int q0_24, .int q0_25, .ref q0_26, .ref q0_27, .ref q0_28, .ref q0_29, .ref q0_30, .ref q0_31, .int q0_32, .ref q0_33, .ref q0_34, .ref q0_35])) :: X) H := hH
          obtain ⟨F46, eF46⟩ : ∃ f9, f9 = upd g20_0 (v39.toInt.toNat) v45 := ⟨_, rfl⟩
          have hH : HT D cs A T (q0_1 :: a0 :: O) ((q0_1, .inl (cs.2.1, 3906, .inl F46)) :: (a0, .inr (12, [.int 0, .ref q0_1, .ref q0_2, .ref q0_3, .ref q0_4, .int q0_5, .int q0_6, .int q0_7, .int q0_8, .int q0_9, .int q0_10, .int q0_11, .int q0_12, .int q0_13, .int q0_14, .ref q0_15, .int q0_16, .ref q0_17, .ref q0_18, .ref q0_19, .int q0_20, .ref q0_21, .ref q0_22, .int q0_23, .int q0_24, .int q0_25, .ref q0_26, .ref q0_27, .ref q0_28, .ref q0_29, .ref q0_30, .ref q0_31, .int q0_32, .ref q0_33, .ref q0_34, .ref q0_35])) :: X) H := eF46 ▸ hH
          obtain ⟨v47, ev47⟩ : ∃ y : Int32, y = p20_2 + 1 := ⟨_, rfl⟩
          have tv47 : v47.toInt = p20_2.toInt + (1) := by rw [ev47]; exact add_i rfl (by decide) (by omega) (by omega)
          refine lv_iinc (v := v47) (lv' := [(2, .int v47), (0, .ref a0), (1, .int x1)]) hx hb dX12_image_47 hl (k := 0) rfl (by rw [ev47]; rfl) (by decide) rfl (fun ls hl => ?_)
          refine lv_goto (tgt := 20) hx hb dX12_image_50 (by decide) ?_
          exact ih20 _ (by omega) v47 F46 _ _ _ rfl (by omega) (by omega) (by first | (refine CI_0 ?_; decide) | (refine CI_s i20 ?_ ?_ ?_ tv47 tv45 ?_ eF46 <;> omega)) hH hS (lv_sub hl [0, 1, 2] rfl)
    refine lv_istore_n (lv' := [(2, .int 0), (0, .ref a0), (1, .int x1)]) hx hb dX12_image_19 rfl hl (by decide) rfl (fun ls hl => ?_)
    have z_0 : (0 : Int32).toInt = 0 := by decide
    exact J20 _ 0 f1 _ _ _ rfl (by decide) (by decide) (by first | (refine CI_0 ?_; decide) | (refine CI_s i20 ?_ ?_ ?_ tv47 tv45 ?_ eF46 <;> omega)) hH hS (lv_sub hl [0, 1, 2] rfl)
  · skip
    have tc12 := f_eq (k := 0) (by decide) c12
    clear x_v90
    replace x_v91 := x_v91.resolve_left (fun q9 => q9 tc12)
    refine lv_bipush (v := (-2)) hx hb dX12_image_15 (by decide) ?_
    have hH : HT D cs A T (a0 :: O) ((a0, .inr (12, [.int 0, .ref q0_1, .ref q0_2, .ref q0_3, .ref q0_4, .int q0_5, .int q0_6, .int q0_7, .int q0_8, .int q0_9, .int q0_10, .int q0_11, .int q0_12, .int q0_13, .int q0_14, .ref q0_15, .int q0_16, .ref q0_17, .ref q0_18, .ref q0_19, .int q0_20, .ref q0_21, .ref q0_22, .int q0_23, .int q0_24, .int q0_25, .ref q0_26, .ref q0_27, .ref q0_28, .ref q0_29, .ref q0_30, .ref q0_31, .int q0_32, .ref q0_33, .ref q0_34, .ref q0_35])) :: X) H := HT.layA hH t_q0_1 (show sp cs T (8, 3906, hg) _ from ⟨_, rfl, s_f1, fun _ => g_f1⟩)
    have hH : HT D cs A T O X H := HT.lay (ci := 12) hH t_a0 (okL_c (⟨_, rfl⟩) (okL_c (⟨_, rfl, t_q0_1⟩) (okL_c (⟨_, rfl, t_q0_2⟩) (okL_c (⟨_, rfl, t_q0_3⟩) (okL_c (⟨_, rfl, t_q0_4⟩) (okL_c (⟨_, rfl, by omega, by omega⟩) (okL_c (⟨_, rfl⟩) (okL_c (⟨_, rfl⟩) (okL_c (⟨_, rfl⟩) (okL_c (⟨_, rfl⟩) (okL_c (⟨_, rfl, by omega, by omega⟩) (okL_c (⟨_, rfl⟩) (okL_c (⟨_, rfl⟩) (okL_c (⟨_, rfl⟩) (okL_c (⟨_, rfl⟩) (okL_c (⟨_, rfl, t_q0_15⟩) (okL_c (⟨_, rfl⟩) (okL_c (⟨_, rfl, t_q0_17⟩) (okL_c (⟨_, rfl, t_q0_18⟩) (okL_c (⟨_, rfl, t_q0_19⟩) (okL_c (⟨_, rfl, by omega, by omega⟩) (okL_c (⟨_, rfl, t_q0_21⟩) (okL_c (⟨_, rfl, t_q0_22⟩) (okL_c (⟨_, rfl⟩) (okL_c (⟨_, rfl⟩) (okL_c (⟨_, rfl⟩) (okL_c (⟨_, rfl, t_q0_26⟩) (okL_c (⟨_, rfl, t_q0_27⟩) (okL_c (⟨_, rfl, t_q0_28⟩) (okL_c (⟨_, rfl, t_q0_29⟩) (okL_c (⟨_, rfl, t_q0_30⟩) (okL_c (⟨_, rfl, t_q0_31⟩) (okL_c (⟨_, rfl⟩) (okL_c (⟨_, rfl, t_q0_33⟩) (okL_c (⟨_, rfl, t_q0_34⟩) (okL_c (⟨_, rfl, t_q0_35⟩) (okL_n)))))))))))))))))))))))))))))))))))))
    have hO := hO0
    have z9_m2 : ((-2) : Int32).toInt = -2 := by decide
    exact te_i hx hb hr hlocks hH hS (⟨rfl, by decide, by decide⟩) dX12_image_17
/-! another wall of the reference -/
def Trk (T T2 : TF) : Prop := ∀ (b : Nat) (tg : Tg), T b = some tg → tg.1 ≠ 22 → tg.1 ≠ 8 → tg.1 ≠ 9 → T2 b = some tg
def mon2 (P : FT) : Prop := ∀ (T T2 : TF) (v : Value), Trk T T2 → P T v → P T2 v
theorem wI (lo hi : Int) : mon2 (fI lo hi) := fun _ _ _ _ h => h
theorem wA : mon2 fA := fun _ _ _ _ h => h
theorem wE (n : Nat) : mon2 (fE n) := fun _ _ _ _ h => h
theorem wN : mon2 fN := fun _ _ _ _ h => h
theorem wP (n : Nat) : mon2 (fP n) := fun _ _ _ _ h => h
theorem wR {tg : Tg} (h1 : tg.1 ≠ 22) (h2 : tg.1 ≠ 8) (h3 : tg.1 ≠ 9) : mon2 (fR tg) := fun _ _ _ h ⟨b, x, t⟩ => ⟨b, x, h _ _ t h1 h2 h3⟩
theorem wRd : mon2 fRd := fun _ _ _ h ⟨b, d, x, t, u⟩ => ⟨b, d, x, h _ _ t (by show 14 ≠ 22; decide) (by show 14 ≠ 8; decide) (by show 14 ≠ 9; decide), h _ _ u (by show 19 ≠ 22; decide) (by show 19 ≠ 8; decide) (by show 19 ≠ 9; decide)⟩
theorem isW.rk {T T2 : TF} (h : Trk T T2) {b x g : Nat} (hw : isW T b x g) : isW T2 b x g := ⟨h _ _ hw.1 (by show 19 ≠ 22; decide) (by show 19 ≠ 8; decide) (by show 19 ≠ 9; decide), hw.2⟩
theorem wW : mon2 fW := fun _ _ _ h ⟨b, x, g, q, t⟩ => ⟨b, x, g, q, isW.rk h t⟩
theorem wL : mon2 fLw := fun _ _ _ h q => q.elim Or.inl (fun ⟨b, n, x, t, u⟩ => Or.inr ⟨b, n, x, h _ _ t (by show 12 ≠ 22; decide) (by show 12 ≠ 8; decide) (by show 12 ≠ 9; decide), u⟩)
theorem wTR (n : Nat) : mon2 (fTR n) := fun _ _ _ h ⟨b, g, e, t, u⟩ => ⟨b, g, e, h _ _ t (by show 6 ≠ 22; decide) (by show 6 ≠ 8; decide) (by show 6 ≠ 9; decide), h _ _ u (by show 10 ≠ 22; decide) (by show 10 ≠ 8; decide) (by show 10 ≠ 9; decide)⟩
theorem wSo (n : Nat) : mon2 (fSo n) := fun _ _ _ _ h => h
theorem wSz (n : Nat) : mon2 (fSz n) := fun _ _ _ _ h => h
def mons2 (l : List FT) : Prop := ∀ P ∈ l, mon2 P
theorem m2_n : mons2 [] := fun _ h => absurd h List.not_mem_nil
theorem m2_c {P : FT} {l : List FT} (h : mon2 P) (hl : mons2 l) : mons2 (P :: l) := fun Q hQ => (List.mem_cons.mp hQ).elim (fun q => q ▸ h) (hl Q)
theorem ft1_2 (p q : Nat) : mons2 (ft1 p q) := m2_c (wR (by show 1 ≠ 22; decide) (by show 1 ≠ 8; decide) (by show 1 ≠ 9; decide)) (m2_c (wR (by show 1 ≠ 22; decide) (by show 1 ≠ 8; decide) (by show 1 ≠ 9; decide)) (m2_c (wA) (m2_c (wR (by show 1 ≠ 22; decide) (by show 1 ≠ 8; decide) (by show 1 ≠ 9; decide)) (m2_c (wI _ _) (m2_c (wA) (m2_c (wR (by show 1 ≠ 22; decide) (by show 1 ≠ 8; decide) (by show 1 ≠ 9; decide)) (m2_n)))))))
theorem ft2_2 (p q : Nat) : mons2 (ft2 p q) := m2_c (wR (by show 1 ≠ 22; decide) (by show 1 ≠ 8; decide) (by show 1 ≠ 9; decide)) (m2_c (wR (by show 1 ≠ 22; decide) (by show 1 ≠ 8; decide) (by show 1 ≠ 9; decide)) (m2_c (wR (by show 1 ≠ 22; decide) (by show 1 ≠ 8; decide) (by show 1 ≠ 9; decide)) (m2_n)))
theorem ft3_2 (p q : Nat) : mons2 (ft3 p q) := m2_c (wR (by show 17 ≠ 22; decide) (by show 17 ≠ 8; decide) (by show 17 ≠ 9; decide)) (m2_c (wR (by show 1 ≠ 22; decide) (by show 1 ≠ 8; decide) (by show 1 ≠ 9; decide)) (m2_c (wI _ _) (m2_n)))
theorem ft4_2 (p q : Nat) : mons2 (ft4 p q) := m2_c (wR (by show 17 ≠ 22; decide) (by show 17 ≠ 8; decide) (by show 17 ≠ 9; decide)) (m2_c (wR (by show 13 ≠ 22; decide) (by show 13 ≠ 8; decide) (by show 13 ≠ 9; decide)) (m2_c (wP _) (m2_c (wI _ _) (m2_c (wR (by show 16 ≠ 22; decide) (by show 16 ≠ 8; decide) (by show 16 ≠ 9; decide)) (m2_n)))))
theorem ft5_2 (p q : Nat) : mons2 (ft5 p q) := m2_c (wW) (m2_c (wA) (m2_c (wA) (m2_c (wA) (m2_c (wR (by show 1 ≠ 22; decide) (by show 1 ≠ 8; decide) (by show 1 ≠ 9; decide)) (m2_c (wR (by show 1 ≠ 22; decide) (by show 1 ≠ 8; decide) (by show 1 ≠ 9; decide)) (m2_n))))))
theorem ft6_2 (p q : Nat) : mons2 (ft6 p q) := m2_c (wA) (m2_c (wA) (m2_c (wA) (m2_c (wA) (m2_c (wR (by show 1 ≠ 22; decide) (by show 1 ≠ 8; decide) (by show 1 ≠ 9; decide)) (m2_c (wR (by show 1 ≠ 22; decide) (by show 1 ≠ 8; decide) (by show 1 ≠ 9; decide)) (m2_n))))))
theorem ft8_2 (p q : Nat) : mons2 (ft8 p q) := m2_c (wR (by show 2 ≠ 22; decide) (by show 2 ≠ 8; decide) (by show 2 ≠ 9; decide)) (m2_c (wSo _) (m2_c (wSz _) (m2_n)))
theorem ft10_2 (p q : Nat) : mons2 (ft10 p q) := m2_c (wR (by show 1 ≠ 22; decide) (by show 1 ≠ 8; decide) (by show 1 ≠ 9; decide)) (m2_c (wR (by show 1 ≠ 22; decide) (by show 1 ≠ 8; decide) (by show 1 ≠ 9; decide)) (m2_c (wI _ _) (m2_c (wR (by show 2 ≠ 22; decide) (by show 2 ≠ 8; decide) (by show 2 ≠ 9; decide)) (m2_c (wR (by show 1 ≠ 22; decide) (by show 1 ≠ 8; decide) (by show 1 ≠ 9; decide)) (m2_c (wR (by show 1 ≠ 22; decide) (by show 1 ≠ 8; decide) (by show 1 ≠ 9; decide)) (m2_c (wI _ _) (m2_n)))))))
theorem ft11_2 (p q : Nat) : mons2 (ft11 p q) := m2_c (wR (by show 0 ≠ 22; decide) (by show 0 ≠ 8; decide) (by show 0 ≠ 9; decide)) (m2_c (wI _ _) (m2_c (wRd) (m2_c (wP _) (m2_c (wR (by show 16 ≠ 22; decide) (by show 16 ≠ 8; decide) (by show 16 ≠ 9; decide)) (m2_c (wR (by show 16 ≠ 22; decide) (by show 16 ≠ 8; decide) (by show 16 ≠ 9; decide)) (m2_c (wR (by show 4 ≠ 22; decide) (by show 4 ≠ 8; decide) (by show 4 ≠ 9; decide)) (m2_c (wI _ _) (m2_c (wI _ _) (m2_c (wR (by show 5 ≠ 22; decide) (by show 5 ≠ 8; decide) (by show 5 ≠ 9; decide)) (m2_c (wR (by show 4 ≠ 22; decide) (by show 4 ≠ 8; decide) (by show 4 ≠ 9; decide)) (m2_c (wTR _) (m2_c (wR (by show 7 ≠ 22; decide) (by show 7 ≠ 8; decide) (by show 7 ≠ 9; decide)) (m2_c (wR (by show 15 ≠ 22; decide) (by show 15 ≠ 8; decide) (by show 15 ≠ 9; decide)) (m2_c (wR (by show 20 ≠ 22; decide) (by show 20 ≠ 8; decide) (by show 20 ≠ 9; decide)) (m2_c (wR (by show 11 ≠ 22; decide) (by show 11 ≠ 8; decide) (by show 11 ≠ 9; decide)) (m2_c (wP _) (m2_c (wR (by show 1 ≠ 22; decide) (by show 1 ≠ 8; decide) (by show 1 ≠ 9; decide)) (m2_c (wR (by show 1 ≠ 22; decide) (by show 1 ≠ 8; decide) (by show 1 ≠ 9; decide)) (m2_c (wA) (m2_n))))))))))))))))))))
theorem ft9w_2 (p q : Nat) : mons2 (ft9w p q) := m2_c (wE _) (m2_c (wE _) (m2_c (wA) (m2_c (wI _ _) (m2_c (wI _ _) (m2_c (wI _ _) (m2_c (wR (by show 1 ≠ 22; decide) (by show 1 ≠ 8; decide) (by show 1 ≠ 9; decide)) (m2_c (wR (by show 1 ≠ 22; decide) (by show 1 ≠ 8; decide) (by show 1 ≠ 9; decide)) (m2_c (wR (by show 1 ≠ 22; decide) (by show 1 ≠ 8; decide) (by show 1 ≠ 9; decide)) (m2_c (wR (by show 1 ≠ 22; decide) (by show 1 ≠ 8; decide) (by show 1 ≠ 9; decide)) (m2_c (wR (by show 1 ≠ 22; decide) (by show 1 ≠ 8; decide) (by show 1 ≠ 9; decide)) (m2_c (wL) (m2_c (wI _ _) (m2_c (wI _ _) (m2_n))))))))))))))
theorem ft9d_2 (p q : Nat) : mons2 (ft9d p q) := m2_c (wI _ _) (m2_c (wI _ _) (m2_c (wA) (m2_c (wI _ _) (m2_c (wI _ _) (m2_c (wI _ _) (m2_c (wR (by show 1 ≠ 22; decide) (by show 1 ≠ 8; decide) (by show 1 ≠ 9; decide)) (m2_c (wR (by show 1 ≠ 22; decide) (by show 1 ≠ 8; decide) (by show 1 ≠ 9; decide)) (m2_c (wR (by show 1 ≠ 22; decide) (by show 1 ≠ 8; decide) (by show 1 ≠ 9; decide)) (m2_c (wR (by show 1 ≠ 22; decide) (by show 1 ≠ 8; decide) (by show 1 ≠ 9; decide)) (m2_c (wR (by show 1 ≠ 22; decide) (by show 1 ≠ 8; decide) (by show 1 ≠ 9; decide)) (m2_c (wN) (m2_c (wI _ _) (m2_c (wI _ _) (m2_n))))))))))))))
theorem ft9_2 (p q : Nat) : mons2 (ft9 p q) := by
  unfold ft9
  split
  · exact ft9d_2 p q
  · exact ft9w_2 p q
theorem fts_2 (c p q : Nat) (hc : c ≠ 12) : mons2 (fts c p q) := by
  unfold fts
  split <;> first | exact ft1_2 p q | exact ft2_2 p q | exact ft3_2 p q | exact ft4_2 p q | exact ft5_2 p q | exact ft6_2 p q | exact ft8_2 p q | exact ft9_2 p q | exact ft10_2 p q | exact ft11_2 p q | exact absurd rfl hc | exact m2_n
theorem ob_rk {T T2 : TF} (h : Trk T T2) {c p q : Nat} (hc : c ≠ 12) {fs : List Value} (ho : ob T c p q fs) : ob T2 c p q fs := by
  unfold ob at ho ⊢
  split at ho
  · obtain ⟨b, b2, d, n, x, e1, t1, t2, t3, r⟩ := ho
    exact ⟨b, b2, d, n, x, e1, h _ _ t1 (by show 1 ≠ 22; decide) (by show 1 ≠ 8; decide) (by show 1 ≠ 9; decide), h _ _ t2 (by show 1 ≠ 22; decide) (by show 1 ≠ 8; decide) (by show 1 ≠ 9; decide), h _ _ t3 (by show 1 ≠ 22; decide) (by show 1 ≠ 8; decide) (by show 1 ≠ 9; decide), r⟩
  · obtain ⟨b, n, x1, x2, x3, x4, x5, x6, x7, e1, t, r⟩ := ho
    exact ⟨b, n, x1, x2, x3, x4, x5, x6, x7, e1, h _ _ t (by show 0 ≠ 22; decide) (by show 0 ≠ 8; decide) (by show 0 ≠ 9; decide), r⟩
  · exact ⟨ho.1, fun k P v h1 h2 => fts_2 _ _ _ hc P (List.mem_of_getElem? h1) T T2 v h (ho.2 k P v h1 h2)⟩
theorem sp_rk {cs : CS} {T T2 : TF} (h : Trk T T2) {tg : Tg} (h22 : tg.1 ≠ 22) {e : va_E} (hs : sp cs T tg e) : sp cs T2 tg e := by
  unfold sp at hs ⊢
  split at hs
  · exact hs
  · exact hs
  · exact hs
  · exact hs
  · obtain ⟨f, e1, g⟩ := hs
    exact ⟨f, e1, fun j hj => by obtain ⟨b, x, y⟩ := g j hj; exact ⟨b, x, h _ _ y (by show 16 ≠ 22; decide) (by show 16 ≠ 8; decide) (by show 16 ≠ 9; decide)⟩⟩
  · obtain ⟨f, e1, g⟩ := hs
    exact ⟨f, e1, fun j b hj => by obtain ⟨x, g2, y⟩ := g j b hj; exact ⟨x, g2, isW.rk h y⟩⟩
  · obtain ⟨f, e1, g, gi⟩ := hs
    exact ⟨f, e1, fun j hj => by obtain ⟨b, x, y⟩ := g j hj; exact ⟨b, x, h _ _ y (by show 18 ≠ 22; decide) (by show 18 ≠ 8; decide) (by show 18 ≠ 9; decide)⟩, gi⟩
  · obtain ⟨f, e1, g⟩ := hs
    exact ⟨f, e1, fun j hj => by obtain ⟨b, x, y⟩ := g j hj; exact ⟨b, x, h _ _ y (by show 15 ≠ 22; decide) (by show 15 ≠ 8; decide) (by show 15 ≠ 9; decide)⟩⟩
  · exact hs
  · exact hs
  · rename_i c p q
    obtain ⟨fs, e1, g⟩ := hs
    exact ⟨fs, e1, ob_rk h (fun z => h22 (by show c + 10 = 22; omega)) g⟩
/-- what stays when the reference m gets another wall -/
def Trm (T T2 : TF) (m : Nat) : Prop := Trk T T2 ∧ ∀ (b : Nat) (tg : Tg), T2 b = some tg → T b = some tg ∨ (tg.1 = 8 ∨ tg.1 = 9) ∨ (tg.1 = 22 ∧ b = m)
theorem Trm.rf {T : TF} {m : Nat} : Trm T T m := ⟨fun _ _ h _ _ _ => h, fun _ _ h => Or.inl h⟩
theorem HT.rk {D : va_G} {cs : CS} {A : Nat → Prop} {T : TF} {O : List Nat} {X : va_W} {H : Heap} {m aa hg hg2 mq mq2 : Nat} (h : HT D cs A T O X H) (hm : T m = some (22, hg, mq)) (ha : T aa = some (8, 3906, hg)) (hU : ∀ (b : Nat) (tg : Tg), T b = some tg → tg.1 = 22 → b = m) (hmO : m ∈ O) (haO : aa ∈ O) :
    ∃ T2 : TF, T2 aa = some (8, 3906, hg2) ∧ T2 m = some (22, hg2, mq2) ∧ (∀ b, b ≠ m → b ≠ aa → T2 b = T b) ∧ Trm T T2 m ∧ HT D cs A T2 O X H := by
  have hne : aa ≠ m := fun z => by rw [z, hm] at ha; cases ha
  have q1 : Tadd (Tadd T aa (8, 3906, hg2)) m (22, hg2, mq2) aa = some (8, 3906, hg2) := by unfold Tadd; rw [if_neg hne, if_pos rfl]
  have q3 : ∀ b, b ≠ m → b ≠ aa → Tadd (Tadd T aa (8, 3906, hg2)) m (22, hg2, mq2) b = T b := fun b h1 h2 => by unfold Tadd; rw [if_neg h1, if_neg h2]
  have hk : Trk T (Tadd (Tadd T aa (8, 3906, hg2)) m (22, hg2, mq2)) := fun b tg hb k1 k2 k3 => by
    rw [q3 b (fun z => by rw [z, hm] at hb; cases hb; exact k1 rfl) (fun z => by rw [z, ha] at hb; cases hb; exact k2 rfl)]
    exact hb
  refine ⟨_, q1, Tadd_r, q3, ⟨hk, fun b tg hb => ?_⟩, ?_⟩
  · by_cases h1 : b = m
    · rw [h1, Tadd_r] at hb
      cases hb
      exact Or.inr (Or.inr ⟨rfl, h1⟩)
    · by_cases h2 : b = aa
      · rw [h2, q1] at hb
        cases hb
        exact Or.inr (Or.inl (Or.inl rfl))
      · rw [q3 b h1 h2] at hb
        exact Or.inl hb
  · obtain ⟨ws, hP, hD, h3, h4⟩ := h
    refine ⟨ws, hP, hD, fun b tg hb hO => ?_, fun k q hq => ?_⟩
    · have h1 : b ≠ m := fun z => hO (z ▸ hmO)
      have h2 : b ≠ aa := fun z => hO (z ▸ haO)
      rw [q3 b h1 h2] at hb
      obtain ⟨k, e1, hk1, hs⟩ := h3 b tg hb hO
      exact ⟨k, e1, hk1, sp_rk hk (fun z => h1 (hU b tg hb z)) hs⟩
    · obtain ⟨tg, ht⟩ := h4 k q hq
      by_cases h1 : q.1 = m
      · exact ⟨_, by rw [h1]; exact Tadd_r⟩
      · by_cases h2 : q.1 = aa
        · exact ⟨_, by rw [h2]; exact q1⟩
        · exact ⟨tg, by rw [q3 _ h1 h2]; exact ht⟩
/-- the reference's trays are told anew -/
theorem HT.mn {D : va_G} {cs : CS} {A : Nat → Prop} {T : TF} {O : List Nat} {X : va_W} {H : Heap} {m r1 r2 hg mq mq2 : Nat} (h : HT D cs A T O X H) (hm : T m = some (22, hg, mq)) (h1 : T r1 = some (9, 4, 2 * mq)) (h2 : T r2 = some (9, 4, 2 * mq + 1)) (hU : ∀ (b : Nat) (tg : Tg), T b = some tg → tg.1 = 22 → b = m) (hmO : m ∈ O) (h1O : r1 ∈ O) (h2O : r2 ∈ O) :
    ∃ T2 : TF, T2 r1 = some (9, 4, 2 * mq2) ∧ T2 r2 = some (9, 4, 2 * mq2 + 1) ∧ T2 m = some (22, hg, mq2) ∧ (∀ b, b ≠ m → b ≠ r1 → b ≠ r2 → T2 b = T b) ∧ Trm T T2 m ∧ HT D cs A T2 O X H := by
  have n1 : r1 ≠ m := fun z => by rw [z, hm] at h1; cases h1
  have n2 : r2 ≠ m := fun z => by rw [z, hm] at h2; cases h2
  have n3 : r1 ≠ r2 := fun z => by
    rw [z, h2] at h1
    have := congrArg (fun q => q.2.2) (Option.some.inj h1)
    simp only at this
    omega
  obtain ⟨T2, e2⟩ : ∃ T2, T2 = Tadd (Tadd (Tadd T r1 (9, 4, 2 * mq2)) r2 (9, 4, 2 * mq2 + 1)) m (22, hg, mq2) := ⟨_, rfl⟩
  have qm : T2 m = some (22, hg, mq2) := by rw [e2]; exact Tadd_r
  have q1 : T2 r1 = some (9, 4, 2 * mq2) := by rw [e2]; unfold Tadd; rw [if_neg n1, if_neg n3, if_pos rfl]
  have q2 : T2 r2 = some (9, 4, 2 * mq2 + 1) := by rw [e2]; unfold Tadd; rw [if_neg n2, if_pos rfl]
  have q3 : ∀ b, b ≠ m → b ≠ r1 → b ≠ r2 → T2 b = T b := fun b k1 k2 k3 => by rw [e2]; unfold Tadd; rw [if_neg k1, if_neg k3, if_neg k2]
  have hk : Trk T T2 := fun b tg hb k1 k2 k3 => by
    rw [q3 b (fun z => by rw [z, hm] at hb; cases hb; exact k1 rfl) (fun z => by rw [z, h1] at hb; cases hb; exact k3 rfl) (fun z => by rw [z, h2] at hb; cases hb; exact k3 rfl)]
    exact hb
  refine ⟨T2, q1, q2, qm, q3, ⟨hk, fun b tg hb => ?_⟩, ?_⟩
  · by_cases c1 : b = m
    · rw [c1, qm] at hb
      cases hb
      exact Or.inr (Or.inr ⟨rfl, c1⟩)
    · by_cases c2 : b = r1
      · rw [c2, q1] at hb
        cases hb
        exact Or.inr (Or.inl (Or.inr rfl))
      · by_cases c3 : b = r2
        · rw [c3, q2] at hb
          cases hb
          exact Or.inr (Or.inl (Or.inr rfl))
        · rw [q3 b c1 c2 c3] at hb
          exact Or.inl hb
  · obtain ⟨ws, hP, hD, h3, h4⟩ := h
    refine ⟨ws, hP, hD, fun b tg hb hO => ?_, fun k q hq => ?_⟩
    · have c1 : b ≠ m := fun z => hO (z ▸ hmO)
      have c2 : b ≠ r1 := fun z => hO (z ▸ h1O)
      have c3 : b ≠ r2 := fun z => hO (z ▸ h2O)
      rw [q3 b c1 c2 c3] at hb
      obtain ⟨k, x1, hk1, hs⟩ := h3 b tg hb hO
      exact ⟨k, x1, hk1, sp_rk hk (fun z => c1 (hU b tg hb z)) hs⟩
    · obtain ⟨tg, ht⟩ := h4 k q hq
      by_cases c1 : q.1 = m
      · exact ⟨_, by rw [c1]; exact qm⟩
      · by_cases c2 : q.1 = r1
        · exact ⟨_, by rw [c2]; exact q1⟩
        · by_cases c3 : q.1 = r2
          · exact ⟨_, by rw [c3]; exact q2⟩
          · exact ⟨tg, by rw [q3 _ c1 c2 c3]; exact ht⟩
theorem hg_of {F : Nat → Int32} (h : S8 F) : ∃ hg2 : Nat, hg2 < 90 ∧ F 1 = nI (hg2 / 6) ∧ F 2 = nI (hg2 % 6) := by
  obtain ⟨a1, a2, -⟩ := h
  refine ⟨6 * (F 1).toInt.toNat + (F 2).toInt.toNat, by omega, ?_, ?_⟩
  · rw [show (6 * (F 1).toInt.toNat + (F 2).toInt.toNat) / 6 = (F 1).toInt.toNat by omega]
    exact is_nI a1.1
  · rw [show (6 * (F 1).toInt.toNat + (F 2).toInt.toNat) % 6 = (F 2).toInt.toNat by omega]
    exact is_nI a2.1
/-- so many numbers are copied from b on to the first wall -/
def CR (f g : Nat → Int32) (b k : Nat) : Prop := ∀ j, g j = if j < k then f (b + j) else f j
theorem CR_0 {f : Nat → Int32} {b : Nat} {z : Int32} (hz : z.toInt = 0) : CR f f b z.toInt.toNat := fun j => by rw [if_neg (by omega)]
theorem CR_s {f g F : Nat → Int32} {b : Nat} {p v w x : Int32} (hi : CR f g b p.toInt.toNat) (h0 : 0 ≤ p.toInt) (h1 : p.toInt < 1302) (hb : 1302 ≤ b) (hv : v.toInt = p.toInt + 1) (hw : w.toInt = b + p.toInt) (hx : x = g w.toInt.toNat) (eF : F = upd g p.toInt.toNat x) : CR f F b v.toInt.toNat := fun j => by
  have e : w.toInt.toNat = b + p.toInt.toNat := by omega
  have hk := hi (b + p.toInt.toNat)
  rw [if_neg (by omega)] at hk
  rw [eF]
  by_cases q : j = p.toInt.toNat
  · rw [q, upd_eq, hx, e, hk, if_pos (by omega)]
  · rw [upd_ne q, hi j]
    by_cases q2 : j < p.toInt.toNat
    · rw [if_pos q2, if_pos (by omega)]
    · rw [if_neg q2, if_neg (by omega)]
set_option maxRecDepth 20000 in
theorem CR_B8 {f g : Nat → Int32} {b : Nat} {p : Int32} (hi : CR f g b p.toInt.toNat) (hp : p.toInt = 1302) (hB : B8 3906 f) (z : Nat) (hb : b = z * 1302) (hz : z = 1 ∨ z = 2) : B8 3906 g := by
  have e : p.toInt.toNat = 1302 := by omega
  rw [e] at hi
  intro y hy
  by_cases q : y = 0
  · refine S8_cong (p := fun j => f (z * 1302 + j)) (fun j hj => ?_) (hB z (by omega))
    show g (y * 1302 + j) = f (z * 1302 + j)
    rw [hi, if_pos (by omega), hb, show z * 1302 + (y * 1302 + j) = z * 1302 + j by omega]
  · refine S8_cong (p := fun j => f (y * 1302 + j)) (fun j hj => ?_) (hB y hy)
    show g (y * 1302 + j) = f (y * 1302 + j)
    rw [hi, if_neg (by omega)]
theorem dX12_restore_0 : decode cX12_restore 0 = .ok (.aload_n 0, 1) := by decide +kernel
theorem dX12_restore_1 : decode cX12_restore 1 = .ok (.iconst 0, 1) := by decide +kernel
theorem dX12_restore_2 : decode cX12_restore 2 = .ok (.putfield 1, 3) := by decide +kernel
theorem dX12_restore_5 : decode cX12_restore 5 = .ok (.iload_n 1, 1) := by decide +kernel
theorem dX12_restore_6 : decode cX12_restore 6 = .ok (.i2l, 1) := by decide +kernel
theorem dX12_restore_7 : decode cX12_restore 7 = .ok (.lconst 0, 1) := by decide +kernel
theorem dX12_restore_8 : decode cX12_restore 8 = .ok (.lconst 1, 1) := by decide +kernel
theorem dX12_restore_9 : decode cX12_restore 9 = .ok (.invokestatic 144, 3) := by decide +kernel
theorem dX12_restore_12 : decode cX12_restore 12 = .ok (.ifCond .ne 6, 3) := by decide +kernel
theorem dX12_restore_15 : decode cX12_restore 15 = .ok (.bipush (-2), 2) := by decide +kernel
theorem dX12_restore_17 : decode cX12_restore 17 = .ok (.ireturn, 1) := by decide +kernel
theorem dX12_restore_18 : decode cX12_restore 18 = .ok (.aload_n 0, 1) := by decide +kernel
theorem dX12_restore_19 : decode cX12_restore 19 = .ok (.getfield 17, 3) := by decide +kernel
theorem dX12_restore_22 : decode cX12_restore 22 = .ok (.iload_n 1, 1) := by decide +kernel
theorem dX12_restore_23 : decode cX12_restore 23 = .ok (.baload, 1) := by decide +kernel
theorem dX12_restore_24 : decode cX12_restore 24 = .ok (.ifCond .ne 6, 3) := by decide +kernel
theorem dX12_restore_27 : decode cX12_restore 27 = .ok (.bipush (-5), 2) := by decide +kernel
theorem dX12_restore_29 : decode cX12_restore 29 = .ok (.ireturn, 1) := by decide +kernel
theorem dX12_restore_30 : decode cX12_restore 30 = .ok (.iconst 0, 1) := by decide +kernel
theorem dX12_restore_31 : decode cX12_restore 31 = .ok (.istore_n 2, 1) := by decide +kernel
theorem dX12_restore_32 : decode cX12_restore 32 = .ok (.iload_n 2, 1) := by decide +kernel
theorem dX12_restore_33 : decode cX12_restore 33 = .ok (.sipush 1302, 3) := by decide +kernel
theorem dX12_restore_36 : decode cX12_restore 36 = .ok (.if_icmp .ge 29, 3) := by decide +kernel
theorem dX12_restore_39 : decode cX12_restore 39 = .ok (.aload_n 0, 1) := by decide +kernel
theorem dX12_restore_40 : decode cX12_restore 40 = .ok (.getfield 13, 3) := by decide +kernel
theorem dX12_restore_43 : decode cX12_restore 43 = .ok (.iload_n 2, 1) := by decide +kernel
theorem dX12_restore_44 : decode cX12_restore 44 = .ok (.aload_n 0, 1) := by decide +kernel
theorem dX12_restore_45 : decode cX12_restore 45 = .ok (.getfield 13, 3) := by decide +kernel
theorem dX12_restore_48 : decode cX12_restore 48 = .ok (.sipush 1302, 3) := by decide +kernel
theorem dX12_restore_51 : decode cX12_restore 51 = .ok (.iload_n 1, 1) := by decide +kernel
theorem dX12_restore_52 : decode cX12_restore 52 = .ok (.iconst 1, 1) := by decide +kernel
theorem dX12_restore_53 : decode cX12_restore 53 = .ok (.iadd, 1) := by decide +kernel
theorem dX12_restore_54 : decode cX12_restore 54 = .ok (.imul, 1) := by decide +kernel
theorem dX12_restore_55 : decode cX12_restore 55 = .ok (.iload_n 2, 1) := by decide +kernel
theorem dX12_restore_56 : decode cX12_restore 56 = .ok (.iadd, 1) := by decide +kernel
theorem dX12_restore_57 : decode cX12_restore 57 = .ok (.iaload, 1) := by decide +kernel
theorem dX12_restore_58 : decode cX12_restore 58 = .ok (.iastore, 1) := by decide +kernel
theorem dX12_restore_59 : decode cX12_restore 59 = .ok (.iinc 2 1, 3) := by decide +kernel
theorem dX12_restore_62 : decode cX12_restore 62 = .ok (.goto (-30), 3) := by decide +kernel
theorem dX12_restore_65 : decode cX12_restore 65 = .ok (.aload_n 0, 1) := by decide +kernel
theorem dX12_restore_66 : decode cX12_restore 66 = .ok (.getfield 13, 3) := by decide +kernel
theorem dX12_restore_69 : decode cX12_restore 69 = .ok (.bipush 90, 2) := by decide +kernel
theorem dX12_restore_71 : decode cX12_restore 71 = .ok (.iconst 0, 1) := by decide +kernel
theorem dX12_restore_72 : decode cX12_restore 72 = .ok (.iastore, 1) := by decide +kernel
theorem dX12_restore_73 : decode cX12_restore 73 = .ok (.iconst 0, 1) := by decide +kernel
theorem dX12_restore_74 : decode cX12_restore 74 = .ok (.ireturn, 1) := by decide +kernel
set_option maxHeartbeats 4000000 in
set_option maxRecDepth 100000 in
theorem s_M_restore (l : Launch) (D : va_G) (cs : CS) (kf : KF) (T : TF) (O : List Nat) (X : va_W) (a0 hg mq : Nat) (x1 : Int32) (t_a0 : T a0 = some (22, hg, mq)) (b_hg : hg < 90) (hU : ∀ (b : Nat) (tg : Tg), T b = some tg → tg.1 = 22 → b = a0) (hO : okO T O [3, 8, 22]) : TK l D cs kf yX12_restore cX12_restore 3 (some (.int)) { frames := 1, cells := 0, slots := 0, locals := 25 } [.ref a0, .int x1] T O X (Ti D cs (fun r u => ∃ (T2 : TF) (hg2 : Nat), u = (T2, O, X) ∧ -5 ≤ r.toInt ∧ r.toInt ≤ 0 ∧ (Trm T T2 a0) ∧ (T2 a0 = some (22, hg2, mq)) ∧ (hg2 < 90))) := by
  refine tk_of (by decide) (Nat.le_of_ble_eq_true rfl) (fun p e s m below meth c ls A H locs hx hb hr hml hown hts hlocks hnm hkb hH hS hA hOX hks hE hl => ?_)
  have hown : s.vm.findClass RX12 = some m.cls := hown
  have hl : lv_has ls 3 [(0, .ref a0), (1, .int x1)] := hl
  have hO0 := hO
  obtain ⟨fs9, ho9, hH⟩ := hH.take t_a0 (hO0.no t_a0 (by decide))
  have hp0 : okL T (ft12 hg mq) fs9 := ho9
  clear ho9
  obtain ⟨v9, fs9, rfl, h9, hp1⟩ := okL_i hp0
  obtain ⟨q0_0, rfl⟩ := h9
  obtain ⟨v9, fs9, rfl, h9, hp2⟩ := okL_i hp1
  obtain ⟨q0_1, rfl, t_q0_1⟩ := h9
  obtain ⟨v9, fs9, rfl, h9, hp3⟩ := okL_i hp2
  obtain ⟨q0_2, rfl, t_q0_2⟩ := h9
  obtain ⟨v9, fs9, rfl, h9, hp4⟩ := okL_i hp3
  obtain ⟨q0_3, rfl, t_q0_3⟩ := h9
  obtain ⟨v9, fs9, rfl, h9, hp5⟩ := okL_i hp4
  obtain ⟨q0_4, rfl, t_q0_4⟩ := h9
  obtain ⟨v9, fs9, rfl, h9, hp6⟩ := okL_i hp5
  obtain ⟨q0_5, rfl, l_q0_5, u_q0_5⟩ := h9
  obtain ⟨v9, fs9, rfl, h9, hp7⟩ := okL_i hp6
  obtain ⟨q0_6, rfl⟩ := h9
  obtain ⟨v9, fs9, rfl, h9, hp8⟩ := okL_i hp7
  obtain ⟨q0_7, rfl⟩ := h9
  obtain ⟨v9, fs9, rfl, h9, hp9⟩ := okL_i hp8
  obtain ⟨q0_8, rfl⟩ := h9
  obtain ⟨v9, fs9, rfl, h9, hp10⟩ := okL_i hp9
  obtain ⟨q0_9, rfl⟩ := h9
  obtain ⟨v9, fs9, rfl, h9, hp11⟩ := okL_i hp10
  obtain ⟨q0_10, rfl, l_q0_10, u_q0_10⟩ := h9
  obtain ⟨v9, fs9, rfl, h9, hp12⟩ := okL_i hp11
  obtain ⟨q0_11, rfl⟩ := h9
  obtain ⟨v9, fs9, rfl, h9, hp13⟩ := okL_i hp12
  obtain ⟨q0_12, rfl⟩ := h9
  obtain ⟨v9, fs9, rfl, h9, hp14⟩ := okL_i hp13
  obtain ⟨q0_13, rfl⟩ := h9
  obtain ⟨v9, fs9, rfl, h9, hp15⟩ := okL_i hp14
  obtain ⟨q0_14, rfl⟩ := h9
  obtain ⟨v9, fs9, rfl, h9, hp16⟩ := okL_i hp15
  obtain ⟨q0_15, rfl, t_q0_15⟩ := h9
  obtain ⟨v9, fs9, rfl, h9, hp17⟩ := okL_i hp16
  obtain ⟨q0_16, rfl⟩ := h9
  obtain ⟨v9, fs9, rfl, h9, hp18⟩ := okL_i hp17
  obtain ⟨q0_17, rfl, t_q0_17⟩ := h9
  obtain ⟨v9, fs9, rfl, h9, hp19⟩ := okL_i hp18
  obtain ⟨q0_18, rfl, t_q0_18⟩ := h9
  obtain ⟨v9, fs9, rfl, h9, hp20⟩ := okL_i hp19
  obtain ⟨q0_19, rfl, t_q0_19⟩ := h9
  obtain ⟨v9, fs9, rfl, h9, hp21⟩ := okL_i hp20
  obtain ⟨q0_20, rfl, l_q0_20, u_q0_20⟩ := h9
  obtain ⟨v9, fs9, rfl, h9, hp22⟩ := okL_i hp21
  obtain ⟨q0_21, rfl, t_q0_21⟩ := h9
  obtain ⟨v9, fs9, rfl, h9, hp23⟩ := okL_i hp22
  obtain ⟨q0_22, rfl, t_q0_22⟩ := h9
  obtain ⟨v9, fs9, rfl, h9, hp24⟩ := okL_i hp23
  obtain ⟨q0_23, rfl⟩ := h9
  obtain ⟨v9, fs9, rfl, h9, hp25⟩ := okL_i hp24
  obtain ⟨q0_24, rfl⟩ := h9
  obtain ⟨v9, fs9, rfl, h9, hp26⟩ := okL_i hp25
  obtain ⟨q0_25, rfl⟩ := h9
  obtain ⟨v9, fs9, rfl, h9, hp27⟩ := okL_i hp26
  obtain ⟨q0_26, rfl, t_q0_26⟩ := h9
  obtain ⟨v9, fs9, rfl, h9, hp28⟩ := okL_i hp27
  obtain ⟨q0_27, rfl, t_q0_27⟩ := h9
  obtain ⟨v9, fs9, rfl, h9, hp29⟩ := okL_i hp28
  obtain ⟨q0_28, rfl, t_q0_28⟩ := h9
  obtain ⟨v9, fs9, rfl, h9, hp30⟩ := okL_i hp29
  obtain ⟨q0_29, rfl, t_q0_29⟩ := h9
  obtain ⟨v9, fs9, rfl, h9, hp31⟩ := okL_i hp30
  obtain ⟨q0_30, rfl, t_q0_30⟩ := h9
  obtain ⟨v9, fs9, rfl, h9, hp32⟩ := okL_i hp31
  obtain ⟨q0_31, rfl, t_q0_31⟩ := h9
  obtain ⟨v9, fs9, rfl, h9, hp33⟩ := okL_i hp32
  obtain ⟨q0_32, rfl⟩ := h9
  obtain ⟨v9, fs9, rfl, h9, hp34⟩ := okL_i hp33
  obtain ⟨q0_33, rfl, t_q0_33⟩ := h9
  obtain ⟨v9, fs9, rfl, h9, hp35⟩ := okL_i hp34
  obtain ⟨q0_34, rfl, t_q0_34⟩ := h9
  obtain ⟨v9, fs9, rfl, h9, hp36⟩ := okL_i hp35
  obtain ⟨q0_35, rfl, t_q0_35⟩ := h9
  have hpz := okL_z hp36
  subst hpz
  have hH : HT D cs A T (a0 :: O) ((a0, .inr (12, [.int q0_0, .ref q0_1, .ref q0_2, .ref q0_3, .ref q0_4, .int q0_5, .int q0_6, .int q0_7, .int q0_8, .int q0_9, .int q0_10, .int q0_11, .int q0_12, .int q0_13, .int q0_14, .ref q0_15, .int q0_16, .ref q0_17, .ref q0_18, .ref q0_19, .int q0_20, .ref q0_21, .ref q0_22, .int q0_23, .int q0_24, .int q0_25, .ref q0_26, .ref q0_27, .ref q0_28, .ref q0_29, .ref q0_30, .ref q0_31, .int q0_32, .ref q0_33, .ref q0_34, .ref q0_35])) :: X) H := hH
  have hO : okO T (a0 :: O) [3, 8] := okO.cons (hO0.sub (by decide)) t_a0 (by decide)
  obtain ⟨e9, hs9, hH⟩ := HT.takeA hH t_q0_1 (nm_c (tag_ne t_q0_1 t_a0 (fun q => absurd (show 8 = 22 from congrArg Prod.fst q) (by decide))) (hO0.no t_q0_1 (by decide)))
  obtain ⟨f1, rfl, s_f1, g_f1⟩ : ∃ f : Nat → Int32, e9 = .inl (cs.2.1, 3906, .inl f) ∧ B8 3906 f ∧ (3906 = 3906 → f 1 = nI (hg / 6) ∧ f 2 = nI (hg % 6)) := hs9
  have g_f1 := g_f1 rfl
  have hO : okO T (q0_1 :: a0 :: O) [3] := okO.cons (hO.sub (by decide)) t_q0_1 (by decide)
  refine lv_aload_n hx hb dX12_restore_0 rfl (lv_at hl 0 rfl) ?_
  refine lv_iconst (v := 0) hx hb dX12_restore_1 (by decide) ?_
  refine x_putk (ci := 12) (v := .int 0) (ty := tyX12 0) (C := RX12) (F := TX12) (N := 36) hx hb hts uX12 tyX12 tyX12_ok nmX12 hown hkb hH hS 1 rfl rfl 0 (by decide) kw_1223 (fun _ h9 => h9) rfl (tyX12_ok 0 (by decide)) rfl rfl (Nat.le_of_ble_eq_true rfl) dX12_restore_2 (fun H locs hH hS => ?_)
  have hH : HT D cs A T (q0_1 :: a0 :: O) ((q0_1, .inl (cs.2.1, 3906, .inl f1)) :: (a0, .inr (12, [.int 0, .ref q0_1, .ref q0_2, .ref q0_3, .ref q0_4, .int q0_5, .int q0_6, .int q0_7, .int q0_8, .int q0_9, .int q0_10, .int q0_11, .int q0_12, .int q0_13, .int q0_14, .ref q0_15, .int q0_16, .ref q0_17, .ref q0_18, .ref q0_19, .int q0_20, .ref q0_21, .ref q0_22, .int q0_23, .int q0_24, .int q0_25, .ref q0_26, .ref q0_27, .ref q0_28, .ref q0_29, .ref q0_30, .ref q0_31, .int q0_32, .ref q0_33, .ref q0_34, .ref q0_35])) :: X) H := hH
  refine lv_iload_n hx hb dX12_restore_5 rfl (lv_at hl 1 rfl) ?_
  refine lv_i2l hx hb dX12_restore_6 rfl ?_
  refine lv_lconst (v := 0) hx hb dX12_restore_7 (by decide) ?_
  refine lv_lconst (v := 1) hx hb dX12_restore_8 (by decide) ?_
  refine tk_i hH hS hA (tr_S (n := 3) (As := [.long x1.toInt64, .long 0, .long 1]) hx hb hml hown hts hkb hH (ox_c (ox_c hOX)) hks hE hS hA (s_M_within l D cs kf T (q0_1 :: a0 :: O) ((q0_1, .inl (cs.2.1, 3906, .inl f1)) :: (a0, .inr (12, [.int 0, .ref q0_1, .ref q0_2, .ref q0_3, .ref q0_4, .int q0_5, .int q0_6, .int q0_7, .int q0_8, .int q0_9, .int q0_10, .int q0_11, .int q0_12, .int q0_13, .int q0_14, .ref q0_15, .int q0_16, .ref q0_17, .ref q0_18, .ref q0_19, .int q0_20, .ref q0_21, .ref q0_22, .int q0_23, .int q0_24, .int q0_25, .ref q0_26, .ref q0_27, .ref q0_28, .ref q0_29, .ref q0_30, .ref q0_31, .int q0_32, .ref q0_33, .ref q0_34, .ref q0_35])) :: X) x1.toInt64 0 1  (hO.sub (by decide))) kw_1341 kw_1342 kw_13 kw_1343 (by decide +kernel) ⟨Nat.le_of_ble_eq_true rfl, Nat.le_of_ble_eq_true rfl⟩ rfl rfl hl.1 (Nat.le_of_ble_eq_true rfl) dX12_restore_9 ⟨Nat.le_of_ble_eq_true rfl, Nat.le_of_ble_eq_true rfl⟩) (fun v9 u H locs hz9 hH hS => ?_)
  obtain ⟨rfl, l_v9, u_v9, x_v90, x_v91⟩ := hz9
  simp only [Int32.toInt_toInt64] at x_v90 x_v91
  have k9_0 : (0 : Int64).toInt = 0 := by decide
  have k9_1 : (1 : Int64).toInt = 1 := by decide
  have hH : HT D cs A T (q0_1 :: a0 :: O) ((q0_1, .inl (cs.2.1, 3906, .inl f1)) :: (a0, .inr (12, [.int 0, .ref q0_1, .ref q0_2, .ref q0_3, .ref q0_4, .int q0_5, .int q0_6, .int q0_7, .int q0_8, .int q0_9, .int q0_10, .int q0_11, .int q0_12, .int q0_13, .int q0_14, .ref q0_15, .int q0_16, .ref q0_17, .ref q0_18, .ref q0_19, .int q0_20, .ref q0_21, .ref q0_22, .int q0_23, .int q0_24, .int q0_25, .ref q0_26, .ref q0_27, .ref q0_28, .ref q0_29, .ref q0_30, .ref q0_31, .int q0_32, .ref q0_33, .ref q0_34, .ref q0_35])) :: X) H := hH
  refine W.widen (k := 0) (n := 0) (Nat.le_of_ble_eq_true rfl) (Nat.le_of_ble_eq_true rfl) ?_
  refine lv_if_ne (tgt := 18) hx hb dX12_restore_12 (by decide) (fun c12 => ?_) (fun c12 => ?_)
  · skip
    have tc12 := f_ne (k := 0) (by decide) c12
    replace x_v90 := x_v90.resolve_left tc12
    clear x_v91
    refine lv_aload_n hx hb dX12_restore_18 rfl (lv_at hl 0 rfl) ?_
    refine x_getk (ci := 12) (C := RX12) (F := TX12) (N := 36) (v := .ref q0_2) hx hb hts uX12 hown hkb hH 1 rfl rfl 2 (by decide) rfl kw_1225 (fun _ h9 => h9) dX12_restore_19 ?_
    refine lv_iload_n hx hb dX12_restore_22 rfl (lv_at hl 1 rfl) ?_
    refine t_zld hx hb hkb hH t_q0_2 (hO.no t_q0_2 (by decide)) (by omega) (by omega) dX12_restore_23 (fun v23 => ?_)
    refine lv_if_ne (tgt := 30) hx hb dX12_restore_24 (by decide) (fun c24 => ?_) (fun c24 => ?_)
    · skip
      have tc24 := f_ne (k := 0) (by decide) c24
      refine lv_iconst (v := 0) hx hb dX12_restore_30 (by decide) ?_
      have J32 : ∀ (n : Nat) (p32_2 : Int32) (g32_0 : Nat → Int32) (H : Heap) (locs : List Loc) (ls : Array Slot), (1302 - p32_2.toInt).toNat = n → (0 ≤ p32_2.toInt) → (p32_2.toInt ≤ 1302) → (CR f1 g32_0 (1302 * (x1.toInt.toNat + 1)) p32_2.toInt.toNat) → HT D cs A T (q0_1 :: a0 :: O) ((q0_1, .inl (cs.2.1, 3906, .inl g32_0)) :: (a0, .inr (12, [.int 0, .ref q0_1, .ref q0_2, .ref q0_3, .ref q0_4, .int q0_5, .int q0_6, .int q0_7, .int q0_8, .int q0_9, .int q0_10, .int q0_11, .int q0_12, .int q0_13, .int q0_14, .ref q0_15, .int q0_16, .ref q0_17, .ref q0_18, .ref q0_19, .int q0_20, .ref q0_21, .ref q0_22, .int q0_23, .int q0_24, .int q0_25, .ref q0_26, .ref q0_27, .ref q0_28, .ref q0_29, .ref q0_30, .ref q0_31, .int q0_32, .ref q0_33, .ref q0_34, .ref q0_35])) :: X) H → va_S A s.heap H locs → lv_has ls 3 [(2, .int p32_2), (0, .ref a0), (1, .int x1)] → W p l e { frames := 1, cells := 0, slots := 0, locals := 25 } s m [.ref a0, .int x1].toArray below meth c H locs 0 0 (MQ below (Ti D cs (fun r u => ∃ (T2 : TF) (hg2 : Nat), u = (T2, O, X) ∧ -5 ≤ r.toInt ∧ r.toInt ≤ 0 ∧ (Trm T T2 a0) ∧ (T2 a0 = some (22, hg2, mq)) ∧ (hg2 < 90)) A) [.ref a0, .int x1].toArray s 0 0 A) (F0 m 32 ls []) := by
        intro n
        induction n using Nat.strongRecOn with
        | _ n ih32 =>
          intro p32_2 g32_0 H locs ls hm32 l_p32_2 u_p32_2 i32 hH hS hl
          refine lv_iload_n hx hb dX12_restore_32 rfl (lv_at hl 0 rfl) ?_
          refine lv_sipush (v := 1302) hx hb dX12_restore_33 (by decide) ?_
          refine lv_icmp_ge (tgt := 65) hx hb dX12_restore_36 (by decide) (fun c36 => ?_) (fun c36 => ?_)
          · skip
            have tc36 := f_ge (k := 1302) (by decide) c36
            have hB9 := CR_B8 i32 (by omega) s_f1 (x1.toInt.toNat + 1) (by omega) (by omega)
            refine lv_aload_n hx hb dX12_restore_65 rfl (lv_at hl 1 rfl) ?_
            refine x_getk (ci := 12) (C := RX12) (F := TX12) (N := 36) (v := .ref q0_1) hx hb hts uX12 hown hkb hH 1 rfl rfl 1 (by decide) rfl kw_1224 (fun _ h9 => h9) dX12_restore_66 ?_
            refine lv_bipush (v := 90) hx hb dX12_restore_69 (by decide) ?_
            refine lv_iconst (v := 0) hx hb dX12_restore_71 (by decide) ?_
            refine xa_ist hx hb hkb hH hS 0 rfl (by decide) (by decide) dX12_restore_72 (fun H locs hH hS => ?_)
            have hH : HT D cs A T (q0_1 :: a0 :: O) ((q0_1, .inl (cs.2.1, 3906, .inl (upd g32_0 (90) (0 : Int32)))) :: (a0, .inr (12, [.int 0, .ref q0_1, .ref q0_2, .ref q0_3, .ref q0_4, .int q0_5, .int q0_6, .int q0_7, .int q0_8, .int q0_9, .int q0_10, .int q0_11, .int q0_12, .int q0_13, .int q0_14, .ref q0_15, .int q0_16, .ref q0_17, .ref q0_18, .ref q0_19, .int q0_20, .ref q0_21, .ref q0_22, .int q0_23, .int q0_24, .int q0_25, .ref q0_26, .ref q0_27, .ref q0_28, .ref q0_29, .ref q0_30, .ref q0_31, .int q0_32, .ref q0_33, .ref q0_34, .ref q0_35])) :: X) H := hH
            obtain ⟨F72, eF72⟩ : ∃ f9, f9 = upd g32_0 (90) (0 : Int32) := ⟨_, rfl⟩
            have hH : HT D cs A T (q0_1 :: a0 :: O) ((q0_1, .inl (cs.2.1, 3906, .inl F72)) :: (a0, .inr (12, [.int 0, .ref q0_1, .ref q0_2, .ref q0_3, .ref q0_4, .int q0_5, .int q0_6, .int q0_7, .int q0_8, .int q0_9, .int q0_10, .int q0_11, .int q0_12, .int q0_13, .int q0_14, .ref q0_15, .int q0_16, .ref q0_17, .ref q0_18, .ref q0_19, .int q0_20, .ref q0_21, .ref q0_22, .int q0_23, .int q0_24, .int q0_25, .ref q0_26, .ref q0_27, .ref q0_28, .ref q0_29, .ref q0_30, .ref q0_31, .int q0_32, .ref q0_33, .ref q0_34, .ref q0_35])) :: X) H := eF72 ▸ hH
            have hB8 : B8 3906 F72 := by rw [eF72]; exact hB9.put (i := 90) (x := 0) (by decide) (by decide) (p8_90 (by decide) (by decide) (by decide))
            obtain ⟨hg2, hgb, hgq⟩ := hg_of hB8.first
            refine lv_iconst (v := 0) hx hb dX12_restore_73 (by decide) ?_
            obtain ⟨T2, ta2, tm2, hs2, rk2, hH⟩ := HT.rk (hg2 := hg2) (mq2 := mq) hH t_a0 t_q0_1 hU (by simp) (by simp)
            have t_q0_2 := (hs2 _ (tag_ne t_q0_2 t_a0 (fun q => absurd (show 3 = 22 from congrArg Prod.fst q) (by decide))) (tag_ne t_q0_2 t_q0_1 (fun q => absurd (show 3 = 8 from congrArg Prod.fst q) (by decide)))).trans t_q0_2
            have t_q0_3 := (hs2 _ (tag_ne t_q0_3 t_a0 (fun q => absurd (show 1 = 22 from congrArg Prod.fst q) (by decide))) (tag_ne t_q0_3 t_q0_1 (fun q => absurd (show 1 = 8 from congrArg Prod.fst q) (by decide)))).trans t_q0_3
            have t_q0_4 := (hs2 _ (tag_ne t_q0_4 t_a0 (fun q => absurd (show 8 = 22 from congrArg Prod.fst q) (by decide))) (tag_ne t_q0_4 t_q0_1 (fun q => absurd (show 1302 = 3906 from congrArg (fun z => z.2.1) q) (by decide)))).trans t_q0_4
            have t_q0_15 := (hs2 _ (tag_ne t_q0_15 t_a0 (fun q => absurd (show 1 = 22 from congrArg Prod.fst q) (by decide))) (tag_ne t_q0_15 t_q0_1 (fun q => absurd (show 1 = 8 from congrArg Prod.fst q) (by decide)))).trans t_q0_15
            have t_q0_17 := (hs2 _ (tag_ne t_q0_17 t_a0 (fun q => absurd (show 9 = 22 from congrArg Prod.fst q) (by decide))) (tag_ne t_q0_17 t_q0_1 (fun q => absurd (show 9 = 8 from congrArg Prod.fst q) (by decide)))).trans t_q0_17
            have t_q0_18 := (hs2 _ (tag_ne t_q0_18 t_a0 (fun q => absurd (show 9 = 22 from congrArg Prod.fst q) (by decide))) (tag_ne t_q0_18 t_q0_1 (fun q => absurd (show 9 = 8 from congrArg Prod.fst q) (by decide)))).trans t_q0_18
            have t_q0_19 := (hs2 _ (tag_ne t_q0_19 t_a0 (fun q => absurd (show 1 = 22 from congrArg Prod.fst q) (by decide))) (tag_ne t_q0_19 t_q0_1 (fun q => absurd (show 1 = 8 from congrArg Prod.fst q) (by decide)))).trans t_q0_19
            have t_q0_21 := (hs2 _ (tag_ne t_q0_21 t_a0 (fun q => absurd (show 1 = 22 from congrArg Prod.fst q) (by decide))) (tag_ne t_q0_21 t_q0_1 (fun q => absurd (show 1 = 8 from congrArg Prod.fst q) (by decide)))).trans t_q0_21
            have t_q0_22 := (hs2 _ (tag_ne t_q0_22 t_a0 (fun q => absurd (show 1 = 22 from congrArg Prod.fst q) (by decide))) (tag_ne t_q0_22 t_q0_1 (fun q => absurd (show 1 = 8 from congrArg Prod.fst q) (by decide)))).trans t_q0_22
            have t_q0_26 := (hs2 _ (tag_ne t_q0_26 t_a0 (fun q => absurd (show 2 = 22 from congrArg Prod.fst q) (by decide))) (tag_ne t_q0_26 t_q0_1 (fun q => absurd (show 2 = 8 from congrArg Prod.fst q) (by decide)))).trans t_q0_26
            have t_q0_27 := (hs2 _ (tag_ne t_q0_27 t_a0 (fun q => absurd (show 3 = 22 from congrArg Prod.fst q) (by decide))) (tag_ne t_q0_27 t_q0_1 (fun q => absurd (show 3 = 8 from congrArg Prod.fst q) (by decide)))).trans t_q0_27
            have t_q0_28 := (hs2 _ (tag_ne t_q0_28 t_a0 (fun q => absurd (show 0 = 22 from congrArg Prod.fst q) (by decide))) (tag_ne t_q0_28 t_q0_1 (fun q => absurd (show 0 = 8 from congrArg Prod.fst q) (by decide)))).trans t_q0_28
            have t_q0_29 := (hs2 _ (tag_ne t_q0_29 t_a0 (fun q => absurd (show 1 = 22 from congrArg Prod.fst q) (by decide))) (tag_ne t_q0_29 t_q0_1 (fun q => absurd (show 1 = 8 from congrArg Prod.fst q) (by decide)))).trans t_q0_29
            have t_q0_30 := (hs2 _ (tag_ne t_q0_30 t_a0 (fun q => absurd (show 1 = 22 from congrArg Prod.fst q) (by decide))) (tag_ne t_q0_30 t_q0_1 (fun q => absurd (show 1 = 8 from congrArg Prod.fst q) (by decide)))).trans t_q0_30
            have t_q0_31 := (hs2 _ (tag_ne t_q0_31 t_a0 (fun q => absurd (show 1 = 22 from congrArg Prod.fst q) (by decide))) (tag_ne t_q0_31 t_q0_1 (fun q => absurd (show 1 = 8 from congrArg Prod.fst q) (by decide)))).trans t_q0_31
            have t_q0_33 := (hs2 _ (tag_ne t_q0_33 t_a0 (fun q => absurd (show 9 = 22 from congrArg Prod.fst q) (by decide))) (tag_ne t_q0_33 t_q0_1 (fun q => absurd (show 9 = 8 from congrArg Prod.fst q) (by decide)))).trans t_q0_33
            have t_q0_34 := (hs2 _ (tag_ne t_q0_34 t_a0 (fun q => absurd (show 9 = 22 from congrArg Prod.fst q) (by decide))) (tag_ne t_q0_34 t_q0_1 (fun q => absurd (show 9 = 8 from congrArg Prod.fst q) (by decide)))).trans t_q0_34
            have t_q0_35 := (hs2 _ (tag_ne t_q0_35 t_a0 (fun q => absurd (show 2 = 22 from congrArg Prod.fst q) (by decide))) (tag_ne t_q0_35 t_q0_1 (fun q => absurd (show 2 = 8 from congrArg Prod.fst q) (by decide)))).trans t_q0_35
            have hH : HT D cs A T2 (a0 :: O) ((a0, .inr (12, [.int 0, .ref q0_1, .ref q0_2, .ref q0_3, .ref q0_4, .int q0_5, .int q0_6, .int q0_7, .int q0_8, .int q0_9, .int q0_10, .int q0_11, .int q0_12, .int q0_13, .int q0_14, .ref q0_15, .int q0_16, .ref q0_17, .ref q0_18, .ref q0_19, .int q0_20, .ref q0_21, .ref q0_22, .int q0_23, .int q0_24, .int q0_25, .ref q0_26, .ref q0_27, .ref q0_28, .ref q0_29, .ref q0_30, .ref q0_31, .int q0_32, .ref q0_33, .ref q0_34, .ref q0_35])) :: X) H := HT.layA hH ta2 (show sp cs T2 (8, 3906, hg2) _ from ⟨_, rfl, hB8, fun _ => hgq⟩)
            have t_q0_1 := ta2
            have t_a0 := tm2
            have hH : HT D cs A T2 O X H := HT.lay (ci := 12) hH t_a0 (okL_c (⟨_, rfl⟩) (okL_c (⟨_, rfl, t_q0_1⟩) (okL_c (⟨_, rfl, t_q0_2⟩) (okL_c (⟨_, rfl, t_q0_3⟩) (okL_c (⟨_, rfl, t_q0_4⟩) (okL_c (⟨_, rfl, by omega, by omega⟩) (okL_c (⟨_, rfl⟩) (okL_c (⟨_, rfl⟩) (okL_c (⟨_, rfl⟩) (okL_c (⟨_, rfl⟩) (okL_c (⟨_, rfl, by omega, by omega⟩) (okL_c (⟨_, rfl⟩) (okL_c (⟨_, rfl⟩) (okL_c (⟨_, rfl⟩) (okL_c (⟨_, rfl⟩) (okL_c (⟨_, rfl, t_q0_15⟩) (okL_c (⟨_, rfl⟩) (okL_c (⟨_, rfl, t_q0_17⟩) (okL_c (⟨_, rfl, t_q0_18⟩) (okL_c (⟨_, rfl, t_q0_19⟩) (okL_c (⟨_, rfl, by omega, by omega⟩) (okL_c (⟨_, rfl, t_q0_21⟩) (okL_c (⟨_, rfl, t_q0_22⟩) (okL_c (⟨_, rfl⟩) (okL_c (⟨_, rfl⟩) (okL_c (⟨_, rfl⟩) (okL_c (⟨_, rfl, t_q0_26⟩) (okL_c (⟨_, rfl, t_q0_27⟩) (okL_c (⟨_, rfl, t_q0_28⟩) (okL_c (⟨_, rfl, t_q0_29⟩) (okL_c (⟨_, rfl, t_q0_30⟩) (okL_c (⟨_, rfl, t_q0_31⟩) (okL_c (⟨_, rfl⟩) (okL_c (⟨_, rfl, t_q0_33⟩) (okL_c (⟨_, rfl, t_q0_34⟩) (okL_c (⟨_, rfl, t_q0_35⟩) (okL_n)))))))))))))))))))))))))))))))))))))
            have hO := hO0
            have z9_0 : (0 : Int32).toInt = 0 := by decide
            exact te_i hx hb hr hlocks hH hS (⟨T2, hg2, rfl, by decide, by decide, rk2, tm2, hgb⟩) dX12_restore_74
          · skip
            have tc36 := f_nge (k := 1302) (by decide) c36
            refine lv_aload_n hx hb dX12_restore_39 rfl (lv_at hl 1 rfl) ?_
            refine x_getk (ci := 12) (C := RX12) (F := TX12) (N := 36) (v := .ref q0_1) hx hb hts uX12 hown hkb hH 1 rfl rfl 1 (by decide) rfl kw_1224 (fun _ h9 => h9) dX12_restore_40 ?_
            refine lv_iload_n hx hb dX12_restore_43 rfl (lv_at hl 0 rfl) ?_
            refine lv_aload_n hx hb dX12_restore_44 rfl (lv_at hl 1 rfl) ?_
            refine x_getk (ci := 12) (C := RX12) (F := TX12) (N := 36) (v := .ref q0_1) hx hb hts uX12 hown hkb hH 1 rfl rfl 1 (by decide) rfl kw_1224 (fun _ h9 => h9) dX12_restore_45 ?_
            refine lv_sipush (v := 1302) hx hb dX12_restore_48 (by decide) ?_
            refine lv_iload_n hx hb dX12_restore_51 rfl (lv_at hl 2 rfl) ?_
            refine lv_iconst (v := 1) hx hb dX12_restore_52 (by decide) ?_
            refine lv_iadd hx hb dX12_restore_53 ?_
            refine lv_topi (fun v53 ev53 => ?_)
            have tv53 : v53.toInt = x1.toInt + (1) := by rw [ev53]; exact add_i rfl (by decide : (1 : Int32).toInt = 1) (by omega) (by omega)
            refine lv_imul hx hb dX12_restore_54 ?_
            refine lv_topi (fun v54 ev54 => ?_)
            have tv54 : v54.toInt = (1302) * v53.toInt := by rw [ev54]; exact mul_i (by decide : (1302 : Int32).toInt = 1302) rfl (by omega) (by omega)
            refine lv_iload_n hx hb dX12_restore_55 rfl (lv_at hl 0 rfl) ?_
            refine lv_iadd hx hb dX12_restore_56 ?_
            refine lv_topi (fun v56 ev56 => ?_)
            have tv56 : v56.toInt = v54.toInt + p32_2.toInt := by rw [ev56]; exact add_i rfl rfl (by omega) (by omega)
            refine xa_ild hx hb hkb hH 0 rfl (by omega) (by omega) dX12_restore_57 ?_
            refine lv_topi (fun v57 ev57 => ?_)
            have tv57 : v57 = g32_0 v56.toInt.toNat := ev57
            refine xa_ist hx hb hkb hH hS 0 rfl (by omega) (by omega) dX12_restore_58 (fun H locs hH hS => ?_)
            have hH : HT D cs A T (q0_1 :: a0 :: O) ((q0_1, .inl (cs.2.1, 3906, .inl (upd g32_0 (p32_2.toInt.toNat) v57))) :: (a0, .inr (12, [.int 0, .ref q0_1, .ref q0_2, .ref q0_3, .ref q0_4, .int q0_5, .int q0_6, .int q0_7, .int q0_8, .int q0_9, .int q0_10, .int q0_11, .int q0_12, .int q0_13, .int q0_14, .ref q0_15, .int q0_16, .ref q0_17, .ref q0_18, .ref q0_19, .int q0_20, .ref q0_21, .ref q0_22, .int q0_23, .int q0_24, .int q0_25, .ref q0_26, .ref q0_27, .ref q0_28, .ref q0_29, .ref q0_30, .ref q0_31, .int q0_32, .ref q0_33, .ref q0_34, .ref q0_35])) :: X) H := hH
            obtain ⟨F58, eF58⟩ : ∃ f9, f9 = upd g32_0 (p32_2.toInt.toNat) v57 := ⟨_, rfl⟩
            have hH : HT D cs A T (q0_1 :: a0 :: O) ((q0_1, .inl (cs.2.1, 3906, .inl F58)) :: (a0, .inr (12, [.int 0, .ref q0_1, .ref q0_2, .ref q0_3, .ref q0_4, .int q0_5, .int q0_6, .int q0_7, .int q0_8, .int q0_9, .int q0_10, .int q0_11, .int q0_12, .int q0_13, .int q0_14, .ref q0_15, .int q0_16, .ref q0_17, .ref q0_18, .ref q0_19, .int q0_20, .ref q0_21, .ref q0_22, .int q0_23, .int q0_24, .int q0_25, .ref q0_26, .ref q0_27, .ref q0_28, .ref q0_29, .ref q0_30, .ref q0_31, .int q0_32, .ref q0_33, .ref q0_34, .ref q0_35])) :: X) H := eF58 ▸ hH
            obtain ⟨v59, ev59⟩ : ∃ y : Int32, y = p32_2 + 1 := ⟨_, rfl⟩
            have tv59 : v59.toInt = p32_2.toInt + (1) := by rw [ev59]; exact add_i rfl (by decide) (by omega) (by omega)
            refine lv_iinc (v := v59) (lv' := [(2, .int v59), (0, .ref a0), (1, .int x1)]) hx hb dX12_restore_59 hl (k := 0) rfl (by rw [ev59]; rfl) (by decide) rfl (fun ls hl => ?_)
            refine lv_goto (tgt := 32) hx hb dX12_restore_62 (by decide) ?_
            exact ih32 _ (by omega) v59 F58 _ _ _ rfl (by omega) (by omega) (by first | (refine CR_0 ?_; decide) | (refine CR_s i32 ?_ ?_ ?_ tv59 ?_ tv57 eF58 <;> omega)) hH hS (lv_sub hl [0, 1, 2] rfl)
      refine lv_istore_n (lv' := [(2, .int 0), (0, .ref a0), (1, .int x1)]) hx hb dX12_restore_31 rfl hl (by decide) rfl (fun ls hl => ?_)
      have z_0 : (0 : Int32).toInt = 0 := by decide
      exact J32 _ 0 f1 _ _ _ rfl (by decide) (by decide) (by first | (refine CR_0 ?_; decide) | (refine CR_s i32 ?_ ?_ ?_ tv59 ?_ tv57 eF58 <;> omega)) hH hS (lv_sub hl [0, 1, 2] rfl)
    · skip
      have tc24 := f_eq (k := 0) (by decide) c24
      refine lv_bipush (v := (-5)) hx hb dX12_restore_27 (by decide) ?_
      have hH : HT D cs A T (a0 :: O) ((a0, .inr (12, [.int 0, .ref q0_1, .ref q0_2, .ref q0_3, .ref q0_4, .int q0_5, .int q0_6, .int q0_7, .int q0_8, .int q0_9, .int q0_10, .int q0_11, .int q0_12, .int q0_13, .int q0_14, .ref q0_15, .int q0_16, .ref q0_17, .ref q0_18, .ref q0_19, .int q0_20, .ref q0_21, .ref q0_22, .int q0_23, .int q0_24, .int q0_25, .ref q0_26, .ref q0_27, .ref q0_28, .ref q0_29, .ref q0_30, .ref q0_31, .int q0_32, .ref q0_33, .ref q0_34, .ref q0_35])) :: X) H := HT.layA hH t_q0_1 (show sp cs T (8, 3906, hg) _ from ⟨_, rfl, s_f1, fun _ => g_f1⟩)
      have hH : HT D cs A T O X H := HT.lay (ci := 12) hH t_a0 (okL_c (⟨_, rfl⟩) (okL_c (⟨_, rfl, t_q0_1⟩) (okL_c (⟨_, rfl, t_q0_2⟩) (okL_c (⟨_, rfl, t_q0_3⟩) (okL_c (⟨_, rfl, t_q0_4⟩) (okL_c (⟨_, rfl, by omega, by omega⟩) (okL_c (⟨_, rfl⟩) (okL_c (⟨_, rfl⟩) (okL_c (⟨_, rfl⟩) (okL_c (⟨_, rfl⟩) (okL_c (⟨_, rfl, by omega, by omega⟩) (okL_c (⟨_, rfl⟩) (okL_c (⟨_, rfl⟩) (okL_c (⟨_, rfl⟩) (okL_c (⟨_, rfl⟩) (okL_c (⟨_, rfl, t_q0_15⟩) (okL_c (⟨_, rfl⟩) (okL_c (⟨_, rfl, t_q0_17⟩) (okL_c (⟨_, rfl, t_q0_18⟩) (okL_c (⟨_, rfl, t_q0_19⟩) (okL_c (⟨_, rfl, by omega, by omega⟩) (okL_c (⟨_, rfl, t_q0_21⟩) (okL_c (⟨_, rfl, t_q0_22⟩) (okL_c (⟨_, rfl⟩) (okL_c (⟨_, rfl⟩) (okL_c (⟨_, rfl⟩) (okL_c (⟨_, rfl, t_q0_26⟩) (okL_c (⟨_, rfl, t_q0_27⟩) (okL_c (⟨_, rfl, t_q0_28⟩) (okL_c (⟨_, rfl, t_q0_29⟩) (okL_c (⟨_, rfl, t_q0_30⟩) (okL_c (⟨_, rfl, t_q0_31⟩) (okL_c (⟨_, rfl⟩) (okL_c (⟨_, rfl, t_q0_33⟩) (okL_c (⟨_, rfl, t_q0_34⟩) (okL_c (⟨_, rfl, t_q0_35⟩) (okL_n)))))))))))))))))))))))))))))))))))))
      have hO := hO0
      have z9_m5 : ((-5) : Int32).toInt = -5 := by decide
      exact te_i hx hb hr hlocks hH hS (⟨T, hg, rfl, by decide, by decide, Trm.rf, t_a0, b_hg⟩) dX12_restore_29
  · skip
    have tc12 := f_eq (k := 0) (by decide) c12
    clear x_v90
    replace x_v91 := x_v91.resolve_left (fun q9 => q9 tc12)
    refine lv_bipush (v := (-2)) hx hb dX12_restore_15 (by decide) ?_
    have hH : HT D cs A T (a0 :: O) ((a0, .inr (12, [.int 0, .ref q0_1, .ref q0_2, .ref q0_3, .ref q0_4, .int q0_5, .int q0_6, .int q0_7, .int q0_8, .int q0_9, .int q0_10, .int q0_11, .int q0_12, .int q0_13, .int q0_14, .ref q0_15, .int q0_16, .ref q0_17, .ref q0_18, .ref q0_19, .int q0_20, .ref q0_21, .ref q0_22, .int q0_23, .int q0_24, .int q0_25, .ref q0_26, .ref q0_27, .ref q0_28, .ref q0_29, .ref q0_30, .ref q0_31, .int q0_32, .ref q0_33, .ref q0_34, .ref q0_35])) :: X) H := HT.layA hH t_q0_1 (show sp cs T (8, 3906, hg) _ from ⟨_, rfl, s_f1, fun _ => g_f1⟩)
    have hH : HT D cs A T O X H := HT.lay (ci := 12) hH t_a0 (okL_c (⟨_, rfl⟩) (okL_c (⟨_, rfl, t_q0_1⟩) (okL_c (⟨_, rfl, t_q0_2⟩) (okL_c (⟨_, rfl, t_q0_3⟩) (okL_c (⟨_, rfl, t_q0_4⟩) (okL_c (⟨_, rfl, by omega, by omega⟩) (okL_c (⟨_, rfl⟩) (okL_c (⟨_, rfl⟩) (okL_c (⟨_, rfl⟩) (okL_c (⟨_, rfl⟩) (okL_c (⟨_, rfl, by omega, by omega⟩) (okL_c (⟨_, rfl⟩) (okL_c (⟨_, rfl⟩) (okL_c (⟨_, rfl⟩) (okL_c (⟨_, rfl⟩) (okL_c (⟨_, rfl, t_q0_15⟩) (okL_c (⟨_, rfl⟩) (okL_c (⟨_, rfl, t_q0_17⟩) (okL_c (⟨_, rfl, t_q0_18⟩) (okL_c (⟨_, rfl, t_q0_19⟩) (okL_c (⟨_, rfl, by omega, by omega⟩) (okL_c (⟨_, rfl, t_q0_21⟩) (okL_c (⟨_, rfl, t_q0_22⟩) (okL_c (⟨_, rfl⟩) (okL_c (⟨_, rfl⟩) (okL_c (⟨_, rfl⟩) (okL_c (⟨_, rfl, t_q0_26⟩) (okL_c (⟨_, rfl, t_q0_27⟩) (okL_c (⟨_, rfl, t_q0_28⟩) (okL_c (⟨_, rfl, t_q0_29⟩) (okL_c (⟨_, rfl, t_q0_30⟩) (okL_c (⟨_, rfl, t_q0_31⟩) (okL_c (⟨_, rfl⟩) (okL_c (⟨_, rfl, t_q0_33⟩) (okL_c (⟨_, rfl, t_q0_34⟩) (okL_c (⟨_, rfl, t_q0_35⟩) (okL_n)))))))))))))))))))))))))))))))))))))
    have hO := hO0
    have z9_m2 : ((-2) : Int32).toInt = -2 := by decide
    exact te_i hx hb hr hlocks hH hS (⟨T, hg, rfl, by decide, by decide, Trm.rf, t_a0, b_hg⟩) dX12_restore_17
