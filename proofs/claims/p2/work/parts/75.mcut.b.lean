set_option maxHeartbeats 4000000 in
set_option maxRecDepth 100000 in
theorem s_M_cutOf (l : Launch) (D : va_G) (cs : CS) (kf : KF) (T : TF) (O : List Nat) (X : va_W) (a0 hg mq : Nat) (x1 : Int32) (t_a0 : T a0 = some (22, hg, mq)) (b_hg : hg < 90) (l_x1 : 0 ≤ x1.toInt) (u_x1 : x1.toInt ≤ 16383) (hO : okO T O [8, 9, 22]) : TK l D cs kf yX12_cutOf cX12_cutOf 5 (some (.int)) { frames := 3, cells := 0, slots := 0, locals := 67 } [.ref a0, .int x1] T O X (Ti D cs (fun r u => u = (T, O, X) ∧ -1 ≤ r.toInt ∧ r.toInt ≤ 16383)) := by
  refine tk_of (by decide) (Nat.le_of_ble_eq_true rfl) (fun p e s m below meth c ls A H locs hx hb hr hml hown hts hlocks hnm hkb hH hS hA hOX hks hE hl => ?_)
  have hown : s.vm.findClass RX12 = some m.cls := hown
  have hl : lv_has ls 5 [(0, .ref a0), (1, .int x1)] := hl
  refine lv_iload_n hx hb dX12_cutOf_0 rfl (lv_at hl 1 rfl) ?_
  refine lv_aload_n hx hb dX12_cutOf_1 rfl (lv_at hl 0 rfl) ?_
  refine tk_i hH hS hA (tr_V (n := 0) (As := []) hx hb hml hown hts hkb hH hOX hks hE hS hA (s_M_ends l D cs kf T O X a0 hg mq t_a0 b_hg (hO.sub (by decide))) kw_1536 kw_1538 ks_78 kw_13 kw_1539 (by decide +kernel) ⟨Nat.le_of_ble_eq_true rfl, Nat.le_of_ble_eq_true rfl⟩ (HT.recv (ci := 12) hkb hH t_a0 (hO.no t_a0 (by decide)) rfl) rfl rfl hl.1 (Nat.le_of_ble_eq_true rfl) dX12_cutOf_2 ⟨Nat.le_of_ble_eq_true rfl, Nat.le_of_ble_eq_true rfl⟩) (fun v2 u H locs hz9 hH hS => ?_)
  obtain ⟨rfl, l_v2, u_v2⟩ := hz9
  have hH : HT D cs A T O X H := hH
  refine W.widen (k := 0) (n := 0) (Nat.le_of_ble_eq_true rfl) (Nat.le_of_ble_eq_true rfl) ?_
  refine lv_iconst (v := (-1)) hx hb dX12_cutOf_5 (by decide) ?_
  refine lv_ixor hx hb dX12_cutOf_6 ?_
  refine lv_topi (fun v6 ev6 => ?_)
  refine lv_iand hx hb dX12_cutOf_7 ?_
  refine lv_topi (fun v7 ev7 => ?_)
  have tv7 : 0 ≤ v7.toInt ∧ v7.toInt ≤ x1.toInt := by rw [ev7]; exact and_l (by omega)
  refine lv_istore_n (lv' := [(2, .int v7), (0, .ref a0), (1, .int x1)]) hx hb dX12_cutOf_8 rfl hl (by decide) rfl (fun ls hl => ?_)
  refine lv_aload_n hx hb dX12_cutOf_9 rfl (lv_at hl 1 rfl) ?_
  refine lv_iload_n hx hb dX12_cutOf_10 rfl (lv_at hl 2 rfl) ?_
  refine lv_aload_n hx hb dX12_cutOf_11 rfl (lv_at hl 1 rfl) ?_
  refine tk_i hH hS hA (tr_V (n := 0) (As := []) hx hb hml hown hts hkb hH hOX hks hE hS hA (s_M_ends l D cs kf T O X a0 hg mq t_a0 b_hg (hO.sub (by decide))) kw_1536 kw_1538 ks_78 kw_13 kw_1539 (by decide +kernel) ⟨Nat.le_of_ble_eq_true rfl, Nat.le_of_ble_eq_true rfl⟩ (HT.recv (ci := 12) hkb hH t_a0 (hO.no t_a0 (by decide)) rfl) rfl rfl hl.1 (Nat.le_of_ble_eq_true rfl) dX12_cutOf_12 ⟨Nat.le_of_ble_eq_true rfl, Nat.le_of_ble_eq_true rfl⟩) (fun v12 u H locs hz9 hH hS => ?_)
  obtain ⟨rfl, l_v12, u_v12⟩ := hz9
  have hH : HT D cs A T O X H := hH
  refine W.widen (k := 0) (n := 0) (Nat.le_of_ble_eq_true rfl) (Nat.le_of_ble_eq_true rfl) ?_
  refine lv_iand hx hb dX12_cutOf_15 ?_
  refine lv_topi (fun v15 ev15 => ?_)
  have tv15 : 0 ≤ v15.toInt ∧ v15.toInt ≤ x1.toInt := by rw [ev15]; exact and_l (by omega)
  have ttv15 : 0 ≤ v15.toInt ∧ v15.toInt ≤ v12.toInt := by rw [ev15]; exact and_r (by omega)
  refine tk_i hH hS hA (tr_V (n := 1) (As := [.int v15]) hx hb hml hown hts hkb hH hOX hks hE hS hA (s_M_hasClimb l D cs kf T O X a0 hg mq v15 t_a0 b_hg (hO.sub (by decide))) kw_1660 kw_1662 ks_94 kw_13 kw_1663 (by decide +kernel) ⟨Nat.le_of_ble_eq_true rfl, Nat.le_of_ble_eq_true rfl⟩ (HT.recv (ci := 12) hkb hH t_a0 (hO.no t_a0 (by decide)) rfl) rfl rfl hl.1 (Nat.le_of_ble_eq_true rfl) dX12_cutOf_16 ⟨Nat.le_of_ble_eq_true rfl, Nat.le_of_ble_eq_true rfl⟩) (fun v16 u H locs hz9 hH hS => ?_)
  obtain ⟨rfl, l_v16, u_v16⟩ := hz9
  have hH : HT D cs A T O X H := hH
  refine W.widen (k := 0) (n := 0) (Nat.le_of_ble_eq_true rfl) (Nat.le_of_ble_eq_true rfl) ?_
  refine lv_if_eq (tgt := 24) hx hb dX12_cutOf_19 (by decide) (fun c19 => ?_) (fun c19 => ?_)
  · skip
    have tc19 := f_eq (k := 0) (by decide) c19
    refine lv_iconst (v := (-1)) hx hb dX12_cutOf_24 (by decide) ?_
    refine lv_istore_n (lv' := [(3, .int (-1)), (2, .int v7), (0, .ref a0), (1, .int x1)]) hx hb dX12_cutOf_25 rfl hl (by decide) rfl (fun ls hl => ?_)
    refine lv_iconst (v := 0) hx hb dX12_cutOf_26 (by decide) ?_
    have J29 : ∀ (n : Nat) (p29_4 : Int32) (p29_3 : Int32) (H : Heap) (locs : List Loc) (ls : Array Slot), (16384 - p29_4.toInt).toNat = n → (0 ≤ p29_4.toInt) → (p29_4.toInt ≤ 16384) → (-1 ≤ p29_3.toInt) → (p29_3.toInt ≤ 16383) → HT D cs A T O X H → va_S A s.heap H locs → lv_has ls 5 [(4, .int p29_4), (3, .int p29_3), (2, .int v7), (0, .ref a0), (1, .int x1)] → W p l e { frames := 3, cells := 0, slots := 0, locals := 67 } s m [.ref a0, .int x1].toArray below meth c H locs 0 0 (MQ below (Ti D cs (fun r u => u = (T, O, X) ∧ -1 ≤ r.toInt ∧ r.toInt ≤ 16383) A) [.ref a0, .int x1].toArray s 0 0 A) (F0 m 29 ls []) := by
      intro n
      induction n using Nat.strongRecOn with
      | _ n ih29 =>
        intro p29_4 p29_3 H locs ls hm29 l_p29_4 u_p29_4 l_p29_3 u_p29_3 hH hS hl
        refine lv_iload hx hb dX12_cutOf_29 (lv_at hl 0 rfl) ?_
        refine lv_iload_n hx hb dX12_cutOf_31 rfl (lv_at hl 2 rfl) ?_
        refine lv_icmp_gt (tgt := 86) hx hb dX12_cutOf_32 (by decide) (fun c32 => ?_) (fun c32 => ?_)
        · skip
          have fuc32 := full_i p29_4
          have fvc32 := full_i v7
          have tc32 := g_lt c32
          refine lv_iload_n hx hb dX12_cutOf_86 rfl (lv_at hl 1 rfl) ?_
          exact te_i hx hb hr hlocks hH hS (⟨rfl, by omega, by omega⟩) dX12_cutOf_87
        · skip
          have fuc32 := full_i p29_4
          have fvc32 := full_i v7
          have tc32 := g_nlt c32
          refine lv_iload hx hb dX12_cutOf_35 (lv_at hl 0 rfl) ?_
          refine lv_iload_n hx hb dX12_cutOf_37 rfl (lv_at hl 2 rfl) ?_
          refine lv_iconst (v := (-1)) hx hb dX12_cutOf_38 (by decide) ?_
          refine lv_ixor hx hb dX12_cutOf_39 ?_
          refine lv_topi (fun v39 ev39 => ?_)
          refine lv_iand hx hb dX12_cutOf_40 ?_
          refine lv_topi (fun v40 ev40 => ?_)
          have tv40 : 0 ≤ v40.toInt ∧ v40.toInt ≤ p29_4.toInt := by rw [ev40]; exact and_l (by omega)
          have J80 : ∀ (p80_3 : Int32) (H : Heap) (locs : List Loc) (ls : Array Slot), (-1 ≤ p80_3.toInt) → (p80_3.toInt ≤ 16383) → HT D cs A T O X H → va_S A s.heap H locs → lv_has ls 5 [(4, .int p29_4), (3, .int p80_3), (2, .int v7), (0, .ref a0), (1, .int x1)] → W p l e { frames := 3, cells := 0, slots := 0, locals := 67 } s m [.ref a0, .int x1].toArray below meth c H locs 0 0 (MQ below (Ti D cs (fun r u => u = (T, O, X) ∧ -1 ≤ r.toInt ∧ r.toInt ≤ 16383) A) [.ref a0, .int x1].toArray s 0 0 A) (F0 m 80 ls []) := by
            intro p80_3 H locs ls l_p80_3 u_p80_3 hH hS hl
            obtain ⟨v80, ev80⟩ : ∃ y : Int32, y = p29_4 + 1 := ⟨_, rfl⟩
            have tv80 : v80.toInt = p29_4.toInt + (1) := by rw [ev80]; exact add_i rfl (by decide) (by omega) (by omega)
            refine lv_iinc (v := v80) (lv' := [(4, .int v80), (3, .int p80_3), (2, .int v7), (0, .ref a0), (1, .int x1)]) hx hb dX12_cutOf_80 hl (k := 0) rfl (by rw [ev80]; rfl) (by decide) rfl (fun ls hl => ?_)
            refine lv_goto (tgt := 29) hx hb dX12_cutOf_83 (by decide) ?_
            exact ih29 _ (by omega) v80 p80_3 _ _ _ rfl (by omega) (by omega) (by omega) (by omega) hH hS (lv_sub hl [0, 1, 2, 3, 4] rfl)
          refine lv_if_ne (tgt := 80) hx hb dX12_cutOf_41 (by decide) (fun c41 => ?_) (fun c41 => ?_)
          · skip
            have tc41 := f_ne (k := 0) (by decide) c41
            exact J80 p29_3 _ _ _ (by omega) (by omega) hH hS (lv_sub hl [0, 1, 2, 3, 4] rfl)
          · skip
            have tc41 := f_eq (k := 0) (by decide) c41
            refine lv_iload_n hx hb dX12_cutOf_44 rfl (lv_at hl 1 rfl) ?_
            refine lv_iconst (v := (-1)) hx hb dX12_cutOf_45 (by decide) ?_
            have J64 : ∀  (H : Heap) (locs : List Loc) (ls : Array Slot), HT D cs A T O X H → va_S A s.heap H locs → lv_has ls 5 [(4, .int p29_4), (3, .int p29_3), (2, .int v7), (0, .ref a0), (1, .int x1)] → W p l e { frames := 3, cells := 0, slots := 0, locals := 67 } s m [.ref a0, .int x1].toArray below meth c H locs 0 0 (MQ below (Ti D cs (fun r u => u = (T, O, X) ∧ -1 ≤ r.toInt ∧ r.toInt ≤ 16383) A) [.ref a0, .int x1].toArray s 0 0 A) (F0 m 64 ls []) := by
              intro  H locs ls  hH hS hl
              refine lv_aload_n hx hb dX12_cutOf_64 rfl (lv_at hl 3 rfl) ?_
              refine lv_iload_n hx hb dX12_cutOf_65 rfl (lv_at hl 4 rfl) ?_
              refine lv_iload hx hb dX12_cutOf_66 (lv_at hl 0 rfl) ?_
              refine lv_iconst (v := (-1)) hx hb dX12_cutOf_68 (by decide) ?_
              refine lv_ixor hx hb dX12_cutOf_69 ?_
              refine lv_topi (fun v69 ev69 => ?_)
              refine lv_iand hx hb dX12_cutOf_70 ?_
              refine lv_topi (fun v70 ev70 => ?_)
              have tv70 : 0 ≤ v70.toInt ∧ v70.toInt ≤ x1.toInt := by rw [ev70]; exact and_l (by omega)
              refine tk_i hH hS hA (tr_V (n := 1) (As := [.int v70]) hx hb hml hown hts hkb hH hOX hks hE hS hA (s_M_hasClimb l D cs kf T O X a0 hg mq v70 t_a0 b_hg (hO.sub (by decide))) kw_1660 kw_1662 ks_94 kw_13 kw_1663 (by decide +kernel) ⟨Nat.le_of_ble_eq_true rfl, Nat.le_of_ble_eq_true rfl⟩ (HT.recv (ci := 12) hkb hH t_a0 (hO.no t_a0 (by decide)) rfl) rfl rfl hl.1 (Nat.le_of_ble_eq_true rfl) dX12_cutOf_71 ⟨Nat.le_of_ble_eq_true rfl, Nat.le_of_ble_eq_true rfl⟩) (fun v71 u H locs hz9 hH hS => ?_)
              obtain ⟨rfl, l_v71, u_v71⟩ := hz9
              have hH : HT D cs A T O X H := hH
              refine W.widen (k := 0) (n := 0) (Nat.le_of_ble_eq_true rfl) (Nat.le_of_ble_eq_true rfl) ?_
              refine lv_if_ne (tgt := 80) hx hb dX12_cutOf_74 (by decide) (fun c74 => ?_) (fun c74 => ?_)
              · skip
                have tc74 := f_ne (k := 0) (by decide) c74
                exact J80 p29_3 _ _ _ (by omega) (by omega) hH hS (lv_sub hl [0, 1, 2, 3, 4] rfl)
              · skip
                have tc74 := f_eq (k := 0) (by decide) c74
                refine lv_iload hx hb dX12_cutOf_77 (lv_at hl 0 rfl) ?_
                refine lv_istore_n (lv' := [(3, .int p29_4), (4, .int p29_4), (2, .int v7), (0, .ref a0), (1, .int x1)]) hx hb dX12_cutOf_79 rfl hl (by decide) rfl (fun ls hl => ?_)
                exact J80 p29_4 _ _ _ (by omega) (by omega) hH hS (lv_sub hl [1, 0, 2, 3, 4] rfl)
            refine lv_icmp_eq (tgt := 64) hx hb dX12_cutOf_46 (by decide) (fun c46 => ?_) (fun c46 => ?_)
            · skip
              have tc46 := f_eq (k := -1) (by decide) c46
              exact J64  _ _ _  hH hS (lv_sub hl [0, 1, 2, 3, 4] rfl)
            · skip
              have tc46 := f_ne (k := -1) (by decide) c46
              refine lv_iload hx hb dX12_cutOf_49 (lv_at hl 0 rfl) ?_
              refine tk_i hH hS hA (tr_S (n := 1) (As := [.int p29_4]) hx hb hml hown hts hkb hH hOX hks hE hS hA (s_M_bitsOf l D cs kf T O X p29_4  (hO.sub (by decide))) kw_1631 kw_1632 kw_13 kw_1633 (by decide +kernel) ⟨Nat.le_of_ble_eq_true rfl, Nat.le_of_ble_eq_true rfl⟩ rfl rfl hl.1 (Nat.le_of_ble_eq_true rfl) dX12_cutOf_51 ⟨Nat.le_of_ble_eq_true rfl, Nat.le_of_ble_eq_true rfl⟩) (fun v51 u H locs hz9 hH hS => ?_)
              have hz9 : u = (T, O, X) := hz9
              subst hz9
              have hH : HT D cs A T O X H := hH
              refine W.widen (k := 0) (n := 0) (Nat.le_of_ble_eq_true rfl) (Nat.le_of_ble_eq_true rfl) ?_
              refine lv_iload_n hx hb dX12_cutOf_54 rfl (lv_at hl 1 rfl) ?_
              refine tk_i hH hS hA (tr_S (n := 1) (As := [.int p29_3]) hx hb hml hown hts hkb hH hOX hks hE hS hA (s_M_bitsOf l D cs kf T O X p29_3  (hO.sub (by decide))) kw_1631 kw_1632 kw_13 kw_1633 (by decide +kernel) ⟨Nat.le_of_ble_eq_true rfl, Nat.le_of_ble_eq_true rfl⟩ rfl rfl hl.1 (Nat.le_of_ble_eq_true rfl) dX12_cutOf_55 ⟨Nat.le_of_ble_eq_true rfl, Nat.le_of_ble_eq_true rfl⟩) (fun v55 u H locs hz9 hH hS => ?_)
              have hz9 : u = (T, O, X) := hz9
              subst hz9
              have hH : HT D cs A T O X H := hH
              refine W.widen (k := 0) (n := 0) (Nat.le_of_ble_eq_true rfl) (Nat.le_of_ble_eq_true rfl) ?_
              refine lv_icmp_lt (tgt := 64) hx hb dX12_cutOf_58 (by decide) (fun c58 => ?_) (fun c58 => ?_)
              · skip
                have fuc58 := full_i v51
                have fvc58 := full_i v55
                have tc58 := g_lt c58
                exact J64  _ _ _  hH hS (lv_sub hl [0, 1, 2, 3, 4] rfl)
              · skip
                have fuc58 := full_i v51
                have fvc58 := full_i v55
                have tc58 := g_nlt c58
                refine lv_goto (tgt := 80) hx hb dX12_cutOf_61 (by decide) ?_
                exact J80 p29_3 _ _ _ (by omega) (by omega) hH hS (lv_sub hl [0, 1, 2, 3, 4] rfl)
    refine lv_istore (lv' := [(4, .int 0), (3, .int (-1)), (2, .int v7), (0, .ref a0), (1, .int x1)]) hx hb dX12_cutOf_27 hl (by decide) rfl (fun ls hl => ?_)
    exact J29 _ 0 (-1) _ _ _ rfl (by decide) (by decide) (by decide) (by decide) hH hS (lv_sub hl [0, 1, 2, 3, 4] rfl)
  · skip
    have tc19 := f_ne (k := 0) (by decide) c19
    refine lv_iconst (v := (-1)) hx hb dX12_cutOf_22 (by decide) ?_
    exact te_i hx hb hr hlocks hH hS (⟨rfl, by decide, by decide⟩) dX12_cutOf_23
set_option maxHeartbeats 4000000 in
set_option maxRecDepth 100000 in
theorem s_M_partiesBy (l : Launch) (D : va_G) (cs : CS) (kf : KF) (T : TF) (O : List Nat) (X : va_W) (a0 hg mq : Nat) (x1 : Int32) (t_a0 : T a0 = some (22, hg, mq)) (b_hg : hg < 90) (l_x1 : 0 ≤ x1.toInt) (u_x1 : x1.toInt ≤ 16383) (hO : okO T O [8, 9, 22]) : TK l D cs kf yX12_partiesBy cX12_partiesBy 3 (some (.int)) { frames := 4, cells := 0, slots := 0, locals := 91 } [.ref a0, .int x1] T O X (Ti D cs (fun r u => u = (T, O, X))) := by
  refine tk_of (by decide) (Nat.le_of_ble_eq_true rfl) (fun p e s m below meth c ls A H locs hx hb hr hml hown hts hlocks hnm hkb hH hS hA hOX hks hE hl => ?_)
  have hown : s.vm.findClass RX12 = some m.cls := hown
  have hl : lv_has ls 3 [(0, .ref a0), (1, .int x1)] := hl
  refine lv_aload_n hx hb dX12_partiesBy_0 rfl (lv_at hl 0 rfl) ?_
  refine lv_iload_n hx hb dX12_partiesBy_1 rfl (lv_at hl 1 rfl) ?_
  refine tk_i hH hS hA (tr_V (n := 1) (As := [.int x1]) hx hb hml hown hts hkb hH hOX hks hE hS hA (s_M_cutOf l D cs kf T O X a0 hg mq x1 t_a0 b_hg (by omega) (by omega) (hO.sub (by decide))) kw_1656 kw_1658 ks_93 kw_13 kw_1659 (by decide +kernel) ⟨Nat.le_of_ble_eq_true rfl, Nat.le_of_ble_eq_true rfl⟩ (HT.recv (ci := 12) hkb hH t_a0 (hO.no t_a0 (by decide)) rfl) rfl rfl hl.1 (Nat.le_of_ble_eq_true rfl) dX12_partiesBy_2 ⟨Nat.le_of_ble_eq_true rfl, Nat.le_of_ble_eq_true rfl⟩) (fun v2 u H locs hz9 hH hS => ?_)
  obtain ⟨rfl, l_v2, u_v2⟩ := hz9
  have hH : HT D cs A T O X H := hH
  refine W.widen (k := 0) (n := 0) (Nat.le_of_ble_eq_true rfl) (Nat.le_of_ble_eq_true rfl) ?_
  refine lv_istore_n (lv' := [(2, .int v2), (0, .ref a0), (1, .int x1)]) hx hb dX12_partiesBy_5 rfl hl (by decide) rfl (fun ls hl => ?_)
  refine lv_iload_n hx hb dX12_partiesBy_6 rfl (lv_at hl 0 rfl) ?_
  refine lv_iconst (v := (-1)) hx hb dX12_partiesBy_7 (by decide) ?_
  have J20 : ∀ (k20_0 : Int32) (H : Heap) (locs : List Loc) (ls : Array Slot), HT D cs A T O X H → va_S A s.heap H locs → lv_has ls 3 [] → W p l e { frames := 4, cells := 0, slots := 0, locals := 91 } s m [.ref a0, .int x1].toArray below meth c H locs 0 0 (MQ below (Ti D cs (fun r u => u = (T, O, X)) A) [.ref a0, .int x1].toArray s 0 0 A) (F0 m 20 ls [.int k20_0]) := by
    intro k20_0 H locs ls  hH hS hl
    exact te_i hx hb hr hlocks hH hS (rfl) dX12_partiesBy_20
  refine lv_icmp_ne (tgt := 16) hx hb dX12_partiesBy_8 (by decide) (fun c8 => ?_) (fun c8 => ?_)
  · skip
    have tc8 := f_ne (k := -1) (by decide) c8
    refine lv_iload_n hx hb dX12_partiesBy_16 rfl (lv_at hl 0 rfl) ?_
    refine tk_i hH hS hA (tr_S (n := 1) (As := [.int v2]) hx hb hml hown hts hkb hH hOX hks hE hS hA (s_M_bitsOf l D cs kf T O X v2  (hO.sub (by decide))) kw_1631 kw_1632 kw_13 kw_1633 (by decide +kernel) ⟨Nat.le_of_ble_eq_true rfl, Nat.le_of_ble_eq_true rfl⟩ rfl rfl hl.1 (Nat.le_of_ble_eq_true rfl) dX12_partiesBy_17 ⟨Nat.le_of_ble_eq_true rfl, Nat.le_of_ble_eq_true rfl⟩) (fun v17 u H locs hz9 hH hS => ?_)
    have hz9 : u = (T, O, X) := hz9
    subst hz9
    have hH : HT D cs A T O X H := hH
    refine W.widen (k := 0) (n := 0) (Nat.le_of_ble_eq_true rfl) (Nat.le_of_ble_eq_true rfl) ?_
    exact J20 v17 _ _ _  hH hS (lv_sub hl [] rfl)
  · skip
    have tc8 := f_eq (k := -1) (by decide) c8
    refine lv_bipush (v := 99) hx hb dX12_partiesBy_11 (by decide) ?_
    refine lv_goto (tgt := 20) hx hb dX12_partiesBy_13 (by decide) ?_
    exact J20 99 _ _ _  hH hS (lv_sub hl [] rfl)
set_option maxHeartbeats 4000000 in
set_option maxRecDepth 100000 in
theorem s_M_parties (l : Launch) (D : va_G) (cs : CS) (kf : KF) (T : TF) (O : List Nat) (X : va_W) (a0 hg mq : Nat) (x1 : Int32) (t_a0 : T a0 = some (22, hg, mq)) (b_hg : hg < 90) (hO : okO T O [1, 8, 9, 22]) : TK l D cs kf yX12_parties cX12_parties 2 (some (.int)) { frames := 5, cells := 0, slots := 0, locals := 119 } [.ref a0, .int x1] T O X (Ti D cs (fun r u => u = (T, O, X))) := by
  refine tk_of (by decide) (Nat.le_of_ble_eq_true rfl) (fun p e s m below meth c ls A H locs hx hb hr hml hown hts hlocks hnm hkb hH hS hA hOX hks hE hl => ?_)
  have hown : s.vm.findClass RX12 = some m.cls := hown
  have hl : lv_has ls 2 [(0, .ref a0), (1, .int x1)] := hl
  refine lv_aload_n hx hb dX12_parties_0 rfl (lv_at hl 0 rfl) ?_
  refine lv_iconst (v := 0) hx hb dX12_parties_1 (by decide) ?_
  refine t_put (ci := 12) (lst := ft12 hg mq) (v := .int 0) (ty := tyX12 0) (C := RX12) (F := TX12) (N := 36) hx hb hts uX12 tyX12 tyX12_ok nmX12 hown hkb hH hS t_a0 (hO.no t_a0 (by decide)) (fun _ => Iff.rfl) rfl rfl 0 (by decide) rfl (⟨_, rfl⟩) kw_1223 (fun _ h9 => h9) rfl (tyX12_ok 0 (by decide)) rfl rfl dX12_parties_2 (fun H locs hH hS => ?_)
  refine lv_aload_n hx hb dX12_parties_5 rfl (lv_at hl 0 rfl) ?_
  refine lv_iload_n hx hb dX12_parties_6 rfl (lv_at hl 1 rfl) ?_
  refine lv_i2l hx hb dX12_parties_7 rfl ?_
  refine tk_i hH hS hA (tr_V (n := 1) (As := [.long x1.toInt64]) hx hb hml hown hts hkb hH hOX hks hE hS hA (s_M_isGuide l D cs kf T O X a0 hg mq x1.toInt64 t_a0 b_hg (hO.sub (by decide))) kw_1470 kw_1472 ks_67 kw_13 kw_1473 (by decide +kernel) ⟨Nat.le_of_ble_eq_true rfl, Nat.le_of_ble_eq_true rfl⟩ (HT.recv (ci := 12) hkb hH t_a0 (hO.no t_a0 (by decide)) rfl) rfl rfl hl.1 (Nat.le_of_ble_eq_true rfl) dX12_parties_8 ⟨Nat.le_of_ble_eq_true rfl, Nat.le_of_ble_eq_true rfl⟩) (fun v8 u H locs hz9 hH hS => ?_)
  obtain ⟨rfl, l_v8, u_v8, x_v80⟩ := hz9
  simp only [Int32.toInt_toInt64] at x_v80
  have hH : HT D cs A T O X H := hH
  refine W.widen (k := 0) (n := 0) (Nat.le_of_ble_eq_true rfl) (Nat.le_of_ble_eq_true rfl) ?_
  refine lv_if_ne (tgt := 17) hx hb dX12_parties_11 (by decide) (fun c11 => ?_) (fun c11 => ?_)
  · skip
    have tc11 := f_ne (k := 0) (by decide) c11
    replace x_v80 := x_v80.resolve_left tc11
    refine lv_aload_n hx hb dX12_parties_17 rfl (lv_at hl 0 rfl) ?_
    refine lv_iload_n hx hb dX12_parties_18 rfl (lv_at hl 1 rfl) ?_
    refine tk_v hH hS hA (tr_V (n := 1) (As := [.int x1]) hx hb hml hown hts hkb hH hOX hks hE hS hA (s_M_laysGuide l D cs kf T O X a0 hg mq x1 t_a0 b_hg (by omega) (by omega) (hO.sub (by decide))) kw_1502 kw_1504 ks_71 kw_13 kw_1505 (by decide +kernel) ⟨Nat.le_of_ble_eq_true rfl, Nat.le_of_ble_eq_true rfl⟩ (HT.recv (ci := 12) hkb hH t_a0 (hO.no t_a0 (by decide)) rfl) rfl rfl hl.1 (Nat.le_of_ble_eq_true rfl) dX12_parties_19 ⟨Nat.le_of_ble_eq_true rfl, Nat.le_of_ble_eq_true rfl⟩) (fun u H locs hz9 hH hS => ?_)
    have hz9 : u = (T, O, X) := hz9
    subst hz9
    have hH : HT D cs A T O X H := hH
    refine W.widen (k := 0) (n := 0) (Nat.le_of_ble_eq_true rfl) (Nat.le_of_ble_eq_true rfl) ?_
    refine lv_aload_n hx hb dX12_parties_22 rfl (lv_at hl 0 rfl) ?_
    refine lv_aload_n hx hb dX12_parties_23 rfl (lv_at hl 0 rfl) ?_
    refine tk_i hH hS hA (tr_V (n := 0) (As := []) hx hb hml hown hts hkb hH hOX hks hE hS hA (s_M_openSet l D cs kf T O X a0 hg mq t_a0 b_hg (hO.sub (by decide))) kw_1510 kw_1512 ks_73 kw_13 kw_1513 (by decide +kernel) ⟨Nat.le_of_ble_eq_true rfl, Nat.le_of_ble_eq_true rfl⟩ (HT.recv (ci := 12) hkb hH t_a0 (hO.no t_a0 (by decide)) rfl) rfl rfl hl.1 (Nat.le_of_ble_eq_true rfl) dX12_parties_24 ⟨Nat.le_of_ble_eq_true rfl, Nat.le_of_ble_eq_true rfl⟩) (fun v24 u H locs hz9 hH hS => ?_)
    obtain ⟨rfl, l_v24, u_v24⟩ := hz9
    have hH : HT D cs A T O X H := hH
    refine W.widen (k := 0) (n := 0) (Nat.le_of_ble_eq_true rfl) (Nat.le_of_ble_eq_true rfl) ?_
    refine tk_i hH hS hA (tr_V (n := 1) (As := [.int v24]) hx hb hml hown hts hkb hH hOX hks hE hS hA (s_M_partiesBy l D cs kf T O X a0 hg mq v24 t_a0 b_hg (by omega) (by omega) (hO.sub (by decide))) kw_1652 kw_1654 ks_92 kw_13 kw_1655 (by decide +kernel) ⟨Nat.le_of_ble_eq_true rfl, Nat.le_of_ble_eq_true rfl⟩ (HT.recv (ci := 12) hkb hH t_a0 (hO.no t_a0 (by decide)) rfl) rfl rfl hl.1 (Nat.le_of_ble_eq_true rfl) dX12_parties_27 ⟨Nat.le_of_ble_eq_true rfl, Nat.le_of_ble_eq_true rfl⟩) (fun v27 u H locs hz9 hH hS => ?_)
    have hz9 : u = (T, O, X) := hz9
    subst hz9
    have hH : HT D cs A T O X H := hH
    refine W.widen (k := 0) (n := 0) (Nat.le_of_ble_eq_true rfl) (Nat.le_of_ble_eq_true rfl) ?_
    exact te_i hx hb hr hlocks hH hS (rfl) dX12_parties_30
  · skip
    have tc11 := f_eq (k := 0) (by decide) c11
    clear x_v80
    refine lv_bipush (v := (-2)) hx hb dX12_parties_14 (by decide) ?_
    exact te_i hx hb hr hlocks hH hS (rfl) dX12_parties_16
set_option maxHeartbeats 4000000 in
set_option maxRecDepth 100000 in
theorem s_M_shut (l : Launch) (D : va_G) (cs : CS) (kf : KF) (T : TF) (O : List Nat) (X : va_W) (a0 hg mq : Nat) (x1 : Int32) (x2 : Int32) (t_a0 : T a0 = some (22, hg, mq)) (b_hg : hg < 90) (hO : okO T O [1, 8, 9, 22]) : TK l D cs kf yX12_shut cX12_shut 4 (some (.int)) { frames := 5, cells := 0, slots := 0, locals := 119 } [.ref a0, .int x1, .int x2] T O X (Ti D cs (fun r u => u = (T, O, X))) := by
  refine tk_of (by decide) (Nat.le_of_ble_eq_true rfl) (fun p e s m below meth c ls A H locs hx hb hr hml hown hts hlocks hnm hkb hH hS hA hOX hks hE hl => ?_)
  have hown : s.vm.findClass RX12 = some m.cls := hown
  have hl : lv_has ls 4 [(0, .ref a0), (1, .int x1), (2, .int x2)] := hl
  refine lv_aload_n hx hb dX12_shut_0 rfl (lv_at hl 0 rfl) ?_
  refine lv_iconst (v := 0) hx hb dX12_shut_1 (by decide) ?_
  refine t_put (ci := 12) (lst := ft12 hg mq) (v := .int 0) (ty := tyX12 0) (C := RX12) (F := TX12) (N := 36) hx hb hts uX12 tyX12 tyX12_ok nmX12 hown hkb hH hS t_a0 (hO.no t_a0 (by decide)) (fun _ => Iff.rfl) rfl rfl 0 (by decide) rfl (⟨_, rfl⟩) kw_1223 (fun _ h9 => h9) rfl (tyX12_ok 0 (by decide)) rfl rfl dX12_shut_2 (fun H locs hH hS => ?_)
  refine lv_aload_n hx hb dX12_shut_5 rfl (lv_at hl 0 rfl) ?_
  refine lv_iload_n hx hb dX12_shut_6 rfl (lv_at hl 1 rfl) ?_
  refine lv_i2l hx hb dX12_shut_7 rfl ?_
  refine tk_i hH hS hA (tr_V (n := 1) (As := [.long x1.toInt64]) hx hb hml hown hts hkb hH hOX hks hE hS hA (s_M_isGuide l D cs kf T O X a0 hg mq x1.toInt64 t_a0 b_hg (hO.sub (by decide))) kw_1470 kw_1472 ks_67 kw_13 kw_1473 (by decide +kernel) ⟨Nat.le_of_ble_eq_true rfl, Nat.le_of_ble_eq_true rfl⟩ (HT.recv (ci := 12) hkb hH t_a0 (hO.no t_a0 (by decide)) rfl) rfl rfl hl.1 (Nat.le_of_ble_eq_true rfl) dX12_shut_8 ⟨Nat.le_of_ble_eq_true rfl, Nat.le_of_ble_eq_true rfl⟩) (fun v8 u H locs hz9 hH hS => ?_)
  obtain ⟨rfl, l_v8, u_v8, x_v80⟩ := hz9
  simp only [Int32.toInt_toInt64] at x_v80
  have hH : HT D cs A T O X H := hH
  refine W.widen (k := 0) (n := 0) (Nat.le_of_ble_eq_true rfl) (Nat.le_of_ble_eq_true rfl) ?_
  have J24 : ∀  (H : Heap) (locs : List Loc) (ls : Array Slot), HT D cs A T O X H → va_S A s.heap H locs → lv_has ls 4 [] → W p l e { frames := 5, cells := 0, slots := 0, locals := 119 } s m [.ref a0, .int x1, .int x2].toArray below meth c H locs 0 0 (MQ below (Ti D cs (fun r u => u = (T, O, X)) A) [.ref a0, .int x1, .int x2].toArray s 0 0 A) (F0 m 24 ls []) := by
    intro  H locs ls  hH hS hl
    refine lv_bipush (v := (-2)) hx hb dX12_shut_24 (by decide) ?_
    exact te_i hx hb hr hlocks hH hS (rfl) dX12_shut_26
  refine lv_if_eq (tgt := 24) hx hb dX12_shut_11 (by decide) (fun c11 => ?_) (fun c11 => ?_)
  · skip
    have tc11 := f_eq (k := 0) (by decide) c11
    clear x_v80
    exact J24  _ _ _  hH hS (lv_sub hl [] rfl)
  · skip
    have tc11 := f_ne (k := 0) (by decide) c11
    replace x_v80 := x_v80.resolve_left tc11
    refine lv_iload_n hx hb dX12_shut_14 rfl (lv_at hl 2 rfl) ?_
    refine lv_i2l hx hb dX12_shut_15 rfl ?_
    refine lv_lconst (v := 0) hx hb dX12_shut_16 (by decide) ?_
    refine lv_lconst (v := 1) hx hb dX12_shut_17 (by decide) ?_
    refine tk_i hH hS hA (tr_S (n := 3) (As := [.long x2.toInt64, .long 0, .long 1]) hx hb hml hown hts hkb hH hOX hks hE hS hA (s_M_within l D cs kf T O X x2.toInt64 0 1  (hO.sub (by decide))) kw_1341 kw_1342 kw_13 kw_1343 (by decide +kernel) ⟨Nat.le_of_ble_eq_true rfl, Nat.le_of_ble_eq_true rfl⟩ rfl rfl hl.1 (Nat.le_of_ble_eq_true rfl) dX12_shut_18 ⟨Nat.le_of_ble_eq_true rfl, Nat.le_of_ble_eq_true rfl⟩) (fun v18 u H locs hz9 hH hS => ?_)
    obtain ⟨rfl, l_v18, u_v18, x_v180, x_v181⟩ := hz9
    simp only [Int32.toInt_toInt64] at x_v180 x_v181
    have k9_0 : (0 : Int64).toInt = 0 := by decide
    have k9_1 : (1 : Int64).toInt = 1 := by decide
    have hH : HT D cs A T O X H := hH
    refine W.widen (k := 0) (n := 0) (Nat.le_of_ble_eq_true rfl) (Nat.le_of_ble_eq_true rfl) ?_
    refine lv_if_ne (tgt := 27) hx hb dX12_shut_21 (by decide) (fun c21 => ?_) (fun c21 => ?_)
    · skip
      have tc21 := f_ne (k := 0) (by decide) c21
      replace x_v180 := x_v180.resolve_left tc21
      clear x_v181
      refine lv_aload_n hx hb dX12_shut_27 rfl (lv_at hl 0 rfl) ?_
      refine lv_iload_n hx hb dX12_shut_28 rfl (lv_at hl 1 rfl) ?_
      refine tk_v hH hS hA (tr_V (n := 1) (As := [.int x1]) hx hb hml hown hts hkb hH hOX hks hE hS hA (s_M_laysGuide l D cs kf T O X a0 hg mq x1 t_a0 b_hg (by omega) (by omega) (hO.sub (by decide))) kw_1502 kw_1504 ks_71 kw_13 kw_1505 (by decide +kernel) ⟨Nat.le_of_ble_eq_true rfl, Nat.le_of_ble_eq_true rfl⟩ (HT.recv (ci := 12) hkb hH t_a0 (hO.no t_a0 (by decide)) rfl) rfl rfl hl.1 (Nat.le_of_ble_eq_true rfl) dX12_shut_29 ⟨Nat.le_of_ble_eq_true rfl, Nat.le_of_ble_eq_true rfl⟩) (fun u H locs hz9 hH hS => ?_)
      have hz9 : u = (T, O, X) := hz9
      subst hz9
      have hH : HT D cs A T O X H := hH
      refine W.widen (k := 0) (n := 0) (Nat.le_of_ble_eq_true rfl) (Nat.le_of_ble_eq_true rfl) ?_
      refine lv_aload_n hx hb dX12_shut_32 rfl (lv_at hl 0 rfl) ?_
      refine lv_aload_n hx hb dX12_shut_33 rfl (lv_at hl 0 rfl) ?_
      refine tk_i hH hS hA (tr_V (n := 0) (As := []) hx hb hml hown hts hkb hH hOX hks hE hS hA (s_M_openSet l D cs kf T O X a0 hg mq t_a0 b_hg (hO.sub (by decide))) kw_1510 kw_1512 ks_73 kw_13 kw_1513 (by decide +kernel) ⟨Nat.le_of_ble_eq_true rfl, Nat.le_of_ble_eq_true rfl⟩ (HT.recv (ci := 12) hkb hH t_a0 (hO.no t_a0 (by decide)) rfl) rfl rfl hl.1 (Nat.le_of_ble_eq_true rfl) dX12_shut_34 ⟨Nat.le_of_ble_eq_true rfl, Nat.le_of_ble_eq_true rfl⟩) (fun v34 u H locs hz9 hH hS => ?_)
      obtain ⟨rfl, l_v34, u_v34⟩ := hz9
      have hH : HT D cs A T O X H := hH
      refine W.widen (k := 0) (n := 0) (Nat.le_of_ble_eq_true rfl) (Nat.le_of_ble_eq_true rfl) ?_
      refine tk_i hH hS hA (tr_V (n := 1) (As := [.int v34]) hx hb hml hown hts hkb hH hOX hks hE hS hA (s_M_cutOf l D cs kf T O X a0 hg mq v34 t_a0 b_hg (by omega) (by omega) (hO.sub (by decide))) kw_1656 kw_1658 ks_93 kw_13 kw_1659 (by decide +kernel) ⟨Nat.le_of_ble_eq_true rfl, Nat.le_of_ble_eq_true rfl⟩ (HT.recv (ci := 12) hkb hH t_a0 (hO.no t_a0 (by decide)) rfl) rfl rfl hl.1 (Nat.le_of_ble_eq_true rfl) dX12_shut_37 ⟨Nat.le_of_ble_eq_true rfl, Nat.le_of_ble_eq_true rfl⟩) (fun v37 u H locs hz9 hH hS => ?_)
      obtain ⟨rfl, l_v37, u_v37⟩ := hz9
      have hH : HT D cs A T O X H := hH
      refine W.widen (k := 0) (n := 0) (Nat.le_of_ble_eq_true rfl) (Nat.le_of_ble_eq_true rfl) ?_
      refine lv_istore_n (lv' := [(3, .int v37), (0, .ref a0), (1, .int x1), (2, .int x2)]) hx hb dX12_shut_40 rfl hl (by decide) rfl (fun ls hl => ?_)
      refine lv_iload_n hx hb dX12_shut_41 rfl (lv_at hl 0 rfl) ?_
      refine lv_iconst (v := (-1)) hx hb dX12_shut_42 (by decide) ?_
      have J59 : ∀ (k59_0 : Int32) (H : Heap) (locs : List Loc) (ls : Array Slot), HT D cs A T O X H → va_S A s.heap H locs → lv_has ls 4 [] → W p l e { frames := 5, cells := 0, slots := 0, locals := 119 } s m [.ref a0, .int x1, .int x2].toArray below meth c H locs 0 0 (MQ below (Ti D cs (fun r u => u = (T, O, X)) A) [.ref a0, .int x1, .int x2].toArray s 0 0 A) (F0 m 59 ls [.int k59_0]) := by
        intro k59_0 H locs ls  hH hS hl
        exact te_i hx hb hr hlocks hH hS (rfl) dX12_shut_59
      have J51 : ∀  (H : Heap) (locs : List Loc) (ls : Array Slot), HT D cs A T O X H → va_S A s.heap H locs → lv_has ls 4 [(3, .int v37)] → W p l e { frames := 5, cells := 0, slots := 0, locals := 119 } s m [.ref a0, .int x1, .int x2].toArray below meth c H locs 0 0 (MQ below (Ti D cs (fun r u => u = (T, O, X)) A) [.ref a0, .int x1, .int x2].toArray s 0 0 A) (F0 m 51 ls []) := by
        intro  H locs ls  hH hS hl
        refine lv_iload_n hx hb dX12_shut_51 rfl (lv_at hl 0 rfl) ?_
        refine lv_goto (tgt := 59) hx hb dX12_shut_52 (by decide) ?_
        exact J59 v37 _ _ _  hH hS (lv_sub hl [] rfl)
      refine lv_icmp_eq (tgt := 51) hx hb dX12_shut_43 (by decide) (fun c43 => ?_) (fun c43 => ?_)
      · skip
        have tc43 := f_eq (k := -1) (by decide) c43
        exact J51  _ _ _  hH hS (lv_sub hl [0] rfl)
      · skip
        have tc43 := f_ne (k := -1) (by decide) c43
        refine lv_iload_n hx hb dX12_shut_46 rfl (lv_at hl 3 rfl) ?_
        refine lv_iconst (v := 1) hx hb dX12_shut_47 (by decide) ?_
        refine lv_icmp_ne (tgt := 55) hx hb dX12_shut_48 (by decide) (fun c48 => ?_) (fun c48 => ?_)
        · skip
          have tc48 := f_ne (k := 1) (by decide) c48
          refine lv_iload_n hx hb dX12_shut_55 rfl (lv_at hl 0 rfl) ?_
          refine tk_i hH hS hA (tr_S (n := 1) (As := [.int v37]) hx hb hml hown hts hkb hH hOX hks hE hS hA (s_M_bitsOf l D cs kf T O X v37  (hO.sub (by decide))) kw_1631 kw_1632 kw_13 kw_1633 (by decide +kernel) ⟨Nat.le_of_ble_eq_true rfl, Nat.le_of_ble_eq_true rfl⟩ rfl rfl hl.1 (Nat.le_of_ble_eq_true rfl) dX12_shut_56 ⟨Nat.le_of_ble_eq_true rfl, Nat.le_of_ble_eq_true rfl⟩) (fun v56 u H locs hz9 hH hS => ?_)
          have hz9 : u = (T, O, X) := hz9
          subst hz9
          have hH : HT D cs A T O X H := hH
          refine W.widen (k := 0) (n := 0) (Nat.le_of_ble_eq_true rfl) (Nat.le_of_ble_eq_true rfl) ?_
          exact J59 v56 _ _ _  hH hS (lv_sub hl [] rfl)
        · skip
          have tc48 := f_eq (k := 1) (by decide) c48
          exact J51  _ _ _  hH hS (lv_sub hl [0] rfl)
    · skip
      have tc21 := f_eq (k := 0) (by decide) c21
      clear x_v180
      replace x_v181 := x_v181.resolve_left (fun q9 => q9 tc21)
      exact J24  _ _ _  hH hS (lv_sub hl [] rfl)
set_option maxHeartbeats 4000000 in
set_option maxRecDepth 100000 in
theorem s_M_neededBy (l : Launch) (D : va_G) (cs : CS) (kf : KF) (T : TF) (O : List Nat) (X : va_W) (a0 hg mq : Nat) (x1 : Int32) (t_a0 : T a0 = some (22, hg, mq)) (b_hg : hg < 90) (l_x1 : 0 ≤ x1.toInt) (u_x1 : x1.toInt ≤ 4) (hO : okO T O [1, 8, 9, 22]) : TK l D cs kf yX12_neededBy cX12_neededBy 5 (some (.int)) { frames := 5, cells := 0, slots := 0, locals := 119 } [.ref a0, .int x1] T O X (Ti D cs (fun r u => u = (T, O, X) ∧ 0 ≤ r.toInt ∧ r.toInt ≤ 16383)) := by
  refine tk_of (by decide) (Nat.le_of_ble_eq_true rfl) (fun p e s m below meth c ls A H locs hx hb hr hml hown hts hlocks hnm hkb hH hS hA hOX hks hE hl => ?_)
  have hown : s.vm.findClass RX12 = some m.cls := hown
  have hl : lv_has ls 5 [(0, .ref a0), (1, .int x1)] := hl
  refine lv_aload_n hx hb dX12_neededBy_0 rfl (lv_at hl 0 rfl) ?_
  refine lv_iload_n hx hb dX12_neededBy_1 rfl (lv_at hl 1 rfl) ?_
  refine tk_v hH hS hA (tr_V (n := 1) (As := [.int x1]) hx hb hml hown hts hkb hH hOX hks hE hS hA (s_M_laysGuide l D cs kf T O X a0 hg mq x1 t_a0 b_hg (by omega) (by omega) (hO.sub (by decide))) kw_1502 kw_1504 ks_71 kw_13 kw_1505 (by decide +kernel) ⟨Nat.le_of_ble_eq_true rfl, Nat.le_of_ble_eq_true rfl⟩ (HT.recv (ci := 12) hkb hH t_a0 (hO.no t_a0 (by decide)) rfl) rfl rfl hl.1 (Nat.le_of_ble_eq_true rfl) dX12_neededBy_2 ⟨Nat.le_of_ble_eq_true rfl, Nat.le_of_ble_eq_true rfl⟩) (fun u H locs hz9 hH hS => ?_)
  have hz9 : u = (T, O, X) := hz9
  subst hz9
  have hH : HT D cs A T O X H := hH
  refine W.widen (k := 0) (n := 0) (Nat.le_of_ble_eq_true rfl) (Nat.le_of_ble_eq_true rfl) ?_
  refine lv_aload_n hx hb dX12_neededBy_5 rfl (lv_at hl 0 rfl) ?_
  refine tk_i hH hS hA (tr_V (n := 0) (As := []) hx hb hml hown hts hkb hH hOX hks hE hS hA (s_M_openSet l D cs kf T O X a0 hg mq t_a0 b_hg (hO.sub (by decide))) kw_1510 kw_1512 ks_73 kw_13 kw_1513 (by decide +kernel) ⟨Nat.le_of_ble_eq_true rfl, Nat.le_of_ble_eq_true rfl⟩ (HT.recv (ci := 12) hkb hH t_a0 (hO.no t_a0 (by decide)) rfl) rfl rfl hl.1 (Nat.le_of_ble_eq_true rfl) dX12_neededBy_6 ⟨Nat.le_of_ble_eq_true rfl, Nat.le_of_ble_eq_true rfl⟩) (fun v6 u H locs hz9 hH hS => ?_)
  obtain ⟨rfl, l_v6, u_v6⟩ := hz9
  have hH : HT D cs A T O X H := hH
  refine W.widen (k := 0) (n := 0) (Nat.le_of_ble_eq_true rfl) (Nat.le_of_ble_eq_true rfl) ?_
  refine lv_istore_n (lv' := [(2, .int v6), (0, .ref a0), (1, .int x1)]) hx hb dX12_neededBy_9 rfl hl (by decide) rfl (fun ls hl => ?_)
  refine lv_iconst (v := 0) hx hb dX12_neededBy_10 (by decide) ?_
  refine lv_istore_n (lv' := [(3, .int 0), (2, .int v6), (0, .ref a0), (1, .int x1)]) hx hb dX12_neededBy_11 rfl hl (by decide) rfl (fun ls hl => ?_)
  refine lv_iconst (v := 0) hx hb dX12_neededBy_12 (by decide) ?_
  have J15 : ∀ (n : Nat) (p15_4 : Int32) (p15_3 : Int32) (H : Heap) (locs : List Loc) (ls : Array Slot), (14 - p15_4.toInt).toNat = n → (0 ≤ p15_4.toInt) → (p15_4.toInt ≤ 14) → (0 ≤ p15_3.toInt) → (p15_3.toInt ≤ 16383) → HT D cs A T O X H → va_S A s.heap H locs → lv_has ls 5 [(4, .int p15_4), (3, .int p15_3), (2, .int v6), (0, .ref a0)] → W p l e { frames := 5, cells := 0, slots := 0, locals := 119 } s m [.ref a0, .int x1].toArray below meth c H locs 0 0 (MQ below (Ti D cs (fun r u => u = (T, O, X) ∧ 0 ≤ r.toInt ∧ r.toInt ≤ 16383) A) [.ref a0, .int x1].toArray s 0 0 A) (F0 m 15 ls []) := by
    intro n
    induction n using Nat.strongRecOn with
    | _ n ih15 =>
      intro p15_4 p15_3 H locs ls hm15 l_p15_4 u_p15_4 l_p15_3 u_p15_3 hH hS hl
      refine lv_iload hx hb dX12_neededBy_15 (lv_at hl 0 rfl) ?_
      refine lv_aload_n hx hb dX12_neededBy_17 rfl (lv_at hl 3 rfl) ?_
      refine t_get (ci := 12) (lst := ft12 hg mq) (C := RX12) (F := TX12) (N := 36) hx hb hts uX12 hown hkb hH t_a0 (hO.no t_a0 (by decide)) (fun _ h9 => h9) rfl rfl 1 (by decide) rfl kw_1224 (fun _ h9 => h9) dX12_neededBy_18 (fun v9 h9 => ?_)
      obtain ⟨v18, rfl, t_v18⟩ := h9
      refine lv_iconst (v := 1) hx hb dX12_neededBy_21 (by decide) ?_
      refine t_ild8 hx hb hkb hH t_v18 (hO.no t_v18 (by decide)) (by decide) (by decide) (by decide) dX12_neededBy_22 (fun v22 h9 h8 => ?_)
      have q9 := (h8 rfl).1 rfl
      subst q9
      have eH9 : (nI (hg / 6)).toInt = (((hg / 6) : Nat) : Int) := nI_toInt (by omega)
      have J79 : ∀  (H : Heap) (locs : List Loc) (ls : Array Slot), HT D cs A T O X H → va_S A s.heap H locs → lv_has ls 5 [(3, .int p15_3)] → W p l e { frames := 5, cells := 0, slots := 0, locals := 119 } s m [.ref a0, .int x1].toArray below meth c H locs 0 0 (MQ below (Ti D cs (fun r u => u = (T, O, X) ∧ 0 ≤ r.toInt ∧ r.toInt ≤ 16383) A) [.ref a0, .int x1].toArray s 0 0 A) (F0 m 79 ls []) := by
        intro  H locs ls  hH hS hl
        refine lv_iload_n hx hb dX12_neededBy_79 rfl (lv_at hl 0 rfl) ?_
        exact te_i hx hb hr hlocks hH hS (⟨rfl, by omega, by omega⟩) dX12_neededBy_80
      refine lv_icmp_ge (tgt := 79) hx hb dX12_neededBy_23 (by decide) (fun c23 => ?_) (fun c23 => ?_)
      · skip
        have fuc23 := full_i p15_4
        have fvc23 := full_i (nI (hg / 6))
        have tc23 := g_le c23
        exact J79  _ _ _  hH hS (lv_sub hl [1] rfl)
      · skip
        have fuc23 := full_i p15_4
        have fvc23 := full_i (nI (hg / 6))
        have tc23 := g_nle c23
        refine lv_aload_n hx hb dX12_neededBy_26 rfl (lv_at hl 3 rfl) ?_
        refine lv_iload_n hx hb dX12_neededBy_27 rfl (lv_at hl 2 rfl) ?_
        refine tk_i hH hS hA (tr_V (n := 1) (As := [.int v6]) hx hb hml hown hts hkb hH hOX hks hE hS hA (s_M_hasClimb l D cs kf T O X a0 hg mq v6 t_a0 b_hg (hO.sub (by decide))) kw_1660 kw_1662 ks_94 kw_13 kw_1663 (by decide +kernel) ⟨Nat.le_of_ble_eq_true rfl, Nat.le_of_ble_eq_true rfl⟩ (HT.recv (ci := 12) hkb hH t_a0 (hO.no t_a0 (by decide)) rfl) rfl rfl hl.1 (Nat.le_of_ble_eq_true rfl) dX12_neededBy_28 ⟨Nat.le_of_ble_eq_true rfl, Nat.le_of_ble_eq_true rfl⟩) (fun v28 u H locs hz9 hH hS => ?_)
        obtain ⟨rfl, l_v28, u_v28⟩ := hz9
        have hH : HT D cs A T O X H := hH
        refine W.widen (k := 0) (n := 0) (Nat.le_of_ble_eq_true rfl) (Nat.le_of_ble_eq_true rfl) ?_
        refine lv_if_eq (tgt := 79) hx hb dX12_neededBy_31 (by decide) (fun c31 => ?_) (fun c31 => ?_)
        · skip
          have tc31 := f_eq (k := 0) (by decide) c31
          exact J79  _ _ _  hH hS (lv_sub hl [1] rfl)
        · skip
          have tc31 := f_ne (k := 0) (by decide) c31
          refine lv_iload_n hx hb dX12_neededBy_34 rfl (lv_at hl 2 rfl) ?_
          refine lv_aload_n hx hb dX12_neededBy_35 rfl (lv_at hl 3 rfl) ?_
          refine tk_i hH hS hA (tr_V (n := 0) (As := []) hx hb hml hown hts hkb hH hOX hks hE hS hA (s_M_ends l D cs kf T O X a0 hg mq t_a0 b_hg (hO.sub (by decide))) kw_1536 kw_1538 ks_78 kw_13 kw_1539 (by decide +kernel) ⟨Nat.le_of_ble_eq_true rfl, Nat.le_of_ble_eq_true rfl⟩ (HT.recv (ci := 12) hkb hH t_a0 (hO.no t_a0 (by decide)) rfl) rfl rfl hl.1 (Nat.le_of_ble_eq_true rfl) dX12_neededBy_36 ⟨Nat.le_of_ble_eq_true rfl, Nat.le_of_ble_eq_true rfl⟩) (fun v36 u H locs hz9 hH hS => ?_)
          obtain ⟨rfl, l_v36, u_v36⟩ := hz9
          have hH : HT D cs A T O X H := hH
          refine W.widen (k := 0) (n := 0) (Nat.le_of_ble_eq_true rfl) (Nat.le_of_ble_eq_true rfl) ?_
          refine lv_iconst (v := (-1)) hx hb dX12_neededBy_39 (by decide) ?_
          refine lv_ixor hx hb dX12_neededBy_40 ?_
          refine lv_topi (fun v40 ev40 => ?_)
          refine lv_iand hx hb dX12_neededBy_41 ?_
          refine lv_topi (fun v41 ev41 => ?_)
          have tv41 : 0 ≤ v41.toInt ∧ v41.toInt ≤ v6.toInt := by rw [ev41]; exact and_l (by omega)
          refine lv_i2l hx hb dX12_neededBy_42 rfl ?_
          refine lv_iload hx hb dX12_neededBy_43 (lv_at hl 0 rfl) ?_
          refine tk_i hH hS hA (tr_S (n := 2) (As := [.long v41.toInt64, .int p15_4]) hx hb hml hown hts hkb hH hOX hks hE hS hA (s_M_isIn2 l D cs kf T O X v41.toInt64 p15_4  (hO.sub (by decide))) kw_1440 kw_1441 kw_13 kw_1442 (by decide +kernel) ⟨Nat.le_of_ble_eq_true rfl, Nat.le_of_ble_eq_true rfl⟩ rfl rfl hl.1 (Nat.le_of_ble_eq_true rfl) dX12_neededBy_45 ⟨Nat.le_of_ble_eq_true rfl, Nat.le_of_ble_eq_true rfl⟩) (fun v45 u H locs hz9 hH hS => ?_)
          obtain ⟨rfl, l_v45, u_v45, x_v450⟩ := hz9
          have hH : HT D cs A T O X H := hH
          refine W.widen (k := 0) (n := 0) (Nat.le_of_ble_eq_true rfl) (Nat.le_of_ble_eq_true rfl) ?_
          have J73 : ∀ (p73_3 : Int32) (H : Heap) (locs : List Loc) (ls : Array Slot), (0 ≤ p73_3.toInt) → (p73_3.toInt ≤ 16383) → HT D cs A T O X H → va_S A s.heap H locs → lv_has ls 5 [(4, .int p15_4), (3, .int p73_3), (2, .int v6), (0, .ref a0)] → W p l e { frames := 5, cells := 0, slots := 0, locals := 119 } s m [.ref a0, .int x1].toArray below meth c H locs 0 0 (MQ below (Ti D cs (fun r u => u = (T, O, X) ∧ 0 ≤ r.toInt ∧ r.toInt ≤ 16383) A) [.ref a0, .int x1].toArray s 0 0 A) (F0 m 73 ls []) := by
            intro p73_3 H locs ls l_p73_3 u_p73_3 hH hS hl
            obtain ⟨v73, ev73⟩ : ∃ y : Int32, y = p15_4 + 1 := ⟨_, rfl⟩
            have tv73 : v73.toInt = p15_4.toInt + (1) := by rw [ev73]; exact add_i rfl (by decide) (by omega) (by omega)
            refine lv_iinc (v := v73) (lv' := [(4, .int v73), (3, .int p73_3), (2, .int v6), (0, .ref a0)]) hx hb dX12_neededBy_73 hl (k := 0) rfl (by rw [ev73]; rfl) (by decide) rfl (fun ls hl => ?_)
            refine lv_goto (tgt := 15) hx hb dX12_neededBy_76 (by decide) ?_
            exact ih15 _ (by omega) v73 p73_3 _ _ _ rfl (by omega) (by omega) (by omega) (by omega) hH hS (lv_sub hl [0, 1, 2, 3] rfl)
          refine lv_if_eq (tgt := 73) hx hb dX12_neededBy_48 (by decide) (fun c48 => ?_) (fun c48 => ?_)
          · skip
            have tc48 := f_eq (k := 0) (by decide) c48
            exact J73 p15_3 _ _ _ (by omega) (by omega) hH hS (lv_sub hl [0, 1, 2, 3] rfl)
          · skip
            have tc48 := f_ne (k := 0) (by decide) c48
            refine lv_aload_n hx hb dX12_neededBy_51 rfl (lv_at hl 3 rfl) ?_
            refine lv_iload_n hx hb dX12_neededBy_52 rfl (lv_at hl 2 rfl) ?_
            refine lv_iconst (v := 1) hx hb dX12_neededBy_53 (by decide) ?_
            refine lv_iload hx hb dX12_neededBy_54 (lv_at hl 0 rfl) ?_
            refine lv_ishl hx hb dX12_neededBy_56 ?_
            refine lv_topi (fun v56 ev56 => ?_)
            have tv56 : 1 ≤ v56.toInt ∧ v56.toInt ≤ 8192 := by rw [ev56]; exact shl_b 13 (by decide) (by omega) (by omega)
            refine lv_iconst (v := (-1)) hx hb dX12_neededBy_57 (by decide) ?_
            refine lv_ixor hx hb dX12_neededBy_58 ?_
            refine lv_topi (fun v58 ev58 => ?_)
            refine lv_iand hx hb dX12_neededBy_59 ?_
            refine lv_topi (fun v59 ev59 => ?_)
            have tv59 : 0 ≤ v59.toInt ∧ v59.toInt ≤ v6.toInt := by rw [ev59]; exact and_l (by omega)
            refine tk_i hH hS hA (tr_V (n := 1) (As := [.int v59]) hx hb hml hown hts hkb hH hOX hks hE hS hA (s_M_hasClimb l D cs kf T O X a0 hg mq v59 t_a0 b_hg (hO.sub (by decide))) kw_1660 kw_1662 ks_94 kw_13 kw_1663 (by decide +kernel) ⟨Nat.le_of_ble_eq_true rfl, Nat.le_of_ble_eq_true rfl⟩ (HT.recv (ci := 12) hkb hH t_a0 (hO.no t_a0 (by decide)) rfl) rfl rfl hl.1 (Nat.le_of_ble_eq_true rfl) dX12_neededBy_60 ⟨Nat.le_of_ble_eq_true rfl, Nat.le_of_ble_eq_true rfl⟩) (fun v60 u H locs hz9 hH hS => ?_)
            obtain ⟨rfl, l_v60, u_v60⟩ := hz9
            have hH : HT D cs A T O X H := hH
            refine W.widen (k := 0) (n := 0) (Nat.le_of_ble_eq_true rfl) (Nat.le_of_ble_eq_true rfl) ?_
            refine lv_if_ne (tgt := 73) hx hb dX12_neededBy_63 (by decide) (fun c63 => ?_) (fun c63 => ?_)
            · skip
              have tc63 := f_ne (k := 0) (by decide) c63
              exact J73 p15_3 _ _ _ (by omega) (by omega) hH hS (lv_sub hl [0, 1, 2, 3] rfl)
            · skip
              have tc63 := f_eq (k := 0) (by decide) c63
              refine lv_iload_n hx hb dX12_neededBy_66 rfl (lv_at hl 1 rfl) ?_
              refine lv_iconst (v := 1) hx hb dX12_neededBy_67 (by decide) ?_
              refine lv_iload hx hb dX12_neededBy_68 (lv_at hl 0 rfl) ?_
              refine lv_ishl hx hb dX12_neededBy_70 ?_
              refine lv_topi (fun v70 ev70 => ?_)
              have tv70 : 1 ≤ v70.toInt ∧ v70.toInt ≤ 8192 := by rw [ev70]; exact shl_b 13 (by decide) (by omega) (by omega)
              refine lv_ior hx hb dX12_neededBy_71 ?_
              refine lv_topi (fun v71 ev71 => ?_)
              have tv71 : 0 ≤ v71.toInt ∧ v71.toInt < 16384 := by rw [ev71]; exact or_b 14 (by decide) (by omega) (by omega) (by omega) (by omega)
              refine lv_istore_n (lv' := [(3, .int v71), (4, .int p15_4), (2, .int v6), (0, .ref a0)]) hx hb dX12_neededBy_72 rfl hl (by decide) rfl (fun ls hl => ?_)
              exact J73 v71 _ _ _ (by omega) (by omega) hH hS (lv_sub hl [1, 0, 2, 3] rfl)
  refine lv_istore (lv' := [(4, .int 0), (3, .int 0), (2, .int v6), (0, .ref a0), (1, .int x1)]) hx hb dX12_neededBy_13 hl (by decide) rfl (fun ls hl => ?_)
  exact J15 _ 0 0 _ _ _ rfl (by decide) (by decide) (by decide) (by decide) hH hS (lv_sub hl [0, 1, 2, 3] rfl)
set_option maxHeartbeats 4000000 in
set_option maxRecDepth 100000 in
theorem s_M_needed (l : Launch) (D : va_G) (cs : CS) (kf : KF) (T : TF) (O : List Nat) (X : va_W) (a0 hg mq : Nat) (x1 : Int32) (t_a0 : T a0 = some (22, hg, mq)) (b_hg : hg < 90) (hO : okO T O [1, 8, 9, 22]) : TK l D cs kf yX12_needed cX12_needed 2 (some (.int)) { frames := 6, cells := 0, slots := 0, locals := 143 } [.ref a0, .int x1] T O X (Ti D cs (fun r u => u = (T, O, X) ∧ -2 ≤ r.toInt ∧ r.toInt ≤ 16383)) := by
  refine tk_of (by decide) (Nat.le_of_ble_eq_true rfl) (fun p e s m below meth c ls A H locs hx hb hr hml hown hts hlocks hnm hkb hH hS hA hOX hks hE hl => ?_)
  have hown : s.vm.findClass RX12 = some m.cls := hown
  have hl : lv_has ls 2 [(0, .ref a0), (1, .int x1)] := hl
  refine lv_aload_n hx hb dX12_needed_0 rfl (lv_at hl 0 rfl) ?_
  refine lv_iconst (v := 0) hx hb dX12_needed_1 (by decide) ?_
  refine t_put (ci := 12) (lst := ft12 hg mq) (v := .int 0) (ty := tyX12 0) (C := RX12) (F := TX12) (N := 36) hx hb hts uX12 tyX12 tyX12_ok nmX12 hown hkb hH hS t_a0 (hO.no t_a0 (by decide)) (fun _ => Iff.rfl) rfl rfl 0 (by decide) rfl (⟨_, rfl⟩) kw_1223 (fun _ h9 => h9) rfl (tyX12_ok 0 (by decide)) rfl rfl dX12_needed_2 (fun H locs hH hS => ?_)
  refine lv_aload_n hx hb dX12_needed_5 rfl (lv_at hl 0 rfl) ?_
  refine lv_iload_n hx hb dX12_needed_6 rfl (lv_at hl 1 rfl) ?_
  refine lv_i2l hx hb dX12_needed_7 rfl ?_
  refine tk_i hH hS hA (tr_V (n := 1) (As := [.long x1.toInt64]) hx hb hml hown hts hkb hH hOX hks hE hS hA (s_M_isGuide l D cs kf T O X a0 hg mq x1.toInt64 t_a0 b_hg (hO.sub (by decide))) kw_1470 kw_1472 ks_67 kw_13 kw_1473 (by decide +kernel) ⟨Nat.le_of_ble_eq_true rfl, Nat.le_of_ble_eq_true rfl⟩ (HT.recv (ci := 12) hkb hH t_a0 (hO.no t_a0 (by decide)) rfl) rfl rfl hl.1 (Nat.le_of_ble_eq_true rfl) dX12_needed_8 ⟨Nat.le_of_ble_eq_true rfl, Nat.le_of_ble_eq_true rfl⟩) (fun v8 u H locs hz9 hH hS => ?_)
  obtain ⟨rfl, l_v8, u_v8, x_v80⟩ := hz9
  simp only [Int32.toInt_toInt64] at x_v80
  have hH : HT D cs A T O X H := hH
  refine W.widen (k := 0) (n := 0) (Nat.le_of_ble_eq_true rfl) (Nat.le_of_ble_eq_true rfl) ?_
  have J24 : ∀ (k24_0 : Int32) (H : Heap) (locs : List Loc) (ls : Array Slot), (-2 ≤ k24_0.toInt) → (k24_0.toInt ≤ 16383) → HT D cs A T O X H → va_S A s.heap H locs → lv_has ls 2 [] → W p l e { frames := 6, cells := 0, slots := 0, locals := 143 } s m [.ref a0, .int x1].toArray below meth c H locs 0 0 (MQ below (Ti D cs (fun r u => u = (T, O, X) ∧ -2 ≤ r.toInt ∧ r.toInt ≤ 16383) A) [.ref a0, .int x1].toArray s 0 0 A) (F0 m 24 ls [.int k24_0]) := by
    intro k24_0 H locs ls l_k24_0 u_k24_0 hH hS hl
    exact te_i hx hb hr hlocks hH hS (⟨rfl, by omega, by omega⟩) dX12_needed_24
  refine lv_if_eq (tgt := 22) hx hb dX12_needed_11 (by decide) (fun c11 => ?_) (fun c11 => ?_)
  · skip
    have tc11 := f_eq (k := 0) (by decide) c11
    clear x_v80
    refine lv_bipush (v := (-2)) hx hb dX12_needed_22 (by decide) ?_
    exact J24 (-2) _ _ _ (by decide) (by decide) hH hS (lv_sub hl [] rfl)
  · skip
    have tc11 := f_ne (k := 0) (by decide) c11
    replace x_v80 := x_v80.resolve_left tc11
    refine lv_aload_n hx hb dX12_needed_14 rfl (lv_at hl 0 rfl) ?_
    refine lv_iload_n hx hb dX12_needed_15 rfl (lv_at hl 1 rfl) ?_
    refine tk_i hH hS hA (tr_V (n := 1) (As := [.int x1]) hx hb hml hown hts hkb hH hOX hks hE hS hA (s_M_neededBy l D cs kf T O X a0 hg mq x1 t_a0 b_hg (by omega) (by omega) (hO.sub (by decide))) kw_1672 kw_1674 ks_95 kw_13 kw_1675 (by decide +kernel) ⟨Nat.le_of_ble_eq_true rfl, Nat.le_of_ble_eq_true rfl⟩ (HT.recv (ci := 12) hkb hH t_a0 (hO.no t_a0 (by decide)) rfl) rfl rfl hl.1 (Nat.le_of_ble_eq_true rfl) dX12_needed_16 ⟨Nat.le_of_ble_eq_true rfl, Nat.le_of_ble_eq_true rfl⟩) (fun v16 u H locs hz9 hH hS => ?_)
    obtain ⟨rfl, l_v16, u_v16⟩ := hz9
    have hH : HT D cs A T O X H := hH
    refine W.widen (k := 0) (n := 0) (Nat.le_of_ble_eq_true rfl) (Nat.le_of_ble_eq_true rfl) ?_
    refine lv_goto (tgt := 24) hx hb dX12_needed_19 (by decide) ?_
    exact J24 v16 _ _ _ (by omega) (by omega) hH hS (lv_sub hl [] rfl)
set_option maxHeartbeats 4000000 in
set_option maxRecDepth 100000 in
theorem s_M_needers (l : Launch) (D : va_G) (cs : CS) (kf : KF) (T : TF) (O : List Nat) (X : va_W) (a0 hg mq : Nat) (x1 : Int32) (t_a0 : T a0 = some (22, hg, mq)) (b_hg : hg < 90) (hO : okO T O [1, 8, 9, 22]) : TK l D cs kf yX12_needers cX12_needers 4 (some (.int)) { frames := 6, cells := 0, slots := 0, locals := 143 } [.ref a0, .int x1] T O X (Ti D cs (fun r u => u = (T, O, X) ∧ -2 ≤ r.toInt ∧ r.toInt ≤ 16383)) := by
  refine tk_of (by decide) (Nat.le_of_ble_eq_true rfl) (fun p e s m below meth c ls A H locs hx hb hr hml hown hts hlocks hnm hkb hH hS hA hOX hks hE hl => ?_)
  have hown : s.vm.findClass RX12 = some m.cls := hown
  have hl : lv_has ls 4 [(0, .ref a0), (1, .int x1)] := hl
  refine lv_aload_n hx hb dX12_needers_0 rfl (lv_at hl 0 rfl) ?_
  refine lv_iconst (v := 0) hx hb dX12_needers_1 (by decide) ?_
  refine t_put (ci := 12) (lst := ft12 hg mq) (v := .int 0) (ty := tyX12 0) (C := RX12) (F := TX12) (N := 36) hx hb hts uX12 tyX12 tyX12_ok nmX12 hown hkb hH hS t_a0 (hO.no t_a0 (by decide)) (fun _ => Iff.rfl) rfl rfl 0 (by decide) rfl (⟨_, rfl⟩) kw_1223 (fun _ h9 => h9) rfl (tyX12_ok 0 (by decide)) rfl rfl dX12_needers_2 (fun H locs hH hS => ?_)
  refine lv_aload_n hx hb dX12_needers_5 rfl (lv_at hl 0 rfl) ?_
  refine lv_iload_n hx hb dX12_needers_6 rfl (lv_at hl 1 rfl) ?_
  refine lv_i2l hx hb dX12_needers_7 rfl ?_
  refine tk_i hH hS hA (tr_V (n := 1) (As := [.long x1.toInt64]) hx hb hml hown hts hkb hH hOX hks hE hS hA (s_M_isHold l D cs kf T O X a0 hg mq x1.toInt64 t_a0 b_hg (hO.sub (by decide))) kw_1454 kw_1456 ks_64 kw_13 kw_1457 (by decide +kernel) ⟨Nat.le_of_ble_eq_true rfl, Nat.le_of_ble_eq_true rfl⟩ (HT.recv (ci := 12) hkb hH t_a0 (hO.no t_a0 (by decide)) rfl) rfl rfl hl.1 (Nat.le_of_ble_eq_true rfl) dX12_needers_8 ⟨Nat.le_of_ble_eq_true rfl, Nat.le_of_ble_eq_true rfl⟩) (fun v8 u H locs hz9 hH hS => ?_)
  obtain ⟨rfl, l_v8, u_v8, x_v80⟩ := hz9
  simp only [Int32.toInt_toInt64] at x_v80
  have hH : HT D cs A T O X H := hH
  refine W.widen (k := 0) (n := 0) (Nat.le_of_ble_eq_true rfl) (Nat.le_of_ble_eq_true rfl) ?_
  refine lv_if_ne (tgt := 17) hx hb dX12_needers_11 (by decide) (fun c11 => ?_) (fun c11 => ?_)
  · skip
    have tc11 := f_ne (k := 0) (by decide) c11
    replace x_v80 := x_v80.resolve_left tc11
    refine lv_iconst (v := 0) hx hb dX12_needers_17 (by decide) ?_
    refine lv_istore_n (lv' := [(2, .int 0), (0, .ref a0), (1, .int x1)]) hx hb dX12_needers_18 rfl hl (by decide) rfl (fun ls hl => ?_)
    refine lv_iconst (v := 0) hx hb dX12_needers_19 (by decide) ?_
    have J21 : ∀ (n : Nat) (p21_3 : Int32) (p21_2 : Int32) (H : Heap) (locs : List Loc) (ls : Array Slot), (5 - p21_3.toInt).toNat = n → (0 ≤ p21_3.toInt) → (p21_3.toInt ≤ 5) → (0 ≤ p21_2.toInt) → (p21_2.toInt ≤ 16383) → HT D cs A T O X H → va_S A s.heap H locs → lv_has ls 4 [(3, .int p21_3), (2, .int p21_2), (0, .ref a0), (1, .int x1)] → W p l e { frames := 6, cells := 0, slots := 0, locals := 143 } s m [.ref a0, .int x1].toArray below meth c H locs 0 0 (MQ below (Ti D cs (fun r u => u = (T, O, X) ∧ -2 ≤ r.toInt ∧ r.toInt ≤ 16383) A) [.ref a0, .int x1].toArray s 0 0 A) (F0 m 21 ls []) := by
      intro n
      induction n using Nat.strongRecOn with
      | _ n ih21 =>
        intro p21_3 p21_2 H locs ls hm21 l_p21_3 u_p21_3 l_p21_2 u_p21_2 hH hS hl
        refine lv_iload_n hx hb dX12_needers_21 rfl (lv_at hl 0 rfl) ?_
        refine lv_aload_n hx hb dX12_needers_22 rfl (lv_at hl 2 rfl) ?_
        refine t_get (ci := 12) (lst := ft12 hg mq) (C := RX12) (F := TX12) (N := 36) hx hb hts uX12 hown hkb hH t_a0 (hO.no t_a0 (by decide)) (fun _ h9 => h9) rfl rfl 1 (by decide) rfl kw_1224 (fun _ h9 => h9) dX12_needers_23 (fun v9 h9 => ?_)
        obtain ⟨v23, rfl, t_v23⟩ := h9
        refine lv_iconst (v := 2) hx hb dX12_needers_26 (by decide) ?_
        refine t_ild8 hx hb hkb hH t_v23 (hO.no t_v23 (by decide)) (by decide) (by decide) (by decide) dX12_needers_27 (fun v27 h9 h8 => ?_)
        have q9 := (h8 rfl).2 rfl
        subst q9
        have eG9 : (nI (hg % 6)).toInt = (((hg % 6) : Nat) : Int) := nI_toInt (by omega)
        refine lv_icmp_ge (tgt := 60) hx hb dX12_needers_28 (by decide) (fun c28 => ?_) (fun c28 => ?_)
        · skip
          have fuc28 := full_i p21_3
          have fvc28 := full_i (nI (hg % 6))
          have tc28 := g_le c28
          refine lv_iload_n hx hb dX12_needers_60 rfl (lv_at hl 1 rfl) ?_
          exact te_i hx hb hr hlocks hH hS (⟨rfl, by omega, by omega⟩) dX12_needers_61
        · skip
          have fuc28 := full_i p21_3
          have fvc28 := full_i (nI (hg % 6))
          have tc28 := g_nle c28
          refine lv_iload_n hx hb dX12_needers_31 rfl (lv_at hl 1 rfl) ?_
          refine lv_aload_n hx hb dX12_needers_32 rfl (lv_at hl 2 rfl) ?_
          refine lv_iload_n hx hb dX12_needers_33 rfl (lv_at hl 0 rfl) ?_
          refine tk_i hH hS hA (tr_V (n := 1) (As := [.int p21_3]) hx hb hml hown hts hkb hH hOX hks hE hS hA (s_M_neededBy l D cs kf T O X a0 hg mq p21_3 t_a0 b_hg (by omega) (by omega) (hO.sub (by decide))) kw_1672 kw_1674 ks_95 kw_13 kw_1675 (by decide +kernel) ⟨Nat.le_of_ble_eq_true rfl, Nat.le_of_ble_eq_true rfl⟩ (HT.recv (ci := 12) hkb hH t_a0 (hO.no t_a0 (by decide)) rfl) rfl rfl hl.1 (Nat.le_of_ble_eq_true rfl) dX12_needers_34 ⟨Nat.le_of_ble_eq_true rfl, Nat.le_of_ble_eq_true rfl⟩) (fun v34 u H locs hz9 hH hS => ?_)
          obtain ⟨rfl, l_v34, u_v34⟩ := hz9
          have hH : HT D cs A T O X H := hH
          refine W.widen (k := 0) (n := 0) (Nat.le_of_ble_eq_true rfl) (Nat.le_of_ble_eq_true rfl) ?_
          refine lv_i2l hx hb dX12_needers_37 rfl ?_
          refine lv_iload_n hx hb dX12_needers_38 rfl (lv_at hl 3 rfl) ?_
          refine tk_i hH hS hA (tr_S (n := 2) (As := [.long v34.toInt64, .int x1]) hx hb hml hown hts hkb hH hOX hks hE hS hA (s_M_isIn2 l D cs kf T O X v34.toInt64 x1  (hO.sub (by decide))) kw_1440 kw_1441 kw_13 kw_1442 (by decide +kernel) ⟨Nat.le_of_ble_eq_true rfl, Nat.le_of_ble_eq_true rfl⟩ rfl rfl hl.1 (Nat.le_of_ble_eq_true rfl) dX12_needers_39 ⟨Nat.le_of_ble_eq_true rfl, Nat.le_of_ble_eq_true rfl⟩) (fun v39 u H locs hz9 hH hS => ?_)
          obtain ⟨rfl, l_v39, u_v39, x_v390⟩ := hz9
          have hH : HT D cs A T O X H := hH
          refine W.widen (k := 0) (n := 0) (Nat.le_of_ble_eq_true rfl) (Nat.le_of_ble_eq_true rfl) ?_
          have J52 : ∀ (k52_0 : Int32) (H : Heap) (locs : List Loc) (ls : Array Slot), (0 ≤ k52_0.toInt) → (k52_0.toInt ≤ 16) → HT D cs A T O X H → va_S A s.heap H locs → lv_has ls 4 [(3, .int p21_3), (0, .ref a0), (1, .int x1)] → W p l e { frames := 6, cells := 0, slots := 0, locals := 143 } s m [.ref a0, .int x1].toArray below meth c H locs 0 0 (MQ below (Ti D cs (fun r u => u = (T, O, X) ∧ -2 ≤ r.toInt ∧ r.toInt ≤ 16383) A) [.ref a0, .int x1].toArray s 0 0 A) (F0 m 52 ls [.int k52_0, .int p21_2]) := by
            intro k52_0 H locs ls l_k52_0 u_k52_0 hH hS hl
            refine lv_ior hx hb dX12_needers_52 ?_
            refine lv_topi (fun v52 ev52 => ?_)
            have tv52 : 0 ≤ v52.toInt ∧ v52.toInt < 16384 := by rw [ev52]; exact or_b 14 (by decide) (by omega) (by omega) (by omega) (by omega)
            refine lv_istore_n (lv' := [(2, .int v52), (3, .int p21_3), (0, .ref a0), (1, .int x1)]) hx hb dX12_needers_53 rfl hl (by decide) rfl (fun ls hl => ?_)
            obtain ⟨v54, ev54⟩ : ∃ y : Int32, y = p21_3 + 1 := ⟨_, rfl⟩
            have tv54 : v54.toInt = p21_3.toInt + (1) := by rw [ev54]; exact add_i rfl (by decide) (by omega) (by omega)
            refine lv_iinc (v := v54) (lv' := [(3, .int v54), (2, .int v52), (0, .ref a0), (1, .int x1)]) hx hb dX12_needers_54 hl (k := 1) rfl (by rw [ev54]; rfl) (by decide) rfl (fun ls hl => ?_)
            refine lv_goto (tgt := 21) hx hb dX12_needers_57 (by decide) ?_
            exact ih21 _ (by omega) v54 v52 _ _ _ rfl (by omega) (by omega) (by omega) (by omega) hH hS (lv_sub hl [0, 1, 2, 3] rfl)
          refine lv_if_eq (tgt := 51) hx hb dX12_needers_42 (by decide) (fun c42 => ?_) (fun c42 => ?_)
          · skip
            have tc42 := f_eq (k := 0) (by decide) c42
            refine lv_iconst (v := 0) hx hb dX12_needers_51 (by decide) ?_
            exact J52 0 _ _ _ (by decide) (by decide) hH hS (lv_sub hl [0, 2, 3] rfl)
          · skip
            have tc42 := f_ne (k := 0) (by decide) c42
            refine lv_iconst (v := 1) hx hb dX12_needers_45 (by decide) ?_
            refine lv_iload_n hx hb dX12_needers_46 rfl (lv_at hl 0 rfl) ?_
            refine lv_ishl hx hb dX12_needers_47 ?_
            refine lv_topi (fun v47 ev47 => ?_)
            have tv47 : 1 ≤ v47.toInt ∧ v47.toInt ≤ 16 := by rw [ev47]; exact shl_b 4 (by decide) (by omega) (by omega)
            refine lv_goto (tgt := 52) hx hb dX12_needers_48 (by decide) ?_
            exact J52 v47 _ _ _ (by omega) (by omega) hH hS (lv_sub hl [0, 2, 3] rfl)
    refine lv_istore_n (lv' := [(3, .int 0), (2, .int 0), (0, .ref a0), (1, .int x1)]) hx hb dX12_needers_20 rfl hl (by decide) rfl (fun ls hl => ?_)
    exact J21 _ 0 0 _ _ _ rfl (by decide) (by decide) (by decide) (by decide) hH hS (lv_sub hl [0, 1, 2, 3] rfl)
  · skip
    have tc11 := f_eq (k := 0) (by decide) c11
    clear x_v80
    refine lv_bipush (v := (-2)) hx hb dX12_needers_14 (by decide) ?_
    exact te_i hx hb hr hlocks hH hS (⟨rfl, by decide, by decide⟩) dX12_needers_16
set_option maxHeartbeats 4000000 in
set_option maxRecDepth 100000 in
theorem s_M_highest (l : Launch) (D : va_G) (cs : CS) (kf : KF) (T : TF) (O : List Nat) (X : va_W) (a0 hg mq : Nat) (x1 : Int32) (t_a0 : T a0 = some (22, hg, mq)) (b_hg : hg < 90) (hO : okO T O [1, 8, 9, 22]) : TK l D cs kf yX12_highest cX12_highest 5 (some (.int)) { frames := 5, cells := 0, slots := 0, locals := 119 } [.ref a0, .int x1] T O X (Ti D cs (fun r u => u = (T, O, X))) := by
  refine tk_of (by decide) (Nat.le_of_ble_eq_true rfl) (fun p e s m below meth c ls A H locs hx hb hr hml hown hts hlocks hnm hkb hH hS hA hOX hks hE hl => ?_)
  have hown : s.vm.findClass RX12 = some m.cls := hown
  have hl : lv_has ls 5 [(0, .ref a0), (1, .int x1)] := hl
  refine lv_aload_n hx hb dX12_highest_0 rfl (lv_at hl 0 rfl) ?_
  refine lv_iconst (v := 0) hx hb dX12_highest_1 (by decide) ?_
  refine t_put (ci := 12) (lst := ft12 hg mq) (v := .int 0) (ty := tyX12 0) (C := RX12) (F := TX12) (N := 36) hx hb hts uX12 tyX12 tyX12_ok nmX12 hown hkb hH hS t_a0 (hO.no t_a0 (by decide)) (fun _ => Iff.rfl) rfl rfl 0 (by decide) rfl (⟨_, rfl⟩) kw_1223 (fun _ h9 => h9) rfl (tyX12_ok 0 (by decide)) rfl rfl dX12_highest_2 (fun H locs hH hS => ?_)
  refine lv_aload_n hx hb dX12_highest_5 rfl (lv_at hl 0 rfl) ?_
  refine lv_iload_n hx hb dX12_highest_6 rfl (lv_at hl 1 rfl) ?_
  refine lv_i2l hx hb dX12_highest_7 rfl ?_
  refine tk_i hH hS hA (tr_V (n := 1) (As := [.long x1.toInt64]) hx hb hml hown hts hkb hH hOX hks hE hS hA (s_M_isGuide l D cs kf T O X a0 hg mq x1.toInt64 t_a0 b_hg (hO.sub (by decide))) kw_1470 kw_1472 ks_67 kw_13 kw_1473 (by decide +kernel) ⟨Nat.le_of_ble_eq_true rfl, Nat.le_of_ble_eq_true rfl⟩ (HT.recv (ci := 12) hkb hH t_a0 (hO.no t_a0 (by decide)) rfl) rfl rfl hl.1 (Nat.le_of_ble_eq_true rfl) dX12_highest_8 ⟨Nat.le_of_ble_eq_true rfl, Nat.le_of_ble_eq_true rfl⟩) (fun v8 u H locs hz9 hH hS => ?_)
  obtain ⟨rfl, l_v8, u_v8, x_v80⟩ := hz9
  simp only [Int32.toInt_toInt64] at x_v80
  have hH : HT D cs A T O X H := hH
  refine W.widen (k := 0) (n := 0) (Nat.le_of_ble_eq_true rfl) (Nat.le_of_ble_eq_true rfl) ?_
  refine lv_if_ne (tgt := 17) hx hb dX12_highest_11 (by decide) (fun c11 => ?_) (fun c11 => ?_)
  · skip
    have tc11 := f_ne (k := 0) (by decide) c11
    replace x_v80 := x_v80.resolve_left tc11
    refine lv_aload_n hx hb dX12_highest_17 rfl (lv_at hl 0 rfl) ?_
    refine lv_iload_n hx hb dX12_highest_18 rfl (lv_at hl 1 rfl) ?_
    refine tk_v hH hS hA (tr_V (n := 1) (As := [.int x1]) hx hb hml hown hts hkb hH hOX hks hE hS hA (s_M_laysGuide l D cs kf T O X a0 hg mq x1 t_a0 b_hg (by omega) (by omega) (hO.sub (by decide))) kw_1502 kw_1504 ks_71 kw_13 kw_1505 (by decide +kernel) ⟨Nat.le_of_ble_eq_true rfl, Nat.le_of_ble_eq_true rfl⟩ (HT.recv (ci := 12) hkb hH t_a0 (hO.no t_a0 (by decide)) rfl) rfl rfl hl.1 (Nat.le_of_ble_eq_true rfl) dX12_highest_19 ⟨Nat.le_of_ble_eq_true rfl, Nat.le_of_ble_eq_true rfl⟩) (fun u H locs hz9 hH hS => ?_)
    have hz9 : u = (T, O, X) := hz9
    subst hz9
    have hH : HT D cs A T O X H := hH
    refine W.widen (k := 0) (n := 0) (Nat.le_of_ble_eq_true rfl) (Nat.le_of_ble_eq_true rfl) ?_
    refine lv_aload_n hx hb dX12_highest_22 rfl (lv_at hl 0 rfl) ?_
    refine lv_aload_n hx hb dX12_highest_23 rfl (lv_at hl 0 rfl) ?_
    refine tk_i hH hS hA (tr_V (n := 0) (As := []) hx hb hml hown hts hkb hH hOX hks hE hS hA (s_M_openSet l D cs kf T O X a0 hg mq t_a0 b_hg (hO.sub (by decide))) kw_1510 kw_1512 ks_73 kw_13 kw_1513 (by decide +kernel) ⟨Nat.le_of_ble_eq_true rfl, Nat.le_of_ble_eq_true rfl⟩ (HT.recv (ci := 12) hkb hH t_a0 (hO.no t_a0 (by decide)) rfl) rfl rfl hl.1 (Nat.le_of_ble_eq_true rfl) dX12_highest_24 ⟨Nat.le_of_ble_eq_true rfl, Nat.le_of_ble_eq_true rfl⟩) (fun v24 u H locs hz9 hH hS => ?_)
    obtain ⟨rfl, l_v24, u_v24⟩ := hz9
    have hH : HT D cs A T O X H := hH
    refine W.widen (k := 0) (n := 0) (Nat.le_of_ble_eq_true rfl) (Nat.le_of_ble_eq_true rfl) ?_
    refine tk_i hH hS hA (tr_V (n := 1) (As := [.int v24]) hx hb hml hown hts hkb hH hOX hks hE hS hA (s_M_comesTo l D cs kf T O X a0 hg mq v24 t_a0 b_hg (hO.sub (by decide))) kw_1514 kw_1516 ks_74 kw_13 kw_1517 (by decide +kernel) ⟨Nat.le_of_ble_eq_true rfl, Nat.le_of_ble_eq_true rfl⟩ (HT.recv (ci := 12) hkb hH t_a0 (hO.no t_a0 (by decide)) rfl) rfl rfl hl.1 (Nat.le_of_ble_eq_true rfl) dX12_highest_27 ⟨Nat.le_of_ble_eq_true rfl, Nat.le_of_ble_eq_true rfl⟩) (fun v27 u H locs hz9 hH hS => ?_)
    obtain ⟨rfl, l_v27, u_v27⟩ := hz9
    have hH : HT D cs A T O X H := hH
    refine W.widen (k := 0) (n := 0) (Nat.le_of_ble_eq_true rfl) (Nat.le_of_ble_eq_true rfl) ?_
    refine lv_istore_n (lv' := [(2, .int v27), (0, .ref a0), (1, .int x1)]) hx hb dX12_highest_30 rfl hl (by decide) rfl (fun ls hl => ?_)
    refine lv_iconst (v := (-1)) hx hb dX12_highest_31 (by decide) ?_
    refine lv_istore_n (lv' := [(3, .int (-1)), (2, .int v27), (0, .ref a0), (1, .int x1)]) hx hb dX12_highest_32 rfl hl (by decide) rfl (fun ls hl => ?_)
    refine lv_iconst (v := 0) hx hb dX12_highest_33 (by decide) ?_
    have J36 : ∀ (n : Nat) (p36_4 : Int32) (p36_3 : Int32) (H : Heap) (locs : List Loc) (ls : Array Slot), (14 - p36_4.toInt).toNat = n → (0 ≤ p36_4.toInt) → (p36_4.toInt ≤ 14) → HT D cs A T O X H → va_S A s.heap H locs → lv_has ls 5 [(4, .int p36_4), (3, .int p36_3), (2, .int v27), (0, .ref a0)] → W p l e { frames := 5, cells := 0, slots := 0, locals := 119 } s m [.ref a0, .int x1].toArray below meth c H locs 0 0 (MQ below (Ti D cs (fun r u => u = (T, O, X)) A) [.ref a0, .int x1].toArray s 0 0 A) (F0 m 36 ls []) := by
      intro n
      induction n using Nat.strongRecOn with
      | _ n ih36 =>
        intro p36_4 p36_3 H locs ls hm36 l_p36_4 u_p36_4 hH hS hl
        refine lv_iload hx hb dX12_highest_36 (lv_at hl 0 rfl) ?_
        refine lv_aload_n hx hb dX12_highest_38 rfl (lv_at hl 3 rfl) ?_
        refine t_get (ci := 12) (lst := ft12 hg mq) (C := RX12) (F := TX12) (N := 36) hx hb hts uX12 hown hkb hH t_a0 (hO.no t_a0 (by decide)) (fun _ h9 => h9) rfl rfl 1 (by decide) rfl kw_1224 (fun _ h9 => h9) dX12_highest_39 (fun v9 h9 => ?_)
        obtain ⟨v39, rfl, t_v39⟩ := h9
        refine lv_iconst (v := 1) hx hb dX12_highest_42 (by decide) ?_
        refine t_ild8 hx hb hkb hH t_v39 (hO.no t_v39 (by decide)) (by decide) (by decide) (by decide) dX12_highest_43 (fun v43 h9 h8 => ?_)
        have q9 := (h8 rfl).1 rfl
        subst q9
        have eH9 : (nI (hg / 6)).toInt = (((hg / 6) : Nat) : Int) := nI_toInt (by omega)
        refine lv_icmp_ge (tgt := 88) hx hb dX12_highest_44 (by decide) (fun c44 => ?_) (fun c44 => ?_)
        · skip
          have fuc44 := full_i p36_4
          have fvc44 := full_i (nI (hg / 6))
          have tc44 := g_le c44
          refine lv_iload_n hx hb dX12_highest_88 rfl (lv_at hl 1 rfl) ?_
          exact te_i hx hb hr hlocks hH hS (rfl) dX12_highest_89
        · skip
          have fuc44 := full_i p36_4
          have fvc44 := full_i (nI (hg / 6))
          have tc44 := g_nle c44
          refine lv_iload_n hx hb dX12_highest_47 rfl (lv_at hl 2 rfl) ?_
          refine lv_i2l hx hb dX12_highest_48 rfl ?_
          refine lv_iload hx hb dX12_highest_49 (lv_at hl 0 rfl) ?_
          refine tk_i hH hS hA (tr_S (n := 2) (As := [.long v27.toInt64, .int p36_4]) hx hb hml hown hts hkb hH hOX hks hE hS hA (s_M_isIn2 l D cs kf T O X v27.toInt64 p36_4  (hO.sub (by decide))) kw_1440 kw_1441 kw_13 kw_1442 (by decide +kernel) ⟨Nat.le_of_ble_eq_true rfl, Nat.le_of_ble_eq_true rfl⟩ rfl rfl hl.1 (Nat.le_of_ble_eq_true rfl) dX12_highest_51 ⟨Nat.le_of_ble_eq_true rfl, Nat.le_of_ble_eq_true rfl⟩) (fun v51 u H locs hz9 hH hS => ?_)
          obtain ⟨rfl, l_v51, u_v51, x_v510⟩ := hz9
          have hH : HT D cs A T O X H := hH
          refine W.widen (k := 0) (n := 0) (Nat.le_of_ble_eq_true rfl) (Nat.le_of_ble_eq_true rfl) ?_
          have J82 : ∀ (p82_3 : Int32) (H : Heap) (locs : List Loc) (ls : Array Slot), HT D cs A T O X H → va_S A s.heap H locs → lv_has ls 5 [(4, .int p36_4), (3, .int p82_3), (2, .int v27), (0, .ref a0)] → W p l e { frames := 5, cells := 0, slots := 0, locals := 119 } s m [.ref a0, .int x1].toArray below meth c H locs 0 0 (MQ below (Ti D cs (fun r u => u = (T, O, X)) A) [.ref a0, .int x1].toArray s 0 0 A) (F0 m 82 ls []) := by
            intro p82_3 H locs ls  hH hS hl
            obtain ⟨v82, ev82⟩ : ∃ y : Int32, y = p36_4 + 1 := ⟨_, rfl⟩
            have tv82 : v82.toInt = p36_4.toInt + (1) := by rw [ev82]; exact add_i rfl (by decide) (by omega) (by omega)
            refine lv_iinc (v := v82) (lv' := [(4, .int v82), (3, .int p82_3), (2, .int v27), (0, .ref a0)]) hx hb dX12_highest_82 hl (k := 0) rfl (by rw [ev82]; rfl) (by decide) rfl (fun ls hl => ?_)
            refine lv_goto (tgt := 36) hx hb dX12_highest_85 (by decide) ?_
            exact ih36 _ (by omega) v82 p82_3 _ _ _ rfl (by omega) (by omega) hH hS (lv_sub hl [0, 1, 2, 3] rfl)
          refine lv_if_eq (tgt := 82) hx hb dX12_highest_54 (by decide) (fun c54 => ?_) (fun c54 => ?_)
          · skip
            have tc54 := f_eq (k := 0) (by decide) c54
            exact J82 p36_3 _ _ _  hH hS (lv_sub hl [0, 1, 2, 3] rfl)
          · skip
            have tc54 := f_ne (k := 0) (by decide) c54
            refine lv_aload_n hx hb dX12_highest_57 rfl (lv_at hl 3 rfl) ?_
            refine t_get (ci := 12) (lst := ft12 hg mq) (C := RX12) (F := TX12) (N := 36) hx hb hts uX12 hown hkb hH t_a0 (hO.no t_a0 (by decide)) (fun _ h9 => h9) rfl rfl 1 (by decide) rfl kw_1224 (fun _ h9 => h9) dX12_highest_58 (fun v9 h9 => ?_)
            obtain ⟨v58, rfl, t_v58⟩ := h9
            refine lv_bipush (v := 21) hx hb dX12_highest_61 (by decide) ?_
            refine lv_iload hx hb dX12_highest_63 (lv_at hl 0 rfl) ?_
            refine lv_iadd hx hb dX12_highest_65 ?_
            refine lv_topi (fun v65 ev65 => ?_)
            have tv65 : v65.toInt = (21) + p36_4.toInt := by rw [ev65]; exact add_i (by decide : (21 : Int32).toInt = 21) rfl (by omega) (by omega)
            refine t_ild8 hx hb hkb hH t_v58 (hO.no t_v58 (by decide)) (by decide) (by omega) (by omega) dX12_highest_66 (fun v66 h9 h8 => ?_)
            refine lv_iload_n hx hb dX12_highest_67 rfl (lv_at hl 1 rfl) ?_
            refine lv_icmp_le (tgt := 82) hx hb dX12_highest_68 (by decide) (fun c68 => ?_) (fun c68 => ?_)
            · skip
              have fuc68 := full_i v66
              have fvc68 := full_i p36_3
              have tc68 := g_le c68
              exact J82 p36_3 _ _ _  hH hS (lv_sub hl [0, 1, 2, 3] rfl)
            · skip
              have fuc68 := full_i v66
              have fvc68 := full_i p36_3
              have tc68 := g_nle c68
              refine lv_aload_n hx hb dX12_highest_71 rfl (lv_at hl 3 rfl) ?_
              refine t_get (ci := 12) (lst := ft12 hg mq) (C := RX12) (F := TX12) (N := 36) hx hb hts uX12 hown hkb hH t_a0 (hO.no t_a0 (by decide)) (fun _ h9 => h9) rfl rfl 1 (by decide) rfl kw_1224 (fun _ h9 => h9) dX12_highest_72 (fun v9 h9 => ?_)
              obtain ⟨v72, rfl, t_v72⟩ := h9
              refine lv_bipush (v := 21) hx hb dX12_highest_75 (by decide) ?_
              refine lv_iload hx hb dX12_highest_77 (lv_at hl 0 rfl) ?_
              refine lv_iadd hx hb dX12_highest_79 ?_
              refine lv_topi (fun v79 ev79 => ?_)
              have tv79 : v79.toInt = (21) + p36_4.toInt := by rw [ev79]; exact add_i (by decide : (21 : Int32).toInt = 21) rfl (by omega) (by omega)
              refine t_ild8 hx hb hkb hH t_v72 (hO.no t_v72 (by decide)) (by decide) (by omega) (by omega) dX12_highest_80 (fun v80 h9 h8 => ?_)
              refine lv_istore_n (lv' := [(3, .int v80), (4, .int p36_4), (2, .int v27), (0, .ref a0)]) hx hb dX12_highest_81 rfl hl (by decide) rfl (fun ls hl => ?_)
              exact J82 v80 _ _ _  hH hS (lv_sub hl [1, 0, 2, 3] rfl)
    refine lv_istore (lv' := [(4, .int 0), (3, .int (-1)), (2, .int v27), (0, .ref a0), (1, .int x1)]) hx hb dX12_highest_34 hl (by decide) rfl (fun ls hl => ?_)
    exact J36 _ 0 (-1) _ _ _ rfl (by decide) (by decide) hH hS (lv_sub hl [0, 1, 2, 3] rfl)
  · skip
    have tc11 := f_eq (k := 0) (by decide) c11
    clear x_v80
    refine lv_bipush (v := (-2)) hx hb dX12_highest_14 (by decide) ?_
    exact te_i hx hb hr hlocks hH hS (rfl) dX12_highest_16
