set_option maxHeartbeats 4000000 in
set_option maxRecDepth 100000 in
theorem s_Ways_leadingTo (l : Launch) (D : va_G) (cs : CS) (kf : KF) (T : TF) (O : List Nat) (X : va_W) (a0 : Nat) (x1 : Int32) (x2 : Int32) (t_a0 : T a0 = some (15, 0, 0)) (hO : okO T O [1, 12, 15, 19]) : TK l D cs kf yX10_leadingTo cX10_leadingTo 5 (some (.int)) { frames := 4, cells := 0, slots := 0, locals := 101 } [.ref a0, .int x1, .int x2] T O X (Ti D cs (fun r u => u = (T, O, X) ∧ 0 ≤ r.toInt ∧ r.toInt ≤ 16383)) := by
  refine tk_of (by decide) (Nat.le_of_ble_eq_true rfl) (fun p e s m below meth c ls A H locs hx hb hr hml hown hts hlocks hnm hkb hH hS hA hOX hks hE hl => ?_)
  have hown : s.vm.findClass RX10 = some m.cls := hown
  have hl : lv_has ls 5 [(0, .ref a0), (1, .int x1), (2, .int x2)] := hl
  refine lv_iconst (v := 0) hx hb dX10_leadingTo_0 (by decide) ?_
  refine lv_istore_n (lv' := [(3, .int 0), (0, .ref a0), (1, .int x1), (2, .int x2)]) hx hb dX10_leadingTo_1 rfl hl (by decide) rfl (fun ls hl => ?_)
  refine lv_iconst (v := 0) hx hb dX10_leadingTo_2 (by decide) ?_
  have J5 : ∀ (n : Nat) (p5_4 : Int32) (p5_3 : Int32) (H : Heap) (locs : List Loc) (ls : Array Slot), (14 - p5_4.toInt).toNat = n → (0 ≤ p5_4.toInt) → (p5_4.toInt ≤ 14) → (0 ≤ p5_3.toInt) → (p5_3.toInt ≤ 16383) → HT D cs A T O X H → va_S A s.heap H locs → lv_has ls 5 [(4, .int p5_4), (3, .int p5_3), (0, .ref a0), (1, .int x1), (2, .int x2)] → W p l e { frames := 4, cells := 0, slots := 0, locals := 101 } s m [.ref a0, .int x1, .int x2].toArray below meth c H locs 0 0 (MQ below (Ti D cs (fun r u => u = (T, O, X) ∧ 0 ≤ r.toInt ∧ r.toInt ≤ 16383) A) [.ref a0, .int x1, .int x2].toArray s 0 0 A) (F0 m 5 ls []) := by
    intro n
    induction n using Nat.strongRecOn with
    | _ n ih5 =>
      intro p5_4 p5_3 H locs ls hm5 l_p5_4 u_p5_4 l_p5_3 u_p5_3 hH hS hl
      refine lv_iload hx hb dX10_leadingTo_5 (lv_at hl 0 rfl) ?_
      refine lv_bipush (v := 14) hx hb dX10_leadingTo_7 (by decide) ?_
      refine lv_icmp_ge (tgt := 46) hx hb dX10_leadingTo_9 (by decide) (fun c9 => ?_) (fun c9 => ?_)
      · skip
        have tc9 := f_ge (k := 14) (by decide) c9
        refine lv_iload_n hx hb dX10_leadingTo_46 rfl (lv_at hl 1 rfl) ?_
        exact te_i hx hb hr hlocks hH hS (⟨rfl, by omega, by omega⟩) dX10_leadingTo_47
      · skip
        have tc9 := f_nge (k := 14) (by decide) c9
        refine lv_iload_n hx hb dX10_leadingTo_12 rfl (lv_at hl 3 rfl) ?_
        refine lv_iload hx hb dX10_leadingTo_13 (lv_at hl 0 rfl) ?_
        refine lv_ishr hx hb dX10_leadingTo_15 ?_
        refine lv_topi (fun v15 ev15 => ?_)
        refine lv_iconst (v := 1) hx hb dX10_leadingTo_16 (by decide) ?_
        refine lv_iand hx hb dX10_leadingTo_17 ?_
        refine lv_topi (fun v17 ev17 => ?_)
        have tv17 : 0 ≤ v17.toInt ∧ v17.toInt ≤ 1 := by rw [ev17]; exact and_r (by decide)
        have J40 : ∀ (p40_3 : Int32) (H : Heap) (locs : List Loc) (ls : Array Slot), (0 ≤ p40_3.toInt) → (p40_3.toInt ≤ 16383) → HT D cs A T O X H → va_S A s.heap H locs → lv_has ls 5 [(4, .int p5_4), (3, .int p40_3), (0, .ref a0), (1, .int x1), (2, .int x2)] → W p l e { frames := 4, cells := 0, slots := 0, locals := 101 } s m [.ref a0, .int x1, .int x2].toArray below meth c H locs 0 0 (MQ below (Ti D cs (fun r u => u = (T, O, X) ∧ 0 ≤ r.toInt ∧ r.toInt ≤ 16383) A) [.ref a0, .int x1, .int x2].toArray s 0 0 A) (F0 m 40 ls []) := by
          intro p40_3 H locs ls l_p40_3 u_p40_3 hH hS hl
          obtain ⟨v40, ev40⟩ : ∃ y : Int32, y = p5_4 + 1 := ⟨_, rfl⟩
          have tv40 : v40.toInt = p5_4.toInt + (1) := by rw [ev40]; exact add_i rfl (by decide) (by omega) (by omega)
          refine lv_iinc (v := v40) (lv' := [(4, .int v40), (3, .int p40_3), (0, .ref a0), (1, .int x1), (2, .int x2)]) hx hb dX10_leadingTo_40 hl (k := 0) rfl (by rw [ev40]; rfl) (by decide) rfl (fun ls hl => ?_)
          refine lv_goto (tgt := 5) hx hb dX10_leadingTo_43 (by decide) ?_
          exact ih5 _ (by omega) v40 p40_3 _ _ _ rfl (by omega) (by omega) (by omega) (by omega) hH hS (lv_sub hl [0, 1, 2, 3, 4] rfl)
        refine lv_if_eq (tgt := 40) hx hb dX10_leadingTo_18 (by decide) (fun c18 => ?_) (fun c18 => ?_)
        · skip
          have tc18 := f_eq (k := 0) (by decide) c18
          exact J40 p5_3 _ _ _ (by omega) (by omega) hH hS (lv_sub hl [0, 1, 2, 3, 4] rfl)
        · skip
          have tc18 := f_ne (k := 0) (by decide) c18
          refine lv_aload_n hx hb dX10_leadingTo_21 rfl (lv_at hl 2 rfl) ?_
          refine lv_iload hx hb dX10_leadingTo_22 (lv_at hl 0 rfl) ?_
          refine lv_iconst (v := 1) hx hb dX10_leadingTo_24 (by decide) ?_
          refine lv_iload_n hx hb dX10_leadingTo_25 rfl (lv_at hl 4 rfl) ?_
          refine lv_ishl hx hb dX10_leadingTo_26 ?_
          refine lv_topi (fun v26 ev26 => ?_)
          refine tk_i hH hS hA (tr_V (n := 2) (As := [.int p5_4, .int v26]) hx hb hml hown hts hkb hH hOX hks hE hS hA (s_Rows_stepped l D cs kf T O X a0 p5_4 v26 t_a0 (hO.sub (by decide))) kw_920 kw_863 kw_864 kw_8 kw_865 (by decide +kernel) ⟨Nat.le_of_ble_eq_true rfl, Nat.le_of_ble_eq_true rfl⟩ (HT.recv (ci := 5) hkb hH t_a0 (hO.no t_a0 (by decide)) rfl) rfl rfl hl.1 (Nat.le_of_ble_eq_true rfl) dX10_leadingTo_27 ⟨Nat.le_of_ble_eq_true rfl, Nat.le_of_ble_eq_true rfl⟩) (fun v27 u H locs hz9 hH hS => ?_)
          obtain ⟨rfl, l_v27, u_v27⟩ := hz9
          have hH : HT D cs A T O X H := hH
          refine W.widen (k := 0) (n := 0) (Nat.le_of_ble_eq_true rfl) (Nat.le_of_ble_eq_true rfl) ?_
          refine lv_if_eq (tgt := 40) hx hb dX10_leadingTo_30 (by decide) (fun c30 => ?_) (fun c30 => ?_)
          · skip
            have tc30 := f_eq (k := 0) (by decide) c30
            exact J40 p5_3 _ _ _ (by omega) (by omega) hH hS (lv_sub hl [0, 1, 2, 3, 4] rfl)
          · skip
            have tc30 := f_ne (k := 0) (by decide) c30
            refine lv_iload_n hx hb dX10_leadingTo_33 rfl (lv_at hl 1 rfl) ?_
            refine lv_iconst (v := 1) hx hb dX10_leadingTo_34 (by decide) ?_
            refine lv_iload hx hb dX10_leadingTo_35 (lv_at hl 0 rfl) ?_
            refine lv_ishl hx hb dX10_leadingTo_37 ?_
            refine lv_topi (fun v37 ev37 => ?_)
            have tv37 : 1 ≤ v37.toInt ∧ v37.toInt ≤ 8192 := by rw [ev37]; exact shl_b 13 (by decide) (by omega) (by omega)
            refine lv_ior hx hb dX10_leadingTo_38 ?_
            refine lv_topi (fun v38 ev38 => ?_)
            have tv38 : 0 ≤ v38.toInt ∧ v38.toInt < 16384 := by rw [ev38]; exact or_b 14 (by decide) (by omega) (by omega) (by omega) (by omega)
            refine lv_istore_n (lv' := [(3, .int v38), (4, .int p5_4), (0, .ref a0), (1, .int x1), (2, .int x2)]) hx hb dX10_leadingTo_39 rfl hl (by decide) rfl (fun ls hl => ?_)
            exact J40 v38 _ _ _ (by omega) (by omega) hH hS (lv_sub hl [1, 0, 2, 3, 4] rfl)
  refine lv_istore (lv' := [(4, .int 0), (3, .int 0), (0, .ref a0), (1, .int x1), (2, .int x2)]) hx hb dX10_leadingTo_3 hl (by decide) rfl (fun ls hl => ?_)
  exact J5 _ 0 0 _ _ _ rfl (by decide) (by decide) (by decide) (by decide) hH hS (lv_sub hl [0, 1, 2, 3, 4] rfl)
set_option maxHeartbeats 4000000 in
set_option maxRecDepth 100000 in
theorem s_Ways_endingFrom (l : Launch) (D : va_G) (cs : CS) (kf : KF) (T : TF) (O : List Nat) (X : va_W) (a0 : Nat) (x1 : Int32) (t_a0 : T a0 = some (20, 0, 0)) (hO : okO T O [1, 20]) : TK l D cs kf yX10_endingFrom cX10_endingFrom 4 (some (.int)) { frames := 1, cells := 0, slots := 0, locals := 20 } [.ref a0, .int x1] T O X (Ti D cs (fun r u => u = (T, O, X))) := by
  refine tk_of (by decide) (Nat.le_of_ble_eq_true rfl) (fun p e s m below meth c ls A H locs hx hb hr hml hown hts hlocks hnm hkb hH hS hA hOX hks hE hl => ?_)
  have hown : s.vm.findClass RX10 = some m.cls := hown
  have hl : lv_has ls 4 [(0, .ref a0), (1, .int x1)] := hl
  refine lv_iconst (v := 0) hx hb dX10_endingFrom_0 (by decide) ?_
  refine lv_istore_n (lv' := [(2, .int 0), (0, .ref a0), (1, .int x1)]) hx hb dX10_endingFrom_1 rfl hl (by decide) rfl (fun ls hl => ?_)
  refine lv_iconst (v := 0) hx hb dX10_endingFrom_2 (by decide) ?_
  have J4 : ∀ (n : Nat) (p4_3 : Int32) (p4_2 : Int32) (H : Heap) (locs : List Loc) (ls : Array Slot), (14 - p4_3.toInt).toNat = n → (0 ≤ p4_3.toInt) → (p4_3.toInt ≤ 14) → HT D cs A T O X H → va_S A s.heap H locs → lv_has ls 4 [(3, .int p4_3), (2, .int p4_2), (0, .ref a0), (1, .int x1)] → W p l e { frames := 1, cells := 0, slots := 0, locals := 20 } s m [.ref a0, .int x1].toArray below meth c H locs 0 0 (MQ below (Ti D cs (fun r u => u = (T, O, X)) A) [.ref a0, .int x1].toArray s 0 0 A) (F0 m 4 ls []) := by
    intro n
    induction n using Nat.strongRecOn with
    | _ n ih4 =>
      intro p4_3 p4_2 H locs ls hm4 l_p4_3 u_p4_3 hH hS hl
      refine lv_iload_n hx hb dX10_endingFrom_4 rfl (lv_at hl 0 rfl) ?_
      refine lv_aload_n hx hb dX10_endingFrom_5 rfl (lv_at hl 2 rfl) ?_
      refine t_get (ci := 10) (lst := ft10 0 0) (C := RX10) (F := TX10) (N := 7) hx hb hts uX10 hown hkb hH t_a0 (hO.no t_a0 (by decide)) (fun _ h9 => h9) rfl rfl 6 (by decide) rfl kw_279 (fun _ h9 => h9) dX10_endingFrom_6 (fun v9 h9 => ?_)
      obtain ⟨v6, rfl, l_v6, u_v6⟩ := h9
      refine lv_icmp_ge (tgt := 32) hx hb dX10_endingFrom_9 (by decide) (fun c9 => ?_) (fun c9 => ?_)
      · skip
        have fuc9 := full_i p4_3
        have fvc9 := full_i v6
        have tc9 := g_le c9
        refine lv_iload_n hx hb dX10_endingFrom_32 rfl (lv_at hl 1 rfl) ?_
        exact te_i hx hb hr hlocks hH hS (rfl) dX10_endingFrom_33
      · skip
        have fuc9 := full_i p4_3
        have fvc9 := full_i v6
        have tc9 := g_nle c9
        refine lv_iload_n hx hb dX10_endingFrom_12 rfl (lv_at hl 1 rfl) ?_
        refine lv_iload_n hx hb dX10_endingFrom_13 rfl (lv_at hl 3 rfl) ?_
        refine lv_aload_n hx hb dX10_endingFrom_14 rfl (lv_at hl 2 rfl) ?_
        refine t_get (ci := 10) (lst := ft10 0 0) (C := RX10) (F := TX10) (N := 7) hx hb hts uX10 hown hkb hH t_a0 (hO.no t_a0 (by decide)) (fun _ h9 => h9) rfl rfl 5 (by decide) rfl kw_278 (fun _ h9 => h9) dX10_endingFrom_15 (fun v9 h9 => ?_)
        obtain ⟨v15, rfl, t_v15⟩ := h9
        refine lv_iload_n hx hb dX10_endingFrom_18 rfl (lv_at hl 0 rfl) ?_
        refine t_ild hx hb hkb hH t_v15 (hO.no t_v15 (by decide)) (by omega) (by omega) dX10_endingFrom_19 (fun v19 h9 => ?_)
        refine lv_iand hx hb dX10_endingFrom_20 ?_
        refine lv_topi (fun v20 ev20 => ?_)
        refine tk_i hH hS hA (tr_S (n := 1) (As := [.int v20]) hx hb hml hown hts hkb hH hOX hks hE hS hA (s_bitCount l D cs kf T O X v20  (hO.sub (by decide))) kw_1001 kw_692 kw_20 kw_693 (by decide +kernel) ⟨Nat.le_of_ble_eq_true rfl, Nat.le_of_ble_eq_true rfl⟩ rfl rfl hl.1 (Nat.le_of_ble_eq_true rfl) dX10_endingFrom_21 ⟨Nat.le_of_ble_eq_true rfl, Nat.le_of_ble_eq_true rfl⟩) (fun v21 u H locs hz9 hH hS => ?_)
        obtain ⟨rfl, l_v21, u_v21⟩ := hz9
        have hH : HT D cs A T O X H := hH
        refine W.widen (k := 0) (n := 0) (Nat.le_of_ble_eq_true rfl) (Nat.le_of_ble_eq_true rfl) ?_
        refine lv_iadd hx hb dX10_endingFrom_24 ?_
        refine lv_topi (fun v24 ev24 => ?_)
        refine lv_istore_n (lv' := [(2, .int v24), (3, .int p4_3), (0, .ref a0), (1, .int x1)]) hx hb dX10_endingFrom_25 rfl hl (by decide) rfl (fun ls hl => ?_)
        obtain ⟨v26, ev26⟩ : ∃ y : Int32, y = p4_3 + 1 := ⟨_, rfl⟩
        have tv26 : v26.toInt = p4_3.toInt + (1) := by rw [ev26]; exact add_i rfl (by decide) (by omega) (by omega)
        refine lv_iinc (v := v26) (lv' := [(3, .int v26), (2, .int v24), (0, .ref a0), (1, .int x1)]) hx hb dX10_endingFrom_26 hl (k := 1) rfl (by rw [ev26]; rfl) (by decide) rfl (fun ls hl => ?_)
        refine lv_goto (tgt := 4) hx hb dX10_endingFrom_29 (by decide) ?_
        exact ih4 _ (by omega) v26 v24 _ _ _ rfl (by omega) (by omega) hH hS (lv_sub hl [0, 1, 2, 3] rfl)
  refine lv_istore_n (lv' := [(3, .int 0), (2, .int 0), (0, .ref a0), (1, .int x1)]) hx hb dX10_endingFrom_3 rfl hl (by decide) rfl (fun ls hl => ?_)
  exact J4 _ 0 0 _ _ _ rfl (by decide) (by decide) hH hS (lv_sub hl [0, 1, 2, 3] rfl)
set_option maxHeartbeats 4000000 in
set_option maxRecDepth 100000 in
theorem s_Ways_climbsOn0 (l : Launch) (D : va_G) (cs : CS) (kf : KF) (T : TF) (O : List Nat) (X : va_W) (a0 : Nat) (a1 : Nat) (x2 : Int32) (x3 : Int32) (x4 : Int32) (t_a0 : T a0 = some (20, 0, 0)) (t_a1 : T a1 = some (15, 0, 0)) (u_x4 : x4.toInt ≤ 0) (hO : okO T O []) : TK l D cs kf yX10_climbsOn cX10_climbsOn 9 (some (.long)) { frames := 0, cells := 0, slots := 0, locals := 0 } [.ref a0, .ref a1, .int x2, .int x3, .int x4] T O X (Tl D cs (fun _ u => u = (T, O, X))) := by
  refine tk_of (by decide) (Nat.le_of_ble_eq_true rfl) (fun p e s m below meth c ls A H locs hx hb hr hml hown hts hlocks hnm hkb hH hS hA hOX hks hE hl => ?_)
  have hown : s.vm.findClass RX10 = some m.cls := hown
  have hl : lv_has ls 9 [(0, .ref a0), (1, .ref a1), (2, .int x2), (3, .int x3), (4, .int x4)] := hl
  refine lv_iload hx hb dX10_climbsOn_0 (lv_at hl 4 rfl) ?_
  refine lv_if_gt (tgt := 7) hx hb dX10_climbsOn_2 (by decide) (fun c2 => ?_) (fun c2 => ?_)
  · skip
    have tc2 := f_gt (k := 0) (by decide) c2
    exfalso; omega
  · skip
    have tc2 := f_ngt (k := 0) (by decide) c2
    refine lv_lconst (v := 0) hx hb dX10_climbsOn_5 (by decide) ?_
    exact te_l hx hb hr hlocks hH hS rfl dX10_climbsOn_6
set_option maxHeartbeats 4000000 in
set_option maxRecDepth 100000 in
theorem s_Ways_climbsOn1 (l : Launch) (D : va_G) (cs : CS) (kf : KF) (T : TF) (O : List Nat) (X : va_W) (a0 : Nat) (a1 : Nat) (x2 : Int32) (x3 : Int32) (x4 : Int32) (t_a0 : T a0 = some (20, 0, 0)) (t_a1 : T a1 = some (15, 0, 0)) (u_x4 : x4.toInt ≤ 1) (hO : okO T O [1, 12, 15, 19, 20]) : TK l D cs kf yX10_climbsOn cX10_climbsOn 9 (some (.long)) { frames := 4, cells := 0, slots := 0, locals := 101 } [.ref a0, .ref a1, .int x2, .int x3, .int x4] T O X (Tl D cs (fun _ u => u = (T, O, X))) := by
  refine tk_of (by decide) (Nat.le_of_ble_eq_true rfl) (fun p e s m below meth c ls A H locs hx hb hr hml hown hts hlocks hnm hkb hH hS hA hOX hks hE hl => ?_)
  have hown : s.vm.findClass RX10 = some m.cls := hown
  have hl : lv_has ls 9 [(0, .ref a0), (1, .ref a1), (2, .int x2), (3, .int x3), (4, .int x4)] := hl
  refine lv_iload hx hb dX10_climbsOn_0 (lv_at hl 4 rfl) ?_
  refine lv_if_gt (tgt := 7) hx hb dX10_climbsOn_2 (by decide) (fun c2 => ?_) (fun c2 => ?_)
  · skip
    have tc2 := f_gt (k := 0) (by decide) c2
    refine lv_aload_n hx hb dX10_climbsOn_7 rfl (lv_at hl 0 rfl) ?_
    refine lv_iconst (v := 1) hx hb dX10_climbsOn_8 (by decide) ?_
    refine lv_iload_n hx hb dX10_climbsOn_9 rfl (lv_at hl 2 rfl) ?_
    refine lv_ishl hx hb dX10_climbsOn_10 ?_
    refine lv_topi (fun v10 ev10 => ?_)
    refine tk_i hH hS hA (tr_V (n := 1) (As := [.int v10]) hx hb hml hown hts hkb hH hOX hks hE hS hA (s_Ways_endingFrom l D cs kf T O X a0 v10 t_a0 (hO.sub (by decide))) kw_1006 kw_1008 ks_31 kw_9 kw_1009 (by decide +kernel) ⟨Nat.le_of_ble_eq_true rfl, Nat.le_of_ble_eq_true rfl⟩ (HT.recv (ci := 10) hkb hH t_a0 (hO.no t_a0 (by decide)) rfl) rfl rfl hl.1 (Nat.le_of_ble_eq_true rfl) dX10_climbsOn_11 ⟨Nat.le_of_ble_eq_true rfl, Nat.le_of_ble_eq_true rfl⟩) (fun v11 u H locs hz9 hH hS => ?_)
    have hz9 : u = (T, O, X) := hz9
    subst hz9
    have hH : HT D cs A T O X H := hH
    refine W.widen (k := 0) (n := 0) (Nat.le_of_ble_eq_true rfl) (Nat.le_of_ble_eq_true rfl) ?_
    refine lv_i2l hx hb dX10_climbsOn_14 rfl ?_
    refine lv_lstore (lv' := [(5, .long v11.toInt64), (0, .ref a0), (1, .ref a1), (2, .int x2), (3, .int x3), (4, .int x4)]) hx hb dX10_climbsOn_15 hl (by decide) rfl (fun ls hl => ?_)
    refine lv_aload_n hx hb dX10_climbsOn_17 rfl (lv_at hl 2 rfl) ?_
    refine lv_iload_n hx hb dX10_climbsOn_18 rfl (lv_at hl 3 rfl) ?_
    refine lv_iload_n hx hb dX10_climbsOn_19 rfl (lv_at hl 4 rfl) ?_
    refine tk_i hH hS hA (tr_V (n := 2) (As := [.int x2, .int x3]) hx hb hml hown hts hkb hH hOX hks hE hS hA (s_Rows_stepped l D cs kf T O X a1 x2 x3 t_a1 (hO.sub (by decide))) kw_920 kw_863 kw_864 kw_8 kw_865 (by decide +kernel) ⟨Nat.le_of_ble_eq_true rfl, Nat.le_of_ble_eq_true rfl⟩ (HT.recv (ci := 5) hkb hH t_a1 (hO.no t_a1 (by decide)) rfl) rfl rfl hl.1 (Nat.le_of_ble_eq_true rfl) dX10_climbsOn_20 ⟨Nat.le_of_ble_eq_true rfl, Nat.le_of_ble_eq_true rfl⟩) (fun v20 u H locs hz9 hH hS => ?_)
    obtain ⟨rfl, l_v20, u_v20⟩ := hz9
    have hH : HT D cs A T O X H := hH
    refine W.widen (k := 0) (n := 0) (Nat.le_of_ble_eq_true rfl) (Nat.le_of_ble_eq_true rfl) ?_
    refine lv_istore (lv' := [(7, .int v20), (5, .long v11.toInt64), (0, .ref a0), (1, .ref a1), (2, .int x2), (3, .int x3), (4, .int x4)]) hx hb dX10_climbsOn_23 hl (by decide) rfl (fun ls hl => ?_)
    refine lv_iload hx hb dX10_climbsOn_25 (lv_at hl 6 rfl) ?_
    refine lv_iconst (v := 2) hx hb dX10_climbsOn_27 (by decide) ?_
    refine lv_icmp_gt (tgt := 53) hx hb dX10_climbsOn_28 (by decide) (fun c28 => ?_) (fun c28 => ?_)
    · skip
      have tc28 := f_gt (k := 2) (by decide) c28
      exfalso; omega
    · skip
      have tc28 := f_ngt (k := 2) (by decide) c28
      refine lv_iload hx hb dX10_climbsOn_31 (lv_at hl 6 rfl) ?_
      refine lv_iconst (v := 1) hx hb dX10_climbsOn_33 (by decide) ?_
      refine lv_icmp_ne (tgt := 42) hx hb dX10_climbsOn_34 (by decide) (fun c34 => ?_) (fun c34 => ?_)
      · skip
        have tc34 := f_ne (k := 1) (by decide) c34
        exfalso; omega
      · skip
        have tc34 := f_eq (k := 1) (by decide) c34
        refine lv_lload hx hb dX10_climbsOn_37 (lv_at hl 1 rfl) ?_
        refine lv_goto (tgt := 52) hx hb dX10_climbsOn_39 (by decide) ?_
        exact te_l hx hb hr hlocks hH hS rfl dX10_climbsOn_52
  · skip
    have tc2 := f_ngt (k := 0) (by decide) c2
    refine lv_lconst (v := 0) hx hb dX10_climbsOn_5 (by decide) ?_
    exact te_l hx hb hr hlocks hH hS rfl dX10_climbsOn_6
set_option maxHeartbeats 4000000 in
set_option maxRecDepth 100000 in
theorem s_Ways_climbsOn2 (l : Launch) (D : va_G) (cs : CS) (kf : KF) (T : TF) (O : List Nat) (X : va_W) (a0 : Nat) (a1 : Nat) (x2 : Int32) (x3 : Int32) (x4 : Int32) (t_a0 : T a0 = some (20, 0, 0)) (t_a1 : T a1 = some (15, 0, 0)) (u_x4 : x4.toInt ≤ 2) (hO : okO T O [1, 12, 15, 19, 20]) : TK l D cs kf yX10_climbsOn cX10_climbsOn 9 (some (.long)) { frames := 4, cells := 0, slots := 0, locals := 101 } [.ref a0, .ref a1, .int x2, .int x3, .int x4] T O X (Tl D cs (fun _ u => u = (T, O, X))) := by
  refine tk_of (by decide) (Nat.le_of_ble_eq_true rfl) (fun p e s m below meth c ls A H locs hx hb hr hml hown hts hlocks hnm hkb hH hS hA hOX hks hE hl => ?_)
  have hown : s.vm.findClass RX10 = some m.cls := hown
  have hl : lv_has ls 9 [(0, .ref a0), (1, .ref a1), (2, .int x2), (3, .int x3), (4, .int x4)] := hl
  refine lv_iload hx hb dX10_climbsOn_0 (lv_at hl 4 rfl) ?_
  refine lv_if_gt (tgt := 7) hx hb dX10_climbsOn_2 (by decide) (fun c2 => ?_) (fun c2 => ?_)
  · skip
    have tc2 := f_gt (k := 0) (by decide) c2
    refine lv_aload_n hx hb dX10_climbsOn_7 rfl (lv_at hl 0 rfl) ?_
    refine lv_iconst (v := 1) hx hb dX10_climbsOn_8 (by decide) ?_
    refine lv_iload_n hx hb dX10_climbsOn_9 rfl (lv_at hl 2 rfl) ?_
    refine lv_ishl hx hb dX10_climbsOn_10 ?_
    refine lv_topi (fun v10 ev10 => ?_)
    refine tk_i hH hS hA (tr_V (n := 1) (As := [.int v10]) hx hb hml hown hts hkb hH hOX hks hE hS hA (s_Ways_endingFrom l D cs kf T O X a0 v10 t_a0 (hO.sub (by decide))) kw_1006 kw_1008 ks_31 kw_9 kw_1009 (by decide +kernel) ⟨Nat.le_of_ble_eq_true rfl, Nat.le_of_ble_eq_true rfl⟩ (HT.recv (ci := 10) hkb hH t_a0 (hO.no t_a0 (by decide)) rfl) rfl rfl hl.1 (Nat.le_of_ble_eq_true rfl) dX10_climbsOn_11 ⟨Nat.le_of_ble_eq_true rfl, Nat.le_of_ble_eq_true rfl⟩) (fun v11 u H locs hz9 hH hS => ?_)
    have hz9 : u = (T, O, X) := hz9
    subst hz9
    have hH : HT D cs A T O X H := hH
    refine W.widen (k := 0) (n := 0) (Nat.le_of_ble_eq_true rfl) (Nat.le_of_ble_eq_true rfl) ?_
    refine lv_i2l hx hb dX10_climbsOn_14 rfl ?_
    refine lv_lstore (lv' := [(5, .long v11.toInt64), (0, .ref a0), (1, .ref a1), (2, .int x2), (3, .int x3), (4, .int x4)]) hx hb dX10_climbsOn_15 hl (by decide) rfl (fun ls hl => ?_)
    refine lv_aload_n hx hb dX10_climbsOn_17 rfl (lv_at hl 2 rfl) ?_
    refine lv_iload_n hx hb dX10_climbsOn_18 rfl (lv_at hl 3 rfl) ?_
    refine lv_iload_n hx hb dX10_climbsOn_19 rfl (lv_at hl 4 rfl) ?_
    refine tk_i hH hS hA (tr_V (n := 2) (As := [.int x2, .int x3]) hx hb hml hown hts hkb hH hOX hks hE hS hA (s_Rows_stepped l D cs kf T O X a1 x2 x3 t_a1 (hO.sub (by decide))) kw_920 kw_863 kw_864 kw_8 kw_865 (by decide +kernel) ⟨Nat.le_of_ble_eq_true rfl, Nat.le_of_ble_eq_true rfl⟩ (HT.recv (ci := 5) hkb hH t_a1 (hO.no t_a1 (by decide)) rfl) rfl rfl hl.1 (Nat.le_of_ble_eq_true rfl) dX10_climbsOn_20 ⟨Nat.le_of_ble_eq_true rfl, Nat.le_of_ble_eq_true rfl⟩) (fun v20 u H locs hz9 hH hS => ?_)
    obtain ⟨rfl, l_v20, u_v20⟩ := hz9
    have hH : HT D cs A T O X H := hH
    refine W.widen (k := 0) (n := 0) (Nat.le_of_ble_eq_true rfl) (Nat.le_of_ble_eq_true rfl) ?_
    refine lv_istore (lv' := [(7, .int v20), (5, .long v11.toInt64), (0, .ref a0), (1, .ref a1), (2, .int x2), (3, .int x3), (4, .int x4)]) hx hb dX10_climbsOn_23 hl (by decide) rfl (fun ls hl => ?_)
    refine lv_iload hx hb dX10_climbsOn_25 (lv_at hl 6 rfl) ?_
    refine lv_iconst (v := 2) hx hb dX10_climbsOn_27 (by decide) ?_
    refine lv_icmp_gt (tgt := 53) hx hb dX10_climbsOn_28 (by decide) (fun c28 => ?_) (fun c28 => ?_)
    · skip
      have tc28 := f_gt (k := 2) (by decide) c28
      exfalso; omega
    · skip
      have tc28 := f_ngt (k := 2) (by decide) c28
      refine lv_iload hx hb dX10_climbsOn_31 (lv_at hl 6 rfl) ?_
      refine lv_iconst (v := 1) hx hb dX10_climbsOn_33 (by decide) ?_
      have J52 : ∀ (k52_0 : Int64) (H : Heap) (locs : List Loc) (ls : Array Slot), HT D cs A T O X H → va_S A s.heap H locs → lv_has ls 9 [] → W p l e { frames := 4, cells := 0, slots := 0, locals := 101 } s m [.ref a0, .ref a1, .int x2, .int x3, .int x4].toArray below meth c H locs 0 0 (MQ below (Tl D cs (fun _ u => u = (T, O, X)) A) [.ref a0, .ref a1, .int x2, .int x3, .int x4].toArray s 0 0 A) (F0 m 52 ls [.long k52_0]) := by
        intro k52_0 H locs ls  hH hS hl
        exact te_l hx hb hr hlocks hH hS rfl dX10_climbsOn_52
      refine lv_icmp_ne (tgt := 42) hx hb dX10_climbsOn_34 (by decide) (fun c34 => ?_) (fun c34 => ?_)
      · skip
        have tc34 := f_ne (k := 1) (by decide) c34
        refine lv_lload hx hb dX10_climbsOn_42 (lv_at hl 1 rfl) ?_
        refine lv_aload_n hx hb dX10_climbsOn_44 rfl (lv_at hl 2 rfl) ?_
        refine lv_iload hx hb dX10_climbsOn_45 (lv_at hl 0 rfl) ?_
        refine tk_i hH hS hA (tr_V (n := 1) (As := [.int v20]) hx hb hml hown hts hkb hH hOX hks hE hS hA (s_Ways_endingFrom l D cs kf T O X a0 v20 t_a0 (hO.sub (by decide))) kw_1006 kw_1008 ks_31 kw_9 kw_1009 (by decide +kernel) ⟨Nat.le_of_ble_eq_true rfl, Nat.le_of_ble_eq_true rfl⟩ (HT.recv (ci := 10) hkb hH t_a0 (hO.no t_a0 (by decide)) rfl) rfl rfl hl.1 (Nat.le_of_ble_eq_true rfl) dX10_climbsOn_47 ⟨Nat.le_of_ble_eq_true rfl, Nat.le_of_ble_eq_true rfl⟩) (fun v47 u H locs hz9 hH hS => ?_)
        have hz9 : u = (T, O, X) := hz9
        subst hz9
        have hH : HT D cs A T O X H := hH
        refine W.widen (k := 0) (n := 0) (Nat.le_of_ble_eq_true rfl) (Nat.le_of_ble_eq_true rfl) ?_
        refine lv_i2l hx hb dX10_climbsOn_50 rfl ?_
        refine lv_ladd hx hb dX10_climbsOn_51 ?_
        refine lv_topl (fun v51 ev51 => ?_)
        exact J52 v51 _ _ _  hH hS (lv_sub hl [] rfl)
      · skip
        have tc34 := f_eq (k := 1) (by decide) c34
        refine lv_lload hx hb dX10_climbsOn_37 (lv_at hl 1 rfl) ?_
        refine lv_goto (tgt := 52) hx hb dX10_climbsOn_39 (by decide) ?_
        exact J52 v11.toInt64 _ _ _  hH hS (lv_sub hl [] rfl)
  · skip
    have tc2 := f_ngt (k := 0) (by decide) c2
    refine lv_lconst (v := 0) hx hb dX10_climbsOn_5 (by decide) ?_
    exact te_l hx hb hr hlocks hH hS rfl dX10_climbsOn_6
set_option maxHeartbeats 4000000 in
set_option maxRecDepth 100000 in
theorem s_Ways_climbsOn3 (l : Launch) (D : va_G) (cs : CS) (kf : KF) (T : TF) (O : List Nat) (X : va_W) (a0 : Nat) (a1 : Nat) (x2 : Int32) (x3 : Int32) (x4 : Int32) (t_a0 : T a0 = some (20, 0, 0)) (t_a1 : T a1 = some (15, 0, 0)) (u_x4 : x4.toInt ≤ 3) (hO : okO T O [1, 12, 15, 19, 20]) : TK l D cs kf yX10_climbsOn cX10_climbsOn 9 (some (.long)) { frames := 5, cells := 0, slots := 0, locals := 129 } [.ref a0, .ref a1, .int x2, .int x3, .int x4] T O X (Tl D cs (fun _ u => u = (T, O, X))) := by
  refine tk_of (by decide) (Nat.le_of_ble_eq_true rfl) (fun p e s m below meth c ls A H locs hx hb hr hml hown hts hlocks hnm hkb hH hS hA hOX hks hE hl => ?_)
  have hown : s.vm.findClass RX10 = some m.cls := hown
  have hl : lv_has ls 9 [(0, .ref a0), (1, .ref a1), (2, .int x2), (3, .int x3), (4, .int x4)] := hl
  refine lv_iload hx hb dX10_climbsOn_0 (lv_at hl 4 rfl) ?_
  refine lv_if_gt (tgt := 7) hx hb dX10_climbsOn_2 (by decide) (fun c2 => ?_) (fun c2 => ?_)
  · skip
    have tc2 := f_gt (k := 0) (by decide) c2
    refine lv_aload_n hx hb dX10_climbsOn_7 rfl (lv_at hl 0 rfl) ?_
    refine lv_iconst (v := 1) hx hb dX10_climbsOn_8 (by decide) ?_
    refine lv_iload_n hx hb dX10_climbsOn_9 rfl (lv_at hl 2 rfl) ?_
    refine lv_ishl hx hb dX10_climbsOn_10 ?_
    refine lv_topi (fun v10 ev10 => ?_)
    refine tk_i hH hS hA (tr_V (n := 1) (As := [.int v10]) hx hb hml hown hts hkb hH hOX hks hE hS hA (s_Ways_endingFrom l D cs kf T O X a0 v10 t_a0 (hO.sub (by decide))) kw_1006 kw_1008 ks_31 kw_9 kw_1009 (by decide +kernel) ⟨Nat.le_of_ble_eq_true rfl, Nat.le_of_ble_eq_true rfl⟩ (HT.recv (ci := 10) hkb hH t_a0 (hO.no t_a0 (by decide)) rfl) rfl rfl hl.1 (Nat.le_of_ble_eq_true rfl) dX10_climbsOn_11 ⟨Nat.le_of_ble_eq_true rfl, Nat.le_of_ble_eq_true rfl⟩) (fun v11 u H locs hz9 hH hS => ?_)
    have hz9 : u = (T, O, X) := hz9
    subst hz9
    have hH : HT D cs A T O X H := hH
    refine W.widen (k := 0) (n := 0) (Nat.le_of_ble_eq_true rfl) (Nat.le_of_ble_eq_true rfl) ?_
    refine lv_i2l hx hb dX10_climbsOn_14 rfl ?_
    refine lv_lstore (lv' := [(5, .long v11.toInt64), (0, .ref a0), (1, .ref a1), (2, .int x2), (3, .int x3), (4, .int x4)]) hx hb dX10_climbsOn_15 hl (by decide) rfl (fun ls hl => ?_)
    refine lv_aload_n hx hb dX10_climbsOn_17 rfl (lv_at hl 2 rfl) ?_
    refine lv_iload_n hx hb dX10_climbsOn_18 rfl (lv_at hl 3 rfl) ?_
    refine lv_iload_n hx hb dX10_climbsOn_19 rfl (lv_at hl 4 rfl) ?_
    refine tk_i hH hS hA (tr_V (n := 2) (As := [.int x2, .int x3]) hx hb hml hown hts hkb hH hOX hks hE hS hA (s_Rows_stepped l D cs kf T O X a1 x2 x3 t_a1 (hO.sub (by decide))) kw_920 kw_863 kw_864 kw_8 kw_865 (by decide +kernel) ⟨Nat.le_of_ble_eq_true rfl, Nat.le_of_ble_eq_true rfl⟩ (HT.recv (ci := 5) hkb hH t_a1 (hO.no t_a1 (by decide)) rfl) rfl rfl hl.1 (Nat.le_of_ble_eq_true rfl) dX10_climbsOn_20 ⟨Nat.le_of_ble_eq_true rfl, Nat.le_of_ble_eq_true rfl⟩) (fun v20 u H locs hz9 hH hS => ?_)
    obtain ⟨rfl, l_v20, u_v20⟩ := hz9
    have hH : HT D cs A T O X H := hH
    refine W.widen (k := 0) (n := 0) (Nat.le_of_ble_eq_true rfl) (Nat.le_of_ble_eq_true rfl) ?_
    refine lv_istore (lv' := [(7, .int v20), (5, .long v11.toInt64), (0, .ref a0), (1, .ref a1), (2, .int x2), (3, .int x3), (4, .int x4)]) hx hb dX10_climbsOn_23 hl (by decide) rfl (fun ls hl => ?_)
    refine lv_iload hx hb dX10_climbsOn_25 (lv_at hl 6 rfl) ?_
    refine lv_iconst (v := 2) hx hb dX10_climbsOn_27 (by decide) ?_
    refine lv_icmp_gt (tgt := 53) hx hb dX10_climbsOn_28 (by decide) (fun c28 => ?_) (fun c28 => ?_)
    · skip
      have tc28 := f_gt (k := 2) (by decide) c28
      refine lv_iconst (v := 0) hx hb dX10_climbsOn_53 (by decide) ?_
      have J56 : ∀ (n : Nat) (p56_8 : Int32) (p56_5 : Int64) (H : Heap) (locs : List Loc) (ls : Array Slot), (14 - p56_8.toInt).toNat = n → (0 ≤ p56_8.toInt) → (p56_8.toInt ≤ 14) → HT D cs A T O X H → va_S A s.heap H locs → lv_has ls 9 [(8, .int p56_8), (7, .int v20), (5, .long p56_5), (0, .ref a0), (1, .ref a1), (3, .int x3), (4, .int x4)] → W p l e { frames := 5, cells := 0, slots := 0, locals := 129 } s m [.ref a0, .ref a1, .int x2, .int x3, .int x4].toArray below meth c H locs 0 0 (MQ below (Tl D cs (fun _ u => u = (T, O, X)) A) [.ref a0, .ref a1, .int x2, .int x3, .int x4].toArray s 0 0 A) (F0 m 56 ls []) := by
        intro n
        induction n using Nat.strongRecOn with
        | _ n ih56 =>
          intro p56_8 p56_5 H locs ls hm56 l_p56_8 u_p56_8 hH hS hl
          refine lv_iload hx hb dX10_climbsOn_56 (lv_at hl 0 rfl) ?_
          refine lv_bipush (v := 14) hx hb dX10_climbsOn_58 (by decide) ?_
          refine lv_icmp_ge (tgt := 103) hx hb dX10_climbsOn_60 (by decide) (fun c60 => ?_) (fun c60 => ?_)
          · skip
            have tc60 := f_ge (k := 14) (by decide) c60
            refine lv_lload hx hb dX10_climbsOn_103 (lv_at hl 2 rfl) ?_
            exact te_l hx hb hr hlocks hH hS rfl dX10_climbsOn_105
          · skip
            have tc60 := f_nge (k := 14) (by decide) c60
            refine lv_iload hx hb dX10_climbsOn_63 (lv_at hl 1 rfl) ?_
            refine lv_iload hx hb dX10_climbsOn_65 (lv_at hl 0 rfl) ?_
            refine lv_ishr hx hb dX10_climbsOn_67 ?_
            refine lv_topi (fun v67 ev67 => ?_)
            have tv67 : 0 ≤ v67.toInt ∧ v67.toInt ≤ v20.toInt := by rw [ev67]; exact shr_b (by omega)
            refine lv_iconst (v := 1) hx hb dX10_climbsOn_68 (by decide) ?_
            refine lv_iand hx hb dX10_climbsOn_69 ?_
            refine lv_topi (fun v69 ev69 => ?_)
            have tv69 : 0 ≤ v69.toInt ∧ v69.toInt ≤ 1 := by rw [ev69]; exact and_r (by decide)
            have J97 : ∀ (p97_5 : Int64) (H : Heap) (locs : List Loc) (ls : Array Slot), HT D cs A T O X H → va_S A s.heap H locs → lv_has ls 9 [(8, .int p56_8), (7, .int v20), (5, .long p97_5), (0, .ref a0), (1, .ref a1), (3, .int x3), (4, .int x4)] → W p l e { frames := 5, cells := 0, slots := 0, locals := 129 } s m [.ref a0, .ref a1, .int x2, .int x3, .int x4].toArray below meth c H locs 0 0 (MQ below (Tl D cs (fun _ u => u = (T, O, X)) A) [.ref a0, .ref a1, .int x2, .int x3, .int x4].toArray s 0 0 A) (F0 m 97 ls []) := by
              intro p97_5 H locs ls  hH hS hl
              obtain ⟨v97, ev97⟩ : ∃ y : Int32, y = p56_8 + 1 := ⟨_, rfl⟩
              have tv97 : v97.toInt = p56_8.toInt + (1) := by rw [ev97]; exact add_i rfl (by decide) (by omega) (by omega)
              refine lv_iinc (v := v97) (lv' := [(8, .int v97), (7, .int v20), (5, .long p97_5), (0, .ref a0), (1, .ref a1), (3, .int x3), (4, .int x4)]) hx hb dX10_climbsOn_97 hl (k := 0) rfl (by rw [ev97]; rfl) (by decide) rfl (fun ls hl => ?_)
              refine lv_goto (tgt := 56) hx hb dX10_climbsOn_100 (by decide) ?_
              exact ih56 _ (by omega) v97 p97_5 _ _ _ rfl (by omega) (by omega) hH hS (lv_sub hl [0, 1, 2, 3, 4, 5, 6] rfl)
            refine lv_if_eq (tgt := 97) hx hb dX10_climbsOn_70 (by decide) (fun c70 => ?_) (fun c70 => ?_)
            · skip
              have tc70 := f_eq (k := 0) (by decide) c70
              exact J97 p56_5 _ _ _  hH hS (lv_sub hl [0, 1, 2, 3, 4, 5, 6] rfl)
            · skip
              have tc70 := f_ne (k := 0) (by decide) c70
              refine lv_lload hx hb dX10_climbsOn_73 (lv_at hl 2 rfl) ?_
              refine lv_aload_n hx hb dX10_climbsOn_75 rfl (lv_at hl 3 rfl) ?_
              refine lv_aload_n hx hb dX10_climbsOn_76 rfl (lv_at hl 4 rfl) ?_
              refine lv_iload hx hb dX10_climbsOn_77 (lv_at hl 0 rfl) ?_
              refine lv_iload_n hx hb dX10_climbsOn_79 rfl (lv_at hl 5 rfl) ?_
              refine lv_iconst (v := 1) hx hb dX10_climbsOn_80 (by decide) ?_
              refine lv_iload hx hb dX10_climbsOn_81 (lv_at hl 0 rfl) ?_
              refine lv_ishl hx hb dX10_climbsOn_83 ?_
              refine lv_topi (fun v83 ev83 => ?_)
              have tv83 : 1 ≤ v83.toInt ∧ v83.toInt ≤ 8192 := by rw [ev83]; exact shl_b 13 (by decide) (by omega) (by omega)
              refine lv_iconst (v := (-1)) hx hb dX10_climbsOn_84 (by decide) ?_
              refine lv_ixor hx hb dX10_climbsOn_85 ?_
              refine lv_topi (fun v85 ev85 => ?_)
              refine lv_iand hx hb dX10_climbsOn_86 ?_
              refine lv_topi (fun v86 ev86 => ?_)
              refine lv_iload hx hb dX10_climbsOn_87 (lv_at hl 6 rfl) ?_
              refine lv_iconst (v := 1) hx hb dX10_climbsOn_89 (by decide) ?_
              refine lv_isub hx hb dX10_climbsOn_90 ?_
              refine lv_topi (fun v90 ev90 => ?_)
              have tv90 : v90.toInt = x4.toInt - (1) := by rw [ev90]; exact sub_i rfl (by decide : (1 : Int32).toInt = 1) (by omega) (by omega)
              refine tk_l hH hS hA (tr_V (n := 4) (As := [.ref a1, .int p56_8, .int v86, .int v90]) hx hb hml hown hts hkb hH hOX hks hE hS hA (s_Ways_climbsOn2 l D cs kf T O X a0 a1 p56_8 v86 v90 t_a0 t_a1 (by omega) (hO.sub (by decide))) kw_1002 kw_1004 ks_30 kw_9 kw_1005 (by decide +kernel) ⟨Nat.le_of_ble_eq_true rfl, Nat.le_of_ble_eq_true rfl⟩ (HT.recv (ci := 10) hkb hH t_a0 (hO.no t_a0 (by decide)) rfl) rfl rfl hl.1 (Nat.le_of_ble_eq_true rfl) dX10_climbsOn_91 ⟨Nat.le_of_ble_eq_true rfl, Nat.le_of_ble_eq_true rfl⟩) (fun v91 u H locs hz9 hH hS => ?_)
              have hz9 : u = (T, O, X) := hz9
              subst hz9
              have hH : HT D cs A T O X H := hH
              refine W.widen (k := 0) (n := 0) (Nat.le_of_ble_eq_true rfl) (Nat.le_of_ble_eq_true rfl) ?_
              refine lv_ladd hx hb dX10_climbsOn_94 ?_
              refine lv_topl (fun v94 ev94 => ?_)
              refine lv_lstore (lv' := [(5, .long v94), (8, .int p56_8), (7, .int v20), (0, .ref a0), (1, .ref a1), (3, .int x3), (4, .int x4)]) hx hb dX10_climbsOn_95 hl (by decide) rfl (fun ls hl => ?_)
              exact J97 v94 _ _ _  hH hS (lv_sub hl [1, 2, 0, 3, 4, 5, 6] rfl)
      refine lv_istore (lv' := [(8, .int 0), (7, .int v20), (5, .long v11.toInt64), (0, .ref a0), (1, .ref a1), (2, .int x2), (3, .int x3), (4, .int x4)]) hx hb dX10_climbsOn_54 hl (by decide) rfl (fun ls hl => ?_)
      exact J56 _ 0 v11.toInt64 _ _ _ rfl (by decide) (by decide) hH hS (lv_sub hl [0, 1, 2, 3, 4, 6, 7] rfl)
    · skip
      have tc28 := f_ngt (k := 2) (by decide) c28
      refine lv_iload hx hb dX10_climbsOn_31 (lv_at hl 6 rfl) ?_
      refine lv_iconst (v := 1) hx hb dX10_climbsOn_33 (by decide) ?_
      have J52 : ∀ (k52_0 : Int64) (H : Heap) (locs : List Loc) (ls : Array Slot), HT D cs A T O X H → va_S A s.heap H locs → lv_has ls 9 [] → W p l e { frames := 5, cells := 0, slots := 0, locals := 129 } s m [.ref a0, .ref a1, .int x2, .int x3, .int x4].toArray below meth c H locs 0 0 (MQ below (Tl D cs (fun _ u => u = (T, O, X)) A) [.ref a0, .ref a1, .int x2, .int x3, .int x4].toArray s 0 0 A) (F0 m 52 ls [.long k52_0]) := by
        intro k52_0 H locs ls  hH hS hl
        exact te_l hx hb hr hlocks hH hS rfl dX10_climbsOn_52
      refine lv_icmp_ne (tgt := 42) hx hb dX10_climbsOn_34 (by decide) (fun c34 => ?_) (fun c34 => ?_)
      · skip
        have tc34 := f_ne (k := 1) (by decide) c34
        refine lv_lload hx hb dX10_climbsOn_42 (lv_at hl 1 rfl) ?_
        refine lv_aload_n hx hb dX10_climbsOn_44 rfl (lv_at hl 2 rfl) ?_
        refine lv_iload hx hb dX10_climbsOn_45 (lv_at hl 0 rfl) ?_
        refine tk_i hH hS hA (tr_V (n := 1) (As := [.int v20]) hx hb hml hown hts hkb hH hOX hks hE hS hA (s_Ways_endingFrom l D cs kf T O X a0 v20 t_a0 (hO.sub (by decide))) kw_1006 kw_1008 ks_31 kw_9 kw_1009 (by decide +kernel) ⟨Nat.le_of_ble_eq_true rfl, Nat.le_of_ble_eq_true rfl⟩ (HT.recv (ci := 10) hkb hH t_a0 (hO.no t_a0 (by decide)) rfl) rfl rfl hl.1 (Nat.le_of_ble_eq_true rfl) dX10_climbsOn_47 ⟨Nat.le_of_ble_eq_true rfl, Nat.le_of_ble_eq_true rfl⟩) (fun v47 u H locs hz9 hH hS => ?_)
        have hz9 : u = (T, O, X) := hz9
        subst hz9
        have hH : HT D cs A T O X H := hH
        refine W.widen (k := 0) (n := 0) (Nat.le_of_ble_eq_true rfl) (Nat.le_of_ble_eq_true rfl) ?_
        refine lv_i2l hx hb dX10_climbsOn_50 rfl ?_
        refine lv_ladd hx hb dX10_climbsOn_51 ?_
        refine lv_topl (fun v51 ev51 => ?_)
        exact J52 v51 _ _ _  hH hS (lv_sub hl [] rfl)
      · skip
        have tc34 := f_eq (k := 1) (by decide) c34
        refine lv_lload hx hb dX10_climbsOn_37 (lv_at hl 1 rfl) ?_
        refine lv_goto (tgt := 52) hx hb dX10_climbsOn_39 (by decide) ?_
        exact J52 v11.toInt64 _ _ _  hH hS (lv_sub hl [] rfl)
  · skip
    have tc2 := f_ngt (k := 0) (by decide) c2
    refine lv_lconst (v := 0) hx hb dX10_climbsOn_5 (by decide) ?_
    exact te_l hx hb hr hlocks hH hS rfl dX10_climbsOn_6
set_option maxHeartbeats 4000000 in
set_option maxRecDepth 100000 in
theorem s_Ways_climbsOn4 (l : Launch) (D : va_G) (cs : CS) (kf : KF) (T : TF) (O : List Nat) (X : va_W) (a0 : Nat) (a1 : Nat) (x2 : Int32) (x3 : Int32) (x4 : Int32) (t_a0 : T a0 = some (20, 0, 0)) (t_a1 : T a1 = some (15, 0, 0)) (u_x4 : x4.toInt ≤ 4) (hO : okO T O [1, 12, 15, 19, 20]) : TK l D cs kf yX10_climbsOn cX10_climbsOn 9 (some (.long)) { frames := 6, cells := 0, slots := 0, locals := 157 } [.ref a0, .ref a1, .int x2, .int x3, .int x4] T O X (Tl D cs (fun _ u => u = (T, O, X))) := by
  refine tk_of (by decide) (Nat.le_of_ble_eq_true rfl) (fun p e s m below meth c ls A H locs hx hb hr hml hown hts hlocks hnm hkb hH hS hA hOX hks hE hl => ?_)
  have hown : s.vm.findClass RX10 = some m.cls := hown
  have hl : lv_has ls 9 [(0, .ref a0), (1, .ref a1), (2, .int x2), (3, .int x3), (4, .int x4)] := hl
  refine lv_iload hx hb dX10_climbsOn_0 (lv_at hl 4 rfl) ?_
  refine lv_if_gt (tgt := 7) hx hb dX10_climbsOn_2 (by decide) (fun c2 => ?_) (fun c2 => ?_)
  · skip
    have tc2 := f_gt (k := 0) (by decide) c2
    refine lv_aload_n hx hb dX10_climbsOn_7 rfl (lv_at hl 0 rfl) ?_
    refine lv_iconst (v := 1) hx hb dX10_climbsOn_8 (by decide) ?_
    refine lv_iload_n hx hb dX10_climbsOn_9 rfl (lv_at hl 2 rfl) ?_
    refine lv_ishl hx hb dX10_climbsOn_10 ?_
    refine lv_topi (fun v10 ev10 => ?_)
    refine tk_i hH hS hA (tr_V (n := 1) (As := [.int v10]) hx hb hml hown hts hkb hH hOX hks hE hS hA (s_Ways_endingFrom l D cs kf T O X a0 v10 t_a0 (hO.sub (by decide))) kw_1006 kw_1008 ks_31 kw_9 kw_1009 (by decide +kernel) ⟨Nat.le_of_ble_eq_true rfl, Nat.le_of_ble_eq_true rfl⟩ (HT.recv (ci := 10) hkb hH t_a0 (hO.no t_a0 (by decide)) rfl) rfl rfl hl.1 (Nat.le_of_ble_eq_true rfl) dX10_climbsOn_11 ⟨Nat.le_of_ble_eq_true rfl, Nat.le_of_ble_eq_true rfl⟩) (fun v11 u H locs hz9 hH hS => ?_)
    have hz9 : u = (T, O, X) := hz9
    subst hz9
    have hH : HT D cs A T O X H := hH
    refine W.widen (k := 0) (n := 0) (Nat.le_of_ble_eq_true rfl) (Nat.le_of_ble_eq_true rfl) ?_
    refine lv_i2l hx hb dX10_climbsOn_14 rfl ?_
    refine lv_lstore (lv' := [(5, .long v11.toInt64), (0, .ref a0), (1, .ref a1), (2, .int x2), (3, .int x3), (4, .int x4)]) hx hb dX10_climbsOn_15 hl (by decide) rfl (fun ls hl => ?_)
    refine lv_aload_n hx hb dX10_climbsOn_17 rfl (lv_at hl 2 rfl) ?_
    refine lv_iload_n hx hb dX10_climbsOn_18 rfl (lv_at hl 3 rfl) ?_
    refine lv_iload_n hx hb dX10_climbsOn_19 rfl (lv_at hl 4 rfl) ?_
    refine tk_i hH hS hA (tr_V (n := 2) (As := [.int x2, .int x3]) hx hb hml hown hts hkb hH hOX hks hE hS hA (s_Rows_stepped l D cs kf T O X a1 x2 x3 t_a1 (hO.sub (by decide))) kw_920 kw_863 kw_864 kw_8 kw_865 (by decide +kernel) ⟨Nat.le_of_ble_eq_true rfl, Nat.le_of_ble_eq_true rfl⟩ (HT.recv (ci := 5) hkb hH t_a1 (hO.no t_a1 (by decide)) rfl) rfl rfl hl.1 (Nat.le_of_ble_eq_true rfl) dX10_climbsOn_20 ⟨Nat.le_of_ble_eq_true rfl, Nat.le_of_ble_eq_true rfl⟩) (fun v20 u H locs hz9 hH hS => ?_)
    obtain ⟨rfl, l_v20, u_v20⟩ := hz9
    have hH : HT D cs A T O X H := hH
    refine W.widen (k := 0) (n := 0) (Nat.le_of_ble_eq_true rfl) (Nat.le_of_ble_eq_true rfl) ?_
    refine lv_istore (lv' := [(7, .int v20), (5, .long v11.toInt64), (0, .ref a0), (1, .ref a1), (2, .int x2), (3, .int x3), (4, .int x4)]) hx hb dX10_climbsOn_23 hl (by decide) rfl (fun ls hl => ?_)
    refine lv_iload hx hb dX10_climbsOn_25 (lv_at hl 6 rfl) ?_
    refine lv_iconst (v := 2) hx hb dX10_climbsOn_27 (by decide) ?_
    refine lv_icmp_gt (tgt := 53) hx hb dX10_climbsOn_28 (by decide) (fun c28 => ?_) (fun c28 => ?_)
    · skip
      have tc28 := f_gt (k := 2) (by decide) c28
      refine lv_iconst (v := 0) hx hb dX10_climbsOn_53 (by decide) ?_
      have J56 : ∀ (n : Nat) (p56_8 : Int32) (p56_5 : Int64) (H : Heap) (locs : List Loc) (ls : Array Slot), (14 - p56_8.toInt).toNat = n → (0 ≤ p56_8.toInt) → (p56_8.toInt ≤ 14) → HT D cs A T O X H → va_S A s.heap H locs → lv_has ls 9 [(8, .int p56_8), (7, .int v20), (5, .long p56_5), (0, .ref a0), (1, .ref a1), (3, .int x3), (4, .int x4)] → W p l e { frames := 6, cells := 0, slots := 0, locals := 157 } s m [.ref a0, .ref a1, .int x2, .int x3, .int x4].toArray below meth c H locs 0 0 (MQ below (Tl D cs (fun _ u => u = (T, O, X)) A) [.ref a0, .ref a1, .int x2, .int x3, .int x4].toArray s 0 0 A) (F0 m 56 ls []) := by
        intro n
        induction n using Nat.strongRecOn with
        | _ n ih56 =>
          intro p56_8 p56_5 H locs ls hm56 l_p56_8 u_p56_8 hH hS hl
          refine lv_iload hx hb dX10_climbsOn_56 (lv_at hl 0 rfl) ?_
          refine lv_bipush (v := 14) hx hb dX10_climbsOn_58 (by decide) ?_
          refine lv_icmp_ge (tgt := 103) hx hb dX10_climbsOn_60 (by decide) (fun c60 => ?_) (fun c60 => ?_)
          · skip
            have tc60 := f_ge (k := 14) (by decide) c60
            refine lv_lload hx hb dX10_climbsOn_103 (lv_at hl 2 rfl) ?_
            exact te_l hx hb hr hlocks hH hS rfl dX10_climbsOn_105
          · skip
            have tc60 := f_nge (k := 14) (by decide) c60
            refine lv_iload hx hb dX10_climbsOn_63 (lv_at hl 1 rfl) ?_
            refine lv_iload hx hb dX10_climbsOn_65 (lv_at hl 0 rfl) ?_
            refine lv_ishr hx hb dX10_climbsOn_67 ?_
            refine lv_topi (fun v67 ev67 => ?_)
            have tv67 : 0 ≤ v67.toInt ∧ v67.toInt ≤ v20.toInt := by rw [ev67]; exact shr_b (by omega)
            refine lv_iconst (v := 1) hx hb dX10_climbsOn_68 (by decide) ?_
            refine lv_iand hx hb dX10_climbsOn_69 ?_
            refine lv_topi (fun v69 ev69 => ?_)
            have tv69 : 0 ≤ v69.toInt ∧ v69.toInt ≤ 1 := by rw [ev69]; exact and_r (by decide)
            have J97 : ∀ (p97_5 : Int64) (H : Heap) (locs : List Loc) (ls : Array Slot), HT D cs A T O X H → va_S A s.heap H locs → lv_has ls 9 [(8, .int p56_8), (7, .int v20), (5, .long p97_5), (0, .ref a0), (1, .ref a1), (3, .int x3), (4, .int x4)] → W p l e { frames := 6, cells := 0, slots := 0, locals := 157 } s m [.ref a0, .ref a1, .int x2, .int x3, .int x4].toArray below meth c H locs 0 0 (MQ below (Tl D cs (fun _ u => u = (T, O, X)) A) [.ref a0, .ref a1, .int x2, .int x3, .int x4].toArray s 0 0 A) (F0 m 97 ls []) := by
              intro p97_5 H locs ls  hH hS hl
              obtain ⟨v97, ev97⟩ : ∃ y : Int32, y = p56_8 + 1 := ⟨_, rfl⟩
              have tv97 : v97.toInt = p56_8.toInt + (1) := by rw [ev97]; exact add_i rfl (by decide) (by omega) (by omega)
              refine lv_iinc (v := v97) (lv' := [(8, .int v97), (7, .int v20), (5, .long p97_5), (0, .ref a0), (1, .ref a1), (3, .int x3), (4, .int x4)]) hx hb dX10_climbsOn_97 hl (k := 0) rfl (by rw [ev97]; rfl) (by decide) rfl (fun ls hl => ?_)
              refine lv_goto (tgt := 56) hx hb dX10_climbsOn_100 (by decide) ?_
              exact ih56 _ (by omega) v97 p97_5 _ _ _ rfl (by omega) (by omega) hH hS (lv_sub hl [0, 1, 2, 3, 4, 5, 6] rfl)
            refine lv_if_eq (tgt := 97) hx hb dX10_climbsOn_70 (by decide) (fun c70 => ?_) (fun c70 => ?_)
            · skip
              have tc70 := f_eq (k := 0) (by decide) c70
              exact J97 p56_5 _ _ _  hH hS (lv_sub hl [0, 1, 2, 3, 4, 5, 6] rfl)
            · skip
              have tc70 := f_ne (k := 0) (by decide) c70
              refine lv_lload hx hb dX10_climbsOn_73 (lv_at hl 2 rfl) ?_
              refine lv_aload_n hx hb dX10_climbsOn_75 rfl (lv_at hl 3 rfl) ?_
              refine lv_aload_n hx hb dX10_climbsOn_76 rfl (lv_at hl 4 rfl) ?_
              refine lv_iload hx hb dX10_climbsOn_77 (lv_at hl 0 rfl) ?_
              refine lv_iload_n hx hb dX10_climbsOn_79 rfl (lv_at hl 5 rfl) ?_
              refine lv_iconst (v := 1) hx hb dX10_climbsOn_80 (by decide) ?_
              refine lv_iload hx hb dX10_climbsOn_81 (lv_at hl 0 rfl) ?_
              refine lv_ishl hx hb dX10_climbsOn_83 ?_
              refine lv_topi (fun v83 ev83 => ?_)
              have tv83 : 1 ≤ v83.toInt ∧ v83.toInt ≤ 8192 := by rw [ev83]; exact shl_b 13 (by decide) (by omega) (by omega)
              refine lv_iconst (v := (-1)) hx hb dX10_climbsOn_84 (by decide) ?_
              refine lv_ixor hx hb dX10_climbsOn_85 ?_
              refine lv_topi (fun v85 ev85 => ?_)
              refine lv_iand hx hb dX10_climbsOn_86 ?_
              refine lv_topi (fun v86 ev86 => ?_)
              refine lv_iload hx hb dX10_climbsOn_87 (lv_at hl 6 rfl) ?_
              refine lv_iconst (v := 1) hx hb dX10_climbsOn_89 (by decide) ?_
              refine lv_isub hx hb dX10_climbsOn_90 ?_
              refine lv_topi (fun v90 ev90 => ?_)
              have tv90 : v90.toInt = x4.toInt - (1) := by rw [ev90]; exact sub_i rfl (by decide : (1 : Int32).toInt = 1) (by omega) (by omega)
              refine tk_l hH hS hA (tr_V (n := 4) (As := [.ref a1, .int p56_8, .int v86, .int v90]) hx hb hml hown hts hkb hH hOX hks hE hS hA (s_Ways_climbsOn3 l D cs kf T O X a0 a1 p56_8 v86 v90 t_a0 t_a1 (by omega) (hO.sub (by decide))) kw_1002 kw_1004 ks_30 kw_9 kw_1005 (by decide +kernel) ⟨Nat.le_of_ble_eq_true rfl, Nat.le_of_ble_eq_true rfl⟩ (HT.recv (ci := 10) hkb hH t_a0 (hO.no t_a0 (by decide)) rfl) rfl rfl hl.1 (Nat.le_of_ble_eq_true rfl) dX10_climbsOn_91 ⟨Nat.le_of_ble_eq_true rfl, Nat.le_of_ble_eq_true rfl⟩) (fun v91 u H locs hz9 hH hS => ?_)
              have hz9 : u = (T, O, X) := hz9
              subst hz9
              have hH : HT D cs A T O X H := hH
              refine W.widen (k := 0) (n := 0) (Nat.le_of_ble_eq_true rfl) (Nat.le_of_ble_eq_true rfl) ?_
              refine lv_ladd hx hb dX10_climbsOn_94 ?_
              refine lv_topl (fun v94 ev94 => ?_)
              refine lv_lstore (lv' := [(5, .long v94), (8, .int p56_8), (7, .int v20), (0, .ref a0), (1, .ref a1), (3, .int x3), (4, .int x4)]) hx hb dX10_climbsOn_95 hl (by decide) rfl (fun ls hl => ?_)
              exact J97 v94 _ _ _  hH hS (lv_sub hl [1, 2, 0, 3, 4, 5, 6] rfl)
      refine lv_istore (lv' := [(8, .int 0), (7, .int v20), (5, .long v11.toInt64), (0, .ref a0), (1, .ref a1), (2, .int x2), (3, .int x3), (4, .int x4)]) hx hb dX10_climbsOn_54 hl (by decide) rfl (fun ls hl => ?_)
      exact J56 _ 0 v11.toInt64 _ _ _ rfl (by decide) (by decide) hH hS (lv_sub hl [0, 1, 2, 3, 4, 6, 7] rfl)
    · skip
      have tc28 := f_ngt (k := 2) (by decide) c28
      refine lv_iload hx hb dX10_climbsOn_31 (lv_at hl 6 rfl) ?_
      refine lv_iconst (v := 1) hx hb dX10_climbsOn_33 (by decide) ?_
      have J52 : ∀ (k52_0 : Int64) (H : Heap) (locs : List Loc) (ls : Array Slot), HT D cs A T O X H → va_S A s.heap H locs → lv_has ls 9 [] → W p l e { frames := 6, cells := 0, slots := 0, locals := 157 } s m [.ref a0, .ref a1, .int x2, .int x3, .int x4].toArray below meth c H locs 0 0 (MQ below (Tl D cs (fun _ u => u = (T, O, X)) A) [.ref a0, .ref a1, .int x2, .int x3, .int x4].toArray s 0 0 A) (F0 m 52 ls [.long k52_0]) := by
        intro k52_0 H locs ls  hH hS hl
        exact te_l hx hb hr hlocks hH hS rfl dX10_climbsOn_52
      refine lv_icmp_ne (tgt := 42) hx hb dX10_climbsOn_34 (by decide) (fun c34 => ?_) (fun c34 => ?_)
      · skip
        have tc34 := f_ne (k := 1) (by decide) c34
        refine lv_lload hx hb dX10_climbsOn_42 (lv_at hl 1 rfl) ?_
        refine lv_aload_n hx hb dX10_climbsOn_44 rfl (lv_at hl 2 rfl) ?_
        refine lv_iload hx hb dX10_climbsOn_45 (lv_at hl 0 rfl) ?_
        refine tk_i hH hS hA (tr_V (n := 1) (As := [.int v20]) hx hb hml hown hts hkb hH hOX hks hE hS hA (s_Ways_endingFrom l D cs kf T O X a0 v20 t_a0 (hO.sub (by decide))) kw_1006 kw_1008 ks_31 kw_9 kw_1009 (by decide +kernel) ⟨Nat.le_of_ble_eq_true rfl, Nat.le_of_ble_eq_true rfl⟩ (HT.recv (ci := 10) hkb hH t_a0 (hO.no t_a0 (by decide)) rfl) rfl rfl hl.1 (Nat.le_of_ble_eq_true rfl) dX10_climbsOn_47 ⟨Nat.le_of_ble_eq_true rfl, Nat.le_of_ble_eq_true rfl⟩) (fun v47 u H locs hz9 hH hS => ?_)
        have hz9 : u = (T, O, X) := hz9
        subst hz9
        have hH : HT D cs A T O X H := hH
        refine W.widen (k := 0) (n := 0) (Nat.le_of_ble_eq_true rfl) (Nat.le_of_ble_eq_true rfl) ?_
        refine lv_i2l hx hb dX10_climbsOn_50 rfl ?_
        refine lv_ladd hx hb dX10_climbsOn_51 ?_
        refine lv_topl (fun v51 ev51 => ?_)
        exact J52 v51 _ _ _  hH hS (lv_sub hl [] rfl)
      · skip
        have tc34 := f_eq (k := 1) (by decide) c34
        refine lv_lload hx hb dX10_climbsOn_37 (lv_at hl 1 rfl) ?_
        refine lv_goto (tgt := 52) hx hb dX10_climbsOn_39 (by decide) ?_
        exact J52 v11.toInt64 _ _ _  hH hS (lv_sub hl [] rfl)
  · skip
    have tc2 := f_ngt (k := 0) (by decide) c2
    refine lv_lconst (v := 0) hx hb dX10_climbsOn_5 (by decide) ?_
    exact te_l hx hb hr hlocks hH hS rfl dX10_climbsOn_6
set_option maxHeartbeats 4000000 in
set_option maxRecDepth 100000 in
theorem s_Ways_climbsOn5 (l : Launch) (D : va_G) (cs : CS) (kf : KF) (T : TF) (O : List Nat) (X : va_W) (a0 : Nat) (a1 : Nat) (x2 : Int32) (x3 : Int32) (x4 : Int32) (t_a0 : T a0 = some (20, 0, 0)) (t_a1 : T a1 = some (15, 0, 0)) (u_x4 : x4.toInt ≤ 5) (hO : okO T O [1, 12, 15, 19, 20]) : TK l D cs kf yX10_climbsOn cX10_climbsOn 9 (some (.long)) { frames := 7, cells := 0, slots := 0, locals := 185 } [.ref a0, .ref a1, .int x2, .int x3, .int x4] T O X (Tl D cs (fun _ u => u = (T, O, X))) := by
  refine tk_of (by decide) (Nat.le_of_ble_eq_true rfl) (fun p e s m below meth c ls A H locs hx hb hr hml hown hts hlocks hnm hkb hH hS hA hOX hks hE hl => ?_)
  have hown : s.vm.findClass RX10 = some m.cls := hown
  have hl : lv_has ls 9 [(0, .ref a0), (1, .ref a1), (2, .int x2), (3, .int x3), (4, .int x4)] := hl
  refine lv_iload hx hb dX10_climbsOn_0 (lv_at hl 4 rfl) ?_
  refine lv_if_gt (tgt := 7) hx hb dX10_climbsOn_2 (by decide) (fun c2 => ?_) (fun c2 => ?_)
  · skip
    have tc2 := f_gt (k := 0) (by decide) c2
    refine lv_aload_n hx hb dX10_climbsOn_7 rfl (lv_at hl 0 rfl) ?_
    refine lv_iconst (v := 1) hx hb dX10_climbsOn_8 (by decide) ?_
    refine lv_iload_n hx hb dX10_climbsOn_9 rfl (lv_at hl 2 rfl) ?_
    refine lv_ishl hx hb dX10_climbsOn_10 ?_
    refine lv_topi (fun v10 ev10 => ?_)
    refine tk_i hH hS hA (tr_V (n := 1) (As := [.int v10]) hx hb hml hown hts hkb hH hOX hks hE hS hA (s_Ways_endingFrom l D cs kf T O X a0 v10 t_a0 (hO.sub (by decide))) kw_1006 kw_1008 ks_31 kw_9 kw_1009 (by decide +kernel) ⟨Nat.le_of_ble_eq_true rfl, Nat.le_of_ble_eq_true rfl⟩ (HT.recv (ci := 10) hkb hH t_a0 (hO.no t_a0 (by decide)) rfl) rfl rfl hl.1 (Nat.le_of_ble_eq_true rfl) dX10_climbsOn_11 ⟨Nat.le_of_ble_eq_true rfl, Nat.le_of_ble_eq_true rfl⟩) (fun v11 u H locs hz9 hH hS => ?_)
    have hz9 : u = (T, O, X) := hz9
    subst hz9
    have hH : HT D cs A T O X H := hH
    refine W.widen (k := 0) (n := 0) (Nat.le_of_ble_eq_true rfl) (Nat.le_of_ble_eq_true rfl) ?_
    refine lv_i2l hx hb dX10_climbsOn_14 rfl ?_
    refine lv_lstore (lv' := [(5, .long v11.toInt64), (0, .ref a0), (1, .ref a1), (2, .int x2), (3, .int x3), (4, .int x4)]) hx hb dX10_climbsOn_15 hl (by decide) rfl (fun ls hl => ?_)
    refine lv_aload_n hx hb dX10_climbsOn_17 rfl (lv_at hl 2 rfl) ?_
    refine lv_iload_n hx hb dX10_climbsOn_18 rfl (lv_at hl 3 rfl) ?_
    refine lv_iload_n hx hb dX10_climbsOn_19 rfl (lv_at hl 4 rfl) ?_
    refine tk_i hH hS hA (tr_V (n := 2) (As := [.int x2, .int x3]) hx hb hml hown hts hkb hH hOX hks hE hS hA (s_Rows_stepped l D cs kf T O X a1 x2 x3 t_a1 (hO.sub (by decide))) kw_920 kw_863 kw_864 kw_8 kw_865 (by decide +kernel) ⟨Nat.le_of_ble_eq_true rfl, Nat.le_of_ble_eq_true rfl⟩ (HT.recv (ci := 5) hkb hH t_a1 (hO.no t_a1 (by decide)) rfl) rfl rfl hl.1 (Nat.le_of_ble_eq_true rfl) dX10_climbsOn_20 ⟨Nat.le_of_ble_eq_true rfl, Nat.le_of_ble_eq_true rfl⟩) (fun v20 u H locs hz9 hH hS => ?_)
    obtain ⟨rfl, l_v20, u_v20⟩ := hz9
    have hH : HT D cs A T O X H := hH
    refine W.widen (k := 0) (n := 0) (Nat.le_of_ble_eq_true rfl) (Nat.le_of_ble_eq_true rfl) ?_
    refine lv_istore (lv' := [(7, .int v20), (5, .long v11.toInt64), (0, .ref a0), (1, .ref a1), (2, .int x2), (3, .int x3), (4, .int x4)]) hx hb dX10_climbsOn_23 hl (by decide) rfl (fun ls hl => ?_)
    refine lv_iload hx hb dX10_climbsOn_25 (lv_at hl 6 rfl) ?_
    refine lv_iconst (v := 2) hx hb dX10_climbsOn_27 (by decide) ?_
    refine lv_icmp_gt (tgt := 53) hx hb dX10_climbsOn_28 (by decide) (fun c28 => ?_) (fun c28 => ?_)
    · skip
      have tc28 := f_gt (k := 2) (by decide) c28
      refine lv_iconst (v := 0) hx hb dX10_climbsOn_53 (by decide) ?_
      have J56 : ∀ (n : Nat) (p56_8 : Int32) (p56_5 : Int64) (H : Heap) (locs : List Loc) (ls : Array Slot), (14 - p56_8.toInt).toNat = n → (0 ≤ p56_8.toInt) → (p56_8.toInt ≤ 14) → HT D cs A T O X H → va_S A s.heap H locs → lv_has ls 9 [(8, .int p56_8), (7, .int v20), (5, .long p56_5), (0, .ref a0), (1, .ref a1), (3, .int x3), (4, .int x4)] → W p l e { frames := 7, cells := 0, slots := 0, locals := 185 } s m [.ref a0, .ref a1, .int x2, .int x3, .int x4].toArray below meth c H locs 0 0 (MQ below (Tl D cs (fun _ u => u = (T, O, X)) A) [.ref a0, .ref a1, .int x2, .int x3, .int x4].toArray s 0 0 A) (F0 m 56 ls []) := by
        intro n
        induction n using Nat.strongRecOn with
        | _ n ih56 =>
          intro p56_8 p56_5 H locs ls hm56 l_p56_8 u_p56_8 hH hS hl
          refine lv_iload hx hb dX10_climbsOn_56 (lv_at hl 0 rfl) ?_
          refine lv_bipush (v := 14) hx hb dX10_climbsOn_58 (by decide) ?_
          refine lv_icmp_ge (tgt := 103) hx hb dX10_climbsOn_60 (by decide) (fun c60 => ?_) (fun c60 => ?_)
          · skip
            have tc60 := f_ge (k := 14) (by decide) c60
            refine lv_lload hx hb dX10_climbsOn_103 (lv_at hl 2 rfl) ?_
            exact te_l hx hb hr hlocks hH hS rfl dX10_climbsOn_105
          · skip
            have tc60 := f_nge (k := 14) (by decide) c60
            refine lv_iload hx hb dX10_climbsOn_63 (lv_at hl 1 rfl) ?_
            refine lv_iload hx hb dX10_climbsOn_65 (lv_at hl 0 rfl) ?_
            refine lv_ishr hx hb dX10_climbsOn_67 ?_
            refine lv_topi (fun v67 ev67 => ?_)
            have tv67 : 0 ≤ v67.toInt ∧ v67.toInt ≤ v20.toInt := by rw [ev67]; exact shr_b (by omega)
            refine lv_iconst (v := 1) hx hb dX10_climbsOn_68 (by decide) ?_
            refine lv_iand hx hb dX10_climbsOn_69 ?_
            refine lv_topi (fun v69 ev69 => ?_)
            have tv69 : 0 ≤ v69.toInt ∧ v69.toInt ≤ 1 := by rw [ev69]; exact and_r (by decide)
            have J97 : ∀ (p97_5 : Int64) (H : Heap) (locs : List Loc) (ls : Array Slot), HT D cs A T O X H → va_S A s.heap H locs → lv_has ls 9 [(8, .int p56_8), (7, .int v20), (5, .long p97_5), (0, .ref a0), (1, .ref a1), (3, .int x3), (4, .int x4)] → W p l e { frames := 7, cells := 0, slots := 0, locals := 185 } s m [.ref a0, .ref a1, .int x2, .int x3, .int x4].toArray below meth c H locs 0 0 (MQ below (Tl D cs (fun _ u => u = (T, O, X)) A) [.ref a0, .ref a1, .int x2, .int x3, .int x4].toArray s 0 0 A) (F0 m 97 ls []) := by
              intro p97_5 H locs ls  hH hS hl
              obtain ⟨v97, ev97⟩ : ∃ y : Int32, y = p56_8 + 1 := ⟨_, rfl⟩
              have tv97 : v97.toInt = p56_8.toInt + (1) := by rw [ev97]; exact add_i rfl (by decide) (by omega) (by omega)
              refine lv_iinc (v := v97) (lv' := [(8, .int v97), (7, .int v20), (5, .long p97_5), (0, .ref a0), (1, .ref a1), (3, .int x3), (4, .int x4)]) hx hb dX10_climbsOn_97 hl (k := 0) rfl (by rw [ev97]; rfl) (by decide) rfl (fun ls hl => ?_)
              refine lv_goto (tgt := 56) hx hb dX10_climbsOn_100 (by decide) ?_
              exact ih56 _ (by omega) v97 p97_5 _ _ _ rfl (by omega) (by omega) hH hS (lv_sub hl [0, 1, 2, 3, 4, 5, 6] rfl)
            refine lv_if_eq (tgt := 97) hx hb dX10_climbsOn_70 (by decide) (fun c70 => ?_) (fun c70 => ?_)
            · skip
              have tc70 := f_eq (k := 0) (by decide) c70
              exact J97 p56_5 _ _ _  hH hS (lv_sub hl [0, 1, 2, 3, 4, 5, 6] rfl)
            · skip
              have tc70 := f_ne (k := 0) (by decide) c70
              refine lv_lload hx hb dX10_climbsOn_73 (lv_at hl 2 rfl) ?_
              refine lv_aload_n hx hb dX10_climbsOn_75 rfl (lv_at hl 3 rfl) ?_
              refine lv_aload_n hx hb dX10_climbsOn_76 rfl (lv_at hl 4 rfl) ?_
              refine lv_iload hx hb dX10_climbsOn_77 (lv_at hl 0 rfl) ?_
              refine lv_iload_n hx hb dX10_climbsOn_79 rfl (lv_at hl 5 rfl) ?_
              refine lv_iconst (v := 1) hx hb dX10_climbsOn_80 (by decide) ?_
              refine lv_iload hx hb dX10_climbsOn_81 (lv_at hl 0 rfl) ?_
              refine lv_ishl hx hb dX10_climbsOn_83 ?_
              refine lv_topi (fun v83 ev83 => ?_)
              have tv83 : 1 ≤ v83.toInt ∧ v83.toInt ≤ 8192 := by rw [ev83]; exact shl_b 13 (by decide) (by omega) (by omega)
              refine lv_iconst (v := (-1)) hx hb dX10_climbsOn_84 (by decide) ?_
              refine lv_ixor hx hb dX10_climbsOn_85 ?_
              refine lv_topi (fun v85 ev85 => ?_)
              refine lv_iand hx hb dX10_climbsOn_86 ?_
              refine lv_topi (fun v86 ev86 => ?_)
              refine lv_iload hx hb dX10_climbsOn_87 (lv_at hl 6 rfl) ?_
              refine lv_iconst (v := 1) hx hb dX10_climbsOn_89 (by decide) ?_
              refine lv_isub hx hb dX10_climbsOn_90 ?_
              refine lv_topi (fun v90 ev90 => ?_)
              have tv90 : v90.toInt = x4.toInt - (1) := by rw [ev90]; exact sub_i rfl (by decide : (1 : Int32).toInt = 1) (by omega) (by omega)
              refine tk_l hH hS hA (tr_V (n := 4) (As := [.ref a1, .int p56_8, .int v86, .int v90]) hx hb hml hown hts hkb hH hOX hks hE hS hA (s_Ways_climbsOn4 l D cs kf T O X a0 a1 p56_8 v86 v90 t_a0 t_a1 (by omega) (hO.sub (by decide))) kw_1002 kw_1004 ks_30 kw_9 kw_1005 (by decide +kernel) ⟨Nat.le_of_ble_eq_true rfl, Nat.le_of_ble_eq_true rfl⟩ (HT.recv (ci := 10) hkb hH t_a0 (hO.no t_a0 (by decide)) rfl) rfl rfl hl.1 (Nat.le_of_ble_eq_true rfl) dX10_climbsOn_91 ⟨Nat.le_of_ble_eq_true rfl, Nat.le_of_ble_eq_true rfl⟩) (fun v91 u H locs hz9 hH hS => ?_)
              have hz9 : u = (T, O, X) := hz9
              subst hz9
              have hH : HT D cs A T O X H := hH
              refine W.widen (k := 0) (n := 0) (Nat.le_of_ble_eq_true rfl) (Nat.le_of_ble_eq_true rfl) ?_
              refine lv_ladd hx hb dX10_climbsOn_94 ?_
              refine lv_topl (fun v94 ev94 => ?_)
              refine lv_lstore (lv' := [(5, .long v94), (8, .int p56_8), (7, .int v20), (0, .ref a0), (1, .ref a1), (3, .int x3), (4, .int x4)]) hx hb dX10_climbsOn_95 hl (by decide) rfl (fun ls hl => ?_)
              exact J97 v94 _ _ _  hH hS (lv_sub hl [1, 2, 0, 3, 4, 5, 6] rfl)
      refine lv_istore (lv' := [(8, .int 0), (7, .int v20), (5, .long v11.toInt64), (0, .ref a0), (1, .ref a1), (2, .int x2), (3, .int x3), (4, .int x4)]) hx hb dX10_climbsOn_54 hl (by decide) rfl (fun ls hl => ?_)
      exact J56 _ 0 v11.toInt64 _ _ _ rfl (by decide) (by decide) hH hS (lv_sub hl [0, 1, 2, 3, 4, 6, 7] rfl)
    · skip
      have tc28 := f_ngt (k := 2) (by decide) c28
      refine lv_iload hx hb dX10_climbsOn_31 (lv_at hl 6 rfl) ?_
      refine lv_iconst (v := 1) hx hb dX10_climbsOn_33 (by decide) ?_
      have J52 : ∀ (k52_0 : Int64) (H : Heap) (locs : List Loc) (ls : Array Slot), HT D cs A T O X H → va_S A s.heap H locs → lv_has ls 9 [] → W p l e { frames := 7, cells := 0, slots := 0, locals := 185 } s m [.ref a0, .ref a1, .int x2, .int x3, .int x4].toArray below meth c H locs 0 0 (MQ below (Tl D cs (fun _ u => u = (T, O, X)) A) [.ref a0, .ref a1, .int x2, .int x3, .int x4].toArray s 0 0 A) (F0 m 52 ls [.long k52_0]) := by
        intro k52_0 H locs ls  hH hS hl
        exact te_l hx hb hr hlocks hH hS rfl dX10_climbsOn_52
      refine lv_icmp_ne (tgt := 42) hx hb dX10_climbsOn_34 (by decide) (fun c34 => ?_) (fun c34 => ?_)
      · skip
        have tc34 := f_ne (k := 1) (by decide) c34
        refine lv_lload hx hb dX10_climbsOn_42 (lv_at hl 1 rfl) ?_
        refine lv_aload_n hx hb dX10_climbsOn_44 rfl (lv_at hl 2 rfl) ?_
        refine lv_iload hx hb dX10_climbsOn_45 (lv_at hl 0 rfl) ?_
        refine tk_i hH hS hA (tr_V (n := 1) (As := [.int v20]) hx hb hml hown hts hkb hH hOX hks hE hS hA (s_Ways_endingFrom l D cs kf T O X a0 v20 t_a0 (hO.sub (by decide))) kw_1006 kw_1008 ks_31 kw_9 kw_1009 (by decide +kernel) ⟨Nat.le_of_ble_eq_true rfl, Nat.le_of_ble_eq_true rfl⟩ (HT.recv (ci := 10) hkb hH t_a0 (hO.no t_a0 (by decide)) rfl) rfl rfl hl.1 (Nat.le_of_ble_eq_true rfl) dX10_climbsOn_47 ⟨Nat.le_of_ble_eq_true rfl, Nat.le_of_ble_eq_true rfl⟩) (fun v47 u H locs hz9 hH hS => ?_)
        have hz9 : u = (T, O, X) := hz9
        subst hz9
        have hH : HT D cs A T O X H := hH
        refine W.widen (k := 0) (n := 0) (Nat.le_of_ble_eq_true rfl) (Nat.le_of_ble_eq_true rfl) ?_
        refine lv_i2l hx hb dX10_climbsOn_50 rfl ?_
        refine lv_ladd hx hb dX10_climbsOn_51 ?_
        refine lv_topl (fun v51 ev51 => ?_)
        exact J52 v51 _ _ _  hH hS (lv_sub hl [] rfl)
      · skip
        have tc34 := f_eq (k := 1) (by decide) c34
        refine lv_lload hx hb dX10_climbsOn_37 (lv_at hl 1 rfl) ?_
        refine lv_goto (tgt := 52) hx hb dX10_climbsOn_39 (by decide) ?_
        exact J52 v11.toInt64 _ _ _  hH hS (lv_sub hl [] rfl)
  · skip
    have tc2 := f_ngt (k := 0) (by decide) c2
    refine lv_lconst (v := 0) hx hb dX10_climbsOn_5 (by decide) ?_
    exact te_l hx hb hr hlocks hH hS rfl dX10_climbsOn_6
set_option maxHeartbeats 4000000 in
set_option maxRecDepth 100000 in
theorem s_Ways_climbsOn6 (l : Launch) (D : va_G) (cs : CS) (kf : KF) (T : TF) (O : List Nat) (X : va_W) (a0 : Nat) (a1 : Nat) (x2 : Int32) (x3 : Int32) (x4 : Int32) (t_a0 : T a0 = some (20, 0, 0)) (t_a1 : T a1 = some (15, 0, 0)) (u_x4 : x4.toInt ≤ 6) (hO : okO T O [1, 12, 15, 19, 20]) : TK l D cs kf yX10_climbsOn cX10_climbsOn 9 (some (.long)) { frames := 8, cells := 0, slots := 0, locals := 213 } [.ref a0, .ref a1, .int x2, .int x3, .int x4] T O X (Tl D cs (fun _ u => u = (T, O, X))) := by
  refine tk_of (by decide) (Nat.le_of_ble_eq_true rfl) (fun p e s m below meth c ls A H locs hx hb hr hml hown hts hlocks hnm hkb hH hS hA hOX hks hE hl => ?_)
  have hown : s.vm.findClass RX10 = some m.cls := hown
  have hl : lv_has ls 9 [(0, .ref a0), (1, .ref a1), (2, .int x2), (3, .int x3), (4, .int x4)] := hl
  refine lv_iload hx hb dX10_climbsOn_0 (lv_at hl 4 rfl) ?_
  refine lv_if_gt (tgt := 7) hx hb dX10_climbsOn_2 (by decide) (fun c2 => ?_) (fun c2 => ?_)
  · skip
    have tc2 := f_gt (k := 0) (by decide) c2
    refine lv_aload_n hx hb dX10_climbsOn_7 rfl (lv_at hl 0 rfl) ?_
    refine lv_iconst (v := 1) hx hb dX10_climbsOn_8 (by decide) ?_
    refine lv_iload_n hx hb dX10_climbsOn_9 rfl (lv_at hl 2 rfl) ?_
    refine lv_ishl hx hb dX10_climbsOn_10 ?_
    refine lv_topi (fun v10 ev10 => ?_)
    refine tk_i hH hS hA (tr_V (n := 1) (As := [.int v10]) hx hb hml hown hts hkb hH hOX hks hE hS hA (s_Ways_endingFrom l D cs kf T O X a0 v10 t_a0 (hO.sub (by decide))) kw_1006 kw_1008 ks_31 kw_9 kw_1009 (by decide +kernel) ⟨Nat.le_of_ble_eq_true rfl, Nat.le_of_ble_eq_true rfl⟩ (HT.recv (ci := 10) hkb hH t_a0 (hO.no t_a0 (by decide)) rfl) rfl rfl hl.1 (Nat.le_of_ble_eq_true rfl) dX10_climbsOn_11 ⟨Nat.le_of_ble_eq_true rfl, Nat.le_of_ble_eq_true rfl⟩) (fun v11 u H locs hz9 hH hS => ?_)
    have hz9 : u = (T, O, X) := hz9
    subst hz9
    have hH : HT D cs A T O X H := hH
    refine W.widen (k := 0) (n := 0) (Nat.le_of_ble_eq_true rfl) (Nat.le_of_ble_eq_true rfl) ?_
    refine lv_i2l hx hb dX10_climbsOn_14 rfl ?_
    refine lv_lstore (lv' := [(5, .long v11.toInt64), (0, .ref a0), (1, .ref a1), (2, .int x2), (3, .int x3), (4, .int x4)]) hx hb dX10_climbsOn_15 hl (by decide) rfl (fun ls hl => ?_)
    refine lv_aload_n hx hb dX10_climbsOn_17 rfl (lv_at hl 2 rfl) ?_
    refine lv_iload_n hx hb dX10_climbsOn_18 rfl (lv_at hl 3 rfl) ?_
    refine lv_iload_n hx hb dX10_climbsOn_19 rfl (lv_at hl 4 rfl) ?_
    refine tk_i hH hS hA (tr_V (n := 2) (As := [.int x2, .int x3]) hx hb hml hown hts hkb hH hOX hks hE hS hA (s_Rows_stepped l D cs kf T O X a1 x2 x3 t_a1 (hO.sub (by decide))) kw_920 kw_863 kw_864 kw_8 kw_865 (by decide +kernel) ⟨Nat.le_of_ble_eq_true rfl, Nat.le_of_ble_eq_true rfl⟩ (HT.recv (ci := 5) hkb hH t_a1 (hO.no t_a1 (by decide)) rfl) rfl rfl hl.1 (Nat.le_of_ble_eq_true rfl) dX10_climbsOn_20 ⟨Nat.le_of_ble_eq_true rfl, Nat.le_of_ble_eq_true rfl⟩) (fun v20 u H locs hz9 hH hS => ?_)
    obtain ⟨rfl, l_v20, u_v20⟩ := hz9
    have hH : HT D cs A T O X H := hH
    refine W.widen (k := 0) (n := 0) (Nat.le_of_ble_eq_true rfl) (Nat.le_of_ble_eq_true rfl) ?_
    refine lv_istore (lv' := [(7, .int v20), (5, .long v11.toInt64), (0, .ref a0), (1, .ref a1), (2, .int x2), (3, .int x3), (4, .int x4)]) hx hb dX10_climbsOn_23 hl (by decide) rfl (fun ls hl => ?_)
    refine lv_iload hx hb dX10_climbsOn_25 (lv_at hl 6 rfl) ?_
    refine lv_iconst (v := 2) hx hb dX10_climbsOn_27 (by decide) ?_
    refine lv_icmp_gt (tgt := 53) hx hb dX10_climbsOn_28 (by decide) (fun c28 => ?_) (fun c28 => ?_)
    · skip
      have tc28 := f_gt (k := 2) (by decide) c28
      refine lv_iconst (v := 0) hx hb dX10_climbsOn_53 (by decide) ?_
      have J56 : ∀ (n : Nat) (p56_8 : Int32) (p56_5 : Int64) (H : Heap) (locs : List Loc) (ls : Array Slot), (14 - p56_8.toInt).toNat = n → (0 ≤ p56_8.toInt) → (p56_8.toInt ≤ 14) → HT D cs A T O X H → va_S A s.heap H locs → lv_has ls 9 [(8, .int p56_8), (7, .int v20), (5, .long p56_5), (0, .ref a0), (1, .ref a1), (3, .int x3), (4, .int x4)] → W p l e { frames := 8, cells := 0, slots := 0, locals := 213 } s m [.ref a0, .ref a1, .int x2, .int x3, .int x4].toArray below meth c H locs 0 0 (MQ below (Tl D cs (fun _ u => u = (T, O, X)) A) [.ref a0, .ref a1, .int x2, .int x3, .int x4].toArray s 0 0 A) (F0 m 56 ls []) := by
        intro n
        induction n using Nat.strongRecOn with
        | _ n ih56 =>
          intro p56_8 p56_5 H locs ls hm56 l_p56_8 u_p56_8 hH hS hl
          refine lv_iload hx hb dX10_climbsOn_56 (lv_at hl 0 rfl) ?_
          refine lv_bipush (v := 14) hx hb dX10_climbsOn_58 (by decide) ?_
          refine lv_icmp_ge (tgt := 103) hx hb dX10_climbsOn_60 (by decide) (fun c60 => ?_) (fun c60 => ?_)
          · skip
            have tc60 := f_ge (k := 14) (by decide) c60
            refine lv_lload hx hb dX10_climbsOn_103 (lv_at hl 2 rfl) ?_
            exact te_l hx hb hr hlocks hH hS rfl dX10_climbsOn_105
          · skip
            have tc60 := f_nge (k := 14) (by decide) c60
            refine lv_iload hx hb dX10_climbsOn_63 (lv_at hl 1 rfl) ?_
            refine lv_iload hx hb dX10_climbsOn_65 (lv_at hl 0 rfl) ?_
            refine lv_ishr hx hb dX10_climbsOn_67 ?_
            refine lv_topi (fun v67 ev67 => ?_)
            have tv67 : 0 ≤ v67.toInt ∧ v67.toInt ≤ v20.toInt := by rw [ev67]; exact shr_b (by omega)
            refine lv_iconst (v := 1) hx hb dX10_climbsOn_68 (by decide) ?_
            refine lv_iand hx hb dX10_climbsOn_69 ?_
            refine lv_topi (fun v69 ev69 => ?_)
            have tv69 : 0 ≤ v69.toInt ∧ v69.toInt ≤ 1 := by rw [ev69]; exact and_r (by decide)
            have J97 : ∀ (p97_5 : Int64) (H : Heap) (locs : List Loc) (ls : Array Slot), HT D cs A T O X H → va_S A s.heap H locs → lv_has ls 9 [(8, .int p56_8), (7, .int v20), (5, .long p97_5), (0, .ref a0), (1, .ref a1), (3, .int x3), (4, .int x4)] → W p l e { frames := 8, cells := 0, slots := 0, locals := 213 } s m [.ref a0, .ref a1, .int x2, .int x3, .int x4].toArray below meth c H locs 0 0 (MQ below (Tl D cs (fun _ u => u = (T, O, X)) A) [.ref a0, .ref a1, .int x2, .int x3, .int x4].toArray s 0 0 A) (F0 m 97 ls []) := by
              intro p97_5 H locs ls  hH hS hl
              obtain ⟨v97, ev97⟩ : ∃ y : Int32, y = p56_8 + 1 := ⟨_, rfl⟩
              have tv97 : v97.toInt = p56_8.toInt + (1) := by rw [ev97]; exact add_i rfl (by decide) (by omega) (by omega)
              refine lv_iinc (v := v97) (lv' := [(8, .int v97), (7, .int v20), (5, .long p97_5), (0, .ref a0), (1, .ref a1), (3, .int x3), (4, .int x4)]) hx hb dX10_climbsOn_97 hl (k := 0) rfl (by rw [ev97]; rfl) (by decide) rfl (fun ls hl => ?_)
              refine lv_goto (tgt := 56) hx hb dX10_climbsOn_100 (by decide) ?_
              exact ih56 _ (by omega) v97 p97_5 _ _ _ rfl (by omega) (by omega) hH hS (lv_sub hl [0, 1, 2, 3, 4, 5, 6] rfl)
            refine lv_if_eq (tgt := 97) hx hb dX10_climbsOn_70 (by decide) (fun c70 => ?_) (fun c70 => ?_)
            · skip
              have tc70 := f_eq (k := 0) (by decide) c70
              exact J97 p56_5 _ _ _  hH hS (lv_sub hl [0, 1, 2, 3, 4, 5, 6] rfl)
            · skip
              have tc70 := f_ne (k := 0) (by decide) c70
              refine lv_lload hx hb dX10_climbsOn_73 (lv_at hl 2 rfl) ?_
              refine lv_aload_n hx hb dX10_climbsOn_75 rfl (lv_at hl 3 rfl) ?_
              refine lv_aload_n hx hb dX10_climbsOn_76 rfl (lv_at hl 4 rfl) ?_
              refine lv_iload hx hb dX10_climbsOn_77 (lv_at hl 0 rfl) ?_
              refine lv_iload_n hx hb dX10_climbsOn_79 rfl (lv_at hl 5 rfl) ?_
              refine lv_iconst (v := 1) hx hb dX10_climbsOn_80 (by decide) ?_
              refine lv_iload hx hb dX10_climbsOn_81 (lv_at hl 0 rfl) ?_
              refine lv_ishl hx hb dX10_climbsOn_83 ?_
              refine lv_topi (fun v83 ev83 => ?_)
              have tv83 : 1 ≤ v83.toInt ∧ v83.toInt ≤ 8192 := by rw [ev83]; exact shl_b 13 (by decide) (by omega) (by omega)
              refine lv_iconst (v := (-1)) hx hb dX10_climbsOn_84 (by decide) ?_
              refine lv_ixor hx hb dX10_climbsOn_85 ?_
              refine lv_topi (fun v85 ev85 => ?_)
              refine lv_iand hx hb dX10_climbsOn_86 ?_
              refine lv_topi (fun v86 ev86 => ?_)
              refine lv_iload hx hb dX10_climbsOn_87 (lv_at hl 6 rfl) ?_
              refine lv_iconst (v := 1) hx hb dX10_climbsOn_89 (by decide) ?_
              refine lv_isub hx hb dX10_climbsOn_90 ?_
              refine lv_topi (fun v90 ev90 => ?_)
              have tv90 : v90.toInt = x4.toInt - (1) := by rw [ev90]; exact sub_i rfl (by decide : (1 : Int32).toInt = 1) (by omega) (by omega)
              refine tk_l hH hS hA (tr_V (n := 4) (As := [.ref a1, .int p56_8, .int v86, .int v90]) hx hb hml hown hts hkb hH hOX hks hE hS hA (s_Ways_climbsOn5 l D cs kf T O X a0 a1 p56_8 v86 v90 t_a0 t_a1 (by omega) (hO.sub (by decide))) kw_1002 kw_1004 ks_30 kw_9 kw_1005 (by decide +kernel) ⟨Nat.le_of_ble_eq_true rfl, Nat.le_of_ble_eq_true rfl⟩ (HT.recv (ci := 10) hkb hH t_a0 (hO.no t_a0 (by decide)) rfl) rfl rfl hl.1 (Nat.le_of_ble_eq_true rfl) dX10_climbsOn_91 ⟨Nat.le_of_ble_eq_true rfl, Nat.le_of_ble_eq_true rfl⟩) (fun v91 u H locs hz9 hH hS => ?_)
              have hz9 : u = (T, O, X) := hz9
              subst hz9
              have hH : HT D cs A T O X H := hH
              refine W.widen (k := 0) (n := 0) (Nat.le_of_ble_eq_true rfl) (Nat.le_of_ble_eq_true rfl) ?_
              refine lv_ladd hx hb dX10_climbsOn_94 ?_
              refine lv_topl (fun v94 ev94 => ?_)
              refine lv_lstore (lv' := [(5, .long v94), (8, .int p56_8), (7, .int v20), (0, .ref a0), (1, .ref a1), (3, .int x3), (4, .int x4)]) hx hb dX10_climbsOn_95 hl (by decide) rfl (fun ls hl => ?_)
              exact J97 v94 _ _ _  hH hS (lv_sub hl [1, 2, 0, 3, 4, 5, 6] rfl)
      refine lv_istore (lv' := [(8, .int 0), (7, .int v20), (5, .long v11.toInt64), (0, .ref a0), (1, .ref a1), (2, .int x2), (3, .int x3), (4, .int x4)]) hx hb dX10_climbsOn_54 hl (by decide) rfl (fun ls hl => ?_)
      exact J56 _ 0 v11.toInt64 _ _ _ rfl (by decide) (by decide) hH hS (lv_sub hl [0, 1, 2, 3, 4, 6, 7] rfl)
    · skip
      have tc28 := f_ngt (k := 2) (by decide) c28
      refine lv_iload hx hb dX10_climbsOn_31 (lv_at hl 6 rfl) ?_
      refine lv_iconst (v := 1) hx hb dX10_climbsOn_33 (by decide) ?_
      have J52 : ∀ (k52_0 : Int64) (H : Heap) (locs : List Loc) (ls : Array Slot), HT D cs A T O X H → va_S A s.heap H locs → lv_has ls 9 [] → W p l e { frames := 8, cells := 0, slots := 0, locals := 213 } s m [.ref a0, .ref a1, .int x2, .int x3, .int x4].toArray below meth c H locs 0 0 (MQ below (Tl D cs (fun _ u => u = (T, O, X)) A) [.ref a0, .ref a1, .int x2, .int x3, .int x4].toArray s 0 0 A) (F0 m 52 ls [.long k52_0]) := by
        intro k52_0 H locs ls  hH hS hl
        exact te_l hx hb hr hlocks hH hS rfl dX10_climbsOn_52
      refine lv_icmp_ne (tgt := 42) hx hb dX10_climbsOn_34 (by decide) (fun c34 => ?_) (fun c34 => ?_)
      · skip
        have tc34 := f_ne (k := 1) (by decide) c34
        refine lv_lload hx hb dX10_climbsOn_42 (lv_at hl 1 rfl) ?_
        refine lv_aload_n hx hb dX10_climbsOn_44 rfl (lv_at hl 2 rfl) ?_
        refine lv_iload hx hb dX10_climbsOn_45 (lv_at hl 0 rfl) ?_
        refine tk_i hH hS hA (tr_V (n := 1) (As := [.int v20]) hx hb hml hown hts hkb hH hOX hks hE hS hA (s_Ways_endingFrom l D cs kf T O X a0 v20 t_a0 (hO.sub (by decide))) kw_1006 kw_1008 ks_31 kw_9 kw_1009 (by decide +kernel) ⟨Nat.le_of_ble_eq_true rfl, Nat.le_of_ble_eq_true rfl⟩ (HT.recv (ci := 10) hkb hH t_a0 (hO.no t_a0 (by decide)) rfl) rfl rfl hl.1 (Nat.le_of_ble_eq_true rfl) dX10_climbsOn_47 ⟨Nat.le_of_ble_eq_true rfl, Nat.le_of_ble_eq_true rfl⟩) (fun v47 u H locs hz9 hH hS => ?_)
        have hz9 : u = (T, O, X) := hz9
        subst hz9
        have hH : HT D cs A T O X H := hH
        refine W.widen (k := 0) (n := 0) (Nat.le_of_ble_eq_true rfl) (Nat.le_of_ble_eq_true rfl) ?_
        refine lv_i2l hx hb dX10_climbsOn_50 rfl ?_
        refine lv_ladd hx hb dX10_climbsOn_51 ?_
        refine lv_topl (fun v51 ev51 => ?_)
        exact J52 v51 _ _ _  hH hS (lv_sub hl [] rfl)
      · skip
        have tc34 := f_eq (k := 1) (by decide) c34
        refine lv_lload hx hb dX10_climbsOn_37 (lv_at hl 1 rfl) ?_
        refine lv_goto (tgt := 52) hx hb dX10_climbsOn_39 (by decide) ?_
        exact J52 v11.toInt64 _ _ _  hH hS (lv_sub hl [] rfl)
  · skip
    have tc2 := f_ngt (k := 0) (by decide) c2
    refine lv_lconst (v := 0) hx hb dX10_climbsOn_5 (by decide) ?_
    exact te_l hx hb hr hlocks hH hS rfl dX10_climbsOn_6
