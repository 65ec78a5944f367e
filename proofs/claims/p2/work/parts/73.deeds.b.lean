set_option maxHeartbeats 4000000 in
set_option maxRecDepth 100000 in
theorem s_M_usesRow (l : Launch) (D : va_G) (cs : CS) (kf : KF) (T : TF) (O : List Nat) (X : va_W) (a0 hg mq : Nat) (x1 : Int32) (t_a0 : T a0 = some (22, hg, mq)) (b_hg : hg < 90) (hO : okO T O [1, 8, 22]) : TK l D cs kf yX12_usesRow cX12_usesRow 4 (some (.int)) { frames := 1, cells := 0, slots := 0, locals := 22 } [.ref a0, .int x1] T O X (Ti D cs (fun r u => u = (T, O, X))) := by
  refine tk_of (by decide) (Nat.le_of_ble_eq_true rfl) (fun p e s m below meth c ls A H locs hx hb hr hml hown hts hlocks hnm hkb hH hS hA hOX hks hE hl => ?_)
  have hown : s.vm.findClass RX12 = some m.cls := hown
  have hl : lv_has ls 4 [(0, .ref a0), (1, .int x1)] := hl
  refine lv_iconst (v := 0) hx hb dX12_usesRow_0 (by decide) ?_
  refine lv_istore_n (lv' := [(2, .int 0), (0, .ref a0), (1, .int x1)]) hx hb dX12_usesRow_1 rfl hl (by decide) rfl (fun ls hl => ?_)
  refine lv_iconst (v := 0) hx hb dX12_usesRow_2 (by decide) ?_
  have J4 : ∀ (n : Nat) (p4_3 : Int32) (p4_2 : Int32) (H : Heap) (locs : List Loc) (ls : Array Slot), (14 - p4_3.toInt).toNat = n → (0 ≤ p4_3.toInt) → (p4_3.toInt ≤ 14) → HT D cs A T O X H → va_S A s.heap H locs → lv_has ls 4 [(3, .int p4_3), (2, .int p4_2), (0, .ref a0), (1, .int x1)] → W p l e { frames := 1, cells := 0, slots := 0, locals := 22 } s m [.ref a0, .int x1].toArray below meth c H locs 0 0 (MQ below (Ti D cs (fun r u => u = (T, O, X)) A) [.ref a0, .int x1].toArray s 0 0 A) (F0 m 4 ls []) := by
    intro n
    induction n using Nat.strongRecOn with
    | _ n ih4 =>
      intro p4_3 p4_2 H locs ls hm4 l_p4_3 u_p4_3 hH hS hl
      refine lv_iload_n hx hb dX12_usesRow_4 rfl (lv_at hl 0 rfl) ?_
      refine lv_aload_n hx hb dX12_usesRow_5 rfl (lv_at hl 2 rfl) ?_
      refine t_get (ci := 12) (lst := ft12 hg mq) (C := RX12) (F := TX12) (N := 36) hx hb hts uX12 hown hkb hH t_a0 (hO.no t_a0 (by decide)) (fun _ h9 => h9) rfl rfl 20 (by decide) rfl kw_1243 (fun _ h9 => h9) dX12_usesRow_6 (fun v9 h9 => ?_)
      obtain ⟨v6, rfl, l_v6, u_v6⟩ := h9
      refine lv_icmp_ge (tgt := 77) hx hb dX12_usesRow_9 (by decide) (fun c9 => ?_) (fun c9 => ?_)
      · skip
        have fuc9 := full_i p4_3
        have fvc9 := full_i v6
        have tc9 := g_le c9
        refine lv_iload_n hx hb dX12_usesRow_77 rfl (lv_at hl 1 rfl) ?_
        exact te_i hx hb hr hlocks hH hS (rfl) dX12_usesRow_78
      · skip
        have fuc9 := full_i p4_3
        have fvc9 := full_i v6
        have tc9 := g_nle c9
        refine lv_aload_n hx hb dX12_usesRow_12 rfl (lv_at hl 2 rfl) ?_
        refine tk_i hH hS hA (tr_V (n := 0) (As := []) hx hb hml hown hts hkb hH hOX hks hE hS hA (s_M_ends l D cs kf T O X a0 hg mq t_a0 b_hg (hO.sub (by decide))) kw_1536 kw_1538 ks_78 kw_13 kw_1539 (by decide +kernel) ⟨Nat.le_of_ble_eq_true rfl, Nat.le_of_ble_eq_true rfl⟩ (HT.recv (ci := 12) hkb hH t_a0 (hO.no t_a0 (by decide)) rfl) rfl rfl hl.1 (Nat.le_of_ble_eq_true rfl) dX12_usesRow_13 ⟨Nat.le_of_ble_eq_true rfl, Nat.le_of_ble_eq_true rfl⟩) (fun v13 u H locs hz9 hH hS => ?_)
        obtain ⟨rfl, l_v13, u_v13⟩ := hz9
        have hH : HT D cs A T O X H := hH
        refine W.widen (k := 0) (n := 0) (Nat.le_of_ble_eq_true rfl) (Nat.le_of_ble_eq_true rfl) ?_
        refine lv_i2l hx hb dX12_usesRow_16 rfl ?_
        refine lv_aload_n hx hb dX12_usesRow_17 rfl (lv_at hl 2 rfl) ?_
        refine t_get (ci := 12) (lst := ft12 hg mq) (C := RX12) (F := TX12) (N := 36) hx hb hts uX12 hown hkb hH t_a0 (hO.no t_a0 (by decide)) (fun _ h9 => h9) rfl rfl 19 (by decide) rfl kw_1242 (fun _ h9 => h9) dX12_usesRow_18 (fun v9 h9 => ?_)
        obtain ⟨v18, rfl, t_v18⟩ := h9
        refine lv_iload_n hx hb dX12_usesRow_21 rfl (lv_at hl 0 rfl) ?_
        refine t_ild hx hb hkb hH t_v18 (hO.no t_v18 (by decide)) (by omega) (by omega) dX12_usesRow_22 (fun v22 h9 => ?_)
        have tv22 : 0 ≤ v22.toInt ∧ v22.toInt ≤ 13 := h9
        refine tk_i hH hS hA (tr_S (n := 2) (As := [.long v13.toInt64, .int v22]) hx hb hml hown hts hkb hH hOX hks hE hS hA (s_M_isIn2 l D cs kf T O X v13.toInt64 v22  (hO.sub (by decide))) kw_1440 kw_1441 kw_13 kw_1442 (by decide +kernel) ⟨Nat.le_of_ble_eq_true rfl, Nat.le_of_ble_eq_true rfl⟩ rfl rfl hl.1 (Nat.le_of_ble_eq_true rfl) dX12_usesRow_23 ⟨Nat.le_of_ble_eq_true rfl, Nat.le_of_ble_eq_true rfl⟩) (fun v23 u H locs hz9 hH hS => ?_)
        obtain ⟨rfl, l_v23, u_v23, x_v230⟩ := hz9
        have hH : HT D cs A T O X H := hH
        refine W.widen (k := 0) (n := 0) (Nat.le_of_ble_eq_true rfl) (Nat.le_of_ble_eq_true rfl) ?_
        have J71 : ∀ (p71_2 : Int32) (H : Heap) (locs : List Loc) (ls : Array Slot), HT D cs A T O X H → va_S A s.heap H locs → lv_has ls 4 [(3, .int p4_3), (2, .int p71_2), (0, .ref a0), (1, .int x1)] → W p l e { frames := 1, cells := 0, slots := 0, locals := 22 } s m [.ref a0, .int x1].toArray below meth c H locs 0 0 (MQ below (Ti D cs (fun r u => u = (T, O, X)) A) [.ref a0, .int x1].toArray s 0 0 A) (F0 m 71 ls []) := by
          intro p71_2 H locs ls  hH hS hl
          obtain ⟨v71, ev71⟩ : ∃ y : Int32, y = p4_3 + 1 := ⟨_, rfl⟩
          have tv71 : v71.toInt = p4_3.toInt + (1) := by rw [ev71]; exact add_i rfl (by decide) (by omega) (by omega)
          refine lv_iinc (v := v71) (lv' := [(3, .int v71), (2, .int p71_2), (0, .ref a0), (1, .int x1)]) hx hb dX12_usesRow_71 hl (k := 0) rfl (by rw [ev71]; rfl) (by decide) rfl (fun ls hl => ?_)
          refine lv_goto (tgt := 4) hx hb dX12_usesRow_74 (by decide) ?_
          exact ih4 _ (by omega) v71 p71_2 _ _ _ rfl (by omega) (by omega) hH hS (lv_sub hl [0, 1, 2, 3] rfl)
        refine lv_if_eq (tgt := 32) hx hb dX12_usesRow_26 (by decide) (fun c26 => ?_) (fun c26 => ?_)
        · skip
          have tc26 := f_eq (k := 0) (by decide) c26
          refine lv_aload_n hx hb dX12_usesRow_32 rfl (lv_at hl 2 rfl) ?_
          refine t_get (ci := 12) (lst := ft12 hg mq) (C := RX12) (F := TX12) (N := 36) hx hb hts uX12 hown hkb hH t_a0 (hO.no t_a0 (by decide)) (fun _ h9 => h9) rfl rfl 1 (by decide) rfl kw_1224 (fun _ h9 => h9) dX12_usesRow_33 (fun v9 h9 => ?_)
          obtain ⟨v33, rfl, t_v33⟩ := h9
          refine lv_bipush (v := 59) hx hb dX12_usesRow_36 (by decide) ?_
          refine lv_aload_n hx hb dX12_usesRow_38 rfl (lv_at hl 2 rfl) ?_
          refine t_get (ci := 12) (lst := ft12 hg mq) (C := RX12) (F := TX12) (N := 36) hx hb hts uX12 hown hkb hH t_a0 (hO.no t_a0 (by decide)) (fun _ h9 => h9) rfl rfl 19 (by decide) rfl kw_1242 (fun _ h9 => h9) dX12_usesRow_39 (fun v9 h9 => ?_)
          obtain ⟨v39, rfl, t_v39⟩ := h9
          refine lv_iload_n hx hb dX12_usesRow_42 rfl (lv_at hl 0 rfl) ?_
          refine t_ild hx hb hkb hH t_v39 (hO.no t_v39 (by decide)) (by omega) (by omega) dX12_usesRow_43 (fun v43 h9 => ?_)
          have tv43 : 0 ≤ v43.toInt ∧ v43.toInt ≤ 13 := h9
          refine lv_iadd hx hb dX12_usesRow_44 ?_
          refine lv_topi (fun v44 ev44 => ?_)
          have tv44 : v44.toInt = (59) + v43.toInt := by rw [ev44]; exact add_i (by decide : (59 : Int32).toInt = 59) rfl (by omega) (by omega)
          refine lv_iload_n hx hb dX12_usesRow_45 rfl (lv_at hl 3 rfl) ?_
          refine t_ist8 hx hb hkb hH hS t_v33 (hO.no t_v33 (by decide)) (by decide) (by omega) (by omega) (by omega) (by omega) (p8_far (by omega) (by omega)) dX12_usesRow_46 (fun H locs hH hS => ?_)
          refine lv_aload_n hx hb dX12_usesRow_47 rfl (lv_at hl 2 rfl) ?_
          refine t_get (ci := 12) (lst := ft12 hg mq) (C := RX12) (F := TX12) (N := 36) hx hb hts uX12 hown hkb hH t_a0 (hO.no t_a0 (by decide)) (fun _ h9 => h9) rfl rfl 1 (by decide) rfl kw_1224 (fun _ h9 => h9) dX12_usesRow_48 (fun v9 h9 => ?_)
          obtain ⟨v48, rfl, t_v48⟩ := h9
          refine lv_bipush (v := 73) hx hb dX12_usesRow_51 (by decide) ?_
          refine lv_aload_n hx hb dX12_usesRow_53 rfl (lv_at hl 2 rfl) ?_
          refine t_get (ci := 12) (lst := ft12 hg mq) (C := RX12) (F := TX12) (N := 36) hx hb hts uX12 hown hkb hH t_a0 (hO.no t_a0 (by decide)) (fun _ h9 => h9) rfl rfl 19 (by decide) rfl kw_1242 (fun _ h9 => h9) dX12_usesRow_54 (fun v9 h9 => ?_)
          obtain ⟨v54, rfl, t_v54⟩ := h9
          refine lv_iload_n hx hb dX12_usesRow_57 rfl (lv_at hl 0 rfl) ?_
          refine t_ild hx hb hkb hH t_v54 (hO.no t_v54 (by decide)) (by omega) (by omega) dX12_usesRow_58 (fun v58 h9 => ?_)
          have tv58 : 0 ≤ v58.toInt ∧ v58.toInt ≤ 13 := h9
          refine lv_iadd hx hb dX12_usesRow_59 ?_
          refine lv_topi (fun v59 ev59 => ?_)
          have tv59 : v59.toInt = (73) + v58.toInt := by rw [ev59]; exact add_i (by decide : (73 : Int32).toInt = 73) rfl (by omega) (by omega)
          refine lv_aload_n hx hb dX12_usesRow_60 rfl (lv_at hl 2 rfl) ?_
          refine t_get (ci := 12) (lst := ft12 hg mq) (C := RX12) (F := TX12) (N := 36) hx hb hts uX12 hown hkb hH t_a0 (hO.no t_a0 (by decide)) (fun _ h9 => h9) rfl rfl 1 (by decide) rfl kw_1224 (fun _ h9 => h9) dX12_usesRow_61 (fun v9 h9 => ?_)
          obtain ⟨v61, rfl, t_v61⟩ := h9
          refine lv_bipush (v := 88) hx hb dX12_usesRow_64 (by decide) ?_
          refine t_ild8 hx hb hkb hH t_v61 (hO.no t_v61 (by decide)) (by decide) (by decide) (by decide) dX12_usesRow_66 (fun v66 h9 h8 => ?_)
          refine t_ist8 hx hb hkb hH hS t_v48 (hO.no t_v48 (by decide)) (by decide) (by omega) (by omega) (by omega) (by omega) (p8_far (by omega) (by omega)) dX12_usesRow_67 (fun H locs hH hS => ?_)
          obtain ⟨v68, ev68⟩ : ∃ y : Int32, y = p4_2 + 1 := ⟨_, rfl⟩
          refine lv_iinc (v := v68) (lv' := [(2, .int v68), (3, .int p4_3), (0, .ref a0), (1, .int x1)]) hx hb dX12_usesRow_68 hl (k := 1) rfl (by rw [ev68]; rfl) (by decide) rfl (fun ls hl => ?_)
          exact J71 v68 _ _ _  hH hS (lv_sub hl [1, 0, 2, 3] rfl)
        · skip
          have tc26 := f_ne (k := 0) (by decide) c26
          refine lv_goto (tgt := 71) hx hb dX12_usesRow_29 (by decide) ?_
          exact J71 p4_2 _ _ _  hH hS (lv_sub hl [0, 1, 2, 3] rfl)
  refine lv_istore_n (lv' := [(3, .int 0), (2, .int 0), (0, .ref a0), (1, .int x1)]) hx hb dX12_usesRow_3 rfl hl (by decide) rfl (fun ls hl => ?_)
  exact J4 _ 0 0 _ _ _ rfl (by decide) (by decide) hH hS (lv_sub hl [0, 1, 2, 3] rfl)
set_option maxHeartbeats 4000000 in
set_option maxRecDepth 100000 in
theorem s_M_keeps (l : Launch) (D : va_G) (cs : CS) (kf : KF) (T : TF) (O : List Nat) (X : va_W) (a0 hg mq : Nat) (t_a0 : T a0 = some (22, hg, mq)) (b_hg : hg < 90) (hO : okO T O [1, 8, 22]) : TK l D cs kf yX12_keeps cX12_keeps 2 none { frames := 0, cells := 0, slots := 0, locals := 0 } [.ref a0] T O X (Tv D cs (fun u => u = (T, O, X))) := by
  refine tk_of (by decide) (Nat.le_of_ble_eq_true rfl) (fun p e s m below meth c ls A H locs hx hb hr hml hown hts hlocks hnm hkb hH hS hA hOX hks hE hl => ?_)
  have hown : s.vm.findClass RX12 = some m.cls := hown
  have hl : lv_has ls 2 [(0, .ref a0)] := hl
  refine lv_iconst (v := 0) hx hb dX12_keeps_0 (by decide) ?_
  have J2 : ∀ (n : Nat) (p2_1 : Int32) (H : Heap) (locs : List Loc) (ls : Array Slot), (31 - p2_1.toInt).toNat = n → (0 ≤ p2_1.toInt) → (p2_1.toInt ≤ 31) → HT D cs A T O X H → va_S A s.heap H locs → lv_has ls 2 [(1, .int p2_1), (0, .ref a0)] → W p l e { frames := 0, cells := 0, slots := 0, locals := 0 } s m [.ref a0].toArray below meth c H locs 0 0 (MQ below (Tv D cs (fun u => u = (T, O, X)) A) [.ref a0].toArray s 0 0 A) (F0 m 2 ls []) := by
    intro n
    induction n using Nat.strongRecOn with
    | _ n ih2 =>
      intro p2_1 H locs ls hm2 l_p2_1 u_p2_1 hH hS hl
      refine lv_iload_n hx hb dX12_keeps_2 rfl (lv_at hl 0 rfl) ?_
      refine lv_bipush (v := 31) hx hb dX12_keeps_3 (by decide) ?_
      refine lv_icmp_ge (tgt := 29) hx hb dX12_keeps_5 (by decide) (fun c5 => ?_) (fun c5 => ?_)
      · skip
        have tc5 := f_ge (k := 31) (by decide) c5
        exact te_v hx hb hr hlocks hH hS rfl dX12_keeps_29
      · skip
        have tc5 := f_nge (k := 31) (by decide) c5
        refine lv_aload_n hx hb dX12_keeps_8 rfl (lv_at hl 1 rfl) ?_
        refine t_get (ci := 12) (lst := ft12 hg mq) (C := RX12) (F := TX12) (N := 36) hx hb hts uX12 hown hkb hH t_a0 (hO.no t_a0 (by decide)) (fun _ h9 => h9) rfl rfl 21 (by decide) rfl kw_1244 (fun _ h9 => h9) dX12_keeps_9 (fun v9 h9 => ?_)
        obtain ⟨v9, rfl, t_v9⟩ := h9
        refine lv_iload_n hx hb dX12_keeps_12 rfl (lv_at hl 0 rfl) ?_
        refine lv_aload_n hx hb dX12_keeps_13 rfl (lv_at hl 1 rfl) ?_
        refine t_get (ci := 12) (lst := ft12 hg mq) (C := RX12) (F := TX12) (N := 36) hx hb hts uX12 hown hkb hH t_a0 (hO.no t_a0 (by decide)) (fun _ h9 => h9) rfl rfl 1 (by decide) rfl kw_1224 (fun _ h9 => h9) dX12_keeps_14 (fun v9 h9 => ?_)
        obtain ⟨v14, rfl, t_v14⟩ := h9
        refine lv_bipush (v := 59) hx hb dX12_keeps_17 (by decide) ?_
        refine lv_iload_n hx hb dX12_keeps_19 rfl (lv_at hl 0 rfl) ?_
        refine lv_iadd hx hb dX12_keeps_20 ?_
        refine lv_topi (fun v20 ev20 => ?_)
        have tv20 : v20.toInt = (59) + p2_1.toInt := by rw [ev20]; exact add_i (by decide : (59 : Int32).toInt = 59) rfl (by omega) (by omega)
        refine t_ild8 hx hb hkb hH t_v14 (hO.no t_v14 (by decide)) (by decide) (by omega) (by omega) dX12_keeps_21 (fun v21 h9 h8 => ?_)
        refine t_ist hx hb hkb hH hS t_v9 (hO.no t_v9 (by decide)) (by omega) (by omega) (cp_0 _) dX12_keeps_22 (fun H locs hH hS => ?_)
        obtain ⟨v23, ev23⟩ : ∃ y : Int32, y = p2_1 + 1 := ⟨_, rfl⟩
        have tv23 : v23.toInt = p2_1.toInt + (1) := by rw [ev23]; exact add_i rfl (by decide) (by omega) (by omega)
        refine lv_iinc (v := v23) (lv' := [(1, .int v23), (0, .ref a0)]) hx hb dX12_keeps_23 hl (k := 0) rfl (by rw [ev23]; rfl) (by decide) rfl (fun ls hl => ?_)
        refine lv_goto (tgt := 2) hx hb dX12_keeps_26 (by decide) ?_
        exact ih2 _ (by omega) v23 _ _ _ rfl (by omega) (by omega) hH hS (lv_sub hl [0, 1] rfl)
  refine lv_istore_n (lv' := [(1, .int 0), (0, .ref a0)]) hx hb dX12_keeps_1 rfl hl (by decide) rfl (fun ls hl => ?_)
  exact J2 _ 0 _ _ _ rfl (by decide) (by decide) hH hS (lv_sub hl [0, 1] rfl)
set_option maxHeartbeats 4000000 in
set_option maxRecDepth 100000 in
theorem s_M_keepsAhead (l : Launch) (D : va_G) (cs : CS) (kf : KF) (T : TF) (O : List Nat) (X : va_W) (a0 hg mq : Nat) (t_a0 : T a0 = some (22, hg, mq)) (b_hg : hg < 90) (hO : okO T O [1, 8, 22]) : TK l D cs kf yX12_keepsAhead cX12_keepsAhead 2 none { frames := 0, cells := 0, slots := 0, locals := 0 } [.ref a0] T O X (Tv D cs (fun u => u = (T, O, X))) := by
  refine tk_of (by decide) (Nat.le_of_ble_eq_true rfl) (fun p e s m below meth c ls A H locs hx hb hr hml hown hts hlocks hnm hkb hH hS hA hOX hks hE hl => ?_)
  have hown : s.vm.findClass RX12 = some m.cls := hown
  have hl : lv_has ls 2 [(0, .ref a0)] := hl
  refine lv_iconst (v := 0) hx hb dX12_keepsAhead_0 (by decide) ?_
  have J2 : ∀ (n : Nat) (p2_1 : Int32) (H : Heap) (locs : List Loc) (ls : Array Slot), (31 - p2_1.toInt).toNat = n → (0 ≤ p2_1.toInt) → (p2_1.toInt ≤ 31) → HT D cs A T O X H → va_S A s.heap H locs → lv_has ls 2 [(1, .int p2_1), (0, .ref a0)] → W p l e { frames := 0, cells := 0, slots := 0, locals := 0 } s m [.ref a0].toArray below meth c H locs 0 0 (MQ below (Tv D cs (fun u => u = (T, O, X)) A) [.ref a0].toArray s 0 0 A) (F0 m 2 ls []) := by
    intro n
    induction n using Nat.strongRecOn with
    | _ n ih2 =>
      intro p2_1 H locs ls hm2 l_p2_1 u_p2_1 hH hS hl
      refine lv_iload_n hx hb dX12_keepsAhead_2 rfl (lv_at hl 0 rfl) ?_
      refine lv_bipush (v := 31) hx hb dX12_keepsAhead_3 (by decide) ?_
      refine lv_icmp_ge (tgt := 29) hx hb dX12_keepsAhead_5 (by decide) (fun c5 => ?_) (fun c5 => ?_)
      · skip
        have tc5 := f_ge (k := 31) (by decide) c5
        exact te_v hx hb hr hlocks hH hS rfl dX12_keepsAhead_29
      · skip
        have tc5 := f_nge (k := 31) (by decide) c5
        refine lv_aload_n hx hb dX12_keepsAhead_8 rfl (lv_at hl 1 rfl) ?_
        refine t_get (ci := 12) (lst := ft12 hg mq) (C := RX12) (F := TX12) (N := 36) hx hb hts uX12 hown hkb hH t_a0 (hO.no t_a0 (by decide)) (fun _ h9 => h9) rfl rfl 22 (by decide) rfl kw_1245 (fun _ h9 => h9) dX12_keepsAhead_9 (fun v9 h9 => ?_)
        obtain ⟨v9, rfl, t_v9⟩ := h9
        refine lv_iload_n hx hb dX12_keepsAhead_12 rfl (lv_at hl 0 rfl) ?_
        refine lv_aload_n hx hb dX12_keepsAhead_13 rfl (lv_at hl 1 rfl) ?_
        refine t_get (ci := 12) (lst := ft12 hg mq) (C := RX12) (F := TX12) (N := 36) hx hb hts uX12 hown hkb hH t_a0 (hO.no t_a0 (by decide)) (fun _ h9 => h9) rfl rfl 1 (by decide) rfl kw_1224 (fun _ h9 => h9) dX12_keepsAhead_14 (fun v9 h9 => ?_)
        obtain ⟨v14, rfl, t_v14⟩ := h9
        refine lv_bipush (v := 59) hx hb dX12_keepsAhead_17 (by decide) ?_
        refine lv_iload_n hx hb dX12_keepsAhead_19 rfl (lv_at hl 0 rfl) ?_
        refine lv_iadd hx hb dX12_keepsAhead_20 ?_
        refine lv_topi (fun v20 ev20 => ?_)
        have tv20 : v20.toInt = (59) + p2_1.toInt := by rw [ev20]; exact add_i (by decide : (59 : Int32).toInt = 59) rfl (by omega) (by omega)
        refine t_ild8 hx hb hkb hH t_v14 (hO.no t_v14 (by decide)) (by decide) (by omega) (by omega) dX12_keepsAhead_21 (fun v21 h9 h8 => ?_)
        refine t_ist hx hb hkb hH hS t_v9 (hO.no t_v9 (by decide)) (by omega) (by omega) (cp_0 _) dX12_keepsAhead_22 (fun H locs hH hS => ?_)
        obtain ⟨v23, ev23⟩ : ∃ y : Int32, y = p2_1 + 1 := ⟨_, rfl⟩
        have tv23 : v23.toInt = p2_1.toInt + (1) := by rw [ev23]; exact add_i rfl (by decide) (by omega) (by omega)
        refine lv_iinc (v := v23) (lv' := [(1, .int v23), (0, .ref a0)]) hx hb dX12_keepsAhead_23 hl (k := 0) rfl (by rw [ev23]; rfl) (by decide) rfl (fun ls hl => ?_)
        refine lv_goto (tgt := 2) hx hb dX12_keepsAhead_26 (by decide) ?_
        exact ih2 _ (by omega) v23 _ _ _ rfl (by omega) (by omega) hH hS (lv_sub hl [0, 1] rfl)
  refine lv_istore_n (lv' := [(1, .int 0), (0, .ref a0)]) hx hb dX12_keepsAhead_1 rfl hl (by decide) rfl (fun ls hl => ?_)
  exact J2 _ 0 _ _ _ rfl (by decide) (by decide) hH hS (lv_sub hl [0, 1] rfl)
set_option maxHeartbeats 4000000 in
set_option maxRecDepth 100000 in
theorem s_M_isAhead (l : Launch) (D : va_G) (cs : CS) (kf : KF) (T : TF) (O : List Nat) (X : va_W) (a0 hg mq : Nat) (t_a0 : T a0 = some (22, hg, mq)) (b_hg : hg < 90) (hO : okO T O [1, 8, 22]) : TK l D cs kf yX12_isAhead cX12_isAhead 2 none { frames := 0, cells := 0, slots := 0, locals := 0 } [.ref a0] T O X (Tv D cs (fun u => u = (T, O, X))) := by
  refine tk_of (by decide) (Nat.le_of_ble_eq_true rfl) (fun p e s m below meth c ls A H locs hx hb hr hml hown hts hlocks hnm hkb hH hS hA hOX hks hE hl => ?_)
  have hown : s.vm.findClass RX12 = some m.cls := hown
  have hl : lv_has ls 2 [(0, .ref a0)] := hl
  refine lv_iconst (v := 0) hx hb dX12_isAhead_0 (by decide) ?_
  have J2 : ∀ (n : Nat) (p2_1 : Int32) (H : Heap) (locs : List Loc) (ls : Array Slot), (31 - p2_1.toInt).toNat = n → (0 ≤ p2_1.toInt) → (p2_1.toInt ≤ 31) → HT D cs A T O X H → va_S A s.heap H locs → lv_has ls 2 [(1, .int p2_1), (0, .ref a0)] → W p l e { frames := 0, cells := 0, slots := 0, locals := 0 } s m [.ref a0].toArray below meth c H locs 0 0 (MQ below (Tv D cs (fun u => u = (T, O, X)) A) [.ref a0].toArray s 0 0 A) (F0 m 2 ls []) := by
    intro n
    induction n using Nat.strongRecOn with
    | _ n ih2 =>
      intro p2_1 H locs ls hm2 l_p2_1 u_p2_1 hH hS hl
      refine lv_iload_n hx hb dX12_isAhead_2 rfl (lv_at hl 0 rfl) ?_
      refine lv_bipush (v := 31) hx hb dX12_isAhead_3 (by decide) ?_
      refine lv_icmp_ge (tgt := 29) hx hb dX12_isAhead_5 (by decide) (fun c5 => ?_) (fun c5 => ?_)
      · skip
        have tc5 := f_ge (k := 31) (by decide) c5
        exact te_v hx hb hr hlocks hH hS rfl dX12_isAhead_29
      · skip
        have tc5 := f_nge (k := 31) (by decide) c5
        refine lv_aload_n hx hb dX12_isAhead_8 rfl (lv_at hl 1 rfl) ?_
        refine t_get (ci := 12) (lst := ft12 hg mq) (C := RX12) (F := TX12) (N := 36) hx hb hts uX12 hown hkb hH t_a0 (hO.no t_a0 (by decide)) (fun _ h9 => h9) rfl rfl 1 (by decide) rfl kw_1224 (fun _ h9 => h9) dX12_isAhead_9 (fun v9 h9 => ?_)
        obtain ⟨v9, rfl, t_v9⟩ := h9
        refine lv_bipush (v := 59) hx hb dX12_isAhead_12 (by decide) ?_
        refine lv_iload_n hx hb dX12_isAhead_14 rfl (lv_at hl 0 rfl) ?_
        refine lv_iadd hx hb dX12_isAhead_15 ?_
        refine lv_topi (fun v15 ev15 => ?_)
        have tv15 : v15.toInt = (59) + p2_1.toInt := by rw [ev15]; exact add_i (by decide : (59 : Int32).toInt = 59) rfl (by omega) (by omega)
        refine lv_aload_n hx hb dX12_isAhead_16 rfl (lv_at hl 1 rfl) ?_
        refine t_get (ci := 12) (lst := ft12 hg mq) (C := RX12) (F := TX12) (N := 36) hx hb hts uX12 hown hkb hH t_a0 (hO.no t_a0 (by decide)) (fun _ h9 => h9) rfl rfl 22 (by decide) rfl kw_1245 (fun _ h9 => h9) dX12_isAhead_17 (fun v9 h9 => ?_)
        obtain ⟨v17, rfl, t_v17⟩ := h9
        refine lv_iload_n hx hb dX12_isAhead_20 rfl (lv_at hl 0 rfl) ?_
        refine t_ild hx hb hkb hH t_v17 (hO.no t_v17 (by decide)) (by omega) (by omega) dX12_isAhead_21 (fun v21 h9 => ?_)
        refine t_ist8 hx hb hkb hH hS t_v9 (hO.no t_v9 (by decide)) (by decide) (by omega) (by omega) (by omega) (by omega) (p8_far (by omega) (by omega)) dX12_isAhead_22 (fun H locs hH hS => ?_)
        obtain ⟨v23, ev23⟩ : ∃ y : Int32, y = p2_1 + 1 := ⟨_, rfl⟩
        have tv23 : v23.toInt = p2_1.toInt + (1) := by rw [ev23]; exact add_i rfl (by decide) (by omega) (by omega)
        refine lv_iinc (v := v23) (lv' := [(1, .int v23), (0, .ref a0)]) hx hb dX12_isAhead_23 hl (k := 0) rfl (by rw [ev23]; rfl) (by decide) rfl (fun ls hl => ?_)
        refine lv_goto (tgt := 2) hx hb dX12_isAhead_26 (by decide) ?_
        exact ih2 _ (by omega) v23 _ _ _ rfl (by omega) (by omega) hH hS (lv_sub hl [0, 1] rfl)
  refine lv_istore_n (lv' := [(1, .int 0), (0, .ref a0)]) hx hb dX12_isAhead_1 rfl hl (by decide) rfl (fun ls hl => ?_)
  exact J2 _ 0 _ _ _ rfl (by decide) (by decide) hH hS (lv_sub hl [0, 1] rfl)
set_option maxHeartbeats 4000000 in
set_option maxRecDepth 100000 in
theorem s_M_notes (l : Launch) (D : va_G) (cs : CS) (kf : KF) (T : TF) (O : List Nat) (X : va_W) (a0 hg mq : Nat) (t_a0 : T a0 = some (22, hg, mq)) (b_hg : hg < 90) (hO : okO T O [1, 8, 22]) : TK l D cs kf yX12_notes cX12_notes 2 none { frames := 0, cells := 0, slots := 0, locals := 0 } [.ref a0] T O X (Tv D cs (fun u => u = (T, O, X))) := by
  refine tk_of (by decide) (Nat.le_of_ble_eq_true rfl) (fun p e s m below meth c ls A H locs hx hb hr hml hown hts hlocks hnm hkb hH hS hA hOX hks hE hl => ?_)
  have hown : s.vm.findClass RX12 = some m.cls := hown
  have hl : lv_has ls 2 [(0, .ref a0)] := hl
  have hO0 := hO
  obtain ⟨fs9, ho9, hH⟩ := hH.take t_a0 (hO0.no t_a0 (by decide))
  have hp0 : okL T (ft12 hg mq) fs9 := ho9
  clear ho9
  obtain ⟨v9, fs9, rfl, h9, hp1⟩ := okL_i hp0
  obtain ⟨q0_0, rfl⟩ := h9
  obtain ⟨v9, fs9, rfl, h9, hp2⟩ := okL_i hp1
  obtain ⟨q0_1, rfl, t_q0_1⟩ := h9
  obtain ⟨v9, fs9, rfl, h9, hp3⟩ := okL_i hp2
  obtain ⟨q0_2, rfl, t_q0_2⟩ := h9
  obtain ⟨v9, fs9, rfl, h9, hp4⟩ := okL_i hp3
  obtain ⟨q0_3, rfl, t_q0_3⟩ := h9
  obtain ⟨v9, fs9, rfl, h9, hp5⟩ := okL_i hp4
  obtain ⟨q0_4, rfl, t_q0_4⟩ := h9
  obtain ⟨v9, fs9, rfl, h9, hp6⟩ := okL_i hp5
  obtain ⟨q0_5, rfl, l_q0_5, u_q0_5, eg_q0_5⟩ := h9
  obtain ⟨v9, fs9, rfl, h9, hp7⟩ := okL_i hp6
  obtain ⟨q0_6, rfl⟩ := h9
  obtain ⟨v9, fs9, rfl, h9, hp8⟩ := okL_i hp7
  obtain ⟨q0_7, rfl⟩ := h9
  obtain ⟨v9, fs9, rfl, h9, hp9⟩ := okL_i hp8
  obtain ⟨q0_8, rfl⟩ := h9
  obtain ⟨v9, fs9, rfl, h9, hp10⟩ := okL_i hp9
  obtain ⟨q0_9, rfl⟩ := h9
  obtain ⟨v9, fs9, rfl, h9, hp11⟩ := okL_i hp10
  obtain ⟨q0_10, rfl, l_q0_10, u_q0_10⟩ := h9
  obtain ⟨v9, fs9, rfl, h9, hp12⟩ := okL_i hp11
  obtain ⟨q0_11, rfl⟩ := h9
  obtain ⟨v9, fs9, rfl, h9, hp13⟩ := okL_i hp12
  obtain ⟨q0_12, rfl⟩ := h9
  obtain ⟨v9, fs9, rfl, h9, hp14⟩ := okL_i hp13
  obtain ⟨q0_13, rfl⟩ := h9
  obtain ⟨v9, fs9, rfl, h9, hp15⟩ := okL_i hp14
  obtain ⟨q0_14, rfl⟩ := h9
  obtain ⟨v9, fs9, rfl, h9, hp16⟩ := okL_i hp15
  obtain ⟨q0_15, rfl, t_q0_15⟩ := h9
  obtain ⟨v9, fs9, rfl, h9, hp17⟩ := okL_i hp16
  obtain ⟨q0_16, rfl⟩ := h9
  obtain ⟨v9, fs9, rfl, h9, hp18⟩ := okL_i hp17
  obtain ⟨q0_17, rfl, t_q0_17⟩ := h9
  obtain ⟨v9, fs9, rfl, h9, hp19⟩ := okL_i hp18
  obtain ⟨q0_18, rfl, t_q0_18⟩ := h9
  obtain ⟨v9, fs9, rfl, h9, hp20⟩ := okL_i hp19
  obtain ⟨q0_19, rfl, t_q0_19⟩ := h9
  obtain ⟨v9, fs9, rfl, h9, hp21⟩ := okL_i hp20
  obtain ⟨q0_20, rfl, l_q0_20, u_q0_20⟩ := h9
  obtain ⟨v9, fs9, rfl, h9, hp22⟩ := okL_i hp21
  obtain ⟨q0_21, rfl, t_q0_21⟩ := h9
  obtain ⟨v9, fs9, rfl, h9, hp23⟩ := okL_i hp22
  obtain ⟨q0_22, rfl, t_q0_22⟩ := h9
  obtain ⟨v9, fs9, rfl, h9, hp24⟩ := okL_i hp23
  obtain ⟨q0_23, rfl⟩ := h9
  obtain ⟨v9, fs9, rfl, h9, hp25⟩ := okL_i hp24
  obtain ⟨q0_24, rfl⟩ := h9
  obtain ⟨v9, fs9, rfl, h9, hp26⟩ := okL_i hp25
  obtain ⟨q0_25, rfl⟩ := h9
  obtain ⟨v9, fs9, rfl, h9, hp27⟩ := okL_i hp26
  obtain ⟨q0_26, rfl, t_q0_26⟩ := h9
  obtain ⟨v9, fs9, rfl, h9, hp28⟩ := okL_i hp27
  obtain ⟨q0_27, rfl, t_q0_27⟩ := h9
  obtain ⟨v9, fs9, rfl, h9, hp29⟩ := okL_i hp28
  obtain ⟨q0_28, rfl, t_q0_28⟩ := h9
  obtain ⟨v9, fs9, rfl, h9, hp30⟩ := okL_i hp29
  obtain ⟨q0_29, rfl, t_q0_29⟩ := h9
  obtain ⟨v9, fs9, rfl, h9, hp31⟩ := okL_i hp30
  obtain ⟨q0_30, rfl, t_q0_30⟩ := h9
  obtain ⟨v9, fs9, rfl, h9, hp32⟩ := okL_i hp31
  obtain ⟨q0_31, rfl, t_q0_31⟩ := h9
  obtain ⟨v9, fs9, rfl, h9, hp33⟩ := okL_i hp32
  obtain ⟨q0_32, rfl⟩ := h9
  obtain ⟨v9, fs9, rfl, h9, hp34⟩ := okL_i hp33
  obtain ⟨q0_33, rfl, t_q0_33⟩ := h9
  obtain ⟨v9, fs9, rfl, h9, hp35⟩ := okL_i hp34
  obtain ⟨q0_34, rfl, t_q0_34⟩ := h9
  obtain ⟨v9, fs9, rfl, h9, hp36⟩ := okL_i hp35
  obtain ⟨q0_35, rfl, t_q0_35⟩ := h9
  have hpz := okL_z hp36
  subst hpz
  have hH : HT D cs A T (a0 :: O) ((a0, .inr (12, [.int q0_0, .ref q0_1, .ref q0_2, .ref q0_3, .ref q0_4, .int q0_5, .int q0_6, .int q0_7, .int q0_8, .int q0_9, .int q0_10, .int q0_11, .int q0_12, .int q0_13, .int q0_14, .ref q0_15, .int q0_16, .ref q0_17, .ref q0_18, .ref q0_19, .int q0_20, .ref q0_21, .ref q0_22, .int q0_23, .int q0_24, .int q0_25, .ref q0_26, .ref q0_27, .ref q0_28, .ref q0_29, .ref q0_30, .ref q0_31, .int q0_32, .ref q0_33, .ref q0_34, .ref q0_35])) :: X) H := hH
  have hO : okO T (a0 :: O) [1, 8] := okO.cons (hO0.sub (by decide)) t_a0 (by decide)
  obtain ⟨e9, hs9, hH⟩ := HT.takeA hH t_q0_1 (nm_c (tag_ne t_q0_1 t_a0 (by first | decide | exact fun q => absurd (show 8 = 22 from congrArg Prod.fst q) (by decide))) (hO0.no t_q0_1 (by decide)))
  obtain ⟨f1, rfl, s_f1, g_f1⟩ : ∃ f : Nat → Int32, e9 = .inl (cs.2.1, 3906, .inl f) ∧ B8 3906 f ∧ (3906 = 3906 → f 1 = nI (hg / 6) ∧ f 2 = nI (hg % 6)) := hs9
  have g_f1 := g_f1 rfl
  have hO : okO T (q0_1 :: a0 :: O) [1] := okO.cons (hO.sub (by decide)) t_q0_1 (by decide)
  refine lv_aload_n hx hb dX12_notes_0 rfl (lv_at hl 0 rfl) ?_
  refine x_getk (ci := 12) (C := RX12) (F := TX12) (N := 36) (v := .ref q0_1) hx hb hts uX12 hown hkb hH 1 rfl rfl 1 (by decide) rfl kw_1224 (fun _ h9 => h9) dX12_notes_1 ?_
  refine lv_bipush (v := 90) hx hb dX12_notes_4 (by decide) ?_
  refine xa_ild hx hb hkb hH 0 rfl (by decide) (by decide) dX12_notes_6 ?_
  refine lv_topi (fun v6 ev6 => ?_)
  have tv6 : v6 = f1 90 := by rw [ev6]; rfl
  have bv6 : 0 ≤ v6.toInt ∧ v6.toInt ≤ 10 := by rw [ev6]; exact (s_f1.at (by decide) 90).2.2.2.2.2.1 (by decide)
  refine lv_bipush (v := 10) hx hb dX12_notes_7 (by decide) ?_
  have J56 : ∀ (g56_0 : Nat → Int32) (H : Heap) (locs : List Loc) (ls : Array Slot), (B8 3906 g56_0) → (g56_0 1 = nI (hg / 6) ∧ g56_0 2 = nI (hg % 6)) → ((g56_0 90).toInt ≤ 9) → HT D cs A T (q0_1 :: a0 :: O) ((q0_1, .inl (cs.2.1, 3906, .inl g56_0)) :: (a0, .inr (12, [.int q0_0, .ref q0_1, .ref q0_2, .ref q0_3, .ref q0_4, .int q0_5, .int q0_6, .int q0_7, .int q0_8, .int q0_9, .int q0_10, .int q0_11, .int q0_12, .int q0_13, .int q0_14, .ref q0_15, .int q0_16, .ref q0_17, .ref q0_18, .ref q0_19, .int q0_20, .ref q0_21, .ref q0_22, .int q0_23, .int q0_24, .int q0_25, .ref q0_26, .ref q0_27, .ref q0_28, .ref q0_29, .ref q0_30, .ref q0_31, .int q0_32, .ref q0_33, .ref q0_34, .ref q0_35])) :: X) H → va_S A s.heap H locs → lv_has ls 2 [(0, .ref a0)] → W p l e { frames := 0, cells := 0, slots := 0, locals := 0 } s m [.ref a0].toArray below meth c H locs 0 0 (MQ below (Tv D cs (fun u => u = (T, O, X)) A) [.ref a0].toArray s 0 0 A) (F0 m 56 ls []) := by
    intro g56_0 H locs ls s_g56_0 g_g56_0 i56 hH hS hl
    refine lv_iconst (v := 0) hx hb dX12_notes_56 (by decide) ?_
    have J58 : ∀ (n : Nat) (p58_1 : Int32) (g58_0 : Nat → Int32) (H : Heap) (locs : List Loc) (ls : Array Slot), (31 - p58_1.toInt).toNat = n → (B8 3906 g58_0) → (g58_0 1 = nI (hg / 6) ∧ g58_0 2 = nI (hg % 6)) → (0 ≤ p58_1.toInt) → (p58_1.toInt ≤ 31) → (g58_0 90 = g56_0 90) → HT D cs A T (q0_1 :: a0 :: O) ((q0_1, .inl (cs.2.1, 3906, .inl g58_0)) :: (a0, .inr (12, [.int q0_0, .ref q0_1, .ref q0_2, .ref q0_3, .ref q0_4, .int q0_5, .int q0_6, .int q0_7, .int q0_8, .int q0_9, .int q0_10, .int q0_11, .int q0_12, .int q0_13, .int q0_14, .ref q0_15, .int q0_16, .ref q0_17, .ref q0_18, .ref q0_19, .int q0_20, .ref q0_21, .ref q0_22, .int q0_23, .int q0_24, .int q0_25, .ref q0_26, .ref q0_27, .ref q0_28, .ref q0_29, .ref q0_30, .ref q0_31, .int q0_32, .ref q0_33, .ref q0_34, .ref q0_35])) :: X) H → va_S A s.heap H locs → lv_has ls 2 [(1, .int p58_1), (0, .ref a0)] → W p l e { frames := 0, cells := 0, slots := 0, locals := 0 } s m [.ref a0].toArray below meth c H locs 0 0 (MQ below (Tv D cs (fun u => u = (T, O, X)) A) [.ref a0].toArray s 0 0 A) (F0 m 58 ls []) := by
      intro n
      induction n using Nat.strongRecOn with
      | _ n ih58 =>
        intro p58_1 g58_0 H locs ls hm58 s_g58_0 g_g58_0 l_p58_1 u_p58_1 i58 hH hS hl
        refine lv_iload_n hx hb dX12_notes_58 rfl (lv_at hl 0 rfl) ?_
        refine lv_bipush (v := 31) hx hb dX12_notes_59 (by decide) ?_
        refine lv_icmp_ge (tgt := 96) hx hb dX12_notes_61 (by decide) (fun c61 => ?_) (fun c61 => ?_)
        · skip
          have tc61 := f_ge (k := 31) (by decide) c61
          refine lv_aload_n hx hb dX12_notes_96 rfl (lv_at hl 1 rfl) ?_
          refine x_getk (ci := 12) (C := RX12) (F := TX12) (N := 36) (v := .ref q0_1) hx hb hts uX12 hown hkb hH 1 rfl rfl 1 (by decide) rfl kw_1224 (fun _ h9 => h9) dX12_notes_97 ?_
          refine lv_bipush (v := 90) hx hb dX12_notes_100 (by decide) ?_
          refine lv_dup2_11 hx hb dX12_notes_102 rfl rfl ?_
          refine xa_ild hx hb hkb hH 0 rfl (by decide) (by decide) dX12_notes_103 ?_
          refine lv_topi (fun v103 ev103 => ?_)
          have tv103 : v103 = g58_0 90 := by rw [ev103]; rfl
          have bv103 : 0 ≤ v103.toInt ∧ v103.toInt ≤ 10 := by rw [ev103]; exact (s_g58_0.at (by decide) 90).2.2.2.2.2.1 (by decide)
          have hq9 : v103.toInt = (g56_0 90).toInt := by rw [tv103, i58]
          refine lv_iconst (v := 1) hx hb dX12_notes_104 (by decide) ?_
          refine lv_iadd hx hb dX12_notes_105 ?_
          refine lv_topi (fun v105 ev105 => ?_)
          have tv105 : v105.toInt = v103.toInt + (1) := by rw [ev105]; exact add_i rfl (by decide : (1 : Int32).toInt = 1) (by omega) (by omega)
          refine xa_ist hx hb hkb hH hS 0 rfl (by decide) (by decide) dX12_notes_106 (fun H locs hH hS => ?_)
          have hH : HT D cs A T (q0_1 :: a0 :: O) ((q0_1, .inl (cs.2.1, 3906, .inl (upd g58_0 (90) v105))) :: (a0, .inr (12, [.int q0_0, .ref q0_1, .ref q0_2, .ref q0_3, .ref q0_4, .int q0_5, .int q0_6, .int q0_7, .int q0_8, .int q0_9, .int q0_10, .int q0_11, .int q0_12, .int q0_13, .int q0_14, .ref q0_15, .int q0_16, .ref q0_17, .ref q0_18, .ref q0_19, .int q0_20, .ref q0_21, .ref q0_22, .int q0_23, .int q0_24, .int q0_25, .ref q0_26, .ref q0_27, .ref q0_28, .ref q0_29, .ref q0_30, .ref q0_31, .int q0_32, .ref q0_33, .ref q0_34, .ref q0_35])) :: X) H := hH
          obtain ⟨F106, eF106⟩ : ∃ f9, f9 = upd g58_0 (90) v105 := ⟨_, rfl⟩
          have hH : HT D cs A T (q0_1 :: a0 :: O) ((q0_1, .inl (cs.2.1, 3906, .inl F106)) :: (a0, .inr (12, [.int q0_0, .ref q0_1, .ref q0_2, .ref q0_3, .ref q0_4, .int q0_5, .int q0_6, .int q0_7, .int q0_8, .int q0_9, .int q0_10, .int q0_11, .int q0_12, .int q0_13, .int q0_14, .ref q0_15, .int q0_16, .ref q0_17, .ref q0_18, .ref q0_19, .int q0_20, .ref q0_21, .ref q0_22, .int q0_23, .int q0_24, .int q0_25, .ref q0_26, .ref q0_27, .ref q0_28, .ref q0_29, .ref q0_30, .ref q0_31, .int q0_32, .ref q0_33, .ref q0_34, .ref q0_35])) :: X) H := eF106 ▸ hH
          have g_F106 : F106 1 = nI (hg / 6) ∧ F106 2 = nI (hg % 6) := by rw [eF106]; exact ⟨(upd_ne (by decide)).trans g_g58_0.1, (upd_ne (by decide)).trans g_g58_0.2⟩
          have s_F106 : B8 3906 F106 := by rw [eF106]; exact s_g58_0.put (i := 90) (x := v105) (by decide) (by decide) (⟨fun q9 => absurd q9 (by decide), fun q9 => absurd q9 (by decide), fun q9 => absurd q9 (by decide), fun q9 => absurd q9 (by decide), fun q9 => absurd q9 (by decide), fun _ => ⟨by omega, by omega⟩, fun q9 => absurd q9 (by decide)⟩)
          have hH : HT D cs A T (a0 :: O) ((a0, .inr (12, [.int q0_0, .ref q0_1, .ref q0_2, .ref q0_3, .ref q0_4, .int q0_5, .int q0_6, .int q0_7, .int q0_8, .int q0_9, .int q0_10, .int q0_11, .int q0_12, .int q0_13, .int q0_14, .ref q0_15, .int q0_16, .ref q0_17, .ref q0_18, .ref q0_19, .int q0_20, .ref q0_21, .ref q0_22, .int q0_23, .int q0_24, .int q0_25, .ref q0_26, .ref q0_27, .ref q0_28, .ref q0_29, .ref q0_30, .ref q0_31, .int q0_32, .ref q0_33, .ref q0_34, .ref q0_35])) :: X) H := HT.layA hH t_q0_1 (show sp cs T (8, 3906, hg) _ from ⟨_, rfl, s_F106, fun _ => g_F106⟩)
          have hH : HT D cs A T O X H := HT.lay (ci := 12) hH t_a0 (okL_c (⟨_, rfl⟩) (okL_c (⟨_, rfl, t_q0_1⟩) (okL_c (⟨_, rfl, t_q0_2⟩) (okL_c (⟨_, rfl, t_q0_3⟩) (okL_c (⟨_, rfl, t_q0_4⟩) (okL_c (⟨_, rfl, by omega, by omega, by omega⟩) (okL_c (⟨_, rfl⟩) (okL_c (⟨_, rfl⟩) (okL_c (⟨_, rfl⟩) (okL_c (⟨_, rfl⟩) (okL_c (⟨_, rfl, by omega, by omega⟩) (okL_c (⟨_, rfl⟩) (okL_c (⟨_, rfl⟩) (okL_c (⟨_, rfl⟩) (okL_c (⟨_, rfl⟩) (okL_c (⟨_, rfl, t_q0_15⟩) (okL_c (⟨_, rfl⟩) (okL_c (⟨_, rfl, t_q0_17⟩) (okL_c (⟨_, rfl, t_q0_18⟩) (okL_c (⟨_, rfl, t_q0_19⟩) (okL_c (⟨_, rfl, by omega, by omega⟩) (okL_c (⟨_, rfl, t_q0_21⟩) (okL_c (⟨_, rfl, t_q0_22⟩) (okL_c (⟨_, rfl⟩) (okL_c (⟨_, rfl⟩) (okL_c (⟨_, rfl⟩) (okL_c (⟨_, rfl, t_q0_26⟩) (okL_c (⟨_, rfl, t_q0_27⟩) (okL_c (⟨_, rfl, t_q0_28⟩) (okL_c (⟨_, rfl, t_q0_29⟩) (okL_c (⟨_, rfl, t_q0_30⟩) (okL_c (⟨_, rfl, t_q0_31⟩) (okL_c (⟨_, rfl⟩) (okL_c (⟨_, rfl, t_q0_33⟩) (okL_c (⟨_, rfl, t_q0_34⟩) (okL_c (⟨_, rfl, t_q0_35⟩) (okL_n)))))))))))))))))))))))))))))))))))))
          have hO := hO0
          exact te_v hx hb hr hlocks hH hS (rfl) dX12_notes_107
        · skip
          have tc61 := f_nge (k := 31) (by decide) c61
          refine lv_aload_n hx hb dX12_notes_64 rfl (lv_at hl 1 rfl) ?_
          refine x_getk (ci := 12) (C := RX12) (F := TX12) (N := 36) (v := .ref q0_1) hx hb hts uX12 hown hkb hH 1 rfl rfl 1 (by decide) rfl kw_1224 (fun _ h9 => h9) dX12_notes_65 ?_
          refine lv_bipush (v := 91) hx hb dX12_notes_68 (by decide) ?_
          refine lv_bipush (v := 31) hx hb dX12_notes_70 (by decide) ?_
          refine lv_aload_n hx hb dX12_notes_72 rfl (lv_at hl 1 rfl) ?_
          refine x_getk (ci := 12) (C := RX12) (F := TX12) (N := 36) (v := .ref q0_1) hx hb hts uX12 hown hkb hH 1 rfl rfl 1 (by decide) rfl kw_1224 (fun _ h9 => h9) dX12_notes_73 ?_
          refine lv_bipush (v := 90) hx hb dX12_notes_76 (by decide) ?_
          refine xa_ild hx hb hkb hH 0 rfl (by decide) (by decide) dX12_notes_78 ?_
          refine lv_topi (fun v78 ev78 => ?_)
          have tv78 : v78 = g58_0 90 := by rw [ev78]; rfl
          have bv78 : 0 ≤ v78.toInt ∧ v78.toInt ≤ 10 := by rw [ev78]; exact (s_g58_0.at (by decide) 90).2.2.2.2.2.1 (by decide)
          have hq9 : v78.toInt = (g56_0 90).toInt := by rw [tv78, i58]
          refine lv_imul hx hb dX12_notes_79 ?_
          refine lv_topi (fun v79 ev79 => ?_)
          have tv79 : v79.toInt = (31) * v78.toInt := by rw [ev79]; exact mul_i (by decide : (31 : Int32).toInt = 31) rfl (by omega) (by omega)
          refine lv_iadd hx hb dX12_notes_80 ?_
          refine lv_topi (fun v80 ev80 => ?_)
          have tv80 : v80.toInt = (91) + v79.toInt := by rw [ev80]; exact add_i (by decide : (91 : Int32).toInt = 91) rfl (by omega) (by omega)
          refine lv_iload_n hx hb dX12_notes_81 rfl (lv_at hl 0 rfl) ?_
          refine lv_iadd hx hb dX12_notes_82 ?_
          refine lv_topi (fun v82 ev82 => ?_)
          have tv82 : v82.toInt = v80.toInt + p58_1.toInt := by rw [ev82]; exact add_i rfl rfl (by omega) (by omega)
          refine lv_aload_n hx hb dX12_notes_83 rfl (lv_at hl 1 rfl) ?_
          refine x_getk (ci := 12) (C := RX12) (F := TX12) (N := 36) (v := .ref q0_21) hx hb hts uX12 hown hkb hH 1 rfl rfl 21 (by decide) rfl kw_1244 (fun _ h9 => h9) dX12_notes_84 ?_
          refine lv_iload_n hx hb dX12_notes_87 rfl (lv_at hl 0 rfl) ?_
          refine t_ild hx hb hkb hH t_q0_21 (hO.no t_q0_21 (by decide)) (by omega) (by omega) dX12_notes_88 (fun v88 h9 => ?_)
          refine xa_ist hx hb hkb hH hS 0 rfl (by omega) (by omega) dX12_notes_89 (fun H locs hH hS => ?_)
          have hH : HT D cs A T (q0_1 :: a0 :: O) ((q0_1, .inl (cs.2.1, 3906, .inl (upd g58_0 (v82.toInt.toNat) v88))) :: (a0, .inr (12, [.int q0_0, .ref q0_1, .ref q0_2, .ref q0_3, .ref q0_4, .int q0_5, .int q0_6, .int q0_7, .int q0_8, .int q0_9, .int q0_10, .int q0_11, .int q0_12, .int q0_13, .int q0_14, .ref q0_15, .int q0_16, .ref q0_17, .ref q0_18, .ref q0_19, .int q0_20, .ref q0_21, .ref q0_22, .int q0_23, .int q0_24, .int q0_25, .ref q0_26, .ref q0_27, .ref q0_28, .ref q0_29, .ref q0_30, .ref q0_31, .int q0_32, .ref q0_33, .ref q0_34, .ref q0_35])) :: X) H := hH
          obtain ⟨F89, eF89⟩ : ∃ f9, f9 = upd g58_0 (v82.toInt.toNat) v88 := ⟨_, rfl⟩
          have hH : HT D cs A T (q0_1 :: a0 :: O) ((q0_1, .inl (cs.2.1, 3906, .inl F89)) :: (a0, .inr (12, [.int q0_0, .ref q0_1, .ref q0_2, .ref q0_3, .ref q0_4, .int q0_5, .int q0_6, .int q0_7, .int q0_8, .int q0_9, .int q0_10, .int q0_11, .int q0_12, .int q0_13, .int q0_14, .ref q0_15, .int q0_16, .ref q0_17, .ref q0_18, .ref q0_19, .int q0_20, .ref q0_21, .ref q0_22, .int q0_23, .int q0_24, .int q0_25, .ref q0_26, .ref q0_27, .ref q0_28, .ref q0_29, .ref q0_30, .ref q0_31, .int q0_32, .ref q0_33, .ref q0_34, .ref q0_35])) :: X) H := eF89 ▸ hH
          have g_F89 : F89 1 = nI (hg / 6) ∧ F89 2 = nI (hg % 6) := by rw [eF89]; exact ⟨(upd_ne (by omega)).trans g_g58_0.1, (upd_ne (by omega)).trans g_g58_0.2⟩
          have s_F89 : B8 3906 F89 := by rw [eF89]; exact s_g58_0.put (i := v82) (x := v88) (by omega) (by omega) (p8_far (by omega) (⟨by omega, by omega⟩))
          obtain ⟨v90, ev90⟩ : ∃ y : Int32, y = p58_1 + 1 := ⟨_, rfl⟩
          have tv90 : v90.toInt = p58_1.toInt + (1) := by rw [ev90]; exact add_i rfl (by decide) (by omega) (by omega)
          refine lv_iinc (v := v90) (lv' := [(1, .int v90), (0, .ref a0)]) hx hb dX12_notes_90 hl (k := 0) rfl (by rw [ev90]; rfl) (by decide) rfl (fun ls hl => ?_)
          refine lv_goto (tgt := 58) hx hb dX12_notes_93 (by decide) ?_
          exact ih58 _ (by omega) v90 F89 _ _ _ rfl s_F89 g_F89 (by omega) (by omega) (by first | rfl | (rw [eF89, upd_ne (by omega)]; exact i58)) hH hS (lv_sub hl [0, 1] rfl)
    refine lv_istore_n (lv' := [(1, .int 0), (0, .ref a0)]) hx hb dX12_notes_57 rfl hl (by decide) rfl (fun ls hl => ?_)
    have z_0 : (0 : Int32).toInt = 0 := by decide
    exact J58 _ 0 g56_0 _ _ _ rfl s_g56_0 g_g56_0 (by decide) (by decide) (by first | rfl | (rw [eF89, upd_ne (by omega)]; exact i58)) hH hS (lv_sub hl [0, 1] rfl)
  refine lv_icmp_ne (tgt := 56) hx hb dX12_notes_9 (by decide) (fun c9 => ?_) (fun c9 => ?_)
  · skip
    have tc9 := f_ne (k := 10) (by decide) c9
    exact J56 f1 _ _ _ s_f1 g_f1 (by first | (rw [← tv6]; omega) | (rw [eF55, upd_eq]; omega)) hH hS (lv_sub hl [0] rfl)
  · skip
    have tc9 := f_eq (k := 10) (by decide) c9
    refine lv_iconst (v := 0) hx hb dX12_notes_12 (by decide) ?_
    have J14 : ∀ (n : Nat) (p14_1 : Int32) (g14_0 : Nat → Int32) (H : Heap) (locs : List Loc) (ls : Array Slot), (279 - p14_1.toInt).toNat = n → (B8 3906 g14_0) → (g14_0 1 = nI (hg / 6) ∧ g14_0 2 = nI (hg % 6)) → (0 ≤ p14_1.toInt) → (p14_1.toInt ≤ 279) → (g14_0 90 = f1 90) → HT D cs A T (q0_1 :: a0 :: O) ((q0_1, .inl (cs.2.1, 3906, .inl g14_0)) :: (a0, .inr (12, [.int q0_0, .ref q0_1, .ref q0_2, .ref q0_3, .ref q0_4, .int q0_5, .int q0_6, .int q0_7, .int q0_8, .int q0_9, .int q0_10, .int q0_11, .int q0_12, .int q0_13, .int q0_14, .ref q0_15, .int q0_16, .ref q0_17, .ref q0_18, .ref q0_19, .int q0_20, .ref q0_21, .ref q0_22, .int q0_23, .int q0_24, .int q0_25, .ref q0_26, .ref q0_27, .ref q0_28, .ref q0_29, .ref q0_30, .ref q0_31, .int q0_32, .ref q0_33, .ref q0_34, .ref q0_35])) :: X) H → va_S A s.heap H locs → lv_has ls 2 [(1, .int p14_1), (0, .ref a0)] → W p l e { frames := 0, cells := 0, slots := 0, locals := 0 } s m [.ref a0].toArray below meth c H locs 0 0 (MQ below (Tv D cs (fun u => u = (T, O, X)) A) [.ref a0].toArray s 0 0 A) (F0 m 14 ls []) := by
      intro n
      induction n using Nat.strongRecOn with
      | _ n ih14 =>
        intro p14_1 g14_0 H locs ls hm14 s_g14_0 g_g14_0 l_p14_1 u_p14_1 i14 hH hS hl
        refine lv_iload_n hx hb dX12_notes_14 rfl (lv_at hl 0 rfl) ?_
        refine lv_sipush (v := 279) hx hb dX12_notes_15 (by decide) ?_
        refine lv_icmp_ge (tgt := 45) hx hb dX12_notes_18 (by decide) (fun c18 => ?_) (fun c18 => ?_)
        · skip
          have tc18 := f_ge (k := 279) (by decide) c18
          refine lv_aload_n hx hb dX12_notes_45 rfl (lv_at hl 1 rfl) ?_
          refine x_getk (ci := 12) (C := RX12) (F := TX12) (N := 36) (v := .ref q0_1) hx hb hts uX12 hown hkb hH 1 rfl rfl 1 (by decide) rfl kw_1224 (fun _ h9 => h9) dX12_notes_46 ?_
          refine lv_bipush (v := 90) hx hb dX12_notes_49 (by decide) ?_
          refine lv_dup2_11 hx hb dX12_notes_51 rfl rfl ?_
          refine xa_ild hx hb hkb hH 0 rfl (by decide) (by decide) dX12_notes_52 ?_
          refine lv_topi (fun v52 ev52 => ?_)
          have tv52 : v52 = g14_0 90 := by rw [ev52]; rfl
          have bv52 : 0 ≤ v52.toInt ∧ v52.toInt ≤ 10 := by rw [ev52]; exact (s_g14_0.at (by decide) 90).2.2.2.2.2.1 (by decide)
          have hq9 : v52.toInt = v6.toInt := by rw [tv52, i14, tv6]
          refine lv_iconst (v := 1) hx hb dX12_notes_53 (by decide) ?_
          refine lv_isub hx hb dX12_notes_54 ?_
          refine lv_topi (fun v54 ev54 => ?_)
          have tv54 : v54.toInt = v52.toInt - (1) := by rw [ev54]; exact sub_i rfl (by decide : (1 : Int32).toInt = 1) (by omega) (by omega)
          refine xa_ist hx hb hkb hH hS 0 rfl (by decide) (by decide) dX12_notes_55 (fun H locs hH hS => ?_)
          have hH : HT D cs A T (q0_1 :: a0 :: O) ((q0_1, .inl (cs.2.1, 3906, .inl (upd g14_0 (90) v54))) :: (a0, .inr (12, [.int q0_0, .ref q0_1, .ref q0_2, .ref q0_3, .ref q0_4, .int q0_5, .int q0_6, .int q0_7, .int q0_8, .int q0_9, .int q0_10, .int q0_11, .int q0_12, .int q0_13, .int q0_14, .ref q0_15, .int q0_16, .ref q0_17, .ref q0_18, .ref q0_19, .int q0_20, .ref q0_21, .ref q0_22, .int q0_23, .int q0_24, .int q0_25, .ref q0_26, .ref q0_27, .ref q0_28, .ref q0_29, .ref q0_30, .ref q0_31, .int q0_32, .ref q0_33, .ref q0_34, .ref q0_35])) :: X) H := hH
          obtain ⟨F55, eF55⟩ : ∃ f9, f9 = upd g14_0 (90) v54 := ⟨_, rfl⟩
          have hH : HT D cs A T (q0_1 :: a0 :: O) ((q0_1, .inl (cs.2.1, 3906, .inl F55)) :: (a0, .inr (12, [.int q0_0, .ref q0_1, .ref q0_2, .ref q0_3, .ref q0_4, .int q0_5, .int q0_6, .int q0_7, .int q0_8, .int q0_9, .int q0_10, .int q0_11, .int q0_12, .int q0_13, .int q0_14, .ref q0_15, .int q0_16, .ref q0_17, .ref q0_18, .ref q0_19, .int q0_20, .ref q0_21, .ref q0_22, .int q0_23, .int q0_24, .int q0_25, .ref q0_26, .ref q0_27, .ref q0_28, .ref q0_29, .ref q0_30, .ref q0_31, .int q0_32, .ref q0_33, .ref q0_34, .ref q0_35])) :: X) H := eF55 ▸ hH
          have g_F55 : F55 1 = nI (hg / 6) ∧ F55 2 = nI (hg % 6) := by rw [eF55]; exact ⟨(upd_ne (by decide)).trans g_g14_0.1, (upd_ne (by decide)).trans g_g14_0.2⟩
          have s_F55 : B8 3906 F55 := by rw [eF55]; exact s_g14_0.put (i := 90) (x := v54) (by decide) (by decide) (⟨fun q9 => absurd q9 (by decide), fun q9 => absurd q9 (by decide), fun q9 => absurd q9 (by decide), fun q9 => absurd q9 (by decide), fun q9 => absurd q9 (by decide), fun _ => ⟨by omega, by omega⟩, fun q9 => absurd q9 (by decide)⟩)
          exact J56 F55 _ _ _ s_F55 g_F55 (by first | (rw [← tv6]; omega) | (rw [eF55, upd_eq]; omega)) hH hS (lv_sub hl [1] rfl)
        · skip
          have tc18 := f_nge (k := 279) (by decide) c18
          refine lv_aload_n hx hb dX12_notes_21 rfl (lv_at hl 1 rfl) ?_
          refine x_getk (ci := 12) (C := RX12) (F := TX12) (N := 36) (v := .ref q0_1) hx hb hts uX12 hown hkb hH 1 rfl rfl 1 (by decide) rfl kw_1224 (fun _ h9 => h9) dX12_notes_22 ?_
          refine lv_bipush (v := 91) hx hb dX12_notes_25 (by decide) ?_
          refine lv_iload_n hx hb dX12_notes_27 rfl (lv_at hl 0 rfl) ?_
          refine lv_iadd hx hb dX12_notes_28 ?_
          refine lv_topi (fun v28 ev28 => ?_)
          have tv28 : v28.toInt = (91) + p14_1.toInt := by rw [ev28]; exact add_i (by decide : (91 : Int32).toInt = 91) rfl (by omega) (by omega)
          refine lv_aload_n hx hb dX12_notes_29 rfl (lv_at hl 1 rfl) ?_
          refine x_getk (ci := 12) (C := RX12) (F := TX12) (N := 36) (v := .ref q0_1) hx hb hts uX12 hown hkb hH 1 rfl rfl 1 (by decide) rfl kw_1224 (fun _ h9 => h9) dX12_notes_30 ?_
          refine lv_bipush (v := 122) hx hb dX12_notes_33 (by decide) ?_
          refine lv_iload_n hx hb dX12_notes_35 rfl (lv_at hl 0 rfl) ?_
          refine lv_iadd hx hb dX12_notes_36 ?_
          refine lv_topi (fun v36 ev36 => ?_)
          have tv36 : v36.toInt = (122) + p14_1.toInt := by rw [ev36]; exact add_i (by decide : (122 : Int32).toInt = 122) rfl (by omega) (by omega)
          refine xa_ild hx hb hkb hH 0 rfl (by omega) (by omega) dX12_notes_37 ?_
          refine lv_topi (fun v37 ev37 => ?_)
          have tv37 : v37 = g14_0 v36.toInt.toNat := ev37
          refine xa_ist hx hb hkb hH hS 0 rfl (by omega) (by omega) dX12_notes_38 (fun H locs hH hS => ?_)
          have hH : HT D cs A T (q0_1 :: a0 :: O) ((q0_1, .inl (cs.2.1, 3906, .inl (upd g14_0 (v28.toInt.toNat) v37))) :: (a0, .inr (12, [.int q0_0, .ref q0_1, .ref q0_2, .ref q0_3, .ref q0_4, .int q0_5, .int q0_6, .int q0_7, .int q0_8, .int q0_9, .int q0_10, .int q0_11, .int q0_12, .int q0_13, .int q0_14, .ref q0_15, .int q0_16, .ref q0_17, .ref q0_18, .ref q0_19, .int q0_20, .ref q0_21, .ref q0_22, .int q0_23, .int q0_24, .int q0_25, .ref q0_26, .ref q0_27, .ref q0_28, .ref q0_29, .ref q0_30, .ref q0_31, .int q0_32, .ref q0_33, .ref q0_34, .ref q0_35])) :: X) H := hH
          obtain ⟨F38, eF38⟩ : ∃ f9, f9 = upd g14_0 (v28.toInt.toNat) v37 := ⟨_, rfl⟩
          have hH : HT D cs A T (q0_1 :: a0 :: O) ((q0_1, .inl (cs.2.1, 3906, .inl F38)) :: (a0, .inr (12, [.int q0_0, .ref q0_1, .ref q0_2, .ref q0_3, .ref q0_4, .int q0_5, .int q0_6, .int q0_7, .int q0_8, .int q0_9, .int q0_10, .int q0_11, .int q0_12, .int q0_13, .int q0_14, .ref q0_15, .int q0_16, .ref q0_17, .ref q0_18, .ref q0_19, .int q0_20, .ref q0_21, .ref q0_22, .int q0_23, .int q0_24, .int q0_25, .ref q0_26, .ref q0_27, .ref q0_28, .ref q0_29, .ref q0_30, .ref q0_31, .int q0_32, .ref q0_33, .ref q0_34, .ref q0_35])) :: X) H := eF38 ▸ hH
          have g_F38 : F38 1 = nI (hg / 6) ∧ F38 2 = nI (hg % 6) := by rw [eF38]; exact ⟨(upd_ne (by omega)).trans g_g14_0.1, (upd_ne (by omega)).trans g_g14_0.2⟩
          have s_F38 : B8 3906 F38 := by rw [eF38]; exact s_g14_0.put (i := v28) (x := v37) (by omega) (by omega) (p8_far (by omega) (⟨by omega, by omega⟩))
          obtain ⟨v39, ev39⟩ : ∃ y : Int32, y = p14_1 + 1 := ⟨_, rfl⟩
          have tv39 : v39.toInt = p14_1.toInt + (1) := by rw [ev39]; exact add_i rfl (by decide) (by omega) (by omega)
          refine lv_iinc (v := v39) (lv' := [(1, .int v39), (0, .ref a0)]) hx hb dX12_notes_39 hl (k := 0) rfl (by rw [ev39]; rfl) (by decide) rfl (fun ls hl => ?_)
          refine lv_goto (tgt := 14) hx hb dX12_notes_42 (by decide) ?_
          exact ih14 _ (by omega) v39 F38 _ _ _ rfl s_F38 g_F38 (by omega) (by omega) (by first | rfl | (rw [eF38, upd_ne (by omega)]; exact i14)) hH hS (lv_sub hl [0, 1] rfl)
    refine lv_istore_n (lv' := [(1, .int 0), (0, .ref a0)]) hx hb dX12_notes_13 rfl hl (by decide) rfl (fun ls hl => ?_)
    have z_0 : (0 : Int32).toInt = 0 := by decide
    exact J14 _ 0 f1 _ _ _ rfl s_f1 g_f1 (by decide) (by decide) (by first | rfl | (rw [eF38, upd_ne (by omega)]; exact i14)) hH hS (lv_sub hl [0, 1] rfl)
set_option maxHeartbeats 4000000 in
set_option maxRecDepth 100000 in
theorem s_M_undo (l : Launch) (D : va_G) (cs : CS) (kf : KF) (T : TF) (O : List Nat) (X : va_W) (a0 hg mq : Nat) (x1 : Int32) (t_a0 : T a0 = some (22, hg, mq)) (b_hg : hg < 90) (hO : okO T O [8, 22]) : TK l D cs kf yX12_undo cX12_undo 3 (some (.int)) { frames := 1, cells := 0, slots := 0, locals := 25 } [.ref a0, .int x1] T O X (Ti D cs (fun r u => u = (T, O, X) ∧ -3 ≤ r.toInt ∧ r.toInt ≤ 10)) := by
  refine tk_of (by decide) (Nat.le_of_ble_eq_true rfl) (fun p e s m below meth c ls A H locs hx hb hr hml hown hts hlocks hnm hkb hH hS hA hOX hks hE hl => ?_)
  have hown : s.vm.findClass RX12 = some m.cls := hown
  have hl : lv_has ls 3 [(0, .ref a0), (1, .int x1)] := hl
  have hO0 := hO
  obtain ⟨fs9, ho9, hH⟩ := hH.take t_a0 (hO0.no t_a0 (by decide))
  have hp0 : okL T (ft12 hg mq) fs9 := ho9
  clear ho9
  obtain ⟨v9, fs9, rfl, h9, hp1⟩ := okL_i hp0
  obtain ⟨q0_0, rfl⟩ := h9
  obtain ⟨v9, fs9, rfl, h9, hp2⟩ := okL_i hp1
  obtain ⟨q0_1, rfl, t_q0_1⟩ := h9
  obtain ⟨v9, fs9, rfl, h9, hp3⟩ := okL_i hp2
  obtain ⟨q0_2, rfl, t_q0_2⟩ := h9
  obtain ⟨v9, fs9, rfl, h9, hp4⟩ := okL_i hp3
  obtain ⟨q0_3, rfl, t_q0_3⟩ := h9
  obtain ⟨v9, fs9, rfl, h9, hp5⟩ := okL_i hp4
  obtain ⟨q0_4, rfl, t_q0_4⟩ := h9
  obtain ⟨v9, fs9, rfl, h9, hp6⟩ := okL_i hp5
  obtain ⟨q0_5, rfl, l_q0_5, u_q0_5, eg_q0_5⟩ := h9
  obtain ⟨v9, fs9, rfl, h9, hp7⟩ := okL_i hp6
  obtain ⟨q0_6, rfl⟩ := h9
  obtain ⟨v9, fs9, rfl, h9, hp8⟩ := okL_i hp7
  obtain ⟨q0_7, rfl⟩ := h9
  obtain ⟨v9, fs9, rfl, h9, hp9⟩ := okL_i hp8
  obtain ⟨q0_8, rfl⟩ := h9
  obtain ⟨v9, fs9, rfl, h9, hp10⟩ := okL_i hp9
  obtain ⟨q0_9, rfl⟩ := h9
  obtain ⟨v9, fs9, rfl, h9, hp11⟩ := okL_i hp10
  obtain ⟨q0_10, rfl, l_q0_10, u_q0_10⟩ := h9
  obtain ⟨v9, fs9, rfl, h9, hp12⟩ := okL_i hp11
  obtain ⟨q0_11, rfl⟩ := h9
  obtain ⟨v9, fs9, rfl, h9, hp13⟩ := okL_i hp12
  obtain ⟨q0_12, rfl⟩ := h9
  obtain ⟨v9, fs9, rfl, h9, hp14⟩ := okL_i hp13
  obtain ⟨q0_13, rfl⟩ := h9
  obtain ⟨v9, fs9, rfl, h9, hp15⟩ := okL_i hp14
  obtain ⟨q0_14, rfl⟩ := h9
  obtain ⟨v9, fs9, rfl, h9, hp16⟩ := okL_i hp15
  obtain ⟨q0_15, rfl, t_q0_15⟩ := h9
  obtain ⟨v9, fs9, rfl, h9, hp17⟩ := okL_i hp16
  obtain ⟨q0_16, rfl⟩ := h9
  obtain ⟨v9, fs9, rfl, h9, hp18⟩ := okL_i hp17
  obtain ⟨q0_17, rfl, t_q0_17⟩ := h9
  obtain ⟨v9, fs9, rfl, h9, hp19⟩ := okL_i hp18
  obtain ⟨q0_18, rfl, t_q0_18⟩ := h9
  obtain ⟨v9, fs9, rfl, h9, hp20⟩ := okL_i hp19
  obtain ⟨q0_19, rfl, t_q0_19⟩ := h9
  obtain ⟨v9, fs9, rfl, h9, hp21⟩ := okL_i hp20
  obtain ⟨q0_20, rfl, l_q0_20, u_q0_20⟩ := h9
  obtain ⟨v9, fs9, rfl, h9, hp22⟩ := okL_i hp21
  obtain ⟨q0_21, rfl, t_q0_21⟩ := h9
  obtain ⟨v9, fs9, rfl, h9, hp23⟩ := okL_i hp22
  obtain ⟨q0_22, rfl, t_q0_22⟩ := h9
  obtain ⟨v9, fs9, rfl, h9, hp24⟩ := okL_i hp23
  obtain ⟨q0_23, rfl⟩ := h9
  obtain ⟨v9, fs9, rfl, h9, hp25⟩ := okL_i hp24
  obtain ⟨q0_24, rfl⟩ := h9
  obtain ⟨v9, fs9, rfl, h9, hp26⟩ := okL_i hp25
  obtain ⟨q0_25, rfl⟩ := h9
  obtain ⟨v9, fs9, rfl, h9, hp27⟩ := okL_i hp26
  obtain ⟨q0_26, rfl, t_q0_26⟩ := h9
  obtain ⟨v9, fs9, rfl, h9, hp28⟩ := okL_i hp27
  obtain ⟨q0_27, rfl, t_q0_27⟩ := h9
  obtain ⟨v9, fs9, rfl, h9, hp29⟩ := okL_i hp28
  obtain ⟨q0_28, rfl, t_q0_28⟩ := h9
  obtain ⟨v9, fs9, rfl, h9, hp30⟩ := okL_i hp29
  obtain ⟨q0_29, rfl, t_q0_29⟩ := h9
  obtain ⟨v9, fs9, rfl, h9, hp31⟩ := okL_i hp30
  obtain ⟨q0_30, rfl, t_q0_30⟩ := h9
  obtain ⟨v9, fs9, rfl, h9, hp32⟩ := okL_i hp31
  obtain ⟨q0_31, rfl, t_q0_31⟩ := h9
  obtain ⟨v9, fs9, rfl, h9, hp33⟩ := okL_i hp32
  obtain ⟨q0_32, rfl⟩ := h9
  obtain ⟨v9, fs9, rfl, h9, hp34⟩ := okL_i hp33
  obtain ⟨q0_33, rfl, t_q0_33⟩ := h9
  obtain ⟨v9, fs9, rfl, h9, hp35⟩ := okL_i hp34
  obtain ⟨q0_34, rfl, t_q0_34⟩ := h9
  obtain ⟨v9, fs9, rfl, h9, hp36⟩ := okL_i hp35
  obtain ⟨q0_35, rfl, t_q0_35⟩ := h9
  have hpz := okL_z hp36
  subst hpz
  have hH : HT D cs A T (a0 :: O) ((a0, .inr (12, [.int q0_0, .ref q0_1, .ref q0_2, .ref q0_3, .ref q0_4, .int q0_5, .int q0_6, .int q0_7, .int q0_8, .int q0_9, .int q0_10, .int q0_11, .int q0_12, .int q0_13, .int q0_14, .ref q0_15, .int q0_16, .ref q0_17, .ref q0_18, .ref q0_19, .int q0_20, .ref q0_21, .ref q0_22, .int q0_23, .int q0_24, .int q0_25, .ref q0_26, .ref q0_27, .ref q0_28, .ref q0_29, .ref q0_30, .ref q0_31, .int q0_32, .ref q0_33, .ref q0_34, .ref q0_35])) :: X) H := hH
  have hO : okO T (a0 :: O) [8] := okO.cons (hO0.sub (by decide)) t_a0 (by decide)
  obtain ⟨e9, hs9, hH⟩ := HT.takeA hH t_q0_1 (nm_c (tag_ne t_q0_1 t_a0 (by first | decide | exact fun q => absurd (show 8 = 22 from congrArg Prod.fst q) (by decide))) (hO0.no t_q0_1 (by decide)))
  obtain ⟨f1, rfl, s_f1, g_f1⟩ : ∃ f : Nat → Int32, e9 = .inl (cs.2.1, 3906, .inl f) ∧ B8 3906 f ∧ (3906 = 3906 → f 1 = nI (hg / 6) ∧ f 2 = nI (hg % 6)) := hs9
  have g_f1 := g_f1 rfl
  have hO : okO T (q0_1 :: a0 :: O) [] := okO.cons (hO.sub (by decide)) t_q0_1 (by decide)
  refine lv_aload_n hx hb dX12_undo_0 rfl (lv_at hl 0 rfl) ?_
  refine lv_iconst (v := 0) hx hb dX12_undo_1 (by decide) ?_
  refine x_putk (ci := 12) (v := .int 0) (ty := tyX12 0) (C := RX12) (F := TX12) (N := 36) hx hb hts uX12 tyX12 tyX12_ok nmX12 hown hkb hH hS 1 rfl rfl 0 (by decide) kw_1223 (fun _ h9 => h9) rfl (tyX12_ok 0 (by decide)) rfl rfl (Nat.le_of_ble_eq_true rfl) dX12_undo_2 (fun H locs hH hS => ?_)
  have hH : HT D cs A T (q0_1 :: a0 :: O) ((q0_1, .inl (cs.2.1, 3906, .inl f1)) :: (a0, .inr (12, [.int 0, .ref q0_1, .ref q0_2, .ref q0_3, .ref q0_4, .int q0_5, .int q0_6, .int q0_7, .int q0_8, .int q0_9, .int q0_10, .int q0_11, .int q0_12, .int q0_13, .int q0_14, .ref q0_15, .int q0_16, .ref q0_17, .ref q0_18, .ref q0_19, .int q0_20, .ref q0_21, .ref q0_22, .int q0_23, .int q0_24, .int q0_25, .ref q0_26, .ref q0_27, .ref q0_28, .ref q0_29, .ref q0_30, .ref q0_31, .int q0_32, .ref q0_33, .ref q0_34, .ref q0_35])) :: X) H := hH
  refine lv_iload_n hx hb dX12_undo_5 rfl (lv_at hl 1 rfl) ?_
  refine lv_i2l hx hb dX12_undo_6 rfl ?_
  refine lv_lconst (v := 1) hx hb dX12_undo_7 (by decide) ?_
  refine lv_ldc2 hx hb hown (hts _ kw_1602) dX12_undo_8 ?_
  refine tk_i hH hS hA (tr_S (n := 3) (As := [.long x1.toInt64, .long 1, .long 10]) hx hb hml hown hts hkb hH (ox_c (ox_c hOX)) hks hE hS hA (s_M_within l D cs kf T (q0_1 :: a0 :: O) ((q0_1, .inl (cs.2.1, 3906, .inl f1)) :: (a0, .inr (12, [.int 0, .ref q0_1, .ref q0_2, .ref q0_3, .ref q0_4, .int q0_5, .int q0_6, .int q0_7, .int q0_8, .int q0_9, .int q0_10, .int q0_11, .int q0_12, .int q0_13, .int q0_14, .ref q0_15, .int q0_16, .ref q0_17, .ref q0_18, .ref q0_19, .int q0_20, .ref q0_21, .ref q0_22, .int q0_23, .int q0_24, .int q0_25, .ref q0_26, .ref q0_27, .ref q0_28, .ref q0_29, .ref q0_30, .ref q0_31, .int q0_32, .ref q0_33, .ref q0_34, .ref q0_35])) :: X) x1.toInt64 1 10  (hO.sub (by decide))) kw_1341 kw_1342 kw_13 kw_1343 (by decide +kernel) ⟨Nat.le_of_ble_eq_true rfl, Nat.le_of_ble_eq_true rfl⟩ rfl rfl hl.1 (Nat.le_of_ble_eq_true rfl) dX12_undo_11 ⟨Nat.le_of_ble_eq_true rfl, Nat.le_of_ble_eq_true rfl⟩) (fun v11 u H locs hz9 hH hS => ?_)
  obtain ⟨rfl, l_v11, u_v11, x_v110, x_v111⟩ := hz9
  simp only [Int32.toInt_toInt64] at x_v110 x_v111
  have k9_1 : (1 : Int64).toInt = 1 := by decide
  have k9_10 : (10 : Int64).toInt = 10 := by decide
  have hH : HT D cs A T (q0_1 :: a0 :: O) ((q0_1, .inl (cs.2.1, 3906, .inl f1)) :: (a0, .inr (12, [.int 0, .ref q0_1, .ref q0_2, .ref q0_3, .ref q0_4, .int q0_5, .int q0_6, .int q0_7, .int q0_8, .int q0_9, .int q0_10, .int q0_11, .int q0_12, .int q0_13, .int q0_14, .ref q0_15, .int q0_16, .ref q0_17, .ref q0_18, .ref q0_19, .int q0_20, .ref q0_21, .ref q0_22, .int q0_23, .int q0_24, .int q0_25, .ref q0_26, .ref q0_27, .ref q0_28, .ref q0_29, .ref q0_30, .ref q0_31, .int q0_32, .ref q0_33, .ref q0_34, .ref q0_35])) :: X) H := hH
  refine W.widen (k := 0) (n := 0) (Nat.le_of_ble_eq_true rfl) (Nat.le_of_ble_eq_true rfl) ?_
  refine lv_if_eq (tgt := 28) hx hb dX12_undo_14 (by decide) (fun c14 => ?_) (fun c14 => ?_)
  · skip
    have tc14 := f_eq (k := 0) (by decide) c14
    clear x_v110
    replace x_v111 := x_v111.resolve_left (fun q9 => q9 tc14)
    refine lv_bipush (v := (-3)) hx hb dX12_undo_28 (by decide) ?_
    have hH : HT D cs A T (a0 :: O) ((a0, .inr (12, [.int 0, .ref q0_1, .ref q0_2, .ref q0_3, .ref q0_4, .int q0_5, .int q0_6, .int q0_7, .int q0_8, .int q0_9, .int q0_10, .int q0_11, .int q0_12, .int q0_13, .int q0_14, .ref q0_15, .int q0_16, .ref q0_17, .ref q0_18, .ref q0_19, .int q0_20, .ref q0_21, .ref q0_22, .int q0_23, .int q0_24, .int q0_25, .ref q0_26, .ref q0_27, .ref q0_28, .ref q0_29, .ref q0_30, .ref q0_31, .int q0_32, .ref q0_33, .ref q0_34, .ref q0_35])) :: X) H := HT.layA hH t_q0_1 (show sp cs T (8, 3906, hg) _ from ⟨_, rfl, s_f1, fun _ => g_f1⟩)
    have hH : HT D cs A T O X H := HT.lay (ci := 12) hH t_a0 (okL_c (⟨_, rfl⟩) (okL_c (⟨_, rfl, t_q0_1⟩) (okL_c (⟨_, rfl, t_q0_2⟩) (okL_c (⟨_, rfl, t_q0_3⟩) (okL_c (⟨_, rfl, t_q0_4⟩) (okL_c (⟨_, rfl, by omega, by omega, by omega⟩) (okL_c (⟨_, rfl⟩) (okL_c (⟨_, rfl⟩) (okL_c (⟨_, rfl⟩) (okL_c (⟨_, rfl⟩) (okL_c (⟨_, rfl, by omega, by omega⟩) (okL_c (⟨_, rfl⟩) (okL_c (⟨_, rfl⟩) (okL_c (⟨_, rfl⟩) (okL_c (⟨_, rfl⟩) (okL_c (⟨_, rfl, t_q0_15⟩) (okL_c (⟨_, rfl⟩) (okL_c (⟨_, rfl, t_q0_17⟩) (okL_c (⟨_, rfl, t_q0_18⟩) (okL_c (⟨_, rfl, t_q0_19⟩) (okL_c (⟨_, rfl, by omega, by omega⟩) (okL_c (⟨_, rfl, t_q0_21⟩) (okL_c (⟨_, rfl, t_q0_22⟩) (okL_c (⟨_, rfl⟩) (okL_c (⟨_, rfl⟩) (okL_c (⟨_, rfl⟩) (okL_c (⟨_, rfl, t_q0_26⟩) (okL_c (⟨_, rfl, t_q0_27⟩) (okL_c (⟨_, rfl, t_q0_28⟩) (okL_c (⟨_, rfl, t_q0_29⟩) (okL_c (⟨_, rfl, t_q0_30⟩) (okL_c (⟨_, rfl, t_q0_31⟩) (okL_c (⟨_, rfl⟩) (okL_c (⟨_, rfl, t_q0_33⟩) (okL_c (⟨_, rfl, t_q0_34⟩) (okL_c (⟨_, rfl, t_q0_35⟩) (okL_n)))))))))))))))))))))))))))))))))))))
    have hO := hO0
    have z9_m3 : ((-3) : Int32).toInt = -3 := by decide
    exact te_i hx hb hr hlocks hH hS (⟨rfl, by decide, by decide⟩) dX12_undo_30
  · skip
    have tc14 := f_ne (k := 0) (by decide) c14
    replace x_v110 := x_v110.resolve_left tc14
    clear x_v111
    refine lv_iload_n hx hb dX12_undo_17 rfl (lv_at hl 1 rfl) ?_
    refine lv_aload_n hx hb dX12_undo_18 rfl (lv_at hl 0 rfl) ?_
    refine x_getk (ci := 12) (C := RX12) (F := TX12) (N := 36) (v := .ref q0_1) hx hb hts uX12 hown hkb hH 1 rfl rfl 1 (by decide) rfl kw_1224 (fun _ h9 => h9) dX12_undo_19 ?_
    refine lv_bipush (v := 90) hx hb dX12_undo_22 (by decide) ?_
    refine xa_ild hx hb hkb hH 0 rfl (by decide) (by decide) dX12_undo_24 ?_
    refine lv_topi (fun v24 ev24 => ?_)
    have tv24 : v24 = f1 90 := by rw [ev24]; rfl
    have bv24 : 0 ≤ v24.toInt ∧ v24.toInt ≤ 10 := by rw [ev24]; exact (s_f1.at (by decide) 90).2.2.2.2.2.1 (by decide)
    refine lv_icmp_le (tgt := 31) hx hb dX12_undo_25 (by decide) (fun c25 => ?_) (fun c25 => ?_)
    · skip
      have fuc25 := full_i x1
      have fvc25 := full_i v24
      have tc25 := g_le c25
      refine lv_aload_n hx hb dX12_undo_31 rfl (lv_at hl 0 rfl) ?_
      refine x_getk (ci := 12) (C := RX12) (F := TX12) (N := 36) (v := .ref q0_1) hx hb hts uX12 hown hkb hH 1 rfl rfl 1 (by decide) rfl kw_1224 (fun _ h9 => h9) dX12_undo_32 ?_
      refine lv_bipush (v := 90) hx hb dX12_undo_35 (by decide) ?_
      refine lv_dup2_11 hx hb dX12_undo_37 rfl rfl ?_
      refine xa_ild hx hb hkb hH 0 rfl (by decide) (by decide) dX12_undo_38 ?_
      refine lv_topi (fun v38 ev38 => ?_)
      have tv38 : v38 = f1 90 := by rw [ev38]; rfl
      have bv38 : 0 ≤ v38.toInt ∧ v38.toInt ≤ 10 := by rw [ev38]; exact (s_f1.at (by decide) 90).2.2.2.2.2.1 (by decide)
      have hq9 : v38.toInt = v24.toInt := by rw [tv38, tv24]
      refine lv_iload_n hx hb dX12_undo_39 rfl (lv_at hl 1 rfl) ?_
      refine lv_isub hx hb dX12_undo_40 ?_
      refine lv_topi (fun v40 ev40 => ?_)
      have tv40 : v40.toInt = v38.toInt - x1.toInt := by rw [ev40]; exact sub_i rfl rfl (by omega) (by omega)
      refine xa_ist hx hb hkb hH hS 0 rfl (by decide) (by decide) dX12_undo_41 (fun H locs hH hS => ?_)
      have hH : HT D cs A T (q0_1 :: a0 :: O) ((q0_1, .inl (cs.2.1, 3906, .inl (upd f1 (90) v40))) :: (a0, .inr (12, [.int 0, .ref q0_1, .ref q0_2, .ref q0_3, .ref q0_4, .int q0_5, .int q0_6, .int q0_7, .int q0_8, .int q0_9, .int q0_10, .int q0_11, .int q0_12, .int q0_13, .int q0_14, .ref q0_15, .int q0_16, .ref q0_17, .ref q0_18, .ref q0_19, .int q0_20, .ref q0_21, .ref q0_22, .int q0_23, .int q0_24, .int q0_25, .ref q0_26, .ref q0_27, .ref q0_28, .ref q0_29, .ref q0_30, .ref q0_31, .int q0_32, .ref q0_33, .ref q0_34, .ref q0_35])) :: X) H := hH
      obtain ⟨F41, eF41⟩ : ∃ f9, f9 = upd f1 (90) v40 := ⟨_, rfl⟩
      have hH : HT D cs A T (q0_1 :: a0 :: O) ((q0_1, .inl (cs.2.1, 3906, .inl F41)) :: (a0, .inr (12, [.int 0, .ref q0_1, .ref q0_2, .ref q0_3, .ref q0_4, .int q0_5, .int q0_6, .int q0_7, .int q0_8, .int q0_9, .int q0_10, .int q0_11, .int q0_12, .int q0_13, .int q0_14, .ref q0_15, .int q0_16, .ref q0_17, .ref q0_18, .ref q0_19, .int q0_20, .ref q0_21, .ref q0_22, .int q0_23, .int q0_24, .int q0_25, .ref q0_26, .ref q0_27, .ref q0_28, .ref q0_29, .ref q0_30, .ref q0_31, .int q0_32, .ref q0_33, .ref q0_34, .ref q0_35])) :: X) H := eF41 ▸ hH
      have g_F41 : F41 1 = nI (hg / 6) ∧ F41 2 = nI (hg % 6) := by rw [eF41]; exact ⟨(upd_ne (by decide)).trans g_f1.1, (upd_ne (by decide)).trans g_f1.2⟩
      have s_F41 : B8 3906 F41 := by rw [eF41]; exact s_f1.put (i := 90) (x := v40) (by decide) (by decide) (⟨fun q9 => absurd q9 (by decide), fun q9 => absurd q9 (by decide), fun q9 => absurd q9 (by decide), fun q9 => absurd q9 (by decide), fun q9 => absurd q9 (by decide), fun _ => ⟨by omega, by omega⟩, fun q9 => absurd q9 (by decide)⟩)
      refine lv_iconst (v := 0) hx hb dX12_undo_42 (by decide) ?_
      have J44 : ∀ (n : Nat) (p44_2 : Int32) (g44_0 : Nat → Int32) (H : Heap) (locs : List Loc) (ls : Array Slot), (31 - p44_2.toInt).toNat = n → (B8 3906 g44_0) → (g44_0 1 = nI (hg / 6) ∧ g44_0 2 = nI (hg % 6)) → (0 ≤ p44_2.toInt) → (p44_2.toInt ≤ 31) → HT D cs A T (q0_1 :: a0 :: O) ((q0_1, .inl (cs.2.1, 3906, .inl g44_0)) :: (a0, .inr (12, [.int 0, .ref q0_1, .ref q0_2, .ref q0_3, .ref q0_4, .int q0_5, .int q0_6, .int q0_7, .int q0_8, .int q0_9, .int q0_10, .int q0_11, .int q0_12, .int q0_13, .int q0_14, .ref q0_15, .int q0_16, .ref q0_17, .ref q0_18, .ref q0_19, .int q0_20, .ref q0_21, .ref q0_22, .int q0_23, .int q0_24, .int q0_25, .ref q0_26, .ref q0_27, .ref q0_28, .ref q0_29, .ref q0_30, .ref q0_31, .int q0_32, .ref q0_33, .ref q0_34, .ref q0_35])) :: X) H → va_S A s.heap H locs → lv_has ls 3 [(2, .int p44_2), (0, .ref a0)] → W p l e { frames := 1, cells := 0, slots := 0, locals := 25 } s m [.ref a0, .int x1].toArray below meth c H locs 0 0 (MQ below (Ti D cs (fun r u => u = (T, O, X) ∧ -3 ≤ r.toInt ∧ r.toInt ≤ 10) A) [.ref a0, .int x1].toArray s 0 0 A) (F0 m 44 ls []) := by
        intro n
        induction n using Nat.strongRecOn with
        | _ n ih44 =>
          intro p44_2 g44_0 H locs ls hm44 s_g44_0 g_g44_0 l_p44_2 u_p44_2 hH hS hl
          refine lv_iload_n hx hb dX12_undo_44 rfl (lv_at hl 0 rfl) ?_
          refine lv_bipush (v := 31) hx hb dX12_undo_45 (by decide) ?_
          refine lv_icmp_ge (tgt := 85) hx hb dX12_undo_47 (by decide) (fun c47 => ?_) (fun c47 => ?_)
          · skip
            have tc47 := f_ge (k := 31) (by decide) c47
            refine lv_aload_n hx hb dX12_undo_85 rfl (lv_at hl 1 rfl) ?_
            refine x_getk (ci := 12) (C := RX12) (F := TX12) (N := 36) (v := .ref q0_1) hx hb hts uX12 hown hkb hH 1 rfl rfl 1 (by decide) rfl kw_1224 (fun _ h9 => h9) dX12_undo_86 ?_
            refine lv_bipush (v := 90) hx hb dX12_undo_89 (by decide) ?_
            refine xa_ild hx hb hkb hH 0 rfl (by decide) (by decide) dX12_undo_91 ?_
            refine lv_topi (fun v91 ev91 => ?_)
            have tv91 : v91 = g44_0 90 := by rw [ev91]; rfl
            have bv91 : 0 ≤ v91.toInt ∧ v91.toInt ≤ 10 := by rw [ev91]; exact (s_g44_0.at (by decide) 90).2.2.2.2.2.1 (by decide)
            have hH : HT D cs A T (a0 :: O) ((a0, .inr (12, [.int 0, .ref q0_1, .ref q0_2, .ref q0_3, .ref q0_4, .int q0_5, .int q0_6, .int q0_7, .int q0_8, .int q0_9, .int q0_10, .int q0_11, .int q0_12, .int q0_13, .int q0_14, .ref q0_15, .int q0_16, .ref q0_17, .ref q0_18, .ref q0_19, .int q0_20, .ref q0_21, .ref q0_22, .int q0_23, .int q0_24, .int q0_25, .ref q0_26, .ref q0_27, .ref q0_28, .ref q0_29, .ref q0_30, .ref q0_31, .int q0_32, .ref q0_33, .ref q0_34, .ref q0_35])) :: X) H := HT.layA hH t_q0_1 (show sp cs T (8, 3906, hg) _ from ⟨_, rfl, s_g44_0, fun _ => g_g44_0⟩)
            have hH : HT D cs A T O X H := HT.lay (ci := 12) hH t_a0 (okL_c (⟨_, rfl⟩) (okL_c (⟨_, rfl, t_q0_1⟩) (okL_c (⟨_, rfl, t_q0_2⟩) (okL_c (⟨_, rfl, t_q0_3⟩) (okL_c (⟨_, rfl, t_q0_4⟩) (okL_c (⟨_, rfl, by omega, by omega, by omega⟩) (okL_c (⟨_, rfl⟩) (okL_c (⟨_, rfl⟩) (okL_c (⟨_, rfl⟩) (okL_c (⟨_, rfl⟩) (okL_c (⟨_, rfl, by omega, by omega⟩) (okL_c (⟨_, rfl⟩) (okL_c (⟨_, rfl⟩) (okL_c (⟨_, rfl⟩) (okL_c (⟨_, rfl⟩) (okL_c (⟨_, rfl, t_q0_15⟩) (okL_c (⟨_, rfl⟩) (okL_c (⟨_, rfl, t_q0_17⟩) (okL_c (⟨_, rfl, t_q0_18⟩) (okL_c (⟨_, rfl, t_q0_19⟩) (okL_c (⟨_, rfl, by omega, by omega⟩) (okL_c (⟨_, rfl, t_q0_21⟩) (okL_c (⟨_, rfl, t_q0_22⟩) (okL_c (⟨_, rfl⟩) (okL_c (⟨_, rfl⟩) (okL_c (⟨_, rfl⟩) (okL_c (⟨_, rfl, t_q0_26⟩) (okL_c (⟨_, rfl, t_q0_27⟩) (okL_c (⟨_, rfl, t_q0_28⟩) (okL_c (⟨_, rfl, t_q0_29⟩) (okL_c (⟨_, rfl, t_q0_30⟩) (okL_c (⟨_, rfl, t_q0_31⟩) (okL_c (⟨_, rfl⟩) (okL_c (⟨_, rfl, t_q0_33⟩) (okL_c (⟨_, rfl, t_q0_34⟩) (okL_c (⟨_, rfl, t_q0_35⟩) (okL_n)))))))))))))))))))))))))))))))))))))
            have hO := hO0
            exact te_i hx hb hr hlocks hH hS (⟨rfl, by omega, by omega⟩) dX12_undo_92
          · skip
            have tc47 := f_nge (k := 31) (by decide) c47
            refine lv_aload_n hx hb dX12_undo_50 rfl (lv_at hl 1 rfl) ?_
            refine x_getk (ci := 12) (C := RX12) (F := TX12) (N := 36) (v := .ref q0_1) hx hb hts uX12 hown hkb hH 1 rfl rfl 1 (by decide) rfl kw_1224 (fun _ h9 => h9) dX12_undo_51 ?_
            refine lv_bipush (v := 59) hx hb dX12_undo_54 (by decide) ?_
            refine lv_iload_n hx hb dX12_undo_56 rfl (lv_at hl 0 rfl) ?_
            refine lv_iadd hx hb dX12_undo_57 ?_
            refine lv_topi (fun v57 ev57 => ?_)
            have tv57 : v57.toInt = (59) + p44_2.toInt := by rw [ev57]; exact add_i (by decide : (59 : Int32).toInt = 59) rfl (by omega) (by omega)
            refine lv_aload_n hx hb dX12_undo_58 rfl (lv_at hl 1 rfl) ?_
            refine x_getk (ci := 12) (C := RX12) (F := TX12) (N := 36) (v := .ref q0_1) hx hb hts uX12 hown hkb hH 1 rfl rfl 1 (by decide) rfl kw_1224 (fun _ h9 => h9) dX12_undo_59 ?_
            refine lv_bipush (v := 91) hx hb dX12_undo_62 (by decide) ?_
            refine lv_bipush (v := 31) hx hb dX12_undo_64 (by decide) ?_
            refine lv_aload_n hx hb dX12_undo_66 rfl (lv_at hl 1 rfl) ?_
            refine x_getk (ci := 12) (C := RX12) (F := TX12) (N := 36) (v := .ref q0_1) hx hb hts uX12 hown hkb hH 1 rfl rfl 1 (by decide) rfl kw_1224 (fun _ h9 => h9) dX12_undo_67 ?_
            refine lv_bipush (v := 90) hx hb dX12_undo_70 (by decide) ?_
            refine xa_ild hx hb hkb hH 0 rfl (by decide) (by decide) dX12_undo_72 ?_
            refine lv_topi (fun v72 ev72 => ?_)
            have tv72 : v72 = g44_0 90 := by rw [ev72]; rfl
            have bv72 : 0 ≤ v72.toInt ∧ v72.toInt ≤ 10 := by rw [ev72]; exact (s_g44_0.at (by decide) 90).2.2.2.2.2.1 (by decide)
            refine lv_imul hx hb dX12_undo_73 ?_
            refine lv_topi (fun v73 ev73 => ?_)
            have tv73 : v73.toInt = (31) * v72.toInt := by rw [ev73]; exact mul_i (by decide : (31 : Int32).toInt = 31) rfl (by omega) (by omega)
            refine lv_iadd hx hb dX12_undo_74 ?_
            refine lv_topi (fun v74 ev74 => ?_)
            have tv74 : v74.toInt = (91) + v73.toInt := by rw [ev74]; exact add_i (by decide : (91 : Int32).toInt = 91) rfl (by omega) (by omega)
            refine lv_iload_n hx hb dX12_undo_75 rfl (lv_at hl 0 rfl) ?_
            refine lv_iadd hx hb dX12_undo_76 ?_
            refine lv_topi (fun v76 ev76 => ?_)
            have tv76 : v76.toInt = v74.toInt + p44_2.toInt := by rw [ev76]; exact add_i rfl rfl (by omega) (by omega)
            refine xa_ild hx hb hkb hH 0 rfl (by omega) (by omega) dX12_undo_77 ?_
            refine lv_topi (fun v77 ev77 => ?_)
            have tv77 : v77 = g44_0 v76.toInt.toNat := ev77
            refine xa_ist hx hb hkb hH hS 0 rfl (by omega) (by omega) dX12_undo_78 (fun H locs hH hS => ?_)
            have hH : HT D cs A T (q0_1 :: a0 :: O) ((q0_1, .inl (cs.2.1, 3906, .inl (upd g44_0 (v57.toInt.toNat) v77))) :: (a0, .inr (12, [.int 0, .ref q0_1, .ref q0_2, .ref q0_3, .ref q0_4, .int q0_5, .int q0_6, .int q0_7, .int q0_8, .int q0_9, .int q0_10, .int q0_11, .int q0_12, .int q0_13, .int q0_14, .ref q0_15, .int q0_16, .ref q0_17, .ref q0_18, .ref q0_19, .int q0_20, .ref q0_21, .ref q0_22, .int q0_23, .int q0_24, .int q0_25, .ref q0_26, .ref q0_27, .ref q0_28, .ref q0_29, .ref q0_30, .ref q0_31, .int q0_32, .ref q0_33, .ref q0_34, .ref q0_35])) :: X) H := hH
            obtain ⟨F78, eF78⟩ : ∃ f9, f9 = upd g44_0 (v57.toInt.toNat) v77 := ⟨_, rfl⟩
            have hH : HT D cs A T (q0_1 :: a0 :: O) ((q0_1, .inl (cs.2.1, 3906, .inl F78)) :: (a0, .inr (12, [.int 0, .ref q0_1, .ref q0_2, .ref q0_3, .ref q0_4, .int q0_5, .int q0_6, .int q0_7, .int q0_8, .int q0_9, .int q0_10, .int q0_11, .int q0_12, .int q0_13, .int q0_14, .ref q0_15, .int q0_16, .ref q0_17, .ref q0_18, .ref q0_19, .int q0_20, .ref q0_21, .ref q0_22, .int q0_23, .int q0_24, .int q0_25, .ref q0_26, .ref q0_27, .ref q0_28, .ref q0_29, .ref q0_30, .ref q0_31, .int q0_32, .ref q0_33, .ref q0_34, .ref q0_35])) :: X) H := eF78 ▸ hH
            have g_F78 : F78 1 = nI (hg / 6) ∧ F78 2 = nI (hg % 6) := by rw [eF78]; exact ⟨(upd_ne (by omega)).trans g_g44_0.1, (upd_ne (by omega)).trans g_g44_0.2⟩
            have s_F78 : B8 3906 F78 := by rw [eF78]; exact s_g44_0.put (i := v57) (x := v77) (by omega) (by omega) (p8_far (by omega) (⟨by omega, by omega⟩))
            obtain ⟨v79, ev79⟩ : ∃ y : Int32, y = p44_2 + 1 := ⟨_, rfl⟩
            have tv79 : v79.toInt = p44_2.toInt + (1) := by rw [ev79]; exact add_i rfl (by decide) (by omega) (by omega)
            refine lv_iinc (v := v79) (lv' := [(2, .int v79), (0, .ref a0)]) hx hb dX12_undo_79 hl (k := 0) rfl (by rw [ev79]; rfl) (by decide) rfl (fun ls hl => ?_)
            refine lv_goto (tgt := 44) hx hb dX12_undo_82 (by decide) ?_
            exact ih44 _ (by omega) v79 F78 _ _ _ rfl s_F78 g_F78 (by omega) (by omega) hH hS (lv_sub hl [0, 1] rfl)
      refine lv_istore_n (lv' := [(2, .int 0), (0, .ref a0), (1, .int x1)]) hx hb dX12_undo_43 rfl hl (by decide) rfl (fun ls hl => ?_)
      exact J44 _ 0 F41 _ _ _ rfl s_F41 g_F41 (by decide) (by decide) hH hS (lv_sub hl [0, 1] rfl)
    · skip
      have fuc25 := full_i x1
      have fvc25 := full_i v24
      have tc25 := g_nle c25
      refine lv_bipush (v := (-3)) hx hb dX12_undo_28 (by decide) ?_
      have hH : HT D cs A T (a0 :: O) ((a0, .inr (12, [.int 0, .ref q0_1, .ref q0_2, .ref q0_3, .ref q0_4, .int q0_5, .int q0_6, .int q0_7, .int q0_8, .int q0_9, .int q0_10, .int q0_11, .int q0_12, .int q0_13, .int q0_14, .ref q0_15, .int q0_16, .ref q0_17, .ref q0_18, .ref q0_19, .int q0_20, .ref q0_21, .ref q0_22, .int q0_23, .int q0_24, .int q0_25, .ref q0_26, .ref q0_27, .ref q0_28, .ref q0_29, .ref q0_30, .ref q0_31, .int q0_32, .ref q0_33, .ref q0_34, .ref q0_35])) :: X) H := HT.layA hH t_q0_1 (show sp cs T (8, 3906, hg) _ from ⟨_, rfl, s_f1, fun _ => g_f1⟩)
      have hH : HT D cs A T O X H := HT.lay (ci := 12) hH t_a0 (okL_c (⟨_, rfl⟩) (okL_c (⟨_, rfl, t_q0_1⟩) (okL_c (⟨_, rfl, t_q0_2⟩) (okL_c (⟨_, rfl, t_q0_3⟩) (okL_c (⟨_, rfl, t_q0_4⟩) (okL_c (⟨_, rfl, by omega, by omega, by omega⟩) (okL_c (⟨_, rfl⟩) (okL_c (⟨_, rfl⟩) (okL_c (⟨_, rfl⟩) (okL_c (⟨_, rfl⟩) (okL_c (⟨_, rfl, by omega, by omega⟩) (okL_c (⟨_, rfl⟩) (okL_c (⟨_, rfl⟩) (okL_c (⟨_, rfl⟩) (okL_c (⟨_, rfl⟩) (okL_c (⟨_, rfl, t_q0_15⟩) (okL_c (⟨_, rfl⟩) (okL_c (⟨_, rfl, t_q0_17⟩) (okL_c (⟨_, rfl, t_q0_18⟩) (okL_c (⟨_, rfl, t_q0_19⟩) (okL_c (⟨_, rfl, by omega, by omega⟩) (okL_c (⟨_, rfl, t_q0_21⟩) (okL_c (⟨_, rfl, t_q0_22⟩) (okL_c (⟨_, rfl⟩) (okL_c (⟨_, rfl⟩) (okL_c (⟨_, rfl⟩) (okL_c (⟨_, rfl, t_q0_26⟩) (okL_c (⟨_, rfl, t_q0_27⟩) (okL_c (⟨_, rfl, t_q0_28⟩) (okL_c (⟨_, rfl, t_q0_29⟩) (okL_c (⟨_, rfl, t_q0_30⟩) (okL_c (⟨_, rfl, t_q0_31⟩) (okL_c (⟨_, rfl⟩) (okL_c (⟨_, rfl, t_q0_33⟩) (okL_c (⟨_, rfl, t_q0_34⟩) (okL_c (⟨_, rfl, t_q0_35⟩) (okL_n)))))))))))))))))))))))))))))))))))))
      have hO := hO0
      have z9_m3 : ((-3) : Int32).toInt = -3 := by decide
      exact te_i hx hb hr hlocks hH hS (⟨rfl, by decide, by decide⟩) dX12_undo_30
set_option maxHeartbeats 4000000 in
set_option maxRecDepth 100000 in
theorem s_M_noTray (l : Launch) (D : va_G) (cs : CS) (kf : KF) (T : TF) (O : List Nat) (X : va_W) (a0 hg mq : Nat) (x1 : Int32) (t_a0 : T a0 = some (22, hg, mq)) (b_hg : hg < 90) (hO : okO T O [1, 22]) : TK l D cs kf yX12_noTray cX12_noTray 2 (some (.int)) { frames := 1, cells := 0, slots := 0, locals := 25 } [.ref a0, .int x1] T O X (Ti D cs (fun r u => u = (T, O, X) ∧ -6 ≤ r.toInt ∧ r.toInt ≤ 0 ∧ (r.toInt ≠ 0 ∨ (0 ≤ x1.toInt ∧ x1.toInt ≤ 3)))) := by
  refine tk_of (by decide) (Nat.le_of_ble_eq_true rfl) (fun p e s m below meth c ls A H locs hx hb hr hml hown hts hlocks hnm hkb hH hS hA hOX hks hE hl => ?_)
  have hown : s.vm.findClass RX12 = some m.cls := hown
  have hl : lv_has ls 2 [(0, .ref a0), (1, .int x1)] := hl
  refine lv_iload_n hx hb dX12_noTray_0 rfl (lv_at hl 1 rfl) ?_
  refine lv_i2l hx hb dX12_noTray_1 rfl ?_
  refine lv_lconst (v := 0) hx hb dX12_noTray_2 (by decide) ?_
  refine lv_ldc2 hx hb hown (hts _ kw_1527) dX12_noTray_3 ?_
  refine tk_i hH hS hA (tr_S (n := 3) (As := [.long x1.toInt64, .long 0, .long 3]) hx hb hml hown hts hkb hH hOX hks hE hS hA (s_M_within l D cs kf T O X x1.toInt64 0 3  (hO.sub (by decide))) kw_1341 kw_1342 kw_13 kw_1343 (by decide +kernel) ⟨Nat.le_of_ble_eq_true rfl, Nat.le_of_ble_eq_true rfl⟩ rfl rfl hl.1 (Nat.le_of_ble_eq_true rfl) dX12_noTray_6 ⟨Nat.le_of_ble_eq_true rfl, Nat.le_of_ble_eq_true rfl⟩) (fun v6 u H locs hz9 hH hS => ?_)
  obtain ⟨rfl, l_v6, u_v6, x_v60, x_v61⟩ := hz9
  simp only [Int32.toInt_toInt64] at x_v60 x_v61
  have k9_0 : (0 : Int64).toInt = 0 := by decide
  have k9_3 : (3 : Int64).toInt = 3 := by decide
  have hH : HT D cs A T O X H := hH
  refine W.widen (k := 0) (n := 0) (Nat.le_of_ble_eq_true rfl) (Nat.le_of_ble_eq_true rfl) ?_
  refine lv_if_ne (tgt := 17) hx hb dX12_noTray_9 (by decide) (fun c9 => ?_) (fun c9 => ?_)
  · skip
    have tc9 := f_ne (k := 0) (by decide) c9
    replace x_v60 := x_v60.resolve_left tc9
    clear x_v61
    refine lv_aload_n hx hb dX12_noTray_17 rfl (lv_at hl 0 rfl) ?_
    refine t_get (ci := 12) (lst := ft12 hg mq) (C := RX12) (F := TX12) (N := 36) hx hb hts uX12 hown hkb hH t_a0 (hO.no t_a0 (by decide)) (fun _ h9 => h9) rfl rfl 33 (by decide) rfl kw_1256 (fun _ h9 => h9) dX12_noTray_18 (fun v9 h9 => ?_)
    obtain ⟨v18, rfl, t_v18⟩ := h9
    refine lv_iload_n hx hb dX12_noTray_21 rfl (lv_at hl 1 rfl) ?_
    refine t_ild hx hb hkb hH t_v18 (hO.no t_v18 (by decide)) (by omega) (by omega) dX12_noTray_22 (fun v22 h9 => ?_)
    refine lv_iconst (v := (-1)) hx hb dX12_noTray_23 (by decide) ?_
    refine lv_icmp_ne (tgt := 32) hx hb dX12_noTray_24 (by decide) (fun c24 => ?_) (fun c24 => ?_)
    · skip
      have tc24 := f_ne (k := -1) (by decide) c24
      refine lv_iconst (v := 0) hx hb dX12_noTray_32 (by decide) ?_
      have z9 : (0 : Int32).toInt = 0 := by decide
      exact te_i hx hb hr hlocks hH hS (⟨rfl, by decide, by decide, by omega⟩) dX12_noTray_33
    · skip
      have tc24 := f_eq (k := -1) (by decide) c24
      refine lv_bipush (v := (-6)) hx hb dX12_noTray_27 (by decide) ?_
      refine lv_goto (tgt := 33) hx hb dX12_noTray_29 (by decide) ?_
      have z9 : ((-6) : Int32).toInt = -6 := by decide
      exact te_i hx hb hr hlocks hH hS (⟨rfl, by decide, by decide, by omega⟩) dX12_noTray_33
  · skip
    have tc9 := f_eq (k := 0) (by decide) c9
    clear x_v60
    replace x_v61 := x_v61.resolve_left (fun q9 => q9 tc9)
    refine lv_bipush (v := (-2)) hx hb dX12_noTray_12 (by decide) ?_
    refine lv_goto (tgt := 33) hx hb dX12_noTray_14 (by decide) ?_
    have z9 : ((-2) : Int32).toInt = -2 := by decide
    exact te_i hx hb hr hlocks hH hS (⟨rfl, by decide, by decide, by omega⟩) dX12_noTray_33
set_option maxHeartbeats 4000000 in
set_option maxRecDepth 100000 in
theorem s_M_days (l : Launch) (D : va_G) (cs : CS) (kf : KF) (T : TF) (O : List Nat) (X : va_W) (a0 hg mq : Nat) (x1 : Int32) (t_a0 : T a0 = some (22, hg, mq)) (b_hg : hg < 90) (hO : okO T O [1, 8, 22]) : TK l D cs kf yX12_days cX12_days 2 (some (.int)) { frames := 1, cells := 0, slots := 0, locals := 25 } [.ref a0, .int x1] T O X (Ti D cs (fun r u => u = (T, O, X))) := by
  refine tk_of (by decide) (Nat.le_of_ble_eq_true rfl) (fun p e s m below meth c ls A H locs hx hb hr hml hown hts hlocks hnm hkb hH hS hA hOX hks hE hl => ?_)
  have hown : s.vm.findClass RX12 = some m.cls := hown
  have hl : lv_has ls 2 [(0, .ref a0), (1, .int x1)] := hl
  refine lv_aload_n hx hb dX12_days_0 rfl (lv_at hl 0 rfl) ?_
  refine lv_iconst (v := 0) hx hb dX12_days_1 (by decide) ?_
  refine t_put (ci := 12) (lst := ft12 hg mq) (v := .int 0) (ty := tyX12 0) (C := RX12) (F := TX12) (N := 36) hx hb hts uX12 tyX12 tyX12_ok nmX12 hown hkb hH hS t_a0 (hO.no t_a0 (by decide)) (fun _ => Iff.rfl) rfl rfl 0 (by decide) rfl (⟨_, rfl⟩) kw_1223 (fun _ h9 => h9) rfl (tyX12_ok 0 (by decide)) rfl rfl dX12_days_2 (fun H locs hH hS => ?_)
  refine lv_iload_n hx hb dX12_days_5 rfl (lv_at hl 1 rfl) ?_
  refine lv_i2l hx hb dX12_days_6 rfl ?_
  refine lv_lconst (v := 1) hx hb dX12_days_7 (by decide) ?_
  refine lv_ldc2 hx hb hown (hts _ kw_1576) dX12_days_8 ?_
  refine tk_i hH hS hA (tr_S (n := 3) (As := [.long x1.toInt64, .long 1, .long 99]) hx hb hml hown hts hkb hH hOX hks hE hS hA (s_M_within l D cs kf T O X x1.toInt64 1 99  (hO.sub (by decide))) kw_1341 kw_1342 kw_13 kw_1343 (by decide +kernel) ⟨Nat.le_of_ble_eq_true rfl, Nat.le_of_ble_eq_true rfl⟩ rfl rfl hl.1 (Nat.le_of_ble_eq_true rfl) dX12_days_11 ⟨Nat.le_of_ble_eq_true rfl, Nat.le_of_ble_eq_true rfl⟩) (fun v11 u H locs hz9 hH hS => ?_)
  obtain ⟨rfl, l_v11, u_v11, x_v110, x_v111⟩ := hz9
  simp only [Int32.toInt_toInt64] at x_v110 x_v111
  have k9_1 : (1 : Int64).toInt = 1 := by decide
  have k9_99 : (99 : Int64).toInt = 99 := by decide
  have hH : HT D cs A T O X H := hH
  refine W.widen (k := 0) (n := 0) (Nat.le_of_ble_eq_true rfl) (Nat.le_of_ble_eq_true rfl) ?_
  refine lv_if_ne (tgt := 20) hx hb dX12_days_14 (by decide) (fun c14 => ?_) (fun c14 => ?_)
  · skip
    have tc14 := f_ne (k := 0) (by decide) c14
    replace x_v110 := x_v110.resolve_left tc14
    clear x_v111
    refine lv_aload_n hx hb dX12_days_20 rfl (lv_at hl 0 rfl) ?_
    refine tk_v hH hS hA (tr_V (n := 0) (As := []) hx hb hml hown hts hkb hH hOX hks hE hS hA (s_M_keeps l D cs kf T O X a0 hg mq t_a0 b_hg (hO.sub (by decide))) kw_1544 kw_1546 ks_79 kw_13 kw_1547 (by decide +kernel) ⟨Nat.le_of_ble_eq_true rfl, Nat.le_of_ble_eq_true rfl⟩ (HT.recv (ci := 12) hkb hH t_a0 (hO.no t_a0 (by decide)) rfl) rfl rfl hl.1 (Nat.le_of_ble_eq_true rfl) dX12_days_21 ⟨Nat.le_of_ble_eq_true rfl, Nat.le_of_ble_eq_true rfl⟩) (fun u H locs hz9 hH hS => ?_)
    have hz9 : u = (T, O, X) := hz9
    subst hz9
    have hH : HT D cs A T O X H := hH
    refine W.widen (k := 0) (n := 0) (Nat.le_of_ble_eq_true rfl) (Nat.le_of_ble_eq_true rfl) ?_
    refine lv_aload_n hx hb dX12_days_24 rfl (lv_at hl 0 rfl) ?_
    refine t_get (ci := 12) (lst := ft12 hg mq) (C := RX12) (F := TX12) (N := 36) hx hb hts uX12 hown hkb hH t_a0 (hO.no t_a0 (by decide)) (fun _ h9 => h9) rfl rfl 1 (by decide) rfl kw_1224 (fun _ h9 => h9) dX12_days_25 (fun v9 h9 => ?_)
    obtain ⟨v25, rfl, t_v25⟩ := h9
    refine lv_bipush (v := 88) hx hb dX12_days_28 (by decide) ?_
    refine lv_dup2_11 hx hb dX12_days_30 rfl rfl ?_
    refine t_ild8 hx hb hkb hH t_v25 (hO.no t_v25 (by decide)) (by decide) (by decide) (by decide) dX12_days_31 (fun v31 h9 h8 => ?_)
    refine lv_iload_n hx hb dX12_days_32 rfl (lv_at hl 1 rfl) ?_
    refine lv_iadd hx hb dX12_days_33 ?_
    refine lv_topi (fun v33 ev33 => ?_)
    refine t_ist8 hx hb hkb hH hS t_v25 (hO.no t_v25 (by decide)) (by decide) (by decide) (by decide) (by decide) (by decide) (p8_far (by decide) (by decide)) dX12_days_34 (fun H locs hH hS => ?_)
    refine lv_aload_n hx hb dX12_days_35 rfl (lv_at hl 0 rfl) ?_
    refine tk_v hH hS hA (tr_V (n := 0) (As := []) hx hb hml hown hts hkb hH hOX hks hE hS hA (s_M_notes l D cs kf T O X a0 hg mq t_a0 b_hg (hO.sub (by decide))) kw_1552 kw_1554 ks_81 kw_13 kw_1555 (by decide +kernel) ⟨Nat.le_of_ble_eq_true rfl, Nat.le_of_ble_eq_true rfl⟩ (HT.recv (ci := 12) hkb hH t_a0 (hO.no t_a0 (by decide)) rfl) rfl rfl hl.1 (Nat.le_of_ble_eq_true rfl) dX12_days_36 ⟨Nat.le_of_ble_eq_true rfl, Nat.le_of_ble_eq_true rfl⟩) (fun u H locs hz9 hH hS => ?_)
    obtain ⟨rfl⟩ := hz9
    have hH : HT D cs A T O X H := hH
    refine W.widen (k := 0) (n := 0) (Nat.le_of_ble_eq_true rfl) (Nat.le_of_ble_eq_true rfl) ?_
    refine lv_aload_n hx hb dX12_days_39 rfl (lv_at hl 0 rfl) ?_
    refine t_get (ci := 12) (lst := ft12 hg mq) (C := RX12) (F := TX12) (N := 36) hx hb hts uX12 hown hkb hH t_a0 (hO.no t_a0 (by decide)) (fun _ h9 => h9) rfl rfl 1 (by decide) rfl kw_1224 (fun _ h9 => h9) dX12_days_40 (fun v9 h9 => ?_)
    obtain ⟨v40, rfl, t_v40⟩ := h9
    refine lv_bipush (v := 88) hx hb dX12_days_43 (by decide) ?_
    refine t_ild8 hx hb hkb hH t_v40 (hO.no t_v40 (by decide)) (by decide) (by decide) (by decide) dX12_days_45 (fun v45 h9 h8 => ?_)
    exact te_i hx hb hr hlocks hH hS (rfl) dX12_days_46
  · skip
    have tc14 := f_eq (k := 0) (by decide) c14
    clear x_v110
    replace x_v111 := x_v111.resolve_left (fun q9 => q9 tc14)
    refine lv_bipush (v := (-3)) hx hb dX12_days_17 (by decide) ?_
    exact te_i hx hb hr hlocks hH hS (rfl) dX12_days_19
set_option maxHeartbeats 4000000 in
set_option maxRecDepth 100000 in
theorem s_M_rains (l : Launch) (D : va_G) (cs : CS) (kf : KF) (T : TF) (O : List Nat) (X : va_W) (a0 hg mq : Nat) (t_a0 : T a0 = some (22, hg, mq)) (b_hg : hg < 90) (hO : okO T O [8, 22]) : TK l D cs kf yX12_rains cX12_rains 3 (some (.boolean)) { frames := 0, cells := 0, slots := 0, locals := 0 } [.ref a0] T O X (Ti D cs (fun r u => u = (T, O, X) ∧ 0 ≤ r.toInt ∧ r.toInt ≤ 1)) := by
  refine tk_of (by decide) (Nat.le_of_ble_eq_true rfl) (fun p e s m below meth c ls A H locs hx hb hr hml hown hts hlocks hnm hkb hH hS hA hOX hks hE hl => ?_)
  have hown : s.vm.findClass RX12 = some m.cls := hown
  have hl : lv_has ls 3 [(0, .ref a0)] := hl
  refine lv_iconst (v := (-1)) hx hb dX12_rains_0 (by decide) ?_
  refine lv_istore_n (lv' := [(1, .int (-1)), (0, .ref a0)]) hx hb dX12_rains_1 rfl hl (by decide) rfl (fun ls hl => ?_)
  refine lv_iconst (v := 0) hx hb dX12_rains_2 (by decide) ?_
  have J4 : ∀ (n : Nat) (p4_2 : Int32) (p4_1 : Int32) (H : Heap) (locs : List Loc) (ls : Array Slot), (14 - p4_2.toInt).toNat = n → (0 ≤ p4_2.toInt) → (p4_2.toInt ≤ 14) → (-1 ≤ p4_1.toInt) → (p4_1.toInt ≤ 13) → HT D cs A T O X H → va_S A s.heap H locs → lv_has ls 3 [(2, .int p4_2), (1, .int p4_1), (0, .ref a0)] → W p l e { frames := 0, cells := 0, slots := 0, locals := 0 } s m [.ref a0].toArray below meth c H locs 0 0 (MQ below (Ti D cs (fun r u => u = (T, O, X) ∧ 0 ≤ r.toInt ∧ r.toInt ≤ 1) A) [.ref a0].toArray s 0 0 A) (F0 m 4 ls []) := by
    intro n
    induction n using Nat.strongRecOn with
    | _ n ih4 =>
      intro p4_2 p4_1 H locs ls hm4 l_p4_2 u_p4_2 l_p4_1 u_p4_1 hH hS hl
      refine lv_iload_n hx hb dX12_rains_4 rfl (lv_at hl 0 rfl) ?_
      refine lv_aload_n hx hb dX12_rains_5 rfl (lv_at hl 2 rfl) ?_
      refine t_get (ci := 12) (lst := ft12 hg mq) (C := RX12) (F := TX12) (N := 36) hx hb hts uX12 hown hkb hH t_a0 (hO.no t_a0 (by decide)) (fun _ h9 => h9) rfl rfl 1 (by decide) rfl kw_1224 (fun _ h9 => h9) dX12_rains_6 (fun v9 h9 => ?_)
      obtain ⟨v6, rfl, t_v6⟩ := h9
      refine lv_iconst (v := 1) hx hb dX12_rains_9 (by decide) ?_
      refine t_ild8 hx hb hkb hH t_v6 (hO.no t_v6 (by decide)) (by decide) (by decide) (by decide) dX12_rains_10 (fun v10 h9 h8 => ?_)
      have q9 := (h8 rfl).1 rfl
      subst q9
      have eH9 : (nI (hg / 6)).toInt = (((hg / 6) : Nat) : Int) := nI_toInt (by omega)
      refine lv_icmp_ge (tgt := 61) hx hb dX12_rains_11 (by decide) (fun c11 => ?_) (fun c11 => ?_)
      · skip
        have fuc11 := full_i p4_2
        have fvc11 := full_i (nI (hg / 6))
        have tc11 := g_le c11
        refine lv_iload_n hx hb dX12_rains_61 rfl (lv_at hl 1 rfl) ?_
        refine lv_iconst (v := (-1)) hx hb dX12_rains_62 (by decide) ?_
        refine lv_icmp_ne (tgt := 68) hx hb dX12_rains_63 (by decide) (fun c63 => ?_) (fun c63 => ?_)
        · skip
          have tc63 := f_ne (k := -1) (by decide) c63
          refine lv_aload_n hx hb dX12_rains_68 rfl (lv_at hl 2 rfl) ?_
          refine t_get (ci := 12) (lst := ft12 hg mq) (C := RX12) (F := TX12) (N := 36) hx hb hts uX12 hown hkb hH t_a0 (hO.no t_a0 (by decide)) (fun _ h9 => h9) rfl rfl 1 (by decide) rfl kw_1224 (fun _ h9 => h9) dX12_rains_69 (fun v9 h9 => ?_)
          obtain ⟨v69, rfl, t_v69⟩ := h9
          refine lv_bipush (v := 59) hx hb dX12_rains_72 (by decide) ?_
          refine lv_iload_n hx hb dX12_rains_74 rfl (lv_at hl 1 rfl) ?_
          refine lv_iadd hx hb dX12_rains_75 ?_
          refine lv_topi (fun v75 ev75 => ?_)
          have tv75 : v75.toInt = (59) + p4_1.toInt := by rw [ev75]; exact add_i (by decide : (59 : Int32).toInt = 59) rfl (by omega) (by omega)
          refine lv_iconst (v := (-1)) hx hb dX12_rains_76 (by decide) ?_
          refine t_ist8 hx hb hkb hH hS t_v69 (hO.no t_v69 (by decide)) (by decide) (by omega) (by omega) (by omega) (by omega) (p8_far (by omega) (by omega)) dX12_rains_77 (fun H locs hH hS => ?_)
          refine lv_aload_n hx hb dX12_rains_78 rfl (lv_at hl 2 rfl) ?_
          refine t_get (ci := 12) (lst := ft12 hg mq) (C := RX12) (F := TX12) (N := 36) hx hb hts uX12 hown hkb hH t_a0 (hO.no t_a0 (by decide)) (fun _ h9 => h9) rfl rfl 1 (by decide) rfl kw_1224 (fun _ h9 => h9) dX12_rains_79 (fun v9 h9 => ?_)
          obtain ⟨v79, rfl, t_v79⟩ := h9
          refine lv_bipush (v := 73) hx hb dX12_rains_82 (by decide) ?_
          refine lv_iload_n hx hb dX12_rains_84 rfl (lv_at hl 1 rfl) ?_
          refine lv_iadd hx hb dX12_rains_85 ?_
          refine lv_topi (fun v85 ev85 => ?_)
          have tv85 : v85.toInt = (73) + p4_1.toInt := by rw [ev85]; exact add_i (by decide : (73 : Int32).toInt = 73) rfl (by omega) (by omega)
          refine lv_iconst (v := (-1)) hx hb dX12_rains_86 (by decide) ?_
          refine t_ist8 hx hb hkb hH hS t_v79 (hO.no t_v79 (by decide)) (by decide) (by omega) (by omega) (by omega) (by omega) (p8_far (by omega) (by omega)) dX12_rains_87 (fun H locs hH hS => ?_)
          refine lv_iconst (v := 1) hx hb dX12_rains_88 (by decide) ?_
          exact te_z hx hb hr hlocks (by rfl) hH hS (⟨rfl, by decide, by decide⟩) dX12_rains_89
        · skip
          have tc63 := f_eq (k := -1) (by decide) c63
          refine lv_iconst (v := 0) hx hb dX12_rains_66 (by decide) ?_
          exact te_z hx hb hr hlocks (by rfl) hH hS (⟨rfl, by decide, by decide⟩) dX12_rains_67
      · skip
        have fuc11 := full_i p4_2
        have fvc11 := full_i (nI (hg / 6))
        have tc11 := g_nle c11
        refine lv_aload_n hx hb dX12_rains_14 rfl (lv_at hl 2 rfl) ?_
        refine t_get (ci := 12) (lst := ft12 hg mq) (C := RX12) (F := TX12) (N := 36) hx hb hts uX12 hown hkb hH t_a0 (hO.no t_a0 (by decide)) (fun _ h9 => h9) rfl rfl 1 (by decide) rfl kw_1224 (fun _ h9 => h9) dX12_rains_15 (fun v9 h9 => ?_)
        obtain ⟨v15, rfl, t_v15⟩ := h9
        refine lv_bipush (v := 59) hx hb dX12_rains_18 (by decide) ?_
        refine lv_iload_n hx hb dX12_rains_20 rfl (lv_at hl 0 rfl) ?_
        refine lv_iadd hx hb dX12_rains_21 ?_
        refine lv_topi (fun v21 ev21 => ?_)
        have tv21 : v21.toInt = (59) + p4_2.toInt := by rw [ev21]; exact add_i (by decide : (59 : Int32).toInt = 59) rfl (by omega) (by omega)
        refine t_ild8 hx hb hkb hH t_v15 (hO.no t_v15 (by decide)) (by decide) (by omega) (by omega) dX12_rains_22 (fun v22 h9 h8 => ?_)
        refine lv_iconst (v := (-1)) hx hb dX12_rains_23 (by decide) ?_
        have J55 : ∀ (p55_1 : Int32) (H : Heap) (locs : List Loc) (ls : Array Slot), (-1 ≤ p55_1.toInt) → (p55_1.toInt ≤ 13) → HT D cs A T O X H → va_S A s.heap H locs → lv_has ls 3 [(2, .int p4_2), (1, .int p55_1), (0, .ref a0)] → W p l e { frames := 0, cells := 0, slots := 0, locals := 0 } s m [.ref a0].toArray below meth c H locs 0 0 (MQ below (Ti D cs (fun r u => u = (T, O, X) ∧ 0 ≤ r.toInt ∧ r.toInt ≤ 1) A) [.ref a0].toArray s 0 0 A) (F0 m 55 ls []) := by
          intro p55_1 H locs ls l_p55_1 u_p55_1 hH hS hl
          obtain ⟨v55, ev55⟩ : ∃ y : Int32, y = p4_2 + 1 := ⟨_, rfl⟩
          have tv55 : v55.toInt = p4_2.toInt + (1) := by rw [ev55]; exact add_i rfl (by decide) (by omega) (by omega)
          refine lv_iinc (v := v55) (lv' := [(2, .int v55), (1, .int p55_1), (0, .ref a0)]) hx hb dX12_rains_55 hl (k := 0) rfl (by rw [ev55]; rfl) (by decide) rfl (fun ls hl => ?_)
          refine lv_goto (tgt := 4) hx hb dX12_rains_58 (by decide) ?_
          exact ih4 _ (by omega) v55 p55_1 _ _ _ rfl (by omega) (by omega) (by omega) (by omega) hH hS (lv_sub hl [0, 1, 2] rfl)
        refine lv_icmp_eq (tgt := 55) hx hb dX12_rains_24 (by decide) (fun c24 => ?_) (fun c24 => ?_)
        · skip
          have tc24 := f_eq (k := -1) (by decide) c24
          exact J55 p4_1 _ _ _ (by omega) (by omega) hH hS (lv_sub hl [0, 1, 2] rfl)
        · skip
          have tc24 := f_ne (k := -1) (by decide) c24
          refine lv_iload_n hx hb dX12_rains_27 rfl (lv_at hl 1 rfl) ?_
          refine lv_iconst (v := (-1)) hx hb dX12_rains_28 (by decide) ?_
          have J53 : ∀  (H : Heap) (locs : List Loc) (ls : Array Slot), HT D cs A T O X H → va_S A s.heap H locs → lv_has ls 3 [(2, .int p4_2), (0, .ref a0)] → W p l e { frames := 0, cells := 0, slots := 0, locals := 0 } s m [.ref a0].toArray below meth c H locs 0 0 (MQ below (Ti D cs (fun r u => u = (T, O, X) ∧ 0 ≤ r.toInt ∧ r.toInt ≤ 1) A) [.ref a0].toArray s 0 0 A) (F0 m 53 ls []) := by
            intro  H locs ls  hH hS hl
            refine lv_iload_n hx hb dX12_rains_53 rfl (lv_at hl 0 rfl) ?_
            refine lv_istore_n (lv' := [(1, .int p4_2), (2, .int p4_2), (0, .ref a0)]) hx hb dX12_rains_54 rfl hl (by decide) rfl (fun ls hl => ?_)
            exact J55 p4_2 _ _ _ (by omega) (by omega) hH hS (lv_sub hl [1, 0, 2] rfl)
          refine lv_icmp_eq (tgt := 53) hx hb dX12_rains_29 (by decide) (fun c29 => ?_) (fun c29 => ?_)
          · skip
            have tc29 := f_eq (k := -1) (by decide) c29
            exact J53  _ _ _  hH hS (lv_sub hl [0, 2] rfl)
          · skip
            have tc29 := f_ne (k := -1) (by decide) c29
            refine lv_aload_n hx hb dX12_rains_32 rfl (lv_at hl 2 rfl) ?_
            refine t_get (ci := 12) (lst := ft12 hg mq) (C := RX12) (F := TX12) (N := 36) hx hb hts uX12 hown hkb hH t_a0 (hO.no t_a0 (by decide)) (fun _ h9 => h9) rfl rfl 1 (by decide) rfl kw_1224 (fun _ h9 => h9) dX12_rains_33 (fun v9 h9 => ?_)
            obtain ⟨v33, rfl, t_v33⟩ := h9
            refine lv_bipush (v := 73) hx hb dX12_rains_36 (by decide) ?_
            refine lv_iload_n hx hb dX12_rains_38 rfl (lv_at hl 0 rfl) ?_
            refine lv_iadd hx hb dX12_rains_39 ?_
            refine lv_topi (fun v39 ev39 => ?_)
            have tv39 : v39.toInt = (73) + p4_2.toInt := by rw [ev39]; exact add_i (by decide : (73 : Int32).toInt = 73) rfl (by omega) (by omega)
            refine t_ild8 hx hb hkb hH t_v33 (hO.no t_v33 (by decide)) (by decide) (by omega) (by omega) dX12_rains_40 (fun v40 h9 h8 => ?_)
            refine lv_aload_n hx hb dX12_rains_41 rfl (lv_at hl 2 rfl) ?_
            refine t_get (ci := 12) (lst := ft12 hg mq) (C := RX12) (F := TX12) (N := 36) hx hb hts uX12 hown hkb hH t_a0 (hO.no t_a0 (by decide)) (fun _ h9 => h9) rfl rfl 1 (by decide) rfl kw_1224 (fun _ h9 => h9) dX12_rains_42 (fun v9 h9 => ?_)
            obtain ⟨v42, rfl, t_v42⟩ := h9
            refine lv_bipush (v := 73) hx hb dX12_rains_45 (by decide) ?_
            refine lv_iload_n hx hb dX12_rains_47 rfl (lv_at hl 1 rfl) ?_
            refine lv_iadd hx hb dX12_rains_48 ?_
            refine lv_topi (fun v48 ev48 => ?_)
            have tv48 : v48.toInt = (73) + p4_1.toInt := by rw [ev48]; exact add_i (by decide : (73 : Int32).toInt = 73) rfl (by omega) (by omega)
            refine t_ild8 hx hb hkb hH t_v42 (hO.no t_v42 (by decide)) (by decide) (by omega) (by omega) dX12_rains_49 (fun v49 h9 h8 => ?_)
            refine lv_icmp_ge (tgt := 55) hx hb dX12_rains_50 (by decide) (fun c50 => ?_) (fun c50 => ?_)
            · skip
              have fuc50 := full_i v40
              have fvc50 := full_i v49
              have tc50 := g_le c50
              exact J55 p4_1 _ _ _ (by omega) (by omega) hH hS (lv_sub hl [0, 1, 2] rfl)
            · skip
              have fuc50 := full_i v40
              have fvc50 := full_i v49
              have tc50 := g_nle c50
              exact J53  _ _ _  hH hS (lv_sub hl [0, 2] rfl)
  refine lv_istore_n (lv' := [(2, .int 0), (1, .int (-1)), (0, .ref a0)]) hx hb dX12_rains_3 rfl hl (by decide) rfl (fun ls hl => ?_)
  exact J4 _ 0 (-1) _ _ _ rfl (by decide) (by decide) (by decide) (by decide) hH hS (lv_sub hl [0, 1, 2] rfl)
set_option maxHeartbeats 4000000 in
set_option maxRecDepth 100000 in
theorem s_M_rain (l : Launch) (D : va_G) (cs : CS) (kf : KF) (T : TF) (O : List Nat) (X : va_W) (a0 hg mq : Nat) (x1 : Int32) (t_a0 : T a0 = some (22, hg, mq)) (b_hg : hg < 90) (hO : okO T O [1, 8, 22]) : TK l D cs kf yX12_rain cX12_rain 4 (some (.int)) { frames := 1, cells := 0, slots := 0, locals := 25 } [.ref a0, .int x1] T O X (Ti D cs (fun r u => u = (T, O, X))) := by
  refine tk_of (by decide) (Nat.le_of_ble_eq_true rfl) (fun p e s m below meth c ls A H locs hx hb hr hml hown hts hlocks hnm hkb hH hS hA hOX hks hE hl => ?_)
  have hown : s.vm.findClass RX12 = some m.cls := hown
  have hl : lv_has ls 4 [(0, .ref a0), (1, .int x1)] := hl
  refine lv_aload_n hx hb dX12_rain_0 rfl (lv_at hl 0 rfl) ?_
  refine lv_iconst (v := 0) hx hb dX12_rain_1 (by decide) ?_
  refine t_put (ci := 12) (lst := ft12 hg mq) (v := .int 0) (ty := tyX12 0) (C := RX12) (F := TX12) (N := 36) hx hb hts uX12 tyX12 tyX12_ok nmX12 hown hkb hH hS t_a0 (hO.no t_a0 (by decide)) (fun _ => Iff.rfl) rfl rfl 0 (by decide) rfl (⟨_, rfl⟩) kw_1223 (fun _ h9 => h9) rfl (tyX12_ok 0 (by decide)) rfl rfl dX12_rain_2 (fun H locs hH hS => ?_)
  refine lv_iload_n hx hb dX12_rain_5 rfl (lv_at hl 1 rfl) ?_
  refine lv_i2l hx hb dX12_rain_6 rfl ?_
  refine lv_lconst (v := 1) hx hb dX12_rain_7 (by decide) ?_
  refine lv_ldc2 hx hb hown (hts _ kw_1581) dX12_rain_8 ?_
  refine tk_i hH hS hA (tr_S (n := 3) (As := [.long x1.toInt64, .long 1, .long 14]) hx hb hml hown hts hkb hH hOX hks hE hS hA (s_M_within l D cs kf T O X x1.toInt64 1 14  (hO.sub (by decide))) kw_1341 kw_1342 kw_13 kw_1343 (by decide +kernel) ⟨Nat.le_of_ble_eq_true rfl, Nat.le_of_ble_eq_true rfl⟩ rfl rfl hl.1 (Nat.le_of_ble_eq_true rfl) dX12_rain_11 ⟨Nat.le_of_ble_eq_true rfl, Nat.le_of_ble_eq_true rfl⟩) (fun v11 u H locs hz9 hH hS => ?_)
  obtain ⟨rfl, l_v11, u_v11, x_v110, x_v111⟩ := hz9
  simp only [Int32.toInt_toInt64] at x_v110 x_v111
  have k9_1 : (1 : Int64).toInt = 1 := by decide
  have k9_14 : (14 : Int64).toInt = 14 := by decide
  have hH : HT D cs A T O X H := hH
  refine W.widen (k := 0) (n := 0) (Nat.le_of_ble_eq_true rfl) (Nat.le_of_ble_eq_true rfl) ?_
  refine lv_if_ne (tgt := 20) hx hb dX12_rain_14 (by decide) (fun c14 => ?_) (fun c14 => ?_)
  · skip
    have tc14 := f_ne (k := 0) (by decide) c14
    replace x_v110 := x_v110.resolve_left tc14
    clear x_v111
    refine lv_aload_n hx hb dX12_rain_20 rfl (lv_at hl 0 rfl) ?_
    refine tk_v hH hS hA (tr_V (n := 0) (As := []) hx hb hml hown hts hkb hH hOX hks hE hS hA (s_M_keeps l D cs kf T O X a0 hg mq t_a0 b_hg (hO.sub (by decide))) kw_1544 kw_1546 ks_79 kw_13 kw_1547 (by decide +kernel) ⟨Nat.le_of_ble_eq_true rfl, Nat.le_of_ble_eq_true rfl⟩ (HT.recv (ci := 12) hkb hH t_a0 (hO.no t_a0 (by decide)) rfl) rfl rfl hl.1 (Nat.le_of_ble_eq_true rfl) dX12_rain_21 ⟨Nat.le_of_ble_eq_true rfl, Nat.le_of_ble_eq_true rfl⟩) (fun u H locs hz9 hH hS => ?_)
    have hz9 : u = (T, O, X) := hz9
    subst hz9
    have hH : HT D cs A T O X H := hH
    refine W.widen (k := 0) (n := 0) (Nat.le_of_ble_eq_true rfl) (Nat.le_of_ble_eq_true rfl) ?_
    refine lv_iconst (v := 0) hx hb dX12_rain_24 (by decide) ?_
    refine lv_istore_n (lv' := [(2, .int 0), (0, .ref a0), (1, .int x1)]) hx hb dX12_rain_25 rfl hl (by decide) rfl (fun ls hl => ?_)
    refine lv_iconst (v := 0) hx hb dX12_rain_26 (by decide) ?_
    have J28 : ∀ (n : Nat) (p28_3 : Int32) (p28_2 : Int32) (H : Heap) (locs : List Loc) (ls : Array Slot), (14 - p28_3.toInt).toNat = n → (0 ≤ p28_3.toInt) → (p28_3.toInt ≤ 14) → HT D cs A T O X H → va_S A s.heap H locs → lv_has ls 4 [(3, .int p28_3), (2, .int p28_2), (0, .ref a0), (1, .int x1)] → W p l e { frames := 1, cells := 0, slots := 0, locals := 25 } s m [.ref a0, .int x1].toArray below meth c H locs 0 0 (MQ below (Ti D cs (fun r u => u = (T, O, X)) A) [.ref a0, .int x1].toArray s 0 0 A) (F0 m 28 ls []) := by
      intro n
      induction n using Nat.strongRecOn with
      | _ n ih28 =>
        intro p28_3 p28_2 H locs ls hm28 l_p28_3 u_p28_3 hH hS hl
        refine lv_iload_n hx hb dX12_rain_28 rfl (lv_at hl 0 rfl) ?_
        refine lv_iload_n hx hb dX12_rain_29 rfl (lv_at hl 3 rfl) ?_
        refine lv_icmp_ge (tgt := 54) hx hb dX12_rain_30 (by decide) (fun c30 => ?_) (fun c30 => ?_)
        · skip
          have fuc30 := full_i p28_3
          have fvc30 := full_i x1
          have tc30 := g_le c30
          refine lv_iload_n hx hb dX12_rain_54 rfl (lv_at hl 1 rfl) ?_
          have J62 : ∀  (H : Heap) (locs : List Loc) (ls : Array Slot), HT D cs A T O X H → va_S A s.heap H locs → lv_has ls 4 [(2, .int p28_2)] → W p l e { frames := 1, cells := 0, slots := 0, locals := 25 } s m [.ref a0, .int x1].toArray below meth c H locs 0 0 (MQ below (Ti D cs (fun r u => u = (T, O, X)) A) [.ref a0, .int x1].toArray s 0 0 A) (F0 m 62 ls []) := by
            intro  H locs ls  hH hS hl
            refine lv_iload_n hx hb dX12_rain_62 rfl (lv_at hl 0 rfl) ?_
            exact te_i hx hb hr hlocks hH hS (rfl) dX12_rain_63
          refine lv_if_le (tgt := 62) hx hb dX12_rain_55 (by decide) (fun c55 => ?_) (fun c55 => ?_)
          · skip
            have tc55 := f_le (k := 0) (by decide) c55
            exact J62  _ _ _  hH hS (lv_sub hl [1] rfl)
          · skip
            have tc55 := f_nle (k := 0) (by decide) c55
            refine lv_aload_n hx hb dX12_rain_58 rfl (lv_at hl 2 rfl) ?_
            refine tk_v hH hS hA (tr_V (n := 0) (As := []) hx hb hml hown hts hkb hH hOX hks hE hS hA (s_M_notes l D cs kf T O X a0 hg mq t_a0 b_hg (hO.sub (by decide))) kw_1552 kw_1554 ks_81 kw_13 kw_1555 (by decide +kernel) ⟨Nat.le_of_ble_eq_true rfl, Nat.le_of_ble_eq_true rfl⟩ (HT.recv (ci := 12) hkb hH t_a0 (hO.no t_a0 (by decide)) rfl) rfl rfl hl.1 (Nat.le_of_ble_eq_true rfl) dX12_rain_59 ⟨Nat.le_of_ble_eq_true rfl, Nat.le_of_ble_eq_true rfl⟩) (fun u H locs hz9 hH hS => ?_)
            obtain ⟨rfl⟩ := hz9
            have hH : HT D cs A T O X H := hH
            refine W.widen (k := 0) (n := 0) (Nat.le_of_ble_eq_true rfl) (Nat.le_of_ble_eq_true rfl) ?_
            exact J62  _ _ _  hH hS (lv_sub hl [1] rfl)
        · skip
          have fuc30 := full_i p28_3
          have fvc30 := full_i x1
          have tc30 := g_nle c30
          refine lv_iload_n hx hb dX12_rain_33 rfl (lv_at hl 1 rfl) ?_
          refine lv_aload_n hx hb dX12_rain_34 rfl (lv_at hl 2 rfl) ?_
          refine tk_i hH hS hA (tr_V (n := 0) (As := []) hx hb hml hown hts hkb hH hOX hks hE hS hA (s_M_rains l D cs kf T O X a0 hg mq t_a0 b_hg (hO.sub (by decide))) kw_1582 kw_1584 ks_85 kw_13 kw_1585 (by decide +kernel) ⟨Nat.le_of_ble_eq_true rfl, Nat.le_of_ble_eq_true rfl⟩ (HT.recv (ci := 12) hkb hH t_a0 (hO.no t_a0 (by decide)) rfl) rfl rfl hl.1 (Nat.le_of_ble_eq_true rfl) dX12_rain_35 ⟨Nat.le_of_ble_eq_true rfl, Nat.le_of_ble_eq_true rfl⟩) (fun v35 u H locs hz9 hH hS => ?_)
          obtain ⟨rfl, l_v35, u_v35⟩ := hz9
          have hH : HT D cs A T O X H := hH
          refine W.widen (k := 0) (n := 0) (Nat.le_of_ble_eq_true rfl) (Nat.le_of_ble_eq_true rfl) ?_
          have J46 : ∀ (k46_0 : Int32) (H : Heap) (locs : List Loc) (ls : Array Slot), (0 ≤ k46_0.toInt) → (k46_0.toInt ≤ 1) → HT D cs A T O X H → va_S A s.heap H locs → lv_has ls 4 [(3, .int p28_3), (0, .ref a0), (1, .int x1)] → W p l e { frames := 1, cells := 0, slots := 0, locals := 25 } s m [.ref a0, .int x1].toArray below meth c H locs 0 0 (MQ below (Ti D cs (fun r u => u = (T, O, X)) A) [.ref a0, .int x1].toArray s 0 0 A) (F0 m 46 ls [.int k46_0, .int p28_2]) := by
            intro k46_0 H locs ls l_k46_0 u_k46_0 hH hS hl
            refine lv_iadd hx hb dX12_rain_46 ?_
            refine lv_topi (fun v46 ev46 => ?_)
            refine lv_istore_n (lv' := [(2, .int v46), (3, .int p28_3), (0, .ref a0), (1, .int x1)]) hx hb dX12_rain_47 rfl hl (by decide) rfl (fun ls hl => ?_)
            obtain ⟨v48, ev48⟩ : ∃ y : Int32, y = p28_3 + 1 := ⟨_, rfl⟩
            have tv48 : v48.toInt = p28_3.toInt + (1) := by rw [ev48]; exact add_i rfl (by decide) (by omega) (by omega)
            refine lv_iinc (v := v48) (lv' := [(3, .int v48), (2, .int v46), (0, .ref a0), (1, .int x1)]) hx hb dX12_rain_48 hl (k := 1) rfl (by rw [ev48]; rfl) (by decide) rfl (fun ls hl => ?_)
            refine lv_goto (tgt := 28) hx hb dX12_rain_51 (by decide) ?_
            exact ih28 _ (by omega) v48 v46 _ _ _ rfl (by omega) (by omega) hH hS (lv_sub hl [0, 1, 2, 3] rfl)
          refine lv_if_eq (tgt := 45) hx hb dX12_rain_38 (by decide) (fun c38 => ?_) (fun c38 => ?_)
          · skip
            have tc38 := f_eq (k := 0) (by decide) c38
            refine lv_iconst (v := 0) hx hb dX12_rain_45 (by decide) ?_
            exact J46 0 _ _ _ (by decide) (by decide) hH hS (lv_sub hl [0, 2, 3] rfl)
          · skip
            have tc38 := f_ne (k := 0) (by decide) c38
            refine lv_iconst (v := 1) hx hb dX12_rain_41 (by decide) ?_
            refine lv_goto (tgt := 46) hx hb dX12_rain_42 (by decide) ?_
            exact J46 1 _ _ _ (by decide) (by decide) hH hS (lv_sub hl [0, 2, 3] rfl)
    refine lv_istore_n (lv' := [(3, .int 0), (2, .int 0), (0, .ref a0), (1, .int x1)]) hx hb dX12_rain_27 rfl hl (by decide) rfl (fun ls hl => ?_)
    exact J28 _ 0 0 _ _ _ rfl (by decide) (by decide) hH hS (lv_sub hl [0, 1, 2, 3] rfl)
  · skip
    have tc14 := f_eq (k := 0) (by decide) c14
    clear x_v110
    replace x_v111 := x_v111.resolve_left (fun q9 => q9 tc14)
    refine lv_bipush (v := (-3)) hx hb dX12_rain_17 (by decide) ?_
    exact te_i hx hb hr hlocks hH hS (rfl) dX12_rain_19
set_option maxHeartbeats 4000000 in
set_option maxRecDepth 100000 in
theorem s_M_breaks (l : Launch) (D : va_G) (cs : CS) (kf : KF) (T : TF) (O : List Nat) (X : va_W) (a0 hg mq : Nat) (x1 : Int32) (t_a0 : T a0 = some (22, hg, mq)) (b_hg : hg < 90) (hO : okO T O [1, 8, 22]) : TK l D cs kf yX12_breaks cX12_breaks 3 (some (.int)) { frames := 2, cells := 0, slots := 0, locals := 47 } [.ref a0, .int x1] T O X (Ti D cs (fun r u => u = (T, O, X) ∧ -5 ≤ r.toInt ∧ r.toInt ≤ 1)) := by
  refine tk_of (by decide) (Nat.le_of_ble_eq_true rfl) (fun p e s m below meth c ls A H locs hx hb hr hml hown hts hlocks hnm hkb hH hS hA hOX hks hE hl => ?_)
  have hown : s.vm.findClass RX12 = some m.cls := hown
  have hl : lv_has ls 3 [(0, .ref a0), (1, .int x1)] := hl
  refine lv_aload_n hx hb dX12_breaks_0 rfl (lv_at hl 0 rfl) ?_
  refine lv_iconst (v := 0) hx hb dX12_breaks_1 (by decide) ?_
  refine t_put (ci := 12) (lst := ft12 hg mq) (v := .int 0) (ty := tyX12 0) (C := RX12) (F := TX12) (N := 36) hx hb hts uX12 tyX12 tyX12_ok nmX12 hown hkb hH hS t_a0 (hO.no t_a0 (by decide)) (fun _ => Iff.rfl) rfl rfl 0 (by decide) rfl (⟨_, rfl⟩) kw_1223 (fun _ h9 => h9) rfl (tyX12_ok 0 (by decide)) rfl rfl dX12_breaks_2 (fun H locs hH hS => ?_)
  refine lv_aload_n hx hb dX12_breaks_5 rfl (lv_at hl 0 rfl) ?_
  refine lv_iload_n hx hb dX12_breaks_6 rfl (lv_at hl 1 rfl) ?_
  refine lv_i2l hx hb dX12_breaks_7 rfl ?_
  refine tk_i hH hS hA (tr_V (n := 1) (As := [.long x1.toInt64]) hx hb hml hown hts hkb hH hOX hks hE hS hA (s_M_isHold l D cs kf T O X a0 hg mq x1.toInt64 t_a0 b_hg (hO.sub (by decide))) kw_1454 kw_1456 ks_64 kw_13 kw_1457 (by decide +kernel) ⟨Nat.le_of_ble_eq_true rfl, Nat.le_of_ble_eq_true rfl⟩ (HT.recv (ci := 12) hkb hH t_a0 (hO.no t_a0 (by decide)) rfl) rfl rfl hl.1 (Nat.le_of_ble_eq_true rfl) dX12_breaks_8 ⟨Nat.le_of_ble_eq_true rfl, Nat.le_of_ble_eq_true rfl⟩) (fun v8 u H locs hz9 hH hS => ?_)
  obtain ⟨rfl, l_v8, u_v8, x_v80⟩ := hz9
  simp only [Int32.toInt_toInt64] at x_v80
  have hH : HT D cs A T O X H := hH
  refine W.widen (k := 0) (n := 0) (Nat.le_of_ble_eq_true rfl) (Nat.le_of_ble_eq_true rfl) ?_
  refine lv_if_ne (tgt := 17) hx hb dX12_breaks_11 (by decide) (fun c11 => ?_) (fun c11 => ?_)
  · skip
    have tc11 := f_ne (k := 0) (by decide) c11
    replace x_v80 := x_v80.resolve_left tc11
    refine lv_aload_n hx hb dX12_breaks_17 rfl (lv_at hl 0 rfl) ?_
    refine t_get (ci := 12) (lst := ft12 hg mq) (C := RX12) (F := TX12) (N := 36) hx hb hts uX12 hown hkb hH t_a0 (hO.no t_a0 (by decide)) (fun _ h9 => h9) rfl rfl 1 (by decide) rfl kw_1224 (fun _ h9 => h9) dX12_breaks_18 (fun v9 h9 => ?_)
    obtain ⟨v18, rfl, t_v18⟩ := h9
    refine lv_bipush (v := 87) hx hb dX12_breaks_21 (by decide) ?_
    refine t_ild8 hx hb hkb hH t_v18 (hO.no t_v18 (by decide)) (by decide) (by decide) (by decide) dX12_breaks_23 (fun v23 h9 h8 => ?_)
    refine lv_i2l hx hb dX12_breaks_24 rfl ?_
    refine lv_iload_n hx hb dX12_breaks_25 rfl (lv_at hl 1 rfl) ?_
    refine tk_i hH hS hA (tr_S (n := 2) (As := [.long v23.toInt64, .int x1]) hx hb hml hown hts hkb hH hOX hks hE hS hA (s_M_isIn2 l D cs kf T O X v23.toInt64 x1  (hO.sub (by decide))) kw_1440 kw_1441 kw_13 kw_1442 (by decide +kernel) ⟨Nat.le_of_ble_eq_true rfl, Nat.le_of_ble_eq_true rfl⟩ rfl rfl hl.1 (Nat.le_of_ble_eq_true rfl) dX12_breaks_26 ⟨Nat.le_of_ble_eq_true rfl, Nat.le_of_ble_eq_true rfl⟩) (fun v26 u H locs hz9 hH hS => ?_)
    obtain ⟨rfl, l_v26, u_v26, x_v260⟩ := hz9
    have hH : HT D cs A T O X H := hH
    refine W.widen (k := 0) (n := 0) (Nat.le_of_ble_eq_true rfl) (Nat.le_of_ble_eq_true rfl) ?_
    refine lv_if_eq (tgt := 35) hx hb dX12_breaks_29 (by decide) (fun c29 => ?_) (fun c29 => ?_)
    · skip
      have tc29 := f_eq (k := 0) (by decide) c29
      refine lv_aload_n hx hb dX12_breaks_35 rfl (lv_at hl 0 rfl) ?_
      refine tk_v hH hS hA (tr_V (n := 0) (As := []) hx hb hml hown hts hkb hH hOX hks hE hS hA (s_M_keeps l D cs kf T O X a0 hg mq t_a0 b_hg (hO.sub (by decide))) kw_1544 kw_1546 ks_79 kw_13 kw_1547 (by decide +kernel) ⟨Nat.le_of_ble_eq_true rfl, Nat.le_of_ble_eq_true rfl⟩ (HT.recv (ci := 12) hkb hH t_a0 (hO.no t_a0 (by decide)) rfl) rfl rfl hl.1 (Nat.le_of_ble_eq_true rfl) dX12_breaks_36 ⟨Nat.le_of_ble_eq_true rfl, Nat.le_of_ble_eq_true rfl⟩) (fun u H locs hz9 hH hS => ?_)
      have hz9 : u = (T, O, X) := hz9
      subst hz9
      have hH : HT D cs A T O X H := hH
      refine W.widen (k := 0) (n := 0) (Nat.le_of_ble_eq_true rfl) (Nat.le_of_ble_eq_true rfl) ?_
      refine lv_aload_n hx hb dX12_breaks_39 rfl (lv_at hl 0 rfl) ?_
      refine t_get (ci := 12) (lst := ft12 hg mq) (C := RX12) (F := TX12) (N := 36) hx hb hts uX12 hown hkb hH t_a0 (hO.no t_a0 (by decide)) (fun _ h9 => h9) rfl rfl 1 (by decide) rfl kw_1224 (fun _ h9 => h9) dX12_breaks_40 (fun v9 h9 => ?_)
      obtain ⟨v40, rfl, t_v40⟩ := h9
      refine lv_bipush (v := 59) hx hb dX12_breaks_43 (by decide) ?_
      refine lv_iload_n hx hb dX12_breaks_45 rfl (lv_at hl 1 rfl) ?_
      refine lv_iadd hx hb dX12_breaks_46 ?_
      refine lv_topi (fun v46 ev46 => ?_)
      have tv46 : v46.toInt = (59) + x1.toInt := by rw [ev46]; exact add_i (by decide : (59 : Int32).toInt = 59) rfl (by omega) (by omega)
      refine t_ild8 hx hb hkb hH t_v40 (hO.no t_v40 (by decide)) (by decide) (by omega) (by omega) dX12_breaks_47 (fun v47 h9 h8 => ?_)
      refine lv_iconst (v := (-1)) hx hb dX12_breaks_48 (by decide) ?_
      have J57 : ∀ (k57_0 : Int32) (H : Heap) (locs : List Loc) (ls : Array Slot), (0 ≤ k57_0.toInt) → (k57_0.toInt ≤ 1) → HT D cs A T O X H → va_S A s.heap H locs → lv_has ls 3 [(0, .ref a0), (1, .int x1)] → W p l e { frames := 2, cells := 0, slots := 0, locals := 47 } s m [.ref a0, .int x1].toArray below meth c H locs 0 0 (MQ below (Ti D cs (fun r u => u = (T, O, X) ∧ -5 ≤ r.toInt ∧ r.toInt ≤ 1) A) [.ref a0, .int x1].toArray s 0 0 A) (F0 m 57 ls [.int k57_0]) := by
        intro k57_0 H locs ls l_k57_0 u_k57_0 hH hS hl
        refine lv_istore_n (lv' := [(2, .int k57_0), (0, .ref a0), (1, .int x1)]) hx hb dX12_breaks_57 rfl hl (by decide) rfl (fun ls hl => ?_)
        refine lv_aload_n hx hb dX12_breaks_58 rfl (lv_at hl 1 rfl) ?_
        refine t_get (ci := 12) (lst := ft12 hg mq) (C := RX12) (F := TX12) (N := 36) hx hb hts uX12 hown hkb hH t_a0 (hO.no t_a0 (by decide)) (fun _ h9 => h9) rfl rfl 1 (by decide) rfl kw_1224 (fun _ h9 => h9) dX12_breaks_59 (fun v9 h9 => ?_)
        obtain ⟨v59, rfl, t_v59⟩ := h9
        refine lv_iload_n hx hb dX12_breaks_62 rfl (lv_at hl 2 rfl) ?_
        refine tk_v hH hS hA (tr_S (n := 2) (As := [.ref v59, .int x1]) hx hb hml hown hts hkb hH hOX hks hE hS hA (s_M_breaksOf l D cs kf T O X v59 hg x1 t_v59 (by omega) (by omega) (hO.sub (by decide))) kw_1443 kw_1444 kw_13 kw_1445 (by decide +kernel) ⟨Nat.le_of_ble_eq_true rfl, Nat.le_of_ble_eq_true rfl⟩ rfl rfl hl.1 (Nat.le_of_ble_eq_true rfl) dX12_breaks_63 ⟨Nat.le_of_ble_eq_true rfl, Nat.le_of_ble_eq_true rfl⟩) (fun u H locs hz9 hH hS => ?_)
        have hz9 : u = (T, O, X) := hz9
        subst hz9
        have hH : HT D cs A T O X H := hH
        refine W.widen (k := 0) (n := 0) (Nat.le_of_ble_eq_true rfl) (Nat.le_of_ble_eq_true rfl) ?_
        refine lv_aload_n hx hb dX12_breaks_66 rfl (lv_at hl 1 rfl) ?_
        refine tk_v hH hS hA (tr_V (n := 0) (As := []) hx hb hml hown hts hkb hH hOX hks hE hS hA (s_M_notes l D cs kf T O X a0 hg mq t_a0 b_hg (hO.sub (by decide))) kw_1552 kw_1554 ks_81 kw_13 kw_1555 (by decide +kernel) ⟨Nat.le_of_ble_eq_true rfl, Nat.le_of_ble_eq_true rfl⟩ (HT.recv (ci := 12) hkb hH t_a0 (hO.no t_a0 (by decide)) rfl) rfl rfl hl.1 (Nat.le_of_ble_eq_true rfl) dX12_breaks_67 ⟨Nat.le_of_ble_eq_true rfl, Nat.le_of_ble_eq_true rfl⟩) (fun u H locs hz9 hH hS => ?_)
        obtain ⟨rfl⟩ := hz9
        have hH : HT D cs A T O X H := hH
        refine W.widen (k := 0) (n := 0) (Nat.le_of_ble_eq_true rfl) (Nat.le_of_ble_eq_true rfl) ?_
        refine lv_iload_n hx hb dX12_breaks_70 rfl (lv_at hl 0 rfl) ?_
        exact te_i hx hb hr hlocks hH hS (⟨rfl, by omega, by omega⟩) dX12_breaks_71
      refine lv_icmp_ne (tgt := 56) hx hb dX12_breaks_49 (by decide) (fun c49 => ?_) (fun c49 => ?_)
      · skip
        have tc49 := f_ne (k := -1) (by decide) c49
        refine lv_iconst (v := 1) hx hb dX12_breaks_56 (by decide) ?_
        exact J57 1 _ _ _ (by decide) (by decide) hH hS (lv_sub hl [0, 1] rfl)
      · skip
        have tc49 := f_eq (k := -1) (by decide) c49
        refine lv_iconst (v := 0) hx hb dX12_breaks_52 (by decide) ?_
        refine lv_goto (tgt := 57) hx hb dX12_breaks_53 (by decide) ?_
        exact J57 0 _ _ _ (by decide) (by decide) hH hS (lv_sub hl [0, 1] rfl)
    · skip
      have tc29 := f_ne (k := 0) (by decide) c29
      refine lv_bipush (v := (-5)) hx hb dX12_breaks_32 (by decide) ?_
      exact te_i hx hb hr hlocks hH hS (⟨rfl, by decide, by decide⟩) dX12_breaks_34
  · skip
    have tc11 := f_eq (k := 0) (by decide) c11
    clear x_v80
    refine lv_bipush (v := (-2)) hx hb dX12_breaks_14 (by decide) ?_
    exact te_i hx hb hr hlocks hH hS (⟨rfl, by decide, by decide⟩) dX12_breaks_16
set_option maxHeartbeats 4000000 in
set_option maxRecDepth 100000 in
theorem s_M_newYear (l : Launch) (D : va_G) (cs : CS) (kf : KF) (T : TF) (O : List Nat) (X : va_W) (a0 hg mq : Nat) (t_a0 : T a0 = some (22, hg, mq)) (b_hg : hg < 90) (hO : okO T O [1, 8, 22]) : TK l D cs kf yX12_newYear cX12_newYear 3 (some (.int)) { frames := 1, cells := 0, slots := 0, locals := 22 } [.ref a0] T O X (Ti D cs (fun r u => u = (T, O, X))) := by
  refine tk_of (by decide) (Nat.le_of_ble_eq_true rfl) (fun p e s m below meth c ls A H locs hx hb hr hml hown hts hlocks hnm hkb hH hS hA hOX hks hE hl => ?_)
  have hown : s.vm.findClass RX12 = some m.cls := hown
  have hl : lv_has ls 3 [(0, .ref a0)] := hl
  refine lv_aload_n hx hb dX12_newYear_0 rfl (lv_at hl 0 rfl) ?_
  refine lv_iconst (v := 0) hx hb dX12_newYear_1 (by decide) ?_
  refine t_put (ci := 12) (lst := ft12 hg mq) (v := .int 0) (ty := tyX12 0) (C := RX12) (F := TX12) (N := 36) hx hb hts uX12 tyX12 tyX12_ok nmX12 hown hkb hH hS t_a0 (hO.no t_a0 (by decide)) (fun _ => Iff.rfl) rfl rfl 0 (by decide) rfl (⟨_, rfl⟩) kw_1223 (fun _ h9 => h9) rfl (tyX12_ok 0 (by decide)) rfl rfl dX12_newYear_2 (fun H locs hH hS => ?_)
  refine lv_aload_n hx hb dX12_newYear_5 rfl (lv_at hl 0 rfl) ?_
  refine tk_v hH hS hA (tr_V (n := 0) (As := []) hx hb hml hown hts hkb hH hOX hks hE hS hA (s_M_keeps l D cs kf T O X a0 hg mq t_a0 b_hg (hO.sub (by decide))) kw_1544 kw_1546 ks_79 kw_13 kw_1547 (by decide +kernel) ⟨Nat.le_of_ble_eq_true rfl, Nat.le_of_ble_eq_true rfl⟩ (HT.recv (ci := 12) hkb hH t_a0 (hO.no t_a0 (by decide)) rfl) rfl rfl hl.1 (Nat.le_of_ble_eq_true rfl) dX12_newYear_6 ⟨Nat.le_of_ble_eq_true rfl, Nat.le_of_ble_eq_true rfl⟩) (fun u H locs hz9 hH hS => ?_)
  have hz9 : u = (T, O, X) := hz9
  subst hz9
  have hH : HT D cs A T O X H := hH
  refine W.widen (k := 0) (n := 0) (Nat.le_of_ble_eq_true rfl) (Nat.le_of_ble_eq_true rfl) ?_
  refine lv_aload_n hx hb dX12_newYear_9 rfl (lv_at hl 0 rfl) ?_
  refine tk_i hH hS hA (tr_V (n := 0) (As := []) hx hb hml hown hts hkb hH hOX hks hE hS hA (s_M_usedMany l D cs kf T O X a0 hg mq t_a0 b_hg (hO.sub (by decide))) kw_1594 kw_1596 ks_86 kw_13 kw_1597 (by decide +kernel) ⟨Nat.le_of_ble_eq_true rfl, Nat.le_of_ble_eq_true rfl⟩ (HT.recv (ci := 12) hkb hH t_a0 (hO.no t_a0 (by decide)) rfl) rfl rfl hl.1 (Nat.le_of_ble_eq_true rfl) dX12_newYear_10 ⟨Nat.le_of_ble_eq_true rfl, Nat.le_of_ble_eq_true rfl⟩) (fun v10 u H locs hz9 hH hS => ?_)
  have hz9 : u = (T, O, X) := hz9
  subst hz9
  have hH : HT D cs A T O X H := hH
  refine W.widen (k := 0) (n := 0) (Nat.le_of_ble_eq_true rfl) (Nat.le_of_ble_eq_true rfl) ?_
  refine lv_istore_n (lv' := [(1, .int v10), (0, .ref a0)]) hx hb dX12_newYear_13 rfl hl (by decide) rfl (fun ls hl => ?_)
  refine lv_iconst (v := 0) hx hb dX12_newYear_14 (by decide) ?_
  have J16 : ∀ (n : Nat) (p16_2 : Int32) (H : Heap) (locs : List Loc) (ls : Array Slot), (14 - p16_2.toInt).toNat = n → (0 ≤ p16_2.toInt) → (p16_2.toInt ≤ 14) → HT D cs A T O X H → va_S A s.heap H locs → lv_has ls 3 [(2, .int p16_2), (1, .int v10), (0, .ref a0)] → W p l e { frames := 1, cells := 0, slots := 0, locals := 22 } s m [.ref a0].toArray below meth c H locs 0 0 (MQ below (Ti D cs (fun r u => u = (T, O, X)) A) [.ref a0].toArray s 0 0 A) (F0 m 16 ls []) := by
    intro n
    induction n using Nat.strongRecOn with
    | _ n ih16 =>
      intro p16_2 H locs ls hm16 l_p16_2 u_p16_2 hH hS hl
      refine lv_iload_n hx hb dX12_newYear_16 rfl (lv_at hl 0 rfl) ?_
      refine lv_bipush (v := 14) hx hb dX12_newYear_17 (by decide) ?_
      refine lv_icmp_ge (tgt := 48) hx hb dX12_newYear_19 (by decide) (fun c19 => ?_) (fun c19 => ?_)
      · skip
        have tc19 := f_ge (k := 14) (by decide) c19
        refine lv_aload_n hx hb dX12_newYear_48 rfl (lv_at hl 2 rfl) ?_
        refine t_get (ci := 12) (lst := ft12 hg mq) (C := RX12) (F := TX12) (N := 36) hx hb hts uX12 hown hkb hH t_a0 (hO.no t_a0 (by decide)) (fun _ h9 => h9) rfl rfl 1 (by decide) rfl kw_1224 (fun _ h9 => h9) dX12_newYear_49 (fun v9 h9 => ?_)
        obtain ⟨v49, rfl, t_v49⟩ := h9
        refine lv_bipush (v := 88) hx hb dX12_newYear_52 (by decide) ?_
        refine lv_iconst (v := 0) hx hb dX12_newYear_54 (by decide) ?_
        refine t_ist8 hx hb hkb hH hS t_v49 (hO.no t_v49 (by decide)) (by decide) (by decide) (by decide) (by decide) (by decide) (p8_far (by decide) (by decide)) dX12_newYear_55 (fun H locs hH hS => ?_)
        refine lv_aload_n hx hb dX12_newYear_56 rfl (lv_at hl 2 rfl) ?_
        refine t_get (ci := 12) (lst := ft12 hg mq) (C := RX12) (F := TX12) (N := 36) hx hb hts uX12 hown hkb hH t_a0 (hO.no t_a0 (by decide)) (fun _ h9 => h9) rfl rfl 1 (by decide) rfl kw_1224 (fun _ h9 => h9) dX12_newYear_57 (fun v9 h9 => ?_)
        obtain ⟨v57, rfl, t_v57⟩ := h9
        refine lv_bipush (v := 89) hx hb dX12_newYear_60 (by decide) ?_
        refine lv_dup2_11 hx hb dX12_newYear_62 rfl rfl ?_
        refine t_ild8 hx hb hkb hH t_v57 (hO.no t_v57 (by decide)) (by decide) (by decide) (by decide) dX12_newYear_63 (fun v63 h9 h8 => ?_)
        refine lv_iconst (v := 1) hx hb dX12_newYear_64 (by decide) ?_
        refine lv_iadd hx hb dX12_newYear_65 ?_
        refine lv_topi (fun v65 ev65 => ?_)
        refine t_ist8 hx hb hkb hH hS t_v57 (hO.no t_v57 (by decide)) (by decide) (by decide) (by decide) (by decide) (by decide) (p8_far (by decide) (by decide)) dX12_newYear_66 (fun H locs hH hS => ?_)
        refine lv_aload_n hx hb dX12_newYear_67 rfl (lv_at hl 2 rfl) ?_
        refine tk_v hH hS hA (tr_V (n := 0) (As := []) hx hb hml hown hts hkb hH hOX hks hE hS hA (s_M_notes l D cs kf T O X a0 hg mq t_a0 b_hg (hO.sub (by decide))) kw_1552 kw_1554 ks_81 kw_13 kw_1555 (by decide +kernel) ⟨Nat.le_of_ble_eq_true rfl, Nat.le_of_ble_eq_true rfl⟩ (HT.recv (ci := 12) hkb hH t_a0 (hO.no t_a0 (by decide)) rfl) rfl rfl hl.1 (Nat.le_of_ble_eq_true rfl) dX12_newYear_68 ⟨Nat.le_of_ble_eq_true rfl, Nat.le_of_ble_eq_true rfl⟩) (fun u H locs hz9 hH hS => ?_)
        obtain ⟨rfl⟩ := hz9
        have hH : HT D cs A T O X H := hH
        refine W.widen (k := 0) (n := 0) (Nat.le_of_ble_eq_true rfl) (Nat.le_of_ble_eq_true rfl) ?_
        refine lv_iload_n hx hb dX12_newYear_71 rfl (lv_at hl 1 rfl) ?_
        exact te_i hx hb hr hlocks hH hS (rfl) dX12_newYear_72
      · skip
        have tc19 := f_nge (k := 14) (by decide) c19
        refine lv_aload_n hx hb dX12_newYear_22 rfl (lv_at hl 2 rfl) ?_
        refine t_get (ci := 12) (lst := ft12 hg mq) (C := RX12) (F := TX12) (N := 36) hx hb hts uX12 hown hkb hH t_a0 (hO.no t_a0 (by decide)) (fun _ h9 => h9) rfl rfl 1 (by decide) rfl kw_1224 (fun _ h9 => h9) dX12_newYear_23 (fun v9 h9 => ?_)
        obtain ⟨v23, rfl, t_v23⟩ := h9
        refine lv_bipush (v := 59) hx hb dX12_newYear_26 (by decide) ?_
        refine lv_iload_n hx hb dX12_newYear_28 rfl (lv_at hl 0 rfl) ?_
        refine lv_iadd hx hb dX12_newYear_29 ?_
        refine lv_topi (fun v29 ev29 => ?_)
        have tv29 : v29.toInt = (59) + p16_2.toInt := by rw [ev29]; exact add_i (by decide : (59 : Int32).toInt = 59) rfl (by omega) (by omega)
        refine lv_iconst (v := (-1)) hx hb dX12_newYear_30 (by decide) ?_
        refine t_ist8 hx hb hkb hH hS t_v23 (hO.no t_v23 (by decide)) (by decide) (by omega) (by omega) (by omega) (by omega) (p8_far (by omega) (by omega)) dX12_newYear_31 (fun H locs hH hS => ?_)
        refine lv_aload_n hx hb dX12_newYear_32 rfl (lv_at hl 2 rfl) ?_
        refine t_get (ci := 12) (lst := ft12 hg mq) (C := RX12) (F := TX12) (N := 36) hx hb hts uX12 hown hkb hH t_a0 (hO.no t_a0 (by decide)) (fun _ h9 => h9) rfl rfl 1 (by decide) rfl kw_1224 (fun _ h9 => h9) dX12_newYear_33 (fun v9 h9 => ?_)
        obtain ⟨v33, rfl, t_v33⟩ := h9
        refine lv_bipush (v := 73) hx hb dX12_newYear_36 (by decide) ?_
        refine lv_iload_n hx hb dX12_newYear_38 rfl (lv_at hl 0 rfl) ?_
        refine lv_iadd hx hb dX12_newYear_39 ?_
        refine lv_topi (fun v39 ev39 => ?_)
        have tv39 : v39.toInt = (73) + p16_2.toInt := by rw [ev39]; exact add_i (by decide : (73 : Int32).toInt = 73) rfl (by omega) (by omega)
        refine lv_iconst (v := (-1)) hx hb dX12_newYear_40 (by decide) ?_
        refine t_ist8 hx hb hkb hH hS t_v33 (hO.no t_v33 (by decide)) (by decide) (by omega) (by omega) (by omega) (by omega) (p8_far (by omega) (by omega)) dX12_newYear_41 (fun H locs hH hS => ?_)
        obtain ⟨v42, ev42⟩ : ∃ y : Int32, y = p16_2 + 1 := ⟨_, rfl⟩
        have tv42 : v42.toInt = p16_2.toInt + (1) := by rw [ev42]; exact add_i rfl (by decide) (by omega) (by omega)
        refine lv_iinc (v := v42) (lv' := [(2, .int v42), (1, .int v10), (0, .ref a0)]) hx hb dX12_newYear_42 hl (k := 0) rfl (by rw [ev42]; rfl) (by decide) rfl (fun ls hl => ?_)
        refine lv_goto (tgt := 16) hx hb dX12_newYear_45 (by decide) ?_
        exact ih16 _ (by omega) v42 _ _ _ rfl (by omega) (by omega) hH hS (lv_sub hl [0, 1, 2] rfl)
  refine lv_istore_n (lv' := [(2, .int 0), (1, .int v10), (0, .ref a0)]) hx hb dX12_newYear_15 rfl hl (by decide) rfl (fun ls hl => ?_)
  exact J16 _ 0 _ _ _ rfl (by decide) (by decide) hH hS (lv_sub hl [0, 1, 2] rfl)
set_option maxHeartbeats 4000000 in
set_option maxRecDepth 100000 in
theorem s_M_draw (l : Launch) (D : va_G) (cs : CS) (kf : KF) (T : TF) (O : List Nat) (X : va_W) (a0 hg mq : Nat) (x1 : Int32) (t_a0 : T a0 = some (22, hg, mq)) (b_hg : hg < 90) (l_x1 : 1 ≤ x1.toInt) (u_x1 : x1.toInt ≤ 5) (hO : okO T O [22]) : TK l D cs kf yX12_draw cX12_draw 2 (some (.int)) { frames := 0, cells := 0, slots := 0, locals := 0 } [.ref a0, .int x1] T O X (Ti D cs (fun r u => u = (T, O, X) ∧ 0 ≤ r.toInt ∧ r.toInt ≤ 4)) := by
  refine tk_of (by decide) (Nat.le_of_ble_eq_true rfl) (fun p e s m below meth c ls A H locs hx hb hr hml hown hts hlocks hnm hkb hH hS hA hOX hks hE hl => ?_)
  have hown : s.vm.findClass RX12 = some m.cls := hown
  have hl : lv_has ls 2 [(0, .ref a0), (1, .int x1)] := hl
  refine lv_aload_n hx hb dX12_draw_0 rfl (lv_at hl 0 rfl) ?_
  refine lv_ldcw hx hb hown (hts _ kw_1612) dX12_draw_1 ?_
  refine lv_aload_n hx hb dX12_draw_4 rfl (lv_at hl 0 rfl) ?_
  refine t_get (ci := 12) (lst := ft12 hg mq) (C := RX12) (F := TX12) (N := 36) hx hb hts uX12 hown hkb hH t_a0 (hO.no t_a0 (by decide)) (fun _ h9 => h9) rfl rfl 25 (by decide) rfl kw_1248 (fun _ h9 => h9) dX12_draw_5 (fun v9 h9 => ?_)
  obtain ⟨v5, rfl⟩ := h9
  refine lv_imul hx hb dX12_draw_8 ?_
  refine lv_topi (fun v8 ev8 => ?_)
  refine lv_sipush (v := 12345) hx hb dX12_draw_9 (by decide) ?_
  refine lv_iadd hx hb dX12_draw_12 ?_
  refine lv_topi (fun v12 ev12 => ?_)
  refine t_put (ci := 12) (lst := ft12 hg mq) (v := .int v12) (ty := tyX12 25) (C := RX12) (F := TX12) (N := 36) hx hb hts uX12 tyX12 tyX12_ok nmX12 hown hkb hH hS t_a0 (hO.no t_a0 (by decide)) (fun _ => Iff.rfl) rfl rfl 25 (by decide) rfl (⟨_, rfl⟩) kw_1248 (fun _ h9 => h9) rfl (tyX12_ok 25 (by decide)) rfl rfl dX12_draw_13 (fun H locs hH hS => ?_)
  refine lv_aload_n hx hb dX12_draw_16 rfl (lv_at hl 0 rfl) ?_
  refine t_get (ci := 12) (lst := ft12 hg mq) (C := RX12) (F := TX12) (N := 36) hx hb hts uX12 hown hkb hH t_a0 (hO.no t_a0 (by decide)) (fun _ h9 => h9) rfl rfl 25 (by decide) rfl kw_1248 (fun _ h9 => h9) dX12_draw_17 (fun v9 h9 => ?_)
  obtain ⟨v17, rfl⟩ := h9
  refine lv_bipush (v := 16) hx hb dX12_draw_20 (by decide) ?_
  refine lv_iushr hx hb dX12_draw_22 rfl ?_
  refine lv_topi (fun v22 ev22 => ?_)
  have tv22 : 0 ≤ v22.toInt ∧ v22.toInt < 65536 := by rw [ev22]; exact ushr_c 16 (by decide +kernel) (by decide) (by decide)
  refine lv_iload_n hx hb dX12_draw_23 rfl (lv_at hl 1 rfl) ?_
  refine lv_irem hx hb dX12_draw_24 (ne0_i (by omega)) ?_
  refine lv_topi (fun v24 ev24 => ?_)
  have tv24 : (0 ≤ v22.toInt → 0 ≤ v24.toInt) ∧ v24.toInt < x1.toInt ∧ -x1.toInt < v24.toInt ∧ (v22.toInt ≤ 0 → v24.toInt ≤ 0) := by rw [ev24]; exact irem_b rfl (by omega)
  exact te_i hx hb hr hlocks hH hS (⟨rfl, by omega, by omega⟩) dX12_draw_25
