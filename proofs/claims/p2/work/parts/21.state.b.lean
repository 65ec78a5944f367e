set_option maxHeartbeats 4000000 in
set_option maxRecDepth 100000 in
theorem s_State_forget (l : Launch) (D : va_G) (cs : CS) (kf : KF) (T : TF) (O : List Nat) (X : va_W) (a0 : Nat) (t_a0 : T a0 = some (16, 0, 0)) (hO : okO T O [16]) : TK l D cs kf yX6_forget cX6_forget 1 none { frames := 0, cells := 0, slots := 0, locals := 0 } [.ref a0] T O X (Tv D cs (fun u => u = (T, O, X))) := by
  refine tk_of (by decide) (Nat.le_of_ble_eq_true rfl) (fun p e s m below meth c ls A H locs hx hb hr hml hown hts hlocks hnm hkb hH hS hA hOX hks hE hl => ?_)
  have hown : s.vm.findClass RX6 = some m.cls := hown
  have hl : lv_has ls 1 [(0, .ref a0)] := hl
  refine lv_aload_n hx hb dX6_forget_0 rfl (lv_at hl 0 rfl) ?_
  refine lv_iconst (v := 0) hx hb dX6_forget_1 (by decide) ?_
  refine t_put (ci := 6) (lst := ft6 0 0) (v := .int 0) (ty := tyX6 0) (C := RX6) (F := TX6) (N := 6) hx hb hts uX6 tyX6 tyX6_ok nmX6 hown hkb hH hS t_a0 (hO.no t_a0 (by decide)) (fun _ => Iff.rfl) rfl rfl 0 (by decide) rfl (⟨_, rfl⟩) kw_185 (fun _ h9 => h9) rfl (tyX6_ok 0 (by decide)) rfl rfl dX6_forget_2 (fun H locs hH hS => ?_)
  refine lv_aload_n hx hb dX6_forget_5 rfl (lv_at hl 0 rfl) ?_
  refine lv_iconst (v := 0) hx hb dX6_forget_6 (by decide) ?_
  refine t_put (ci := 6) (lst := ft6 0 0) (v := .int 0) (ty := tyX6 1) (C := RX6) (F := TX6) (N := 6) hx hb hts uX6 tyX6 tyX6_ok nmX6 hown hkb hH hS t_a0 (hO.no t_a0 (by decide)) (fun _ => Iff.rfl) rfl rfl 1 (by decide) rfl (⟨_, rfl⟩) kw_187 (fun _ h9 => h9) rfl (tyX6_ok 1 (by decide)) rfl rfl dX6_forget_7 (fun H locs hH hS => ?_)
  refine lv_aload_n hx hb dX6_forget_10 rfl (lv_at hl 0 rfl) ?_
  refine lv_iconst (v := 0) hx hb dX6_forget_11 (by decide) ?_
  refine t_put (ci := 6) (lst := ft6 0 0) (v := .int 0) (ty := tyX6 2) (C := RX6) (F := TX6) (N := 6) hx hb hts uX6 tyX6 tyX6_ok nmX6 hown hkb hH hS t_a0 (hO.no t_a0 (by decide)) (fun _ => Iff.rfl) rfl rfl 2 (by decide) rfl (⟨_, rfl⟩) kw_189 (fun _ h9 => h9) rfl (tyX6_ok 2 (by decide)) rfl rfl dX6_forget_12 (fun H locs hH hS => ?_)
  refine lv_aload_n hx hb dX6_forget_15 rfl (lv_at hl 0 rfl) ?_
  refine lv_iconst (v := 0) hx hb dX6_forget_16 (by decide) ?_
  refine t_put (ci := 6) (lst := ft6 0 0) (v := .int 0) (ty := tyX6 3) (C := RX6) (F := TX6) (N := 6) hx hb hts uX6 tyX6 tyX6_ok nmX6 hown hkb hH hS t_a0 (hO.no t_a0 (by decide)) (fun _ => Iff.rfl) rfl rfl 3 (by decide) rfl (⟨_, rfl⟩) kw_192 (fun _ h9 => h9) rfl (tyX6_ok 3 (by decide)) rfl rfl dX6_forget_17 (fun H locs hH hS => ?_)
  exact te_v hx hb hr hlocks hH hS rfl dX6_forget_20
set_option maxHeartbeats 4000000 in
set_option maxRecDepth 100000 in
theorem s_State_useSinceToday (l : Launch) (D : va_G) (cs : CS) (kf : KF) (T : TF) (O : List Nat) (X : va_W) (a0 : Nat) (t_a0 : T a0 = some (16, 0, 0)) (hO : okO T O [1, 16]) : TK l D cs kf yX6_useSinceToday cX6_useSinceToday 2 none { frames := 0, cells := 0, slots := 0, locals := 0 } [.ref a0] T O X (Tv D cs (fun u => u = (T, O, X))) := by
  refine tk_of (by decide) (Nat.le_of_ble_eq_true rfl) (fun p e s m below meth c ls A H locs hx hb hr hml hown hts hlocks hnm hkb hH hS hA hOX hks hE hl => ?_)
  have hown : s.vm.findClass RX6 = some m.cls := hown
  have hl : lv_has ls 2 [(0, .ref a0)] := hl
  refine lv_iconst (v := 0) hx hb dX6_useSinceToday_0 (by decide) ?_
  have J2 : ∀ (n : Nat) (p2_1 : Int32) (H : Heap) (locs : List Loc) (ls : Array Slot), (14 - p2_1.toInt).toNat = n → (0 ≤ p2_1.toInt) → (p2_1.toInt ≤ 14) → HT D cs A T O X H → va_S A s.heap H locs → lv_has ls 2 [(1, .int p2_1), (0, .ref a0)] → W p l e { frames := 0, cells := 0, slots := 0, locals := 0 } s m [.ref a0].toArray below meth c H locs 0 0 (MQ below (Tv D cs (fun u => u = (T, O, X)) A) [.ref a0].toArray s 0 0 A) (F0 m 2 ls []) := by
    intro n
    induction n using Nat.strongRecOn with
    | _ n ih2 =>
      intro p2_1 H locs ls hm2 l_p2_1 u_p2_1 hH hS hl
      refine lv_iload_n hx hb dX6_useSinceToday_2 rfl (lv_at hl 0 rfl) ?_
      refine lv_bipush (v := 14) hx hb dX6_useSinceToday_3 (by decide) ?_
      refine lv_icmp_ge (tgt := 24) hx hb dX6_useSinceToday_5 (by decide) (fun c5 => ?_) (fun c5 => ?_)
      · skip
        have tc5 := f_ge (k := 14) (by decide) c5
        exact te_v hx hb hr hlocks hH hS rfl dX6_useSinceToday_24
      · skip
        have tc5 := f_nge (k := 14) (by decide) c5
        refine lv_aload_n hx hb dX6_useSinceToday_8 rfl (lv_at hl 1 rfl) ?_
        refine t_get (ci := 6) (lst := ft6 0 0) (C := RX6) (F := TX6) (N := 6) hx hb hts uX6 hown hkb hH t_a0 (hO.no t_a0 (by decide)) (fun _ h9 => h9) rfl rfl 5 (by decide) rfl kw_196 (fun _ h9 => h9) dX6_useSinceToday_9 (fun v9 h9 => ?_)
        obtain ⟨v9, rfl, t_v9⟩ := h9
        refine lv_iload_n hx hb dX6_useSinceToday_12 rfl (lv_at hl 0 rfl) ?_
        refine lv_aload_n hx hb dX6_useSinceToday_13 rfl (lv_at hl 1 rfl) ?_
        refine t_get (ci := 6) (lst := ft6 0 0) (C := RX6) (F := TX6) (N := 6) hx hb hts uX6 hown hkb hH t_a0 (hO.no t_a0 (by decide)) (fun _ h9 => h9) rfl rfl 2 (by decide) rfl kw_189 (fun _ h9 => h9) dX6_useSinceToday_14 (fun v9 h9 => ?_)
        obtain ⟨v14, rfl⟩ := h9
        refine t_ist hx hb hkb hH hS t_v9 (hO.no t_v9 (by decide)) (by omega) (by omega) (cp_0 _) dX6_useSinceToday_17 (fun H locs hH hS => ?_)
        obtain ⟨v18, ev18⟩ : ∃ y : Int32, y = p2_1 + 1 := ⟨_, rfl⟩
        have tv18 : v18.toInt = p2_1.toInt + (1) := by rw [ev18]; exact add_i rfl (by decide) (by omega) (by omega)
        refine lv_iinc (v := v18) (lv' := [(1, .int v18), (0, .ref a0)]) hx hb dX6_useSinceToday_18 hl (k := 0) rfl (by rw [ev18]; rfl) (by decide) rfl (fun ls hl => ?_)
        refine lv_goto (tgt := 2) hx hb dX6_useSinceToday_21 (by decide) ?_
        exact ih2 _ (by omega) v18 _ _ _ rfl (by omega) (by omega) hH hS (lv_sub hl [0, 1] rfl)
  refine lv_istore_n (lv' := [(1, .int 0), (0, .ref a0)]) hx hb dX6_useSinceToday_1 rfl hl (by decide) rfl (fun ls hl => ?_)
  exact J2 _ 0 _ _ _ rfl (by decide) (by decide) hH hS (lv_sub hl [0, 1] rfl)
set_option maxHeartbeats 4000000 in
set_option maxRecDepth 100000 in
theorem s_State_isUsed (l : Launch) (D : va_G) (cs : CS) (kf : KF) (T : TF) (O : List Nat) (X : va_W) (a0 : Nat) (x1 : Int32) (t_a0 : T a0 = some (16, 0, 0)) (hO : okO T O [16]) : TK l D cs kf yX6_isUsed cX6_isUsed 2 (some (.boolean)) { frames := 0, cells := 0, slots := 0, locals := 0 } [.ref a0, .int x1] T O X (Ti D cs (fun r u => u = (T, O, X) ∧ 0 ≤ r.toInt ∧ r.toInt ≤ 1)) := by
  refine tk_of (by decide) (Nat.le_of_ble_eq_true rfl) (fun p e s m below meth c ls A H locs hx hb hr hml hown hts hlocks hnm hkb hH hS hA hOX hks hE hl => ?_)
  have hown : s.vm.findClass RX6 = some m.cls := hown
  have hl : lv_has ls 2 [(0, .ref a0), (1, .int x1)] := hl
  refine lv_aload_n hx hb dX6_isUsed_0 rfl (lv_at hl 0 rfl) ?_
  refine t_get (ci := 6) (lst := ft6 0 0) (C := RX6) (F := TX6) (N := 6) hx hb hts uX6 hown hkb hH t_a0 (hO.no t_a0 (by decide)) (fun _ h9 => h9) rfl rfl 0 (by decide) rfl kw_185 (fun _ h9 => h9) dX6_isUsed_1 (fun v9 h9 => ?_)
  obtain ⟨v1, rfl⟩ := h9
  refine lv_iload_n hx hb dX6_isUsed_4 rfl (lv_at hl 1 rfl) ?_
  refine lv_ishr hx hb dX6_isUsed_5 ?_
  refine lv_topi (fun v5 ev5 => ?_)
  refine lv_iconst (v := 1) hx hb dX6_isUsed_6 (by decide) ?_
  refine lv_iand hx hb dX6_isUsed_7 ?_
  refine lv_topi (fun v7 ev7 => ?_)
  have tv7 : 0 ≤ v7.toInt ∧ v7.toInt ≤ 1 := by rw [ev7]; exact and_r (by decide)
  have J16 : ∀ (k16_0 : Int32) (H : Heap) (locs : List Loc) (ls : Array Slot), (0 ≤ k16_0.toInt) → (k16_0.toInt ≤ 1) → HT D cs A T O X H → va_S A s.heap H locs → lv_has ls 2 [] → W p l e { frames := 0, cells := 0, slots := 0, locals := 0 } s m [.ref a0, .int x1].toArray below meth c H locs 0 0 (MQ below (Ti D cs (fun r u => u = (T, O, X) ∧ 0 ≤ r.toInt ∧ r.toInt ≤ 1) A) [.ref a0, .int x1].toArray s 0 0 A) (F0 m 16 ls [.int k16_0]) := by
    intro k16_0 H locs ls l_k16_0 u_k16_0 hH hS hl
    exact te_z hx hb hr hlocks (nar01 (by omega) (by omega)) hH hS (⟨rfl, by omega, by omega⟩) dX6_isUsed_16
  refine lv_if_eq (tgt := 15) hx hb dX6_isUsed_8 (by decide) (fun c8 => ?_) (fun c8 => ?_)
  · skip
    have tc8 := f_eq (k := 0) (by decide) c8
    refine lv_iconst (v := 0) hx hb dX6_isUsed_15 (by decide) ?_
    exact J16 0 _ _ _ (by decide) (by decide) hH hS (lv_sub hl [] rfl)
  · skip
    have tc8 := f_ne (k := 0) (by decide) c8
    refine lv_iconst (v := 1) hx hb dX6_isUsed_11 (by decide) ?_
    refine lv_goto (tgt := 16) hx hb dX6_isUsed_12 (by decide) ?_
    exact J16 1 _ _ _ (by decide) (by decide) hH hS (lv_sub hl [] rfl)
set_option maxHeartbeats 4000000 in
set_option maxRecDepth 100000 in
theorem s_State_usedBy (l : Launch) (D : va_G) (cs : CS) (kf : KF) (T : TF) (O : List Nat) (X : va_W) (a0 : Nat) (x1 : Int32) (t_a0 : T a0 = some (16, 0, 0)) (hO : okO T O [1, 16]) : TK l D cs kf yX6_usedBy cX6_usedBy 4 (some (.int)) { frames := 1, cells := 0, slots := 0, locals := 21 } [.ref a0, .int x1] T O X (Ti D cs (fun r u => u = (T, O, X) ∧ 0 ≤ r.toInt ∧ r.toInt ≤ 16383)) := by
  refine tk_of (by decide) (Nat.le_of_ble_eq_true rfl) (fun p e s m below meth c ls A H locs hx hb hr hml hown hts hlocks hnm hkb hH hS hA hOX hks hE hl => ?_)
  have hown : s.vm.findClass RX6 = some m.cls := hown
  have hl : lv_has ls 4 [(0, .ref a0), (1, .int x1)] := hl
  refine lv_iconst (v := 0) hx hb dX6_usedBy_0 (by decide) ?_
  refine lv_istore_n (lv' := [(2, .int 0), (0, .ref a0), (1, .int x1)]) hx hb dX6_usedBy_1 rfl hl (by decide) rfl (fun ls hl => ?_)
  refine lv_iconst (v := 0) hx hb dX6_usedBy_2 (by decide) ?_
  have J4 : ∀ (n : Nat) (p4_3 : Int32) (p4_2 : Int32) (H : Heap) (locs : List Loc) (ls : Array Slot), (14 - p4_3.toInt).toNat = n → (0 ≤ p4_3.toInt) → (p4_3.toInt ≤ 14) → (0 ≤ p4_2.toInt) → (p4_2.toInt ≤ 16383) → HT D cs A T O X H → va_S A s.heap H locs → lv_has ls 4 [(3, .int p4_3), (2, .int p4_2), (0, .ref a0), (1, .int x1)] → W p l e { frames := 1, cells := 0, slots := 0, locals := 21 } s m [.ref a0, .int x1].toArray below meth c H locs 0 0 (MQ below (Ti D cs (fun r u => u = (T, O, X) ∧ 0 ≤ r.toInt ∧ r.toInt ≤ 16383) A) [.ref a0, .int x1].toArray s 0 0 A) (F0 m 4 ls []) := by
    intro n
    induction n using Nat.strongRecOn with
    | _ n ih4 =>
      intro p4_3 p4_2 H locs ls hm4 l_p4_3 u_p4_3 l_p4_2 u_p4_2 hH hS hl
      refine lv_iload_n hx hb dX6_usedBy_4 rfl (lv_at hl 0 rfl) ?_
      refine lv_bipush (v := 14) hx hb dX6_usedBy_5 (by decide) ?_
      refine lv_icmp_ge (tgt := 40) hx hb dX6_usedBy_7 (by decide) (fun c7 => ?_) (fun c7 => ?_)
      · skip
        have tc7 := f_ge (k := 14) (by decide) c7
        refine lv_iload_n hx hb dX6_usedBy_40 rfl (lv_at hl 1 rfl) ?_
        exact te_i hx hb hr hlocks hH hS (⟨rfl, by omega, by omega⟩) dX6_usedBy_41
      · skip
        have tc7 := f_nge (k := 14) (by decide) c7
        refine lv_aload_n hx hb dX6_usedBy_10 rfl (lv_at hl 2 rfl) ?_
        refine lv_iload_n hx hb dX6_usedBy_11 rfl (lv_at hl 0 rfl) ?_
        refine tk_i hH hS hA (tr_V (n := 1) (As := [.int p4_3]) hx hb hml hown hts hkb hH hOX hks hE hS hA (s_State_isUsed l D cs kf T O X a0 p4_3 t_a0 (hO.sub (by decide))) kw_802 kw_787 kw_788 kw_7 kw_789 (by decide +kernel) ⟨Nat.le_of_ble_eq_true rfl, Nat.le_of_ble_eq_true rfl⟩ (HT.recv (ci := 6) hkb hH t_a0 (hO.no t_a0 (by decide)) rfl) rfl rfl hl.1 (Nat.le_of_ble_eq_true rfl) dX6_usedBy_12 ⟨Nat.le_of_ble_eq_true rfl, Nat.le_of_ble_eq_true rfl⟩) (fun v12 u H locs hz9 hH hS => ?_)
        obtain ⟨rfl, l_v12, u_v12⟩ := hz9
        have hH : HT D cs A T O X H := hH
        refine W.widen (k := 0) (n := 0) (Nat.le_of_ble_eq_true rfl) (Nat.le_of_ble_eq_true rfl) ?_
        have J34 : ∀ (p34_2 : Int32) (H : Heap) (locs : List Loc) (ls : Array Slot), (0 ≤ p34_2.toInt) → (p34_2.toInt ≤ 16383) → HT D cs A T O X H → va_S A s.heap H locs → lv_has ls 4 [(3, .int p4_3), (2, .int p34_2), (0, .ref a0), (1, .int x1)] → W p l e { frames := 1, cells := 0, slots := 0, locals := 21 } s m [.ref a0, .int x1].toArray below meth c H locs 0 0 (MQ below (Ti D cs (fun r u => u = (T, O, X) ∧ 0 ≤ r.toInt ∧ r.toInt ≤ 16383) A) [.ref a0, .int x1].toArray s 0 0 A) (F0 m 34 ls []) := by
          intro p34_2 H locs ls l_p34_2 u_p34_2 hH hS hl
          obtain ⟨v34, ev34⟩ : ∃ y : Int32, y = p4_3 + 1 := ⟨_, rfl⟩
          have tv34 : v34.toInt = p4_3.toInt + (1) := by rw [ev34]; exact add_i rfl (by decide) (by omega) (by omega)
          refine lv_iinc (v := v34) (lv' := [(3, .int v34), (2, .int p34_2), (0, .ref a0), (1, .int x1)]) hx hb dX6_usedBy_34 hl (k := 0) rfl (by rw [ev34]; rfl) (by decide) rfl (fun ls hl => ?_)
          refine lv_goto (tgt := 4) hx hb dX6_usedBy_37 (by decide) ?_
          exact ih4 _ (by omega) v34 p34_2 _ _ _ rfl (by omega) (by omega) (by omega) (by omega) hH hS (lv_sub hl [0, 1, 2, 3] rfl)
        refine lv_if_eq (tgt := 34) hx hb dX6_usedBy_15 (by decide) (fun c15 => ?_) (fun c15 => ?_)
        · skip
          have tc15 := f_eq (k := 0) (by decide) c15
          exact J34 p4_2 _ _ _ (by omega) (by omega) hH hS (lv_sub hl [0, 1, 2, 3] rfl)
        · skip
          have tc15 := f_ne (k := 0) (by decide) c15
          refine lv_aload_n hx hb dX6_usedBy_18 rfl (lv_at hl 2 rfl) ?_
          refine t_get (ci := 6) (lst := ft6 0 0) (C := RX6) (F := TX6) (N := 6) hx hb hts uX6 hown hkb hH t_a0 (hO.no t_a0 (by decide)) (fun _ h9 => h9) rfl rfl 4 (by decide) rfl kw_194 (fun _ h9 => h9) dX6_usedBy_19 (fun v9 h9 => ?_)
          obtain ⟨v19, rfl, t_v19⟩ := h9
          refine lv_iload_n hx hb dX6_usedBy_22 rfl (lv_at hl 0 rfl) ?_
          refine t_ild hx hb hkb hH t_v19 (hO.no t_v19 (by decide)) (by omega) (by omega) dX6_usedBy_23 (fun v23 h9 => ?_)
          refine lv_iload_n hx hb dX6_usedBy_24 rfl (lv_at hl 3 rfl) ?_
          refine lv_icmp_ne (tgt := 34) hx hb dX6_usedBy_25 (by decide) (fun c25 => ?_) (fun c25 => ?_)
          · skip
            have fuc25 := full_i v23
            have fvc25 := full_i x1
            have tc25 := g_ne c25
            exact J34 p4_2 _ _ _ (by omega) (by omega) hH hS (lv_sub hl [0, 1, 2, 3] rfl)
          · skip
            have fuc25 := full_i v23
            have fvc25 := full_i x1
            have tc25 := g_eq c25
            refine lv_iload_n hx hb dX6_usedBy_28 rfl (lv_at hl 1 rfl) ?_
            refine lv_iconst (v := 1) hx hb dX6_usedBy_29 (by decide) ?_
            refine lv_iload_n hx hb dX6_usedBy_30 rfl (lv_at hl 0 rfl) ?_
            refine lv_ishl hx hb dX6_usedBy_31 ?_
            refine lv_topi (fun v31 ev31 => ?_)
            have tv31 : 1 ≤ v31.toInt ∧ v31.toInt ≤ 8192 := by rw [ev31]; exact shl_b 13 (by decide) (by omega) (by omega)
            refine lv_ior hx hb dX6_usedBy_32 ?_
            refine lv_topi (fun v32 ev32 => ?_)
            have tv32 : 0 ≤ v32.toInt ∧ v32.toInt < 16384 := by rw [ev32]; exact or_b 14 (by decide) (by omega) (by omega) (by omega) (by omega)
            refine lv_istore_n (lv' := [(2, .int v32), (3, .int p4_3), (0, .ref a0), (1, .int x1)]) hx hb dX6_usedBy_33 rfl hl (by decide) rfl (fun ls hl => ?_)
            exact J34 v32 _ _ _ (by omega) (by omega) hH hS (lv_sub hl [1, 0, 2, 3] rfl)
  refine lv_istore_n (lv' := [(3, .int 0), (2, .int 0), (0, .ref a0), (1, .int x1)]) hx hb dX6_usedBy_3 rfl hl (by decide) rfl (fun ls hl => ?_)
  exact J4 _ 0 0 _ _ _ rfl (by decide) (by decide) (by decide) (by decide) hH hS (lv_sub hl [0, 1, 2, 3] rfl)
set_option maxHeartbeats 4000000 in
set_option maxRecDepth 100000 in
theorem s_State_breakDown (l : Launch) (D : va_G) (cs : CS) (kf : KF) (T : TF) (O : List Nat) (X : va_W) (a0 : Nat) (x1 : Int32) (t_a0 : T a0 = some (16, 0, 0)) (hO : okO T O [16]) : TK l D cs kf yX6_breakDown cX6_breakDown 3 (some (.int)) { frames := 0, cells := 0, slots := 0, locals := 0 } [.ref a0, .int x1] T O X (Ti D cs (fun r u => u = (T, O, X) ∧ 0 ≤ r.toInt ∧ r.toInt ≤ 1)) := by
  refine tk_of (by decide) (Nat.le_of_ble_eq_true rfl) (fun p e s m below meth c ls A H locs hx hb hr hml hown hts hlocks hnm hkb hH hS hA hOX hks hE hl => ?_)
  have hown : s.vm.findClass RX6 = some m.cls := hown
  have hl : lv_has ls 3 [(0, .ref a0), (1, .int x1)] := hl
  refine lv_aload_n hx hb dX6_breakDown_0 rfl (lv_at hl 0 rfl) ?_
  refine t_get (ci := 6) (lst := ft6 0 0) (C := RX6) (F := TX6) (N := 6) hx hb hts uX6 hown hkb hH t_a0 (hO.no t_a0 (by decide)) (fun _ h9 => h9) rfl rfl 0 (by decide) rfl kw_185 (fun _ h9 => h9) dX6_breakDown_1 (fun v9 h9 => ?_)
  obtain ⟨v1, rfl⟩ := h9
  refine lv_iload_n hx hb dX6_breakDown_4 rfl (lv_at hl 1 rfl) ?_
  refine lv_ishr hx hb dX6_breakDown_5 ?_
  refine lv_topi (fun v5 ev5 => ?_)
  refine lv_iconst (v := 1) hx hb dX6_breakDown_6 (by decide) ?_
  refine lv_iand hx hb dX6_breakDown_7 ?_
  refine lv_topi (fun v7 ev7 => ?_)
  have tv7 : 0 ≤ v7.toInt ∧ v7.toInt ≤ 1 := by rw [ev7]; exact and_r (by decide)
  refine lv_istore_n (lv' := [(2, .int v7), (0, .ref a0), (1, .int x1)]) hx hb dX6_breakDown_8 rfl hl (by decide) rfl (fun ls hl => ?_)
  refine lv_aload_n hx hb dX6_breakDown_9 rfl (lv_at hl 1 rfl) ?_
  refine lv_dup hx hb dX6_breakDown_10 rfl ?_
  refine t_get (ci := 6) (lst := ft6 0 0) (C := RX6) (F := TX6) (N := 6) hx hb hts uX6 hown hkb hH t_a0 (hO.no t_a0 (by decide)) (fun _ h9 => h9) rfl rfl 0 (by decide) rfl kw_185 (fun _ h9 => h9) dX6_breakDown_11 (fun v9 h9 => ?_)
  obtain ⟨v11, rfl⟩ := h9
  refine lv_iconst (v := 1) hx hb dX6_breakDown_14 (by decide) ?_
  refine lv_iload_n hx hb dX6_breakDown_15 rfl (lv_at hl 2 rfl) ?_
  refine lv_ishl hx hb dX6_breakDown_16 ?_
  refine lv_topi (fun v16 ev16 => ?_)
  refine lv_iconst (v := (-1)) hx hb dX6_breakDown_17 (by decide) ?_
  refine lv_ixor hx hb dX6_breakDown_18 ?_
  refine lv_topi (fun v18 ev18 => ?_)
  refine lv_iand hx hb dX6_breakDown_19 ?_
  refine lv_topi (fun v19 ev19 => ?_)
  refine t_put (ci := 6) (lst := ft6 0 0) (v := .int v19) (ty := tyX6 0) (C := RX6) (F := TX6) (N := 6) hx hb hts uX6 tyX6 tyX6_ok nmX6 hown hkb hH hS t_a0 (hO.no t_a0 (by decide)) (fun _ => Iff.rfl) rfl rfl 0 (by decide) rfl (⟨_, rfl⟩) kw_185 (fun _ h9 => h9) rfl (tyX6_ok 0 (by decide)) rfl rfl dX6_breakDown_20 (fun H locs hH hS => ?_)
  refine lv_aload_n hx hb dX6_breakDown_23 rfl (lv_at hl 1 rfl) ?_
  refine lv_dup hx hb dX6_breakDown_24 rfl ?_
  refine t_get (ci := 6) (lst := ft6 0 0) (C := RX6) (F := TX6) (N := 6) hx hb hts uX6 hown hkb hH t_a0 (hO.no t_a0 (by decide)) (fun _ h9 => h9) rfl rfl 1 (by decide) rfl kw_187 (fun _ h9 => h9) dX6_breakDown_25 (fun v9 h9 => ?_)
  obtain ⟨v25, rfl⟩ := h9
  refine lv_iconst (v := 1) hx hb dX6_breakDown_28 (by decide) ?_
  refine lv_iload_n hx hb dX6_breakDown_29 rfl (lv_at hl 2 rfl) ?_
  refine lv_ishl hx hb dX6_breakDown_30 ?_
  refine lv_topi (fun v30 ev30 => ?_)
  refine lv_ior hx hb dX6_breakDown_31 ?_
  refine lv_topi (fun v31 ev31 => ?_)
  refine t_put (ci := 6) (lst := ft6 0 0) (v := .int v31) (ty := tyX6 1) (C := RX6) (F := TX6) (N := 6) hx hb hts uX6 tyX6 tyX6_ok nmX6 hown hkb hH hS t_a0 (hO.no t_a0 (by decide)) (fun _ => Iff.rfl) rfl rfl 1 (by decide) rfl (⟨_, rfl⟩) kw_187 (fun _ h9 => h9) rfl (tyX6_ok 1 (by decide)) rfl rfl dX6_breakDown_32 (fun H locs hH hS => ?_)
  refine lv_iload_n hx hb dX6_breakDown_35 rfl (lv_at hl 0 rfl) ?_
  exact te_i hx hb hr hlocks hH hS (⟨rfl, by omega, by omega⟩) dX6_breakDown_36
set_option maxHeartbeats 4000000 in
set_option maxRecDepth 100000 in
theorem s_State_take (l : Launch) (D : va_G) (cs : CS) (kf : KF) (T : TF) (O : List Nat) (X : va_W) (a0 : Nat) (a1 : Nat) (t_a0 : T a0 = some (16, 0, 0)) (t_a1 : T a1 = some (16, 0, 0)) (hO : okO T O [1, 16]) : TK l D cs kf yX6_take cX6_take 2 none { frames := 1, cells := 0, slots := 0, locals := 60 } [.ref a0, .ref a1] T O X (Tv D cs (fun u => u = (T, O, X))) := by
  refine tk_of (by decide) (Nat.le_of_ble_eq_true rfl) (fun p e s m below meth c ls A H locs hx hb hr hml hown hts hlocks hnm hkb hH hS hA hOX hks hE hl => ?_)
  have hown : s.vm.findClass RX6 = some m.cls := hown
  have hl : lv_has ls 2 [(0, .ref a0), (1, .ref a1)] := hl
  refine lv_aload_n hx hb dX6_take_0 rfl (lv_at hl 0 rfl) ?_
  refine lv_aload_n hx hb dX6_take_1 rfl (lv_at hl 1 rfl) ?_
  refine t_get (ci := 6) (lst := ft6 0 0) (C := RX6) (F := TX6) (N := 6) hx hb hts uX6 hown hkb hH t_a1 (hO.no t_a1 (by decide)) (fun _ h9 => h9) rfl rfl 0 (by decide) rfl kw_185 (fun _ h9 => h9) dX6_take_2 (fun v9 h9 => ?_)
  obtain ⟨v2, rfl⟩ := h9
  refine t_put (ci := 6) (lst := ft6 0 0) (v := .int v2) (ty := tyX6 0) (C := RX6) (F := TX6) (N := 6) hx hb hts uX6 tyX6 tyX6_ok nmX6 hown hkb hH hS t_a0 (hO.no t_a0 (by decide)) (fun _ => Iff.rfl) rfl rfl 0 (by decide) rfl (⟨_, rfl⟩) kw_185 (fun _ h9 => h9) rfl (tyX6_ok 0 (by decide)) rfl rfl dX6_take_5 (fun H locs hH hS => ?_)
  refine lv_aload_n hx hb dX6_take_8 rfl (lv_at hl 0 rfl) ?_
  refine lv_aload_n hx hb dX6_take_9 rfl (lv_at hl 1 rfl) ?_
  refine t_get (ci := 6) (lst := ft6 0 0) (C := RX6) (F := TX6) (N := 6) hx hb hts uX6 hown hkb hH t_a1 (hO.no t_a1 (by decide)) (fun _ h9 => h9) rfl rfl 1 (by decide) rfl kw_187 (fun _ h9 => h9) dX6_take_10 (fun v9 h9 => ?_)
  obtain ⟨v10, rfl⟩ := h9
  refine t_put (ci := 6) (lst := ft6 0 0) (v := .int v10) (ty := tyX6 1) (C := RX6) (F := TX6) (N := 6) hx hb hts uX6 tyX6 tyX6_ok nmX6 hown hkb hH hS t_a0 (hO.no t_a0 (by decide)) (fun _ => Iff.rfl) rfl rfl 1 (by decide) rfl (⟨_, rfl⟩) kw_187 (fun _ h9 => h9) rfl (tyX6_ok 1 (by decide)) rfl rfl dX6_take_13 (fun H locs hH hS => ?_)
  refine lv_aload_n hx hb dX6_take_16 rfl (lv_at hl 0 rfl) ?_
  refine lv_aload_n hx hb dX6_take_17 rfl (lv_at hl 1 rfl) ?_
  refine t_get (ci := 6) (lst := ft6 0 0) (C := RX6) (F := TX6) (N := 6) hx hb hts uX6 hown hkb hH t_a1 (hO.no t_a1 (by decide)) (fun _ h9 => h9) rfl rfl 2 (by decide) rfl kw_189 (fun _ h9 => h9) dX6_take_18 (fun v9 h9 => ?_)
  obtain ⟨v18, rfl⟩ := h9
  refine t_put (ci := 6) (lst := ft6 0 0) (v := .int v18) (ty := tyX6 2) (C := RX6) (F := TX6) (N := 6) hx hb hts uX6 tyX6 tyX6_ok nmX6 hown hkb hH hS t_a0 (hO.no t_a0 (by decide)) (fun _ => Iff.rfl) rfl rfl 2 (by decide) rfl (⟨_, rfl⟩) kw_189 (fun _ h9 => h9) rfl (tyX6_ok 2 (by decide)) rfl rfl dX6_take_21 (fun H locs hH hS => ?_)
  refine lv_aload_n hx hb dX6_take_24 rfl (lv_at hl 0 rfl) ?_
  refine lv_aload_n hx hb dX6_take_25 rfl (lv_at hl 1 rfl) ?_
  refine t_get (ci := 6) (lst := ft6 0 0) (C := RX6) (F := TX6) (N := 6) hx hb hts uX6 hown hkb hH t_a1 (hO.no t_a1 (by decide)) (fun _ h9 => h9) rfl rfl 3 (by decide) rfl kw_192 (fun _ h9 => h9) dX6_take_26 (fun v9 h9 => ?_)
  obtain ⟨v26, rfl⟩ := h9
  refine t_put (ci := 6) (lst := ft6 0 0) (v := .int v26) (ty := tyX6 3) (C := RX6) (F := TX6) (N := 6) hx hb hts uX6 tyX6 tyX6_ok nmX6 hown hkb hH hS t_a0 (hO.no t_a0 (by decide)) (fun _ => Iff.rfl) rfl rfl 3 (by decide) rfl (⟨_, rfl⟩) kw_192 (fun _ h9 => h9) rfl (tyX6_ok 3 (by decide)) rfl rfl dX6_take_29 (fun H locs hH hS => ?_)
  refine lv_aload_n hx hb dX6_take_32 rfl (lv_at hl 1 rfl) ?_
  refine t_get (ci := 6) (lst := ft6 0 0) (C := RX6) (F := TX6) (N := 6) hx hb hts uX6 hown hkb hH t_a1 (hO.no t_a1 (by decide)) (fun _ h9 => h9) rfl rfl 4 (by decide) rfl kw_194 (fun _ h9 => h9) dX6_take_33 (fun v9 h9 => ?_)
  obtain ⟨v33, rfl, t_v33⟩ := h9
  refine lv_iconst (v := 0) hx hb dX6_take_36 (by decide) ?_
  refine lv_aload_n hx hb dX6_take_37 rfl (lv_at hl 0 rfl) ?_
  refine t_get (ci := 6) (lst := ft6 0 0) (C := RX6) (F := TX6) (N := 6) hx hb hts uX6 hown hkb hH t_a0 (hO.no t_a0 (by decide)) (fun _ h9 => h9) rfl rfl 4 (by decide) rfl kw_194 (fun _ h9 => h9) dX6_take_38 (fun v9 h9 => ?_)
  obtain ⟨v38, rfl, t_v38⟩ := h9
  refine lv_iconst (v := 0) hx hb dX6_take_41 (by decide) ?_
  refine lv_bipush (v := 14) hx hb dX6_take_42 (by decide) ?_
  refine t_copy hx hb (by rw [hml]; exact hl.1.symm) hown (hts _ kw_761) (hts _ kw_734) (hts _ kw_733) (hts _ kw_23) hkb hH hS t_v33 (hO.no t_v33 (by decide)) t_v38 (hO.no t_v38 (by decide)) (by decide) (by decide) (by decide) (by decide) (by decide) (Nat.le_of_ble_eq_true rfl) (Nat.le_of_ble_eq_true rfl) dX6_take_44 (fun H locs hH hS => ?_)
  refine lv_aload_n hx hb dX6_take_47 rfl (lv_at hl 1 rfl) ?_
  refine t_get (ci := 6) (lst := ft6 0 0) (C := RX6) (F := TX6) (N := 6) hx hb hts uX6 hown hkb hH t_a1 (hO.no t_a1 (by decide)) (fun _ h9 => h9) rfl rfl 5 (by decide) rfl kw_196 (fun _ h9 => h9) dX6_take_48 (fun v9 h9 => ?_)
  obtain ⟨v48, rfl, t_v48⟩ := h9
  refine lv_iconst (v := 0) hx hb dX6_take_51 (by decide) ?_
  refine lv_aload_n hx hb dX6_take_52 rfl (lv_at hl 0 rfl) ?_
  refine t_get (ci := 6) (lst := ft6 0 0) (C := RX6) (F := TX6) (N := 6) hx hb hts uX6 hown hkb hH t_a0 (hO.no t_a0 (by decide)) (fun _ h9 => h9) rfl rfl 5 (by decide) rfl kw_196 (fun _ h9 => h9) dX6_take_53 (fun v9 h9 => ?_)
  obtain ⟨v53, rfl, t_v53⟩ := h9
  refine lv_iconst (v := 0) hx hb dX6_take_56 (by decide) ?_
  refine lv_bipush (v := 14) hx hb dX6_take_57 (by decide) ?_
  refine t_copy hx hb (by rw [hml]; exact hl.1.symm) hown (hts _ kw_761) (hts _ kw_734) (hts _ kw_733) (hts _ kw_23) hkb hH hS t_v48 (hO.no t_v48 (by decide)) t_v53 (hO.no t_v53 (by decide)) (by decide) (by decide) (by decide) (by decide) (by decide) (Nat.le_of_ble_eq_true rfl) (Nat.le_of_ble_eq_true rfl) dX6_take_59 (fun H locs hH hS => ?_)
  exact te_v hx hb hr hlocks hH hS rfl dX6_take_62
set_option maxHeartbeats 4000000 in
set_option maxRecDepth 100000 in
theorem s_State_use (l : Launch) (D : va_G) (cs : CS) (kf : KF) (T : TF) (O : List Nat) (X : va_W) (a0 : Nat) (x1 : Int32) (x2 : Int32) (t_a0 : T a0 = some (16, 0, 0)) (hO : okO T O [1, 16]) : TK l D cs kf yX6_use cX6_use 4 (some (.int)) { frames := 1, cells := 0, slots := 0, locals := 20 } [.ref a0, .int x1, .int x2] T O X (Ti D cs (fun r u => u = (T, O, X) ∧ 0 ≤ r.toInt ∧ r.toInt ≤ 63)) := by
  refine tk_of (by decide) (Nat.le_of_ble_eq_true rfl) (fun p e s m below meth c ls A H locs hx hb hr hml hown hts hlocks hnm hkb hH hS hA hOX hks hE hl => ?_)
  have hown : s.vm.findClass RX6 = some m.cls := hown
  have hl : lv_has ls 4 [(0, .ref a0), (1, .int x1), (2, .int x2)] := hl
  refine lv_iconst (v := 0) hx hb dX6_use_0 (by decide) ?_
  have J2 : ∀ (n : Nat) (p2_3 : Int32) (H : Heap) (locs : List Loc) (ls : Array Slot), (14 - p2_3.toInt).toNat = n → (0 ≤ p2_3.toInt) → (p2_3.toInt ≤ 14) → HT D cs A T O X H → va_S A s.heap H locs → lv_has ls 4 [(3, .int p2_3), (0, .ref a0), (1, .int x1), (2, .int x2)] → W p l e { frames := 1, cells := 0, slots := 0, locals := 20 } s m [.ref a0, .int x1, .int x2].toArray below meth c H locs 0 0 (MQ below (Ti D cs (fun r u => u = (T, O, X) ∧ 0 ≤ r.toInt ∧ r.toInt ≤ 63) A) [.ref a0, .int x1, .int x2].toArray s 0 0 A) (F0 m 2 ls []) := by
    intro n
    induction n using Nat.strongRecOn with
    | _ n ih2 =>
      intro p2_3 H locs ls hm2 l_p2_3 u_p2_3 hH hS hl
      refine lv_iload_n hx hb dX6_use_2 rfl (lv_at hl 0 rfl) ?_
      refine lv_bipush (v := 14) hx hb dX6_use_3 (by decide) ?_
      refine lv_icmp_ge (tgt := 39) hx hb dX6_use_5 (by decide) (fun c5 => ?_) (fun c5 => ?_)
      · skip
        have tc5 := f_ge (k := 14) (by decide) c5
        refine lv_aload_n hx hb dX6_use_39 rfl (lv_at hl 1 rfl) ?_
        refine lv_dup hx hb dX6_use_40 rfl ?_
        refine t_get (ci := 6) (lst := ft6 0 0) (C := RX6) (F := TX6) (N := 6) hx hb hts uX6 hown hkb hH t_a0 (hO.no t_a0 (by decide)) (fun _ h9 => h9) rfl rfl 0 (by decide) rfl kw_185 (fun _ h9 => h9) dX6_use_41 (fun v9 h9 => ?_)
        obtain ⟨v41, rfl⟩ := h9
        refine lv_iload_n hx hb dX6_use_44 rfl (lv_at hl 2 rfl) ?_
        refine lv_ior hx hb dX6_use_45 ?_
        refine lv_topi (fun v45 ev45 => ?_)
        refine t_put (ci := 6) (lst := ft6 0 0) (v := .int v45) (ty := tyX6 0) (C := RX6) (F := TX6) (N := 6) hx hb hts uX6 tyX6 tyX6_ok nmX6 hown hkb hH hS t_a0 (hO.no t_a0 (by decide)) (fun _ => Iff.rfl) rfl rfl 0 (by decide) rfl (⟨_, rfl⟩) kw_185 (fun _ h9 => h9) rfl (tyX6_ok 0 (by decide)) rfl rfl dX6_use_46 (fun H locs hH hS => ?_)
        refine lv_iload_n hx hb dX6_use_49 rfl (lv_at hl 2 rfl) ?_
        refine tk_i hH hS hA (tr_S (n := 1) (As := [.int x1]) hx hb hml hown hts hkb hH hOX hks hE hS hA (s_bitCount l D cs kf T O X x1  (hO.sub (by decide))) kw_691 kw_692 kw_20 kw_693 (by decide +kernel) ⟨Nat.le_of_ble_eq_true rfl, Nat.le_of_ble_eq_true rfl⟩ rfl rfl hl.1 (Nat.le_of_ble_eq_true rfl) dX6_use_50 ⟨Nat.le_of_ble_eq_true rfl, Nat.le_of_ble_eq_true rfl⟩) (fun v50 u H locs hz9 hH hS => ?_)
        obtain ⟨rfl, l_v50, u_v50⟩ := hz9
        have hH : HT D cs A T O X H := hH
        refine W.widen (k := 0) (n := 0) (Nat.le_of_ble_eq_true rfl) (Nat.le_of_ble_eq_true rfl) ?_
        exact te_i hx hb hr hlocks hH hS (⟨rfl, by omega, by omega⟩) dX6_use_53
      · skip
        have tc5 := f_nge (k := 14) (by decide) c5
        refine lv_iload_n hx hb dX6_use_8 rfl (lv_at hl 2 rfl) ?_
        refine lv_iload_n hx hb dX6_use_9 rfl (lv_at hl 0 rfl) ?_
        refine lv_ishr hx hb dX6_use_10 ?_
        refine lv_topi (fun v10 ev10 => ?_)
        refine lv_iconst (v := 1) hx hb dX6_use_11 (by decide) ?_
        refine lv_iand hx hb dX6_use_12 ?_
        refine lv_topi (fun v12 ev12 => ?_)
        have tv12 : 0 ≤ v12.toInt ∧ v12.toInt ≤ 1 := by rw [ev12]; exact and_r (by decide)
        have J33 : ∀  (H : Heap) (locs : List Loc) (ls : Array Slot), HT D cs A T O X H → va_S A s.heap H locs → lv_has ls 4 [(3, .int p2_3), (0, .ref a0), (1, .int x1), (2, .int x2)] → W p l e { frames := 1, cells := 0, slots := 0, locals := 20 } s m [.ref a0, .int x1, .int x2].toArray below meth c H locs 0 0 (MQ below (Ti D cs (fun r u => u = (T, O, X) ∧ 0 ≤ r.toInt ∧ r.toInt ≤ 63) A) [.ref a0, .int x1, .int x2].toArray s 0 0 A) (F0 m 33 ls []) := by
          intro  H locs ls  hH hS hl
          obtain ⟨v33, ev33⟩ : ∃ y : Int32, y = p2_3 + 1 := ⟨_, rfl⟩
          have tv33 : v33.toInt = p2_3.toInt + (1) := by rw [ev33]; exact add_i rfl (by decide) (by omega) (by omega)
          refine lv_iinc (v := v33) (lv' := [(3, .int v33), (0, .ref a0), (1, .int x1), (2, .int x2)]) hx hb dX6_use_33 hl (k := 0) rfl (by rw [ev33]; rfl) (by decide) rfl (fun ls hl => ?_)
          refine lv_goto (tgt := 2) hx hb dX6_use_36 (by decide) ?_
          exact ih2 _ (by omega) v33 _ _ _ rfl (by omega) (by omega) hH hS (lv_sub hl [0, 1, 2, 3] rfl)
        refine lv_if_eq (tgt := 33) hx hb dX6_use_13 (by decide) (fun c13 => ?_) (fun c13 => ?_)
        · skip
          have tc13 := f_eq (k := 0) (by decide) c13
          exact J33  _ _ _  hH hS (lv_sub hl [0, 1, 2, 3] rfl)
        · skip
          have tc13 := f_ne (k := 0) (by decide) c13
          refine lv_aload_n hx hb dX6_use_16 rfl (lv_at hl 1 rfl) ?_
          refine t_get (ci := 6) (lst := ft6 0 0) (C := RX6) (F := TX6) (N := 6) hx hb hts uX6 hown hkb hH t_a0 (hO.no t_a0 (by decide)) (fun _ h9 => h9) rfl rfl 4 (by decide) rfl kw_194 (fun _ h9 => h9) dX6_use_17 (fun v9 h9 => ?_)
          obtain ⟨v17, rfl, t_v17⟩ := h9
          refine lv_iload_n hx hb dX6_use_20 rfl (lv_at hl 0 rfl) ?_
          refine lv_iload_n hx hb dX6_use_21 rfl (lv_at hl 3 rfl) ?_
          refine t_ist hx hb hkb hH hS t_v17 (hO.no t_v17 (by decide)) (by omega) (by omega) (cp_0 _) dX6_use_22 (fun H locs hH hS => ?_)
          refine lv_aload_n hx hb dX6_use_23 rfl (lv_at hl 1 rfl) ?_
          refine t_get (ci := 6) (lst := ft6 0 0) (C := RX6) (F := TX6) (N := 6) hx hb hts uX6 hown hkb hH t_a0 (hO.no t_a0 (by decide)) (fun _ h9 => h9) rfl rfl 5 (by decide) rfl kw_196 (fun _ h9 => h9) dX6_use_24 (fun v9 h9 => ?_)
          obtain ⟨v24, rfl, t_v24⟩ := h9
          refine lv_iload_n hx hb dX6_use_27 rfl (lv_at hl 0 rfl) ?_
          refine lv_aload_n hx hb dX6_use_28 rfl (lv_at hl 1 rfl) ?_
          refine t_get (ci := 6) (lst := ft6 0 0) (C := RX6) (F := TX6) (N := 6) hx hb hts uX6 hown hkb hH t_a0 (hO.no t_a0 (by decide)) (fun _ h9 => h9) rfl rfl 2 (by decide) rfl kw_189 (fun _ h9 => h9) dX6_use_29 (fun v9 h9 => ?_)
          obtain ⟨v29, rfl⟩ := h9
          refine t_ist hx hb hkb hH hS t_v24 (hO.no t_v24 (by decide)) (by omega) (by omega) (cp_0 _) dX6_use_32 (fun H locs hH hS => ?_)
          exact J33  _ _ _  hH hS (lv_sub hl [0, 1, 2, 3] rfl)
  refine lv_istore_n (lv' := [(3, .int 0), (0, .ref a0), (1, .int x1), (2, .int x2)]) hx hb dX6_use_1 rfl hl (by decide) rfl (fun ls hl => ?_)
  exact J2 _ 0 _ _ _ rfl (by decide) (by decide) hH hS (lv_sub hl [0, 1, 2, 3] rfl)
set_option maxHeartbeats 4000000 in
set_option maxRecDepth 100000 in
theorem s_State_comeBack (l : Launch) (D : va_G) (cs : CS) (kf : KF) (T : TF) (O : List Nat) (X : va_W) (a0 : Nat) (x1 : Int32) (t_a0 : T a0 = some (16, 0, 0)) (hO : okO T O [1, 16]) : TK l D cs kf yX6_comeBack cX6_comeBack 6 (some (.int)) { frames := 1, cells := 0, slots := 0, locals := 21 } [.ref a0, .int x1] T O X (Ti D cs (fun r u => u = (T, O, X))) := by
  refine tk_of (by decide) (Nat.le_of_ble_eq_true rfl) (fun p e s m below meth c ls A H locs hx hb hr hml hown hts hlocks hnm hkb hH hS hA hOX hks hE hl => ?_)
  have hown : s.vm.findClass RX6 = some m.cls := hown
  have hl : lv_has ls 6 [(0, .ref a0), (1, .int x1)] := hl
  refine lv_iconst (v := 0) hx hb dX6_comeBack_0 (by decide) ?_
  refine lv_istore_n (lv' := [(2, .int 0), (0, .ref a0), (1, .int x1)]) hx hb dX6_comeBack_1 rfl hl (by decide) rfl (fun ls hl => ?_)
  refine lv_iconst (v := 0) hx hb dX6_comeBack_2 (by decide) ?_
  have J4 : ∀ (n : Nat) (p4_3 : Int32) (p4_2 : Int32) (H : Heap) (locs : List Loc) (ls : Array Slot), (2147483647 - p4_3.toInt).toNat = n → (0 ≤ p4_3.toInt) → HT D cs A T O X H → va_S A s.heap H locs → lv_has ls 6 [(3, .int p4_3), (2, .int p4_2), (0, .ref a0), (1, .int x1)] → W p l e { frames := 1, cells := 0, slots := 0, locals := 21 } s m [.ref a0, .int x1].toArray below meth c H locs 0 0 (MQ below (Ti D cs (fun r u => u = (T, O, X)) A) [.ref a0, .int x1].toArray s 0 0 A) (F0 m 4 ls []) := by
    intro n
    induction n using Nat.strongRecOn with
    | _ n ih4 =>
      intro p4_3 p4_2 H locs ls hm4 l_p4_3 hH hS hl
      refine lv_iload_n hx hb dX6_comeBack_4 rfl (lv_at hl 0 rfl) ?_
      refine lv_iload_n hx hb dX6_comeBack_5 rfl (lv_at hl 3 rfl) ?_
      have J95 : ∀  (H : Heap) (locs : List Loc) (ls : Array Slot), HT D cs A T O X H → va_S A s.heap H locs → lv_has ls 6 [(2, .int p4_2)] → W p l e { frames := 1, cells := 0, slots := 0, locals := 21 } s m [.ref a0, .int x1].toArray below meth c H locs 0 0 (MQ below (Ti D cs (fun r u => u = (T, O, X)) A) [.ref a0, .int x1].toArray s 0 0 A) (F0 m 95 ls []) := by
        intro  H locs ls  hH hS hl
        refine lv_iload_n hx hb dX6_comeBack_95 rfl (lv_at hl 0 rfl) ?_
        exact te_i hx hb hr hlocks hH hS (rfl) dX6_comeBack_96
      refine lv_icmp_ge (tgt := 95) hx hb dX6_comeBack_6 (by decide) (fun c6 => ?_) (fun c6 => ?_)
      · skip
        have fuc6 := full_i p4_3
        have fvc6 := full_i x1
        have tc6 := g_le c6
        exact J95  _ _ _  hH hS (lv_sub hl [1] rfl)
      · skip
        have fuc6 := full_i p4_3
        have fvc6 := full_i x1
        have tc6 := g_nle c6
        refine lv_aload_n hx hb dX6_comeBack_9 rfl (lv_at hl 2 rfl) ?_
        refine t_get (ci := 6) (lst := ft6 0 0) (C := RX6) (F := TX6) (N := 6) hx hb hts uX6 hown hkb hH t_a0 (hO.no t_a0 (by decide)) (fun _ h9 => h9) rfl rfl 0 (by decide) rfl kw_185 (fun _ h9 => h9) dX6_comeBack_10 (fun v9 h9 => ?_)
        obtain ⟨v10, rfl⟩ := h9
        refine lv_if_eq (tgt := 95) hx hb dX6_comeBack_13 (by decide) (fun c13 => ?_) (fun c13 => ?_)
        · skip
          have tc13 := f_eq (k := 0) (by decide) c13
          exact J95  _ _ _  hH hS (lv_sub hl [1] rfl)
        · skip
          have tc13 := f_ne (k := 0) (by decide) c13
          refine lv_iconst (v := (-1)) hx hb dX6_comeBack_16 (by decide) ?_
          refine lv_istore (lv' := [(4, .int (-1)), (3, .int p4_3), (2, .int p4_2), (0, .ref a0), (1, .int x1)]) hx hb dX6_comeBack_17 hl (by decide) rfl (fun ls hl => ?_)
          refine lv_iconst (v := 0) hx hb dX6_comeBack_19 (by decide) ?_
          have J22 : ∀ (n : Nat) (p22_5 : Int32) (p22_4 : Int32) (H : Heap) (locs : List Loc) (ls : Array Slot), (14 - p22_5.toInt).toNat = n → (0 ≤ p22_5.toInt) → (p22_5.toInt ≤ 14) → (-1 ≤ p22_4.toInt) → (p22_4.toInt ≤ 13) → HT D cs A T O X H → va_S A s.heap H locs → lv_has ls 6 [(5, .int p22_5), (4, .int p22_4), (3, .int p4_3), (2, .int p4_2), (0, .ref a0), (1, .int x1)] → W p l e { frames := 1, cells := 0, slots := 0, locals := 21 } s m [.ref a0, .int x1].toArray below meth c H locs 0 0 (MQ below (Ti D cs (fun r u => u = (T, O, X)) A) [.ref a0, .int x1].toArray s 0 0 A) (F0 m 22 ls []) := by
            intro n
            induction n using Nat.strongRecOn with
            | _ n ih22 =>
              intro p22_5 p22_4 H locs ls hm22 l_p22_5 u_p22_5 l_p22_4 u_p22_4 hH hS hl
              refine lv_iload hx hb dX6_comeBack_22 (lv_at hl 0 rfl) ?_
              refine lv_bipush (v := 14) hx hb dX6_comeBack_24 (by decide) ?_
              refine lv_icmp_ge (tgt := 71) hx hb dX6_comeBack_26 (by decide) (fun c26 => ?_) (fun c26 => ?_)
              · skip
                have tc26 := f_ge (k := 14) (by decide) c26
                refine lv_aload_n hx hb dX6_comeBack_71 rfl (lv_at hl 4 rfl) ?_
                refine lv_dup hx hb dX6_comeBack_72 rfl ?_
                refine t_get (ci := 6) (lst := ft6 0 0) (C := RX6) (F := TX6) (N := 6) hx hb hts uX6 hown hkb hH t_a0 (hO.no t_a0 (by decide)) (fun _ h9 => h9) rfl rfl 0 (by decide) rfl kw_185 (fun _ h9 => h9) dX6_comeBack_73 (fun v9 h9 => ?_)
                obtain ⟨v73, rfl⟩ := h9
                refine lv_iconst (v := 1) hx hb dX6_comeBack_76 (by decide) ?_
                refine lv_iload hx hb dX6_comeBack_77 (lv_at hl 1 rfl) ?_
                refine lv_ishl hx hb dX6_comeBack_79 ?_
                refine lv_topi (fun v79 ev79 => ?_)
                refine lv_iconst (v := (-1)) hx hb dX6_comeBack_80 (by decide) ?_
                refine lv_ixor hx hb dX6_comeBack_81 ?_
                refine lv_topi (fun v81 ev81 => ?_)
                refine lv_iand hx hb dX6_comeBack_82 ?_
                refine lv_topi (fun v82 ev82 => ?_)
                refine t_put (ci := 6) (lst := ft6 0 0) (v := .int v82) (ty := tyX6 0) (C := RX6) (F := TX6) (N := 6) hx hb hts uX6 tyX6 tyX6_ok nmX6 hown hkb hH hS t_a0 (hO.no t_a0 (by decide)) (fun _ => Iff.rfl) rfl rfl 0 (by decide) rfl (⟨_, rfl⟩) kw_185 (fun _ h9 => h9) rfl (tyX6_ok 0 (by decide)) rfl rfl dX6_comeBack_83 (fun H locs hH hS => ?_)
                obtain ⟨v86, ev86⟩ : ∃ y : Int32, y = p4_2 + 1 := ⟨_, rfl⟩
                refine lv_iinc (v := v86) (lv' := [(2, .int v86), (5, .int p22_5), (4, .int p22_4), (3, .int p4_3), (0, .ref a0), (1, .int x1)]) hx hb dX6_comeBack_86 hl (k := 3) rfl (by rw [ev86]; rfl) (by decide) rfl (fun ls hl => ?_)
                obtain ⟨v89, ev89⟩ : ∃ y : Int32, y = p4_3 + 1 := ⟨_, rfl⟩
                have tv89 : v89.toInt = p4_3.toInt + (1) := by rw [ev89]; exact add_i rfl (by decide) (by omega) (by omega)
                refine lv_iinc (v := v89) (lv' := [(3, .int v89), (2, .int v86), (5, .int p22_5), (4, .int p22_4), (0, .ref a0), (1, .int x1)]) hx hb dX6_comeBack_89 hl (k := 3) rfl (by rw [ev89]; rfl) (by decide) rfl (fun ls hl => ?_)
                refine lv_goto (tgt := 4) hx hb dX6_comeBack_92 (by decide) ?_
                exact ih4 _ (by omega) v89 v86 _ _ _ rfl (by omega) hH hS (lv_sub hl [0, 1, 4, 5] rfl)
              · skip
                have tc26 := f_nge (k := 14) (by decide) c26
                refine lv_aload_n hx hb dX6_comeBack_29 rfl (lv_at hl 4 rfl) ?_
                refine lv_iload hx hb dX6_comeBack_30 (lv_at hl 0 rfl) ?_
                refine tk_i hH hS hA (tr_V (n := 1) (As := [.int p22_5]) hx hb hml hown hts hkb hH hOX hks hE hS hA (s_State_isUsed l D cs kf T O X a0 p22_5 t_a0 (hO.sub (by decide))) kw_802 kw_787 kw_788 kw_7 kw_789 (by decide +kernel) ⟨Nat.le_of_ble_eq_true rfl, Nat.le_of_ble_eq_true rfl⟩ (HT.recv (ci := 6) hkb hH t_a0 (hO.no t_a0 (by decide)) rfl) rfl rfl hl.1 (Nat.le_of_ble_eq_true rfl) dX6_comeBack_32 ⟨Nat.le_of_ble_eq_true rfl, Nat.le_of_ble_eq_true rfl⟩) (fun v32 u H locs hz9 hH hS => ?_)
                obtain ⟨rfl, l_v32, u_v32⟩ := hz9
                have hH : HT D cs A T O X H := hH
                refine W.widen (k := 0) (n := 0) (Nat.le_of_ble_eq_true rfl) (Nat.le_of_ble_eq_true rfl) ?_
                have J65 : ∀ (p65_4 : Int32) (H : Heap) (locs : List Loc) (ls : Array Slot), (-1 ≤ p65_4.toInt) → (p65_4.toInt ≤ 13) → HT D cs A T O X H → va_S A s.heap H locs → lv_has ls 6 [(5, .int p22_5), (4, .int p65_4), (3, .int p4_3), (2, .int p4_2), (0, .ref a0), (1, .int x1)] → W p l e { frames := 1, cells := 0, slots := 0, locals := 21 } s m [.ref a0, .int x1].toArray below meth c H locs 0 0 (MQ below (Ti D cs (fun r u => u = (T, O, X)) A) [.ref a0, .int x1].toArray s 0 0 A) (F0 m 65 ls []) := by
                  intro p65_4 H locs ls l_p65_4 u_p65_4 hH hS hl
                  obtain ⟨v65, ev65⟩ : ∃ y : Int32, y = p22_5 + 1 := ⟨_, rfl⟩
                  have tv65 : v65.toInt = p22_5.toInt + (1) := by rw [ev65]; exact add_i rfl (by decide) (by omega) (by omega)
                  refine lv_iinc (v := v65) (lv' := [(5, .int v65), (4, .int p65_4), (3, .int p4_3), (2, .int p4_2), (0, .ref a0), (1, .int x1)]) hx hb dX6_comeBack_65 hl (k := 0) rfl (by rw [ev65]; rfl) (by decide) rfl (fun ls hl => ?_)
                  refine lv_goto (tgt := 22) hx hb dX6_comeBack_68 (by decide) ?_
                  exact ih22 _ (by omega) v65 p65_4 _ _ _ rfl (by omega) (by omega) (by omega) (by omega) hH hS (lv_sub hl [0, 1, 2, 3, 4, 5] rfl)
                refine lv_if_eq (tgt := 65) hx hb dX6_comeBack_35 (by decide) (fun c35 => ?_) (fun c35 => ?_)
                · skip
                  have tc35 := f_eq (k := 0) (by decide) c35
                  exact J65 p22_4 _ _ _ (by omega) (by omega) hH hS (lv_sub hl [0, 1, 2, 3, 4, 5] rfl)
                · skip
                  have tc35 := f_ne (k := 0) (by decide) c35
                  refine lv_iload hx hb dX6_comeBack_38 (lv_at hl 1 rfl) ?_
                  refine lv_iconst (v := (-1)) hx hb dX6_comeBack_40 (by decide) ?_
                  have J61 : ∀  (H : Heap) (locs : List Loc) (ls : Array Slot), HT D cs A T O X H → va_S A s.heap H locs → lv_has ls 6 [(5, .int p22_5), (3, .int p4_3), (2, .int p4_2), (0, .ref a0), (1, .int x1)] → W p l e { frames := 1, cells := 0, slots := 0, locals := 21 } s m [.ref a0, .int x1].toArray below meth c H locs 0 0 (MQ below (Ti D cs (fun r u => u = (T, O, X)) A) [.ref a0, .int x1].toArray s 0 0 A) (F0 m 61 ls []) := by
                    intro  H locs ls  hH hS hl
                    refine lv_iload hx hb dX6_comeBack_61 (lv_at hl 0 rfl) ?_
                    refine lv_istore (lv' := [(4, .int p22_5), (5, .int p22_5), (3, .int p4_3), (2, .int p4_2), (0, .ref a0), (1, .int x1)]) hx hb dX6_comeBack_63 hl (by decide) rfl (fun ls hl => ?_)
                    exact J65 p22_5 _ _ _ (by omega) (by omega) hH hS (lv_sub hl [1, 0, 2, 3, 4, 5] rfl)
                  refine lv_icmp_eq (tgt := 61) hx hb dX6_comeBack_41 (by decide) (fun c41 => ?_) (fun c41 => ?_)
                  · skip
                    have tc41 := f_eq (k := -1) (by decide) c41
                    exact J61  _ _ _  hH hS (lv_sub hl [0, 2, 3, 4, 5] rfl)
                  · skip
                    have tc41 := f_ne (k := -1) (by decide) c41
                    refine lv_aload_n hx hb dX6_comeBack_44 rfl (lv_at hl 4 rfl) ?_
                    refine t_get (ci := 6) (lst := ft6 0 0) (C := RX6) (F := TX6) (N := 6) hx hb hts uX6 hown hkb hH t_a0 (hO.no t_a0 (by decide)) (fun _ h9 => h9) rfl rfl 5 (by decide) rfl kw_196 (fun _ h9 => h9) dX6_comeBack_45 (fun v9 h9 => ?_)
                    obtain ⟨v45, rfl, t_v45⟩ := h9
                    refine lv_iload hx hb dX6_comeBack_48 (lv_at hl 0 rfl) ?_
                    refine t_ild hx hb hkb hH t_v45 (hO.no t_v45 (by decide)) (by omega) (by omega) dX6_comeBack_50 (fun v50 h9 => ?_)
                    refine lv_aload_n hx hb dX6_comeBack_51 rfl (lv_at hl 4 rfl) ?_
                    refine t_get (ci := 6) (lst := ft6 0 0) (C := RX6) (F := TX6) (N := 6) hx hb hts uX6 hown hkb hH t_a0 (hO.no t_a0 (by decide)) (fun _ h9 => h9) rfl rfl 5 (by decide) rfl kw_196 (fun _ h9 => h9) dX6_comeBack_52 (fun v9 h9 => ?_)
                    obtain ⟨v52, rfl, t_v52⟩ := h9
                    refine lv_iload hx hb dX6_comeBack_55 (lv_at hl 1 rfl) ?_
                    refine t_ild hx hb hkb hH t_v52 (hO.no t_v52 (by decide)) (by omega) (by omega) dX6_comeBack_57 (fun v57 h9 => ?_)
                    refine lv_icmp_ge (tgt := 65) hx hb dX6_comeBack_58 (by decide) (fun c58 => ?_) (fun c58 => ?_)
                    · skip
                      have fuc58 := full_i v50
                      have fvc58 := full_i v57
                      have tc58 := g_le c58
                      exact J65 p22_4 _ _ _ (by omega) (by omega) hH hS (lv_sub hl [0, 1, 2, 3, 4, 5] rfl)
                    · skip
                      have fuc58 := full_i v50
                      have fvc58 := full_i v57
                      have tc58 := g_nle c58
                      exact J61  _ _ _  hH hS (lv_sub hl [0, 2, 3, 4, 5] rfl)
          refine lv_istore (lv' := [(5, .int 0), (4, .int (-1)), (3, .int p4_3), (2, .int p4_2), (0, .ref a0), (1, .int x1)]) hx hb dX6_comeBack_20 hl (by decide) rfl (fun ls hl => ?_)
          exact J22 _ 0 (-1) _ _ _ rfl (by decide) (by decide) (by decide) (by decide) hH hS (lv_sub hl [0, 1, 2, 3, 4, 5] rfl)
  refine lv_istore_n (lv' := [(3, .int 0), (2, .int 0), (0, .ref a0), (1, .int x1)]) hx hb dX6_comeBack_3 rfl hl (by decide) rfl (fun ls hl => ?_)
  exact J4 _ 0 0 _ _ _ rfl (by decide) hH hS (lv_sub hl [0, 1, 2, 3] rfl)
