set_option maxHeartbeats 4000000 in
set_option maxRecDepth 100000 in
theorem s_Wall_forget (l : Launch) (D : va_G) (cs : CS) (kf : KF) (T : TF) (O : List Nat) (X : va_W) (a0 : Nat) (t_a0 : T a0 = some (19, 100, 0)) (hO : okO T O [19]) : TK l D cs kf yX9_forget cX9_forget 1 none { frames := 0, cells := 0, slots := 0, locals := 0 } [.ref a0] T O X (Tv D cs (fun u => u = (T, O, X))) := by
  refine tk_of (by decide) (Nat.le_of_ble_eq_true rfl) (fun p e s m below meth c ls A H locs hx hb hr hml hown hts hlocks hnm hkb hH hS hA hOX hks hE hl => ?_)
  have hown : s.vm.findClass RX9 = some m.cls := hown
  have hl : lv_has ls 1 [(0, .ref a0)] := hl
  refine lv_aload_n hx hb dX9_forget_0 rfl (lv_at hl 0 rfl) ?_
  refine lv_iconst (v := 0) hx hb dX9_forget_1 (by decide) ?_
  refine t_put (ci := 9) (lst := ft9d 100 0) (v := .int 0) (ty := tyX9 0) (C := RX9) (F := TX9) (N := 14) hx hb hts uX9 tyX9 tyX9_ok nmX9 hown hkb hH hS t_a0 (hO.no t_a0 (by decide)) (fun fs => (ob9d fs)) rfl rfl 0 (by decide) rfl (⟨_, rfl, by decide, by decide⟩) kw_106 (fun _ h9 => h9) rfl (tyX9_ok 0 (by decide)) rfl rfl dX9_forget_2 (fun H locs hH hS => ?_)
  refine lv_aload_n hx hb dX9_forget_5 rfl (lv_at hl 0 rfl) ?_
  refine lv_iconst (v := 0) hx hb dX9_forget_6 (by decide) ?_
  refine t_put (ci := 9) (lst := ft9d 100 0) (v := .int 0) (ty := tyX9 1) (C := RX9) (F := TX9) (N := 14) hx hb hts uX9 tyX9 tyX9_ok nmX9 hown hkb hH hS t_a0 (hO.no t_a0 (by decide)) (fun fs => (ob9d fs)) rfl rfl 1 (by decide) rfl (⟨_, rfl, by decide, by decide⟩) kw_110 (fun _ h9 => h9) rfl (tyX9_ok 1 (by decide)) rfl rfl dX9_forget_7 (fun H locs hH hS => ?_)
  refine lv_aload_n hx hb dX9_forget_10 rfl (lv_at hl 0 rfl) ?_
  refine lv_iconst (v := 0) hx hb dX9_forget_11 (by decide) ?_
  refine t_put (ci := 9) (lst := ft9d 100 0) (v := .int 0) (ty := tyX9 2) (C := RX9) (F := TX9) (N := 14) hx hb hts uX9 tyX9 tyX9_ok nmX9 hown hkb hH hS t_a0 (hO.no t_a0 (by decide)) (fun fs => (ob9d fs)) rfl rfl 2 (by decide) rfl (⟨_, rfl⟩) kw_113 (fun _ h9 => h9) rfl (tyX9_ok 2 (by decide)) rfl rfl dX9_forget_12 (fun H locs hH hS => ?_)
  refine lv_aload_n hx hb dX9_forget_15 rfl (lv_at hl 0 rfl) ?_
  refine lv_iconst (v := 0) hx hb dX9_forget_16 (by decide) ?_
  refine t_put (ci := 9) (lst := ft9d 100 0) (v := .int 0) (ty := tyX9 3) (C := RX9) (F := TX9) (N := 14) hx hb hts uX9 tyX9 tyX9_ok nmX9 hown hkb hH hS t_a0 (hO.no t_a0 (by decide)) (fun fs => (ob9d fs)) rfl rfl 3 (by decide) rfl (⟨_, rfl, by decide, by decide⟩) kw_116 (fun _ h9 => h9) rfl (tyX9_ok 3 (by decide)) rfl rfl dX9_forget_17 (fun H locs hH hS => ?_)
  refine lv_aload_n hx hb dX9_forget_20 rfl (lv_at hl 0 rfl) ?_
  refine lv_iconst (v := 0) hx hb dX9_forget_21 (by decide) ?_
  refine t_put (ci := 9) (lst := ft9d 100 0) (v := .int 0) (ty := tyX9 4) (C := RX9) (F := TX9) (N := 14) hx hb hts uX9 tyX9 tyX9_ok nmX9 hown hkb hH hS t_a0 (hO.no t_a0 (by decide)) (fun fs => (ob9d fs)) rfl rfl 4 (by decide) rfl (⟨_, rfl, by decide, by decide⟩) kw_123 (fun _ h9 => h9) rfl (tyX9_ok 4 (by decide)) rfl rfl dX9_forget_22 (fun H locs hH hS => ?_)
  refine lv_aload_n hx hb dX9_forget_25 rfl (lv_at hl 0 rfl) ?_
  refine lv_iconst (v := 0) hx hb dX9_forget_26 (by decide) ?_
  refine t_put (ci := 9) (lst := ft9d 100 0) (v := .int 0) (ty := tyX9 5) (C := RX9) (F := TX9) (N := 14) hx hb hts uX9 tyX9 tyX9_ok nmX9 hown hkb hH hS t_a0 (hO.no t_a0 (by decide)) (fun fs => (ob9d fs)) rfl rfl 5 (by decide) rfl (⟨_, rfl, by decide, by decide⟩) kw_130 (fun _ h9 => h9) rfl (tyX9_ok 5 (by decide)) rfl rfl dX9_forget_27 (fun H locs hH hS => ?_)
  exact te_v hx hb hr hlocks hH hS rfl dX9_forget_30
set_option maxHeartbeats 4000000 in
set_option maxRecDepth 100000 in
theorem s_Wall_middlesD (l : Launch) (D : va_G) (cs : CS) (kf : KF) (T : TF) (O : List Nat) (X : va_W) (a0 : Nat) (t_a0 : T a0 = some (19, 100, 0)) (hO : okO T O [19]) : TK l D cs kf yX9_middles cX9_middles 1 (some (.int)) { frames := 0, cells := 0, slots := 0, locals := 0 } [.ref a0] T O X (Ti D cs (fun r u => u = (T, O, X) ∧ 0 ≤ r.toInt ∧ r.toInt ≤ 16383)) := by
  refine tk_of (by decide) (Nat.le_of_ble_eq_true rfl) (fun p e s m below meth c ls A H locs hx hb hr hml hown hts hlocks hnm hkb hH hS hA hOX hks hE hl => ?_)
  have hown : s.vm.findClass RX9 = some m.cls := hown
  have hl : lv_has ls 1 [(0, .ref a0)] := hl
  refine lv_iconst (v := 1) hx hb dX9_middles_0 (by decide) ?_
  refine lv_aload_n hx hb dX9_middles_1 rfl (lv_at hl 0 rfl) ?_
  refine t_get (ci := 9) (lst := ft9d 100 0) (C := RX9) (F := TX9) (N := 14) hx hb hts uX9 hown hkb hH t_a0 (hO.no t_a0 (by decide)) (fun fs => (ob9d fs).mp) rfl rfl 0 (by decide) rfl kw_106 (fun _ h9 => h9) dX9_middles_2 (fun v9 h9 => ?_)
  obtain ⟨v2, rfl, l_v2, u_v2⟩ := h9
  refine lv_ishl hx hb dX9_middles_5 ?_
  refine lv_topi (fun v5 ev5 => ?_)
  have tv5 : 1 ≤ v5.toInt ∧ v5.toInt ≤ 16384 := by rw [ev5]; exact shl_b 14 (by decide) (by omega) (by omega)
  refine lv_iconst (v := 1) hx hb dX9_middles_6 (by decide) ?_
  refine lv_isub hx hb dX9_middles_7 ?_
  refine lv_topi (fun v7 ev7 => ?_)
  have tv7 : v7.toInt = v5.toInt - (1) := by rw [ev7]; exact sub_i rfl (by decide : (1 : Int32).toInt = 1) (by omega) (by omega)
  refine lv_aload_n hx hb dX9_middles_8 rfl (lv_at hl 0 rfl) ?_
  refine t_get (ci := 9) (lst := ft9d 100 0) (C := RX9) (F := TX9) (N := 14) hx hb hts uX9 hown hkb hH t_a0 (hO.no t_a0 (by decide)) (fun fs => (ob9d fs).mp) rfl rfl 3 (by decide) rfl kw_116 (fun _ h9 => h9) dX9_middles_9 (fun v9 h9 => ?_)
  obtain ⟨v9, rfl, l_v9, u_v9⟩ := h9
  refine lv_iconst (v := (-1)) hx hb dX9_middles_12 (by decide) ?_
  refine lv_ixor hx hb dX9_middles_13 ?_
  refine lv_topi (fun v13 ev13 => ?_)
  refine lv_iand hx hb dX9_middles_14 ?_
  refine lv_topi (fun v14 ev14 => ?_)
  have tv14 : 0 ≤ v14.toInt ∧ v14.toInt ≤ v7.toInt := by rw [ev14]; exact and_l (by omega)
  refine lv_aload_n hx hb dX9_middles_15 rfl (lv_at hl 0 rfl) ?_
  refine t_get (ci := 9) (lst := ft9d 100 0) (C := RX9) (F := TX9) (N := 14) hx hb hts uX9 hown hkb hH t_a0 (hO.no t_a0 (by decide)) (fun fs => (ob9d fs).mp) rfl rfl 4 (by decide) rfl kw_123 (fun _ h9 => h9) dX9_middles_16 (fun v9 h9 => ?_)
  obtain ⟨v16, rfl, l_v16, u_v16⟩ := h9
  refine lv_iconst (v := (-1)) hx hb dX9_middles_19 (by decide) ?_
  refine lv_ixor hx hb dX9_middles_20 ?_
  refine lv_topi (fun v20 ev20 => ?_)
  refine lv_iand hx hb dX9_middles_21 ?_
  refine lv_topi (fun v21 ev21 => ?_)
  have tv21 : 0 ≤ v21.toInt ∧ v21.toInt ≤ v14.toInt := by rw [ev21]; exact and_l (by omega)
  exact te_i hx hb hr hlocks hH hS (⟨rfl, by omega, by omega⟩) dX9_middles_22
set_option maxHeartbeats 4000000 in
set_option maxRecDepth 100000 in
theorem s_Wall_middles (l : Launch) (D : va_G) (cs : CS) (kf : KF) (T : TF) (O : List Nat) (X : va_W) (a0 ha0 ga0 : Nat) (t_a0 : isW T a0 ha0 ga0) (hO : okO T O [19]) : TK l D cs kf yX9_middles cX9_middles 1 (some (.int)) { frames := 0, cells := 0, slots := 0, locals := 0 } [.ref a0] T O X (Ti D cs (fun r u => u = (T, O, X) ∧ 0 ≤ r.toInt ∧ r.toInt ≤ 16383)) := by
  refine tk_of (by decide) (Nat.le_of_ble_eq_true rfl) (fun p e s m below meth c ls A H locs hx hb hr hml hown hts hlocks hnm hkb hH hS hA hOX hks hE hl => ?_)
  have hown : s.vm.findClass RX9 = some m.cls := hown
  have hl : lv_has ls 1 [(0, .ref a0)] := hl
  have b1_a0 := t_a0.2.1
  have b2_a0 := t_a0.2.2
  refine lv_iconst (v := 1) hx hb dX9_middles_0 (by decide) ?_
  refine lv_aload_n hx hb dX9_middles_1 rfl (lv_at hl 0 rfl) ?_
  refine t_get (ci := 9) (lst := ft9w ha0 ga0) (C := RX9) (F := TX9) (N := 14) hx hb hts uX9 hown hkb hH t_a0.1 (hO.no t_a0.1 (by decide)) (fun fs => (ob9w t_a0 fs).mp) rfl rfl 0 (by decide) rfl kw_106 (fun _ h9 => h9) dX9_middles_2 (fun v9 h9 => ?_)
  have h9 : v9 = .int (nI ha0) := h9
  subst h9
  have e_ha0 : (nI ha0).toInt = ha0 := nI_toInt (by have := t_a0.2.1; omega)
  have b_ha0 := t_a0.2.1
  refine lv_ishl hx hb dX9_middles_5 ?_
  refine lv_topi (fun v5 ev5 => ?_)
  have tv5 : 1 ≤ v5.toInt ∧ v5.toInt ≤ 16384 := by rw [ev5]; exact shl_b 14 (by decide) (by omega) (by omega)
  refine lv_iconst (v := 1) hx hb dX9_middles_6 (by decide) ?_
  refine lv_isub hx hb dX9_middles_7 ?_
  refine lv_topi (fun v7 ev7 => ?_)
  have tv7 : v7.toInt = v5.toInt - (1) := by rw [ev7]; exact sub_i rfl (by decide : (1 : Int32).toInt = 1) (by omega) (by omega)
  refine lv_aload_n hx hb dX9_middles_8 rfl (lv_at hl 0 rfl) ?_
  refine t_get (ci := 9) (lst := ft9w ha0 ga0) (C := RX9) (F := TX9) (N := 14) hx hb hts uX9 hown hkb hH t_a0.1 (hO.no t_a0.1 (by decide)) (fun fs => (ob9w t_a0 fs).mp) rfl rfl 3 (by decide) rfl kw_116 (fun _ h9 => h9) dX9_middles_9 (fun v9 h9 => ?_)
  obtain ⟨v9, rfl, l_v9, u_v9⟩ := h9
  refine lv_iconst (v := (-1)) hx hb dX9_middles_12 (by decide) ?_
  refine lv_ixor hx hb dX9_middles_13 ?_
  refine lv_topi (fun v13 ev13 => ?_)
  refine lv_iand hx hb dX9_middles_14 ?_
  refine lv_topi (fun v14 ev14 => ?_)
  have tv14 : 0 ≤ v14.toInt ∧ v14.toInt ≤ v7.toInt := by rw [ev14]; exact and_l (by omega)
  refine lv_aload_n hx hb dX9_middles_15 rfl (lv_at hl 0 rfl) ?_
  refine t_get (ci := 9) (lst := ft9w ha0 ga0) (C := RX9) (F := TX9) (N := 14) hx hb hts uX9 hown hkb hH t_a0.1 (hO.no t_a0.1 (by decide)) (fun fs => (ob9w t_a0 fs).mp) rfl rfl 4 (by decide) rfl kw_123 (fun _ h9 => h9) dX9_middles_16 (fun v9 h9 => ?_)
  obtain ⟨v16, rfl, l_v16, u_v16⟩ := h9
  refine lv_iconst (v := (-1)) hx hb dX9_middles_19 (by decide) ?_
  refine lv_ixor hx hb dX9_middles_20 ?_
  refine lv_topi (fun v20 ev20 => ?_)
  refine lv_iand hx hb dX9_middles_21 ?_
  refine lv_topi (fun v21 ev21 => ?_)
  have tv21 : 0 ≤ v21.toInt ∧ v21.toInt ≤ v14.toInt := by rw [ev21]; exact and_l (by omega)
  exact te_i hx hb hr hlocks hH hS (⟨rfl, by omega, by omega⟩) dX9_middles_22
set_option maxHeartbeats 4000000 in
set_option maxRecDepth 100000 in
theorem s_Wall_asksDay (l : Launch) (D : va_G) (cs : CS) (kf : KF) (T : TF) (O : List Nat) (X : va_W) (a0 ha0 ga0 : Nat) (t_a0 : isW T a0 ha0 ga0) (hO : okO T O [19]) : TK l D cs kf yX9_asksDay cX9_asksDay 1 (some (.boolean)) { frames := 0, cells := 0, slots := 0, locals := 0 } [.ref a0] T O X (Ti D cs (fun r u => u = (T, O, X) ∧ 0 ≤ r.toInt ∧ r.toInt ≤ 1)) := by
  refine tk_of (by decide) (Nat.le_of_ble_eq_true rfl) (fun p e s m below meth c ls A H locs hx hb hr hml hown hts hlocks hnm hkb hH hS hA hOX hks hE hl => ?_)
  have hown : s.vm.findClass RX9 = some m.cls := hown
  have hl : lv_has ls 1 [(0, .ref a0)] := hl
  have b1_a0 := t_a0.2.1
  have b2_a0 := t_a0.2.2
  refine lv_aload_n hx hb dX9_asksDay_0 rfl (lv_at hl 0 rfl) ?_
  refine t_get (ci := 9) (lst := ft9w ha0 ga0) (C := RX9) (F := TX9) (N := 14) hx hb hts uX9 hown hkb hH t_a0.1 (hO.no t_a0.1 (by decide)) (fun fs => (ob9w t_a0 fs).mp) rfl rfl 12 (by decide) rfl kw_148 (fun _ h9 => h9) dX9_asksDay_1 (fun v9 h9 => ?_)
  obtain ⟨v1, rfl, l_v1, u_v1⟩ := h9
  exact te_z hx hb hr hlocks (nar01 (by omega) (by omega)) hH hS (⟨rfl, by omega, by omega⟩) dX9_asksDay_4
set_option maxHeartbeats 4000000 in
set_option maxRecDepth 100000 in
theorem s_Wall_asksLeg (l : Launch) (D : va_G) (cs : CS) (kf : KF) (T : TF) (O : List Nat) (X : va_W) (a0 ha0 ga0 : Nat) (t_a0 : isW T a0 ha0 ga0) (hO : okO T O [19]) : TK l D cs kf yX9_asksLeg cX9_asksLeg 1 (some (.boolean)) { frames := 0, cells := 0, slots := 0, locals := 0 } [.ref a0] T O X (Ti D cs (fun r u => u = (T, O, X) ∧ 0 ≤ r.toInt ∧ r.toInt ≤ 1)) := by
  refine tk_of (by decide) (Nat.le_of_ble_eq_true rfl) (fun p e s m below meth c ls A H locs hx hb hr hml hown hts hlocks hnm hkb hH hS hA hOX hks hE hl => ?_)
  have hown : s.vm.findClass RX9 = some m.cls := hown
  have hl : lv_has ls 1 [(0, .ref a0)] := hl
  have b1_a0 := t_a0.2.1
  have b2_a0 := t_a0.2.2
  refine lv_aload_n hx hb dX9_asksLeg_0 rfl (lv_at hl 0 rfl) ?_
  refine t_get (ci := 9) (lst := ft9w ha0 ga0) (C := RX9) (F := TX9) (N := 14) hx hb hts uX9 hown hkb hH t_a0.1 (hO.no t_a0.1 (by decide)) (fun fs => (ob9w t_a0 fs).mp) rfl rfl 13 (by decide) rfl kw_149 (fun _ h9 => h9) dX9_asksLeg_1 (fun v9 h9 => ?_)
  obtain ⟨v1, rfl, l_v1, u_v1⟩ := h9
  exact te_z hx hb hr hlocks (nar01 (by omega) (by omega)) hH hS (⟨rfl, by omega, by omega⟩) dX9_asksLeg_4
set_option maxHeartbeats 4000000 in
set_option maxRecDepth 100000 in
theorem s_Wall_comeBy (l : Launch) (D : va_G) (cs : CS) (kf : KF) (T : TF) (O : List Nat) (X : va_W) (a0 ha0 ga0 : Nat) (x1 : Int32) (t_a0 : isW T a0 ha0 ga0) (hO : okO T O [1, 19]) : TK l D cs kf yX9_comeBy cX9_comeBy 4 (some (.int)) { frames := 0, cells := 0, slots := 0, locals := 0 } [.ref a0, .int x1] T O X (Ti D cs (fun r u => u = (T, O, X) ∧ 0 ≤ r.toInt ∧ r.toInt ≤ 16383)) := by
  refine tk_of (by decide) (Nat.le_of_ble_eq_true rfl) (fun p e s m below meth c ls A H locs hx hb hr hml hown hts hlocks hnm hkb hH hS hA hOX hks hE hl => ?_)
  have hown : s.vm.findClass RX9 = some m.cls := hown
  have hl : lv_has ls 4 [(0, .ref a0), (1, .int x1)] := hl
  have b1_a0 := t_a0.2.1
  have b2_a0 := t_a0.2.2
  refine lv_iconst (v := 0) hx hb dX9_comeBy_0 (by decide) ?_
  refine lv_istore_n (lv' := [(2, .int 0), (0, .ref a0), (1, .int x1)]) hx hb dX9_comeBy_1 rfl hl (by decide) rfl (fun ls hl => ?_)
  refine lv_iconst (v := 0) hx hb dX9_comeBy_2 (by decide) ?_
  have J4 : ∀ (n : Nat) (p4_3 : Int32) (p4_2 : Int32) (H : Heap) (locs : List Loc) (ls : Array Slot), (14 - p4_3.toInt).toNat = n → (0 ≤ p4_3.toInt) → (p4_3.toInt ≤ 14) → (0 ≤ p4_2.toInt) → (p4_2.toInt ≤ 16383) → HT D cs A T O X H → va_S A s.heap H locs → lv_has ls 4 [(3, .int p4_3), (2, .int p4_2), (0, .ref a0), (1, .int x1)] → W p l e { frames := 0, cells := 0, slots := 0, locals := 0 } s m [.ref a0, .int x1].toArray below meth c H locs 0 0 (MQ below (Ti D cs (fun r u => u = (T, O, X) ∧ 0 ≤ r.toInt ∧ r.toInt ≤ 16383) A) [.ref a0, .int x1].toArray s 0 0 A) (F0 m 4 ls []) := by
    intro n
    induction n using Nat.strongRecOn with
    | _ n ih4 =>
      intro p4_3 p4_2 H locs ls hm4 l_p4_3 u_p4_3 l_p4_2 u_p4_2 hH hS hl
      refine lv_iload_n hx hb dX9_comeBy_4 rfl (lv_at hl 0 rfl) ?_
      refine lv_aload_n hx hb dX9_comeBy_5 rfl (lv_at hl 2 rfl) ?_
      refine t_get (ci := 9) (lst := ft9w ha0 ga0) (C := RX9) (F := TX9) (N := 14) hx hb hts uX9 hown hkb hH t_a0.1 (hO.no t_a0.1 (by decide)) (fun fs => (ob9w t_a0 fs).mp) rfl rfl 0 (by decide) rfl kw_106 (fun _ h9 => h9) dX9_comeBy_6 (fun v9 h9 => ?_)
      have h9 : v9 = .int (nI ha0) := h9
      subst h9
      have e_ha0 : (nI ha0).toInt = ha0 := nI_toInt (by have := t_a0.2.1; omega)
      have b_ha0 := t_a0.2.1
      refine lv_icmp_ge (tgt := 34) hx hb dX9_comeBy_9 (by decide) (fun c9 => ?_) (fun c9 => ?_)
      · skip
        have fuc9 := full_i p4_3
        have fvc9 := full_i (nI ha0)
        have tc9 := g_le c9
        refine lv_iload_n hx hb dX9_comeBy_34 rfl (lv_at hl 1 rfl) ?_
        exact te_i hx hb hr hlocks hH hS (⟨rfl, by omega, by omega⟩) dX9_comeBy_35
      · skip
        have fuc9 := full_i p4_3
        have fvc9 := full_i (nI ha0)
        have tc9 := g_nle c9
        refine lv_aload_n hx hb dX9_comeBy_12 rfl (lv_at hl 2 rfl) ?_
        refine t_get (ci := 9) (lst := ft9w ha0 ga0) (C := RX9) (F := TX9) (N := 14) hx hb hts uX9 hown hkb hH t_a0.1 (hO.no t_a0.1 (by decide)) (fun fs => (ob9w t_a0 fs).mp) rfl rfl 8 (by decide) rfl kw_138 (fun _ h9 => h9) dX9_comeBy_13 (fun v9 h9 => ?_)
        obtain ⟨v13, rfl, t_v13⟩ := h9
        refine lv_iload_n hx hb dX9_comeBy_16 rfl (lv_at hl 0 rfl) ?_
        refine t_ild hx hb hkb hH t_v13 (hO.no t_v13 (by decide)) (by omega) (by omega) dX9_comeBy_17 (fun v17 h9 => ?_)
        refine lv_iload_n hx hb dX9_comeBy_18 rfl (lv_at hl 3 rfl) ?_
        have J28 : ∀ (p28_2 : Int32) (H : Heap) (locs : List Loc) (ls : Array Slot), (0 ≤ p28_2.toInt) → (p28_2.toInt ≤ 16383) → HT D cs A T O X H → va_S A s.heap H locs → lv_has ls 4 [(3, .int p4_3), (2, .int p28_2), (0, .ref a0), (1, .int x1)] → W p l e { frames := 0, cells := 0, slots := 0, locals := 0 } s m [.ref a0, .int x1].toArray below meth c H locs 0 0 (MQ below (Ti D cs (fun r u => u = (T, O, X) ∧ 0 ≤ r.toInt ∧ r.toInt ≤ 16383) A) [.ref a0, .int x1].toArray s 0 0 A) (F0 m 28 ls []) := by
          intro p28_2 H locs ls l_p28_2 u_p28_2 hH hS hl
          obtain ⟨v28, ev28⟩ : ∃ y : Int32, y = p4_3 + 1 := ⟨_, rfl⟩
          have tv28 : v28.toInt = p4_3.toInt + (1) := by rw [ev28]; exact add_i rfl (by decide) (by omega) (by omega)
          refine lv_iinc (v := v28) (lv' := [(3, .int v28), (2, .int p28_2), (0, .ref a0), (1, .int x1)]) hx hb dX9_comeBy_28 hl (k := 0) rfl (by rw [ev28]; rfl) (by decide) rfl (fun ls hl => ?_)
          refine lv_goto (tgt := 4) hx hb dX9_comeBy_31 (by decide) ?_
          exact ih4 _ (by omega) v28 p28_2 _ _ _ rfl (by omega) (by omega) (by omega) (by omega) hH hS (lv_sub hl [0, 1, 2, 3] rfl)
        refine lv_icmp_gt (tgt := 28) hx hb dX9_comeBy_19 (by decide) (fun c19 => ?_) (fun c19 => ?_)
        · skip
          have fuc19 := full_i v17
          have fvc19 := full_i x1
          have tc19 := g_lt c19
          exact J28 p4_2 _ _ _ (by omega) (by omega) hH hS (lv_sub hl [0, 1, 2, 3] rfl)
        · skip
          have fuc19 := full_i v17
          have fvc19 := full_i x1
          have tc19 := g_nlt c19
          refine lv_iload_n hx hb dX9_comeBy_22 rfl (lv_at hl 1 rfl) ?_
          refine lv_iconst (v := 1) hx hb dX9_comeBy_23 (by decide) ?_
          refine lv_iload_n hx hb dX9_comeBy_24 rfl (lv_at hl 0 rfl) ?_
          refine lv_ishl hx hb dX9_comeBy_25 ?_
          refine lv_topi (fun v25 ev25 => ?_)
          have tv25 : 1 ≤ v25.toInt ∧ v25.toInt ≤ 8192 := by rw [ev25]; exact shl_b 13 (by decide) (by omega) (by omega)
          refine lv_ior hx hb dX9_comeBy_26 ?_
          refine lv_topi (fun v26 ev26 => ?_)
          have tv26 : 0 ≤ v26.toInt ∧ v26.toInt < 16384 := by rw [ev26]; exact or_b 14 (by decide) (by omega) (by omega) (by omega) (by omega)
          refine lv_istore_n (lv' := [(2, .int v26), (3, .int p4_3), (0, .ref a0), (1, .int x1)]) hx hb dX9_comeBy_27 rfl hl (by decide) rfl (fun ls hl => ?_)
          exact J28 v26 _ _ _ (by omega) (by omega) hH hS (lv_sub hl [1, 0, 2, 3] rfl)
  refine lv_istore_n (lv' := [(3, .int 0), (2, .int 0), (0, .ref a0), (1, .int x1)]) hx hb dX9_comeBy_3 rfl hl (by decide) rfl (fun ls hl => ?_)
  exact J4 _ 0 0 _ _ _ rfl (by decide) (by decide) (by decide) (by decide) hH hS (lv_sub hl [0, 1, 2, 3] rfl)
