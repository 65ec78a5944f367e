set_option maxHeartbeats 4000000 in
set_option maxRecDepth 100000 in
theorem s_FW_takeTurns5 (l : Launch) (D : va_G) (cs : CS) (kf : KF) (T : TF) (O : List Nat) (X : va_W) (a0 w hw gw ch gq : Nat) (x1 : Int32) (x2 : Int32) (x3 : Int32) (x4 : Int32) (t_a0 : T a0 = some (21, w, ch)) (t_w : isW T w hw gw) (t_ch : T ch = some (10, gq, 0)) (l_x1 : 5 ≤ x1.toInt) (u_x1 : x1.toInt ≤ 5) (hO : okO T O [1, 21]) : TK l D cs kf yX11_takeTurns cX11_takeTurns 8 none { frames := 1, cells := 0, slots := 0, locals := 60 } [.ref a0, .int x1, .int x2, .int x3, .int x4] T O X (Tv D cs (fun u => u = (T, O, X))) := by
  refine tk_of (by decide) (Nat.le_of_ble_eq_true rfl) (fun p e s m below meth c ls A H locs hx hb hr hml hown hts hlocks hnm hkb hH hS hA hOX hks hE hl => ?_)
  have hown : s.vm.findClass RX11 = some m.cls := hown
  have hl : lv_has ls 8 [(0, .ref a0), (1, .int x1), (2, .int x2), (3, .int x3), (4, .int x4)] := hl
  have b1_w := t_w.2.1
  have b2_w := t_w.2.2
  refine lv_iload hx hb dX11_takeTurns_0 (lv_at hl 4 rfl) ?_
  refine lv_iload_n hx hb dX11_takeTurns_2 rfl (lv_at hl 2 rfl) ?_
  refine tk_i hH hS hA (tr_S (n := 1) (As := [.int x2]) hx hb hml hown hts hkb hH hOX hks hE hS hA (s_bitCount l D cs kf T O X x2  (hO.sub (by decide))) kw_893 kw_692 kw_20 kw_693 (by decide +kernel) ⟨Nat.le_of_ble_eq_true rfl, Nat.le_of_ble_eq_true rfl⟩ rfl rfl hl.1 (Nat.le_of_ble_eq_true rfl) dX11_takeTurns_3 ⟨Nat.le_of_ble_eq_true rfl, Nat.le_of_ble_eq_true rfl⟩) (fun v3 u H locs hz9 hH hS => ?_)
  obtain ⟨rfl, l_v3, u_v3⟩ := hz9
  have hH : HT D cs A T O X H := hH
  refine W.widen (k := 0) (n := 0) (Nat.le_of_ble_eq_true rfl) (Nat.le_of_ble_eq_true rfl) ?_
  refine lv_iadd hx hb dX11_takeTurns_6 ?_
  refine lv_topi (fun v6 ev6 => ?_)
  refine lv_aload_n hx hb dX11_takeTurns_7 rfl (lv_at hl 0 rfl) ?_
  refine t_get (ci := 11) (lst := ft11 w ch) (C := RX11) (F := TX11) (N := 20) hx hb hts uX11 hown hkb hH t_a0 (hO.no t_a0 (by decide)) (fun _ h9 => h9) rfl rfl 19 (by decide) rfl kw_379 (fun _ h9 => h9) dX11_takeTurns_8 (fun v9 h9 => ?_)
  obtain ⟨v8, rfl⟩ := h9
  refine lv_icmp_gt (tgt := 15) hx hb dX11_takeTurns_11 (by decide) (fun c11 => ?_) (fun c11 => ?_)
  · skip
    have fuc11 := full_i v6
    have fvc11 := full_i v8
    have tc11 := g_lt c11
    refine lv_iload_n hx hb dX11_takeTurns_15 rfl (lv_at hl 2 rfl) ?_
    have J24 : ∀  (H : Heap) (locs : List Loc) (ls : Array Slot), HT D cs A T O X H → va_S A s.heap H locs → lv_has ls 8 [(0, .ref a0), (4, .int x4)] → W p l e { frames := 1, cells := 0, slots := 0, locals := 60 } s m [.ref a0, .int x1, .int x2, .int x3, .int x4].toArray below meth c H locs 0 0 (MQ below (Tv D cs (fun u => u = (T, O, X)) A) [.ref a0, .int x1, .int x2, .int x3, .int x4].toArray s 0 0 A) (F0 m 24 ls []) := by
      intro  H locs ls  hH hS hl
      refine lv_aload_n hx hb dX11_takeTurns_24 rfl (lv_at hl 0 rfl) ?_
      refine lv_iload hx hb dX11_takeTurns_25 (lv_at hl 1 rfl) ?_
      refine t_put (ci := 11) (lst := ft11 w ch) (v := .int x4) (ty := tyX11 19) (C := RX11) (F := TX11) (N := 20) hx hb hts uX11 tyX11 tyX11_ok nmX11 hown hkb hH hS t_a0 (hO.no t_a0 (by decide)) (fun _ => Iff.rfl) rfl rfl 19 (by decide) rfl (⟨_, rfl⟩) kw_379 (fun _ h9 => h9) rfl (tyX11_ok 19 (by decide)) rfl rfl dX11_takeTurns_27 (fun H locs hH hS => ?_)
      refine lv_aload_n hx hb dX11_takeTurns_30 rfl (lv_at hl 0 rfl) ?_
      refine t_get (ci := 11) (lst := ft11 w ch) (C := RX11) (F := TX11) (N := 20) hx hb hts uX11 hown hkb hH t_a0 (hO.no t_a0 (by decide)) (fun _ h9 => h9) rfl rfl 17 (by decide) rfl kw_377 (fun _ h9 => h9) dX11_takeTurns_31 (fun v9 h9 => ?_)
      obtain ⟨v31, rfl, t_v31⟩ := h9
      refine lv_iconst (v := 0) hx hb dX11_takeTurns_34 (by decide) ?_
      refine lv_aload_n hx hb dX11_takeTurns_35 rfl (lv_at hl 0 rfl) ?_
      refine t_get (ci := 11) (lst := ft11 w ch) (C := RX11) (F := TX11) (N := 20) hx hb hts uX11 hown hkb hH t_a0 (hO.no t_a0 (by decide)) (fun _ h9 => h9) rfl rfl 18 (by decide) rfl kw_378 (fun _ h9 => h9) dX11_takeTurns_36 (fun v9 h9 => ?_)
      obtain ⟨v36, rfl, t_v36⟩ := h9
      refine lv_iconst (v := 0) hx hb dX11_takeTurns_39 (by decide) ?_
      refine lv_iconst (v := 5) hx hb dX11_takeTurns_40 (by decide) ?_
      refine t_copy hx hb (by rw [hml]; exact hl.1.symm) hown (hts _ kw_1172) (hts _ kw_734) (hts _ kw_733) (hts _ kw_23) hkb hH hS t_v31 (hO.no t_v31 (by decide)) t_v36 (hO.no t_v36 (by decide)) (by decide) (by decide) (by decide) (by decide) (by decide) (Nat.le_of_ble_eq_true rfl) (Nat.le_of_ble_eq_true rfl) dX11_takeTurns_41 (fun H locs hH hS => ?_)
      exact te_v hx hb hr hlocks hH hS rfl dX11_takeTurns_44
    refine lv_if_eq (tgt := 24) hx hb dX11_takeTurns_16 (by decide) (fun c16 => ?_) (fun c16 => ?_)
    · skip
      have tc16 := f_eq (k := 0) (by decide) c16
      exact J24  _ _ _  hH hS (lv_sub hl [0, 4] rfl)
    · skip
      have tc16 := f_ne (k := 0) (by decide) c16
      refine lv_iload_n hx hb dX11_takeTurns_19 rfl (lv_at hl 1 rfl) ?_
      refine lv_iconst (v := 5) hx hb dX11_takeTurns_20 (by decide) ?_
      refine lv_icmp_lt (tgt := 45) hx hb dX11_takeTurns_21 (by decide) (fun c21 => ?_) (fun c21 => ?_)
      · skip
        have tc21 := f_lt (k := 5) (by decide) c21
        exfalso; omega
      · skip
        have tc21 := f_nlt (k := 5) (by decide) c21
        exact J24  _ _ _  hH hS (lv_sub hl [0, 4] rfl)
  · skip
    have fuc11 := full_i v6
    have fvc11 := full_i v8
    have tc11 := g_nlt c11
    exact te_v hx hb hr hlocks hH hS rfl dX11_takeTurns_14
set_option maxHeartbeats 4000000 in
set_option maxRecDepth 100000 in
theorem s_FW_takeTurns4 (l : Launch) (D : va_G) (cs : CS) (kf : KF) (T : TF) (O : List Nat) (X : va_W) (a0 w hw gw ch gq : Nat) (x1 : Int32) (x2 : Int32) (x3 : Int32) (x4 : Int32) (t_a0 : T a0 = some (21, w, ch)) (t_w : isW T w hw gw) (t_ch : T ch = some (10, gq, 0)) (l_x1 : 4 ≤ x1.toInt) (u_x1 : x1.toInt ≤ 4) (hO : okO T O [1, 7, 12, 15, 16, 19, 20, 21]) : TK l D cs kf yX11_takeTurns cX11_takeTurns 8 none { frames := 6, cells := 0, slots := 0, locals := 152 } [.ref a0, .int x1, .int x2, .int x3, .int x4] T O X (Tv D cs (fun u => u = (T, O, X))) := by
  refine tk_of (by decide) (Nat.le_of_ble_eq_true rfl) (fun p e s m below meth c ls A H locs hx hb hr hml hown hts hlocks hnm hkb hH hS hA hOX hks hE hl => ?_)
  have hown : s.vm.findClass RX11 = some m.cls := hown
  have hl : lv_has ls 8 [(0, .ref a0), (1, .int x1), (2, .int x2), (3, .int x3), (4, .int x4)] := hl
  have b1_w := t_w.2.1
  have b2_w := t_w.2.2
  refine lv_iload hx hb dX11_takeTurns_0 (lv_at hl 4 rfl) ?_
  refine lv_iload_n hx hb dX11_takeTurns_2 rfl (lv_at hl 2 rfl) ?_
  refine tk_i hH hS hA (tr_S (n := 1) (As := [.int x2]) hx hb hml hown hts hkb hH hOX hks hE hS hA (s_bitCount l D cs kf T O X x2  (hO.sub (by decide))) kw_893 kw_692 kw_20 kw_693 (by decide +kernel) ⟨Nat.le_of_ble_eq_true rfl, Nat.le_of_ble_eq_true rfl⟩ rfl rfl hl.1 (Nat.le_of_ble_eq_true rfl) dX11_takeTurns_3 ⟨Nat.le_of_ble_eq_true rfl, Nat.le_of_ble_eq_true rfl⟩) (fun v3 u H locs hz9 hH hS => ?_)
  obtain ⟨rfl, l_v3, u_v3⟩ := hz9
  have hH : HT D cs A T O X H := hH
  refine W.widen (k := 0) (n := 0) (Nat.le_of_ble_eq_true rfl) (Nat.le_of_ble_eq_true rfl) ?_
  refine lv_iadd hx hb dX11_takeTurns_6 ?_
  refine lv_topi (fun v6 ev6 => ?_)
  refine lv_aload_n hx hb dX11_takeTurns_7 rfl (lv_at hl 0 rfl) ?_
  refine t_get (ci := 11) (lst := ft11 w ch) (C := RX11) (F := TX11) (N := 20) hx hb hts uX11 hown hkb hH t_a0 (hO.no t_a0 (by decide)) (fun _ h9 => h9) rfl rfl 19 (by decide) rfl kw_379 (fun _ h9 => h9) dX11_takeTurns_8 (fun v9 h9 => ?_)
  obtain ⟨v8, rfl⟩ := h9
  refine lv_icmp_gt (tgt := 15) hx hb dX11_takeTurns_11 (by decide) (fun c11 => ?_) (fun c11 => ?_)
  · skip
    have fuc11 := full_i v6
    have fvc11 := full_i v8
    have tc11 := g_lt c11
    refine lv_iload_n hx hb dX11_takeTurns_15 rfl (lv_at hl 2 rfl) ?_
    refine lv_if_eq (tgt := 24) hx hb dX11_takeTurns_16 (by decide) (fun c16 => ?_) (fun c16 => ?_)
    · skip
      have tc16 := f_eq (k := 0) (by decide) c16
      refine lv_aload_n hx hb dX11_takeTurns_24 rfl (lv_at hl 0 rfl) ?_
      refine lv_iload hx hb dX11_takeTurns_25 (lv_at hl 4 rfl) ?_
      refine t_put (ci := 11) (lst := ft11 w ch) (v := .int x4) (ty := tyX11 19) (C := RX11) (F := TX11) (N := 20) hx hb hts uX11 tyX11 tyX11_ok nmX11 hown hkb hH hS t_a0 (hO.no t_a0 (by decide)) (fun _ => Iff.rfl) rfl rfl 19 (by decide) rfl (⟨_, rfl⟩) kw_379 (fun _ h9 => h9) rfl (tyX11_ok 19 (by decide)) rfl rfl dX11_takeTurns_27 (fun H locs hH hS => ?_)
      refine lv_aload_n hx hb dX11_takeTurns_30 rfl (lv_at hl 0 rfl) ?_
      refine t_get (ci := 11) (lst := ft11 w ch) (C := RX11) (F := TX11) (N := 20) hx hb hts uX11 hown hkb hH t_a0 (hO.no t_a0 (by decide)) (fun _ h9 => h9) rfl rfl 17 (by decide) rfl kw_377 (fun _ h9 => h9) dX11_takeTurns_31 (fun v9 h9 => ?_)
      obtain ⟨v31, rfl, t_v31⟩ := h9
      refine lv_iconst (v := 0) hx hb dX11_takeTurns_34 (by decide) ?_
      refine lv_aload_n hx hb dX11_takeTurns_35 rfl (lv_at hl 0 rfl) ?_
      refine t_get (ci := 11) (lst := ft11 w ch) (C := RX11) (F := TX11) (N := 20) hx hb hts uX11 hown hkb hH t_a0 (hO.no t_a0 (by decide)) (fun _ h9 => h9) rfl rfl 18 (by decide) rfl kw_378 (fun _ h9 => h9) dX11_takeTurns_36 (fun v9 h9 => ?_)
      obtain ⟨v36, rfl, t_v36⟩ := h9
      refine lv_iconst (v := 0) hx hb dX11_takeTurns_39 (by decide) ?_
      refine lv_iconst (v := 5) hx hb dX11_takeTurns_40 (by decide) ?_
      refine t_copy hx hb (by rw [hml]; exact hl.1.symm) hown (hts _ kw_1172) (hts _ kw_734) (hts _ kw_733) (hts _ kw_23) hkb hH hS t_v31 (hO.no t_v31 (by decide)) t_v36 (hO.no t_v36 (by decide)) (by decide) (by decide) (by decide) (by decide) (by decide) (Nat.le_of_ble_eq_true rfl) (Nat.le_of_ble_eq_true rfl) dX11_takeTurns_41 (fun H locs hH hS => ?_)
      exact te_v hx hb hr hlocks hH hS rfl dX11_takeTurns_44
    · skip
      have tc16 := f_ne (k := 0) (by decide) c16
      refine lv_iload_n hx hb dX11_takeTurns_19 rfl (lv_at hl 1 rfl) ?_
      refine lv_iconst (v := 5) hx hb dX11_takeTurns_20 (by decide) ?_
      refine lv_icmp_lt (tgt := 45) hx hb dX11_takeTurns_21 (by decide) (fun c21 => ?_) (fun c21 => ?_)
      · skip
        have tc21 := f_lt (k := 5) (by decide) c21
        refine lv_iconst (v := 0) hx hb dX11_takeTurns_45 (by decide) ?_
        have J48 : ∀ (n : Nat) (p48_5 : Int32) (H : Heap) (locs : List Loc) (ls : Array Slot), (5 - p48_5.toInt).toNat = n → (0 ≤ p48_5.toInt) → (p48_5.toInt ≤ 5) → HT D cs A T O X H → va_S A s.heap H locs → lv_has ls 8 [(5, .int p48_5), (0, .ref a0), (1, .int x1), (2, .int x2), (3, .int x3), (4, .int x4)] → W p l e { frames := 6, cells := 0, slots := 0, locals := 152 } s m [.ref a0, .int x1, .int x2, .int x3, .int x4].toArray below meth c H locs 0 0 (MQ below (Tv D cs (fun u => u = (T, O, X)) A) [.ref a0, .int x1, .int x2, .int x3, .int x4].toArray s 0 0 A) (F0 m 48 ls []) := by
          intro n
          induction n using Nat.strongRecOn with
          | _ n ih48 =>
            intro p48_5 H locs ls hm48 l_p48_5 u_p48_5 hH hS hl
            refine lv_iload hx hb dX11_takeTurns_48 (lv_at hl 0 rfl) ?_
            refine lv_aload_n hx hb dX11_takeTurns_50 rfl (lv_at hl 1 rfl) ?_
            refine t_get (ci := 11) (lst := ft11 w ch) (C := RX11) (F := TX11) (N := 20) hx hb hts uX11 hown hkb hH t_a0 (hO.no t_a0 (by decide)) (fun _ h9 => h9) rfl rfl 3 (by decide) rfl kw_363 (fun _ h9 => h9) dX11_takeTurns_51 (fun v9 h9 => ?_)
            have h9 : v9 = .ref w := h9
            subst h9
            refine t_get (ci := 9) (lst := ft9w hw gw) (C := RX9) (F := TX9) (N := 14) hx hb hts uX9 hown hkb hH t_w.1 (hO.no t_w.1 (by decide)) (fun fs => (ob9w t_w fs).mp) rfl rfl 1 (by decide) rfl kw_112 (fun _ h9 => h9) dX11_takeTurns_54 (fun v9 h9 => ?_)
            have h9 : v9 = .int (nI gw) := h9
            subst h9
            have e_gw : (nI gw).toInt = gw := nI_toInt (by have := t_w.2.2; omega)
            have b_gw := t_w.2.2
            refine lv_icmp_ge (tgt := 167) hx hb dX11_takeTurns_57 (by decide) (fun c57 => ?_) (fun c57 => ?_)
            · skip
              have fuc57 := full_i p48_5
              have fvc57 := full_i (nI gw)
              have tc57 := g_le c57
              exact te_v hx hb hr hlocks hH hS rfl dX11_takeTurns_167
            · skip
              have fuc57 := full_i p48_5
              have fvc57 := full_i (nI gw)
              have tc57 := g_nle c57
              refine lv_iload_n hx hb dX11_takeTurns_60 rfl (lv_at hl 3 rfl) ?_
              refine lv_iload hx hb dX11_takeTurns_61 (lv_at hl 0 rfl) ?_
              refine lv_ishr hx hb dX11_takeTurns_63 ?_
              refine lv_topi (fun v63 ev63 => ?_)
              refine lv_iconst (v := 1) hx hb dX11_takeTurns_64 (by decide) ?_
              refine lv_iand hx hb dX11_takeTurns_65 ?_
              refine lv_topi (fun v65 ev65 => ?_)
              have tv65 : 0 ≤ v65.toInt ∧ v65.toInt ≤ 1 := by rw [ev65]; exact and_r (by decide)
              have J161 : ∀  (H : Heap) (locs : List Loc) (ls : Array Slot), HT D cs A T O X H → va_S A s.heap H locs → lv_has ls 8 [(5, .int p48_5), (0, .ref a0), (1, .int x1), (2, .int x2), (3, .int x3), (4, .int x4)] → W p l e { frames := 6, cells := 0, slots := 0, locals := 152 } s m [.ref a0, .int x1, .int x2, .int x3, .int x4].toArray below meth c H locs 0 0 (MQ below (Tv D cs (fun u => u = (T, O, X)) A) [.ref a0, .int x1, .int x2, .int x3, .int x4].toArray s 0 0 A) (F0 m 161 ls []) := by
                intro  H locs ls  hH hS hl
                obtain ⟨v161, ev161⟩ : ∃ y : Int32, y = p48_5 + 1 := ⟨_, rfl⟩
                have tv161 : v161.toInt = p48_5.toInt + (1) := by rw [ev161]; exact add_i rfl (by decide) (by omega) (by omega)
                refine lv_iinc (v := v161) (lv' := [(5, .int v161), (0, .ref a0), (1, .int x1), (2, .int x2), (3, .int x3), (4, .int x4)]) hx hb dX11_takeTurns_161 hl (k := 0) rfl (by rw [ev161]; rfl) (by decide) rfl (fun ls hl => ?_)
                refine lv_goto (tgt := 48) hx hb dX11_takeTurns_164 (by decide) ?_
                exact ih48 _ (by omega) v161 _ _ _ rfl (by omega) (by omega) hH hS (lv_sub hl [0, 1, 2, 3, 4, 5] rfl)
              refine lv_if_eq (tgt := 161) hx hb dX11_takeTurns_66 (by decide) (fun c66 => ?_) (fun c66 => ?_)
              · skip
                have tc66 := f_eq (k := 0) (by decide) c66
                exact J161  _ _ _  hH hS (lv_sub hl [0, 1, 2, 3, 4, 5] rfl)
              · skip
                have tc66 := f_ne (k := 0) (by decide) c66
                refine lv_aload_n hx hb dX11_takeTurns_69 rfl (lv_at hl 1 rfl) ?_
                refine t_get (ci := 11) (lst := ft11 w ch) (C := RX11) (F := TX11) (N := 20) hx hb hts uX11 hown hkb hH t_a0 (hO.no t_a0 (by decide)) (fun _ h9 => h9) rfl rfl 17 (by decide) rfl kw_377 (fun _ h9 => h9) dX11_takeTurns_70 (fun v9 h9 => ?_)
                obtain ⟨v70, rfl, t_v70⟩ := h9
                refine lv_iload_n hx hb dX11_takeTurns_73 rfl (lv_at hl 2 rfl) ?_
                refine lv_iload hx hb dX11_takeTurns_74 (lv_at hl 0 rfl) ?_
                refine t_ist hx hb hkb hH hS t_v70 (hO.no t_v70 (by decide)) (by omega) (by omega) (cp_0 _) dX11_takeTurns_76 (fun H locs hH hS => ?_)
                refine lv_aload_n hx hb dX11_takeTurns_77 rfl (lv_at hl 1 rfl) ?_
                refine t_get (ci := 11) (lst := ft11 w ch) (C := RX11) (F := TX11) (N := 20) hx hb hts uX11 hown hkb hH t_a0 (hO.no t_a0 (by decide)) (fun _ h9 => h9) rfl rfl 14 (by decide) rfl kw_374 (fun _ h9 => h9) dX11_takeTurns_78 (fun v9 h9 => ?_)
                obtain ⟨v78, rfl, t_v78⟩ := h9
                refine lv_aload_n hx hb dX11_takeTurns_81 rfl (lv_at hl 1 rfl) ?_
                refine lv_iload hx hb dX11_takeTurns_82 (lv_at hl 0 rfl) ?_
                refine tk_r hH hS hA (tr_V (n := 1) (As := [.int p48_5]) hx hb hml hown hts hkb hH hOX hks hE hS hA (s_FW_rowsOf l D cs kf T O X a0 w hw gw ch gq p48_5 t_a0 t_w t_ch (by omega) (by omega) (hO.sub (by decide))) kw_830 kw_832 ks_21 kw_1 kw_833 (by decide +kernel) ⟨Nat.le_of_ble_eq_true rfl, Nat.le_of_ble_eq_true rfl⟩ (HT.recv (ci := 11) hkb hH t_a0 (hO.no t_a0 (by decide)) rfl) rfl rfl hl.1 (Nat.le_of_ble_eq_true rfl) dX11_takeTurns_84 ⟨Nat.le_of_ble_eq_true rfl, Nat.le_of_ble_eq_true rfl⟩) (fun v84 u H locs hz9 hH hS => ?_)
                obtain ⟨hu9, t_v84⟩ := hz9
                have hu9 : u = (T, O, X) := hu9
                subst hu9
                have hH : HT D cs A T O X H := hH
                refine W.widen (k := 0) (n := 0) (Nat.le_of_ble_eq_true rfl) (Nat.le_of_ble_eq_true rfl) ?_
                refine lv_iload_n hx hb dX11_takeTurns_87 rfl (lv_at hl 4 rfl) ?_
                refine tk_i hH hS hA (tr_V (n := 2) (As := [.ref v84, .int x3]) hx hb hml hown hts hkb hH hOX hks hE hS hA (s_Ways_find l D cs kf T O X v78 v84 x3 t_v78 t_v84 (hO.sub (by decide))) kw_912 kw_913 kw_914 kw_9 kw_915 (by decide +kernel) ⟨Nat.le_of_ble_eq_true rfl, Nat.le_of_ble_eq_true rfl⟩ (HT.recv (ci := 10) hkb hH t_v78 (hO.no t_v78 (by decide)) rfl) rfl rfl hl.1 (Nat.le_of_ble_eq_true rfl) dX11_takeTurns_88 ⟨Nat.le_of_ble_eq_true rfl, Nat.le_of_ble_eq_true rfl⟩) (fun v88 u H locs hz9 hH hS => ?_)
                obtain ⟨rfl, l_v88, u_v88⟩ := hz9
                have hH : HT D cs A T O X H := hH
                refine W.widen (k := 0) (n := 0) (Nat.le_of_ble_eq_true rfl) (Nat.le_of_ble_eq_true rfl) ?_
                have J99 : ∀ (k99_0 : Int32) (H : Heap) (locs : List Loc) (ls : Array Slot), (0 ≤ k99_0.toInt) → (k99_0.toInt ≤ 1) → HT D cs A T O X H → va_S A s.heap H locs → lv_has ls 8 [(5, .int p48_5), (0, .ref a0), (1, .int x1), (2, .int x2), (3, .int x3), (4, .int x4)] → W p l e { frames := 6, cells := 0, slots := 0, locals := 152 } s m [.ref a0, .int x1, .int x2, .int x3, .int x4].toArray below meth c H locs 0 0 (MQ below (Tv D cs (fun u => u = (T, O, X)) A) [.ref a0, .int x1, .int x2, .int x3, .int x4].toArray s 0 0 A) (F0 m 99 ls [.int k99_0]) := by
                  intro k99_0 H locs ls l_k99_0 u_k99_0 hH hS hl
                  refine lv_istore (lv' := [(6, .int k99_0), (5, .int p48_5), (0, .ref a0), (1, .int x1), (2, .int x2), (3, .int x3), (4, .int x4)]) hx hb dX11_takeTurns_99 hl (by decide) rfl (fun ls hl => ?_)
                  refine lv_iload hx hb dX11_takeTurns_101 (lv_at hl 0 rfl) ?_
                  have J129 : ∀ (k129_0 : Int32) (H : Heap) (locs : List Loc) (ls : Array Slot), HT D cs A T O X H → va_S A s.heap H locs → lv_has ls 8 [(6, .int k99_0), (5, .int p48_5), (0, .ref a0), (1, .int x1), (2, .int x2), (3, .int x3), (4, .int x4)] → W p l e { frames := 6, cells := 0, slots := 0, locals := 152 } s m [.ref a0, .int x1, .int x2, .int x3, .int x4].toArray below meth c H locs 0 0 (MQ below (Tv D cs (fun u => u = (T, O, X)) A) [.ref a0, .int x1, .int x2, .int x3, .int x4].toArray s 0 0 A) (F0 m 129 ls [.int k129_0]) := by
                    intro k129_0 H locs ls  hH hS hl
                    refine lv_istore (lv' := [(7, .int k129_0), (6, .int k99_0), (5, .int p48_5), (0, .ref a0), (1, .int x1), (2, .int x2), (3, .int x3), (4, .int x4)]) hx hb dX11_takeTurns_129 hl (by decide) rfl (fun ls hl => ?_)
                    refine lv_aload_n hx hb dX11_takeTurns_131 rfl (lv_at hl 3 rfl) ?_
                    refine lv_iload_n hx hb dX11_takeTurns_132 rfl (lv_at hl 4 rfl) ?_
                    refine lv_iconst (v := 1) hx hb dX11_takeTurns_133 (by decide) ?_
                    refine lv_iadd hx hb dX11_takeTurns_134 ?_
                    refine lv_topi (fun v134 ev134 => ?_)
                    have tv134 : v134.toInt = x1.toInt + (1) := by rw [ev134]; exact add_i rfl (by decide : (1 : Int32).toInt = 1) (by omega) (by omega)
                    refine lv_iload_n hx hb dX11_takeTurns_135 rfl (lv_at hl 5 rfl) ?_
                    refine lv_iconst (v := 1) hx hb dX11_takeTurns_136 (by decide) ?_
                    refine lv_iload hx hb dX11_takeTurns_137 (lv_at hl 2 rfl) ?_
                    refine lv_ishl hx hb dX11_takeTurns_139 ?_
                    refine lv_topi (fun v139 ev139 => ?_)
                    have tv139 : 1 ≤ v139.toInt ∧ v139.toInt ≤ 16 := by rw [ev139]; exact shl_b 4 (by decide) (by omega) (by omega)
                    refine lv_iconst (v := (-1)) hx hb dX11_takeTurns_140 (by decide) ?_
                    refine lv_ixor hx hb dX11_takeTurns_141 ?_
                    refine lv_topi (fun v141 ev141 => ?_)
                    refine lv_iand hx hb dX11_takeTurns_142 ?_
                    refine lv_topi (fun v142 ev142 => ?_)
                    refine lv_iload hx hb dX11_takeTurns_143 (lv_at hl 0 rfl) ?_
                    refine lv_iload hx hb dX11_takeTurns_145 (lv_at hl 7 rfl) ?_
                    refine lv_iload hx hb dX11_takeTurns_147 (lv_at hl 1 rfl) ?_
                    have J157 : ∀ (k157_0 : Int32) (H : Heap) (locs : List Loc) (ls : Array Slot), (0 ≤ k157_0.toInt) → (k157_0.toInt ≤ 1) → HT D cs A T O X H → va_S A s.heap H locs → lv_has ls 8 [(5, .int p48_5), (0, .ref a0), (1, .int x1), (2, .int x2), (3, .int x3), (4, .int x4)] → W p l e { frames := 6, cells := 0, slots := 0, locals := 152 } s m [.ref a0, .int x1, .int x2, .int x3, .int x4].toArray below meth c H locs 0 0 (MQ below (Tv D cs (fun u => u = (T, O, X)) A) [.ref a0, .int x1, .int x2, .int x3, .int x4].toArray s 0 0 A) (F0 m 157 ls [.int k157_0, .int x4, .int k129_0, .int v142, .int v134, .ref a0]) := by
                      intro k157_0 H locs ls l_k157_0 u_k157_0 hH hS hl
                      refine lv_iadd hx hb dX11_takeTurns_157 ?_
                      refine lv_topi (fun v157 ev157 => ?_)
                      refine tk_v hH hS hA (tr_V (n := 4) (As := [.int v134, .int v142, .int k129_0, .int v157]) hx hb hml hown hts hkb hH hOX hks hE hS hA (s_FW_takeTurns5 l D cs kf T O X a0 w hw gw ch gq v134 v142 k129_0 v157 t_a0 t_w t_ch (by omega) (by omega) (hO.sub (by decide))) kw_1168 kw_1170 ks_42 kw_1 kw_1171 (by decide +kernel) ⟨Nat.le_of_ble_eq_true rfl, Nat.le_of_ble_eq_true rfl⟩ (HT.recv (ci := 11) hkb hH t_a0 (hO.no t_a0 (by decide)) rfl) rfl rfl hl.1 (Nat.le_of_ble_eq_true rfl) dX11_takeTurns_158 ⟨Nat.le_of_ble_eq_true rfl, Nat.le_of_ble_eq_true rfl⟩) (fun u H locs hz9 hH hS => ?_)
                      have hz9 : u = (T, O, X) := hz9
                      subst hz9
                      have hH : HT D cs A T O X H := hH
                      refine W.widen (k := 0) (n := 0) (Nat.le_of_ble_eq_true rfl) (Nat.le_of_ble_eq_true rfl) ?_
                      exact J161  _ _ _  hH hS (lv_sub hl [0, 1, 2, 3, 4, 5] rfl)
                    refine lv_if_eq (tgt := 156) hx hb dX11_takeTurns_149 (by decide) (fun c149 => ?_) (fun c149 => ?_)
                    · skip
                      have tc149 := f_eq (k := 0) (by decide) c149
                      refine lv_iconst (v := 0) hx hb dX11_takeTurns_156 (by decide) ?_
                      exact J157 0 _ _ _ (by decide) (by decide) hH hS (lv_sub hl [2, 3, 4, 5, 6, 7] rfl)
                    · skip
                      have tc149 := f_ne (k := 0) (by decide) c149
                      refine lv_iconst (v := 1) hx hb dX11_takeTurns_152 (by decide) ?_
                      refine lv_goto (tgt := 157) hx hb dX11_takeTurns_153 (by decide) ?_
                      exact J157 1 _ _ _ (by decide) (by decide) hH hS (lv_sub hl [2, 3, 4, 5, 6, 7] rfl)
                  refine lv_if_eq (tgt := 128) hx hb dX11_takeTurns_103 (by decide) (fun c103 => ?_) (fun c103 => ?_)
                  · skip
                    have tc103 := f_eq (k := 0) (by decide) c103
                    refine lv_iload_n hx hb dX11_takeTurns_128 rfl (lv_at hl 5 rfl) ?_
                    exact J129 x3 _ _ _  hH hS (lv_sub hl [0, 1, 2, 3, 4, 5, 6] rfl)
                  · skip
                    have tc103 := f_ne (k := 0) (by decide) c103
                    refine lv_iload_n hx hb dX11_takeTurns_106 rfl (lv_at hl 5 rfl) ?_
                    refine lv_aload_n hx hb dX11_takeTurns_107 rfl (lv_at hl 2 rfl) ?_
                    refine t_get (ci := 11) (lst := ft11 w ch) (C := RX11) (F := TX11) (N := 20) hx hb hts uX11 hown hkb hH t_a0 (hO.no t_a0 (by decide)) (fun _ h9 => h9) rfl rfl 14 (by decide) rfl kw_374 (fun _ h9 => h9) dX11_takeTurns_108 (fun v9 h9 => ?_)
                    obtain ⟨v108, rfl, t_v108⟩ := h9
                    refine tk_i hH hS hA (tr_V (n := 0) (As := []) hx hb hml hown hts hkb hH hOX hks hE hS hA (s_Ways_pathSet l D cs kf T O X v108 t_v108 (hO.sub (by decide))) kw_926 kw_927 kw_928 kw_9 kw_929 (by decide +kernel) ⟨Nat.le_of_ble_eq_true rfl, Nat.le_of_ble_eq_true rfl⟩ (HT.recv (ci := 10) hkb hH t_v108 (hO.no t_v108 (by decide)) rfl) rfl rfl hl.1 (Nat.le_of_ble_eq_true rfl) dX11_takeTurns_111 ⟨Nat.le_of_ble_eq_true rfl, Nat.le_of_ble_eq_true rfl⟩) (fun v111 u H locs hz9 hH hS => ?_)
                    have hz9 : u = (T, O, X) := hz9
                    subst hz9
                    have hH : HT D cs A T O X H := hH
                    refine W.widen (k := 0) (n := 0) (Nat.le_of_ble_eq_true rfl) (Nat.le_of_ble_eq_true rfl) ?_
                    refine lv_aload_n hx hb dX11_takeTurns_114 rfl (lv_at hl 2 rfl) ?_
                    refine t_get (ci := 11) (lst := ft11 w ch) (C := RX11) (F := TX11) (N := 20) hx hb hts uX11 hown hkb hH t_a0 (hO.no t_a0 (by decide)) (fun _ h9 => h9) rfl rfl 3 (by decide) rfl kw_363 (fun _ h9 => h9) dX11_takeTurns_115 (fun v9 h9 => ?_)
                    have h9 : v9 = .ref w := h9
                    subst h9
                    refine tk_i hH hS hA (tr_V (n := 0) (As := []) hx hb hml hown hts hkb hH hOX hks hE hS hA (s_Wall_middles l D cs kf T O X w hw gw t_w (hO.sub (by decide))) kw_892 kw_683 kw_684 kw_5 kw_685 (by decide +kernel) ⟨Nat.le_of_ble_eq_true rfl, Nat.le_of_ble_eq_true rfl⟩ (HT.recv (ci := 9) hkb hH t_w.1 (hO.no t_w.1 (by decide)) rfl) rfl rfl hl.1 (Nat.le_of_ble_eq_true rfl) dX11_takeTurns_118 ⟨Nat.le_of_ble_eq_true rfl, Nat.le_of_ble_eq_true rfl⟩) (fun v118 u H locs hz9 hH hS => ?_)
                    obtain ⟨rfl, l_v118, u_v118⟩ := hz9
                    have hH : HT D cs A T O X H := hH
                    refine W.widen (k := 0) (n := 0) (Nat.le_of_ble_eq_true rfl) (Nat.le_of_ble_eq_true rfl) ?_
                    refine lv_iand hx hb dX11_takeTurns_121 ?_
                    refine lv_topi (fun v121 ev121 => ?_)
                    have tv121 : 0 ≤ v121.toInt ∧ v121.toInt ≤ v118.toInt := by rw [ev121]; exact and_r (by omega)
                    refine lv_iconst (v := (-1)) hx hb dX11_takeTurns_122 (by decide) ?_
                    refine lv_ixor hx hb dX11_takeTurns_123 ?_
                    refine lv_topi (fun v123 ev123 => ?_)
                    refine lv_iand hx hb dX11_takeTurns_124 ?_
                    refine lv_topi (fun v124 ev124 => ?_)
                    refine lv_goto (tgt := 129) hx hb dX11_takeTurns_125 (by decide) ?_
                    exact J129 v124 _ _ _  hH hS (lv_sub hl [0, 1, 2, 3, 4, 5, 6] rfl)
                refine lv_if_le (tgt := 98) hx hb dX11_takeTurns_91 (by decide) (fun c91 => ?_) (fun c91 => ?_)
                · skip
                  have tc91 := f_le (k := 0) (by decide) c91
                  refine lv_iconst (v := 0) hx hb dX11_takeTurns_98 (by decide) ?_
                  exact J99 0 _ _ _ (by decide) (by decide) hH hS (lv_sub hl [0, 1, 2, 3, 4, 5] rfl)
                · skip
                  have tc91 := f_nle (k := 0) (by decide) c91
                  refine lv_iconst (v := 1) hx hb dX11_takeTurns_94 (by decide) ?_
                  refine lv_goto (tgt := 99) hx hb dX11_takeTurns_95 (by decide) ?_
                  exact J99 1 _ _ _ (by decide) (by decide) hH hS (lv_sub hl [0, 1, 2, 3, 4, 5] rfl)
        refine lv_istore (lv' := [(5, .int 0), (0, .ref a0), (1, .int x1), (2, .int x2), (3, .int x3), (4, .int x4)]) hx hb dX11_takeTurns_46 hl (by decide) rfl (fun ls hl => ?_)
        exact J48 _ 0 _ _ _ rfl (by decide) (by decide) hH hS (lv_sub hl [0, 1, 2, 3, 4, 5] rfl)
      · skip
        have tc21 := f_nlt (k := 5) (by decide) c21
        exfalso; omega
  · skip
    have fuc11 := full_i v6
    have fvc11 := full_i v8
    have tc11 := g_nlt c11
    exact te_v hx hb hr hlocks hH hS rfl dX11_takeTurns_14
set_option maxHeartbeats 4000000 in
set_option maxRecDepth 100000 in
theorem s_FW_takeTurns3 (l : Launch) (D : va_G) (cs : CS) (kf : KF) (T : TF) (O : List Nat) (X : va_W) (a0 w hw gw ch gq : Nat) (x1 : Int32) (x2 : Int32) (x3 : Int32) (x4 : Int32) (t_a0 : T a0 = some (21, w, ch)) (t_w : isW T w hw gw) (t_ch : T ch = some (10, gq, 0)) (l_x1 : 3 ≤ x1.toInt) (u_x1 : x1.toInt ≤ 3) (hO : okO T O [1, 7, 12, 15, 16, 19, 20, 21]) : TK l D cs kf yX11_takeTurns cX11_takeTurns 8 none { frames := 7, cells := 0, slots := 0, locals := 179 } [.ref a0, .int x1, .int x2, .int x3, .int x4] T O X (Tv D cs (fun u => u = (T, O, X))) := by
  refine tk_of (by decide) (Nat.le_of_ble_eq_true rfl) (fun p e s m below meth c ls A H locs hx hb hr hml hown hts hlocks hnm hkb hH hS hA hOX hks hE hl => ?_)
  have hown : s.vm.findClass RX11 = some m.cls := hown
  have hl : lv_has ls 8 [(0, .ref a0), (1, .int x1), (2, .int x2), (3, .int x3), (4, .int x4)] := hl
  have b1_w := t_w.2.1
  have b2_w := t_w.2.2
  refine lv_iload hx hb dX11_takeTurns_0 (lv_at hl 4 rfl) ?_
  refine lv_iload_n hx hb dX11_takeTurns_2 rfl (lv_at hl 2 rfl) ?_
  refine tk_i hH hS hA (tr_S (n := 1) (As := [.int x2]) hx hb hml hown hts hkb hH hOX hks hE hS hA (s_bitCount l D cs kf T O X x2  (hO.sub (by decide))) kw_893 kw_692 kw_20 kw_693 (by decide +kernel) ⟨Nat.le_of_ble_eq_true rfl, Nat.le_of_ble_eq_true rfl⟩ rfl rfl hl.1 (Nat.le_of_ble_eq_true rfl) dX11_takeTurns_3 ⟨Nat.le_of_ble_eq_true rfl, Nat.le_of_ble_eq_true rfl⟩) (fun v3 u H locs hz9 hH hS => ?_)
  obtain ⟨rfl, l_v3, u_v3⟩ := hz9
  have hH : HT D cs A T O X H := hH
  refine W.widen (k := 0) (n := 0) (Nat.le_of_ble_eq_true rfl) (Nat.le_of_ble_eq_true rfl) ?_
  refine lv_iadd hx hb dX11_takeTurns_6 ?_
  refine lv_topi (fun v6 ev6 => ?_)
  refine lv_aload_n hx hb dX11_takeTurns_7 rfl (lv_at hl 0 rfl) ?_
  refine t_get (ci := 11) (lst := ft11 w ch) (C := RX11) (F := TX11) (N := 20) hx hb hts uX11 hown hkb hH t_a0 (hO.no t_a0 (by decide)) (fun _ h9 => h9) rfl rfl 19 (by decide) rfl kw_379 (fun _ h9 => h9) dX11_takeTurns_8 (fun v9 h9 => ?_)
  obtain ⟨v8, rfl⟩ := h9
  refine lv_icmp_gt (tgt := 15) hx hb dX11_takeTurns_11 (by decide) (fun c11 => ?_) (fun c11 => ?_)
  · skip
    have fuc11 := full_i v6
    have fvc11 := full_i v8
    have tc11 := g_lt c11
    refine lv_iload_n hx hb dX11_takeTurns_15 rfl (lv_at hl 2 rfl) ?_
    refine lv_if_eq (tgt := 24) hx hb dX11_takeTurns_16 (by decide) (fun c16 => ?_) (fun c16 => ?_)
    · skip
      have tc16 := f_eq (k := 0) (by decide) c16
      refine lv_aload_n hx hb dX11_takeTurns_24 rfl (lv_at hl 0 rfl) ?_
      refine lv_iload hx hb dX11_takeTurns_25 (lv_at hl 4 rfl) ?_
      refine t_put (ci := 11) (lst := ft11 w ch) (v := .int x4) (ty := tyX11 19) (C := RX11) (F := TX11) (N := 20) hx hb hts uX11 tyX11 tyX11_ok nmX11 hown hkb hH hS t_a0 (hO.no t_a0 (by decide)) (fun _ => Iff.rfl) rfl rfl 19 (by decide) rfl (⟨_, rfl⟩) kw_379 (fun _ h9 => h9) rfl (tyX11_ok 19 (by decide)) rfl rfl dX11_takeTurns_27 (fun H locs hH hS => ?_)
      refine lv_aload_n hx hb dX11_takeTurns_30 rfl (lv_at hl 0 rfl) ?_
      refine t_get (ci := 11) (lst := ft11 w ch) (C := RX11) (F := TX11) (N := 20) hx hb hts uX11 hown hkb hH t_a0 (hO.no t_a0 (by decide)) (fun _ h9 => h9) rfl rfl 17 (by decide) rfl kw_377 (fun _ h9 => h9) dX11_takeTurns_31 (fun v9 h9 => ?_)
      obtain ⟨v31, rfl, t_v31⟩ := h9
      refine lv_iconst (v := 0) hx hb dX11_takeTurns_34 (by decide) ?_
      refine lv_aload_n hx hb dX11_takeTurns_35 rfl (lv_at hl 0 rfl) ?_
      refine t_get (ci := 11) (lst := ft11 w ch) (C := RX11) (F := TX11) (N := 20) hx hb hts uX11 hown hkb hH t_a0 (hO.no t_a0 (by decide)) (fun _ h9 => h9) rfl rfl 18 (by decide) rfl kw_378 (fun _ h9 => h9) dX11_takeTurns_36 (fun v9 h9 => ?_)
      obtain ⟨v36, rfl, t_v36⟩ := h9
      refine lv_iconst (v := 0) hx hb dX11_takeTurns_39 (by decide) ?_
      refine lv_iconst (v := 5) hx hb dX11_takeTurns_40 (by decide) ?_
      refine t_copy hx hb (by rw [hml]; exact hl.1.symm) hown (hts _ kw_1172) (hts _ kw_734) (hts _ kw_733) (hts _ kw_23) hkb hH hS t_v31 (hO.no t_v31 (by decide)) t_v36 (hO.no t_v36 (by decide)) (by decide) (by decide) (by decide) (by decide) (by decide) (Nat.le_of_ble_eq_true rfl) (Nat.le_of_ble_eq_true rfl) dX11_takeTurns_41 (fun H locs hH hS => ?_)
      exact te_v hx hb hr hlocks hH hS rfl dX11_takeTurns_44
    · skip
      have tc16 := f_ne (k := 0) (by decide) c16
      refine lv_iload_n hx hb dX11_takeTurns_19 rfl (lv_at hl 1 rfl) ?_
      refine lv_iconst (v := 5) hx hb dX11_takeTurns_20 (by decide) ?_
      refine lv_icmp_lt (tgt := 45) hx hb dX11_takeTurns_21 (by decide) (fun c21 => ?_) (fun c21 => ?_)
      · skip
        have tc21 := f_lt (k := 5) (by decide) c21
        refine lv_iconst (v := 0) hx hb dX11_takeTurns_45 (by decide) ?_
        have J48 : ∀ (n : Nat) (p48_5 : Int32) (H : Heap) (locs : List Loc) (ls : Array Slot), (5 - p48_5.toInt).toNat = n → (0 ≤ p48_5.toInt) → (p48_5.toInt ≤ 5) → HT D cs A T O X H → va_S A s.heap H locs → lv_has ls 8 [(5, .int p48_5), (0, .ref a0), (1, .int x1), (2, .int x2), (3, .int x3), (4, .int x4)] → W p l e { frames := 7, cells := 0, slots := 0, locals := 179 } s m [.ref a0, .int x1, .int x2, .int x3, .int x4].toArray below meth c H locs 0 0 (MQ below (Tv D cs (fun u => u = (T, O, X)) A) [.ref a0, .int x1, .int x2, .int x3, .int x4].toArray s 0 0 A) (F0 m 48 ls []) := by
          intro n
          induction n using Nat.strongRecOn with
          | _ n ih48 =>
            intro p48_5 H locs ls hm48 l_p48_5 u_p48_5 hH hS hl
            refine lv_iload hx hb dX11_takeTurns_48 (lv_at hl 0 rfl) ?_
            refine lv_aload_n hx hb dX11_takeTurns_50 rfl (lv_at hl 1 rfl) ?_
            refine t_get (ci := 11) (lst := ft11 w ch) (C := RX11) (F := TX11) (N := 20) hx hb hts uX11 hown hkb hH t_a0 (hO.no t_a0 (by decide)) (fun _ h9 => h9) rfl rfl 3 (by decide) rfl kw_363 (fun _ h9 => h9) dX11_takeTurns_51 (fun v9 h9 => ?_)
            have h9 : v9 = .ref w := h9
            subst h9
            refine t_get (ci := 9) (lst := ft9w hw gw) (C := RX9) (F := TX9) (N := 14) hx hb hts uX9 hown hkb hH t_w.1 (hO.no t_w.1 (by decide)) (fun fs => (ob9w t_w fs).mp) rfl rfl 1 (by decide) rfl kw_112 (fun _ h9 => h9) dX11_takeTurns_54 (fun v9 h9 => ?_)
            have h9 : v9 = .int (nI gw) := h9
            subst h9
            have e_gw : (nI gw).toInt = gw := nI_toInt (by have := t_w.2.2; omega)
            have b_gw := t_w.2.2
            refine lv_icmp_ge (tgt := 167) hx hb dX11_takeTurns_57 (by decide) (fun c57 => ?_) (fun c57 => ?_)
            · skip
              have fuc57 := full_i p48_5
              have fvc57 := full_i (nI gw)
              have tc57 := g_le c57
              exact te_v hx hb hr hlocks hH hS rfl dX11_takeTurns_167
            · skip
              have fuc57 := full_i p48_5
              have fvc57 := full_i (nI gw)
              have tc57 := g_nle c57
              refine lv_iload_n hx hb dX11_takeTurns_60 rfl (lv_at hl 3 rfl) ?_
              refine lv_iload hx hb dX11_takeTurns_61 (lv_at hl 0 rfl) ?_
              refine lv_ishr hx hb dX11_takeTurns_63 ?_
              refine lv_topi (fun v63 ev63 => ?_)
              refine lv_iconst (v := 1) hx hb dX11_takeTurns_64 (by decide) ?_
              refine lv_iand hx hb dX11_takeTurns_65 ?_
              refine lv_topi (fun v65 ev65 => ?_)
              have tv65 : 0 ≤ v65.toInt ∧ v65.toInt ≤ 1 := by rw [ev65]; exact and_r (by decide)
              have J161 : ∀  (H : Heap) (locs : List Loc) (ls : Array Slot), HT D cs A T O X H → va_S A s.heap H locs → lv_has ls 8 [(5, .int p48_5), (0, .ref a0), (1, .int x1), (2, .int x2), (3, .int x3), (4, .int x4)] → W p l e { frames := 7, cells := 0, slots := 0, locals := 179 } s m [.ref a0, .int x1, .int x2, .int x3, .int x4].toArray below meth c H locs 0 0 (MQ below (Tv D cs (fun u => u = (T, O, X)) A) [.ref a0, .int x1, .int x2, .int x3, .int x4].toArray s 0 0 A) (F0 m 161 ls []) := by
                intro  H locs ls  hH hS hl
                obtain ⟨v161, ev161⟩ : ∃ y : Int32, y = p48_5 + 1 := ⟨_, rfl⟩
                have tv161 : v161.toInt = p48_5.toInt + (1) := by rw [ev161]; exact add_i rfl (by decide) (by omega) (by omega)
                refine lv_iinc (v := v161) (lv' := [(5, .int v161), (0, .ref a0), (1, .int x1), (2, .int x2), (3, .int x3), (4, .int x4)]) hx hb dX11_takeTurns_161 hl (k := 0) rfl (by rw [ev161]; rfl) (by decide) rfl (fun ls hl => ?_)
                refine lv_goto (tgt := 48) hx hb dX11_takeTurns_164 (by decide) ?_
                exact ih48 _ (by omega) v161 _ _ _ rfl (by omega) (by omega) hH hS (lv_sub hl [0, 1, 2, 3, 4, 5] rfl)
              refine lv_if_eq (tgt := 161) hx hb dX11_takeTurns_66 (by decide) (fun c66 => ?_) (fun c66 => ?_)
              · skip
                have tc66 := f_eq (k := 0) (by decide) c66
                exact J161  _ _ _  hH hS (lv_sub hl [0, 1, 2, 3, 4, 5] rfl)
              · skip
                have tc66 := f_ne (k := 0) (by decide) c66
                refine lv_aload_n hx hb dX11_takeTurns_69 rfl (lv_at hl 1 rfl) ?_
                refine t_get (ci := 11) (lst := ft11 w ch) (C := RX11) (F := TX11) (N := 20) hx hb hts uX11 hown hkb hH t_a0 (hO.no t_a0 (by decide)) (fun _ h9 => h9) rfl rfl 17 (by decide) rfl kw_377 (fun _ h9 => h9) dX11_takeTurns_70 (fun v9 h9 => ?_)
                obtain ⟨v70, rfl, t_v70⟩ := h9
                refine lv_iload_n hx hb dX11_takeTurns_73 rfl (lv_at hl 2 rfl) ?_
                refine lv_iload hx hb dX11_takeTurns_74 (lv_at hl 0 rfl) ?_
                refine t_ist hx hb hkb hH hS t_v70 (hO.no t_v70 (by decide)) (by omega) (by omega) (cp_0 _) dX11_takeTurns_76 (fun H locs hH hS => ?_)
                refine lv_aload_n hx hb dX11_takeTurns_77 rfl (lv_at hl 1 rfl) ?_
                refine t_get (ci := 11) (lst := ft11 w ch) (C := RX11) (F := TX11) (N := 20) hx hb hts uX11 hown hkb hH t_a0 (hO.no t_a0 (by decide)) (fun _ h9 => h9) rfl rfl 14 (by decide) rfl kw_374 (fun _ h9 => h9) dX11_takeTurns_78 (fun v9 h9 => ?_)
                obtain ⟨v78, rfl, t_v78⟩ := h9
                refine lv_aload_n hx hb dX11_takeTurns_81 rfl (lv_at hl 1 rfl) ?_
                refine lv_iload hx hb dX11_takeTurns_82 (lv_at hl 0 rfl) ?_
                refine tk_r hH hS hA (tr_V (n := 1) (As := [.int p48_5]) hx hb hml hown hts hkb hH hOX hks hE hS hA (s_FW_rowsOf l D cs kf T O X a0 w hw gw ch gq p48_5 t_a0 t_w t_ch (by omega) (by omega) (hO.sub (by decide))) kw_830 kw_832 ks_21 kw_1 kw_833 (by decide +kernel) ⟨Nat.le_of_ble_eq_true rfl, Nat.le_of_ble_eq_true rfl⟩ (HT.recv (ci := 11) hkb hH t_a0 (hO.no t_a0 (by decide)) rfl) rfl rfl hl.1 (Nat.le_of_ble_eq_true rfl) dX11_takeTurns_84 ⟨Nat.le_of_ble_eq_true rfl, Nat.le_of_ble_eq_true rfl⟩) (fun v84 u H locs hz9 hH hS => ?_)
                obtain ⟨hu9, t_v84⟩ := hz9
                have hu9 : u = (T, O, X) := hu9
                subst hu9
                have hH : HT D cs A T O X H := hH
                refine W.widen (k := 0) (n := 0) (Nat.le_of_ble_eq_true rfl) (Nat.le_of_ble_eq_true rfl) ?_
                refine lv_iload_n hx hb dX11_takeTurns_87 rfl (lv_at hl 4 rfl) ?_
                refine tk_i hH hS hA (tr_V (n := 2) (As := [.ref v84, .int x3]) hx hb hml hown hts hkb hH hOX hks hE hS hA (s_Ways_find l D cs kf T O X v78 v84 x3 t_v78 t_v84 (hO.sub (by decide))) kw_912 kw_913 kw_914 kw_9 kw_915 (by decide +kernel) ⟨Nat.le_of_ble_eq_true rfl, Nat.le_of_ble_eq_true rfl⟩ (HT.recv (ci := 10) hkb hH t_v78 (hO.no t_v78 (by decide)) rfl) rfl rfl hl.1 (Nat.le_of_ble_eq_true rfl) dX11_takeTurns_88 ⟨Nat.le_of_ble_eq_true rfl, Nat.le_of_ble_eq_true rfl⟩) (fun v88 u H locs hz9 hH hS => ?_)
                obtain ⟨rfl, l_v88, u_v88⟩ := hz9
                have hH : HT D cs A T O X H := hH
                refine W.widen (k := 0) (n := 0) (Nat.le_of_ble_eq_true rfl) (Nat.le_of_ble_eq_true rfl) ?_
                have J99 : ∀ (k99_0 : Int32) (H : Heap) (locs : List Loc) (ls : Array Slot), (0 ≤ k99_0.toInt) → (k99_0.toInt ≤ 1) → HT D cs A T O X H → va_S A s.heap H locs → lv_has ls 8 [(5, .int p48_5), (0, .ref a0), (1, .int x1), (2, .int x2), (3, .int x3), (4, .int x4)] → W p l e { frames := 7, cells := 0, slots := 0, locals := 179 } s m [.ref a0, .int x1, .int x2, .int x3, .int x4].toArray below meth c H locs 0 0 (MQ below (Tv D cs (fun u => u = (T, O, X)) A) [.ref a0, .int x1, .int x2, .int x3, .int x4].toArray s 0 0 A) (F0 m 99 ls [.int k99_0]) := by
                  intro k99_0 H locs ls l_k99_0 u_k99_0 hH hS hl
                  refine lv_istore (lv' := [(6, .int k99_0), (5, .int p48_5), (0, .ref a0), (1, .int x1), (2, .int x2), (3, .int x3), (4, .int x4)]) hx hb dX11_takeTurns_99 hl (by decide) rfl (fun ls hl => ?_)
                  refine lv_iload hx hb dX11_takeTurns_101 (lv_at hl 0 rfl) ?_
                  have J129 : ∀ (k129_0 : Int32) (H : Heap) (locs : List Loc) (ls : Array Slot), HT D cs A T O X H → va_S A s.heap H locs → lv_has ls 8 [(6, .int k99_0), (5, .int p48_5), (0, .ref a0), (1, .int x1), (2, .int x2), (3, .int x3), (4, .int x4)] → W p l e { frames := 7, cells := 0, slots := 0, locals := 179 } s m [.ref a0, .int x1, .int x2, .int x3, .int x4].toArray below meth c H locs 0 0 (MQ below (Tv D cs (fun u => u = (T, O, X)) A) [.ref a0, .int x1, .int x2, .int x3, .int x4].toArray s 0 0 A) (F0 m 129 ls [.int k129_0]) := by
                    intro k129_0 H locs ls  hH hS hl
                    refine lv_istore (lv' := [(7, .int k129_0), (6, .int k99_0), (5, .int p48_5), (0, .ref a0), (1, .int x1), (2, .int x2), (3, .int x3), (4, .int x4)]) hx hb dX11_takeTurns_129 hl (by decide) rfl (fun ls hl => ?_)
                    refine lv_aload_n hx hb dX11_takeTurns_131 rfl (lv_at hl 3 rfl) ?_
                    refine lv_iload_n hx hb dX11_takeTurns_132 rfl (lv_at hl 4 rfl) ?_
                    refine lv_iconst (v := 1) hx hb dX11_takeTurns_133 (by decide) ?_
                    refine lv_iadd hx hb dX11_takeTurns_134 ?_
                    refine lv_topi (fun v134 ev134 => ?_)
                    have tv134 : v134.toInt = x1.toInt + (1) := by rw [ev134]; exact add_i rfl (by decide : (1 : Int32).toInt = 1) (by omega) (by omega)
                    refine lv_iload_n hx hb dX11_takeTurns_135 rfl (lv_at hl 5 rfl) ?_
                    refine lv_iconst (v := 1) hx hb dX11_takeTurns_136 (by decide) ?_
                    refine lv_iload hx hb dX11_takeTurns_137 (lv_at hl 2 rfl) ?_
                    refine lv_ishl hx hb dX11_takeTurns_139 ?_
                    refine lv_topi (fun v139 ev139 => ?_)
                    have tv139 : 1 ≤ v139.toInt ∧ v139.toInt ≤ 16 := by rw [ev139]; exact shl_b 4 (by decide) (by omega) (by omega)
                    refine lv_iconst (v := (-1)) hx hb dX11_takeTurns_140 (by decide) ?_
                    refine lv_ixor hx hb dX11_takeTurns_141 ?_
                    refine lv_topi (fun v141 ev141 => ?_)
                    refine lv_iand hx hb dX11_takeTurns_142 ?_
                    refine lv_topi (fun v142 ev142 => ?_)
                    refine lv_iload hx hb dX11_takeTurns_143 (lv_at hl 0 rfl) ?_
                    refine lv_iload hx hb dX11_takeTurns_145 (lv_at hl 7 rfl) ?_
                    refine lv_iload hx hb dX11_takeTurns_147 (lv_at hl 1 rfl) ?_
                    have J157 : ∀ (k157_0 : Int32) (H : Heap) (locs : List Loc) (ls : Array Slot), (0 ≤ k157_0.toInt) → (k157_0.toInt ≤ 1) → HT D cs A T O X H → va_S A s.heap H locs → lv_has ls 8 [(5, .int p48_5), (0, .ref a0), (1, .int x1), (2, .int x2), (3, .int x3), (4, .int x4)] → W p l e { frames := 7, cells := 0, slots := 0, locals := 179 } s m [.ref a0, .int x1, .int x2, .int x3, .int x4].toArray below meth c H locs 0 0 (MQ below (Tv D cs (fun u => u = (T, O, X)) A) [.ref a0, .int x1, .int x2, .int x3, .int x4].toArray s 0 0 A) (F0 m 157 ls [.int k157_0, .int x4, .int k129_0, .int v142, .int v134, .ref a0]) := by
                      intro k157_0 H locs ls l_k157_0 u_k157_0 hH hS hl
                      refine lv_iadd hx hb dX11_takeTurns_157 ?_
                      refine lv_topi (fun v157 ev157 => ?_)
                      refine tk_v hH hS hA (tr_V (n := 4) (As := [.int v134, .int v142, .int k129_0, .int v157]) hx hb hml hown hts hkb hH hOX hks hE hS hA (s_FW_takeTurns4 l D cs kf T O X a0 w hw gw ch gq v134 v142 k129_0 v157 t_a0 t_w t_ch (by omega) (by omega) (hO.sub (by decide))) kw_1168 kw_1170 ks_42 kw_1 kw_1171 (by decide +kernel) ⟨Nat.le_of_ble_eq_true rfl, Nat.le_of_ble_eq_true rfl⟩ (HT.recv (ci := 11) hkb hH t_a0 (hO.no t_a0 (by decide)) rfl) rfl rfl hl.1 (Nat.le_of_ble_eq_true rfl) dX11_takeTurns_158 ⟨Nat.le_of_ble_eq_true rfl, Nat.le_of_ble_eq_true rfl⟩) (fun u H locs hz9 hH hS => ?_)
                      have hz9 : u = (T, O, X) := hz9
                      subst hz9
                      have hH : HT D cs A T O X H := hH
                      refine W.widen (k := 0) (n := 0) (Nat.le_of_ble_eq_true rfl) (Nat.le_of_ble_eq_true rfl) ?_
                      exact J161  _ _ _  hH hS (lv_sub hl [0, 1, 2, 3, 4, 5] rfl)
                    refine lv_if_eq (tgt := 156) hx hb dX11_takeTurns_149 (by decide) (fun c149 => ?_) (fun c149 => ?_)
                    · skip
                      have tc149 := f_eq (k := 0) (by decide) c149
                      refine lv_iconst (v := 0) hx hb dX11_takeTurns_156 (by decide) ?_
                      exact J157 0 _ _ _ (by decide) (by decide) hH hS (lv_sub hl [2, 3, 4, 5, 6, 7] rfl)
                    · skip
                      have tc149 := f_ne (k := 0) (by decide) c149
                      refine lv_iconst (v := 1) hx hb dX11_takeTurns_152 (by decide) ?_
                      refine lv_goto (tgt := 157) hx hb dX11_takeTurns_153 (by decide) ?_
                      exact J157 1 _ _ _ (by decide) (by decide) hH hS (lv_sub hl [2, 3, 4, 5, 6, 7] rfl)
                  refine lv_if_eq (tgt := 128) hx hb dX11_takeTurns_103 (by decide) (fun c103 => ?_) (fun c103 => ?_)
                  · skip
                    have tc103 := f_eq (k := 0) (by decide) c103
                    refine lv_iload_n hx hb dX11_takeTurns_128 rfl (lv_at hl 5 rfl) ?_
                    exact J129 x3 _ _ _  hH hS (lv_sub hl [0, 1, 2, 3, 4, 5, 6] rfl)
                  · skip
                    have tc103 := f_ne (k := 0) (by decide) c103
                    refine lv_iload_n hx hb dX11_takeTurns_106 rfl (lv_at hl 5 rfl) ?_
                    refine lv_aload_n hx hb dX11_takeTurns_107 rfl (lv_at hl 2 rfl) ?_
                    refine t_get (ci := 11) (lst := ft11 w ch) (C := RX11) (F := TX11) (N := 20) hx hb hts uX11 hown hkb hH t_a0 (hO.no t_a0 (by decide)) (fun _ h9 => h9) rfl rfl 14 (by decide) rfl kw_374 (fun _ h9 => h9) dX11_takeTurns_108 (fun v9 h9 => ?_)
                    obtain ⟨v108, rfl, t_v108⟩ := h9
                    refine tk_i hH hS hA (tr_V (n := 0) (As := []) hx hb hml hown hts hkb hH hOX hks hE hS hA (s_Ways_pathSet l D cs kf T O X v108 t_v108 (hO.sub (by decide))) kw_926 kw_927 kw_928 kw_9 kw_929 (by decide +kernel) ⟨Nat.le_of_ble_eq_true rfl, Nat.le_of_ble_eq_true rfl⟩ (HT.recv (ci := 10) hkb hH t_v108 (hO.no t_v108 (by decide)) rfl) rfl rfl hl.1 (Nat.le_of_ble_eq_true rfl) dX11_takeTurns_111 ⟨Nat.le_of_ble_eq_true rfl, Nat.le_of_ble_eq_true rfl⟩) (fun v111 u H locs hz9 hH hS => ?_)
                    have hz9 : u = (T, O, X) := hz9
                    subst hz9
                    have hH : HT D cs A T O X H := hH
                    refine W.widen (k := 0) (n := 0) (Nat.le_of_ble_eq_true rfl) (Nat.le_of_ble_eq_true rfl) ?_
                    refine lv_aload_n hx hb dX11_takeTurns_114 rfl (lv_at hl 2 rfl) ?_
                    refine t_get (ci := 11) (lst := ft11 w ch) (C := RX11) (F := TX11) (N := 20) hx hb hts uX11 hown hkb hH t_a0 (hO.no t_a0 (by decide)) (fun _ h9 => h9) rfl rfl 3 (by decide) rfl kw_363 (fun _ h9 => h9) dX11_takeTurns_115 (fun v9 h9 => ?_)
                    have h9 : v9 = .ref w := h9
                    subst h9
                    refine tk_i hH hS hA (tr_V (n := 0) (As := []) hx hb hml hown hts hkb hH hOX hks hE hS hA (s_Wall_middles l D cs kf T O X w hw gw t_w (hO.sub (by decide))) kw_892 kw_683 kw_684 kw_5 kw_685 (by decide +kernel) ⟨Nat.le_of_ble_eq_true rfl, Nat.le_of_ble_eq_true rfl⟩ (HT.recv (ci := 9) hkb hH t_w.1 (hO.no t_w.1 (by decide)) rfl) rfl rfl hl.1 (Nat.le_of_ble_eq_true rfl) dX11_takeTurns_118 ⟨Nat.le_of_ble_eq_true rfl, Nat.le_of_ble_eq_true rfl⟩) (fun v118 u H locs hz9 hH hS => ?_)
                    obtain ⟨rfl, l_v118, u_v118⟩ := hz9
                    have hH : HT D cs A T O X H := hH
                    refine W.widen (k := 0) (n := 0) (Nat.le_of_ble_eq_true rfl) (Nat.le_of_ble_eq_true rfl) ?_
                    refine lv_iand hx hb dX11_takeTurns_121 ?_
                    refine lv_topi (fun v121 ev121 => ?_)
                    have tv121 : 0 ≤ v121.toInt ∧ v121.toInt ≤ v118.toInt := by rw [ev121]; exact and_r (by omega)
                    refine lv_iconst (v := (-1)) hx hb dX11_takeTurns_122 (by decide) ?_
                    refine lv_ixor hx hb dX11_takeTurns_123 ?_
                    refine lv_topi (fun v123 ev123 => ?_)
                    refine lv_iand hx hb dX11_takeTurns_124 ?_
                    refine lv_topi (fun v124 ev124 => ?_)
                    refine lv_goto (tgt := 129) hx hb dX11_takeTurns_125 (by decide) ?_
                    exact J129 v124 _ _ _  hH hS (lv_sub hl [0, 1, 2, 3, 4, 5, 6] rfl)
                refine lv_if_le (tgt := 98) hx hb dX11_takeTurns_91 (by decide) (fun c91 => ?_) (fun c91 => ?_)
                · skip
                  have tc91 := f_le (k := 0) (by decide) c91
                  refine lv_iconst (v := 0) hx hb dX11_takeTurns_98 (by decide) ?_
                  exact J99 0 _ _ _ (by decide) (by decide) hH hS (lv_sub hl [0, 1, 2, 3, 4, 5] rfl)
                · skip
                  have tc91 := f_nle (k := 0) (by decide) c91
                  refine lv_iconst (v := 1) hx hb dX11_takeTurns_94 (by decide) ?_
                  refine lv_goto (tgt := 99) hx hb dX11_takeTurns_95 (by decide) ?_
                  exact J99 1 _ _ _ (by decide) (by decide) hH hS (lv_sub hl [0, 1, 2, 3, 4, 5] rfl)
        refine lv_istore (lv' := [(5, .int 0), (0, .ref a0), (1, .int x1), (2, .int x2), (3, .int x3), (4, .int x4)]) hx hb dX11_takeTurns_46 hl (by decide) rfl (fun ls hl => ?_)
        exact J48 _ 0 _ _ _ rfl (by decide) (by decide) hH hS (lv_sub hl [0, 1, 2, 3, 4, 5] rfl)
      · skip
        have tc21 := f_nlt (k := 5) (by decide) c21
        exfalso; omega
  · skip
    have fuc11 := full_i v6
    have fvc11 := full_i v8
    have tc11 := g_nlt c11
    exact te_v hx hb hr hlocks hH hS rfl dX11_takeTurns_14
set_option maxHeartbeats 4000000 in
set_option maxRecDepth 100000 in
theorem s_FW_takeTurns2 (l : Launch) (D : va_G) (cs : CS) (kf : KF) (T : TF) (O : List Nat) (X : va_W) (a0 w hw gw ch gq : Nat) (x1 : Int32) (x2 : Int32) (x3 : Int32) (x4 : Int32) (t_a0 : T a0 = some (21, w, ch)) (t_w : isW T w hw gw) (t_ch : T ch = some (10, gq, 0)) (l_x1 : 2 ≤ x1.toInt) (u_x1 : x1.toInt ≤ 2) (hO : okO T O [1, 7, 12, 15, 16, 19, 20, 21]) : TK l D cs kf yX11_takeTurns cX11_takeTurns 8 none { frames := 8, cells := 0, slots := 0, locals := 206 } [.ref a0, .int x1, .int x2, .int x3, .int x4] T O X (Tv D cs (fun u => u = (T, O, X))) := by
  refine tk_of (by decide) (Nat.le_of_ble_eq_true rfl) (fun p e s m below meth c ls A H locs hx hb hr hml hown hts hlocks hnm hkb hH hS hA hOX hks hE hl => ?_)
  have hown : s.vm.findClass RX11 = some m.cls := hown
  have hl : lv_has ls 8 [(0, .ref a0), (1, .int x1), (2, .int x2), (3, .int x3), (4, .int x4)] := hl
  have b1_w := t_w.2.1
  have b2_w := t_w.2.2
  refine lv_iload hx hb dX11_takeTurns_0 (lv_at hl 4 rfl) ?_
  refine lv_iload_n hx hb dX11_takeTurns_2 rfl (lv_at hl 2 rfl) ?_
  refine tk_i hH hS hA (tr_S (n := 1) (As := [.int x2]) hx hb hml hown hts hkb hH hOX hks hE hS hA (s_bitCount l D cs kf T O X x2  (hO.sub (by decide))) kw_893 kw_692 kw_20 kw_693 (by decide +kernel) ⟨Nat.le_of_ble_eq_true rfl, Nat.le_of_ble_eq_true rfl⟩ rfl rfl hl.1 (Nat.le_of_ble_eq_true rfl) dX11_takeTurns_3 ⟨Nat.le_of_ble_eq_true rfl, Nat.le_of_ble_eq_true rfl⟩) (fun v3 u H locs hz9 hH hS => ?_)
  obtain ⟨rfl, l_v3, u_v3⟩ := hz9
  have hH : HT D cs A T O X H := hH
  refine W.widen (k := 0) (n := 0) (Nat.le_of_ble_eq_true rfl) (Nat.le_of_ble_eq_true rfl) ?_
  refine lv_iadd hx hb dX11_takeTurns_6 ?_
  refine lv_topi (fun v6 ev6 => ?_)
  refine lv_aload_n hx hb dX11_takeTurns_7 rfl (lv_at hl 0 rfl) ?_
  refine t_get (ci := 11) (lst := ft11 w ch) (C := RX11) (F := TX11) (N := 20) hx hb hts uX11 hown hkb hH t_a0 (hO.no t_a0 (by decide)) (fun _ h9 => h9) rfl rfl 19 (by decide) rfl kw_379 (fun _ h9 => h9) dX11_takeTurns_8 (fun v9 h9 => ?_)
  obtain ⟨v8, rfl⟩ := h9
  refine lv_icmp_gt (tgt := 15) hx hb dX11_takeTurns_11 (by decide) (fun c11 => ?_) (fun c11 => ?_)
  · skip
    have fuc11 := full_i v6
    have fvc11 := full_i v8
    have tc11 := g_lt c11
    refine lv_iload_n hx hb dX11_takeTurns_15 rfl (lv_at hl 2 rfl) ?_
    refine lv_if_eq (tgt := 24) hx hb dX11_takeTurns_16 (by decide) (fun c16 => ?_) (fun c16 => ?_)
    · skip
      have tc16 := f_eq (k := 0) (by decide) c16
      refine lv_aload_n hx hb dX11_takeTurns_24 rfl (lv_at hl 0 rfl) ?_
      refine lv_iload hx hb dX11_takeTurns_25 (lv_at hl 4 rfl) ?_
      refine t_put (ci := 11) (lst := ft11 w ch) (v := .int x4) (ty := tyX11 19) (C := RX11) (F := TX11) (N := 20) hx hb hts uX11 tyX11 tyX11_ok nmX11 hown hkb hH hS t_a0 (hO.no t_a0 (by decide)) (fun _ => Iff.rfl) rfl rfl 19 (by decide) rfl (⟨_, rfl⟩) kw_379 (fun _ h9 => h9) rfl (tyX11_ok 19 (by decide)) rfl rfl dX11_takeTurns_27 (fun H locs hH hS => ?_)
      refine lv_aload_n hx hb dX11_takeTurns_30 rfl (lv_at hl 0 rfl) ?_
      refine t_get (ci := 11) (lst := ft11 w ch) (C := RX11) (F := TX11) (N := 20) hx hb hts uX11 hown hkb hH t_a0 (hO.no t_a0 (by decide)) (fun _ h9 => h9) rfl rfl 17 (by decide) rfl kw_377 (fun _ h9 => h9) dX11_takeTurns_31 (fun v9 h9 => ?_)
      obtain ⟨v31, rfl, t_v31⟩ := h9
      refine lv_iconst (v := 0) hx hb dX11_takeTurns_34 (by decide) ?_
      refine lv_aload_n hx hb dX11_takeTurns_35 rfl (lv_at hl 0 rfl) ?_
      refine t_get (ci := 11) (lst := ft11 w ch) (C := RX11) (F := TX11) (N := 20) hx hb hts uX11 hown hkb hH t_a0 (hO.no t_a0 (by decide)) (fun _ h9 => h9) rfl rfl 18 (by decide) rfl kw_378 (fun _ h9 => h9) dX11_takeTurns_36 (fun v9 h9 => ?_)
      obtain ⟨v36, rfl, t_v36⟩ := h9
      refine lv_iconst (v := 0) hx hb dX11_takeTurns_39 (by decide) ?_
      refine lv_iconst (v := 5) hx hb dX11_takeTurns_40 (by decide) ?_
      refine t_copy hx hb (by rw [hml]; exact hl.1.symm) hown (hts _ kw_1172) (hts _ kw_734) (hts _ kw_733) (hts _ kw_23) hkb hH hS t_v31 (hO.no t_v31 (by decide)) t_v36 (hO.no t_v36 (by decide)) (by decide) (by decide) (by decide) (by decide) (by decide) (Nat.le_of_ble_eq_true rfl) (Nat.le_of_ble_eq_true rfl) dX11_takeTurns_41 (fun H locs hH hS => ?_)
      exact te_v hx hb hr hlocks hH hS rfl dX11_takeTurns_44
    · skip
      have tc16 := f_ne (k := 0) (by decide) c16
      refine lv_iload_n hx hb dX11_takeTurns_19 rfl (lv_at hl 1 rfl) ?_
      refine lv_iconst (v := 5) hx hb dX11_takeTurns_20 (by decide) ?_
      refine lv_icmp_lt (tgt := 45) hx hb dX11_takeTurns_21 (by decide) (fun c21 => ?_) (fun c21 => ?_)
      · skip
        have tc21 := f_lt (k := 5) (by decide) c21
        refine lv_iconst (v := 0) hx hb dX11_takeTurns_45 (by decide) ?_
        have J48 : ∀ (n : Nat) (p48_5 : Int32) (H : Heap) (locs : List Loc) (ls : Array Slot), (5 - p48_5.toInt).toNat = n → (0 ≤ p48_5.toInt) → (p48_5.toInt ≤ 5) → HT D cs A T O X H → va_S A s.heap H locs → lv_has ls 8 [(5, .int p48_5), (0, .ref a0), (1, .int x1), (2, .int x2), (3, .int x3), (4, .int x4)] → W p l e { frames := 8, cells := 0, slots := 0, locals := 206 } s m [.ref a0, .int x1, .int x2, .int x3, .int x4].toArray below meth c H locs 0 0 (MQ below (Tv D cs (fun u => u = (T, O, X)) A) [.ref a0, .int x1, .int x2, .int x3, .int x4].toArray s 0 0 A) (F0 m 48 ls []) := by
          intro n
          induction n using Nat.strongRecOn with
          | _ n ih48 =>
            intro p48_5 H locs ls hm48 l_p48_5 u_p48_5 hH hS hl
            refine lv_iload hx hb dX11_takeTurns_48 (lv_at hl 0 rfl) ?_
            refine lv_aload_n hx hb dX11_takeTurns_50 rfl (lv_at hl 1 rfl) ?_
            refine t_get (ci := 11) (lst := ft11 w ch) (C := RX11) (F := TX11) (N := 20) hx hb hts uX11 hown hkb hH t_a0 (hO.no t_a0 (by decide)) (fun _ h9 => h9) rfl rfl 3 (by decide) rfl kw_363 (fun _ h9 => h9) dX11_takeTurns_51 (fun v9 h9 => ?_)
            have h9 : v9 = .ref w := h9
            subst h9
            refine t_get (ci := 9) (lst := ft9w hw gw) (C := RX9) (F := TX9) (N := 14) hx hb hts uX9 hown hkb hH t_w.1 (hO.no t_w.1 (by decide)) (fun fs => (ob9w t_w fs).mp) rfl rfl 1 (by decide) rfl kw_112 (fun _ h9 => h9) dX11_takeTurns_54 (fun v9 h9 => ?_)
            have h9 : v9 = .int (nI gw) := h9
            subst h9
            have e_gw : (nI gw).toInt = gw := nI_toInt (by have := t_w.2.2; omega)
            have b_gw := t_w.2.2
            refine lv_icmp_ge (tgt := 167) hx hb dX11_takeTurns_57 (by decide) (fun c57 => ?_) (fun c57 => ?_)
            · skip
              have fuc57 := full_i p48_5
              have fvc57 := full_i (nI gw)
              have tc57 := g_le c57
              exact te_v hx hb hr hlocks hH hS rfl dX11_takeTurns_167
            · skip
              have fuc57 := full_i p48_5
              have fvc57 := full_i (nI gw)
              have tc57 := g_nle c57
              refine lv_iload_n hx hb dX11_takeTurns_60 rfl (lv_at hl 3 rfl) ?_
              refine lv_iload hx hb dX11_takeTurns_61 (lv_at hl 0 rfl) ?_
              refine lv_ishr hx hb dX11_takeTurns_63 ?_
              refine lv_topi (fun v63 ev63 => ?_)
              refine lv_iconst (v := 1) hx hb dX11_takeTurns_64 (by decide) ?_
              refine lv_iand hx hb dX11_takeTurns_65 ?_
              refine lv_topi (fun v65 ev65 => ?_)
              have tv65 : 0 ≤ v65.toInt ∧ v65.toInt ≤ 1 := by rw [ev65]; exact and_r (by decide)
              have J161 : ∀  (H : Heap) (locs : List Loc) (ls : Array Slot), HT D cs A T O X H → va_S A s.heap H locs → lv_has ls 8 [(5, .int p48_5), (0, .ref a0), (1, .int x1), (2, .int x2), (3, .int x3), (4, .int x4)] → W p l e { frames := 8, cells := 0, slots := 0, locals := 206 } s m [.ref a0, .int x1, .int x2, .int x3, .int x4].toArray below meth c H locs 0 0 (MQ below (Tv D cs (fun u => u = (T, O, X)) A) [.ref a0, .int x1, .int x2, .int x3, .int x4].toArray s 0 0 A) (F0 m 161 ls []) := by
                intro  H locs ls  hH hS hl
                obtain ⟨v161, ev161⟩ : ∃ y : Int32, y = p48_5 + 1 := ⟨_, rfl⟩
                have tv161 : v161.toInt = p48_5.toInt + (1) := by rw [ev161]; exact add_i rfl (by decide) (by omega) (by omega)
                refine lv_iinc (v := v161) (lv' := [(5, .int v161), (0, .ref a0), (1, .int x1), (2, .int x2), (3, .int x3), (4, .int x4)]) hx hb dX11_takeTurns_161 hl (k := 0) rfl (by rw [ev161]; rfl) (by decide) rfl (fun ls hl => ?_)
                refine lv_goto (tgt := 48) hx hb dX11_takeTurns_164 (by decide) ?_
                exact ih48 _ (by omega) v161 _ _ _ rfl (by omega) (by omega) hH hS (lv_sub hl [0, 1, 2, 3, 4, 5] rfl)
              refine lv_if_eq (tgt := 161) hx hb dX11_takeTurns_66 (by decide) (fun c66 => ?_) (fun c66 => ?_)
              · skip
                have tc66 := f_eq (k := 0) (by decide) c66
                exact J161  _ _ _  hH hS (lv_sub hl [0, 1, 2, 3, 4, 5] rfl)
              · skip
                have tc66 := f_ne (k := 0) (by decide) c66
                refine lv_aload_n hx hb dX11_takeTurns_69 rfl (lv_at hl 1 rfl) ?_
                refine t_get (ci := 11) (lst := ft11 w ch) (C := RX11) (F := TX11) (N := 20) hx hb hts uX11 hown hkb hH t_a0 (hO.no t_a0 (by decide)) (fun _ h9 => h9) rfl rfl 17 (by decide) rfl kw_377 (fun _ h9 => h9) dX11_takeTurns_70 (fun v9 h9 => ?_)
                obtain ⟨v70, rfl, t_v70⟩ := h9
                refine lv_iload_n hx hb dX11_takeTurns_73 rfl (lv_at hl 2 rfl) ?_
                refine lv_iload hx hb dX11_takeTurns_74 (lv_at hl 0 rfl) ?_
                refine t_ist hx hb hkb hH hS t_v70 (hO.no t_v70 (by decide)) (by omega) (by omega) (cp_0 _) dX11_takeTurns_76 (fun H locs hH hS => ?_)
                refine lv_aload_n hx hb dX11_takeTurns_77 rfl (lv_at hl 1 rfl) ?_
                refine t_get (ci := 11) (lst := ft11 w ch) (C := RX11) (F := TX11) (N := 20) hx hb hts uX11 hown hkb hH t_a0 (hO.no t_a0 (by decide)) (fun _ h9 => h9) rfl rfl 14 (by decide) rfl kw_374 (fun _ h9 => h9) dX11_takeTurns_78 (fun v9 h9 => ?_)
                obtain ⟨v78, rfl, t_v78⟩ := h9
                refine lv_aload_n hx hb dX11_takeTurns_81 rfl (lv_at hl 1 rfl) ?_
                refine lv_iload hx hb dX11_takeTurns_82 (lv_at hl 0 rfl) ?_
                refine tk_r hH hS hA (tr_V (n := 1) (As := [.int p48_5]) hx hb hml hown hts hkb hH hOX hks hE hS hA (s_FW_rowsOf l D cs kf T O X a0 w hw gw ch gq p48_5 t_a0 t_w t_ch (by omega) (by omega) (hO.sub (by decide))) kw_830 kw_832 ks_21 kw_1 kw_833 (by decide +kernel) ⟨Nat.le_of_ble_eq_true rfl, Nat.le_of_ble_eq_true rfl⟩ (HT.recv (ci := 11) hkb hH t_a0 (hO.no t_a0 (by decide)) rfl) rfl rfl hl.1 (Nat.le_of_ble_eq_true rfl) dX11_takeTurns_84 ⟨Nat.le_of_ble_eq_true rfl, Nat.le_of_ble_eq_true rfl⟩) (fun v84 u H locs hz9 hH hS => ?_)
                obtain ⟨hu9, t_v84⟩ := hz9
                have hu9 : u = (T, O, X) := hu9
                subst hu9
                have hH : HT D cs A T O X H := hH
                refine W.widen (k := 0) (n := 0) (Nat.le_of_ble_eq_true rfl) (Nat.le_of_ble_eq_true rfl) ?_
                refine lv_iload_n hx hb dX11_takeTurns_87 rfl (lv_at hl 4 rfl) ?_
                refine tk_i hH hS hA (tr_V (n := 2) (As := [.ref v84, .int x3]) hx hb hml hown hts hkb hH hOX hks hE hS hA (s_Ways_find l D cs kf T O X v78 v84 x3 t_v78 t_v84 (hO.sub (by decide))) kw_912 kw_913 kw_914 kw_9 kw_915 (by decide +kernel) ⟨Nat.le_of_ble_eq_true rfl, Nat.le_of_ble_eq_true rfl⟩ (HT.recv (ci := 10) hkb hH t_v78 (hO.no t_v78 (by decide)) rfl) rfl rfl hl.1 (Nat.le_of_ble_eq_true rfl) dX11_takeTurns_88 ⟨Nat.le_of_ble_eq_true rfl, Nat.le_of_ble_eq_true rfl⟩) (fun v88 u H locs hz9 hH hS => ?_)
                obtain ⟨rfl, l_v88, u_v88⟩ := hz9
                have hH : HT D cs A T O X H := hH
                refine W.widen (k := 0) (n := 0) (Nat.le_of_ble_eq_true rfl) (Nat.le_of_ble_eq_true rfl) ?_
                have J99 : ∀ (k99_0 : Int32) (H : Heap) (locs : List Loc) (ls : Array Slot), (0 ≤ k99_0.toInt) → (k99_0.toInt ≤ 1) → HT D cs A T O X H → va_S A s.heap H locs → lv_has ls 8 [(5, .int p48_5), (0, .ref a0), (1, .int x1), (2, .int x2), (3, .int x3), (4, .int x4)] → W p l e { frames := 8, cells := 0, slots := 0, locals := 206 } s m [.ref a0, .int x1, .int x2, .int x3, .int x4].toArray below meth c H locs 0 0 (MQ below (Tv D cs (fun u => u = (T, O, X)) A) [.ref a0, .int x1, .int x2, .int x3, .int x4].toArray s 0 0 A) (F0 m 99 ls [.int k99_0]) := by
                  intro k99_0 H locs ls l_k99_0 u_k99_0 hH hS hl
                  refine lv_istore (lv' := [(6, .int k99_0), (5, .int p48_5), (0, .ref a0), (1, .int x1), (2, .int x2), (3, .int x3), (4, .int x4)]) hx hb dX11_takeTurns_99 hl (by decide) rfl (fun ls hl => ?_)
                  refine lv_iload hx hb dX11_takeTurns_101 (lv_at hl 0 rfl) ?_
                  have J129 : ∀ (k129_0 : Int32) (H : Heap) (locs : List Loc) (ls : Array Slot), HT D cs A T O X H → va_S A s.heap H locs → lv_has ls 8 [(6, .int k99_0), (5, .int p48_5), (0, .ref a0), (1, .int x1), (2, .int x2), (3, .int x3), (4, .int x4)] → W p l e { frames := 8, cells := 0, slots := 0, locals := 206 } s m [.ref a0, .int x1, .int x2, .int x3, .int x4].toArray below meth c H locs 0 0 (MQ below (Tv D cs (fun u => u = (T, O, X)) A) [.ref a0, .int x1, .int x2, .int x3, .int x4].toArray s 0 0 A) (F0 m 129 ls [.int k129_0]) := by
                    intro k129_0 H locs ls  hH hS hl
                    refine lv_istore (lv' := [(7, .int k129_0), (6, .int k99_0), (5, .int p48_5), (0, .ref a0), (1, .int x1), (2, .int x2), (3, .int x3), (4, .int x4)]) hx hb dX11_takeTurns_129 hl (by decide) rfl (fun ls hl => ?_)
                    refine lv_aload_n hx hb dX11_takeTurns_131 rfl (lv_at hl 3 rfl) ?_
                    refine lv_iload_n hx hb dX11_takeTurns_132 rfl (lv_at hl 4 rfl) ?_
                    refine lv_iconst (v := 1) hx hb dX11_takeTurns_133 (by decide) ?_
                    refine lv_iadd hx hb dX11_takeTurns_134 ?_
                    refine lv_topi (fun v134 ev134 => ?_)
                    have tv134 : v134.toInt = x1.toInt + (1) := by rw [ev134]; exact add_i rfl (by decide : (1 : Int32).toInt = 1) (by omega) (by omega)
                    refine lv_iload_n hx hb dX11_takeTurns_135 rfl (lv_at hl 5 rfl) ?_
                    refine lv_iconst (v := 1) hx hb dX11_takeTurns_136 (by decide) ?_
                    refine lv_iload hx hb dX11_takeTurns_137 (lv_at hl 2 rfl) ?_
                    refine lv_ishl hx hb dX11_takeTurns_139 ?_
                    refine lv_topi (fun v139 ev139 => ?_)
                    have tv139 : 1 ≤ v139.toInt ∧ v139.toInt ≤ 16 := by rw [ev139]; exact shl_b 4 (by decide) (by omega) (by omega)
                    refine lv_iconst (v := (-1)) hx hb dX11_takeTurns_140 (by decide) ?_
                    refine lv_ixor hx hb dX11_takeTurns_141 ?_
                    refine lv_topi (fun v141 ev141 => ?_)
                    refine lv_iand hx hb dX11_takeTurns_142 ?_
                    refine lv_topi (fun v142 ev142 => ?_)
                    refine lv_iload hx hb dX11_takeTurns_143 (lv_at hl 0 rfl) ?_
                    refine lv_iload hx hb dX11_takeTurns_145 (lv_at hl 7 rfl) ?_
                    refine lv_iload hx hb dX11_takeTurns_147 (lv_at hl 1 rfl) ?_
                    have J157 : ∀ (k157_0 : Int32) (H : Heap) (locs : List Loc) (ls : Array Slot), (0 ≤ k157_0.toInt) → (k157_0.toInt ≤ 1) → HT D cs A T O X H → va_S A s.heap H locs → lv_has ls 8 [(5, .int p48_5), (0, .ref a0), (1, .int x1), (2, .int x2), (3, .int x3), (4, .int x4)] → W p l e { frames := 8, cells := 0, slots := 0, locals := 206 } s m [.ref a0, .int x1, .int x2, .int x3, .int x4].toArray below meth c H locs 0 0 (MQ below (Tv D cs (fun u => u = (T, O, X)) A) [.ref a0, .int x1, .int x2, .int x3, .int x4].toArray s 0 0 A) (F0 m 157 ls [.int k157_0, .int x4, .int k129_0, .int v142, .int v134, .ref a0]) := by
                      intro k157_0 H locs ls l_k157_0 u_k157_0 hH hS hl
                      refine lv_iadd hx hb dX11_takeTurns_157 ?_
                      refine lv_topi (fun v157 ev157 => ?_)
                      refine tk_v hH hS hA (tr_V (n := 4) (As := [.int v134, .int v142, .int k129_0, .int v157]) hx hb hml hown hts hkb hH hOX hks hE hS hA (s_FW_takeTurns3 l D cs kf T O X a0 w hw gw ch gq v134 v142 k129_0 v157 t_a0 t_w t_ch (by omega) (by omega) (hO.sub (by decide))) kw_1168 kw_1170 ks_42 kw_1 kw_1171 (by decide +kernel) ⟨Nat.le_of_ble_eq_true rfl, Nat.le_of_ble_eq_true rfl⟩ (HT.recv (ci := 11) hkb hH t_a0 (hO.no t_a0 (by decide)) rfl) rfl rfl hl.1 (Nat.le_of_ble_eq_true rfl) dX11_takeTurns_158 ⟨Nat.le_of_ble_eq_true rfl, Nat.le_of_ble_eq_true rfl⟩) (fun u H locs hz9 hH hS => ?_)
                      have hz9 : u = (T, O, X) := hz9
                      subst hz9
                      have hH : HT D cs A T O X H := hH
                      refine W.widen (k := 0) (n := 0) (Nat.le_of_ble_eq_true rfl) (Nat.le_of_ble_eq_true rfl) ?_
                      exact J161  _ _ _  hH hS (lv_sub hl [0, 1, 2, 3, 4, 5] rfl)
                    refine lv_if_eq (tgt := 156) hx hb dX11_takeTurns_149 (by decide) (fun c149 => ?_) (fun c149 => ?_)
                    · skip
                      have tc149 := f_eq (k := 0) (by decide) c149
                      refine lv_iconst (v := 0) hx hb dX11_takeTurns_156 (by decide) ?_
                      exact J157 0 _ _ _ (by decide) (by decide) hH hS (lv_sub hl [2, 3, 4, 5, 6, 7] rfl)
                    · skip
                      have tc149 := f_ne (k := 0) (by decide) c149
                      refine lv_iconst (v := 1) hx hb dX11_takeTurns_152 (by decide) ?_
                      refine lv_goto (tgt := 157) hx hb dX11_takeTurns_153 (by decide) ?_
                      exact J157 1 _ _ _ (by decide) (by decide) hH hS (lv_sub hl [2, 3, 4, 5, 6, 7] rfl)
                  refine lv_if_eq (tgt := 128) hx hb dX11_takeTurns_103 (by decide) (fun c103 => ?_) (fun c103 => ?_)
                  · skip
                    have tc103 := f_eq (k := 0) (by decide) c103
                    refine lv_iload_n hx hb dX11_takeTurns_128 rfl (lv_at hl 5 rfl) ?_
                    exact J129 x3 _ _ _  hH hS (lv_sub hl [0, 1, 2, 3, 4, 5, 6] rfl)
                  · skip
                    have tc103 := f_ne (k := 0) (by decide) c103
                    refine lv_iload_n hx hb dX11_takeTurns_106 rfl (lv_at hl 5 rfl) ?_
                    refine lv_aload_n hx hb dX11_takeTurns_107 rfl (lv_at hl 2 rfl) ?_
                    refine t_get (ci := 11) (lst := ft11 w ch) (C := RX11) (F := TX11) (N := 20) hx hb hts uX11 hown hkb hH t_a0 (hO.no t_a0 (by decide)) (fun _ h9 => h9) rfl rfl 14 (by decide) rfl kw_374 (fun _ h9 => h9) dX11_takeTurns_108 (fun v9 h9 => ?_)
                    obtain ⟨v108, rfl, t_v108⟩ := h9
                    refine tk_i hH hS hA (tr_V (n := 0) (As := []) hx hb hml hown hts hkb hH hOX hks hE hS hA (s_Ways_pathSet l D cs kf T O X v108 t_v108 (hO.sub (by decide))) kw_926 kw_927 kw_928 kw_9 kw_929 (by decide +kernel) ⟨Nat.le_of_ble_eq_true rfl, Nat.le_of_ble_eq_true rfl⟩ (HT.recv (ci := 10) hkb hH t_v108 (hO.no t_v108 (by decide)) rfl) rfl rfl hl.1 (Nat.le_of_ble_eq_true rfl) dX11_takeTurns_111 ⟨Nat.le_of_ble_eq_true rfl, Nat.le_of_ble_eq_true rfl⟩) (fun v111 u H locs hz9 hH hS => ?_)
                    have hz9 : u = (T, O, X) := hz9
                    subst hz9
                    have hH : HT D cs A T O X H := hH
                    refine W.widen (k := 0) (n := 0) (Nat.le_of_ble_eq_true rfl) (Nat.le_of_ble_eq_true rfl) ?_
                    refine lv_aload_n hx hb dX11_takeTurns_114 rfl (lv_at hl 2 rfl) ?_
                    refine t_get (ci := 11) (lst := ft11 w ch) (C := RX11) (F := TX11) (N := 20) hx hb hts uX11 hown hkb hH t_a0 (hO.no t_a0 (by decide)) (fun _ h9 => h9) rfl rfl 3 (by decide) rfl kw_363 (fun _ h9 => h9) dX11_takeTurns_115 (fun v9 h9 => ?_)
                    have h9 : v9 = .ref w := h9
                    subst h9
                    refine tk_i hH hS hA (tr_V (n := 0) (As := []) hx hb hml hown hts hkb hH hOX hks hE hS hA (s_Wall_middles l D cs kf T O X w hw gw t_w (hO.sub (by decide))) kw_892 kw_683 kw_684 kw_5 kw_685 (by decide +kernel) ⟨Nat.le_of_ble_eq_true rfl, Nat.le_of_ble_eq_true rfl⟩ (HT.recv (ci := 9) hkb hH t_w.1 (hO.no t_w.1 (by decide)) rfl) rfl rfl hl.1 (Nat.le_of_ble_eq_true rfl) dX11_takeTurns_118 ⟨Nat.le_of_ble_eq_true rfl, Nat.le_of_ble_eq_true rfl⟩) (fun v118 u H locs hz9 hH hS => ?_)
                    obtain ⟨rfl, l_v118, u_v118⟩ := hz9
                    have hH : HT D cs A T O X H := hH
                    refine W.widen (k := 0) (n := 0) (Nat.le_of_ble_eq_true rfl) (Nat.le_of_ble_eq_true rfl) ?_
                    refine lv_iand hx hb dX11_takeTurns_121 ?_
                    refine lv_topi (fun v121 ev121 => ?_)
                    have tv121 : 0 ≤ v121.toInt ∧ v121.toInt ≤ v118.toInt := by rw [ev121]; exact and_r (by omega)
                    refine lv_iconst (v := (-1)) hx hb dX11_takeTurns_122 (by decide) ?_
                    refine lv_ixor hx hb dX11_takeTurns_123 ?_
                    refine lv_topi (fun v123 ev123 => ?_)
                    refine lv_iand hx hb dX11_takeTurns_124 ?_
                    refine lv_topi (fun v124 ev124 => ?_)
                    refine lv_goto (tgt := 129) hx hb dX11_takeTurns_125 (by decide) ?_
                    exact J129 v124 _ _ _  hH hS (lv_sub hl [0, 1, 2, 3, 4, 5, 6] rfl)
                refine lv_if_le (tgt := 98) hx hb dX11_takeTurns_91 (by decide) (fun c91 => ?_) (fun c91 => ?_)
                · skip
                  have tc91 := f_le (k := 0) (by decide) c91
                  refine lv_iconst (v := 0) hx hb dX11_takeTurns_98 (by decide) ?_
                  exact J99 0 _ _ _ (by decide) (by decide) hH hS (lv_sub hl [0, 1, 2, 3, 4, 5] rfl)
                · skip
                  have tc91 := f_nle (k := 0) (by decide) c91
                  refine lv_iconst (v := 1) hx hb dX11_takeTurns_94 (by decide) ?_
                  refine lv_goto (tgt := 99) hx hb dX11_takeTurns_95 (by decide) ?_
                  exact J99 1 _ _ _ (by decide) (by decide) hH hS (lv_sub hl [0, 1, 2, 3, 4, 5] rfl)
        refine lv_istore (lv' := [(5, .int 0), (0, .ref a0), (1, .int x1), (2, .int x2), (3, .int x3), (4, .int x4)]) hx hb dX11_takeTurns_46 hl (by decide) rfl (fun ls hl => ?_)
        exact J48 _ 0 _ _ _ rfl (by decide) (by decide) hH hS (lv_sub hl [0, 1, 2, 3, 4, 5] rfl)
      · skip
        have tc21 := f_nlt (k := 5) (by decide) c21
        exfalso; omega
  · skip
    have fuc11 := full_i v6
    have fvc11 := full_i v8
    have tc11 := g_nlt c11
    exact te_v hx hb hr hlocks hH hS rfl dX11_takeTurns_14
set_option maxHeartbeats 4000000 in
set_option maxRecDepth 100000 in
theorem s_FW_takeTurns1 (l : Launch) (D : va_G) (cs : CS) (kf : KF) (T : TF) (O : List Nat) (X : va_W) (a0 w hw gw ch gq : Nat) (x1 : Int32) (x2 : Int32) (x3 : Int32) (x4 : Int32) (t_a0 : T a0 = some (21, w, ch)) (t_w : isW T w hw gw) (t_ch : T ch = some (10, gq, 0)) (l_x1 : 1 ≤ x1.toInt) (u_x1 : x1.toInt ≤ 1) (hO : okO T O [1, 7, 12, 15, 16, 19, 20, 21]) : TK l D cs kf yX11_takeTurns cX11_takeTurns 8 none { frames := 9, cells := 0, slots := 0, locals := 233 } [.ref a0, .int x1, .int x2, .int x3, .int x4] T O X (Tv D cs (fun u => u = (T, O, X))) := by
  refine tk_of (by decide) (Nat.le_of_ble_eq_true rfl) (fun p e s m below meth c ls A H locs hx hb hr hml hown hts hlocks hnm hkb hH hS hA hOX hks hE hl => ?_)
  have hown : s.vm.findClass RX11 = some m.cls := hown
  have hl : lv_has ls 8 [(0, .ref a0), (1, .int x1), (2, .int x2), (3, .int x3), (4, .int x4)] := hl
  have b1_w := t_w.2.1
  have b2_w := t_w.2.2
  refine lv_iload hx hb dX11_takeTurns_0 (lv_at hl 4 rfl) ?_
  refine lv_iload_n hx hb dX11_takeTurns_2 rfl (lv_at hl 2 rfl) ?_
  refine tk_i hH hS hA (tr_S (n := 1) (As := [.int x2]) hx hb hml hown hts hkb hH hOX hks hE hS hA (s_bitCount l D cs kf T O X x2  (hO.sub (by decide))) kw_893 kw_692 kw_20 kw_693 (by decide +kernel) ⟨Nat.le_of_ble_eq_true rfl, Nat.le_of_ble_eq_true rfl⟩ rfl rfl hl.1 (Nat.le_of_ble_eq_true rfl) dX11_takeTurns_3 ⟨Nat.le_of_ble_eq_true rfl, Nat.le_of_ble_eq_true rfl⟩) (fun v3 u H locs hz9 hH hS => ?_)
  obtain ⟨rfl, l_v3, u_v3⟩ := hz9
  have hH : HT D cs A T O X H := hH
  refine W.widen (k := 0) (n := 0) (Nat.le_of_ble_eq_true rfl) (Nat.le_of_ble_eq_true rfl) ?_
  refine lv_iadd hx hb dX11_takeTurns_6 ?_
  refine lv_topi (fun v6 ev6 => ?_)
  refine lv_aload_n hx hb dX11_takeTurns_7 rfl (lv_at hl 0 rfl) ?_
  refine t_get (ci := 11) (lst := ft11 w ch) (C := RX11) (F := TX11) (N := 20) hx hb hts uX11 hown hkb hH t_a0 (hO.no t_a0 (by decide)) (fun _ h9 => h9) rfl rfl 19 (by decide) rfl kw_379 (fun _ h9 => h9) dX11_takeTurns_8 (fun v9 h9 => ?_)
  obtain ⟨v8, rfl⟩ := h9
  refine lv_icmp_gt (tgt := 15) hx hb dX11_takeTurns_11 (by decide) (fun c11 => ?_) (fun c11 => ?_)
  · skip
    have fuc11 := full_i v6
    have fvc11 := full_i v8
    have tc11 := g_lt c11
    refine lv_iload_n hx hb dX11_takeTurns_15 rfl (lv_at hl 2 rfl) ?_
    refine lv_if_eq (tgt := 24) hx hb dX11_takeTurns_16 (by decide) (fun c16 => ?_) (fun c16 => ?_)
    · skip
      have tc16 := f_eq (k := 0) (by decide) c16
      refine lv_aload_n hx hb dX11_takeTurns_24 rfl (lv_at hl 0 rfl) ?_
      refine lv_iload hx hb dX11_takeTurns_25 (lv_at hl 4 rfl) ?_
      refine t_put (ci := 11) (lst := ft11 w ch) (v := .int x4) (ty := tyX11 19) (C := RX11) (F := TX11) (N := 20) hx hb hts uX11 tyX11 tyX11_ok nmX11 hown hkb hH hS t_a0 (hO.no t_a0 (by decide)) (fun _ => Iff.rfl) rfl rfl 19 (by decide) rfl (⟨_, rfl⟩) kw_379 (fun _ h9 => h9) rfl (tyX11_ok 19 (by decide)) rfl rfl dX11_takeTurns_27 (fun H locs hH hS => ?_)
      refine lv_aload_n hx hb dX11_takeTurns_30 rfl (lv_at hl 0 rfl) ?_
      refine t_get (ci := 11) (lst := ft11 w ch) (C := RX11) (F := TX11) (N := 20) hx hb hts uX11 hown hkb hH t_a0 (hO.no t_a0 (by decide)) (fun _ h9 => h9) rfl rfl 17 (by decide) rfl kw_377 (fun _ h9 => h9) dX11_takeTurns_31 (fun v9 h9 => ?_)
      obtain ⟨v31, rfl, t_v31⟩ := h9
      refine lv_iconst (v := 0) hx hb dX11_takeTurns_34 (by decide) ?_
      refine lv_aload_n hx hb dX11_takeTurns_35 rfl (lv_at hl 0 rfl) ?_
      refine t_get (ci := 11) (lst := ft11 w ch) (C := RX11) (F := TX11) (N := 20) hx hb hts uX11 hown hkb hH t_a0 (hO.no t_a0 (by decide)) (fun _ h9 => h9) rfl rfl 18 (by decide) rfl kw_378 (fun _ h9 => h9) dX11_takeTurns_36 (fun v9 h9 => ?_)
      obtain ⟨v36, rfl, t_v36⟩ := h9
      refine lv_iconst (v := 0) hx hb dX11_takeTurns_39 (by decide) ?_
      refine lv_iconst (v := 5) hx hb dX11_takeTurns_40 (by decide) ?_
      refine t_copy hx hb (by rw [hml]; exact hl.1.symm) hown (hts _ kw_1172) (hts _ kw_734) (hts _ kw_733) (hts _ kw_23) hkb hH hS t_v31 (hO.no t_v31 (by decide)) t_v36 (hO.no t_v36 (by decide)) (by decide) (by decide) (by decide) (by decide) (by decide) (Nat.le_of_ble_eq_true rfl) (Nat.le_of_ble_eq_true rfl) dX11_takeTurns_41 (fun H locs hH hS => ?_)
      exact te_v hx hb hr hlocks hH hS rfl dX11_takeTurns_44
    · skip
      have tc16 := f_ne (k := 0) (by decide) c16
      refine lv_iload_n hx hb dX11_takeTurns_19 rfl (lv_at hl 1 rfl) ?_
      refine lv_iconst (v := 5) hx hb dX11_takeTurns_20 (by decide) ?_
      refine lv_icmp_lt (tgt := 45) hx hb dX11_takeTurns_21 (by decide) (fun c21 => ?_) (fun c21 => ?_)
      · skip
        have tc21 := f_lt (k := 5) (by decide) c21
        refine lv_iconst (v := 0) hx hb dX11_takeTurns_45 (by decide) ?_
        have J48 : ∀ (n : Nat) (p48_5 : Int32) (H : Heap) (locs : List Loc) (ls : Array Slot), (5 - p48_5.toInt).toNat = n → (0 ≤ p48_5.toInt) → (p48_5.toInt ≤ 5) → HT D cs A T O X H → va_S A s.heap H locs → lv_has ls 8 [(5, .int p48_5), (0, .ref a0), (1, .int x1), (2, .int x2), (3, .int x3), (4, .int x4)] → W p l e { frames := 9, cells := 0, slots := 0, locals := 233 } s m [.ref a0, .int x1, .int x2, .int x3, .int x4].toArray below meth c H locs 0 0 (MQ below (Tv D cs (fun u => u = (T, O, X)) A) [.ref a0, .int x1, .int x2, .int x3, .int x4].toArray s 0 0 A) (F0 m 48 ls []) := by
          intro n
          induction n using Nat.strongRecOn with
          | _ n ih48 =>
            intro p48_5 H locs ls hm48 l_p48_5 u_p48_5 hH hS hl
            refine lv_iload hx hb dX11_takeTurns_48 (lv_at hl 0 rfl) ?_
            refine lv_aload_n hx hb dX11_takeTurns_50 rfl (lv_at hl 1 rfl) ?_
            refine t_get (ci := 11) (lst := ft11 w ch) (C := RX11) (F := TX11) (N := 20) hx hb hts uX11 hown hkb hH t_a0 (hO.no t_a0 (by decide)) (fun _ h9 => h9) rfl rfl 3 (by decide) rfl kw_363 (fun _ h9 => h9) dX11_takeTurns_51 (fun v9 h9 => ?_)
            have h9 : v9 = .ref w := h9
            subst h9
            refine t_get (ci := 9) (lst := ft9w hw gw) (C := RX9) (F := TX9) (N := 14) hx hb hts uX9 hown hkb hH t_w.1 (hO.no t_w.1 (by decide)) (fun fs => (ob9w t_w fs).mp) rfl rfl 1 (by decide) rfl kw_112 (fun _ h9 => h9) dX11_takeTurns_54 (fun v9 h9 => ?_)
            have h9 : v9 = .int (nI gw) := h9
            subst h9
            have e_gw : (nI gw).toInt = gw := nI_toInt (by have := t_w.2.2; omega)
            have b_gw := t_w.2.2
            refine lv_icmp_ge (tgt := 167) hx hb dX11_takeTurns_57 (by decide) (fun c57 => ?_) (fun c57 => ?_)
            · skip
              have fuc57 := full_i p48_5
              have fvc57 := full_i (nI gw)
              have tc57 := g_le c57
              exact te_v hx hb hr hlocks hH hS rfl dX11_takeTurns_167
            · skip
              have fuc57 := full_i p48_5
              have fvc57 := full_i (nI gw)
              have tc57 := g_nle c57
              refine lv_iload_n hx hb dX11_takeTurns_60 rfl (lv_at hl 3 rfl) ?_
              refine lv_iload hx hb dX11_takeTurns_61 (lv_at hl 0 rfl) ?_
              refine lv_ishr hx hb dX11_takeTurns_63 ?_
              refine lv_topi (fun v63 ev63 => ?_)
              refine lv_iconst (v := 1) hx hb dX11_takeTurns_64 (by decide) ?_
              refine lv_iand hx hb dX11_takeTurns_65 ?_
              refine lv_topi (fun v65 ev65 => ?_)
              have tv65 : 0 ≤ v65.toInt ∧ v65.toInt ≤ 1 := by rw [ev65]; exact and_r (by decide)
              have J161 : ∀  (H : Heap) (locs : List Loc) (ls : Array Slot), HT D cs A T O X H → va_S A s.heap H locs → lv_has ls 8 [(5, .int p48_5), (0, .ref a0), (1, .int x1), (2, .int x2), (3, .int x3), (4, .int x4)] → W p l e { frames := 9, cells := 0, slots := 0, locals := 233 } s m [.ref a0, .int x1, .int x2, .int x3, .int x4].toArray below meth c H locs 0 0 (MQ below (Tv D cs (fun u => u = (T, O, X)) A) [.ref a0, .int x1, .int x2, .int x3, .int x4].toArray s 0 0 A) (F0 m 161 ls []) := by
                intro  H locs ls  hH hS hl
                obtain ⟨v161, ev161⟩ : ∃ y : Int32, y = p48_5 + 1 := ⟨_, rfl⟩
                have tv161 : v161.toInt = p48_5.toInt + (1) := by rw [ev161]; exact add_i rfl (by decide) (by omega) (by omega)
                refine lv_iinc (v := v161) (lv' := [(5, .int v161), (0, .ref a0), (1, .int x1), (2, .int x2), (3, .int x3), (4, .int x4)]) hx hb dX11_takeTurns_161 hl (k := 0) rfl (by rw [ev161]; rfl) (by decide) rfl (fun ls hl => ?_)
                refine lv_goto (tgt := 48) hx hb dX11_takeTurns_164 (by decide) ?_
                exact ih48 _ (by omega) v161 _ _ _ rfl (by omega) (by omega) hH hS (lv_sub hl [0, 1, 2, 3, 4, 5] rfl)
              refine lv_if_eq (tgt := 161) hx hb dX11_takeTurns_66 (by decide) (fun c66 => ?_) (fun c66 => ?_)
              · skip
                have tc66 := f_eq (k := 0) (by decide) c66
                exact J161  _ _ _  hH hS (lv_sub hl [0, 1, 2, 3, 4, 5] rfl)
              · skip
                have tc66 := f_ne (k := 0) (by decide) c66
                refine lv_aload_n hx hb dX11_takeTurns_69 rfl (lv_at hl 1 rfl) ?_
                refine t_get (ci := 11) (lst := ft11 w ch) (C := RX11) (F := TX11) (N := 20) hx hb hts uX11 hown hkb hH t_a0 (hO.no t_a0 (by decide)) (fun _ h9 => h9) rfl rfl 17 (by decide) rfl kw_377 (fun _ h9 => h9) dX11_takeTurns_70 (fun v9 h9 => ?_)
                obtain ⟨v70, rfl, t_v70⟩ := h9
                refine lv_iload_n hx hb dX11_takeTurns_73 rfl (lv_at hl 2 rfl) ?_
                refine lv_iload hx hb dX11_takeTurns_74 (lv_at hl 0 rfl) ?_
                refine t_ist hx hb hkb hH hS t_v70 (hO.no t_v70 (by decide)) (by omega) (by omega) (cp_0 _) dX11_takeTurns_76 (fun H locs hH hS => ?_)
                refine lv_aload_n hx hb dX11_takeTurns_77 rfl (lv_at hl 1 rfl) ?_
                refine t_get (ci := 11) (lst := ft11 w ch) (C := RX11) (F := TX11) (N := 20) hx hb hts uX11 hown hkb hH t_a0 (hO.no t_a0 (by decide)) (fun _ h9 => h9) rfl rfl 14 (by decide) rfl kw_374 (fun _ h9 => h9) dX11_takeTurns_78 (fun v9 h9 => ?_)
                obtain ⟨v78, rfl, t_v78⟩ := h9
                refine lv_aload_n hx hb dX11_takeTurns_81 rfl (lv_at hl 1 rfl) ?_
                refine lv_iload hx hb dX11_takeTurns_82 (lv_at hl 0 rfl) ?_
                refine tk_r hH hS hA (tr_V (n := 1) (As := [.int p48_5]) hx hb hml hown hts hkb hH hOX hks hE hS hA (s_FW_rowsOf l D cs kf T O X a0 w hw gw ch gq p48_5 t_a0 t_w t_ch (by omega) (by omega) (hO.sub (by decide))) kw_830 kw_832 ks_21 kw_1 kw_833 (by decide +kernel) ⟨Nat.le_of_ble_eq_true rfl, Nat.le_of_ble_eq_true rfl⟩ (HT.recv (ci := 11) hkb hH t_a0 (hO.no t_a0 (by decide)) rfl) rfl rfl hl.1 (Nat.le_of_ble_eq_true rfl) dX11_takeTurns_84 ⟨Nat.le_of_ble_eq_true rfl, Nat.le_of_ble_eq_true rfl⟩) (fun v84 u H locs hz9 hH hS => ?_)
                obtain ⟨hu9, t_v84⟩ := hz9
                have hu9 : u = (T, O, X) := hu9
                subst hu9
                have hH : HT D cs A T O X H := hH
                refine W.widen (k := 0) (n := 0) (Nat.le_of_ble_eq_true rfl) (Nat.le_of_ble_eq_true rfl) ?_
                refine lv_iload_n hx hb dX11_takeTurns_87 rfl (lv_at hl 4 rfl) ?_
                refine tk_i hH hS hA (tr_V (n := 2) (As := [.ref v84, .int x3]) hx hb hml hown hts hkb hH hOX hks hE hS hA (s_Ways_find l D cs kf T O X v78 v84 x3 t_v78 t_v84 (hO.sub (by decide))) kw_912 kw_913 kw_914 kw_9 kw_915 (by decide +kernel) ⟨Nat.le_of_ble_eq_true rfl, Nat.le_of_ble_eq_true rfl⟩ (HT.recv (ci := 10) hkb hH t_v78 (hO.no t_v78 (by decide)) rfl) rfl rfl hl.1 (Nat.le_of_ble_eq_true rfl) dX11_takeTurns_88 ⟨Nat.le_of_ble_eq_true rfl, Nat.le_of_ble_eq_true rfl⟩) (fun v88 u H locs hz9 hH hS => ?_)
                obtain ⟨rfl, l_v88, u_v88⟩ := hz9
                have hH : HT D cs A T O X H := hH
                refine W.widen (k := 0) (n := 0) (Nat.le_of_ble_eq_true rfl) (Nat.le_of_ble_eq_true rfl) ?_
                have J99 : ∀ (k99_0 : Int32) (H : Heap) (locs : List Loc) (ls : Array Slot), (0 ≤ k99_0.toInt) → (k99_0.toInt ≤ 1) → HT D cs A T O X H → va_S A s.heap H locs → lv_has ls 8 [(5, .int p48_5), (0, .ref a0), (1, .int x1), (2, .int x2), (3, .int x3), (4, .int x4)] → W p l e { frames := 9, cells := 0, slots := 0, locals := 233 } s m [.ref a0, .int x1, .int x2, .int x3, .int x4].toArray below meth c H locs 0 0 (MQ below (Tv D cs (fun u => u = (T, O, X)) A) [.ref a0, .int x1, .int x2, .int x3, .int x4].toArray s 0 0 A) (F0 m 99 ls [.int k99_0]) := by
                  intro k99_0 H locs ls l_k99_0 u_k99_0 hH hS hl
                  refine lv_istore (lv' := [(6, .int k99_0), (5, .int p48_5), (0, .ref a0), (1, .int x1), (2, .int x2), (3, .int x3), (4, .int x4)]) hx hb dX11_takeTurns_99 hl (by decide) rfl (fun ls hl => ?_)
                  refine lv_iload hx hb dX11_takeTurns_101 (lv_at hl 0 rfl) ?_
                  have J129 : ∀ (k129_0 : Int32) (H : Heap) (locs : List Loc) (ls : Array Slot), HT D cs A T O X H → va_S A s.heap H locs → lv_has ls 8 [(6, .int k99_0), (5, .int p48_5), (0, .ref a0), (1, .int x1), (2, .int x2), (3, .int x3), (4, .int x4)] → W p l e { frames := 9, cells := 0, slots := 0, locals := 233 } s m [.ref a0, .int x1, .int x2, .int x3, .int x4].toArray below meth c H locs 0 0 (MQ below (Tv D cs (fun u => u = (T, O, X)) A) [.ref a0, .int x1, .int x2, .int x3, .int x4].toArray s 0 0 A) (F0 m 129 ls [.int k129_0]) := by
                    intro k129_0 H locs ls  hH hS hl
                    refine lv_istore (lv' := [(7, .int k129_0), (6, .int k99_0), (5, .int p48_5), (0, .ref a0), (1, .int x1), (2, .int x2), (3, .int x3), (4, .int x4)]) hx hb dX11_takeTurns_129 hl (by decide) rfl (fun ls hl => ?_)
                    refine lv_aload_n hx hb dX11_takeTurns_131 rfl (lv_at hl 3 rfl) ?_
                    refine lv_iload_n hx hb dX11_takeTurns_132 rfl (lv_at hl 4 rfl) ?_
                    refine lv_iconst (v := 1) hx hb dX11_takeTurns_133 (by decide) ?_
                    refine lv_iadd hx hb dX11_takeTurns_134 ?_
                    refine lv_topi (fun v134 ev134 => ?_)
                    have tv134 : v134.toInt = x1.toInt + (1) := by rw [ev134]; exact add_i rfl (by decide : (1 : Int32).toInt = 1) (by omega) (by omega)
                    refine lv_iload_n hx hb dX11_takeTurns_135 rfl (lv_at hl 5 rfl) ?_
                    refine lv_iconst (v := 1) hx hb dX11_takeTurns_136 (by decide) ?_
                    refine lv_iload hx hb dX11_takeTurns_137 (lv_at hl 2 rfl) ?_
                    refine lv_ishl hx hb dX11_takeTurns_139 ?_
                    refine lv_topi (fun v139 ev139 => ?_)
                    have tv139 : 1 ≤ v139.toInt ∧ v139.toInt ≤ 16 := by rw [ev139]; exact shl_b 4 (by decide) (by omega) (by omega)
                    refine lv_iconst (v := (-1)) hx hb dX11_takeTurns_140 (by decide) ?_
                    refine lv_ixor hx hb dX11_takeTurns_141 ?_
                    refine lv_topi (fun v141 ev141 => ?_)
                    refine lv_iand hx hb dX11_takeTurns_142 ?_
                    refine lv_topi (fun v142 ev142 => ?_)
                    refine lv_iload hx hb dX11_takeTurns_143 (lv_at hl 0 rfl) ?_
                    refine lv_iload hx hb dX11_takeTurns_145 (lv_at hl 7 rfl) ?_
                    refine lv_iload hx hb dX11_takeTurns_147 (lv_at hl 1 rfl) ?_
                    have J157 : ∀ (k157_0 : Int32) (H : Heap) (locs : List Loc) (ls : Array Slot), (0 ≤ k157_0.toInt) → (k157_0.toInt ≤ 1) → HT D cs A T O X H → va_S A s.heap H locs → lv_has ls 8 [(5, .int p48_5), (0, .ref a0), (1, .int x1), (2, .int x2), (3, .int x3), (4, .int x4)] → W p l e { frames := 9, cells := 0, slots := 0, locals := 233 } s m [.ref a0, .int x1, .int x2, .int x3, .int x4].toArray below meth c H locs 0 0 (MQ below (Tv D cs (fun u => u = (T, O, X)) A) [.ref a0, .int x1, .int x2, .int x3, .int x4].toArray s 0 0 A) (F0 m 157 ls [.int k157_0, .int x4, .int k129_0, .int v142, .int v134, .ref a0]) := by
                      intro k157_0 H locs ls l_k157_0 u_k157_0 hH hS hl
                      refine lv_iadd hx hb dX11_takeTurns_157 ?_
                      refine lv_topi (fun v157 ev157 => ?_)
                      refine tk_v hH hS hA (tr_V (n := 4) (As := [.int v134, .int v142, .int k129_0, .int v157]) hx hb hml hown hts hkb hH hOX hks hE hS hA (s_FW_takeTurns2 l D cs kf T O X a0 w hw gw ch gq v134 v142 k129_0 v157 t_a0 t_w t_ch (by omega) (by omega) (hO.sub (by decide))) kw_1168 kw_1170 ks_42 kw_1 kw_1171 (by decide +kernel) ⟨Nat.le_of_ble_eq_true rfl, Nat.le_of_ble_eq_true rfl⟩ (HT.recv (ci := 11) hkb hH t_a0 (hO.no t_a0 (by decide)) rfl) rfl rfl hl.1 (Nat.le_of_ble_eq_true rfl) dX11_takeTurns_158 ⟨Nat.le_of_ble_eq_true rfl, Nat.le_of_ble_eq_true rfl⟩) (fun u H locs hz9 hH hS => ?_)
                      have hz9 : u = (T, O, X) := hz9
                      subst hz9
                      have hH : HT D cs A T O X H := hH
                      refine W.widen (k := 0) (n := 0) (Nat.le_of_ble_eq_true rfl) (Nat.le_of_ble_eq_true rfl) ?_
                      exact J161  _ _ _  hH hS (lv_sub hl [0, 1, 2, 3, 4, 5] rfl)
                    refine lv_if_eq (tgt := 156) hx hb dX11_takeTurns_149 (by decide) (fun c149 => ?_) (fun c149 => ?_)
                    · skip
                      have tc149 := f_eq (k := 0) (by decide) c149
                      refine lv_iconst (v := 0) hx hb dX11_takeTurns_156 (by decide) ?_
                      exact J157 0 _ _ _ (by decide) (by decide) hH hS (lv_sub hl [2, 3, 4, 5, 6, 7] rfl)
                    · skip
                      have tc149 := f_ne (k := 0) (by decide) c149
                      refine lv_iconst (v := 1) hx hb dX11_takeTurns_152 (by decide) ?_
                      refine lv_goto (tgt := 157) hx hb dX11_takeTurns_153 (by decide) ?_
                      exact J157 1 _ _ _ (by decide) (by decide) hH hS (lv_sub hl [2, 3, 4, 5, 6, 7] rfl)
                  refine lv_if_eq (tgt := 128) hx hb dX11_takeTurns_103 (by decide) (fun c103 => ?_) (fun c103 => ?_)
                  · skip
                    have tc103 := f_eq (k := 0) (by decide) c103
                    refine lv_iload_n hx hb dX11_takeTurns_128 rfl (lv_at hl 5 rfl) ?_
                    exact J129 x3 _ _ _  hH hS (lv_sub hl [0, 1, 2, 3, 4, 5, 6] rfl)
                  · skip
                    have tc103 := f_ne (k := 0) (by decide) c103
                    refine lv_iload_n hx hb dX11_takeTurns_106 rfl (lv_at hl 5 rfl) ?_
                    refine lv_aload_n hx hb dX11_takeTurns_107 rfl (lv_at hl 2 rfl) ?_
                    refine t_get (ci := 11) (lst := ft11 w ch) (C := RX11) (F := TX11) (N := 20) hx hb hts uX11 hown hkb hH t_a0 (hO.no t_a0 (by decide)) (fun _ h9 => h9) rfl rfl 14 (by decide) rfl kw_374 (fun _ h9 => h9) dX11_takeTurns_108 (fun v9 h9 => ?_)
                    obtain ⟨v108, rfl, t_v108⟩ := h9
                    refine tk_i hH hS hA (tr_V (n := 0) (As := []) hx hb hml hown hts hkb hH hOX hks hE hS hA (s_Ways_pathSet l D cs kf T O X v108 t_v108 (hO.sub (by decide))) kw_926 kw_927 kw_928 kw_9 kw_929 (by decide +kernel) ⟨Nat.le_of_ble_eq_true rfl, Nat.le_of_ble_eq_true rfl⟩ (HT.recv (ci := 10) hkb hH t_v108 (hO.no t_v108 (by decide)) rfl) rfl rfl hl.1 (Nat.le_of_ble_eq_true rfl) dX11_takeTurns_111 ⟨Nat.le_of_ble_eq_true rfl, Nat.le_of_ble_eq_true rfl⟩) (fun v111 u H locs hz9 hH hS => ?_)
                    have hz9 : u = (T, O, X) := hz9
                    subst hz9
                    have hH : HT D cs A T O X H := hH
                    refine W.widen (k := 0) (n := 0) (Nat.le_of_ble_eq_true rfl) (Nat.le_of_ble_eq_true rfl) ?_
                    refine lv_aload_n hx hb dX11_takeTurns_114 rfl (lv_at hl 2 rfl) ?_
                    refine t_get (ci := 11) (lst := ft11 w ch) (C := RX11) (F := TX11) (N := 20) hx hb hts uX11 hown hkb hH t_a0 (hO.no t_a0 (by decide)) (fun _ h9 => h9) rfl rfl 3 (by decide) rfl kw_363 (fun _ h9 => h9) dX11_takeTurns_115 (fun v9 h9 => ?_)
                    have h9 : v9 = .ref w := h9
                    subst h9
                    refine tk_i hH hS hA (tr_V (n := 0) (As := []) hx hb hml hown hts hkb hH hOX hks hE hS hA (s_Wall_middles l D cs kf T O X w hw gw t_w (hO.sub (by decide))) kw_892 kw_683 kw_684 kw_5 kw_685 (by decide +kernel) ⟨Nat.le_of_ble_eq_true rfl, Nat.le_of_ble_eq_true rfl⟩ (HT.recv (ci := 9) hkb hH t_w.1 (hO.no t_w.1 (by decide)) rfl) rfl rfl hl.1 (Nat.le_of_ble_eq_true rfl) dX11_takeTurns_118 ⟨Nat.le_of_ble_eq_true rfl, Nat.le_of_ble_eq_true rfl⟩) (fun v118 u H locs hz9 hH hS => ?_)
                    obtain ⟨rfl, l_v118, u_v118⟩ := hz9
                    have hH : HT D cs A T O X H := hH
                    refine W.widen (k := 0) (n := 0) (Nat.le_of_ble_eq_true rfl) (Nat.le_of_ble_eq_true rfl) ?_
                    refine lv_iand hx hb dX11_takeTurns_121 ?_
                    refine lv_topi (fun v121 ev121 => ?_)
                    have tv121 : 0 ≤ v121.toInt ∧ v121.toInt ≤ v118.toInt := by rw [ev121]; exact and_r (by omega)
                    refine lv_iconst (v := (-1)) hx hb dX11_takeTurns_122 (by decide) ?_
                    refine lv_ixor hx hb dX11_takeTurns_123 ?_
                    refine lv_topi (fun v123 ev123 => ?_)
                    refine lv_iand hx hb dX11_takeTurns_124 ?_
                    refine lv_topi (fun v124 ev124 => ?_)
                    refine lv_goto (tgt := 129) hx hb dX11_takeTurns_125 (by decide) ?_
                    exact J129 v124 _ _ _  hH hS (lv_sub hl [0, 1, 2, 3, 4, 5, 6] rfl)
                refine lv_if_le (tgt := 98) hx hb dX11_takeTurns_91 (by decide) (fun c91 => ?_) (fun c91 => ?_)
                · skip
                  have tc91 := f_le (k := 0) (by decide) c91
                  refine lv_iconst (v := 0) hx hb dX11_takeTurns_98 (by decide) ?_
                  exact J99 0 _ _ _ (by decide) (by decide) hH hS (lv_sub hl [0, 1, 2, 3, 4, 5] rfl)
                · skip
                  have tc91 := f_nle (k := 0) (by decide) c91
                  refine lv_iconst (v := 1) hx hb dX11_takeTurns_94 (by decide) ?_
                  refine lv_goto (tgt := 99) hx hb dX11_takeTurns_95 (by decide) ?_
                  exact J99 1 _ _ _ (by decide) (by decide) hH hS (lv_sub hl [0, 1, 2, 3, 4, 5] rfl)
        refine lv_istore (lv' := [(5, .int 0), (0, .ref a0), (1, .int x1), (2, .int x2), (3, .int x3), (4, .int x4)]) hx hb dX11_takeTurns_46 hl (by decide) rfl (fun ls hl => ?_)
        exact J48 _ 0 _ _ _ rfl (by decide) (by decide) hH hS (lv_sub hl [0, 1, 2, 3, 4, 5] rfl)
      · skip
        have tc21 := f_nlt (k := 5) (by decide) c21
        exfalso; omega
  · skip
    have fuc11 := full_i v6
    have fvc11 := full_i v8
    have tc11 := g_nlt c11
    exact te_v hx hb hr hlocks hH hS rfl dX11_takeTurns_14
set_option maxHeartbeats 4000000 in
set_option maxRecDepth 100000 in
theorem s_FW_takeTurns0 (l : Launch) (D : va_G) (cs : CS) (kf : KF) (T : TF) (O : List Nat) (X : va_W) (a0 w hw gw ch gq : Nat) (x1 : Int32) (x2 : Int32) (x3 : Int32) (x4 : Int32) (t_a0 : T a0 = some (21, w, ch)) (t_w : isW T w hw gw) (t_ch : T ch = some (10, gq, 0)) (l_x1 : 0 ≤ x1.toInt) (u_x1 : x1.toInt ≤ 0) (hO : okO T O [1, 7, 12, 15, 16, 19, 20, 21]) : TK l D cs kf yX11_takeTurns cX11_takeTurns 8 none { frames := 10, cells := 0, slots := 0, locals := 260 } [.ref a0, .int x1, .int x2, .int x3, .int x4] T O X (Tv D cs (fun u => u = (T, O, X))) := by
  refine tk_of (by decide) (Nat.le_of_ble_eq_true rfl) (fun p e s m below meth c ls A H locs hx hb hr hml hown hts hlocks hnm hkb hH hS hA hOX hks hE hl => ?_)
  have hown : s.vm.findClass RX11 = some m.cls := hown
  have hl : lv_has ls 8 [(0, .ref a0), (1, .int x1), (2, .int x2), (3, .int x3), (4, .int x4)] := hl
  have b1_w := t_w.2.1
  have b2_w := t_w.2.2
  refine lv_iload hx hb dX11_takeTurns_0 (lv_at hl 4 rfl) ?_
  refine lv_iload_n hx hb dX11_takeTurns_2 rfl (lv_at hl 2 rfl) ?_
  refine tk_i hH hS hA (tr_S (n := 1) (As := [.int x2]) hx hb hml hown hts hkb hH hOX hks hE hS hA (s_bitCount l D cs kf T O X x2  (hO.sub (by decide))) kw_893 kw_692 kw_20 kw_693 (by decide +kernel) ⟨Nat.le_of_ble_eq_true rfl, Nat.le_of_ble_eq_true rfl⟩ rfl rfl hl.1 (Nat.le_of_ble_eq_true rfl) dX11_takeTurns_3 ⟨Nat.le_of_ble_eq_true rfl, Nat.le_of_ble_eq_true rfl⟩) (fun v3 u H locs hz9 hH hS => ?_)
  obtain ⟨rfl, l_v3, u_v3⟩ := hz9
  have hH : HT D cs A T O X H := hH
  refine W.widen (k := 0) (n := 0) (Nat.le_of_ble_eq_true rfl) (Nat.le_of_ble_eq_true rfl) ?_
  refine lv_iadd hx hb dX11_takeTurns_6 ?_
  refine lv_topi (fun v6 ev6 => ?_)
  refine lv_aload_n hx hb dX11_takeTurns_7 rfl (lv_at hl 0 rfl) ?_
  refine t_get (ci := 11) (lst := ft11 w ch) (C := RX11) (F := TX11) (N := 20) hx hb hts uX11 hown hkb hH t_a0 (hO.no t_a0 (by decide)) (fun _ h9 => h9) rfl rfl 19 (by decide) rfl kw_379 (fun _ h9 => h9) dX11_takeTurns_8 (fun v9 h9 => ?_)
  obtain ⟨v8, rfl⟩ := h9
  refine lv_icmp_gt (tgt := 15) hx hb dX11_takeTurns_11 (by decide) (fun c11 => ?_) (fun c11 => ?_)
  · skip
    have fuc11 := full_i v6
    have fvc11 := full_i v8
    have tc11 := g_lt c11
    refine lv_iload_n hx hb dX11_takeTurns_15 rfl (lv_at hl 2 rfl) ?_
    refine lv_if_eq (tgt := 24) hx hb dX11_takeTurns_16 (by decide) (fun c16 => ?_) (fun c16 => ?_)
    · skip
      have tc16 := f_eq (k := 0) (by decide) c16
      refine lv_aload_n hx hb dX11_takeTurns_24 rfl (lv_at hl 0 rfl) ?_
      refine lv_iload hx hb dX11_takeTurns_25 (lv_at hl 4 rfl) ?_
      refine t_put (ci := 11) (lst := ft11 w ch) (v := .int x4) (ty := tyX11 19) (C := RX11) (F := TX11) (N := 20) hx hb hts uX11 tyX11 tyX11_ok nmX11 hown hkb hH hS t_a0 (hO.no t_a0 (by decide)) (fun _ => Iff.rfl) rfl rfl 19 (by decide) rfl (⟨_, rfl⟩) kw_379 (fun _ h9 => h9) rfl (tyX11_ok 19 (by decide)) rfl rfl dX11_takeTurns_27 (fun H locs hH hS => ?_)
      refine lv_aload_n hx hb dX11_takeTurns_30 rfl (lv_at hl 0 rfl) ?_
      refine t_get (ci := 11) (lst := ft11 w ch) (C := RX11) (F := TX11) (N := 20) hx hb hts uX11 hown hkb hH t_a0 (hO.no t_a0 (by decide)) (fun _ h9 => h9) rfl rfl 17 (by decide) rfl kw_377 (fun _ h9 => h9) dX11_takeTurns_31 (fun v9 h9 => ?_)
      obtain ⟨v31, rfl, t_v31⟩ := h9
      refine lv_iconst (v := 0) hx hb dX11_takeTurns_34 (by decide) ?_
      refine lv_aload_n hx hb dX11_takeTurns_35 rfl (lv_at hl 0 rfl) ?_
      refine t_get (ci := 11) (lst := ft11 w ch) (C := RX11) (F := TX11) (N := 20) hx hb hts uX11 hown hkb hH t_a0 (hO.no t_a0 (by decide)) (fun _ h9 => h9) rfl rfl 18 (by decide) rfl kw_378 (fun _ h9 => h9) dX11_takeTurns_36 (fun v9 h9 => ?_)
      obtain ⟨v36, rfl, t_v36⟩ := h9
      refine lv_iconst (v := 0) hx hb dX11_takeTurns_39 (by decide) ?_
      refine lv_iconst (v := 5) hx hb dX11_takeTurns_40 (by decide) ?_
      refine t_copy hx hb (by rw [hml]; exact hl.1.symm) hown (hts _ kw_1172) (hts _ kw_734) (hts _ kw_733) (hts _ kw_23) hkb hH hS t_v31 (hO.no t_v31 (by decide)) t_v36 (hO.no t_v36 (by decide)) (by decide) (by decide) (by decide) (by decide) (by decide) (Nat.le_of_ble_eq_true rfl) (Nat.le_of_ble_eq_true rfl) dX11_takeTurns_41 (fun H locs hH hS => ?_)
      exact te_v hx hb hr hlocks hH hS rfl dX11_takeTurns_44
    · skip
      have tc16 := f_ne (k := 0) (by decide) c16
      refine lv_iload_n hx hb dX11_takeTurns_19 rfl (lv_at hl 1 rfl) ?_
      refine lv_iconst (v := 5) hx hb dX11_takeTurns_20 (by decide) ?_
      refine lv_icmp_lt (tgt := 45) hx hb dX11_takeTurns_21 (by decide) (fun c21 => ?_) (fun c21 => ?_)
      · skip
        have tc21 := f_lt (k := 5) (by decide) c21
        refine lv_iconst (v := 0) hx hb dX11_takeTurns_45 (by decide) ?_
        have J48 : ∀ (n : Nat) (p48_5 : Int32) (H : Heap) (locs : List Loc) (ls : Array Slot), (5 - p48_5.toInt).toNat = n → (0 ≤ p48_5.toInt) → (p48_5.toInt ≤ 5) → HT D cs A T O X H → va_S A s.heap H locs → lv_has ls 8 [(5, .int p48_5), (0, .ref a0), (1, .int x1), (2, .int x2), (3, .int x3), (4, .int x4)] → W p l e { frames := 10, cells := 0, slots := 0, locals := 260 } s m [.ref a0, .int x1, .int x2, .int x3, .int x4].toArray below meth c H locs 0 0 (MQ below (Tv D cs (fun u => u = (T, O, X)) A) [.ref a0, .int x1, .int x2, .int x3, .int x4].toArray s 0 0 A) (F0 m 48 ls []) := by
          intro n
          induction n using Nat.strongRecOn with
          | _ n ih48 =>
            intro p48_5 H locs ls hm48 l_p48_5 u_p48_5 hH hS hl
            refine lv_iload hx hb dX11_takeTurns_48 (lv_at hl 0 rfl) ?_
            refine lv_aload_n hx hb dX11_takeTurns_50 rfl (lv_at hl 1 rfl) ?_
            refine t_get (ci := 11) (lst := ft11 w ch) (C := RX11) (F := TX11) (N := 20) hx hb hts uX11 hown hkb hH t_a0 (hO.no t_a0 (by decide)) (fun _ h9 => h9) rfl rfl 3 (by decide) rfl kw_363 (fun _ h9 => h9) dX11_takeTurns_51 (fun v9 h9 => ?_)
            have h9 : v9 = .ref w := h9
            subst h9
            refine t_get (ci := 9) (lst := ft9w hw gw) (C := RX9) (F := TX9) (N := 14) hx hb hts uX9 hown hkb hH t_w.1 (hO.no t_w.1 (by decide)) (fun fs => (ob9w t_w fs).mp) rfl rfl 1 (by decide) rfl kw_112 (fun _ h9 => h9) dX11_takeTurns_54 (fun v9 h9 => ?_)
            have h9 : v9 = .int (nI gw) := h9
            subst h9
            have e_gw : (nI gw).toInt = gw := nI_toInt (by have := t_w.2.2; omega)
            have b_gw := t_w.2.2
            refine lv_icmp_ge (tgt := 167) hx hb dX11_takeTurns_57 (by decide) (fun c57 => ?_) (fun c57 => ?_)
            · skip
              have fuc57 := full_i p48_5
              have fvc57 := full_i (nI gw)
              have tc57 := g_le c57
              exact te_v hx hb hr hlocks hH hS rfl dX11_takeTurns_167
            · skip
              have fuc57 := full_i p48_5
              have fvc57 := full_i (nI gw)
              have tc57 := g_nle c57
              refine lv_iload_n hx hb dX11_takeTurns_60 rfl (lv_at hl 3 rfl) ?_
              refine lv_iload hx hb dX11_takeTurns_61 (lv_at hl 0 rfl) ?_
              refine lv_ishr hx hb dX11_takeTurns_63 ?_
              refine lv_topi (fun v63 ev63 => ?_)
              refine lv_iconst (v := 1) hx hb dX11_takeTurns_64 (by decide) ?_
              refine lv_iand hx hb dX11_takeTurns_65 ?_
              refine lv_topi (fun v65 ev65 => ?_)
              have tv65 : 0 ≤ v65.toInt ∧ v65.toInt ≤ 1 := by rw [ev65]; exact and_r (by decide)
              have J161 : ∀  (H : Heap) (locs : List Loc) (ls : Array Slot), HT D cs A T O X H → va_S A s.heap H locs → lv_has ls 8 [(5, .int p48_5), (0, .ref a0), (1, .int x1), (2, .int x2), (3, .int x3), (4, .int x4)] → W p l e { frames := 10, cells := 0, slots := 0, locals := 260 } s m [.ref a0, .int x1, .int x2, .int x3, .int x4].toArray below meth c H locs 0 0 (MQ below (Tv D cs (fun u => u = (T, O, X)) A) [.ref a0, .int x1, .int x2, .int x3, .int x4].toArray s 0 0 A) (F0 m 161 ls []) := by
                intro  H locs ls  hH hS hl
                obtain ⟨v161, ev161⟩ : ∃ y : Int32, y = p48_5 + 1 := ⟨_, rfl⟩
                have tv161 : v161.toInt = p48_5.toInt + (1) := by rw [ev161]; exact add_i rfl (by decide) (by omega) (by omega)
                refine lv_iinc (v := v161) (lv' := [(5, .int v161), (0, .ref a0), (1, .int x1), (2, .int x2), (3, .int x3), (4, .int x4)]) hx hb dX11_takeTurns_161 hl (k := 0) rfl (by rw [ev161]; rfl) (by decide) rfl (fun ls hl => ?_)
                refine lv_goto (tgt := 48) hx hb dX11_takeTurns_164 (by decide) ?_
                exact ih48 _ (by omega) v161 _ _ _ rfl (by omega) (by omega) hH hS (lv_sub hl [0, 1, 2, 3, 4, 5] rfl)
              refine lv_if_eq (tgt := 161) hx hb dX11_takeTurns_66 (by decide) (fun c66 => ?_) (fun c66 => ?_)
              · skip
                have tc66 := f_eq (k := 0) (by decide) c66
                exact J161  _ _ _  hH hS (lv_sub hl [0, 1, 2, 3, 4, 5] rfl)
              · skip
                have tc66 := f_ne (k := 0) (by decide) c66
                refine lv_aload_n hx hb dX11_takeTurns_69 rfl (lv_at hl 1 rfl) ?_
                refine t_get (ci := 11) (lst := ft11 w ch) (C := RX11) (F := TX11) (N := 20) hx hb hts uX11 hown hkb hH t_a0 (hO.no t_a0 (by decide)) (fun _ h9 => h9) rfl rfl 17 (by decide) rfl kw_377 (fun _ h9 => h9) dX11_takeTurns_70 (fun v9 h9 => ?_)
                obtain ⟨v70, rfl, t_v70⟩ := h9
                refine lv_iload_n hx hb dX11_takeTurns_73 rfl (lv_at hl 2 rfl) ?_
                refine lv_iload hx hb dX11_takeTurns_74 (lv_at hl 0 rfl) ?_
                refine t_ist hx hb hkb hH hS t_v70 (hO.no t_v70 (by decide)) (by omega) (by omega) (cp_0 _) dX11_takeTurns_76 (fun H locs hH hS => ?_)
                refine lv_aload_n hx hb dX11_takeTurns_77 rfl (lv_at hl 1 rfl) ?_
                refine t_get (ci := 11) (lst := ft11 w ch) (C := RX11) (F := TX11) (N := 20) hx hb hts uX11 hown hkb hH t_a0 (hO.no t_a0 (by decide)) (fun _ h9 => h9) rfl rfl 14 (by decide) rfl kw_374 (fun _ h9 => h9) dX11_takeTurns_78 (fun v9 h9 => ?_)
                obtain ⟨v78, rfl, t_v78⟩ := h9
                refine lv_aload_n hx hb dX11_takeTurns_81 rfl (lv_at hl 1 rfl) ?_
                refine lv_iload hx hb dX11_takeTurns_82 (lv_at hl 0 rfl) ?_
                refine tk_r hH hS hA (tr_V (n := 1) (As := [.int p48_5]) hx hb hml hown hts hkb hH hOX hks hE hS hA (s_FW_rowsOf l D cs kf T O X a0 w hw gw ch gq p48_5 t_a0 t_w t_ch (by omega) (by omega) (hO.sub (by decide))) kw_830 kw_832 ks_21 kw_1 kw_833 (by decide +kernel) ⟨Nat.le_of_ble_eq_true rfl, Nat.le_of_ble_eq_true rfl⟩ (HT.recv (ci := 11) hkb hH t_a0 (hO.no t_a0 (by decide)) rfl) rfl rfl hl.1 (Nat.le_of_ble_eq_true rfl) dX11_takeTurns_84 ⟨Nat.le_of_ble_eq_true rfl, Nat.le_of_ble_eq_true rfl⟩) (fun v84 u H locs hz9 hH hS => ?_)
                obtain ⟨hu9, t_v84⟩ := hz9
                have hu9 : u = (T, O, X) := hu9
                subst hu9
                have hH : HT D cs A T O X H := hH
                refine W.widen (k := 0) (n := 0) (Nat.le_of_ble_eq_true rfl) (Nat.le_of_ble_eq_true rfl) ?_
                refine lv_iload_n hx hb dX11_takeTurns_87 rfl (lv_at hl 4 rfl) ?_
                refine tk_i hH hS hA (tr_V (n := 2) (As := [.ref v84, .int x3]) hx hb hml hown hts hkb hH hOX hks hE hS hA (s_Ways_find l D cs kf T O X v78 v84 x3 t_v78 t_v84 (hO.sub (by decide))) kw_912 kw_913 kw_914 kw_9 kw_915 (by decide +kernel) ⟨Nat.le_of_ble_eq_true rfl, Nat.le_of_ble_eq_true rfl⟩ (HT.recv (ci := 10) hkb hH t_v78 (hO.no t_v78 (by decide)) rfl) rfl rfl hl.1 (Nat.le_of_ble_eq_true rfl) dX11_takeTurns_88 ⟨Nat.le_of_ble_eq_true rfl, Nat.le_of_ble_eq_true rfl⟩) (fun v88 u H locs hz9 hH hS => ?_)
                obtain ⟨rfl, l_v88, u_v88⟩ := hz9
                have hH : HT D cs A T O X H := hH
                refine W.widen (k := 0) (n := 0) (Nat.le_of_ble_eq_true rfl) (Nat.le_of_ble_eq_true rfl) ?_
                have J99 : ∀ (k99_0 : Int32) (H : Heap) (locs : List Loc) (ls : Array Slot), (0 ≤ k99_0.toInt) → (k99_0.toInt ≤ 1) → HT D cs A T O X H → va_S A s.heap H locs → lv_has ls 8 [(5, .int p48_5), (0, .ref a0), (1, .int x1), (2, .int x2), (3, .int x3), (4, .int x4)] → W p l e { frames := 10, cells := 0, slots := 0, locals := 260 } s m [.ref a0, .int x1, .int x2, .int x3, .int x4].toArray below meth c H locs 0 0 (MQ below (Tv D cs (fun u => u = (T, O, X)) A) [.ref a0, .int x1, .int x2, .int x3, .int x4].toArray s 0 0 A) (F0 m 99 ls [.int k99_0]) := by
                  intro k99_0 H locs ls l_k99_0 u_k99_0 hH hS hl
                  refine lv_istore (lv' := [(6, .int k99_0), (5, .int p48_5), (0, .ref a0), (1, .int x1), (2, .int x2), (3, .int x3), (4, .int x4)]) hx hb dX11_takeTurns_99 hl (by decide) rfl (fun ls hl => ?_)
                  refine lv_iload hx hb dX11_takeTurns_101 (lv_at hl 0 rfl) ?_
                  have J129 : ∀ (k129_0 : Int32) (H : Heap) (locs : List Loc) (ls : Array Slot), HT D cs A T O X H → va_S A s.heap H locs → lv_has ls 8 [(6, .int k99_0), (5, .int p48_5), (0, .ref a0), (1, .int x1), (2, .int x2), (3, .int x3), (4, .int x4)] → W p l e { frames := 10, cells := 0, slots := 0, locals := 260 } s m [.ref a0, .int x1, .int x2, .int x3, .int x4].toArray below meth c H locs 0 0 (MQ below (Tv D cs (fun u => u = (T, O, X)) A) [.ref a0, .int x1, .int x2, .int x3, .int x4].toArray s 0 0 A) (F0 m 129 ls [.int k129_0]) := by
                    intro k129_0 H locs ls  hH hS hl
                    refine lv_istore (lv' := [(7, .int k129_0), (6, .int k99_0), (5, .int p48_5), (0, .ref a0), (1, .int x1), (2, .int x2), (3, .int x3), (4, .int x4)]) hx hb dX11_takeTurns_129 hl (by decide) rfl (fun ls hl => ?_)
                    refine lv_aload_n hx hb dX11_takeTurns_131 rfl (lv_at hl 3 rfl) ?_
                    refine lv_iload_n hx hb dX11_takeTurns_132 rfl (lv_at hl 4 rfl) ?_
                    refine lv_iconst (v := 1) hx hb dX11_takeTurns_133 (by decide) ?_
                    refine lv_iadd hx hb dX11_takeTurns_134 ?_
                    refine lv_topi (fun v134 ev134 => ?_)
                    have tv134 : v134.toInt = x1.toInt + (1) := by rw [ev134]; exact add_i rfl (by decide : (1 : Int32).toInt = 1) (by omega) (by omega)
                    refine lv_iload_n hx hb dX11_takeTurns_135 rfl (lv_at hl 5 rfl) ?_
                    refine lv_iconst (v := 1) hx hb dX11_takeTurns_136 (by decide) ?_
                    refine lv_iload hx hb dX11_takeTurns_137 (lv_at hl 2 rfl) ?_
                    refine lv_ishl hx hb dX11_takeTurns_139 ?_
                    refine lv_topi (fun v139 ev139 => ?_)
                    have tv139 : 1 ≤ v139.toInt ∧ v139.toInt ≤ 16 := by rw [ev139]; exact shl_b 4 (by decide) (by omega) (by omega)
                    refine lv_iconst (v := (-1)) hx hb dX11_takeTurns_140 (by decide) ?_
                    refine lv_ixor hx hb dX11_takeTurns_141 ?_
                    refine lv_topi (fun v141 ev141 => ?_)
                    refine lv_iand hx hb dX11_takeTurns_142 ?_
                    refine lv_topi (fun v142 ev142 => ?_)
                    refine lv_iload hx hb dX11_takeTurns_143 (lv_at hl 0 rfl) ?_
                    refine lv_iload hx hb dX11_takeTurns_145 (lv_at hl 7 rfl) ?_
                    refine lv_iload hx hb dX11_takeTurns_147 (lv_at hl 1 rfl) ?_
                    have J157 : ∀ (k157_0 : Int32) (H : Heap) (locs : List Loc) (ls : Array Slot), (0 ≤ k157_0.toInt) → (k157_0.toInt ≤ 1) → HT D cs A T O X H → va_S A s.heap H locs → lv_has ls 8 [(5, .int p48_5), (0, .ref a0), (1, .int x1), (2, .int x2), (3, .int x3), (4, .int x4)] → W p l e { frames := 10, cells := 0, slots := 0, locals := 260 } s m [.ref a0, .int x1, .int x2, .int x3, .int x4].toArray below meth c H locs 0 0 (MQ below (Tv D cs (fun u => u = (T, O, X)) A) [.ref a0, .int x1, .int x2, .int x3, .int x4].toArray s 0 0 A) (F0 m 157 ls [.int k157_0, .int x4, .int k129_0, .int v142, .int v134, .ref a0]) := by
                      intro k157_0 H locs ls l_k157_0 u_k157_0 hH hS hl
                      refine lv_iadd hx hb dX11_takeTurns_157 ?_
                      refine lv_topi (fun v157 ev157 => ?_)
                      refine tk_v hH hS hA (tr_V (n := 4) (As := [.int v134, .int v142, .int k129_0, .int v157]) hx hb hml hown hts hkb hH hOX hks hE hS hA (s_FW_takeTurns1 l D cs kf T O X a0 w hw gw ch gq v134 v142 k129_0 v157 t_a0 t_w t_ch (by omega) (by omega) (hO.sub (by decide))) kw_1168 kw_1170 ks_42 kw_1 kw_1171 (by decide +kernel) ⟨Nat.le_of_ble_eq_true rfl, Nat.le_of_ble_eq_true rfl⟩ (HT.recv (ci := 11) hkb hH t_a0 (hO.no t_a0 (by decide)) rfl) rfl rfl hl.1 (Nat.le_of_ble_eq_true rfl) dX11_takeTurns_158 ⟨Nat.le_of_ble_eq_true rfl, Nat.le_of_ble_eq_true rfl⟩) (fun u H locs hz9 hH hS => ?_)
                      have hz9 : u = (T, O, X) := hz9
                      subst hz9
                      have hH : HT D cs A T O X H := hH
                      refine W.widen (k := 0) (n := 0) (Nat.le_of_ble_eq_true rfl) (Nat.le_of_ble_eq_true rfl) ?_
                      exact J161  _ _ _  hH hS (lv_sub hl [0, 1, 2, 3, 4, 5] rfl)
                    refine lv_if_eq (tgt := 156) hx hb dX11_takeTurns_149 (by decide) (fun c149 => ?_) (fun c149 => ?_)
                    · skip
                      have tc149 := f_eq (k := 0) (by decide) c149
                      refine lv_iconst (v := 0) hx hb dX11_takeTurns_156 (by decide) ?_
                      exact J157 0 _ _ _ (by decide) (by decide) hH hS (lv_sub hl [2, 3, 4, 5, 6, 7] rfl)
                    · skip
                      have tc149 := f_ne (k := 0) (by decide) c149
                      refine lv_iconst (v := 1) hx hb dX11_takeTurns_152 (by decide) ?_
                      refine lv_goto (tgt := 157) hx hb dX11_takeTurns_153 (by decide) ?_
                      exact J157 1 _ _ _ (by decide) (by decide) hH hS (lv_sub hl [2, 3, 4, 5, 6, 7] rfl)
                  refine lv_if_eq (tgt := 128) hx hb dX11_takeTurns_103 (by decide) (fun c103 => ?_) (fun c103 => ?_)
                  · skip
                    have tc103 := f_eq (k := 0) (by decide) c103
                    refine lv_iload_n hx hb dX11_takeTurns_128 rfl (lv_at hl 5 rfl) ?_
                    exact J129 x3 _ _ _  hH hS (lv_sub hl [0, 1, 2, 3, 4, 5, 6] rfl)
                  · skip
                    have tc103 := f_ne (k := 0) (by decide) c103
                    refine lv_iload_n hx hb dX11_takeTurns_106 rfl (lv_at hl 5 rfl) ?_
                    refine lv_aload_n hx hb dX11_takeTurns_107 rfl (lv_at hl 2 rfl) ?_
                    refine t_get (ci := 11) (lst := ft11 w ch) (C := RX11) (F := TX11) (N := 20) hx hb hts uX11 hown hkb hH t_a0 (hO.no t_a0 (by decide)) (fun _ h9 => h9) rfl rfl 14 (by decide) rfl kw_374 (fun _ h9 => h9) dX11_takeTurns_108 (fun v9 h9 => ?_)
                    obtain ⟨v108, rfl, t_v108⟩ := h9
                    refine tk_i hH hS hA (tr_V (n := 0) (As := []) hx hb hml hown hts hkb hH hOX hks hE hS hA (s_Ways_pathSet l D cs kf T O X v108 t_v108 (hO.sub (by decide))) kw_926 kw_927 kw_928 kw_9 kw_929 (by decide +kernel) ⟨Nat.le_of_ble_eq_true rfl, Nat.le_of_ble_eq_true rfl⟩ (HT.recv (ci := 10) hkb hH t_v108 (hO.no t_v108 (by decide)) rfl) rfl rfl hl.1 (Nat.le_of_ble_eq_true rfl) dX11_takeTurns_111 ⟨Nat.le_of_ble_eq_true rfl, Nat.le_of_ble_eq_true rfl⟩) (fun v111 u H locs hz9 hH hS => ?_)
                    have hz9 : u = (T, O, X) := hz9
                    subst hz9
                    have hH : HT D cs A T O X H := hH
                    refine W.widen (k := 0) (n := 0) (Nat.le_of_ble_eq_true rfl) (Nat.le_of_ble_eq_true rfl) ?_
                    refine lv_aload_n hx hb dX11_takeTurns_114 rfl (lv_at hl 2 rfl) ?_
                    refine t_get (ci := 11) (lst := ft11 w ch) (C := RX11) (F := TX11) (N := 20) hx hb hts uX11 hown hkb hH t_a0 (hO.no t_a0 (by decide)) (fun _ h9 => h9) rfl rfl 3 (by decide) rfl kw_363 (fun _ h9 => h9) dX11_takeTurns_115 (fun v9 h9 => ?_)
                    have h9 : v9 = .ref w := h9
                    subst h9
                    refine tk_i hH hS hA (tr_V (n := 0) (As := []) hx hb hml hown hts hkb hH hOX hks hE hS hA (s_Wall_middles l D cs kf T O X w hw gw t_w (hO.sub (by decide))) kw_892 kw_683 kw_684 kw_5 kw_685 (by decide +kernel) ⟨Nat.le_of_ble_eq_true rfl, Nat.le_of_ble_eq_true rfl⟩ (HT.recv (ci := 9) hkb hH t_w.1 (hO.no t_w.1 (by decide)) rfl) rfl rfl hl.1 (Nat.le_of_ble_eq_true rfl) dX11_takeTurns_118 ⟨Nat.le_of_ble_eq_true rfl, Nat.le_of_ble_eq_true rfl⟩) (fun v118 u H locs hz9 hH hS => ?_)
                    obtain ⟨rfl, l_v118, u_v118⟩ := hz9
                    have hH : HT D cs A T O X H := hH
                    refine W.widen (k := 0) (n := 0) (Nat.le_of_ble_eq_true rfl) (Nat.le_of_ble_eq_true rfl) ?_
                    refine lv_iand hx hb dX11_takeTurns_121 ?_
                    refine lv_topi (fun v121 ev121 => ?_)
                    have tv121 : 0 ≤ v121.toInt ∧ v121.toInt ≤ v118.toInt := by rw [ev121]; exact and_r (by omega)
                    refine lv_iconst (v := (-1)) hx hb dX11_takeTurns_122 (by decide) ?_
                    refine lv_ixor hx hb dX11_takeTurns_123 ?_
                    refine lv_topi (fun v123 ev123 => ?_)
                    refine lv_iand hx hb dX11_takeTurns_124 ?_
                    refine lv_topi (fun v124 ev124 => ?_)
                    refine lv_goto (tgt := 129) hx hb dX11_takeTurns_125 (by decide) ?_
                    exact J129 v124 _ _ _  hH hS (lv_sub hl [0, 1, 2, 3, 4, 5, 6] rfl)
                refine lv_if_le (tgt := 98) hx hb dX11_takeTurns_91 (by decide) (fun c91 => ?_) (fun c91 => ?_)
                · skip
                  have tc91 := f_le (k := 0) (by decide) c91
                  refine lv_iconst (v := 0) hx hb dX11_takeTurns_98 (by decide) ?_
                  exact J99 0 _ _ _ (by decide) (by decide) hH hS (lv_sub hl [0, 1, 2, 3, 4, 5] rfl)
                · skip
                  have tc91 := f_nle (k := 0) (by decide) c91
                  refine lv_iconst (v := 1) hx hb dX11_takeTurns_94 (by decide) ?_
                  refine lv_goto (tgt := 99) hx hb dX11_takeTurns_95 (by decide) ?_
                  exact J99 1 _ _ _ (by decide) (by decide) hH hS (lv_sub hl [0, 1, 2, 3, 4, 5] rfl)
        refine lv_istore (lv' := [(5, .int 0), (0, .ref a0), (1, .int x1), (2, .int x2), (3, .int x3), (4, .int x4)]) hx hb dX11_takeTurns_46 hl (by decide) rfl (fun ls hl => ?_)
        exact J48 _ 0 _ _ _ rfl (by decide) (by decide) hH hS (lv_sub hl [0, 1, 2, 3, 4, 5] rfl)
      · skip
        have tc21 := f_nlt (k := 5) (by decide) c21
        exfalso; omega
  · skip
    have fuc11 := full_i v6
    have fvc11 := full_i v8
    have tc11 := g_nlt c11
    exact te_v hx hb hr hlocks hH hS rfl dX11_takeTurns_14
set_option maxHeartbeats 4000000 in
set_option maxRecDepth 100000 in
theorem s_FW_inTurn (l : Launch) (D : va_G) (cs : CS) (kf : KF) (T : TF) (O : List Nat) (X : va_W) (a0 w hw gw ch gq : Nat) (x1 : Int32) (x2 : Int32) (t_a0 : T a0 = some (21, w, ch)) (t_w : isW T w hw gw) (t_ch : T ch = some (10, gq, 0)) (hO : okO T O [1, 7, 12, 15, 16, 19, 20, 21]) : TK l D cs kf yX11_inTurn cX11_inTurn 3 (some (.int)) { frames := 11, cells := 0, slots := 0, locals := 287 } [.ref a0, .int x1, .int x2] T O X (Ti D cs (fun r u => u = (T, O, X))) := by
  refine tk_of (by decide) (Nat.le_of_ble_eq_true rfl) (fun p e s m below meth c ls A H locs hx hb hr hml hown hts hlocks hnm hkb hH hS hA hOX hks hE hl => ?_)
  have hown : s.vm.findClass RX11 = some m.cls := hown
  have hl : lv_has ls 3 [(0, .ref a0), (1, .int x1), (2, .int x2)] := hl
  have b1_w := t_w.2.1
  have b2_w := t_w.2.2
  refine lv_iload_n hx hb dX11_inTurn_0 rfl (lv_at hl 1 rfl) ?_
  refine lv_aload_n hx hb dX11_inTurn_1 rfl (lv_at hl 0 rfl) ?_
  refine t_get (ci := 11) (lst := ft11 w ch) (C := RX11) (F := TX11) (N := 20) hx hb hts uX11 hown hkb hH t_a0 (hO.no t_a0 (by decide)) (fun _ h9 => h9) rfl rfl 3 (by decide) rfl kw_363 (fun _ h9 => h9) dX11_inTurn_2 (fun v9 h9 => ?_)
  have h9 : v9 = .ref w := h9
  subst h9
  refine t_get (ci := 9) (lst := ft9w hw gw) (C := RX9) (F := TX9) (N := 14) hx hb hts uX9 hown hkb hH t_w.1 (hO.no t_w.1 (by decide)) (fun fs => (ob9w t_w fs).mp) rfl rfl 1 (by decide) rfl kw_112 (fun _ h9 => h9) dX11_inTurn_5 (fun v9 h9 => ?_)
  have h9 : v9 = .int (nI gw) := h9
  subst h9
  have e_gw : (nI gw).toInt = gw := nI_toInt (by have := t_w.2.2; omega)
  have b_gw := t_w.2.2
  refine lv_iushr hx hb dX11_inTurn_8 rfl ?_
  refine lv_topi (fun v8 ev8 => ?_)
  refine lv_if_eq (tgt := 15) hx hb dX11_inTurn_9 (by decide) (fun c9 => ?_) (fun c9 => ?_)
  · skip
    have tc9 := f_eq (k := 0) (by decide) c9
    refine lv_iload_n hx hb dX11_inTurn_15 rfl (lv_at hl 2 rfl) ?_
    refine lv_iconst (v := 5) hx hb dX11_inTurn_16 (by decide) ?_
    refine tk_i hH hS hA (tr_S (n := 2) (As := [.int x2, .int 5]) hx hb hml hown hts hkb hH hOX hks hE hS hA (s_FW_asksRow l D cs kf T O X x2 (5) (by decide) (by decide) (hO.sub (by decide))) kw_970 kw_971 kw_1 kw_972 (by decide +kernel) ⟨Nat.le_of_ble_eq_true rfl, Nat.le_of_ble_eq_true rfl⟩ rfl rfl hl.1 (Nat.le_of_ble_eq_true rfl) dX11_inTurn_17 ⟨Nat.le_of_ble_eq_true rfl, Nat.le_of_ble_eq_true rfl⟩) (fun v17 u H locs hz9 hH hS => ?_)
    obtain ⟨rfl, l_v17, u_v17⟩ := hz9
    have hH : HT D cs A T O X H := hH
    refine W.widen (k := 0) (n := 0) (Nat.le_of_ble_eq_true rfl) (Nat.le_of_ble_eq_true rfl) ?_
    refine lv_if_ne (tgt := 26) hx hb dX11_inTurn_20 (by decide) (fun c20 => ?_) (fun c20 => ?_)
    · skip
      have tc20 := f_ne (k := 0) (by decide) c20
      refine lv_aload_n hx hb dX11_inTurn_26 rfl (lv_at hl 0 rfl) ?_
      refine lv_iconst (v := (-1)) hx hb dX11_inTurn_27 (by decide) ?_
      refine t_put (ci := 11) (lst := ft11 w ch) (v := .int (-1)) (ty := tyX11 19) (C := RX11) (F := TX11) (N := 20) hx hb hts uX11 tyX11 tyX11_ok nmX11 hown hkb hH hS t_a0 (hO.no t_a0 (by decide)) (fun _ => Iff.rfl) rfl rfl 19 (by decide) rfl (⟨_, rfl⟩) kw_379 (fun _ h9 => h9) rfl (tyX11_ok 19 (by decide)) rfl rfl dX11_inTurn_28 (fun H locs hH hS => ?_)
      refine lv_aload_n hx hb dX11_inTurn_31 rfl (lv_at hl 0 rfl) ?_
      refine lv_iconst (v := 0) hx hb dX11_inTurn_32 (by decide) ?_
      refine lv_iload_n hx hb dX11_inTurn_33 rfl (lv_at hl 1 rfl) ?_
      refine lv_aload_n hx hb dX11_inTurn_34 rfl (lv_at hl 0 rfl) ?_
      refine tk_i hH hS hA (tr_V (n := 0) (As := []) hx hb hml hown hts hkb hH hOX hks hE hS hA (s_FW_openNow l D cs kf T O X a0 w hw gw ch gq t_a0 t_w t_ch (hO.sub (by decide))) kw_846 kw_848 ks_22 kw_1 kw_849 (by decide +kernel) ⟨Nat.le_of_ble_eq_true rfl, Nat.le_of_ble_eq_true rfl⟩ (HT.recv (ci := 11) hkb hH t_a0 (hO.no t_a0 (by decide)) rfl) rfl rfl hl.1 (Nat.le_of_ble_eq_true rfl) dX11_inTurn_35 ⟨Nat.le_of_ble_eq_true rfl, Nat.le_of_ble_eq_true rfl⟩) (fun v35 u H locs hz9 hH hS => ?_)
      obtain ⟨rfl, l_v35, u_v35⟩ := hz9
      have hH : HT D cs A T O X H := hH
      refine W.widen (k := 0) (n := 0) (Nat.le_of_ble_eq_true rfl) (Nat.le_of_ble_eq_true rfl) ?_
      refine lv_iconst (v := 0) hx hb dX11_inTurn_38 (by decide) ?_
      refine tk_v hH hS hA (tr_V (n := 4) (As := [.int 0, .int x1, .int v35, .int 0]) hx hb hml hown hts hkb hH hOX hks hE hS hA (s_FW_takeTurns0 l D cs kf T O X a0 w hw gw ch gq (0) x1 v35 (0) t_a0 t_w t_ch (by decide) (by decide) (hO.sub (by decide))) kw_1168 kw_1170 ks_42 kw_1 kw_1171 (by decide +kernel) ⟨Nat.le_of_ble_eq_true rfl, Nat.le_of_ble_eq_true rfl⟩ (HT.recv (ci := 11) hkb hH t_a0 (hO.no t_a0 (by decide)) rfl) rfl rfl hl.1 (Nat.le_of_ble_eq_true rfl) dX11_inTurn_39 ⟨Nat.le_of_ble_eq_true rfl, Nat.le_of_ble_eq_true rfl⟩) (fun u H locs hz9 hH hS => ?_)
      have hz9 : u = (T, O, X) := hz9
      subst hz9
      have hH : HT D cs A T O X H := hH
      refine W.widen (k := 0) (n := 0) (Nat.le_of_ble_eq_true rfl) (Nat.le_of_ble_eq_true rfl) ?_
      refine lv_iload_n hx hb dX11_inTurn_42 rfl (lv_at hl 2 rfl) ?_
      refine lv_if_ne (tgt := 51) hx hb dX11_inTurn_43 (by decide) (fun c43 => ?_) (fun c43 => ?_)
      · skip
        have tc43 := f_ne (k := 0) (by decide) c43
        refine lv_aload_n hx hb dX11_inTurn_51 rfl (lv_at hl 0 rfl) ?_
        refine t_get (ci := 11) (lst := ft11 w ch) (C := RX11) (F := TX11) (N := 20) hx hb hts uX11 hown hkb hH t_a0 (hO.no t_a0 (by decide)) (fun _ h9 => h9) rfl rfl 18 (by decide) rfl kw_378 (fun _ h9 => h9) dX11_inTurn_52 (fun v9 h9 => ?_)
        obtain ⟨v52, rfl, t_v52⟩ := h9
        refine lv_iload_n hx hb dX11_inTurn_55 rfl (lv_at hl 1 rfl) ?_
        refine tk_i hH hS hA (tr_S (n := 1) (As := [.int x1]) hx hb hml hown hts hkb hH hOX hks hE hS hA (s_bitCount l D cs kf T O X x1  (hO.sub (by decide))) kw_893 kw_692 kw_20 kw_693 (by decide +kernel) ⟨Nat.le_of_ble_eq_true rfl, Nat.le_of_ble_eq_true rfl⟩ rfl rfl hl.1 (Nat.le_of_ble_eq_true rfl) dX11_inTurn_56 ⟨Nat.le_of_ble_eq_true rfl, Nat.le_of_ble_eq_true rfl⟩) (fun v56 u H locs hz9 hH hS => ?_)
        obtain ⟨rfl, l_v56, u_v56⟩ := hz9
        have hH : HT D cs A T O X H := hH
        refine W.widen (k := 0) (n := 0) (Nat.le_of_ble_eq_true rfl) (Nat.le_of_ble_eq_true rfl) ?_
        refine lv_iload_n hx hb dX11_inTurn_59 rfl (lv_at hl 2 rfl) ?_
        refine tk_i hH hS hA (tr_S (n := 3) (As := [.ref v52, .int v56, .int x2]) hx hb hml hown hts hkb hH hOX hks hE hS hA (s_FW_ofRow5 l D cs kf T O X v52 v56 x2 t_v52 (hO.sub (by decide))) kw_973 kw_974 kw_1 kw_975 (by decide +kernel) ⟨Nat.le_of_ble_eq_true rfl, Nat.le_of_ble_eq_true rfl⟩ rfl rfl hl.1 (Nat.le_of_ble_eq_true rfl) dX11_inTurn_60 ⟨Nat.le_of_ble_eq_true rfl, Nat.le_of_ble_eq_true rfl⟩) (fun v60 u H locs hz9 hH hS => ?_)
        have hz9 : u = (T, O, X) := hz9
        subst hz9
        have hH : HT D cs A T O X H := hH
        refine W.widen (k := 0) (n := 0) (Nat.le_of_ble_eq_true rfl) (Nat.le_of_ble_eq_true rfl) ?_
        exact te_i hx hb hr hlocks hH hS (rfl) dX11_inTurn_63
      · skip
        have tc43 := f_eq (k := 0) (by decide) c43
        refine lv_aload_n hx hb dX11_inTurn_46 rfl (lv_at hl 0 rfl) ?_
        refine t_get (ci := 11) (lst := ft11 w ch) (C := RX11) (F := TX11) (N := 20) hx hb hts uX11 hown hkb hH t_a0 (hO.no t_a0 (by decide)) (fun _ h9 => h9) rfl rfl 19 (by decide) rfl kw_379 (fun _ h9 => h9) dX11_inTurn_47 (fun v9 h9 => ?_)
        obtain ⟨v47, rfl⟩ := h9
        exact te_i hx hb hr hlocks hH hS (rfl) dX11_inTurn_50
    · skip
      have tc20 := f_eq (k := 0) (by decide) c20
      refine lv_bipush (v := (-2)) hx hb dX11_inTurn_23 (by decide) ?_
      exact te_i hx hb hr hlocks hH hS (rfl) dX11_inTurn_25
  · skip
    have tc9 := f_ne (k := 0) (by decide) c9
    refine lv_bipush (v := (-3)) hx hb dX11_inTurn_12 (by decide) ?_
    exact te_i hx hb hr hlocks hH hS (rfl) dX11_inTurn_14
