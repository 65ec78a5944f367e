set_option maxHeartbeats 4000000 in
set_option maxRecDepth 100000 in
theorem s_FW_takeTurns5 (l : Launch) (D : va_G) (cs : CS) (kf : KF) (T : TF) (O : List Nat) (X : va_W) (a0 w hw gw ch gq : Nat) (x1 : Int32) (x2 : Int32) (x3 : Int32) (x4 : Int32) (t_a0 : T a0 = some (21, w, ch)) (t_w : isW T w hw gw) (t_ch : T ch = some (10, gq, 0)) (l_x1 : 5 ≤ x1.toInt) (u_x1 : x1.toInt ≤ 5) (hO : okO T O [1, 21]) : TK l D cs kf yX11_takeTurns cX11_takeTurns 8 none { frames := 1, cells := 0, slots := 0, locals := 60 } [.ref a0, .int x1, .int x2, .int x3, .int x4] T O X (Tv D cs (fun u => u = (T, O, X))) := by
  refine tk_of (by decide) (Nat.le_of_ble_eq_true rfl) (fun p e s m below meth c ls A H locs hx hb hr hml hown hts hlocks hnm hkb hH hS hA hOX hks hE hl => ?_)
  have hown : s.vm.findClass RX11 = some m.cls := hown
  have hl : lv_has ls 8 [(0, .ref a0), (1, .int x1), (2, .int x2), (3, .int x3), (4, .int x4)] := hl
  have b1_w := t_w.2.1
  have b2_w := t_w.2.2
  refine lv_iload hx hb dX11_takeTurns_0 (lv_at hl 4 rfl) ?_
  refine lv_iload_n hx hb dX11_takeTurns_2 rfl (lv_at hl 2 rfl) ?_
  refine tk_i hH hS hA (tr_S (n := 1) (As := [.int x2]) hx hb hml hown hts hkb hH hOX hks hE hS hA (s_bitCount l D cs kf T O X x2  (hO.sub (by decide))) kw_893 kw_692 kw_20 kw_693 (by decide +kernel) ⟨Nat.le_of_ble_eq_true rfl, Nat.le_of_ble_eq_true rfl⟩ rfl rfl hl.1 (Nat.le_of_ble_eq_true rfl) dX11_takeTurns_3 ⟨Nat.le_of_ble_eq_true rfl, Nat.le_of_ble_eq_true rfl⟩) (fun v3 u H locs hz9 hH hS => ?_)
  obtain ⟨rfl, l_v3, u_v3⟩ := hz9
  have hH : HT D cs A T O X H := hH
  refine W.widen (k := 0) (n := 0) (Nat.le_of_ble_eq_true rfl) (Nat.le_of_ble_eq_true rfl) ?_
  refine lv_iadd hx hb dX11_takeTurns_6 ?_
  refine lv_topi (fun v6 ev6 => ?_)
  refine lv_aload_n hx hb dX11_takeTurns_7 rfl (lv_at hl 0 rfl) ?_
  refine t_get (ci := 11) (lst := ft11 w ch) (C := RX11) (F := TX11) (N := 20) hx hb hts uX11 hown hkb hH t_a0 (hO.no t_a0 (by decide)) (fun _ h9 => h9) rfl rfl 19 (by decide) rfl kw_379 (fun _ h9 => h9) dX11_takeTurns_8 (fun v9 h9 => ?_)
  obtain ⟨v8, rfl⟩ := h9
  refine lv_icmp_gt (tgt := 15) hx hb dX11_takeTurns_11 (by decide) (fun c11 => ?_) (fun c11 => ?_)
  · skip
    have fuc11 := full_i v6
    have fvc11 := full_i v8
    have tc11 := g_lt c11
    refine lv_iload_n hx hb dX11_takeTurns_15 rfl (lv_at hl 2 rfl) ?_
    have J24 : ∀  (H : Heap) (locs : List Loc) (ls : Array Slot), HT D cs A T O X H → va_S A s.heap H locs → lv_has ls 8 [(0, .ref a0), (4, .int x4)] → W p l e { frames := 1, cells := 0, slots := 0, locals := 60 } s m [.ref a0, .int x1, .int x2, .int x3, .int x4].toArray below meth c H locs 0 0 (MQ below (Tv D cs (fun u => u = (T, O, X)) A) [.ref a0, .int x1, .int x2, .int x3, .int x4].toArray s 0 0 A) (F0 m 24 ls []) := by
      intro  H locs ls  hH hS hl
      refine lv_aload_n hx hb dX11_takeTurns_24 rfl (lv_at hl 0 rfl) ?_
      refine lv_iload hx hb dX11_takeTurns_25 (lv_at hl 1 rfl) ?_
      refine t_put (ci := 11) (lst := ft11 w ch) (v := .int x4) (ty := tyX11 19) (C := RX11) (F := TX11) (N := 20) hx hb hts uX11 tyX11 tyX11_ok nmX11 hown hkb hH hS t_a0 (hO.no t_a0 (by decide)) (fun _ => Iff.rfl) rfl rfl 19 (by decide) rfl (⟨_, rfl⟩) kw_379 (fun _ h9 => h9) rfl (tyX11_ok 19 (by decide)) rfl rfl dX11_takeTurns_27 (fun H locs hH hS => ?_)
      refine lv_aload_n hx hb dX11_takeTurns_30 rfl (lv_at hl 0 rfl) ?_
      refine t_get (ci := 11) (lst := ft11 w ch) (C := RX11) (F := TX11) (N := 20) hx hb hts uX11 hown hkb hH t_a0 (hO.no t_a0 (by decide)) (fun _ h9 => h9) rfl rfl 17 (by decide) rfl kw_377 (fun _ h9 => h9) dX11_takeTurns_31 (fun v9 h9 => ?_)
      obtain ⟨v31, rfl, t_v31⟩ := h9
      refine lv_iconst (v := 0) hx hb dX11_takeTurns_34 (by decide) ?_
      refine lv_aload_n hx hb dX11_takeTurns_35 rfl (lv_at hl 0 rfl) ?_
      refine t_get (ci := 11) (lst := ft11 w ch) (C := RX11) (F := TX11) (N := 20) hx hb hts uX11 hown hkb hH t_a0 (hO.no t_a0 (by decide)) (fun _ h9 => h9) rfl rfl 18 (by decide) rfl kw_378 (fun _ h9 => h9) dX11_takeTurns_36 (fun v9 h9 => ?_)
      obtain ⟨v36, rfl, t_v36⟩ := h9
      refine lv_iconst (v := 0) hx hb dX11_takeTurns_39 (by decide) ?_
      refine lv_iconst (v := 5) hx hb dX11_takeTurns_40 (by decide) ?_
      refine t_copy hx hb (by rw [hml]; exact hl.1.symm) hown (hts _ kw_1172) (hts _ kw_734) (hts _ kw_733) (hts _ kw_23) hkb hH hS (fun _ h9 => h9) t_v31 (hO.no t_v31 (by decide)) t_v36 (hO.no t_v36 (by decide)) (by decide) (by decide) (by decide) (by decide) (by decide) (Nat.le_of_ble_eq_true rfl) (Nat.le_of_ble_eq_true rfl) dX11_takeTurns_41 (fun H locs hH hS => ?_)
      exact te_v hx hb hr hlocks hH hS rfl dX11_takeTurns_44
    refine lv_if_eq (tgt := 24) hx hb dX11_takeTurns_16 (by decide) (fun c16 => ?_) (fun c16 => ?_)
    · skip
      have tc16 := f_eq (k := 0) (by decide) c16
      exact J24  _ _ _  hH hS (lv_sub hl [0, 4] rfl)
    · skip
      have tc16 := f_ne (k := 0) (by decide) c16
      refine lv_iload_n hx hb dX11_takeTurns_19 rfl (lv_at hl 1 rfl) ?_
      refine lv_iconst (v := 5) hx hb dX11_takeTurns_20 (by decide) ?_
      refine lv_icmp_lt (tgt := 45) hx hb dX11_takeTurns_21 (by decide) (fun c21 => ?_) (fun c21 => ?_)
      · skip
        have tc21 := f_lt (k := 5) (by decide) c21
        exfalso; omega
      · skip
        have tc21 := f_nlt (k := 5) (by decide) c21
        exact J24  _ _ _  hH hS (lv_sub hl [0, 4] rfl)
  · skip
    have fuc11 := full_i v6
    have fvc11 := full_i v8
    have tc11 := g_nlt c11
    exact te_v hx hb hr hlocks hH hS rfl dX11_takeTurns_14
set_option maxHeartbeats 4000000 in
set_option maxRecDepth 100000 in
theorem s_FW_takeTurns4 (l : Launch) (D : va_G) (cs : CS) (kf : KF) (T : TF) (O : List Nat) (X : va_W) (a0 w hw gw ch gq : Nat) (x1 : Int32) (x2 : Int32) (x3 : Int32) (x4 : Int32) (t_a0 : T a0 = some (21, w, ch)) (t_w : isW T w hw gw) (t_ch : T ch = some (10, gq, 0)) (l_x1 : 4 ≤ x1.toInt) (u_x1 : x1.toInt ≤ 4) (hO : okO T O [1, 7, 12, 15, 16, 19, 20, 21]) : TK l D cs kf yX11_takeTurns cX11_takeTurns 8 none { frames := 6, cells := 0, slots := 0, locals := 152 } [.ref a0, .int x1, .int x2, .int x3, .int x4] T O X (Tv D cs (fun u => u = (T, O, X))) := by
  refine tk_of (by decide) (Nat.le_of_ble_eq_true rfl) (fun p e s m below meth c ls A H locs hx hb hr hml hown hts hlocks hnm hkb hH hS hA hOX hks hE hl => ?_)
  have hown : s.vm.findClass RX11 = some m.cls := hown
  have hl : lv_has ls 8 [(0, .ref a0), (1, .int x1), (2, .int x2), (3, .int x3), (4, .int x4)] := hl
  have b1_w := t_w.2.1
  have b2_w := t_w.2.2
  refine lv_iload hx hb dX11_takeTurns_0 (lv_at hl 4 rfl) ?_
  refine lv_iload_n hx hb dX11_takeTurns_2 rfl (lv_at hl 2 rfl) ?_
  refine tk_i hH hS hA (tr_S (n := 1) (As := [.int x2]) hx hb hml hown hts hkb hH hOX hks hE hS hA (s_bitCount l D cs kf T O X x2  (hO.sub (by decide))) kw_893 kw_692 kw_20 kw_693 (by decide +kernel) ⟨Nat.le_of_ble_eq_true rfl, Nat.le_of_ble_eq_true rfl⟩ rfl rfl hl.1 (Nat.le_of_ble_eq_true rfl) dX11_takeTurns_3 ⟨Nat.le_of_ble_eq_true rfl, Nat.le_of_ble_eq_true rfl⟩) (fun v3 u H locs hz9 hH hS => ?_)
  obtain ⟨rfl, l_v3, u_v3⟩ := hz9
  have hH : HT D cs A T O X H := hH
  refine W.widen (k := 0) (n := 0) (Nat.le_of_ble_eq_true rfl) (Nat.le_of_ble_eq_true rfl) ?_
  refine lv_iadd hx hb dX11_takeTurns_6 ?_
  refine lv_topi (fun v6 ev6 => ?_)
  refine lv_aload_n hx hb dX11_takeTurns_7 rfl (lv_at hl 0 rfl) ?_
  refine t_get (ci := 11) (lst := ft11 w ch) (C := RX11) (F := TX11) (N := 20) hx hb hts uX11 hown hkb hH t_a0 (hO.no t_a0 (by decide)) (fun _ h9 => h9) rfl rfl 19 (by decide) rfl kw_379 (fun _ h9 => h9) dX11_takeTurns_8 (fun v9 h9 => ?_)
  obtain ⟨v8, rfl⟩ := h9
  refine lv_icmp_gt (tgt := 15) hx hb dX11_takeTurns_11 (by decide) (fun c11 => ?_) (fun c11 => ?_)
  · skip
    have fuc11 := full_i v6
    have fvc11 := full_i v8
    have tc11 := g_lt c11
    refine lv_iload_n hx hb dX11_takeTurns_15 rfl (lv_at hl 2 rfl) ?_
    refine lv_if_eq (tgt := 24) hx hb dX11_takeTurns_16 (by decide) (fun c16 => ?_) (fun c16 => ?_)
    · skip
      have tc16 := f_eq (k := 0) (by decide) c16
      refine lv_aload_n hx hb dX11_takeTurns_24 rfl (lv_at hl 0 rfl) ?_
      refine lv_iload hx hb dX11_takeTurns_25 (lv_at hl 4 rfl) ?_
      refine t_put (ci := 11) (lst := ft11 w ch) (v := .int x4) (ty := tyX11 19) (C := RX11) (F := TX11) (N := 20) hx hb hts uX11 tyX11 tyX11_ok nmX11 hown hkb hH hS t_a0 (hO.no t_a0 (by decide)) (fun _ => Iff.rfl) rfl rfl 19 (by decide) rfl (⟨_, rfl⟩) kw_379 (fun _ h9 => h9) rfl (tyX11_ok 19 (by decide)) rfl rfl dX11_takeTurns_27 (fun H locs hH hS => ?_)
      refine lv_aload_n hx hb dX11_takeTurns_30 rfl (lv_at hl 0 rfl) ?_
      refine t_get (ci := 11) (lst := ft11 w ch) (C := RX11) (F := TX11) (N := 20) hx hb hts uX11 hown hkb hH t_a0 (hO.no t_a0 (by decide)) (fun _ h9 => h9) rfl rfl 17 (by decide) rfl kw_377 (fun _ h9 => h9) dX11_takeTurns_31 (fun v9 h9 => ?_)
      obtain ⟨v31, rfl, t_v31⟩ := h9
      refine lv_iconst (v := 0) hx hb dX11_takeTurns_34 (by decide) ?_
      refine lv_aload_n hx hb dX11_takeTurns_35 rfl (lv_at hl 0 rfl) ?_
      refine t_get (ci := 11) (lst := ft11 w ch) (C := RX11) (F := TX11) (N := 20) hx hb hts uX11 hown hkb hH t_a0 (hO.no t_a0 (by decide)) (fun _ h9 => h9) rfl rfl 18 (by decide) rfl kw_378 (fun _ h9 => h9) dX11_takeTurns_36 (fun v9 h9 => ?_)
      obtain ⟨v36, rfl, t_v36⟩ := h9
      refine lv_iconst (v := 0) hx hb dX11_takeTurns_39 (by decide) ?_
      refine lv_iconst (v := 5) hx hb dX11_takeTurns_40 (by decide) ?_
      refine t_copy hx hb (by rw [hml]; exact hl.1.symm) hown (hts _ kw_1172) (hts _ kw_734) (hts _ kw_733) (hts _ kw_23) hkb hH hS (fun _ h9 => h9) t_v31 (hO.no t_v31 (by decide)) t_v36 (hO.no t_v36 (by decide)) (by decide) (by decide) (by decide) (by decide) (by decide) (Nat.le_of_ble_eq_true rfl) (Nat.le_of_ble_eq_true rfl) dX11_takeTurns_41 (fun H locs hH hS => ?_)
      exact te_v hx hb hr hlocks hH hS rfl dX11_takeTurns_44
    · skip
      have tc16 := f_ne (k := 0) (by decide) c16
      refine lv_iload_n hx hb dX11_takeTurns_19 rfl (lv_at hl 1 rfl) ?_
      refine lv_iconst (v := 5) hx hb dX11_takeTurns_20 (by decide) ?_
      refine lv_icmp_lt (tgt := 45) hx hb dX11_takeTurns_21 (by decide) (fun c21 => ?_) (fun c21 => ?_)
      · skip
        have tc21 := f_lt (k := 5) (by decide) c21
        refine lv_iconst (v := 0) hx hb dX11_takeTurns_45 (by decide) ?_
        have J48 : ∀ (n : Nat) (p48_5 : Int32) (H : Heap) (locs : List Loc) (ls : Array Slot), (5 - p48_5.toInt).toNat = n → (0 ≤ p48_5.toInt) → (p48_5.toInt ≤ 5) → HT D cs A T O X H → va_S A s.heap H locs → lv_has ls 8 [(5, .int p48_5), (0, .ref a0), (1, .int x1), (2, .int x2), (3, .int x3), (4, .int x4)] → W p l e { frames := 6, cells := 0, slots := 0, locals := 152 } s m [.ref a0, .int x1, .int x2, .int x3, .int x4].toArray below meth c H locs 0 0 (MQ below (Tv D cs (fun u => u = (T, O, X)) A) [.ref a0, .int x1, .int x2, .int x3, .int x4].toArray s 0 0 A) (F0 m 48 ls []) := by
          intro n
          induction n using Nat.strongRecOn with
          | _ n ih48 =>
            intro p48_5 H locs ls hm48 l_p48_5 u_p48_5 hH hS hl
            refine lv_iload hx hb dX11_takeTurns_48 (lv_at hl 0 rfl) ?_
            refine lv_aload_n hx hb dX11_takeTurns_50 rfl (lv_at hl 1 rfl) ?_
            refine t_get (ci := 11) (lst := ft11 w ch) (C := RX11) (F := TX11) (N := 20) hx hb hts uX11 hown hkb hH t_a0 (hO.no t_a0 (by decide)) (fun _ h9 => h9) rfl rfl 3 (by decide) rfl kw_363 (fun _ h9 => h9) dX11_takeTurns_51 (fun v9 h9 => ?_)
            have h9 : v9 = .ref w := h9
            subst h9
            refine t_get (ci := 9) (lst := ft9w hw gw) (C := RX9) (F := TX9) (N := 14) hx hb hts uX9 hown hkb hH t_w.1 (hO.no t_w.1 (by decide)) (fun fs => (ob9w t_w fs).mp) rfl rfl 1 (by decide) rfl kw_112 (fun _ h9 => h9) dX11_takeTurns_54 (fun v9 h9 => ?_)
            have h9 : v9 = .int (nI gw) := h9
            subst h9
            have e_gw : (nI gw).toInt = gw := nI_toInt (by have := t_w.2.2; omega)
            have b_gw := t_w.2.2
            refine lv_icmp_ge (tgt := 167) hx hb dX11_takeTurns_57 (by decide) (fun c57 => ?_) (fun c57 => ?_)
            · skip
              have fuc57 := full_i p48_5
              have fvc57 := full_i (nI gw)
              have tc57 := g_le c57
              exact te_v hx hb hr hlocks hH hS rfl dX11_takeTurns_167
            · skip
              have fuc57 := full_i p48_5
              have fvc57 := full_i (nI gw)
              have tc57 := g_nle c57
              refine lv_iload_n hx hb dX11_takeTurns_60 rfl (lv_at hl 3 rfl) ?_
              refine lv_iload hx hb dX11_takeTurns_61 (lv_at hl 0 rfl) ?_
              refine lv_ishr hx hb dX11_takeTurns_63 ?_
              refine lv_topi (fun v63 ev63 => ?_)
              refine lv_iconst (v := 1) hx hb dX11_takeTurns_64 (by decide) ?_
              refine lv_iand hx hb dX11_takeTurns_65 ?_
              refine lv_topi (fun v65 ev65 => ?_)
              have tv65 : 0 ≤ v65.toInt ∧ v65.toInt ≤ 1 := by rw [ev65]; exact and_r (by decide)
              have J161 : ∀  (H : Heap) (locs : List Loc) (ls : Array Slot), HT D cs A T O X H → va_S A s.heap H locs → lv_has ls 8 [(5, .int p48_5), (0, .ref a0), (1, .int x1), (2, .int x2), (3, .int x3), (4, .int x4)] → W p l e { frames := 6, cells := 0, slots := 0, locals := 152 } s m [.ref a0, .int x1, .int x2, .int x3, .int x4].toArray below meth c H locs 0 0 (MQ below (Tv D cs (fun u => u = (T, O, X)) A) [.ref a0, .int x1, .int x2, .int x3, .int x4].toArray s 0 0 A) (F0 m 161 ls []) := by
                intro  H locs ls  hH hS hl
                obtain ⟨v161, ev161⟩ : ∃ y : Int32, y = p48_5 + 1 := ⟨_, rfl⟩
                have tv161 : v161.toInt = p48_5.toInt + (1) := by rw [ev161]; exact add_i rfl (by decide) (by omega) (by omega)
                refine lv_iinc (v := v161) (lv' := [(5, .int v161), (0, .ref a0), (1, .int x1), (2, .int x2), (3, .int x3), (4, .int x4)]) hx hb dX11_takeTurns_161 hl (k := 0) rfl (by rw [ev161]; rfl) (by decide) rfl (fun ls hl => ?_)
                refine lv_goto (tgt := 48) hx hb dX11_takeTurns_164 (by decide) ?_
                exact ih48 _ (by omega) v161 _ _ _ rfl (by omega) (by omega) hH hS (lv_sub hl [0, 1, 2, 3, 4, 5] rfl)
              refine lv_if_eq (tgt := 161) hx hb dX11_takeTurns_66 (by decide) (fun c66 => ?_) (fun c66 => ?_)
              · skip
                have tc66 := f_eq (k := 0) (by decide) c66
                exact J161  _ _ _  hH hS (lv_sub hl [0, 1, 2, 3, 4, 5] rfl)
              · skip
                have tc66 := f_ne (k := 0) (by decide) c66
                refine lv_aload_n hx hb dX11_takeTurns_69 rfl (lv_at hl 1 rfl) ?_
                refine t_get (ci := 11) (lst := ft11 w ch) (C := RX11) (F := TX11) (N := 20) hx hb hts uX11 hown hkb hH t_a0 (hO.no t_a0 (by decide)) (fun _ h9 => h9) rfl rfl 17 (by decide) rfl kw_377 (fun _ h9 => h9) dX11_takeTurns_70 (fun v9 h9 => ?_)
                obtain ⟨v70, rfl, t_v70⟩ := h9
                refine lv_iload_n hx hb dX11_takeTurns_73 rfl (lv_at hl 2 rfl) ?_
                refine lv_iload hx hb dX11_takeTurns_74 (lv_at hl 0 rfl) ?_
                refine t_ist hx hb hkb hH hS t_v70 (hO.no t_v70 (by decide)) (by omega) (by omega) (cp_0 _) dX11_takeTurns_76 (fun H locs hH hS => ?_)
                refine lv_aload_n hx hb dX11_takeTurns_77 rfl (lv_at hl 1 rfl) ?_
                refine t_get (ci := 11) (lst := ft11 w ch) (C := RX11) (F := TX11) (N := 20) hx hb hts uX11 hown hkb hH t_a0 (hO.no t_a0 (by decide)) (fun _ h9 => h9) rfl rfl 14 (by decide) rfl kw_374 (fun _ h9 => h9) dX11_takeTurns_78 (fun v9 h9 => ?_)
                obtain ⟨v78, rfl, t_v78⟩ := h9
                refine lv_aload_n hx hb dX11_takeTurns_81 rfl (lv_at hl 1 rfl) ?_
                refine lv_iload hx hb dX11_takeTurns_82 (lv_at hl 0 rfl) ?_
                refine tk_r hH hS hA (tr_V (n := 1) (As := [.int p48_5]) hx hb hml hown hts hkb hH hOX hks hE hS hA (s_FW_rowsOf l D cs kf T O X a0 w hw gw ch gq p48_5 t_a0 t_w t_ch (by omega) (by omega) (hO.sub (by decide))) kw_830 kw_832 ks_21 kw_1 kw_833 (by decide +kernel) ⟨Nat.le_of_ble_eq_true rfl, Nat.le_of_ble_eq_true rfl⟩ (HT.recv (ci := 11) hkb hH t_a0 (hO.no t_a0 (by decide)) rfl) rfl rfl hl.1 (Nat.le_of_ble_eq_true rfl) dX11_takeTurns_84 ⟨Nat.le_of_ble_eq_true rfl, Nat.le_of_ble_eq_true rfl⟩) (fun v84 u H locs hz9 hH hS => ?_)
                obtain ⟨hu9, t_v84⟩ := hz9
                have hu9 : u = (T, O, X) := hu9
                subst hu9
                have hH : HT D cs A T O X H := hH
                refine W.widen (k := 0) (n := 0) (Nat.le_of_ble_eq_true rfl) (Nat.le_of_ble_eq_true rfl) ?_
                refine lv_iload_n hx hb dX11_takeTurns_87 rfl (lv_at hl 4 rfl) ?_
                refine tk_i hH hS hA (tr_V (n := 2) (As := [.ref v84, .int x3]) hx hb hml hown hts hkb hH hOX hks hE hS hA (s_Ways_find l D cs kf T O X v78 v84 x3 t_v78 t_v84 (hO.sub (by decide))) kw_912 kw_913 kw_914 kw_9 kw_915 (by decide +kernel) ⟨Nat.le_of_ble_eq_true rfl, Nat.le_of_ble_eq_true rfl⟩ (HT.recv (ci := 10) hkb hH t_v78 (hO.no t_v78 (by decide)) rfl) rfl rfl hl.1 (Nat.le_of_ble_eq_true rfl) dX11_takeTurns_88 ⟨Nat.le_of_ble_eq_true rfl, Nat.le_of_ble_eq_true rfl⟩) (fun v88 u H locs hz9 hH hS => ?_)
                obtain ⟨rfl, l_v88, u_v88⟩ := hz9
                have hH : HT D cs A T O X H := hH
                refine W.widen (k := 0) (n := 0) (Nat.le_of_ble_eq_true rfl) (Nat.le_of_ble_eq_true rfl) ?_
                have J99 : ∀ (k99_0 : Int32) (H : Heap) (locs : List Loc) (ls : Array Slot), (0 ≤ k99_0.toInt) → (k99_0.toInt ≤ 1) → HT D cs A T O X H → va_S A s.heap H locs → lv_has ls 8 [(5, .int p48_5), (0, .ref a0), (1, .int x1), (2, .int x2), (3, .int x3), (4, .int x4)] → W p l e { frames := 6, cells := 0, slots := 0, locals := 152 } s m [.ref a0, .int x1, .int x2, .int x3, .int x4].toArray below meth c H locs 0 0 (MQ below (Tv D cs (fun u => u = (T, O, X)) A) [.ref a0, .int x1, .int x2, .int x3, .int x4].toArray s 0 0 A) (F0 m 99 ls [.int k99_0]) := by
                  intro k99_0 H locs ls l_k99_0 u_k99_0 hH hS hl
                  refine lv_istore (lv' := [(6, .int k99_0), (5, .int p48_5), (0, .ref a0), (1, .int x1), (2, .int x2), (3, .int x3), (4, .int x4)]) hx hb dX11_takeTurns_99 hl (by decide) rfl (fun ls hl => ?_)
                  refine lv_iload hx hb dX11_takeTurns_101 (lv_at hl 0 rfl) ?_
                  have J129 : ∀ (k129_0 : Int32) (H : Heap) (locs : List Loc) (ls : Array Slot), HT D cs A T O X H → va_S A s.heap H locs → lv_has ls 8 [(6, .int k99_0), (5, .int p48_5), (0, .ref a0), (1, .int x1), (2, .int x2), (3, .int x3), (4, .int x4)] → W p l e { frames := 6, cells := 0, slots := 0, locals := 152 } s m [.ref a0, .int x1, .int x2, .int x3, .int x4].toArray below meth c H locs 0 0 (MQ below (Tv D cs (fun u => u = (T, O, X)) A) [.ref a0, .int x1, .int x2, .int x3, .int x4].toArray s 0 0 A) (F0 m 129 ls [.int k129_0]) := by
                    intro k129_0 H locs ls  hH hS hl
                    refine lv_istore (lv' := [(7, .int k129_0), (6, .int k99_0), (5, .int p48_5), (0, .ref a0), (1, .int x1), (2, .int x2), (3, .int x3), (4, .int x4)]) hx hb dX11_takeTurns_129 hl (by decide) rfl (fun ls hl => ?_)
                    refine lv_aload_n hx hb dX11_takeTurns_131 rfl (lv_at hl 3 rfl) ?_
                    refine lv_iload_n hx hb dX11_takeTurns_132 rfl (lv_at hl 4 rfl) ?_
                    refine lv_iconst (v := 1) hx hb dX11_takeTurns_133 (by decide) ?_
                    refine lv_iadd hx hb dX11_takeTurns_134 ?_
                    refine lv_topi (fun v134 ev134 => ?_)
                    have tv134 : v134.toInt = x1.toInt + (1) := by rw [ev134]; exact add_i rfl (by decide : (1 : Int32).toInt = 1) (by omega) (by omega)
                    refine lv_iload_n hx hb dX11_takeTurns_135 rfl (lv_at hl 5 rfl) ?_
                    refine lv_iconst (v := 1) hx hb dX11_takeTurns_136 (by decide) ?_
                    refine lv_iload hx hb dX11_takeTurns_137 (lv_at hl 2 rfl) ?_
                    refine lv_ishl hx hb dX11_takeTurns_139 ?_
                    refine lv_topi (fun v139 ev139 => ?_)
                    have tv139 : 1 ≤ v139.toInt ∧ v139.toInt ≤ 16 := by rw [ev139]; exact shl_b 4 (by decide) (by omega) (by omega)
                    refine lv_iconst (v := (-1)) hx hb dX11_takeTurns_140 (by decide) ?_
                    refine lv_ixor hx hb dX11_takeTurns_141 ?_
                    refine lv_topi (fun v141 ev141 => ?_)
                    refine lv_iand hx hb dX11_takeTurns_142 ?_
                    refine lv_topi (fun v142 ev142 => ?_)
                    refine lv_iload hx hb dX11_takeTurns_143 (lv_at hl 0 rfl) ?_
                    refine lv_iload hx hb dX11_takeTurns_145 (lv_at hl 7 rfl) ?_
                    refine lv_iload hx hb dX11_takeTurns_147 (lv_at hl 1 rfl) ?_
                    have J157 : ∀ (k157_0 : Int32) (H : Heap) (locs : List Loc) (ls : Array Slot), (0 ≤ k157_0.toInt) → (k157_0.toInt ≤ 1) → HT D cs A T O X H → va_S A s.heap H locs → lv_has ls 8 [(5, .int p48_5), (0, .ref a0), (1, .int x1), (2, .int x2), (3, .int x3), (4, .int x4)] → W p l e { frames := 6, cells := 0, slots := 0, locals := 152 } s m [.ref a0, .int x1, .int x2, .int x3, .int x4].toArray below meth c H locs 0 0 (MQ below (Tv D cs (fun u => u = (T, O, X)) A) [.ref a0, .int x1, .int x2, .int x3, .int x4].toArray s 0 0 A) (F0 m 157 ls [.int k157_0, .int x4, .int k129_0, .int v142, .int v134, .ref a0]) := by
                      intro k157_0 H locs ls l_k157_0 u_k157_0 hH hS hl
                      refine lv_iadd hx hb dX11_takeTurns_157 ?_
                      refine lv_topi (fun v157 ev157 => ?_)
                      refine tk_v hH hS hA (tr_V (n := 4) (As := [.int v134, .int v142, .int k129_0, .int v157]) hx hb hml hown hts hkb hH hOX hks hE hS hA (s_FW_takeTurns5 l D cs kf T O X a0 w hw gw ch gq v134 v142 k129_0 v157 t_a0 t_w t_ch (by omega) (by omega) (hO.sub (by decide))) kw_1168 kw_1170 ks_42 kw_1 kw_1171 (by decide +kernel) ⟨Nat.le_of_ble_eq_true rfl, Nat.le_of_ble_eq_true rfl⟩ (HT.recv (ci := 11) hkb hH t_a0 (hO.no t_a0 (by decide)) rfl) rfl rfl hl.1 (Nat.le_of_ble_eq_true rfl) dX11_takeTurns_158 ⟨Nat.le_of_ble_eq_true rfl, Nat.le_of_ble_eq_true rfl⟩) (fun u H locs hz9 hH hS => ?_)
                      have hz9 : u = (T, O, X) := hz9
                      subst hz9
                      have hH : HT D cs A T O X H := hH
                      refine W.widen (k := 0) (n := 0) (Nat.le_of_ble_eq_true rfl) (Nat.le_of_ble_eq_true rfl) ?_
                      exact J161  _ _ _  hH hS (lv_sub hl [0, 1, 2, 3, 4, 5] rfl)
                    refine lv_if_eq (tgt := 156) hx hb dX11_takeTurns_149 (by decide) (fun c149 => ?_) (fun c149 => ?_)
                    · skip
                      have tc149 := f_eq (k := 0) (by decide) c149
                      refine lv_iconst (v := 0) hx hb dX11_takeTurns_156 (by decide) ?_
                      exact J157 0 _ _ _ (by decide) (by decide) hH hS (lv_sub hl [2, 3, 4, 5, 6, 7] rfl)
                    · skip
                      have tc149 := f_ne (k := 0) (by decide) c149
                      refine lv_iconst (v := 1) hx hb dX11_takeTurns_152 (by decide) ?_
                      refine lv_goto (tgt := 157) hx hb dX11_takeTurns_153 (by decide) ?_
                      exact J157 1 _ _ _ (by decide) (by decide) hH hS (lv_sub hl [2, 3, 4, 5, 6, 7] rfl)
                  refine lv_if_eq (tgt := 128) hx hb dX11_takeTurns_103 (by decide) (fun c103 => ?_) (fun c103 => ?_)
                  · skip
                    have tc103 := f_eq (k := 0) (by decide) c103
                    refine lv_iload_n hx hb dX11_takeTurns_128 rfl (lv_at hl 5 rfl) ?_
                    exact J129 x3 _ _ _  hH hS (lv_sub hl [0, 1, 2, 3, 4, 5, 6] rfl)
                  · skip
                    have tc103 := f_ne (k := 0) (by decide) c103
                    refine lv_iload_n hx hb dX11_takeTurns_106 rfl (lv_at hl 5 rfl) ?_
                    refine lv_aload_n hx hb dX11_takeTurns_107 rfl (lv_at hl 2 rfl) ?_
                    refine t_get (ci := 11) (lst := ft11 w ch) (C := RX11) (F := TX11) (N := 20) hx hb hts uX11 hown hkb hH t_a0 (hO.no t_a0 (by decide)) (fun _ h9 => h9) rfl rfl 14 (by decide) rfl kw_374 (fun _ h9 => h9) dX11_takeTurns_108 (fun v9 h9 => ?_)
                    obtain ⟨v108, rfl, t_v108⟩ := h9
                    refine tk_i hH hS hA (tr_V (n := 0) (As := []) hx hb hml hown hts hkb hH hOX hks hE hS hA (s_Ways_pathSet l D cs kf T O X v108 t_v108 (hO.sub (by decide))) kw_926 kw_927 kw_928 kw_9 kw_929 (by decide +kernel) ⟨Nat.le_of_ble_eq_true rfl, Nat.le_of_ble_eq_true rfl⟩ (HT.recv (ci := 10) hkb hH t_v108 (hO.no t_v108 (by decide)) rfl) rfl rfl hl.1 (Nat.le_of_ble_eq_true rfl) dX11_takeTurns_111 ⟨Nat.le_of_ble_eq_true rfl, Nat.le_of_ble_eq_true rfl⟩) (fun v111 u H locs hz9 hH hS => ?_)
                    have hz9 : u = (T, O, X) := hz9
                    subst hz9
                    have hH : HT D cs A T O X H := hH
                    refine W.widen (k := 0) (n := 0) (Nat.le_of_ble_eq_true rfl) (Nat.le_of_ble_eq_true rfl) ?_
                    refine lv_aload_n hx hb dX11_takeTurns_114 rfl (lv_at hl 2 rfl) ?_
                    refine t_get (ci := 11) (lst := ft11 w ch) (C := RX11) (F := TX11) (N := 20) hx hb hts uX11 hown hkb hH t_a0 (hO.no t_a0 (by decide)) (fun _ h9 => h9) rfl rfl 3 (by decide) rfl kw_363 (fun _ h9 => h9) dX11_takeTurns_115 (fun v9 h9 => ?_)
                    have h9 : v9 = .ref w := h9
                    subst h9
                    refine tk_i hH hS hA (tr_V (n := 0) (As := []) hx hb hml hown hts hkb hH hOX hks hE hS hA (s_Wall_middles l D cs kf T O X w hw gw t_w (hO.sub (by decide))) kw_892 kw_683 kw_684 kw_5 kw_685 (by decide +kernel) ⟨Nat.le_of_ble_eq_true rfl, Nat.le_of_ble_eq_true rfl⟩ (HT.recv (ci := 9) hkb hH t_w.1 (hO.no t_w.1 (by decide)) rfl) rfl rfl hl.1 (Nat.le_of_ble_eq_true rfl) dX11_takeTurns_118 ⟨Nat.le_of_ble_eq_true rfl, Nat.le_of_ble_eq_true rfl⟩) (fun v118 u H locs hz9 hH hS => ?_)
                    obtain ⟨rfl, l_v118, u_v118⟩ := hz9
                    have hH : HT D cs A T O X H := hH
                    refine W.widen (k := 0) (n := 0) (Nat.le_of_ble_eq_true rfl) (Nat.le_of_ble_eq_true rfl) ?_
                    refine lv_iand hx hb dX11_takeTurns_121 ?_
                    refine lv_topi (fun v121 ev121 => ?_)
                    have tv121 : 0 ≤ v121.toInt ∧ v121.toInt ≤ v118.toInt := by rw [ev121]; exact and_r (by omega)
                    refine lv_iconst (v := (-1)) hx hb dX11_takeTurns_122 (by decide) ?_
                    refine lv_ixor hx hb dX11_takeTurns_123 ?_
                    refine lv_topi (fun v123 ev123 => ?_)
                    refine lv_iand hx hb dX11_takeTurns_124 ?_
                    refine lv_topi (fun v124 ev124 => ?_)
                    refine lv_goto (tgt := 129) hx hb dX11_takeTurns_125 (by decide) ?_
                    exact J129 v124 _ _ _  hH hS (lv_sub hl [0, 1, 2, 3, 4, 5, 6] rfl)
                refine lv_if_le (tgt := 98) hx hb dX11_takeTurns_91 (by decide) (fun c91 => ?_) (fun c91 => ?_)
                · skip
                  have tc91 := f_le (k := 0) (by decide) c91
                  refine lv_iconst (v := 0) hx hb dX11_takeTurns_98 (by decide) ?_
                  exact J99 0 _ _ _ (by decide) (by decide) hH hS (lv_sub hl [0, 1, 2, 3, 4, 5] rfl)
                · skip
                  have tc91 := f_nle (k := 0) (by decide) c91
                  refine lv_iconst (v := 1) hx hb dX11_takeTurns_94 (by decide) ?_
                  refine lv_goto (tgt := 99) hx hb dX11_takeTurns_95 (by decide) ?_
                  exact J99 1 _ _ _ (by decide) (by decide) hH hS (lv_sub hl [0, 1, 2, 3, 4, 5] rfl)
        refine lv_istore (lv' := [(5, .int 0), (0, .ref a0), (1, .int x1), (2, .int x2), (3, .int x3), (4, .int x4)]) hx hb dX11_takeTurns_46 hl (by decide) rfl (fun ls hl => ?_)
        exact J48 _ 0 _ _ _ rfl (by decide) (by decide) hH hS (lv_sub hl [0, 1, 2, 3, 4, 5] rfl)
      · skip
        have tc21 := f_nlt (k := 5) (by decide) c21
        exfalso; omega
  · skip
    have fuc11 := full_i v6
    have fvc11 := full_i v8
    have tc11 := g_nlt c11
    exact te_v hx hb hr hlocks hH hS rfl dX11_takeTurns_14
set_option maxHeartbeats 4000000 in
set_option maxRecDepth 100000 in
theorem s_FW_takeTurns3 (l : Launch) (D : va_G) (cs : CS) (kf : KF) (T : TF) (O : List Nat) (X : va_W) (a0 w hw gw ch gq : Nat) (x1 : Int32) (x2 : Int32) (x3 : Int32) (x4 : Int32) (t_a0 : T a0 = some (21, w, ch)) (t_w : isW T w hw gw) (t_ch : T ch = some (10, gq, 0)) (l_x1 : 3 ≤ x1.toInt) (u_x1 : x1.toInt ≤ 3) (hO : okO T O [1, 7, 12, 15, 16, 19, 20, 21]) : TK l D cs kf yX11_takeTurns cX11_takeTurns 8 none { frames := 7, cells := 0, slots := 0, locals := 179 } [.ref a0, .int x1, .int x2, .int x3, .int x4] T O X (Tv D cs (fun u => u = (T, O, X))) := by
  refine tk_of (by decide) (Nat.le_of_ble_eq_true rfl) (fun p e s m below meth c ls A H locs hx hb hr hml hown hts hlocks hnm hkb hH hS hA hOX hks hE hl => ?_)
  have hown : s.vm.findClass RX11 = some m.cls := hown
  have hl : lv_has ls 8 [(0, .ref a0), (1, .int x1), (2, .int x2), (3, .int x3), (4, .int x4)] := hl
  have b1_w := t_w.2.1
  have b2_w := t_w.2.2
  refine lv_iload hx hb dX11_takeTurns_0 (lv_at hl 4 rfl) ?_
  refine lv_iload_n hx hb dX11_takeTurns_2 rfl (lv_at hl 2 rfl) ?_
  refine tk_i hH hS hA (tr_S (n := 1) (As := [.int x2]) hx hb hml hown hts hkb hH hOX hks hE hS hA (s_bitCount l D cs kf T O X x2  (hO.sub (by decide))) kw_893 kw_692 kw_20 kw_693 (by decide +kernel) ⟨Nat.le_of_ble_eq_true rfl, Nat.le_of_ble_eq_true rfl⟩ rfl rfl hl.1 (Nat.le_of_ble_eq_true rfl) dX11_takeTurns_3 ⟨Nat.le_of_ble_eq_true rfl, Nat.le_of_ble_eq_true rfl⟩) (fun v3 u H locs hz9 hH hS => ?_)
  obtain ⟨rfl, l_v3, u_v3⟩ := hz9
  have hH : HT D cs A T O X H := hH
  refine W.widen (k := 0) (n := 0) (Nat.le_of_ble_eq_true rfl) (Nat.le_of_ble_eq_true rfl) ?_
  refine lv_iadd hx hb dX11_takeTurns_6 ?_
  refine lv_topi (fun v6 ev6 => ?_)
  refine lv_aload_n hx hb dX11_takeTurns_7 rfl (lv_at hl 0 rfl) ?_
  refine t_get (ci := 11) (lst := ft11 w ch) (C := RX11) (F := TX11) (N := 20) hx hb hts uX11 hown hkb hH t_a0 (hO.no t_a0 (by decide)) (fun _ h9 => h9) rfl rfl 19 (by decide) rfl kw_379 (fun _ h9 => h9) dX11_takeTurns_8 (fun v9 h9 => ?_)
  obtain ⟨v8, rfl⟩ := h9
  refine lv_icmp_gt (tgt := 15) hx hb dX11_takeTurns_11 (by decide) (fun c11 => ?_) (fun c11 => ?_)
  · skip
    have fuc11 := full_i v6
    have fvc11 := full_i v8
    have tc11 := g_lt c11
    refine lv_iload_n hx hb dX11_takeTurns_15 rfl (lv_at hl 2 rfl) ?_
    refine lv_if_eq (tgt := 24) hx hb dX11_takeTurns_16 (by decide) (fun c16 => ?_) (fun c16 => ?_)
    · skip
      have tc16 := f_eq (k := 0) (by decide) c16
      refine lv_aload_n hx hb dX11_takeTurns_24 rfl (lv_at hl 0 rfl) ?_
      refine lv_iload hx hb dX11_takeTurns_25 (lv_at hl 4 rfl) ?_
      refine t_put (ci := 11) (lst := ft11 w ch) (v := .int x4) (ty := tyX11 19) (C := RX11) (F := TX11) (N := 20) hx hb hts uX11 tyX11 tyX11_ok nmX11 hown hkb hH hS t_a0 (hO.no t_a0 (by decide)) (fun _ => Iff.rfl) rfl rfl 19 (by decide) rfl (⟨_, rfl⟩) kw_379 (fun _ h9 => h9) rfl (tyX11_ok 19 (by decide)) rfl rfl dX11_takeTurns_27 (fun H locs hH hS => ?_)
      refine lv_aload_n hx hb dX11_takeTurns_30 rfl (lv_at hl 0 rfl) ?_
      refine t_get (ci := 11) (lst := ft11 w ch) (C := RX11) (F := TX11) (N := 20) hx hb hts uX11 hown hkb hH t_a0 (hO.no t_a0 (by decide)) (fun _ h9 => h9) rfl rfl 17 (by decide) rfl kw_377 (fun _ h9 => h9) dX11_takeTurns_31 (fun v9 h9 => ?_)
      obtain ⟨v31, rfl, t_v31⟩ := h9
      refine lv_iconst (v := 0) hx hb dX11_takeTurns_34 (by decide) ?_
      refine lv_aload_n hx hb dX11_takeTurns_35 rfl (lv_at hl 0 rfl) ?_
      refine t_get (ci := 11) (lst := ft11 w ch) (C := RX11) (F := TX11) (N := 20) hx hb hts uX11 hown hkb hH t_a0 (hO.no t_a0 (by decide)) (fun _ h9 => h9) rfl rfl 18 (by decide) rfl kw_378 (fun _ h9 => h9) dX11_takeTurns_36 (fun v9 h9 => ?_)
      obtain ⟨v36, rfl, t_v36⟩ := h9
      refine lv_iconst (v := 0) hx hb dX11_takeTurns_39 (by decide) ?_
      refine lv_iconst (v := 5) hx hb dX11_takeTurns_40 (by decide) ?_
      refine t_copy hx hb (by rw [hml]; exact hl.1.symm) hown (hts _ kw_1172) (hts _ kw_734) (hts _ kw_733) (hts _ kw_23) hkb hH hS (fun _ h9 => h9) t_v31 (hO.no t_v31 (by decide)) t_v36 (hO.no t_v36 (by decide)) (by decide) (by decide) (by decide) (by decide) (by decide) (Nat.le_of_ble_eq_true rfl) (Nat.le_of_ble_eq_true rfl) dX11_takeTurns_41 (fun H locs hH hS => ?_)
      exact te_v hx hb hr hlocks hH hS rfl dX11_takeTurns_44
    · skip
      have tc16 := f_ne (k := 0) (by decide) c16
      refine lv_iload_n hx hb dX11_takeTurns_19 rfl (lv_at hl 1 rfl) ?_
      refine lv_iconst (v := 5) hx hb dX11_takeTurns_20 (by decide) ?_
      refine lv_icmp_lt (tgt := 45) hx hb dX11_takeTurns_21 (by decide) (fun c21 => ?_) (fun c21 => ?_)
      · skip
        have tc21 := f_lt (k := 5) (by decide) c21
        refine lv_iconst (v := 0) hx hb dX11_takeTurns_45 (by decide) ?_
        have J48 : ∀ (n : Nat) (p48_5 : Int32) (H : Heap) (locs : List Loc) (ls : Array Slot), (5 - p48_5.toInt).toNat = n → (0 ≤ p48_5.toInt) → (p48_5.toInt ≤ 5) → HT D cs A T O X H → va_S A s.heap H locs → lv_has ls 8 [(5, .int p48_5), (0, .ref a0), (1, .int x1), (2, .int x2), (3, .int x3), (4, .int x4)] → W p l e { frames := 7, cells := 0, slots := 0, locals := 179 } s m [.ref a0, .int x1, .int x2, .int x3, .int x4].toArray below meth c H locs 0 0 (MQ below (Tv D cs (fun u => u = (T, O, X)) A) [.ref a0, .int x1, .int x2, .int x3, .int x4].toArray s 0 0 A) (F0 m 48 ls []) := by
          intro n
          induction n using Nat.strongRecOn with
          | _ n ih48 =>
            intro p48_5 H locs ls hm48 l_p48_5 u_p48_5 hH hS hl
            refine lv_iload hx hb dX11_takeTurns_48 (lv_at hl 0 rfl) ?_
            refine lv_aload_n hx hb dX11_takeTurns_50 rfl (lv_at hl 1 rfl) ?_
            refine t_get (ci := 11) (lst := ft11 w ch) (C := RX11) (F := TX11) (N := 20) hx hb hts uX11 hown hkb hH t_a0 (hO.no t_a0 (by decide)) (fun _ h9 => h9) rfl rfl 3 (by decide) rfl kw_363 (fun _ h9 => h9) dX11_takeTurns_51 (fun v9 h9 => ?_)
            have h9 : v9 = .ref w := h9
            subst h9
            refine t_get (ci := 9) (lst := ft9w hw gw) (C := RX9) (F := TX9) (N := 14) hx hb hts uX9 hown hkb hH t_w.1 (hO.no t_w.1 (by decide)) (fun fs => (ob9w t_w fs).mp) rfl rfl 1 (by decide) rfl kw_112 (fun _ h9 => h9) dX11_takeTurns_54 (fun v9 h9 => ?_)
            have h9 : v9 = .int (nI gw) := h9
            subst h9
            have e_gw : (nI gw).toInt = gw := nI_toInt (by have := t_w.2.2; omega)
            have b_gw := t_w.2.2
            refine lv_icmp_ge (tgt := 167) hx hb dX11_takeTurns_57 (by decide) (fun c57 => ?_) (fun c57 => ?_)
            · skip
              have fuc57 := full_i p48_5
              have fvc57 := full_i (nI gw)
              have tc57 := g_le c57
              exact te_v hx hb hr hlocks hH hS rfl dX11_takeTurns_167
            · skip
              have fuc57 := full_i p48_5
              have fvc57 := full_i (nI gw)
              have tc57 := g_nle c57
              refine lv_iload_n hx hb dX11_takeTurns_60 rfl (lv_at hl 3 rfl) ?_
              refine lv_iload hx hb dX11_takeTurns_61 (lv_at hl 0 rfl) ?_
              refine lv_ishr hx hb dX11_takeTurns_63 ?_
              refine lv_topi (fun v63 ev63 => ?_)
              refine lv_iconst (v := 1) hx hb dX11_takeTurns_64 (by decide) ?_
              refine lv_iand hx hb dX11_takeTurns_65 ?_
              refine lv_topi (fun v65 ev65 => ?_)
              have tv65 : 0 ≤ v65.toInt ∧ v65.toInt ≤ 1 := by rw [ev65]; exact and_r (by decide)
              have J161 : ∀  (H : Heap) (locs : List Loc) (ls : Array Slot), HT D cs A T O X H → va_S A s.heap H locs → lv_has ls 8 [(5, .int p48_5), (0, .ref a0), (1, .int x1), (2, .int x2), (3, .int x3), (4, .int x4)] → W p l e { frames := 7, cells := 0, slots := 0, locals := 179 } s m [.ref a0, .int x1, .int x2, .int x3, .int x4].toArray below meth c H locs 0 0 (MQ below (Tv D cs (fun u => u = (T, O, X)) A) [.ref a0, .int x1, .int x2, .int x3, .int x4].toArray s 0 0 A) (F0 m 161 ls []) := by
                intro  H locs ls  hH hS hl
                obtain ⟨v161, ev161⟩ : ∃ y : Int32, y = p48_5 + 1 := ⟨_, rfl⟩
                have tv161 : v161.toInt = p48_5.toInt + (1) := by rw [ev161]; exact add_i rfl (by decide) (by omega) (by omega)
                refine lv_iinc (v := v161) (lv' := [(5, .int v161), (0, .ref a0), (1, .int x1), (2, .int x2), (3, .int x3), (4, .int x4)]) hx hb dX11_takeTurns_161 hl (k := 0) rfl (by rw [ev161]; rfl) (by decide) rfl (fun ls hl => ?_)
                refine lv_goto (tgt := 48) hx hb dX11_takeTurns_164 (by decide) ?_
                exact ih48 _ (by omega) v161 _ _ _ rfl (by omega) (by omega) hH hS (lv_sub hl [0, 1, 2, 3, 4, 5] rfl)
              refine lv_if_eq (tgt := 161) hx hb dX11_takeTurns_66 (by decide) (fun c66 => ?_) (fun c66 => ?_)
              · skip
                have tc66 := f_eq (k := 0) (by decide) c66
                exact J161  _ _ _  hH hS (lv_sub hl [0, 1, 2, 3, 4, 5] rfl)
              · skip
                have tc66 := f_ne (k := 0) (by decide) c66
                refine lv_aload_n hx hb dX11_takeTurns_69 rfl (lv_at hl 1 rfl) ?_
                refine t_get (ci := 11) (lst := ft11 w ch) (C := RX11) (F := TX11) (N := 20) hx hb hts uX11 hown hkb hH t_a0 (hO.no t_a0 (by decide)) (fun _ h9 => h9) rfl rfl 17 (by decide) rfl kw_377 (fun _ h9 => h9) dX11_takeTurns_70 (fun v9 h9 => ?_)
                obtain ⟨v70, rfl, t_v70⟩ := h9
                refine lv_iload_n hx hb dX11_takeTurns_73 rfl (lv_at hl 2 rfl) ?_
                refine lv_iload hx hb dX11_takeTurns_74 (lv_at hl 0 rfl) ?_
                refine t_ist hx hb hkb hH hS t_v70 (hO.no t_v70 (by decide)) (by omega) (by omega) (cp_0 _) dX11_takeTurns_76 (fun H locs hH hS => ?_)
                refine lv_aload_n hx hb dX11_takeTurns_77 rfl (lv_at hl 1 rfl) ?_
                refine t_get (ci := 11) (lst := ft11 w ch) (C := RX11) (F := TX11) (N := 20) hx hb hts uX11 hown hkb hH t_a0 (hO.no t_a0 (by decide)) (fun _ h9 => h9) rfl rfl 14 (by decide) rfl kw_374 (fun _ h9 => h9) dX11_takeTurns_78 (fun v9 h9 => ?_)
                obtain ⟨v78, rfl, t_v78⟩ := h9
                refine lv_aload_n hx hb dX11_takeTurns_81 rfl (lv_at hl 1 rfl) ?_
                refine lv_iload hx hb dX11_takeTurns_82 (lv_at hl 0 rfl) ?_
                refine tk_r hH hS hA (tr_V (n := 1) (As := [.int p48_5]) hx hb hml hown hts hkb hH hOX hks hE hS hA (s_FW_rowsOf l D cs kf T O X a0 w hw gw ch gq p48_5 t_a0 t_w t_ch (by omega) (by omega) (hO.sub (by decide))) kw_830 kw_832 ks_21 kw_1 kw_833 (by decide +kernel) ⟨Nat.le_of_ble_eq_true rfl, Nat.le_of_ble_eq_true rfl⟩ (HT.recv (ci := 11) hkb hH t_a0 (hO.no t_a0 (by decide)) rfl) rfl rfl hl.1 (Nat.le_of_ble_eq_true rfl) dX11_takeTurns_84 ⟨Nat.le_of_ble_eq_true rfl, Nat.le_of_ble_eq_true rfl⟩) (fun v84 u H locs hz9 hH hS => ?_)
                obtain ⟨hu9, t_v84⟩ := hz9
                have hu9 : u = (T, O, X) := hu9
                subst hu9
                have hH : HT D cs A T O X H := hH
                refine W.widen (k := 0) (n := 0) (Nat.le_of_ble_eq_true rfl) (Nat.le_of_ble_eq_true rfl) ?_
                refine lv_iload_n hx hb dX11_takeTurns_87 rfl (lv_at hl 4 rfl) ?_
                refine tk_i hH hS hA (tr_V (n := 2) (As := [.ref v84, .int x3]) hx hb hml hown hts hkb hH hOX hks hE hS hA (s_Ways_find l D cs kf T O X v78 v84 x3 t_v78 t_v84 (hO.sub (by decide))) kw_912 kw_913 kw_914 kw_9 kw_915 (by decide +kernel) ⟨Nat.le_of_ble_eq_true rfl, Nat.le_of_ble_eq_true rfl⟩ (HT.recv (ci := 10) hkb hH t_v78 (hO.no t_v78 (by decide)) rfl) rfl rfl hl.1 (Nat.le_of_ble_eq_true rfl) dX11_takeTurns_88 ⟨Nat.le_of_ble_eq_true rfl, Nat.le_of_ble_eq_true rfl⟩) (fun v88 u H locs hz9 hH hS => ?_)
                obtain ⟨rfl, l_v88, u_v88⟩ := hz9
                have hH : HT D cs A T O X H := hH
                refine W.widen (k := 0) (n := 0) (Nat.le_of_ble_eq_true rfl) (Nat.le_of_ble_eq_true rfl) ?_
                have J99 : ∀ (k99_0 : Int32) (H : Heap) (locs : List Loc) (ls : Array Slot), (0 ≤ k99_0.toInt) → (k99_0.toInt ≤ 1) → HT D cs A T O X H → va_S A s.heap H locs → lv_has ls 8 [(5, .int p48_5), (0, .ref a0), (1, .int x1), (2, .int x2), (3, .int x3), (4, .int x4)] → W p l e { frames := 7, cells := 0, slots := 0, locals := 179 } s m [.ref a0, .int x1, .int x2, .int x3, .int x4].toArray below meth c H locs 0 0 (MQ below (Tv D cs (fun u => u = (T, O, X)) A) [.ref a0, .int x1, .int x2, .int x3, .int x4].toArray s 0 0 A) (F0 m 99 ls [.int k99_0]) := by
                  intro k99_0 H locs ls l_k99_0 u_k99_0 hH hS hl
                  refine lv_istore (lv' := [(6, .int k99_0), (5, .int p48_5), (0, .ref a0), (1, .int x1), (2, .int x2), (3, .int x3), (4, .int x4)]) hx hb dX11_takeTurns_99 hl (by decide) rfl (fun ls hl => ?_)
                  refine lv_iload hx hb dX11_takeTurns_101 (lv_at hl 0 rfl) ?_
                  have J129 : ∀ (k129_0 : Int32) (H : Heap) (locs : List Loc) (ls : Array Slot), HT D cs A T O X H → va_S A s.heap H locs → lv_has ls 8 [(6, .int k99_0), (5, .int p48_5), (0, .ref a0), (1, .int x1), (2, .int x2), (3, .int x3), (4, .int x4)] → W p l e { frames := 7, cells := 0, slots := 0, locals := 179 } s m [.ref a0, .int x1, .int x2, .int x3, .int x4].toArray below meth c H locs 0 0 (MQ below (Tv D cs (fun u => u = (T, O, X)) A) [.ref a0, .int x1, .int x2, .int x3, .int x4].toArray s 0 0 A) (F0 m 129 ls [.int k129_0]) := by
                    intro k129_0 H locs ls  hH hS hl
                    refine lv_istore (lv' := [(7, .int k129_0), (6, .int k99_0), (5, .int p48_5), (0, .ref a0), (1, .int x1), (2, .int x2), (3, .int x3), (4, .int x4)]) hx hb dX11_takeTurns_129 hl (by decide) rfl (fun ls hl => ?_)
                    refine lv_aload_n hx hb dX11_takeTurns_131 rfl (lv_at hl 3 rfl) ?_
                    refine lv_iload_n hx hb dX11_takeTurns_132 rfl (lv_at hl 4 rfl) ?_
                    refine lv_iconst (v := 1) hx hb dX11_takeTurns_133 (by decide) ?_
                    refine lv_iadd hx hb dX11_takeTurns_134 ?_
                    refine lv_topi (fun v134 ev134 => ?_)
                    have tv134 : v134.toInt = x1.toInt + (1) := by rw [ev134]; exact add_i rfl (by decide : (1 : Int32).toInt = 1) (by omega) (by omega)
                    refine lv_iload_n hx hb dX11_takeTurns_135 rfl (lv_at hl 5 rfl) ?_
                    refine lv_iconst (v := 1) hx hb dX11_takeTurns_136 (by decide) ?_
                    refine lv_iload hx hb dX11_takeTurns_137 (lv_at hl 2 rfl) ?_
                    refine lv_ishl hx hb dX11_takeTurns_139 ?_
                    refine lv_topi (fun v139 ev139 => ?_)
                    have tv139 : 1 ≤ v139.toInt ∧ v139.toInt ≤ 16 := by rw [ev139]; exact shl_b 4 (by decide) (by omega) (by omega)
                    refine lv_iconst (v := (-1)) hx hb dX11_takeTurns_140 (by decide) ?_
                    refine lv_ixor hx hb dX11_takeTurns_141 ?_
                    refine lv_topi (fun v141 ev141 => ?_)
                    refine lv_iand hx hb dX11_takeTurns_142 ?_
                    refine lv_topi (fun v142 ev142 => ?_)
                    refine lv_iload hx hb dX11_takeTurns_143 (lv_at hl 0 rfl) ?_
                    refine lv_iload hx hb dX11_takeTurns_145 (lv_at hl 7 rfl) ?_
                    refine lv_iload hx hb dX11_takeTurns_147 (lv_at hl 1 rfl) ?_
                    have J157 : ∀ (k157_0 : Int32) (H : Heap) (locs : List Loc) (ls : Array Slot), (0 ≤ k157_0.toInt) → (k157_0.toInt ≤ 1) → HT D cs A T O X H → va_S A s.heap H locs → lv_has ls 8 [(5, .int p48_5), (0, .ref a0), (1, .int x1), (2, .int x2), (3, .int x3), (4, .int x4)] → W p l e { frames := 7, cells := 0, slots := 0, locals := 179 } s m [.ref a0, .int x1, .int x2, .int x3, .int x4].toArray below meth c H locs 0 0 (MQ below (Tv D cs (fun u => u = (T, O, X)) A) [.ref a0, .int x1, .int x2, .int x3, .int x4].toArray s 0 0 A) (F0 m 157 ls [.int k157_0, .int x4, .int k129_0, .int v142, .int v134, .ref a0]) := by
                      intro k157_0 H locs ls l_k157_0 u_k157_0 hH hS hl
                      refine lv_iadd hx hb dX11_takeTurns_157 ?_
                      refine lv_topi (fun v157 ev157 => ?_)
                      refine tk_v hH hS hA (tr_V (n := 4) (As := [.int v134, .int v142, .int k129_0, .int v157]) hx hb hml hown hts hkb hH hOX hks hE hS hA (s_FW_takeTurns4 l D cs kf T O X a0 w hw gw ch gq v134 v142 k129_0 v157 t_a0 t_w t_ch (by omega) (by omega) (hO.sub (by decide))) kw_1168 kw_1170 ks_42 kw_1 kw_1171 (by decide +kernel) ⟨Nat.le_of_ble_eq_true rfl, Nat.le_of_ble_eq_true rfl⟩ (HT.recv (ci := 11) hkb hH t_a0 (hO.no t_a0 (by decide)) rfl) rfl rfl hl.1 (Nat.le_of_ble_eq_true rfl) dX11_takeTurns_158 ⟨Nat.le_of_ble_eq_true rfl, Nat.le_of_ble_eq_true rfl⟩) (fun u H locs hz9 hH hS => ?_)
                      have hz9 : u = (T, O, X) := hz9
                      subst hz9
                      have hH : HT D cs A T O X H := hH
                      refine W.widen (k := 0) (n := 0) (Nat.le_of_ble_eq_true rfl) (Nat.le_of_ble_eq_true rfl) ?_
                      exact J161  _ _ _  hH hS (lv_sub hl [0, 1, 2, 3, 4, 5] rfl)
                    refine lv_if_eq (tgt := 156) hx hb dX11_takeTurns_149 (by decide) (fun c149 => ?_) (fun c149 => ?_)
                    · skip
                      have tc149 := f_eq (k := 0) (by decide) c149
                      refine lv_iconst (v := 0) hx hb dX11_takeTurns_156 (by decide) ?_
                      exact J157 0 _ _ _ (by decide) (by decide) hH hS (lv_sub hl [2, 3, 4, 5, 6, 7] rfl)
                    · skip
                      have tc149 := f_ne (k := 0) (by decide) c149
                      refine lv_iconst (v := 1) hx hb dX11_takeTurns_152 (by decide) ?_
                      refine lv_goto (tgt := 157) hx hb dX11_takeTurns_153 (by decide) ?_
                      exact J157 1 _ _ _ (by decide) (by decide) hH hS (lv_sub hl [2, 3, 4, 5, 6, 7] rfl)
                  refine lv_if_eq (tgt := 128) hx hb dX11_takeTurns_103 (by decide) (fun c103 => ?_) (fun c103 => ?_)
                  · skip
                    have tc103 := f_eq (k := 0) (by decide) c103
                    refine lv_iload_n hx hb dX11_takeTurns_128 rfl (lv_at hl 5 rfl) ?_
                    exact J129 x3 _ _ _  hH hS (lv_sub hl [0, 1, 2, 3, 4, 5, 6] rfl)
                  · skip
                    have tc103 := f_ne (k := 0) (by decide) c103
                    refine lv_iload_n hx hb dX11_takeTurns_106 rfl (lv_at hl 5 rfl) ?_
                    refine lv_aload_n hx hb dX11_takeTurns_107 rfl (lv_at hl 2 rfl) ?_
                    refine t_get (ci := 11) (lst := ft11 w ch) (C := RX11) (F := TX11) (N := 20) hx hb hts uX11 hown hkb hH t_a0 (hO.no t_a0 (by decide)) (fun _ h9 => h9) rfl rfl 14 (by decide) rfl kw_374 (fun _ h9 => h9) dX11_takeTurns_108 (fun v9 h9 => ?_)
                    obtain ⟨v108, rfl, t_v108⟩ := h9
                    refine tk_i hH hS hA (tr_V (n := 0) (As := []) hx hb hml hown hts hkb hH hOX hks hE hS hA (s_Ways_pathSet l D cs kf T O X v108 t_v108 (hO.sub (by decide))) kw_926 kw_927 kw_928 kw_9 kw_929 (by decide +kernel) ⟨Nat.le_of_ble_eq_true rfl, Nat.le_of_ble_eq_true rfl⟩ (HT.recv (ci := 10) hkb hH t_v108 (hO.no t_v108 (by decide)) rfl) rfl rfl hl.1 (Nat.le_of_ble_eq_true rfl) dX11_takeTurns_111 ⟨Nat.le_of_ble_eq_true rfl, Nat.le_of_ble_eq_true rfl⟩) (fun v111 u H locs hz9 hH hS => ?_)
                    have hz9 : u = (T, O, X) := hz9
                    subst hz9
                    have hH : HT D cs A T O X H := hH
                    refine W.widen (k := 0) (n := 0) (Nat.le_of_ble_eq_true rfl) (Nat.le_of_ble_eq_true rfl) ?_
                    refine lv_aload_n hx hb dX11_takeTurns_114 rfl (lv_at hl 2 rfl) ?_
                    refine t_get (ci := 11) (lst := ft11 w ch) (C := RX11) (F := TX11) (N := 20) hx hb hts uX11 hown hkb hH t_a0 (hO.no t_a0 (by decide)) (fun _ h9 => h9) rfl rfl 3 (by decide) rfl kw_363 (fun _ h9 => h9) dX11_takeTurns_115 (fun v9 h9 => ?_)
                    have h9 : v9 = .ref w := h9
                    subst h9
                    refine tk_i hH hS hA (tr_V (n := 0) (As := []) hx hb hml hown hts hkb hH hOX hks hE hS hA (s_Wall_middles l D cs kf T O X w hw gw t_w (hO.sub (by decide))) kw_892 kw_683 kw_684 kw_5 kw_685 (by decide +kernel) ⟨Nat.le_of_ble_eq_true rfl, Nat.le_of_ble_eq_true rfl⟩ (HT.recv (ci := 9) hkb hH t_w.1 (hO.no t_w.1 (by decide)) rfl) rfl rfl hl.1 (Nat.le_of_ble_eq_true rfl) dX11_takeTurns_118 ⟨Nat.le_of_ble_eq_true rfl, Nat.le_of_ble_eq_true rfl⟩) (fun v118 u H locs hz9 hH hS => ?_)
                    obtain ⟨rfl, l_v118, u_v118⟩ := hz9
                    have hH : HT D cs A T O X H := hH
                    refine W.widen (k := 0) (n := 0) (Nat.le_of_ble_eq_true rfl) (Nat.le_of_ble_eq_true rfl) ?_
                    refine lv_iand hx hb dX11_takeTurns_121 ?_
                    refine lv_topi (fun v121 ev121 => ?_)
                    have tv121 : 0 ≤ v121.toInt ∧ v121.toInt ≤ v118.toInt := by rw [ev121]; exact and_r (by omega)
                    refine lv_iconst (v := (-1)) hx hb dX11_takeTurns_122 (by decide) ?_
                    refine lv_ixor hx hb dX11_takeTurns_123 ?_
                    refine lv_topi (fun v123 ev123 => ?_)
                    refine lv_iand hx hb dX11_takeTurns_124 ?_
                    refine lv_topi (fun v124 ev124 => ?_)
                    refine lv_goto (tgt := 129) hx hb dX11_takeTurns_125 (by decide) ?_
                    exact J129 v124 _ _ _  hH hS (lv_sub hl [0, 1, 2, 3, 4, 5, 6] rfl)
                refine lv_if_le (tgt := 98) hx hb dX11_takeTurns_91 (by decide) (fun c91 => ?_) (fun c91 => ?_)
                · skip
                  have tc91 := f_le (k := 0) (by decide) c91
                  refine lv_iconst (v := 0) hx hb dX11_takeTurns_98 (by decide) ?_
                  exact J99 0 _ _ _ (by decide) (by decide) hH hS (lv_sub hl [0, 1, 2, 3, 4, 5] rfl)
                · skip
                  have tc91 := f_nle (k := 0) (by decide) c91
                  refine lv_iconst (v := 1) hx hb dX11_takeTurns_94 (by decide) ?_
                  refine lv_goto (tgt := 99) hx hb dX11_takeTurns_95 (by decide) ?_
                  exact J99 1 _ _ _ (by decide) (by decide) hH hS (lv_sub hl [0, 1, 2, 3, 4, 5] rfl)
        refine lv_istore (lv' := [(5, .int 0), (0, .ref a0), (1, .int x1), (2, .int x2), (3, .int x3), (4, .int x4)]) hx hb dX11_takeTurns_46 hl (by decide) rfl (fun ls hl => ?_)
        exact J48 _ 0 _ _ _ rfl (by decide) (by decide) hH hS (lv_sub hl [0, 1, 2, 3, 4, 5] rfl)
      · skip
        have tc21 := f_nlt (k := 5) (by decide) c21
        exfalso; omega
  · skip
    have fuc11 := full_i v6
    have fvc11 := full_i v8
    have tc11 := g_nlt c11
    exact te_v hx hb hr hlocks hH hS rfl dX11_takeTurns_14
set_option maxHeartbeats 4000000 in
set_option maxRecDepth 100000 in
theorem s_FW_takeTurns2 (l : Launch) (D : va_G) (cs : CS) (kf : KF) (T : TF) (O : List Nat) (X : va_W) (a0 w hw gw ch gq : Nat) (x1 : Int32) (x2 : Int32) (x3 : Int32) (x4 : Int32) (t_a0 : T a0 = some (21, w, ch)) (t_w : isW T w hw gw) (t_ch : T ch = some (10, gq, 0)) (l_x1 : 2 ≤ x1.toInt) (u_x1 : x1.toInt ≤ 2) (hO : okO T O [1, 7, 12, 15, 16, 19, 20, 21]) : TK l D cs kf yX11_takeTurns cX11_takeTurns 8 none { frames := 8, cells := 0, slots := 0, locals := 206 } [.ref a0, .int x1, .int x2, .int x3, .int x4] T O X (Tv D cs (fun u => u = (T, O, X))) := by
  refine tk_of (by decide) (Nat.le_of_ble_eq_true rfl) (fun p e s m below meth c ls A H locs hx hb hr hml hown hts hlocks hnm hkb hH hS hA hOX hks hE hl => ?_)
  have hown : s.vm.findClass RX11 = some m.cls := hown
  have hl : lv_has ls 8 [(0, .ref a0), (1, .int x1), (2, .int x2), (3, .int x3), (4, .int x4)] := hl
  have b1_w := t_w.2.1
  have b2_w := t_w.2.2
  refine lv_iload hx hb dX11_takeTurns_0 (lv_at hl 4 rfl) ?_
  refine lv_iload_n hx hb dX11_takeTurns_2 rfl (lv_at hl 2 rfl) ?_
  refine tk_i hH hS hA (tr_S (n := 1) (As := [.int x2]) hx hb hml hown hts hkb hH hOX hks hE hS hA (s_bitCount l D cs kf T O X x2  (hO.sub (by decide))) kw_893 kw_692 kw_20 kw_693 (by decide +kernel) ⟨Nat.le_of_ble_eq_true rfl, Nat.le_of_ble_eq_true rfl⟩ rfl rfl hl.1 (Nat.le_of_ble_eq_true rfl) dX11_takeTurns_3 ⟨Nat.le_of_ble_eq_true rfl, Nat.le_of_ble_eq_true rfl⟩) (fun v3 u H locs hz9 hH hS => ?_)
  obtain ⟨rfl, l_v3, u_v3⟩ := hz9
  have hH : HT D cs A T O X H := hH
  refine W.widen (k := 0) (n := 0) (Nat.le_of_ble_eq_true rfl) (Nat.le_of_ble_eq_true rfl) ?_
  refine lv_iadd hx hb dX11_takeTurns_6 ?_
  refine lv_topi (fun v6 ev6 => ?_)
  refine lv_aload_n hx hb dX11_takeTurns_7 rfl (lv_at hl 0 rfl) ?_
  refine t_get (ci := 11) (lst := ft11 w ch) (C := RX11) (F := TX11) (N := 20) hx hb hts uX11 hown hkb hH t_a0 (hO.no t_a0 (by decide)) (fun _ h9 => h9) rfl rfl 19 (by decide) rfl kw_379 (fun _ h9 => h9) dX11_takeTurns_8 (fun v9 h9 => ?_)
  obtain ⟨v8, rfl⟩ := h9
  refine lv_icmp_gt (tgt := 15) hx hb dX11_takeTurns_11 (by decide) (fun c11 => ?_) (fun c11 => ?_)
  · skip
    have fuc11 := full_i v6
    have fvc11 := full_i v8
    have tc11 := g_lt c11
    refine lv_iload_n hx hb dX11_takeTurns_15 rfl (lv_at hl 2 rfl) ?_
    refine lv_if_eq (tgt := 24) hx hb dX11_takeTurns_16 (by decide) (fun c16 => ?_) (fun c16 => ?_)
    · skip
      have tc16 := f_eq (k := 0) (by decide) c16
      refine lv_aload_n hx hb dX11_takeTurns_24 rfl (lv_at hl 0 rfl) ?_
      refine lv_iload hx hb dX11_takeTurns_25 (lv_at hl 4 rfl) ?_
      refine t_put (ci := 11) (lst := ft11 w ch) (v := .int x4) (ty := tyX11 19) (C := RX11) (F := TX11) (N := 20) hx hb hts uX11 tyX11 tyX11_ok nmX11 hown hkb hH hS t_a0 (hO.no t_a0 (by decide)) (fun _ => Iff.rfl) rfl rfl 19 (by decide) rfl (⟨_, rfl⟩) kw_379 (fun _ h9 => h9) rfl (tyX11_ok 19 (by decide)) rfl rfl dX11_takeTurns_27 (fun H locs hH hS => ?_)
      refine lv_aload_n hx hb dX11_takeTurns_30 rfl (lv_at hl 0 rfl) ?_
      refine t_get (ci := 11) (lst := ft11 w ch) (C := RX11) (F := TX11) (N := 20) hx hb hts uX11 hown hkb hH t_a0 (hO.no t_a0 (by decide)) (fun _ h9 => h9) rfl rfl 17 (by decide) rfl kw_377 (fun _ h9 => h9) dX11_takeTurns_31 (fun v9 h9 => ?_)
      obtain ⟨v31, rfl, t_v31⟩ := h9
      refine lv_iconst (v := 0) hx hb dX11_takeTurns_34 (by decide) ?_
      refine lv_aload_n hx hb dX11_takeTurns_35 rfl (lv_at hl 0 rfl) ?_
      refine t_get (ci := 11) (lst := ft11 w ch) (C := RX11) (F := TX11) (N := 20) hx hb hts uX11 hown hkb hH t_a0 (hO.no t_a0 (by decide)) (fun _ h9 => h9) rfl rfl 18 (by decide) rfl kw_378 (fun _ h9 => h9) dX11_takeTurns_36 (fun v9 h9 => ?_)
      obtain ⟨v36, rfl, t_v36⟩ := h9
      refine lv_iconst (v := 0) hx hb dX11_takeTurns_39 (by decide) ?_
      refine lv_iconst (v := 5) hx hb dX11_takeTurns_40 (by decide) ?_
      refine t_copy hx hb (by rw [hml]; exact hl.1.symm) hown (hts _ kw_1172) (hts _ kw_734) (hts _ kw_733) (hts _ kw_23) hkb hH hS (fun _ h9 => h9) t_v31 (hO.no t_v31 (by decide)) t_v36 (hO.no t_v36 (by decide)) (by decide) (by decide) (by decide) (by decide) (by decide) (Nat.le_of_ble_eq_true rfl) (Nat.le_of_ble_eq_true rfl) dX11_takeTurns_41 (fun H locs hH hS => ?_)
      exact te_v hx hb hr hlocks hH hS rfl dX11_takeTurns_44
    · skip
      have tc16 := f_ne (k := 0) (by decide) c16
      refine lv_iload_n hx hb dX11_takeTurns_19 rfl (lv_at hl 1 rfl) ?_
      refine lv_iconst (v := 5) hx hb dX11_takeTurns_20 (by decide) ?_
      refine lv_icmp_lt (tgt := 45) hx hb dX11_takeTurns_21 (by decide) (fun c21 => ?_) (fun c21 => ?_)
      · skip
        have tc21 := f_lt (k := 5) (by decide) c21
        refine lv_iconst (v := 0) hx hb dX11_takeTurns_45 (by decide) ?_
        have J48 : ∀ (n : Nat) (p48_5 : Int32) (H : Heap) (locs : List Loc) (ls : Array Slot), (5 - p48_5.toInt).toNat = n → (0 ≤ p48_5.toInt) → (p48_5.toInt ≤ 5) → HT D cs A T O X H → va_S A s.heap H locs → lv_has ls 8 [(5, .int p48_5), (0, .ref a0), (1, .int x1), (2, .int x2), (3, .int x3), (4, .int x4)] → W p l e { frames := 8, cells := 0, slots := 0, locals := 206 } s m [.ref a0, .int x1, .int x2, .int x3, .int x4].toArray below meth c H locs 0 0 (MQ below (Tv D cs (fun u => u = (T, O, X)) A) [.ref a0, .int x1, .int x2, .int x3, .int x4].toArray s 0 0 A) (F0 m 48 ls []) := by
          intro n
          induction n using Nat.strongRecOn with
          | _ n ih48 =>
            intro p48_5 H locs ls hm48 l_p48_5 u_p48_5 hH hS hl
            refine lv_iload hx hb dX11_takeTurns_48 (lv_at hl 0 rfl) ?_
            refine lv_aload_n hx hb dX11_takeTurns_50 rfl (lv_at hl 1 rfl) ?_
            refine t_get (ci := 11) (lst := ft11 w ch) (C := RX11) (F := TX11) (N := 20) hx hb hts uX11 hown hkb hH t_a0 (hO.no t_a0 (by decide)) (fun _ h9 => h9) rfl rfl 3 (by decide) rfl kw_363 (fun _ h9 => h9) dX11_takeTurns_51 (fun v9 h9 => ?_)
            have h9 : v9 = .ref w := h9
            subst h9
            refine t_get (ci := 9) (lst := ft9w hw gw) (C := RX9) (F := TX9) (N := 14) hx hb hts uX9 hown hkb hH t_w.1 (hO.no t_w.1 (by decide)) (fun fs => (ob9w t_w fs).mp) rfl rfl 1 (by decide) rfl kw_112 (fun _ h9 => h9) dX11_takeTurns_54 (fun v9 h9 => ?_)
            have h9 : v9 = .int (nI gw) := h9
            subst h9
            have e_gw : (nI gw).toInt = gw := nI_toInt (by have := t_w.2.2; omega)
            have b_gw := t_w.2.2
            refine lv_icmp_ge (tgt := 167) hx hb dX11_takeTurns_57 (by decide) (fun c57 => ?_) (fun c57 => ?_)
            · skip
              have fuc57 := full_i p48_5
              have fvc57 := full_i (nI gw)
              have tc57 := g_le c57
              exact te_v hx hb hr hlocks hH hS rfl dX11_takeTurns_167
            · skip
              have fuc57 := full_i p48_5
              have fvc57 := full_i (nI gw)
              have tc57 := g_nle c57
              refine lv_iload_n hx hb dX11_takeTurns_60 rfl (lv_at hl 3 rfl) ?_
              refine lv_iload hx hb dX11_takeTurns_61 (lv_at hl 0 rfl) ?_
              refine lv_ishr hx hb dX11_takeTurns_63 ?_
              refine lv_topi (fun v63 ev63 => ?_)
              refine lv_iconst (v := 1) hx hb dX11_takeTurns_64 (by decide) ?_
              refine lv_iand hx hb dX11_takeTurns_65 ?_
              refine lv_topi (fun v65 ev65 => ?_)
              have tv65 : 0 ≤ v65.toInt ∧ v65.toInt ≤ 1 := by rw [ev65]; exact and_r (by decide)
              have J161 : ∀  (H : Heap) (locs : List Loc) (ls : Array Slot), HT D cs A T O X H → va_S A s.heap H locs → lv_has ls 8 [(5, .int p48_5), (0, .ref a0), (1, .int x1), (2, .int x2), (3, .int x3), (4, .int x4)] → W p l e { frames := 8, cells := 0, slots := 0, locals := 206 } s m [.ref a0, .int x1, .int x2, .int x3, .int x4].toArray below meth c H locs 0 0 (MQ below (Tv D cs (fun u => u = (T, O, X)) A) [.ref a0, .int x1, .int x2, .int x3, .int x4].toArray s 0 0 A) (F0 m 161 ls []) := by
                intro  H locs ls  hH hS hl
                obtain ⟨v161, ev161⟩ : ∃ y : Int32, y = p48_5 + 1 := ⟨_, rfl⟩
                have tv161 : v161.toInt = p48_5.toInt + (1) := by rw [ev161]; exact add_i rfl (by decide) (by omega) (by omega)
                refine lv_iinc (v := v161) (lv' := [(5, .int v161), (0, .ref a0), (1, .int x1), (2, .int x2), (3, .int x3), (4, .int x4)]) hx hb dX11_takeTurns_161 hl (k := 0) rfl (by rw [ev161]; rfl) (by decide) rfl (fun ls hl => ?_)
                refine lv_goto (tgt := 48) hx hb dX11_takeTurns_164 (by decide) ?_
                exact ih48 _ (by omega) v161 _ _ _ rfl (by omega) (by omega) hH hS (lv_sub hl [0, 1, 2, 3, 4, 5] rfl)
              refine lv_if_eq (tgt := 161) hx hb dX11_takeTurns_66 (by decide) (fun c66 => ?_) (fun c66 => ?_)
              · skip
                have tc66 := f_eq (k := 0) (by decide) c66
                exact J161  _ _ _  hH hS (lv_sub hl [0, 1, 2, 3, 4, 5] rfl)
              · skip
                have tc66 := f_ne (k := 0) (by decide) c66
                refine lv_aload_n hx hb dX11_takeTurns_69 rfl (lv_at hl 1 rfl) ?_
                refine t_get (ci := 11) (lst := ft11 w ch) (C := RX11) (F := TX11) (N := 20) hx hb hts uX11 hown hkb hH t_a0 (hO.no t_a0 (by decide)) (fun _ h9 => h9) rfl rfl 17 (by decide) rfl kw_377 (fun _ h9 => h9) dX11_takeTurns_70 (fun v9 h9 => ?_)
                obtain ⟨v70, rfl, t_v70⟩ := h9
                refine lv_iload_n hx hb dX11_takeTurns_73 rfl (lv_at hl 2 rfl) ?_
                refine lv_iload hx hb dX11_takeTurns_74 (lv_at hl 0 rfl) ?_
                refine t_ist hx hb hkb hH hS t_v70 (hO.no t_v70 (by decide)) (by omega) (by omega) (cp_0 _) dX11_takeTurns_76 (fun H locs hH hS => ?_)
                refine lv_aload_n hx hb dX11_takeTurns_77 rfl (lv_at hl 1 rfl) ?_
                refine t_get (ci := 11) (lst := ft11 w ch) (C := RX11) (F := TX11) (N := 20) hx hb hts uX11 hown hkb hH t_a0 (hO.no t_a0 (by decide)) (fun _ h9 => h9) rfl rfl 14 (by decide) rfl kw_374 (fun _ h9 => h9) dX11_takeTurns_78 (fun v9 h9 => ?_)
                obtain ⟨v78, rfl, t_v78⟩ := h9
                refine lv_aload_n hx hb dX11_takeTurns_81 rfl (lv_at hl 1 rfl) ?_
                refine lv_iload hx hb dX11_takeTurns_82 (lv_at hl 0 rfl) ?_
                refine tk_r hH hS hA (tr_V (n := 1) (As := [.int p48_5]) hx hb hml hown hts hkb hH hOX hks hE hS hA (s_FW_rowsOf l D cs kf T O X a0 w hw gw ch gq p48_5 t_a0 t_w t_ch (by omega) (by omega) (hO.sub (by decide))) kw_830 kw_832 ks_21 kw_1 kw_833 (by decide +kernel) ⟨Nat.le_of_ble_eq_true rfl, Nat.le_of_ble_eq_true rfl⟩ (HT.recv (ci := 11) hkb hH t_a0 (hO.no t_a0 (by decide)) rfl) rfl rfl hl.1 (Nat.le_of_ble_eq_true rfl) dX11_takeTurns_84 ⟨Nat.le_of_ble_eq_true rfl, Nat.le_of_ble_eq_true rfl⟩) (fun v84 u H locs hz9 hH hS => ?_)
                obtain ⟨hu9, t_v84⟩ := hz9
                have hu9 : u = (T, O, X) := hu9
                subst hu9
                have hH : HT D cs A T O X H := hH
                refine W.widen (k := 0) (n := 0) (Nat.le_of_ble_eq_true rfl) (Nat.le_of_ble_eq_true rfl) ?_
                refine lv_iload_n hx hb dX11_takeTurns_87 rfl (lv_at hl 4 rfl) ?_
                refine tk_i hH hS hA (tr_V (n := 2) (As := [.ref v84, .int x3]) hx hb hml hown hts hkb hH hOX hks hE hS hA (s_Ways_find l D cs kf T O X v78 v84 x3 t_v78 t_v84 (hO.sub (by decide))) kw_912 kw_913 kw_914 kw_9 kw_915 (by decide +kernel) ⟨Nat.le_of_ble_eq_true rfl, Nat.le_of_ble_eq_true rfl⟩ (HT.recv (ci := 10) hkb hH t_v78 (hO.no t_v78 (by decide)) rfl) rfl rfl hl.1 (Nat.le_of_ble_eq_true rfl) dX11_takeTurns_88 ⟨Nat.le_of_ble_eq_true rfl, Nat.le_of_ble_eq_true rfl⟩) (fun v88 u H locs hz9 hH hS => ?_)
                obtain ⟨rfl, l_v88, u_v88⟩ := hz9
                have hH : HT D cs A T O X H := hH
                refine W.widen (k := 0) (n := 0) (Nat.le_of_ble_eq_true rfl) (Nat.le_of_ble_eq_true rfl) ?_
                have J99 : ∀ (k99_0 : Int32) (H : Heap) (locs : List Loc) (ls : Array Slot), (0 ≤ k99_0.toInt) → (k99_0.toInt ≤ 1) → HT D cs A T O X H → va_S A s.heap H locs → lv_has ls 8 [(5, .int p48_5), (0, .ref a0), (1, .int x1), (2, .int x2), (3, .int x3), (4, .int x4)] → W p l e { frames := 8, cells := 0, slots := 0, locals := 206 } s m [.ref a0, .int x1, .int x2, .int x3, .int x4].toArray below meth c H locs 0 0 (MQ below (Tv D cs (fun u => u = (T, O, X)) A) [.ref a0, .int x1, .int x2, .int x3, .int x4].toArray s 0 0 A) (F0 m 99 ls [.int k99_0]) := by
                  intro k99_0 H locs ls l_k99_0 u_k99_0 hH hS hl
                  refine lv_istore (lv' := [(6, .int k99_0), (5, .int p48_5), (0, .ref a0), (1, .int x1), (2, .int x2), (3, .int x3), (4, .int x4)]) hx hb dX11_takeTurns_99 hl (by decide) rfl (fun ls hl => ?_)
                  refine lv_iload hx hb dX11_takeTurns_101 (lv_at hl 0 rfl) ?_
                  have J129 : ∀ (k129_0 : Int32) (H : Heap) (locs : List Loc) (ls : Array Slot), HT D cs A T O X H → va_S A s.heap H locs → lv_has ls 8 [(6, .int k99_0), (5, .int p48_5), (0, .ref a0), (1, .int x1), (2, .int x2), (3, .int x3), (4, .int x4)] → W p l e { frames := 8, cells := 0, slots := 0, locals := 206 } s m [.ref a0, .int x1, .int x2, .int x3, .int x4].toArray below meth c H locs 0 0 (MQ below (Tv D cs (fun u => u = (T, O, X)) A) [.ref a0, .int x1, .int x2, .int x3, .int x4].toArray s 0 0 A) (F0 m 129 ls [.int k129_0]) := by
                    intro k129_0 H locs ls  hH hS hl
                    refine lv_istore (lv' := [(7, .int k129_0), (6, .int k99_0), (5, .int p48_5), (0, .ref a0), (1, .int x1), (2, .int x2), (3, .int x3), (4, .int x4)]) hx hb dX11_takeTurns_129 hl (by decide) rfl (fun ls hl => ?_)
                    refine lv_aload_n hx hb dX11_takeTurns_131 rfl (lv_at hl 3 rfl) ?_
                    refine lv_iload_n hx hb dX11_takeTurns_132 rfl (lv_at hl 4 rfl) ?_
                    refine lv_iconst (v := 1) hx hb dX11_takeTurns_133 (by decide) ?_
                    refine lv_iadd hx hb dX11_takeTurns_134 ?_
                    refine lv_topi (fun v134 ev134 => ?_)
                    have tv134 : v134.toInt = x1.toInt + (1) := by rw [ev134]; exact add_i rfl (by decide : (1 : Int32).toInt = 1) (by omega) (by omega)
                    refine lv_iload_n hx hb dX11_takeTurns_135 rfl (lv_at hl 5 rfl) ?_
                    refine lv_iconst (v := 1) hx hb dX11_takeTurns_136 (by decide) ?_
                    refine lv_iload hx hb dX11_takeTurns_137 (lv_at hl 2 rfl) ?_
                    refine lv_ishl hx hb dX11_takeTurns_139 ?_
                    refine lv_topi (fun v139 ev139 => ?_)
                    have tv139 : 1 ≤ v139.toInt ∧ v139.toInt ≤ 16 := by rw [ev139]; exact shl_b 4 (by decide) (by omega) (by omega)
                    refine lv_iconst (v := (-1)) hx hb dX11_takeTurns_140 (by decide) ?_
                    refine lv_ixor hx hb dX11_takeTurns_141 ?_
                    refine lv_topi (fun v141 ev141 => ?_)
                    refine lv_iand hx hb dX11_takeTurns_142 ?_
                    refine lv_topi (fun v142 ev142 => ?_)
                    refine lv_iload hx hb dX11_takeTurns_143 (lv_at hl 0 rfl) ?_
                    refine lv_iload hx hb dX11_takeTurns_145 (lv_at hl 7 rfl) ?_
                    refine lv_iload hx hb dX11_takeTurns_147 (lv_at hl 1 rfl) ?_
                    have J157 : ∀ (k157_0 : Int32) (H : Heap) (locs : List Loc) (ls : Array Slot), (0 ≤ k157_0.toInt) → (k157_0.toInt ≤ 1) → HT D cs A T O X H → va_S A s.heap H locs → lv_has ls 8 [(5, .int p48_5), (0, .ref a0), (1, .int x1), (2, .int x2), (3, .int x3), (4, .int x4)] → W p l e { frames := 8, cells := 0, slots := 0, locals := 206 } s m [.ref a0, .int x1, .int x2, .int x3, .int x4].toArray below meth c H locs 0 0 (MQ below (Tv D cs (fun u => u = (T, O, X)) A) [.ref a0, .int x1, .int x2, .int x3, .int x4].toArray s 0 0 A) (F0 m 157 ls [.int k157_0, .int x4, .int k129_0, .int v142, .int v134, .ref a0]) := by
                      intro k157_0 H locs ls l_k157_0 u_k157_0 hH hS hl
                      refine lv_iadd hx hb dX11_takeTurns_157 ?_
                      refine lv_topi (fun v157 ev157 => ?_)
                      refine tk_v hH hS hA (tr_V (n := 4) (As := [.int v134, .int v142, .int k129_0, .int v157]) hx hb hml hown hts hkb hH hOX hks hE hS hA (s_FW_takeTurns3 l D cs kf T O X a0 w hw gw ch gq v134 v142 k129_0 v157 t_a0 t_w t_ch (by omega) (by omega) (hO.sub (by decide))) kw_1168 kw_1170 ks_42 kw_1 kw_1171 (by decide +kernel) ⟨Nat.le_of_ble_eq_true rfl, Nat.le_of_ble_eq_true rfl⟩ (HT.recv (ci := 11) hkb hH t_a0 (hO.no t_a0 (by decide)) rfl) rfl rfl hl.1 (Nat.le_of_ble_eq_true rfl) dX11_takeTurns_158 ⟨Nat.le_of_ble_eq_true rfl, Nat.le_of_ble_eq_true rfl⟩) (fun u H locs hz9 hH hS => ?_)
                      have hz9 : u = (T, O, X) := hz9
                      subst hz9
                      have hH : HT D cs A T O X H := hH
                      refine W.widen (k := 0) (n := 0) (Nat.le_of_ble_eq_true rfl) (Nat.le_of_ble_eq_true rfl) ?_
                      exact J161  _ _ _  hH hS (lv_sub hl [0, 1, 2, 3, 4, 5] rfl)
                    refine lv_if_eq (tgt := 156) hx hb dX11_takeTurns_149 (by decide) (fun c149 => ?_) (fun c149 => ?_)
                    · skip
                      have tc149 := f_eq (k := 0) (by decide) c149
                      refine lv_iconst (v := 0) hx hb dX11_takeTurns_156 (by decide) ?_
                      exact J157 0 _ _ _ (by decide) (by decide) hH hS (lv_sub hl [2, 3, 4, 5, 6, 7] rfl)
                    · skip
                      have tc149 := f_ne (k := 0) (by decide) c149
                      refine lv_iconst (v := 1) hx hb dX11_takeTurns_152 (by decide) ?_
                      refine lv_goto (tgt := 157) hx hb dX11_takeTurns_153 (by decide) ?_
                      exact J157 1 _ _ _ (by decide) (by decide) hH hS (lv_sub hl [2, 3, 4, 5, 6, 7] rfl)
                  refine lv_if_eq (tgt := 128) hx hb dX11_takeTurns_103 (by decide) (fun c103 => ?_) (fun c103 => ?_)
                  · skip
                    have tc103 := f_eq (k := 0) (by decide) c103
                    refine lv_iload_n hx hb dX11_takeTurns_128 rfl (lv_at hl 5 rfl) ?_
                    exact J129 x3 _ _ _  hH hS (lv_sub hl [0, 1, 2, 3, 4, 5, 6] rfl)
                  · skip
                    have tc103 := f_ne (k := 0) (by decide) c103
                    refine lv_iload_n hx hb dX11_takeTurns_106 rfl (lv_at hl 5 rfl) ?_
                    refine lv_aload_n hx hb dX11_takeTurns_107 rfl (lv_at hl 2 rfl) ?_
                    refine t_get (ci := 11) (lst := ft11 w ch) (C := RX11) (F := TX11) (N := 20) hx hb hts uX11 hown hkb hH t_a0 (hO.no t_a0 (by decide)) (fun _ h9 => h9) rfl rfl 14 (by decide) rfl kw_374 (fun _ h9 => h9) dX11_takeTurns_108 (fun v9 h9 => ?_)
                    obtain ⟨v108, rfl, t_v108⟩ := h9
                    refine tk_i hH hS hA (tr_V (n := 0) (As := []) hx hb hml hown hts hkb hH hOX hks hE hS hA (s_Ways_pathSet l D cs kf T O X v108 t_v108 (hO.sub (by decide))) kw_926 kw_927 kw_928 kw_9 kw_929 (by decide +kernel) ⟨Nat.le_of_ble_eq_true rfl, Nat.le_of_ble_eq_true rfl⟩ (HT.recv (ci := 10) hkb hH t_v108 (hO.no t_v108 (by decide)) rfl) rfl rfl hl.1 (Nat.le_of_ble_eq_true rfl) dX11_takeTurns_111 ⟨Nat.le_of_ble_eq_true rfl, Nat.le_of_ble_eq_true rfl⟩) (fun v111 u H locs hz9 hH hS => ?_)
                    have hz9 : u = (T, O, X) := hz9
                    subst hz9
                    have hH : HT D cs A T O X H := hH
                    refine W.widen (k := 0) (n := 0) (Nat.le_of_ble_eq_true rfl) (Nat.le_of_ble_eq_true rfl) ?_
                    refine lv_aload_n hx hb dX11_takeTurns_114 rfl (lv_at hl 2 rfl) ?_
                    refine t_get (ci := 11) (lst := ft11 w ch) (C := RX11) (F := TX11) (N := 20) hx hb hts uX11 hown hkb hH t_a0 (hO.no t_a0 (by decide)) (fun _ h9 => h9) rfl rfl 3 (by decide) rfl kw_363 (fun _ h9 => h9) dX11_takeTurns_115 (fun v9 h9 => ?_)
                    have h9 : v9 = .ref w := h9
                    subst h9
                    refine tk_i hH hS hA (tr_V (n := 0) (As := []) hx hb hml hown hts hkb hH hOX hks hE hS hA (s_Wall_middles l D cs kf T O X w hw gw t_w (hO.sub (by decide))) kw_892 kw_683 kw_684 kw_5 kw_685 (by decide +kernel) ⟨Nat.le_of_ble_eq_true rfl, Nat.le_of_ble_eq_true rfl⟩ (HT.recv (ci := 9) hkb hH t_w.1 (hO.no t_w.1 (by decide)) rfl) rfl rfl hl.1 (Nat.le_of_ble_eq_true rfl) dX11_takeTurns_118 ⟨Nat.le_of_ble_eq_true rfl, Nat.le_of_ble_eq_true rfl⟩) (fun v118 u H locs hz9 hH hS => ?_)
                    obtain ⟨rfl, l_v118, u_v118⟩ := hz9
                    have hH : HT D cs A T O X H := hH
                    refine W.widen (k := 0) (n := 0) (Nat.le_of_ble_eq_true rfl) (Nat.le_of_ble_eq_true rfl) ?_
                    refine lv_iand hx hb dX11_takeTurns_121 ?_
                    refine lv_topi (fun v121 ev121 => ?_)
                    have tv121 : 0 ≤ v121.toInt ∧ v121.toInt ≤ v118.toInt := by rw [ev121]; exact and_r (by omega)
                    refine lv_iconst (v := (-1)) hx hb dX11_takeTurns_122 (by decide) ?_
                    refine lv_ixor hx hb dX11_takeTurns_123 ?_
                    refine lv_topi (fun v123 ev123 => ?_)
                    refine lv_iand hx hb dX11_takeTurns_124 ?_
                    refine lv_topi (fun v124 ev124 => ?_)
                    refine lv_goto (tgt := 129) hx hb dX11_takeTurns_125 (by decide) ?_
                    exact J129 v124 _ _ _  hH hS (lv_sub hl [0, 1, 2, 3, 4, 5, 6] rfl)
                refine lv_if_le (tgt := 98) hx hb dX11_takeTurns_91 (by decide) (fun c91 => ?_) (fun c91 => ?_)
                · skip
                  have tc91 := f_le (k := 0) (by decide) c91
                  refine lv_iconst (v := 0) hx hb dX11_takeTurns_98 (by decide) ?_
                  exact J99 0 _ _ _ (by decide) (by decide) hH hS (lv_sub hl [0, 1, 2, 3, 4, 5] rfl)
                · skip
                  have tc91 := f_nle (k := 0) (by decide) c91
                  refine lv_iconst (v := 1) hx hb dX11_takeTurns_94 (by decide) ?_
                  refine lv_goto (tgt := 99) hx hb dX11_takeTurns_95 (by decide) ?_
                  exact J99 1 _ _ _ (by decide) (by decide) hH hS (lv_sub hl [0, 1, 2, 3, 4, 5] rfl)
        refine lv_istore (lv' := [(5, .int 0), (0, .ref a0), (1, .int x1), (2, .int x2), (3, .int x3), (4, .int x4)]) hx hb dX11_takeTurns_46 hl (by decide) rfl (fun ls hl => ?_)
        exact J48 _ 0 _ _ _ rfl (by decide) (by decide) hH hS (lv_sub hl [0, 1, 2, 3, 4, 5] rfl)
      · skip
        have tc21 := f_nlt (k := 5) (by decide) c21
        exfalso; omega
  · skip
    have fuc11 := full_i v6
    have fvc11 := full_i v8
    have tc11 := g_nlt c11
    exact te_v hx hb hr hlocks hH hS rfl dX11_takeTurns_14
set_option maxHeartbeats 4000000 in
set_option maxRecDepth 100000 in
theorem s_FW_takeTurns1 (l : Launch) (D : va_G) (cs : CS) (kf : KF) (T : TF) (O : List Nat) (X : va_W) (a0 w hw gw ch gq : Nat) (x1 : Int32) (x2 : Int32) (x3 : Int32) (x4 : Int32) (t_a0 : T a0 = some (21, w, ch)) (t_w : isW T w hw gw) (t_ch : T ch = some (10, gq, 0)) (l_x1 : 1 ≤ x1.toInt) (u_x1 : x1.toInt ≤ 1) (hO : okO T O [1, 7, 12, 15, 16, 19, 20, 21]) : TK l D cs kf yX11_takeTurns cX11_takeTurns 8 none { frames := 9, cells := 0, slots := 0, locals := 233 } [.ref a0, .int x1, .int x2, .int x3, .int x4] T O X (Tv D cs (fun u => u = (T, O, X))) := by
  refine tk_of (by decide) (Nat.le_of_ble_eq_true rfl) (fun p e s m below meth c ls A H locs hx hb hr hml hown hts hlocks hnm hkb hH hS hA hOX hks hE hl => ?_)
  have hown : s.vm.findClass RX11 = some m.cls := hown
  have hl : lv_has ls 8 [(0, .ref a0), (1, .int x1), (2, .int x2), (3, .int x3), (4, .int x4)] := hl
  have b1_w := t_w.2.1
  have b2_w := t_w.2.2
  refine lv_iload hx hb dX11_takeTurns_0 (lv_at hl 4 rfl) ?_
  refine lv_iload_n hx hb dX11_takeTurns_2 rfl (lv_at hl 2 rfl) ?_
  refine tk_i hH hS hA (tr_S (n := 1) (As := [.int x2]) hx hb hml hown hts hkb hH hOX hks hE hS hA (s_bitCount l D cs kf T O X x2  (hO.sub (by decide))) kw_893 kw_692 kw_20 kw_693 (by decide +kernel) ⟨Nat.le_of_ble_eq_true rfl, Nat.le_of_ble_eq_true rfl⟩ rfl rfl hl.1 (Nat.le_of_ble_eq_true rfl) dX11_takeTurns_3 ⟨Nat.le_of_ble_eq_true rfl, Nat.le_of_ble_eq_true rfl⟩) (fun v3 u H locs hz9 hH hS => ?_)
  obtain ⟨rfl, l_v3, u_v3⟩ := hz9
  have hH : HT D cs A T O X H := hH
  refine W.widen (k := 0) (n := 0) (Nat.le_of_ble_eq_true rfl) (Nat.le_of_ble_eq_true rfl) ?_
  refine lv_iadd hx hb dX11_takeTurns_6 ?_
  refine lv_topi (fun v6 ev6 => ?_)
  refine lv_aload_n hx hb dX11_takeTurns_7 rfl (lv_at hl 0 rfl) ?_
  refine t_get (ci := 11) (lst := ft11 w ch) (C := RX11) (F := TX11) (N := 20) hx hb hts uX11 hown hkb hH t_a0 (hO.no t_a0 (by decide)) (fun _ h9 => h9) rfl rfl 19 (by decide) rfl kw_379 (fun _ h9 => h9) dX11_takeTurns_8 (fun v9 h9 => ?_)
  obtain ⟨v8, rfl⟩ := h9
  refine lv_icmp_gt (tgt := 15) hx hb dX11_takeTurns_11 (by decide) (fun c11 => ?_) (fun c11 => ?_)
  · skip
    have fuc11 := full_i v6
    have fvc11 := full_i v8
    have tc11 := g_lt c11
    refine lv_iload_n hx hb dX11_takeTurns_15 rfl (lv_at hl 2 rfl) ?_
    refine lv_if_eq (tgt := 24) hx hb dX11_takeTurns_16 (by decide) (fun c16 => ?_) (fun c16 => ?_)
    · skip
      have tc16 := f_eq (k := 0) (by decide) c16
      refine lv_aload_n hx hb dX11_takeTurns_24 rfl (lv_at hl 0 rfl) ?_
      refine lv_iload hx hb dX11_takeTurns_25 (lv_at hl 4 rfl) ?_
      refine t_put (ci := 11) (lst := ft11 w ch) (v := .int x4) (ty := tyX11 19) (C := RX11) (F := TX11) (N := 20) hx hb hts uX11 tyX11 tyX11_ok nmX11 hown hkb hH hS t_a0 (hO.no t_a0 (by decide)) (fun _ => Iff.rfl) rfl rfl 19 (by decide) rfl (⟨_, rfl⟩) kw_379 (fun _ h9 => h9) rfl (tyX11_ok 19 (by decide)) rfl rfl dX11_takeTurns_27 (fun H locs hH hS => ?_)
      refine lv_aload_n hx hb dX11_takeTurns_30 rfl (lv_at hl 0 rfl) ?_
      refine t_get (ci := 11) (lst := ft11 w ch) (C := RX11) (F := TX11) (N := 20) hx hb hts uX11 hown hkb hH t_a0 (hO.no t_a0 (by decide)) (fun _ h9 => h9) rfl rfl 17 (by decide) rfl kw_377 (fun _ h9 => h9) dX11_takeTurns_31 (fun v9 h9 => ?_)
      obtain ⟨v31, rfl, t_v31⟩ := h9
      refine lv_iconst (v := 0) hx hb dX11_takeTurns_34 (by decide) ?_
      refine lv_aload_n hx hb dX11_takeTurns_35 rfl (lv_at hl 0 rfl) ?_
      refine t_get (ci := 11) (lst := ft11 w ch) (C := RX11) (F := TX11) (N := 20) hx hb hts uX11 hown hkb hH t_a0 (hO.no t_a0 (by decide)) (fun _ h9 => h9) rfl rfl 18 (by decide) rfl kw_378 (fun _ h9 => h9) dX11_takeTurns_36 (fun v9 h9 => ?_)
      obtain ⟨v36, rfl, t_v36⟩ := h9
      refine lv_iconst (v := 0) hx hb dX11_takeTurns_39 (by decide) ?_
      refine lv_iconst (v := 5) hx hb dX11_takeTurns_40 (by decide) ?_
      refine t_copy hx hb (by rw [hml]; exact hl.1.symm) hown (hts _ kw_1172) (hts _ kw_734) (hts _ kw_733) (hts _ kw_23) hkb hH hS (fun _ h9 => h9) t_v31 (hO.no t_v31 (by decide)) t_v36 (hO.no t_v36 (by decide)) (by decide) (by decide) (by decide) (by decide) (by decide) (Nat.le_of_ble_eq_true rfl) (Nat.le_of_ble_eq_true rfl) dX11_takeTurns_41 (fun H locs hH hS => ?_)
      exact te_v hx hb hr hlocks hH hS rfl dX11_takeTurns_44
    · skip
      have tc16 := f_ne (k := 0) (by decide) c16
      refine lv_iload_n hx hb dX11_takeTurns_19 rfl (lv_at hl 1 rfl) ?_
      refine lv_iconst (v := 5) hx hb dX11_takeTurns_20 (by decide) ?_
      refine lv_icmp_lt (tgt := 45) hx hb dX11_takeTurns_21 (by decide) (fun c21 => ?_) (fun c21 => ?_)
      · skip
        have tc21 := f_lt (k := 5) (by decide) c21
        refine lv_iconst (v := 0) hx hb dX11_takeTurns_45 (by decide) ?_
        have J48 : ∀ (n : Nat) (p48_5 : Int32) (H : Heap) (locs : List Loc) (ls : Array Slot), (5 - p48_5.toInt).toNat = n → (0 ≤ p48_5.toInt) → (p48_5.toInt ≤ 5) → HT D cs A T O X H → va_S A s.heap H locs → lv_has ls 8 [(5, .int p48_5), (0, .ref a0), (1, .int x1), (2, .int x2), (3, .int x3), (4, .int x4)] → W p l e { frames := 9, cells := 0, slots := 0, locals := 233 } s m [.ref a0, .int x1, .int x2, .int x3, .int x4].toArray below meth c H locs 0 0 (MQ below (Tv D cs (fun u => u = (T, O, X)) A) [.ref a0, .int x1, .int x2, .int x3, .int x4].toArray s 0 0 A) (F0 m 48 ls []) := by
          intro n
          induction n using Nat.strongRecOn with
          | _ n ih48 =>
            intro p48_5 H locs ls hm48 l_p48_5 u_p48_5 hH hS hl
            refine lv_iload hx hb dX11_takeTurns_48 (lv_at hl 0 rfl) ?_
            refine lv_aload_n hx hb dX11_takeTurns_50 rfl (lv_at hl 1 rfl) ?_
            refine t_get (ci := 11) (lst := ft11 w ch) (C := RX11) (F := TX11) (N := 20) hx hb hts uX11 hown hkb hH t_a0 (hO.no t_a0 (by decide)) (fun _ h9 => h9) rfl rfl 3 (by decide) rfl kw_363 (fun _ h9 => h9) dX11_takeTurns_51 (fun v9 h9 => ?_)
            have h9 : v9 = .ref w := h9
            subst h9
            refine t_get (ci := 9) (lst := ft9w hw gw) (C := RX9) (F := TX9) (N := 14) hx hb hts uX9 hown hkb hH t_w.1 (hO.no t_w.1 (by decide)) (fun fs => (ob9w t_w fs).mp) rfl rfl 1 (by decide) rfl kw_112 (fun _ h9 => h9) dX11_takeTurns_54 (fun v9 h9 => ?_)
            have h9 : v9 = .int (nI gw) := h9
            subst h9
            have e_gw : (nI gw).toInt = gw := nI_toInt (by have := t_w.2.2; omega)
            have b_gw := t_w.2.2
            refine lv_icmp_ge (tgt := 167) hx hb dX11_takeTurns_57 (by decide) (fun c57 => ?_) (fun c57 => ?_)
            · skip
              have fuc57 := full_i p48_5
              have fvc57 := full_i (nI gw)
              have tc57 := g_le c57
              exact te_v hx hb hr hlocks hH hS rfl dX11_takeTurns_167
            · skip
              have fuc57 := full_i p48_5
              have fvc57 := full_i (nI gw)
              have tc57 := g_nle c57
              refine lv_iload_n hx hb dX11_takeTurns_60 rfl (lv_at hl 3 rfl) ?_
              refine lv_iload hx hb dX11_takeTurns_61 (lv_at hl 0 rfl) ?_
              refine lv_ishr hx hb dX11_takeTurns_63 ?_
              refine lv_topi (fun v63 ev63 => ?_)
              refine lv_iconst (v := 1) hx hb dX11_takeTurns_64 (by decide) ?_
              refine lv_iand hx hb dX11_takeTurns_65 ?_
              refine lv_topi (fun v65 ev65 => ?_)
              have tv65 : 0 ≤ v65.toInt ∧ v65.toInt ≤ 1 := by rw [ev65]; exact and_r (by decide)
              have J161 : ∀  (H : Heap) (locs : List Loc) (ls : Array Slot), HT D cs A T O X H → va_S A s.heap H locs → lv_has ls 8 [(5, .int p48_5), (0, .ref a0), (1, .int x1), (2, .int x2), (3, .int x3), (4, .int x4)] → W p l e { frames := 9, cells := 0, slots := 0, locals := 233 } s m [.ref a0, .int x1, .int x2, .int x3, .int x4].toArray below meth c H locs 0 0 (MQ below (Tv D cs (fun u => u = (T, O, X)) A) [.ref a0, .int x1, .int x2, .int x3, .int x4].toArray s 0 0 A) (F0 m 161 ls []) := by
                intro  H locs ls  hH hS hl
                obtain ⟨v161, ev161⟩ : ∃ y : Int32, y = p48_5 + 1 := ⟨_, rfl⟩
                have tv161 : v161.toInt = p48_5.toInt + (1) := by rw [ev161]; exact add_i rfl (by decide) (by omega) (by omega)
                refine lv_iinc (v := v161) (lv' := [(5, .int v161), (0, .ref a0), (1, .int x1), (2, .int x2), (3, .int x3), (4, .int x4)]) hx hb dX11_takeTurns_161 hl (k := 0) rfl (by rw [ev161]; rfl) (by decide) rfl (fun ls hl => ?_)
                refine lv_goto (tgt := 48) hx hb dX11_takeTurns_164 (by decide) ?_
                exact ih48 _ (by omega) v161 _ _ _ rfl (by omega) (by omega) hH hS (lv_sub hl [0, 1, 2, 3, 4, 5] rfl)
              refine lv_if_eq (tgt := 161) hx hb dX11_takeTurns_66 (by decide) (fun c66 => ?_) (fun c66 => ?_)
              · skip
                have tc66 := f_eq (k := 0) (by decide) c66
                exact J161  _ _ _  hH hS (lv_sub hl [0, 1, 2, 3, 4, 5] rfl)
              · skip
                have tc66 := f_ne (k := 0) (by decide) c66
                refine lv_aload_n hx hb dX11_takeTurns_69 rfl (lv_at hl 1 rfl) ?_
                refine t_get (ci := 11) (lst := ft11 w ch) (C := RX11) (F := TX11) (N := 20) hx hb hts uX11 hown hkb hH t_a0 (hO.no t_a0 (by decide)) (fun _ h9 => h9) rfl rfl 17 (by decide) rfl kw_377 (fun _ h9 => h9) dX11_takeTurns_70 (fun v9 h9 => ?_)
                obtain ⟨v70, rfl, t_v70⟩ := h9
                refine lv_iload_n hx hb dX11_takeTurns_73 rfl (lv_at hl 2 rfl) ?_
                refine lv_iload hx hb dX11_takeTurns_74 (lv_at hl 0 rfl) ?_
                refine t_ist hx hb hkb hH hS t_v70 (hO.no t_v70 (by decide)) (by omega) (by omega) (cp_0 _) dX11_takeTurns_76 (fun H locs hH hS => ?_)
                refine lv_aload_n hx hb dX11_takeTurns_77 rfl (lv_at hl 1 rfl) ?_
                refine t_get (ci := 11) (lst := ft11 w ch) (C := RX11) (F := TX11) (N := 20) hx hb hts uX11 hown hkb hH t_a0 (hO.no t_a0 (by decide)) (fun _ h9 => h9) rfl rfl 14 (by decide) rfl kw_374 (fun _ h9 => h9) dX11_takeTurns_78 (fun v9 h9 => ?_)
                obtain ⟨v78, rfl, t_v78⟩ := h9
                refine lv_aload_n hx hb dX11_takeTurns_81 rfl (lv_at hl 1 rfl) ?_
                refine lv_iload hx hb dX11_takeTurns_82 (lv_at hl 0 rfl) ?_
                refine tk_r hH hS hA (tr_V (n := 1) (As := [.int p48_5]) hx hb hml hown hts hkb hH hOX hks hE hS hA (s_FW_rowsOf l D cs kf T O X a0 w hw gw ch gq p48_5 t_a0 t_w t_ch (by omega) (by omega) (hO.sub (by decide))) kw_830 kw_832 ks_21 kw_1 kw_833 (by decide +kernel) ⟨Nat.le_of_ble_eq_true rfl, Nat.le_of_ble_eq_true rfl⟩ (HT.recv (ci := 11) hkb hH t_a0 (hO.no t_a0 (by decide)) rfl) rfl rfl hl.1 (Nat.le_of_ble_eq_true rfl) dX11_takeTurns_84 ⟨Nat.le_of_ble_eq_true rfl, Nat.le_of_ble_eq_true rfl⟩) (fun v84 u H locs hz9 hH hS => ?_)
                obtain ⟨hu9, t_v84⟩ := hz9
                have hu9 : u = (T, O, X) := hu9
                subst hu9
                have hH : HT D cs A T O X H := hH
                refine W.widen (k := 0) (n := 0) (Nat.le_of_ble_eq_true rfl) (Nat.le_of_ble_eq_true rfl) ?_
                refine lv_iload_n hx hb dX11_takeTurns_87 rfl (lv_at hl 4 rfl) ?_
                refine tk_i hH hS hA (tr_V (n := 2) (As := [.ref v84, .int x3]) hx hb hml hown hts hkb hH hOX hks hE hS hA (s_Ways_find l D cs kf T O X v78 v84 x3 t_v78 t_v84 (hO.sub (by decide))) kw_912 kw_913 kw_914 kw_9 kw_915 (by decide +kernel) ⟨Nat.le_of_ble_eq_true rfl, Nat.le_of_ble_eq_true rfl⟩ (HT.recv (ci := 10) hkb hH t_v78 (hO.no t_v78 (by decide)) rfl) rfl rfl hl.1 (Nat.le_of_ble_eq_true rfl) dX11_takeTurns_88 ⟨Nat.le_of_ble_eq_true rfl, Nat.le_of_ble_eq_true rfl⟩) (fun v88 u H locs hz9 hH hS => ?_)
                obtain ⟨rfl, l_v88, u_v88⟩ := hz9
                have hH : HT D cs A T O X H := hH
                refine W.widen (k := 0) (n := 0) (Nat.le_of_ble_eq_true rfl) (Nat.le_of_ble_eq_true rfl) ?_
                have J99 : ∀ (k99_0 : Int32) (H : Heap) (locs : List Loc) (ls : Array Slot), (0 ≤ k99_0.toInt) → (k99_0.toInt ≤ 1) → HT D cs A T O X H → va_S A s.heap H locs → lv_has ls 8 [(5, .int p48_5), (0, .ref a0), (1, .int x1), (2, .int x2), (3, .int x3), (4, .int x4)] → W p l e { frames := 9, cells := 0, slots := 0, locals := 233 } s m [.ref a0, .int x1, .int x2, .int x3, .int x4].toArray below meth c H locs 0 0 (MQ below (Tv D cs (fun u => u = (T, O, X)) A) [.ref a0, .int x1, .int x2, .int x3, .int x4].toArray s 0 0 A) (F0 m 99 ls [.int k99_0]) := by
                  intro k99_0 H locs ls l_k99_0 u_k99_0 hH hS hl
                  refine lv_istore (lv' := [(6, .int k99_0), (5, .int p48_5), (0, .ref a0), (1, .int x1), (2, .int x2), (3, .int x3), (4, .int x4)]) hx hb dX11_takeTurns_99 hl (by decide) rfl (fun ls hl => ?_)
                  refine lv_iload hx hb dX11_takeTurns_101 (lv_at hl 0 rfl) ?_
                  have J129 : ∀ (k129_0 : Int32) (H : Heap) (locs : List Loc) (ls : Array Slot), HT D cs A T O X H → va_S A s.heap H locs → lv_has ls 8 [(6, .int k99_0), (5, .int p48_5), (0, .ref a0), (1, .int x1), (2, .int x2), (3, .int x3), (4, .int x4)] → W p l e { frames := 9, cells := 0, slots := 0, locals := 233 } s m [.ref a0, .int x1, .int x2, .int x3, .int x4].toArray below meth c H locs 0 0 (MQ below (Tv D cs (fun u => u = (T, O, X)) A) [.ref a0, .int x1, .int x2, .int x3, .int x4].toArray s 0 0 A) (F0 m 129 ls [.int k129_0]) := by
                    intro k129_0 H locs ls  hH hS hl
                    refine lv_istore (lv' := [(7, .int k129_0), (6, .int k99_0), (5, .int p48_5), (0, .ref a0), (1, .int x1), (2, .int x2), (3, .int x3), (4, .int x4)]) hx hb dX11_takeTurns_129 hl (by decide) rfl (fun ls hl => ?_)
                    refine lv_aload_n hx hb dX11_takeTurns_131 rfl (lv_at hl 3 rfl) ?_
                    refine lv_iload_n hx hb dX11_takeTurns_132 rfl (lv_at hl 4 rfl) ?_
                    refine lv_iconst (v := 1) hx hb dX11_takeTurns_133 (by decide) ?_
                    refine lv_iadd hx hb dX11_takeTurns_134 ?_
                    refine lv_topi (fun v134 ev134 => ?_)
                    have tv134 : v134.toInt = x1.toInt + (1) := by rw [ev134]; exact add_i rfl (by decide : (1 : Int32).toInt = 1) (by omega) (by omega)
                    refine lv_iload_n hx hb dX11_takeTurns_135 rfl (lv_at hl 5 rfl) ?_
                    refine lv_iconst (v := 1) hx hb dX11_takeTurns_136 (by decide) ?_
                    refine lv_iload hx hb dX11_takeTurns_137 (lv_at hl 2 rfl) ?_
                    refine lv_ishl hx hb dX11_takeTurns_139 ?_
                    refine lv_topi (fun v139 ev139 => ?_)
                    have tv139 : 1 ≤ v139.toInt ∧ v139.toInt ≤ 16 := by rw [ev139]; exact shl_b 4 (by decide) (by omega) (by omega)
                    refine lv_iconst (v := (-1)) hx hb dX11_takeTurns_140 (by decide) ?_
                    refine lv_ixor hx hb dX11_takeTurns_141 ?_
                    refine lv_topi (fun v141 ev141 => ?_)
                    refine lv_iand hx hb dX11_takeTurns_142 ?_
                    refine lv_topi (fun v142 ev142 => ?_)
                    refine lv_iload hx hb dX11_takeTurns_143 (lv_at hl 0 rfl) ?_
                    refine lv_iload hx hb dX11_takeTurns_145 (lv_at hl 7 rfl) ?_
                    refine lv_iload hx hb dX11_takeTurns_147 (lv_at hl 1 rfl) ?_
                    have J157 : ∀ (k157_0 : Int32) (H : Heap) (locs : List Loc) (ls : Array Slot), (0 ≤ k157_0.toInt) → (k157_0.toInt ≤ 1) → HT D cs A T O X H → va_S A s.heap H locs → lv_has ls 8 [(5, .int p48_5), (0, .ref a0), (1, .int x1), (2, .int x2), (3, .int x3), (4, .int x4)] → W p l e { frames := 9, cells := 0, slots := 0, locals := 233 } s m [.ref a0, .int x1, .int x2, .int x3, .int x4].toArray below meth c H locs 0 0 (MQ below (Tv D cs (fun u => u = (T, O, X)) A) [.ref a0, .int x1, .int x2, .int x3, .int x4].toArray s 0 0 A) (F0 m 157 ls [.int k157_0, .int x4, .int k129_0, .int v142, .int v134, .ref a0]) := by
                      intro k157_0 H locs ls l_k157_0 u_k157_0 hH hS hl
                      refine lv_iadd hx hb dX11_takeTurns_157 ?_
                      refine lv_topi (fun v157 ev157 => ?_)
                      refine tk_v hH hS hA (tr_V (n := 4) (As := [.int v134, .int v142, .int k129_0, .int v157]) hx hb hml hown hts hkb hH hOX hks hE hS hA (s_FW_takeTurns2 l D cs kf T O X a0 w hw gw ch gq v134 v142 k129_0 v157 t_a0 t_w t_ch (by omega) (by omega) (hO.sub (by decide))) kw_1168 kw_1170 ks_42 kw_1 kw_1171 (by decide +kernel) ⟨Nat.le_of_ble_eq_true rfl, Nat.le_of_ble_eq_true rfl⟩ (HT.recv (ci := 11) hkb hH t_a0 (hO.no t_a0 (by decide)) rfl) rfl rfl hl.1 (Nat.le_of_ble_eq_true rfl) dX11_takeTurns_158 ⟨Nat.le_of_ble_eq_true rfl, Nat.le_of_ble_eq_true rfl⟩) (fun u H locs hz9 hH hS => ?_)
                      have hz9 : u = (T, O, X) := hz9
                      subst hz9
                      have hH : HT D cs A T O X H := hH
                      refine W.widen (k := 0) (n := 0) (Nat.le_of_ble_eq_true rfl) (Nat.le_of_ble_eq_true rfl) ?_
                      exact J161  _ _ _  hH hS (lv_sub hl [0, 1, 2, 3, 4, 5] rfl)
                    refine lv_if_eq (tgt := 156) hx hb dX11_takeTurns_149 (by decide) (fun c149 => ?_) (fun c149 => ?_)
                    · skip
                      have tc149 := f_eq (k := 0) (by decide) c149
                      refine lv_iconst (v := 0) hx hb dX11_takeTurns_156 (by decide) ?_
                      exact J157 0 _ _ _ (by decide) (by decide) hH hS (lv_sub hl [2, 3, 4, 5, 6, 7] rfl)
                    · skip
                      have tc149 := f_ne (k := 0) (by decide) c149
                      refine lv_iconst (v := 1) hx hb dX11_takeTurns_152 (by decide) ?_
                      refine lv_goto (tgt := 157) hx hb dX11_takeTurns_153 (by decide) ?_
                      exact J157 1 _ _ _ (by decide) (by decide) hH hS (lv_sub hl [2, 3, 4, 5, 6, 7] rfl)
                  refine lv_if_eq (tgt := 128) hx hb dX11_takeTurns_103 (by decide) (fun c103 => ?_) (fun c103 => ?_)
                  · skip
                    have tc103 := f_eq (k := 0) (by decide) c103
                    refine lv_iload_n hx hb dX11_takeTurns_128 rfl (lv_at hl 5 rfl) ?_
                    exact J129 x3 _ _ _  hH hS (lv_sub hl [0, 1, 2, 3, 4, 5, 6] rfl)
                  · skip
                    have tc103 := f_ne (k := 0) (by decide) c103
                    refine lv_iload_n hx hb dX11_takeTurns_106 rfl (lv_at hl 5 rfl) ?_
                    refine lv_aload_n hx hb dX11_takeTurns_107 rfl (lv_at hl 2 rfl) ?_
                    refine t_get (ci := 11) (lst := ft11 w ch) (C := RX11) (F := TX11) (N := 20) hx hb hts uX11 hown hkb hH t_a0 (hO.no t_a0 (by decide)) (fun _ h9 => h9) rfl rfl 14 (by decide) rfl kw_374 (fun _ h9 => h9) dX11_takeTurns_108 (fun v9 h9 => ?_)
                    obtain ⟨v108, rfl, t_v108⟩ := h9
                    refine tk_i hH hS hA (tr_V (n := 0) (As := []) hx hb hml hown hts hkb hH hOX hks hE hS hA (s_Ways_pathSet l D cs kf T O X v108 t_v108 (hO.sub (by decide))) kw_926 kw_927 kw_928 kw_9 kw_929 (by decide +kernel) ⟨Nat.le_of_ble_eq_true rfl, Nat.le_of_ble_eq_true rfl⟩ (HT.recv (ci := 10) hkb hH t_v108 (hO.no t_v108 (by decide)) rfl) rfl rfl hl.1 (Nat.le_of_ble_eq_true rfl) dX11_takeTurns_111 ⟨Nat.le_of_ble_eq_true rfl, Nat.le_of_ble_eq_true rfl⟩) (fun v111 u H locs hz9 hH hS => ?_)
                    have hz9 : u = (T, O, X) := hz9
                    subst hz9
                    have hH : HT D cs A T O X H := hH
                    refine W.widen (k := 0) (n := 0) (Nat.le_of_ble_eq_true rfl) (Nat.le_of_ble_eq_true rfl) ?_
                    refine lv_aload_n hx hb dX11_takeTurns_114 rfl (lv_at hl 2 rfl) ?_
                    refine t_get (ci := 11) (lst := ft11 w ch) (C := RX11) (F := TX11) (N := 20) hx hb hts uX11 hown hkb hH t_a0 (hO.no t_a0 (by decide)) (fun _ h9 => h9) rfl rfl 3 (by decide) rfl kw_363 (fun _ h9 => h9) dX11_takeTurns_115 (fun v9 h9 => ?_)
                    have h9 : v9 = .ref w := h9
                    subst h9
                    refine tk_i hH hS hA (tr_V (n := 0) (As := []) hx hb hml hown hts hkb hH hOX hks hE hS hA (s_Wall_middles l D cs kf T O X w hw gw t_w (hO.sub (by decide))) kw_892 kw_683 kw_684 kw_5 kw_685 (by decide +kernel) ⟨Nat.le_of_ble_eq_true rfl, Nat.le_of_ble_eq_true rfl⟩ (HT.recv (ci := 9) hkb hH t_w.1 (hO.no t_w.1 (by decide)) rfl) rfl rfl hl.1 (Nat.le_of_ble_eq_true rfl) dX11_takeTurns_118 ⟨Nat.le_of_ble_eq_true rfl, Nat.le_of_ble_eq_true rfl⟩) (fun v118 u H locs hz9 hH hS => ?_)
                    obtain ⟨rfl, l_v118, u_v118⟩ := hz9
                    have hH : HT D cs A T O X H := hH
                    refine W.widen (k := 0) (n := 0) (Nat.le_of_ble_eq_true rfl) (Nat.le_of_ble_eq_true rfl) ?_
                    refine lv_iand hx hb dX11_takeTurns_121 ?_
                    refine lv_topi (fun v121 ev121 => ?_)
                    have tv121 : 0 ≤ v121.toInt ∧ v121.toInt ≤ v118.toInt := by rw [ev121]; exact and_r (by omega)
                    refine lv_iconst (v := (-1)) hx hb dX11_takeTurns_122 (by decide) ?_
                    refine lv_ixor hx hb dX11_takeTurns_123 ?_
                    refine lv_topi (fun v123 ev123 => ?_)
                    refine lv_iand hx hb dX11_takeTurns_124 ?_
                    refine lv_topi (fun v124 ev124 => ?_)
                    refine lv_goto (tgt := 129) hx hb dX11_takeTurns_125 (by decide) ?_
                    exact J129 v124 _ _ _  hH hS (lv_sub hl [0, 1, 2, 3, 4, 5, 6] rfl)
                refine lv_if_le (tgt := 98) hx hb dX11_takeTurns_91 (by decide) (fun c91 => ?_) (fun c91 => ?_)
                · skip
                  have tc91 := f_le (k := 0) (by decide) c91
                  refine lv_iconst (v := 0) hx hb dX11_takeTurns_98 (by decide) ?_
                  exact J99 0 _ _ _ (by decide) (by decide) hH hS (lv_sub hl [0, 1, 2, 3, 4, 5] rfl)
                · skip
                  have tc91 := f_nle (k := 0) (by decide) c91
                  refine lv_iconst (v := 1) hx hb dX11_takeTurns_94 (by decide) ?_
                  refine lv_goto (tgt := 99) hx hb dX11_takeTurns_95 (by decide) ?_
                  exact J99 1 _ _ _ (by decide) (by decide) hH hS (lv_sub hl [0, 1, 2, 3, 4, 5] rfl)
        refine lv_istore (lv' := [(5, .int 0), (0, .ref a0), (1, .int x1), (2, .int x2), (3, .int x3), (4, .int x4)]) hx hb dX11_takeTurns_46 hl (by decide) rfl (fun ls hl => ?_)
        exact J48 _ 0 _ _ _ rfl (by decide) (by decide) hH hS (lv_sub hl [0, 1, 2, 3, 4, 5] rfl)
      · skip
        have tc21 := f_nlt (k := 5) (by decide) c21
        exfalso; omega
  · skip
    have fuc11 := full_i v6
    have fvc11 := full_i v8
    have tc11 := g_nlt c11
    exact te_v hx hb hr hlocks hH hS rfl dX11_takeTurns_14
set_option maxHeartbeats 4000000 in
set_option maxRecDepth 100000 in
theorem s_FW_takeTurns0 (l : Launch) (D : va_G) (cs : CS) (kf : KF) (T : TF) (O : List Nat) (X : va_W) (a0 w hw gw ch gq : Nat) (x1 : Int32) (x2 : Int32) (x3 : Int32) (x4 : Int32) (t_a0 : T a0 = some (21, w, ch)) (t_w : isW T w hw gw) (t_ch : T ch = some (10, gq, 0)) (l_x1 : 0 ≤ x1.toInt) (u_x1 : x1.toInt ≤ 0) (hO : okO T O [1, 7, 12, 15, 16, 19, 20, 21]) : TK l D cs kf yX11_takeTurns cX11_takeTurns 8 none { frames := 10, cells := 0, slots := 0, locals := 260 } [.ref a0, .int x1, .int x2, .int x3, .int x4] T O X (Tv D cs (fun u => u = (T, O, X))) := by
  refine tk_of (by decide) (Nat.le_of_ble_eq_true rfl) (fun p e s m below meth c ls A H locs hx hb hr hml hown hts hlocks hnm hkb hH hS hA hOX hks hE hl => ?_)
  have hown : s.vm.findClass RX11 = some m.cls := hown
  have hl : lv_has ls 8 [(0, .ref a0), (1, .int x1), (2, .int x2), (3, .int x3), (4, .int x4)] := hl
  have b1_w := t_w.2.1
  have b2_w := t_w.2.2
  refine lv_iload hx hb dX11_takeTurns_0 (lv_at hl 4 rfl) ?_
  refine lv_iload_n hx hb dX11_takeTurns_2 rfl (lv_at hl 2 rfl) ?_
  refine tk_i hH hS hA (tr_S (n := 1) (As := [.int x2]) hx hb hml hown hts hkb hH hOX hks hE hS hA (s_bitCount l D cs kf T O X x2  (hO.sub (by decide))) kw_893 kw_692 kw_20 kw_693 (by decide +kernel) ⟨Nat.le_of_ble_eq_true rfl, Nat.le_of_ble_eq_true rfl⟩ rfl rfl hl.1 (Nat.le_of_ble_eq_true rfl) dX11_takeTurns_3 ⟨Nat.le_of_ble_eq_true rfl, Nat.le_of_ble_eq_true rfl⟩) (fun v3 u H locs hz9 hH hS => ?_)
  obtain ⟨rfl, l_v3, u_v3⟩ := hz9
  have hH : HT D cs A T O X H := hH
  refine W.widen (k := 0) (n := 0) (Nat.le_of_ble_eq_true rfl) (Nat.le_of_ble_eq_true rfl) ?_
  refine lv_iadd hx hb dX11_takeTurns_6 ?_
  refine lv_topi (fun v6 ev6 => ?_)
  refine lv_aload_n hx hb dX11_takeTurns_7 rfl (lv_at hl 0 rfl) ?_
  refine t_get (ci := 11) (lst := ft11 w ch) (C := RX11) (F := TX11) (N := 20) hx hb hts uX11 hown hkb hH t_a0 (hO.no t_a0 (by decide)) (fun _ h9 => h9) rfl rfl 19 (by decide) rfl kw_379 (fun _ h9 => h9) dX11_takeTurns_8 (fun v9 h9 => ?_)
  obtain ⟨v8, rfl⟩ := h9
  refine lv_icmp_gt (tgt := 15) hx hb dX11_takeTurns_11 (by decide) (fun c11 => ?_) (fun c11 => ?_)
  · skip
    have fuc11 := full_i v6
    have fvc11 := full_i v8
    have tc11 := g_lt c11
    refine lv_iload_n hx hb dX11_takeTurns_15 rfl (lv_at hl 2 rfl) ?_
    refine lv_if_eq (tgt := 24) hx hb dX11_takeTurns_16 (by decide) (fun c16 => ?_) (fun c16 => ?_)
    · skip
      have tc16 := f_eq (k := 0) (by decide) c16
      refine lv_aload_n hx hb dX11_takeTurns_24 rfl (lv_at hl 0 rfl) ?_
      refine lv_iload hx hb dX11_takeTurns_25 (lv_at hl 4 rfl) ?_
      refine t_put (ci := 11) (lst := ft11 w ch) (v := .int x4) (ty := tyX11 19) (C := RX11) (F := TX11) (N := 20) hx hb hts uX11 tyX11 tyX11_ok nmX11 hown hkb hH hS t_a0 (hO.no t_a0 (by decide)) (fun _ => Iff.rfl) rfl rfl 19 (by decide) rfl (⟨_, rfl⟩) kw_379 (fun _ h9 => h9) rfl (tyX11_ok 19 (by decide)) rfl rfl dX11_takeTurns_27 (fun H locs hH hS => ?_)
      refine lv_aload_n hx hb dX11_takeTurns_30 rfl (lv_at hl 0 rfl) ?_
      refine t_get (ci := 11) (lst := ft11 w ch) (C := RX11) (F := TX11) (N := 20) hx hb hts uX11 hown hkb hH t_a0 (hO.no t_a0 (by decide)) (fun _ h9 => h9) rfl rfl 17 (by decide) rfl kw_377 (fun _ h9 => h9) dX11_takeTurns_31 (fun v9 h9 => ?_)
      obtain ⟨v31, rfl, t_v31⟩ := h9
      refine lv_iconst (v := 0) hx hb dX11_takeTurns_34 (by decide) ?_
      refine lv_aload_n hx hb dX11_takeTurns_35 rfl (lv_at hl 0 rfl) ?_
      refine t_get (ci := 11) (lst := ft11 w ch) (C := RX11) (F := TX11) (N := 20) hx hb hts uX11 hown hkb hH t_a0 (hO.no t_a0 (by decide)) (fun _ h9 => h9) rfl rfl 18 (by decide) rfl kw_378 (fun _ h9 => h9) dX11_takeTurns_36 (fun v9 h9 => ?_)
      obtain ⟨v36, rfl, t_v36⟩ := h9
      refine lv_iconst (v := 0) hx hb dX11_takeTurns_39 (by decide) ?_
      refine lv_iconst (v := 5) hx hb dX11_takeTurns_40 (by decide) ?_
      refine t_copy hx hb (by rw [hml]; exact hl.1.symm) hown (hts _ kw_1172) (hts _ kw_734) (hts _ kw_733) (hts _ kw_23) hkb hH hS (fun _ h9 => h9) t_v31 (hO.no t_v31 (by decide)) t_v36 (hO.no t_v36 (by decide)) (by decide) (by decide) (by decide) (by decide) (by decide) (Nat.le_of_ble_eq_true rfl) (Nat.le_of_ble_eq_true rfl) dX11_takeTurns_41 (fun H locs hH hS => ?_)
      exact te_v hx hb hr hlocks hH hS rfl dX11_takeTurns_44
    · skip
      have tc16 := f_ne (k := 0) (by decide) c16
      refine lv_iload_n hx hb dX11_takeTurns_19 rfl (lv_at hl 1 rfl) ?_
      refine lv_iconst (v := 5) hx hb dX11_takeTurns_20 (by decide) ?_
      refine lv_icmp_lt (tgt := 45) hx hb dX11_takeTurns_21 (by decide) (fun c21 => ?_) (fun c21 => ?_)
      · skip
        have tc21 := f_lt (k := 5) (by decide) c21
        refine lv_iconst (v := 0) hx hb dX11_takeTurns_45 (by decide) ?_
        have J48 : ∀ (n : Nat) (p48_5 : Int32) (H : Heap) (locs : List Loc) (ls : Array Slot), (5 - p48_5.toInt).toNat = n → (0 ≤ p48_5.toInt) → (p48_5.toInt ≤ 5) → HT D cs A T O X H → va_S A s.heap H locs → lv_has ls 8 [(5, .int p48_5), (0, .ref a0), (1, .int x1), (2, .int x2), (3, .int x3), (4, .int x4)] → W p l e { frames := 10, cells := 0, slots := 0, locals := 260 } s m [.ref a0, .int x1, .int x2, .int x3, .int x4].toArray below meth c H locs 0 0 (MQ below (Tv D cs (fun u => u = (T, O, X)) A) [.ref a0, .int x1, .int x2, .int x3, .int x4].toArray s 0 0 A) (F0 m 48 ls []) := by
          intro n
          induction n using Nat.strongRecOn with
          | _ n ih48 =>
            intro p48_5 H locs ls hm48 l_p48_5 u_p48_5 hH hS hl
            refine lv_iload hx hb dX11_takeTurns_48 (lv_at hl 0 rfl) ?_
            refine lv_aload_n hx hb dX11_takeTurns_50 rfl (lv_at hl 1 rfl) ?_
            refine t_get (ci := 11) (lst := ft11 w ch) (C := RX11) (F := TX11) (N := 20) hx hb hts uX11 hown hkb hH t_a0 (hO.no t_a0 (by decide)) (fun _ h9 => h9) rfl rfl 3 (by decide) rfl kw_363 (fun _ h9 => h9) dX11_takeTurns_51 (fun v9 h9 => ?_)
            have h9 : v9 = .ref w := h9
            subst h9
            refine t_get (ci := 9) (lst := ft9w hw gw) (C := RX9) (F := TX9) (N := 14) hx hb hts uX9 hown hkb hH t_w.1 (hO.no t_w.1 (by decide)) (fun fs => (ob9w t_w fs).mp) rfl rfl 1 (by decide) rfl kw_112 (fun _ h9 => h9) dX11_takeTurns_54 (fun v9 h9 => ?_)
            have h9 : v9 = .int (nI gw) := h9
            subst h9
            have e_gw : (nI gw).toInt = gw := nI_toInt (by have := t_w.2.2; omega)
            have b_gw := t_w.2.2
            refine lv_icmp_ge (tgt := 167) hx hb dX11_takeTurns_57 (by decide) (fun c57 => ?_) (fun c57 => ?_)
            · skip
              have fuc57 := full_i p48_5
              have fvc57 := full_i (nI gw)
              have tc57 := g_le c57
              exact te_v hx hb hr hlocks hH hS rfl dX11_takeTurns_167
            · skip
              have fuc57 := full_i p48_5
              have fvc57 := full_i (nI gw)
              have tc57 := g_nle c57
              refine lv_iload_n hx hb dX11_takeTurns_60 rfl (lv_at hl 3 rfl) ?_
              refine lv_iload hx hb dX11_takeTurns_61 (lv_at hl 0 rfl) ?_
              refine lv_ishr hx hb dX11_takeTurns_63 ?_
              refine lv_topi (fun v63 ev63 => ?_)
              refine lv_iconst (v := 1) hx hb dX11_takeTurns_64 (by decide) ?_
              refine lv_iand hx hb dX11_takeTurns_65 ?_
              refine lv_topi (fun v65 ev65 => ?_)
              have tv65 : 0 ≤ v65.toInt ∧ v65.toInt ≤ 1 := by rw [ev65]; exact and_r (by decide)
              have J161 : ∀  (H : Heap) (locs : List Loc) (ls : Array Slot), HT D cs A T O X H → va_S A s.heap H locs → lv_has ls 8 [(5, .int p48_5), (0, .ref a0), (1, .int x1), (2, .int x2), (3, .int x3), (4, .int x4)] → W p l e { frames := 10, cells := 0, slots := 0, locals := 260 } s m [.ref a0, .int x1, .int x2, .int x3, .int x4].toArray below meth c H locs 0 0 (MQ below (Tv D cs (fun u => u = (T, O, X)) A) [.ref a0, .int x1, .int x2, .int x3, .int x4].toArray s 0 0 A) (F0 m 161 ls []) := by
                intro  H locs ls  hH hS hl
                obtain ⟨v161, ev161⟩ : ∃ y : Int32, y = p48_5 + 1 := ⟨_, rfl⟩
                have tv161 : v161.toInt = p48_5.toInt + (1) := by rw [ev161]; exact add_i rfl (by decide) (by omega) (by omega)
                refine lv_iinc (v := v161) (lv' := [(5, .int v161), (0, .ref a0), (1, .int x1), (2, .int x2), (3, .int x3), (4, .int x4)]) hx hb dX11_takeTurns_161 hl (k := 0) rfl (by rw [ev161]; rfl) (by decide) rfl (fun ls hl => ?_)
                refine lv_goto (tgt := 48) hx hb dX11_takeTurns_164 (by decide) ?_
                exact ih48 _ (by omega) v161 _ _ _ rfl (by omega) (by omega) hH hS (lv_sub hl [0, 1, 2, 3, 4, 5] rfl)
              refine lv_if_eq (tgt := 161) hx hb dX11_takeTurns_66 (by decide) (fun c66 => ?_) (fun c66 => ?_)
              · skip
                have tc66 := f_eq (k := 0) (by decide) c66
                exact J161  _ _ _  hH hS (lv_sub hl [0, 1, 2, 3, 4, 5] rfl)
              · skip
                have tc66 := f_ne (k := 0) (by decide) c66
                refine lv_aload_n hx hb dX11_takeTurns_69 rfl (lv_at hl 1 rfl) ?_
                refine t_get (ci := 11) (lst := ft11 w ch) (C := RX11) (F := TX11) (N := 20) hx hb hts uX11 hown hkb hH t_a0 (hO.no t_a0 (by decide)) (fun _ h9 => h9) rfl rfl 17 (by decide) rfl kw_377 (fun _ h9 => h9) dX11_takeTurns_70 (fun v9 h9 => ?_)
                obtain ⟨v70, rfl, t_v70⟩ := h9
                refine lv_iload_n hx hb dX11_takeTurns_73 rfl (lv_at hl 2 rfl) ?_
                refine lv_iload hx hb dX11_takeTurns_74 (lv_at hl 0 rfl) ?_
                refine t_ist hx hb hkb hH hS t_v70 (hO.no t_v70 (by decide)) (by omega) (by omega) (cp_0 _) dX11_takeTurns_76 (fun H locs hH hS => ?_)
                refine lv_aload_n hx hb dX11_takeTurns_77 rfl (lv_at hl 1 rfl) ?_
                refine t_get (ci := 11) (lst := ft11 w ch) (C := RX11) (F := TX11) (N := 20) hx hb hts uX11 hown hkb hH t_a0 (hO.no t_a0 (by decide)) (fun _ h9 => h9) rfl rfl 14 (by decide) rfl kw_374 (fun _ h9 => h9) dX11_takeTurns_78 (fun v9 h9 => ?_)
                obtain ⟨v78, rfl, t_v78⟩ := h9
                refine lv_aload_n hx hb dX11_takeTurns_81 rfl (lv_at hl 1 rfl) ?_
                refine lv_iload hx hb dX11_takeTurns_82 (lv_at hl 0 rfl) ?_
                refine tk_r hH hS hA (tr_V (n := 1) (As := [.int p48_5]) hx hb hml hown hts hkb hH hOX hks hE hS hA (s_FW_rowsOf l D cs kf T O X a0 w hw gw ch gq p48_5 t_a0 t_w t_ch (by omega) (by omega) (hO.sub (by decide))) kw_830 kw_832 ks_21 kw_1 kw_833 (by decide +kernel) ⟨Nat.le_of_ble_eq_true rfl, Nat.le_of_ble_eq_true rfl⟩ (HT.recv (ci := 11) hkb hH t_a0 (hO.no t_a0 (by decide)) rfl) rfl rfl hl.1 (Nat.le_of_ble_eq_true rfl) dX11_takeTurns_84 ⟨Nat.le_of_ble_eq_true rfl, Nat.le_of_ble_eq_true rfl⟩) (fun v84 u H locs hz9 hH hS => ?_)
                obtain ⟨hu9, t_v84⟩ := hz9
                have hu9 : u = (T, O, X) := hu9
                subst hu9
                have hH : HT D cs A T O X H := hH
                refine W.widen (k := 0) (n := 0) (Nat.le_of_ble_eq_true rfl) (Nat.le_of_ble_eq_true rfl) ?_
                refine lv_iload_n hx hb dX11_takeTurns_87 rfl (lv_at hl 4 rfl) ?_
                refine tk_i hH hS hA (tr_V (n := 2) (As := [.ref v84, .int x3]) hx hb hml hown hts hkb hH hOX hks hE hS hA (s_Ways_find l D cs kf T O X v78 v84 x3 t_v78 t_v84 (hO.sub (by decide))) kw_912 kw_913 kw_914 kw_9 kw_915 (by decide +kernel) ⟨Nat.le_of_ble_eq_true rfl, Nat.le_of_ble_eq_true rfl⟩ (HT.recv (ci := 10) hkb hH t_v78 (hO.no t_v78 (by decide)) rfl) rfl rfl hl.1 (Nat.le_of_ble_eq_true rfl) dX11_takeTurns_88 ⟨Nat.le_of_ble_eq_true rfl, Nat.le_of_ble_eq_true rfl⟩) (fun v88 u H locs hz9 hH hS => ?_)
                obtain ⟨rfl, l_v88, u_v88⟩ := hz9
                have hH : HT D cs A T O X H := hH
                refine W.widen (k := 0) (n := 0) (Nat.le_of_ble_eq_true rfl) (Nat.le_of_ble_eq_true rfl) ?_
                have J99 : ∀ (k99_0 : Int32) (H : Heap) (locs : List Loc) (ls : Array Slot), (0 ≤ k99_0.toInt) → (k99_0.toInt ≤ 1) → HT D cs A T O X H → va_S A s.heap H locs → lv_has ls 8 [(5, .int p48_5), (0, .ref a0), (1, .int x1), (2, .int x2), (3, .int x3), (4, .int x4)] → W p l e { frames := 10, cells := 0, slots := 0, locals := 260 } s m [.ref a0, .int x1, .int x2, .int x3, .int x4].toArray below meth c H locs 0 0 (MQ below (Tv D cs (fun u => u = (T, O, X)) A) [.ref a0, .int x1, .int x2, .int x3, .int x4].toArray s 0 0 A) (F0 m 99 ls [.int k99_0]) := by
                  intro k99_0 H locs ls l_k99_0 u_k99_0 hH hS hl
                  refine lv_istore (lv' := [(6, .int k99_0), (5, .int p48_5), (0, .ref a0), (1, .int x1), (2, .int x2), (3, .int x3), (4, .int x4)]) hx hb dX11_takeTurns_99 hl (by decide) rfl (fun ls hl => ?_)
                  refine lv_iload hx hb dX11_takeTurns_101 (lv_at hl 0 rfl) ?_
                  have J129 : ∀ (k129_0 : Int32) (H : Heap) (locs : List Loc) (ls : Array Slot), HT D cs A T O X H → va_S A s.heap H locs → lv_has ls 8 [(6, .int k99_0), (5, .int p48_5), (0, .ref a0), (1, .int x1), (2, .int x2), (3, .int x3), (4, .int x4)] → W p l e { frames := 10, cells := 0, slots := 0, locals := 260 } s m [.ref a0, .int x1, .int x2, .int x3, .int x4].toArray below meth c H locs 0 0 (MQ below (Tv D cs (fun u => u = (T, O, X)) A) [.ref a0, .int x1, .int x2, .int x3, .int x4].toArray s 0 0 A) (F0 m 129 ls [.int k129_0]) := by
                    intro k129_0 H locs ls  hH hS hl
                    refine lv_istore (lv' := [(7, .int k129_0), (6, .int k99_0), (5, .int p48_5), (0, .ref a0), (1, .int x1), (2, .int x2), (3, .int x3), (4, .int x4)]) hx hb dX11_takeTurns_129 hl (by decide) rfl (fun ls hl => ?_)
                    refine lv_aload_n hx hb dX11_takeTurns_131 rfl (lv_at hl 3 rfl) ?_
                    refine lv_iload_n hx hb dX11_takeTurns_132 rfl (lv_at hl 4 rfl) ?_
                    refine lv_iconst (v := 1) hx hb dX11_takeTurns_133 (by decide) ?_
                    refine lv_iadd hx hb dX11_takeTurns_134 ?_
                    refine lv_topi (fun v134 ev134 => ?_)
                    have tv134 : v134.toInt = x1.toInt + (1) := by rw [ev134]; exact add_i rfl (by decide : (1 : Int32).toInt = 1) (by omega) (by omega)
                    refine lv_iload_n hx hb dX11_takeTurns_135 rfl (lv_at hl 5 rfl) ?_
                    refine lv_iconst (v := 1) hx hb dX11_takeTurns_136 (by decide) ?_
                    refine lv_iload hx hb dX11_takeTurns_137 (lv_at hl 2 rfl) ?_
                    refine lv_ishl hx hb dX11_takeTurns_139 ?_
                    refine lv_topi (fun v139 ev139 => ?_)
                    have tv139 : 1 ≤ v139.toInt ∧ v139.toInt ≤ 16 := by rw [ev139]; exact shl_b 4 (by decide) (by omega) (by omega)
                    refine lv_iconst (v := (-1)) hx hb dX11_takeTurns_140 (by decide) ?_
                    refine lv_ixor hx hb dX11_takeTurns_141 ?_
                    refine lv_topi (fun v141 ev141 => ?_)
                    refine lv_iand hx hb dX11_takeTurns_142 ?_
                    refine lv_topi (fun v142 ev142 => ?_)
                    refine lv_iload hx hb dX11_takeTurns_143 (lv_at hl 0 rfl) ?_
                    refine lv_iload hx hb dX11_takeTurns_145 (lv_at hl 7 rfl) ?_
                    refine lv_iload hx hb dX11_takeTurns_147 (lv_at hl 1 rfl) ?_
                    have J157 : ∀ (k157_0 : Int32) (H : Heap) (locs : List Loc) (ls : Array Slot), (0 ≤ k157_0.toInt) → (k157_0.toInt ≤ 1) → HT D cs A T O X H → va_S A s.heap H locs → lv_has ls 8 [(5, .int p48_5), (0, .ref a0), (1, .int x1), (2, .int x2), (3, .int x3), (4, .int x4)] → W p l e { frames := 10, cells := 0, slots := 0, locals := 260 } s m [.ref a0, .int x1, .int x2, .int x3, .int x4].toArray below meth c H locs 0 0 (MQ below (Tv D cs (fun u => u = (T, O, X)) A) [.ref a0, .int x1, .int x2, .int x3, .int x4].toArray s 0 0 A) (F0 m 157 ls [.int k157_0, .int x4, .int k129_0, .int v142, .int v134, .ref a0]) := by
                      intro k157_0 H locs ls l_k157_0 u_k157_0 hH hS hl
                      refine lv_iadd hx hb dX11_takeTurns_157 ?_
                      refine lv_topi (fun v157 ev157 => ?_)
                      refine tk_v hH hS hA (tr_V (n := 4) (As := [.int v134, .int v142, .int k129_0, .int v157]) hx hb hml hown hts hkb hH hOX hks hE hS hA (s_FW_takeTurns1 l D cs kf T O X a0 w hw gw ch gq v134 v142 k129_0 v157 t_a0 t_w t_ch (by omega) (by omega) (hO.sub (by decide))) kw_1168 kw_1170 ks_42 kw_1 kw_1171 (by decide +kernel) ⟨Nat.le_of_ble_eq_true rfl, Nat.le_of_ble_eq_true rfl⟩ (HT.recv (ci := 11) hkb hH t_a0 (hO.no t_a0 (by decide)) rfl) rfl rfl hl.1 (Nat.le_of_ble_eq_true rfl) dX11_takeTurns_158 ⟨Nat.le_of_ble_eq_true rfl, Nat.le_of_ble_eq_true rfl⟩) (fun u H locs hz9 hH hS => ?_)
                      have hz9 : u = (T, O, X) := hz9
                      subst hz9
                      have hH : HT D cs A T O X H := hH
                      refine W.widen (k := 0) (n := 0) (Nat.le_of_ble_eq_true rfl) (Nat.le_of_ble_eq_true rfl) ?_
                      exact J161  _ _ _  hH hS (lv_sub hl [0, 1, 2, 3, 4, 5] rfl)
                    refine lv_if_eq (tgt := 156) hx hb dX11_takeTurns_149 (by decide) (fun c149 => ?_) (fun c149 => ?_)
                    · skip
                      have tc149 := f_eq (k := 0) (by decide) c149
                      refine lv_iconst (v := 0) hx hb dX11_takeTurns_156 (by decide) ?_
                      exact J157 0 _ _ _ (by decide) (by decide) hH hS (lv_sub hl [2, 3, 4, 5, 6, 7] rfl)
                    · skip
                      have tc149 := f_ne (k := 0) (by decide) c149
                      refine lv_iconst (v := 1) hx hb dX11_takeTurns_152 (by decide) ?_
                      refine lv_goto (tgt := 157) hx hb dX11_takeTurns_153 (by decide) ?_
                      exact J157 1 _ _ _ (by decide) (by decide) hH hS (lv_sub hl [2, 3, 4, 5, 6, 7] rfl)
                  refine lv_if_eq (tgt := 128) hx hb dX11_takeTurns_103 (by decide) (fun c103 => ?_) (fun c103 => ?_)
                  · skip
                    have tc103 := f_eq (k := 0) (by decide) c103
                    refine lv_iload_n hx hb dX11_takeTurns_128 rfl (lv_at hl 5 rfl) ?_
                    exact J129 x3 _ _ _  hH hS (lv_sub hl [0, 1, 2, 3, 4, 5, 6] rfl)
                  · skip
                    have tc103 := f_ne (k := 0) (by decide) c103
                    refine lv_iload_n hx hb dX11_takeTurns_106 rfl (lv_at hl 5 rfl) ?_
                    refine lv_aload_n hx hb dX11_takeTurns_107 rfl (lv_at hl 2 rfl) ?_
                    refine t_get (ci := 11) (lst := ft11 w ch) (C := RX11) (F := TX11) (N := 20) hx hb hts uX11 hown hkb hH t_a0 (hO.no t_a0 (by decide)) (fun _ h9 => h9) rfl rfl 14 (by decide) rfl kw_374 (fun _ h9 => h9) dX11_takeTurns_108 (fun v9 h9 => ?_)
                    obtain ⟨v108, rfl, t_v108⟩ := h9
                    refine tk_i hH hS hA (tr_V (n := 0) (As := []) hx hb hml hown hts hkb hH hOX hks hE hS hA (s_Ways_pathSet l D cs kf T O X v108 t_v108 (hO.sub (by decide))) kw_926 kw_927 kw_928 kw_9 kw_929 (by decide +kernel) ⟨Nat.le_of_ble_eq_true rfl, Nat.le_of_ble_eq_true rfl⟩ (HT.recv (ci := 10) hkb hH t_v108 (hO.no t_v108 (by decide)) rfl) rfl rfl hl.1 (Nat.le_of_ble_eq_true rfl) dX11_takeTurns_111 ⟨Nat.le_of_ble_eq_true rfl, Nat.le_of_ble_eq_true rfl⟩) (fun v111 u H locs hz9 hH hS => ?_)
                    have hz9 : u = (T, O, X) := hz9
                    subst hz9
                    have hH : HT D cs A T O X H := hH
                    refine W.widen (k := 0) (n := 0) (Nat.le_of_ble_eq_true rfl) (Nat.le_of_ble_eq_true rfl) ?_
                    refine lv_aload_n hx hb dX11_takeTurns_114 rfl (lv_at hl 2 rfl) ?_
                    refine t_get (ci := 11) (lst := ft11 w ch) (C := RX11) (F := TX11) (N := 20) hx hb hts uX11 hown hkb hH t_a0 (hO.no t_a0 (by decide)) (fun _ h9 => h9) rfl rfl 3 (by decide) rfl kw_363 (fun _ h9 => h9) dX11_takeTurns_115 (fun v9 h9 => ?_)
                    have h9 : v9 = .ref w := h9
                    subst h9
                    refine tk_i hH hS hA (tr_V (n := 0) (As := []) hx hb hml hown hts hkb hH hOX hks hE hS hA (s_Wall_middles l D cs kf T O X w hw gw t_w (hO.sub (by decide))) kw_892 kw_683 kw_684 kw_5 kw_685 (by decide +kernel) ⟨Nat.le_of_ble_eq_true rfl, Nat.le_of_ble_eq_true rfl⟩ (HT.recv (ci := 9) hkb hH t_w.1 (hO.no t_w.1 (by decide)) rfl) rfl rfl hl.1 (Nat.le_of_ble_eq_true rfl) dX11_takeTurns_118 ⟨Nat.le_of_ble_eq_true rfl, Nat.le_of_ble_eq_true rfl⟩) (fun v118 u H locs hz9 hH hS => ?_)
                    obtain ⟨rfl, l_v118, u_v118⟩ := hz9
                    have hH : HT D cs A T O X H := hH
                    refine W.widen (k := 0) (n := 0) (Nat.le_of_ble_eq_true rfl) (Nat.le_of_ble_eq_true rfl) ?_
                    refine lv_iand hx hb dX11_takeTurns_121 ?_
                    refine lv_topi (fun v121 ev121 => ?_)
                    have tv121 : 0 ≤ v121.toInt ∧ v121.toInt ≤ v118.toInt := by rw [ev121]; exact and_r (by omega)
                    refine lv_iconst (v := (-1)) hx hb dX11_takeTurns_122 (by decide) ?_
                    refine lv_ixor hx hb dX11_takeTurns_123 ?_
                    refine lv_topi (fun v123 ev123 => ?_)
                    refine lv_iand hx hb dX11_takeTurns_124 ?_
                    refine lv_topi (fun v124 ev124 => ?_)
                    refine lv_goto (tgt := 129) hx hb dX11_takeTurns_125 (by decide) ?_
                    exact J129 v124 _ _ _  hH hS (lv_sub hl [0, 1, 2, 3, 4, 5, 6] rfl)
                refine lv_if_le (tgt := 98) hx hb dX11_takeTurns_91 (by decide) (fun c91 => ?_) (fun c91 => ?_)
                · skip
                  have tc91 := f_le (k := 0) (by decide) c91
                  refine lv_iconst (v := 0) hx hb dX11_takeTurns_98 (by decide) ?_
                  exact J99 0 _ _ _ (by decide) (by decide) hH hS (lv_sub hl [0, 1, 2, 3, 4, 5] rfl)
                · skip
                  have tc91 := f_nle (k := 0) (by decide) c91
                  refine lv_iconst (v := 1) hx hb dX11_takeTurns_94 (by decide) ?_
                  refine lv_goto (tgt := 99) hx hb dX11_takeTurns_95 (by decide) ?_
                  exact J99 1 _ _ _ (by decide) (by decide) hH hS (lv_sub hl [0, 1, 2, 3, 4, 5] rfl)
        refine lv_istore (lv' := [(5, .int 0), (0, .ref a0), (1, .int x1), (2, .int x2), (3, .int x3), (4, .int x4)]) hx hb dX11_takeTurns_46 hl (by decide) rfl (fun ls hl => ?_)
        exact J48 _ 0 _ _ _ rfl (by decide) (by decide) hH hS (lv_sub hl [0, 1, 2, 3, 4, 5] rfl)
      · skip
        have tc21 := f_nlt (k := 5) (by decide) c21
        exfalso; omega
  · skip
    have fuc11 := full_i v6
    have fvc11 := full_i v8
    have tc11 := g_nlt c11
    exact te_v hx hb hr hlocks hH hS rfl dX11_takeTurns_14
set_option maxHeartbeats 4000000 in
set_option maxRecDepth 100000 in
theorem s_FW_inTurn (l : Launch) (D : va_G) (cs : CS) (kf : KF) (T : TF) (O : List Nat) (X : va_W) (a0 w hw gw ch gq : Nat) (x1 : Int32) (x2 : Int32) (t_a0 : T a0 = some (21, w, ch)) (t_w : isW T w hw gw) (t_ch : T ch = some (10, gq, 0)) (hO : okO T O [1, 7, 12, 15, 16, 19, 20, 21]) : TK l D cs kf yX11_inTurn cX11_inTurn 3 (some (.int)) { frames := 11, cells := 0, slots := 0, locals := 287 } [.ref a0, .int x1, .int x2] T O X (Ti D cs (fun r u => u = (T, O, X))) := by
  refine tk_of (by decide) (Nat.le_of_ble_eq_true rfl) (fun p e s m below meth c ls A H locs hx hb hr hml hown hts hlocks hnm hkb hH hS hA hOX hks hE hl => ?_)
  have hown : s.vm.findClass RX11 = some m.cls := hown
  have hl : lv_has ls 3 [(0, .ref a0), (1, .int x1), (2, .int x2)] := hl
  have b1_w := t_w.2.1
  have b2_w := t_w.2.2
  refine lv_iload_n hx hb dX11_inTurn_0 rfl (lv_at hl 1 rfl) ?_
  refine lv_aload_n hx hb dX11_inTurn_1 rfl (lv_at hl 0 rfl) ?_
  refine t_get (ci := 11) (lst := ft11 w ch) (C := RX11) (F := TX11) (N := 20) hx hb hts uX11 hown hkb hH t_a0 (hO.no t_a0 (by decide)) (fun _ h9 => h9) rfl rfl 3 (by decide) rfl kw_363 (fun _ h9 => h9) dX11_inTurn_2 (fun v9 h9 => ?_)
  have h9 : v9 = .ref w := h9
  subst h9
  refine t_get (ci := 9) (lst := ft9w hw gw) (C := RX9) (F := TX9) (N := 14) hx hb hts uX9 hown hkb hH t_w.1 (hO.no t_w.1 (by decide)) (fun fs => (ob9w t_w fs).mp) rfl rfl 1 (by decide) rfl kw_112 (fun _ h9 => h9) dX11_inTurn_5 (fun v9 h9 => ?_)
  have h9 : v9 = .int (nI gw) := h9
  subst h9
  have e_gw : (nI gw).toInt = gw := nI_toInt (by have := t_w.2.2; omega)
  have b_gw := t_w.2.2
  refine lv_iushr hx hb dX11_inTurn_8 rfl ?_
  refine lv_topi (fun v8 ev8 => ?_)
  refine lv_if_eq (tgt := 15) hx hb dX11_inTurn_9 (by decide) (fun c9 => ?_) (fun c9 => ?_)
  · skip
    have tc9 := f_eq (k := 0) (by decide) c9
    refine lv_iload_n hx hb dX11_inTurn_15 rfl (lv_at hl 2 rfl) ?_
    refine lv_iconst (v := 5) hx hb dX11_inTurn_16 (by decide) ?_
    refine tk_i hH hS hA (tr_S (n := 2) (As := [.int x2, .int 5]) hx hb hml hown hts hkb hH hOX hks hE hS hA (s_FW_asksRow l D cs kf T O X x2 (5) (by decide) (by decide) (hO.sub (by decide))) kw_970 kw_971 kw_1 kw_972 (by decide +kernel) ⟨Nat.le_of_ble_eq_true rfl, Nat.le_of_ble_eq_true rfl⟩ rfl rfl hl.1 (Nat.le_of_ble_eq_true rfl) dX11_inTurn_17 ⟨Nat.le_of_ble_eq_true rfl, Nat.le_of_ble_eq_true rfl⟩) (fun v17 u H locs hz9 hH hS => ?_)
    obtain ⟨rfl, l_v17, u_v17⟩ := hz9
    have hH : HT D cs A T O X H := hH
    refine W.widen (k := 0) (n := 0) (Nat.le_of_ble_eq_true rfl) (Nat.le_of_ble_eq_true rfl) ?_
    refine lv_if_ne (tgt := 26) hx hb dX11_inTurn_20 (by decide) (fun c20 => ?_) (fun c20 => ?_)
    · skip
      have tc20 := f_ne (k := 0) (by decide) c20
      refine lv_aload_n hx hb dX11_inTurn_26 rfl (lv_at hl 0 rfl) ?_
      refine lv_iconst (v := (-1)) hx hb dX11_inTurn_27 (by decide) ?_
      refine t_put (ci := 11) (lst := ft11 w ch) (v := .int (-1)) (ty := tyX11 19) (C := RX11) (F := TX11) (N := 20) hx hb hts uX11 tyX11 tyX11_ok nmX11 hown hkb hH hS t_a0 (hO.no t_a0 (by decide)) (fun _ => Iff.rfl) rfl rfl 19 (by decide) rfl (⟨_, rfl⟩) kw_379 (fun _ h9 => h9) rfl (tyX11_ok 19 (by decide)) rfl rfl dX11_inTurn_28 (fun H locs hH hS => ?_)
      refine lv_aload_n hx hb dX11_inTurn_31 rfl (lv_at hl 0 rfl) ?_
      refine lv_iconst (v := 0) hx hb dX11_inTurn_32 (by decide) ?_
      refine lv_iload_n hx hb dX11_inTurn_33 rfl (lv_at hl 1 rfl) ?_
      refine lv_aload_n hx hb dX11_inTurn_34 rfl (lv_at hl 0 rfl) ?_
      refine tk_i hH hS hA (tr_V (n := 0) (As := []) hx hb hml hown hts hkb hH hOX hks hE hS hA (s_FW_openNow l D cs kf T O X a0 w hw gw ch gq t_a0 t_w t_ch (hO.sub (by decide))) kw_846 kw_848 ks_22 kw_1 kw_849 (by decide +kernel) ⟨Nat.le_of_ble_eq_true rfl, Nat.le_of_ble_eq_true rfl⟩ (HT.recv (ci := 11) hkb hH t_a0 (hO.no t_a0 (by decide)) rfl) rfl rfl hl.1 (Nat.le_of_ble_eq_true rfl) dX11_inTurn_35 ⟨Nat.le_of_ble_eq_true rfl, Nat.le_of_ble_eq_true rfl⟩) (fun v35 u H locs hz9 hH hS => ?_)
      obtain ⟨rfl, l_v35, u_v35⟩ := hz9
      have hH : HT D cs A T O X H := hH
      refine W.widen (k := 0) (n := 0) (Nat.le_of_ble_eq_true rfl) (Nat.le_of_ble_eq_true rfl) ?_
      refine lv_iconst (v := 0) hx hb dX11_inTurn_38 (by decide) ?_
      refine tk_v hH hS hA (tr_V (n := 4) (As := [.int 0, .int x1, .int v35, .int 0]) hx hb hml hown hts hkb hH hOX hks hE hS hA (s_FW_takeTurns0 l D cs kf T O X a0 w hw gw ch gq (0) x1 v35 (0) t_a0 t_w t_ch (by decide) (by decide) (hO.sub (by decide))) kw_1168 kw_1170 ks_42 kw_1 kw_1171 (by decide +kernel) ⟨Nat.le_of_ble_eq_true rfl, Nat.le_of_ble_eq_true rfl⟩ (HT.recv (ci := 11) hkb hH t_a0 (hO.no t_a0 (by decide)) rfl) rfl rfl hl.1 (Nat.le_of_ble_eq_true rfl) dX11_inTurn_39 ⟨Nat.le_of_ble_eq_true rfl, Nat.le_of_ble_eq_true rfl⟩) (fun u H locs hz9 hH hS => ?_)
      have hz9 : u = (T, O, X) := hz9
      subst hz9
      have hH : HT D cs A T O X H := hH
      refine W.widen (k := 0) (n := 0) (Nat.le_of_ble_eq_true rfl) (Nat.le_of_ble_eq_true rfl) ?_
      refine lv_iload_n hx hb dX11_inTurn_42 rfl (lv_at hl 2 rfl) ?_
      refine lv_if_ne (tgt := 51) hx hb dX11_inTurn_43 (by decide) (fun c43 => ?_) (fun c43 => ?_)
      · skip
        have tc43 := f_ne (k := 0) (by decide) c43
        refine lv_aload_n hx hb dX11_inTurn_51 rfl (lv_at hl 0 rfl) ?_
        refine t_get (ci := 11) (lst := ft11 w ch) (C := RX11) (F := TX11) (N := 20) hx hb hts uX11 hown hkb hH t_a0 (hO.no t_a0 (by decide)) (fun _ h9 => h9) rfl rfl 18 (by decide) rfl kw_378 (fun _ h9 => h9) dX11_inTurn_52 (fun v9 h9 => ?_)
        obtain ⟨v52, rfl, t_v52⟩ := h9
        refine lv_iload_n hx hb dX11_inTurn_55 rfl (lv_at hl 1 rfl) ?_
        refine tk_i hH hS hA (tr_S (n := 1) (As := [.int x1]) hx hb hml hown hts hkb hH hOX hks hE hS hA (s_bitCount l D cs kf T O X x1  (hO.sub (by decide))) kw_893 kw_692 kw_20 kw_693 (by decide +kernel) ⟨Nat.le_of_ble_eq_true rfl, Nat.le_of_ble_eq_true rfl⟩ rfl rfl hl.1 (Nat.le_of_ble_eq_true rfl) dX11_inTurn_56 ⟨Nat.le_of_ble_eq_true rfl, Nat.le_of_ble_eq_true rfl⟩) (fun v56 u H locs hz9 hH hS => ?_)
        obtain ⟨rfl, l_v56, u_v56⟩ := hz9
        have hH : HT D cs A T O X H := hH
        refine W.widen (k := 0) (n := 0) (Nat.le_of_ble_eq_true rfl) (Nat.le_of_ble_eq_true rfl) ?_
        refine lv_iload_n hx hb dX11_inTurn_59 rfl (lv_at hl 2 rfl) ?_
        refine tk_i hH hS hA (tr_S (n := 3) (As := [.ref v52, .int v56, .int x2]) hx hb hml hown hts hkb hH hOX hks hE hS hA (s_FW_ofRow5 l D cs kf T O X v52 v56 x2 t_v52 (hO.sub (by decide))) kw_973 kw_974 kw_1 kw_975 (by decide +kernel) ⟨Nat.le_of_ble_eq_true rfl, Nat.le_of_ble_eq_true rfl⟩ rfl rfl hl.1 (Nat.le_of_ble_eq_true rfl) dX11_inTurn_60 ⟨Nat.le_of_ble_eq_true rfl, Nat.le_of_ble_eq_true rfl⟩) (fun v60 u H locs hz9 hH hS => ?_)
        have hz9 : u = (T, O, X) := hz9
        subst hz9
        have hH : HT D cs A T O X H := hH
        refine W.widen (k := 0) (n := 0) (Nat.le_of_ble_eq_true rfl) (Nat.le_of_ble_eq_true rfl) ?_
        exact te_i hx hb hr hlocks hH hS (rfl) dX11_inTurn_63
      · skip
        have tc43 := f_eq (k := 0) (by decide) c43
        refine lv_aload_n hx hb dX11_inTurn_46 rfl (lv_at hl 0 rfl) ?_
        refine t_get (ci := 11) (lst := ft11 w ch) (C := RX11) (F := TX11) (N := 20) hx hb hts uX11 hown hkb hH t_a0 (hO.no t_a0 (by decide)) (fun _ h9 => h9) rfl rfl 19 (by decide) rfl kw_379 (fun _ h9 => h9) dX11_inTurn_47 (fun v9 h9 => ?_)
        obtain ⟨v47, rfl⟩ := h9
        exact te_i hx hb hr hlocks hH hS (rfl) dX11_inTurn_50
    · skip
      have tc20 := f_eq (k := 0) (by decide) c20
      refine lv_bipush (v := (-2)) hx hb dX11_inTurn_23 (by decide) ?_
      exact te_i hx hb hr hlocks hH hS (rfl) dX11_inTurn_25
  · skip
    have tc9 := f_ne (k := 0) (by decide) c9
    refine lv_bipush (v := (-3)) hx hb dX11_inTurn_12 (by decide) ?_
    exact te_i hx hb hr hlocks hH hS (rfl) dX11_inTurn_14
theorem dX11_count_0 : decode cX11_count 0 = .ok (.iload_n 1, 1) := by decide +kernel
theorem dX11_count_1 : decode cX11_count 1 = .ok (.tableswitch 135 0 9 #[55, 63, 71, 79, 87, 98, 106, 111, 116, 124], 55) := by decide +kernel
theorem dX11_count_56 : decode cX11_count 56 = .ok (.aload_n 0, 1) := by decide +kernel
theorem dX11_count_57 : decode cX11_count 57 = .ok (.getfield 29, 3) := by decide +kernel
theorem dX11_count_60 : decode cX11_count 60 = .ok (.getfield 213, 3) := by decide +kernel
theorem dX11_count_63 : decode cX11_count 63 = .ok (.ireturn, 1) := by decide +kernel
theorem dX11_count_64 : decode cX11_count 64 = .ok (.aload_n 0, 1) := by decide +kernel
theorem dX11_count_65 : decode cX11_count 65 = .ok (.getfield 29, 3) := by decide +kernel
theorem dX11_count_68 : decode cX11_count 68 = .ok (.getfield 216, 3) := by decide +kernel
theorem dX11_count_71 : decode cX11_count 71 = .ok (.ireturn, 1) := by decide +kernel
theorem dX11_count_72 : decode cX11_count 72 = .ok (.aload_n 0, 1) := by decide +kernel
theorem dX11_count_73 : decode cX11_count 73 = .ok (.getfield 36, 3) := by decide +kernel
theorem dX11_count_76 : decode cX11_count 76 = .ok (.getfield 161, 3) := by decide +kernel
theorem dX11_count_79 : decode cX11_count 79 = .ok (.ireturn, 1) := by decide +kernel
theorem dX11_count_80 : decode cX11_count 80 = .ok (.aload_n 0, 1) := by decide +kernel
theorem dX11_count_81 : decode cX11_count 81 = .ok (.getfield 36, 3) := by decide +kernel
theorem dX11_count_84 : decode cX11_count 84 = .ok (.getfield 284, 3) := by decide +kernel
theorem dX11_count_87 : decode cX11_count 87 = .ok (.ireturn, 1) := by decide +kernel
theorem dX11_count_88 : decode cX11_count 88 = .ok (.aload_n 0, 1) := by decide +kernel
theorem dX11_count_89 : decode cX11_count 89 = .ok (.getfield 36, 3) := by decide +kernel
theorem dX11_count_92 : decode cX11_count 92 = .ok (.getfield 222, 3) := by decide +kernel
theorem dX11_count_95 : decode cX11_count 95 = .ok (.invokestatic 243, 3) := by decide +kernel
theorem dX11_count_98 : decode cX11_count 98 = .ok (.ireturn, 1) := by decide +kernel
theorem dX11_count_99 : decode cX11_count 99 = .ok (.aload_n 0, 1) := by decide +kernel
theorem dX11_count_100 : decode cX11_count 100 = .ok (.invokevirtual 206, 3) := by decide +kernel
theorem dX11_count_103 : decode cX11_count 103 = .ok (.invokestatic 243, 3) := by decide +kernel
theorem dX11_count_106 : decode cX11_count 106 = .ok (.ireturn, 1) := by decide +kernel
theorem dX11_count_107 : decode cX11_count 107 = .ok (.aload_n 0, 1) := by decide +kernel
theorem dX11_count_108 : decode cX11_count 108 = .ok (.getfield 47, 3) := by decide +kernel
theorem dX11_count_111 : decode cX11_count 111 = .ok (.ireturn, 1) := by decide +kernel
theorem dX11_count_112 : decode cX11_count 112 = .ok (.aload_n 0, 1) := by decide +kernel
theorem dX11_count_113 : decode cX11_count 113 = .ok (.getfield 13, 3) := by decide +kernel
theorem dX11_count_116 : decode cX11_count 116 = .ok (.ireturn, 1) := by decide +kernel
theorem dX11_count_117 : decode cX11_count 117 = .ok (.aload_n 0, 1) := by decide +kernel
theorem dX11_count_118 : decode cX11_count 118 = .ok (.getfield 29, 3) := by decide +kernel
theorem dX11_count_121 : decode cX11_count 121 = .ok (.getfield 139, 3) := by decide +kernel
theorem dX11_count_124 : decode cX11_count 124 = .ok (.ireturn, 1) := by decide +kernel
theorem dX11_count_125 : decode cX11_count 125 = .ok (.aload_n 0, 1) := by decide +kernel
theorem dX11_count_126 : decode cX11_count 126 = .ok (.getfield 36, 3) := by decide +kernel
theorem dX11_count_129 : decode cX11_count 129 = .ok (.getfield 180, 3) := by decide +kernel
theorem dX11_count_132 : decode cX11_count 132 = .ok (.invokestatic 243, 3) := by decide +kernel
theorem dX11_count_135 : decode cX11_count 135 = .ok (.ireturn, 1) := by decide +kernel
theorem dX11_count_136 : decode cX11_count 136 = .ok (.iconst (-1), 1) := by decide +kernel
theorem dX11_count_137 : decode cX11_count 137 = .ok (.ireturn, 1) := by decide +kernel
theorem dX11_image_0 : decode cX11_image 0 = .ok (.iload_n 1, 1) := by decide +kernel
theorem dX11_image_1 : decode cX11_image 1 = .ok (.invokestatic 374, 3) := by decide +kernel
theorem dX11_image_4 : decode cX11_image 4 = .ok (.ifCond .ne 6, 3) := by decide +kernel
theorem dX11_image_7 : decode cX11_image 7 = .ok (.bipush (-2), 2) := by decide +kernel
theorem dX11_image_9 : decode cX11_image 9 = .ok (.ireturn, 1) := by decide +kernel
theorem dX11_image_10 : decode cX11_image 10 = .ok (.aload_n 0, 1) := by decide +kernel
theorem dX11_image_11 : decode cX11_image 11 = .ok (.getfield 53, 3) := by decide +kernel
theorem dX11_image_14 : decode cX11_image 14 = .ok (.iload_n 1, 1) := by decide +kernel
theorem dX11_image_15 : decode cX11_image 15 = .ok (.aload_n 0, 1) := by decide +kernel
theorem dX11_image_16 : decode cX11_image 16 = .ok (.getfield 29, 3) := by decide +kernel
theorem dX11_image_19 : decode cX11_image 19 = .ok (.aastore, 1) := by decide +kernel
theorem dX11_image_20 : decode cX11_image 20 = .ok (.aload_n 0, 1) := by decide +kernel
theorem dX11_image_21 : decode cX11_image 21 = .ok (.getfield 57, 3) := by decide +kernel
theorem dX11_image_24 : decode cX11_image 24 = .ok (.iload_n 1, 1) := by decide +kernel
theorem dX11_image_25 : decode cX11_image 25 = .ok (.aaload, 1) := by decide +kernel
theorem dX11_image_26 : decode cX11_image 26 = .ok (.aload_n 0, 1) := by decide +kernel
theorem dX11_image_27 : decode cX11_image 27 = .ok (.getfield 36, 3) := by decide +kernel
theorem dX11_image_30 : decode cX11_image 30 = .ok (.invokevirtual 135, 3) := by decide +kernel
theorem dX11_image_33 : decode cX11_image 33 = .ok (.iconst 0, 1) := by decide +kernel
theorem dX11_image_34 : decode cX11_image 34 = .ok (.ireturn, 1) := by decide +kernel
theorem dX11_lists_0 : decode cX11_lists 0 = .ok (.iload_n 1, 1) := by decide +kernel
theorem dX11_lists_1 : decode cX11_lists 1 = .ok (.invokestatic 229, 3) := by decide +kernel
theorem dX11_lists_4 : decode cX11_lists 4 = .ok (.ifCond .eq 11, 3) := by decide +kernel
theorem dX11_lists_7 : decode cX11_lists 7 = .ok (.aload_n 0, 1) := by decide +kernel
theorem dX11_lists_8 : decode cX11_lists 8 = .ok (.iload_n 2, 1) := by decide +kernel
theorem dX11_lists_9 : decode cX11_lists 9 = .ok (.invokevirtual 186, 3) := by decide +kernel
theorem dX11_lists_12 : decode cX11_lists 12 = .ok (.ifCond .ne 6, 3) := by decide +kernel
theorem dX11_lists_15 : decode cX11_lists 15 = .ok (.bipush (-2), 2) := by decide +kernel
theorem dX11_lists_17 : decode cX11_lists 17 = .ok (.ireturn, 1) := by decide +kernel
theorem dX11_lists_18 : decode cX11_lists 18 = .ok (.aload_n 0, 1) := by decide +kernel
theorem dX11_lists_19 : decode cX11_lists 19 = .ok (.getfield 62, 3) := by decide +kernel
theorem dX11_lists_22 : decode cX11_lists 22 = .ok (.iload_n 1, 1) := by decide +kernel
theorem dX11_lists_23 : decode cX11_lists 23 = .ok (.aaload, 1) := by decide +kernel
theorem dX11_lists_24 : decode cX11_lists 24 = .ok (.astore_n 3, 1) := by decide +kernel
theorem dX11_lists_25 : decode cX11_lists 25 = .ok (.aload_n 3, 1) := by decide +kernel
theorem dX11_lists_26 : decode cX11_lists 26 = .ok (.invokevirtual 232, 3) := by decide +kernel
theorem dX11_lists_29 : decode cX11_lists 29 = .ok (.ifCond .eq 6, 3) := by decide +kernel
theorem dX11_lists_32 : decode cX11_lists 32 = .ok (.bipush (-6), 2) := by decide +kernel
theorem dX11_lists_34 : decode cX11_lists 34 = .ok (.ireturn, 1) := by decide +kernel
theorem dX11_lists_35 : decode cX11_lists 35 = .ok (.aload_n 0, 1) := by decide +kernel
theorem dX11_lists_36 : decode cX11_lists 36 = .ok (.getfield 82, 3) := by decide +kernel
theorem dX11_lists_39 : decode cX11_lists 39 = .ok (.aload_n 0, 1) := by decide +kernel
theorem dX11_lists_40 : decode cX11_lists 40 = .ok (.iload_n 2, 1) := by decide +kernel
theorem dX11_lists_41 : decode cX11_lists 41 = .ok (.invokevirtual 202, 3) := by decide +kernel
theorem dX11_lists_44 : decode cX11_lists 44 = .ok (.aload_n 0, 1) := by decide +kernel
theorem dX11_lists_45 : decode cX11_lists 45 = .ok (.invokevirtual 206, 3) := by decide +kernel
theorem dX11_lists_48 : decode cX11_lists 48 = .ok (.invokevirtual 271, 3) := by decide +kernel
theorem dX11_lists_51 : decode cX11_lists 51 = .ok (.istore 4, 2) := by decide +kernel
theorem dX11_lists_53 : decode cX11_lists 53 = .ok (.iload 4, 2) := by decide +kernel
theorem dX11_lists_55 : decode cX11_lists 55 = .ok (.ifCond .ne 6, 3) := by decide +kernel
theorem dX11_lists_58 : decode cX11_lists 58 = .ok (.bipush (-5), 2) := by decide +kernel
theorem dX11_lists_60 : decode cX11_lists 60 = .ok (.ireturn, 1) := by decide +kernel
theorem dX11_lists_61 : decode cX11_lists 61 = .ok (.iload 4, 2) := by decide +kernel
theorem dX11_lists_63 : decode cX11_lists 63 = .ok (.iconst 1, 1) := by decide +kernel
theorem dX11_lists_64 : decode cX11_lists 64 = .ok (.iadd, 1) := by decide +kernel
theorem dX11_lists_65 : decode cX11_lists 65 = .ok (.aload_n 3, 1) := by decide +kernel
theorem dX11_lists_66 : decode cX11_lists 66 = .ok (.getfield 259, 3) := by decide +kernel
theorem dX11_lists_69 : decode cX11_lists 69 = .ok (.invokestatic 292, 3) := by decide +kernel
theorem dX11_lists_72 : decode cX11_lists 72 = .ok (.istore 5, 2) := by decide +kernel
theorem dX11_lists_74 : decode cX11_lists 74 = .ok (.iconst 0, 1) := by decide +kernel
theorem dX11_lists_75 : decode cX11_lists 75 = .ok (.istore 6, 2) := by decide +kernel
theorem dX11_lists_77 : decode cX11_lists 77 = .ok (.iload 6, 2) := by decide +kernel
theorem dX11_lists_79 : decode cX11_lists 79 = .ok (.iload 5, 2) := by decide +kernel
theorem dX11_lists_81 : decode cX11_lists 81 = .ok (.if_icmp .ge 39, 3) := by decide +kernel
theorem dX11_lists_84 : decode cX11_lists 84 = .ok (.aload_n 3, 1) := by decide +kernel
theorem dX11_lists_85 : decode cX11_lists 85 = .ok (.iload 6, 2) := by decide +kernel
theorem dX11_lists_87 : decode cX11_lists 87 = .ok (.iload 6, 2) := by decide +kernel
theorem dX11_lists_89 : decode cX11_lists 89 = .ok (.ifCond .ne 8, 3) := by decide +kernel
theorem dX11_lists_92 : decode cX11_lists 92 = .ok (.iload_n 2, 1) := by decide +kernel
theorem dX11_lists_93 : decode cX11_lists 93 = .ok (.i2l, 1) := by decide +kernel
theorem dX11_lists_94 : decode cX11_lists 94 = .ok (.goto 16, 3) := by decide +kernel
theorem dX11_lists_97 : decode cX11_lists 97 = .ok (.aload_n 0, 1) := by decide +kernel
theorem dX11_lists_98 : decode cX11_lists 98 = .ok (.getfield 82, 3) := by decide +kernel
theorem dX11_lists_101 : decode cX11_lists 101 = .ok (.getfield 303, 3) := by decide +kernel
theorem dX11_lists_104 : decode cX11_lists 104 = .ok (.iload 6, 2) := by decide +kernel
theorem dX11_lists_106 : decode cX11_lists 106 = .ok (.iconst 1, 1) := by decide +kernel
theorem dX11_lists_107 : decode cX11_lists 107 = .ok (.isub, 1) := by decide +kernel
theorem dX11_lists_108 : decode cX11_lists 108 = .ok (.iaload, 1) := by decide +kernel
theorem dX11_lists_109 : decode cX11_lists 109 = .ok (.i2l, 1) := by decide +kernel
theorem dX11_lists_110 : decode cX11_lists 110 = .ok (.invokevirtual 370, 3) := by decide +kernel
theorem dX11_lists_113 : decode cX11_lists 113 = .ok (.pop2, 1) := by decide +kernel
theorem dX11_lists_114 : decode cX11_lists 114 = .ok (.iinc 6 1, 3) := by decide +kernel
theorem dX11_lists_117 : decode cX11_lists 117 = .ok (.goto (-40), 3) := by decide +kernel
theorem dX11_lists_120 : decode cX11_lists 120 = .ok (.iload 5, 2) := by decide +kernel
theorem dX11_lists_122 : decode cX11_lists 122 = .ok (.ireturn, 1) := by decide +kernel
theorem dX11_numbers_0 : decode cX11_numbers 0 = .ok (.iload_n 1, 1) := by decide +kernel
theorem dX11_numbers_1 : decode cX11_numbers 1 = .ok (.invokestatic 229, 3) := by decide +kernel
theorem dX11_numbers_4 : decode cX11_numbers 4 = .ok (.ifCond .eq 12, 3) := by decide +kernel
theorem dX11_numbers_7 : decode cX11_numbers 7 = .ok (.iload_n 2, 1) := by decide +kernel
theorem dX11_numbers_8 : decode cX11_numbers 8 = .ok (.ifCond .lt 8, 3) := by decide +kernel
theorem dX11_numbers_11 : decode cX11_numbers 11 = .ok (.iload_n 2, 1) := by decide +kernel
theorem dX11_numbers_12 : decode cX11_numbers 12 = .ok (.iconst 3, 1) := by decide +kernel
theorem dX11_numbers_13 : decode cX11_numbers 13 = .ok (.if_icmp .le 6, 3) := by decide +kernel
theorem dX11_numbers_16 : decode cX11_numbers 16 = .ok (.bipush (-2), 2) := by decide +kernel
theorem dX11_numbers_18 : decode cX11_numbers 18 = .ok (.ireturn, 1) := by decide +kernel
theorem dX11_numbers_19 : decode cX11_numbers 19 = .ok (.iload_n 3, 1) := by decide +kernel
theorem dX11_numbers_20 : decode cX11_numbers 20 = .ok (.ifCond .lt 9, 3) := by decide +kernel
theorem dX11_numbers_23 : decode cX11_numbers 23 = .ok (.iload_n 3, 1) := by decide +kernel
theorem dX11_numbers_24 : decode cX11_numbers 24 = .ok (.bipush 40, 2) := by decide +kernel
theorem dX11_numbers_26 : decode cX11_numbers 26 = .ok (.if_icmp .le 6, 3) := by decide +kernel
theorem dX11_numbers_29 : decode cX11_numbers 29 = .ok (.bipush (-3), 2) := by decide +kernel
theorem dX11_numbers_31 : decode cX11_numbers 31 = .ok (.ireturn, 1) := by decide +kernel
theorem dX11_numbers_32 : decode cX11_numbers 32 = .ok (.aload_n 0, 1) := by decide +kernel
theorem dX11_numbers_33 : decode cX11_numbers 33 = .ok (.getfield 62, 3) := by decide +kernel
theorem dX11_numbers_36 : decode cX11_numbers 36 = .ok (.iload_n 1, 1) := by decide +kernel
theorem dX11_numbers_37 : decode cX11_numbers 37 = .ok (.aaload, 1) := by decide +kernel
theorem dX11_numbers_38 : decode cX11_numbers 38 = .ok (.iload_n 2, 1) := by decide +kernel
theorem dX11_numbers_39 : decode cX11_numbers 39 = .ok (.iload_n 3, 1) := by decide +kernel
theorem dX11_numbers_40 : decode cX11_numbers 40 = .ok (.invokevirtual 362, 3) := by decide +kernel
theorem dX11_numbers_43 : decode cX11_numbers 43 = .ok (.iconst 0, 1) := by decide +kernel
theorem dX11_numbers_44 : decode cX11_numbers 44 = .ok (.ireturn, 1) := by decide +kernel
theorem dX11_write_0 : decode cX11_write 0 = .ok (.iload_n 1, 1) := by decide +kernel
theorem dX11_write_1 : decode cX11_write 1 = .ok (.invokestatic 229, 3) := by decide +kernel
theorem dX11_write_4 : decode cX11_write 4 = .ok (.ifCond .ne 7, 3) := by decide +kernel
theorem dX11_write_7 : decode cX11_write 7 = .ok (.ldc2_w 314, 3) := by decide +kernel
theorem dX11_write_10 : decode cX11_write 10 = .ok (.lreturn, 1) := by decide +kernel
theorem dX11_write_11 : decode cX11_write 11 = .ok (.aload_n 0, 1) := by decide +kernel
theorem dX11_write_12 : decode cX11_write 12 = .ok (.getfield 62, 3) := by decide +kernel
theorem dX11_write_15 : decode cX11_write 15 = .ok (.iload_n 1, 1) := by decide +kernel
theorem dX11_write_16 : decode cX11_write 16 = .ok (.aaload, 1) := by decide +kernel
theorem dX11_write_17 : decode cX11_write 17 = .ok (.astore 5, 2) := by decide +kernel
theorem dX11_write_19 : decode cX11_write 19 = .ok (.aload 5, 2) := by decide +kernel
theorem dX11_write_21 : decode cX11_write 21 = .ok (.invokevirtual 232, 3) := by decide +kernel
theorem dX11_write_24 : decode cX11_write 24 = .ok (.ifCond .eq 7, 3) := by decide +kernel
theorem dX11_write_27 : decode cX11_write 27 = .ok (.ldc2_w 366, 3) := by decide +kernel
theorem dX11_write_30 : decode cX11_write 30 = .ok (.lreturn, 1) := by decide +kernel
theorem dX11_write_31 : decode cX11_write 31 = .ok (.iload_n 2, 1) := by decide +kernel
theorem dX11_write_32 : decode cX11_write 32 = .ok (.ifCond .lt 12, 3) := by decide +kernel
theorem dX11_write_35 : decode cX11_write 35 = .ok (.iload_n 2, 1) := by decide +kernel
theorem dX11_write_36 : decode cX11_write 36 = .ok (.aload 5, 2) := by decide +kernel
theorem dX11_write_38 : decode cX11_write 38 = .ok (.getfield 259, 3) := by decide +kernel
theorem dX11_write_41 : decode cX11_write 41 = .ok (.if_icmp .lt 7, 3) := by decide +kernel
theorem dX11_write_44 : decode cX11_write 44 = .ok (.ldc2_w 368, 3) := by decide +kernel
theorem dX11_write_47 : decode cX11_write 47 = .ok (.lreturn, 1) := by decide +kernel
theorem dX11_write_48 : decode cX11_write 48 = .ok (.aload 5, 2) := by decide +kernel
theorem dX11_write_50 : decode cX11_write 50 = .ok (.iload_n 2, 1) := by decide +kernel
theorem dX11_write_51 : decode cX11_write 51 = .ok (.lload_n 3, 1) := by decide +kernel
theorem dX11_write_52 : decode cX11_write 52 = .ok (.invokevirtual 370, 3) := by decide +kernel
theorem dX11_write_55 : decode cX11_write 55 = .ok (.lreturn, 1) := by decide +kernel
theorem kw_115 : Cond.fieldLink "FootholdWall" 139 "FootholdWall$Wall" "lines" "I" ∈ gw := gw_of (tb_of 115 (by decide +kernel)) (by decide +kernel)
theorem kw_361 : Cond.fieldLink "FootholdWall" 13 "FootholdWall" "tapeLength" "I" ∈ gw := gw_of (tb_of 361 (by decide +kernel)) (by decide +kernel)
theorem kw_369 : Cond.fieldLink "FootholdWall" 53 "FootholdWall" "imageWalls" "[LFootholdWall$Wall;" ∈ gw := gw_of (tb_of 369 (by decide +kernel)) (by decide +kernel)
theorem kw_370 : Cond.fieldLink "FootholdWall" 57 "FootholdWall" "imageStates" "[LFootholdWall$State;" ∈ gw := gw_of (tb_of 370 (by decide +kernel)) (by decide +kernel)
theorem kw_1177 : Cond.methodLink "FootholdWall" 362 yX8_lay ∈ gw := gw_of (tb_of 1177 (by decide +kernel)) (by decide +kernel)
theorem kw_1178 : Cond.instanceMethod yX8_lay ∈ gw := gw_of (tb_of 1178 (by decide +kernel)) (by decide +kernel)
theorem kw_1179 : Cond.selects "FootholdWall$Tray" yX8_lay yX8_lay ∈ gw := gw_of (tb_of 1179 (by decide +kernel)) (by decide +kernel)
theorem kw_1180 : Cond.code yX8_lay cX8_lay 3 none ∈ gw := gw_of (tb_of 1180 (by decide +kernel)) (by decide +kernel)
theorem kw_1188 : Cond.constantLong "FootholdWall" 366 (-6) ∈ gw := gw_of (tb_of 1188 (by decide +kernel)) (by decide +kernel)
theorem kw_1189 : Cond.constantLong "FootholdWall" 368 (-7) ∈ gw := gw_of (tb_of 1189 (by decide +kernel)) (by decide +kernel)
theorem kw_1190 : Cond.methodLink "FootholdWall" 370 yX8_put ∈ gw := gw_of (tb_of 1190 (by decide +kernel)) (by decide +kernel)
theorem kw_1191 : Cond.instanceMethod yX8_put ∈ gw := gw_of (tb_of 1191 (by decide +kernel)) (by decide +kernel)
theorem kw_1192 : Cond.selects "FootholdWall$Tray" yX8_put yX8_put ∈ gw := gw_of (tb_of 1192 (by decide +kernel)) (by decide +kernel)
theorem kw_1193 : Cond.code yX8_put cX8_put 4 (some (.long)) ∈ gw := gw_of (tb_of 1193 (by decide +kernel)) (by decide +kernel)
theorem kw_1202 : Cond.methodLink "FootholdWall" 374 yX11_isImage ∈ gw := gw_of (tb_of 1202 (by decide +kernel)) (by decide +kernel)
theorem kw_1203 : Cond.static yX11_isImage ∈ gw := gw_of (tb_of 1203 (by decide +kernel)) (by decide +kernel)
theorem kw_1204 : Cond.code yX11_isImage cX11_isImage 1 (some (.boolean)) ∈ gw := gw_of (tb_of 1204 (by decide +kernel)) (by decide +kernel)
set_option maxHeartbeats 4000000 in
set_option maxRecDepth 100000 in
theorem s_FW_numbers (l : Launch) (D : va_G) (cs : CS) (kf : KF) (T : TF) (O : List Nat) (X : va_W) (a0 w hw gw ch gq : Nat) (x1 : Int32) (x2 : Int32) (x3 : Int32) (t_a0 : T a0 = some (21, w, ch)) (t_w : isW T w hw gw) (t_ch : T ch = some (10, gq, 0)) (hO : okO T O [2, 6, 18, 21]) : TK l D cs kf yX11_numbers cX11_numbers 4 (some (.int)) { frames := 2, cells := 0, slots := 0, locals := 46 } [.ref a0, .int x1, .int x2, .int x3] T O X (Ti D cs (fun r u => u = (T, O, X) ∧ -3 ≤ r.toInt ∧ r.toInt ≤ 0)) := by
  refine tk_of (by decide) (Nat.le_of_ble_eq_true rfl) (fun p e s m below meth c ls A H locs hx hb hr hml hown hts hlocks hnm hkb hH hS hA hOX hks hE hl => ?_)
  have hown : s.vm.findClass RX11 = some m.cls := hown
  have hl : lv_has ls 4 [(0, .ref a0), (1, .int x1), (2, .int x2), (3, .int x3)] := hl
  have b1_w := t_w.2.1
  have b2_w := t_w.2.2
  refine lv_iload_n hx hb dX11_numbers_0 rfl (lv_at hl 1 rfl) ?_
  refine tk_i hH hS hA (tr_S (n := 1) (As := [.int x1]) hx hb hml hown hts hkb hH hOX hks hE hS hA (s_FW_isTray l D cs kf T O X x1  (hO.sub (by decide))) kw_871 kw_872 kw_1 kw_873 (by decide +kernel) ⟨Nat.le_of_ble_eq_true rfl, Nat.le_of_ble_eq_true rfl⟩ rfl rfl hl.1 (Nat.le_of_ble_eq_true rfl) dX11_numbers_1 ⟨Nat.le_of_ble_eq_true rfl, Nat.le_of_ble_eq_true rfl⟩) (fun v1 u H locs hz9 hH hS => ?_)
  obtain ⟨rfl, l_v1, u_v1, x_v10⟩ := hz9
  have hH : HT D cs A T O X H := hH
  refine W.widen (k := 0) (n := 0) (Nat.le_of_ble_eq_true rfl) (Nat.le_of_ble_eq_true rfl) ?_
  have J16 : ∀  (H : Heap) (locs : List Loc) (ls : Array Slot), HT D cs A T O X H → va_S A s.heap H locs → lv_has ls 4 [] → W p l e { frames := 2, cells := 0, slots := 0, locals := 46 } s m [.ref a0, .int x1, .int x2, .int x3].toArray below meth c H locs 0 0 (MQ below (Ti D cs (fun r u => u = (T, O, X) ∧ -3 ≤ r.toInt ∧ r.toInt ≤ 0) A) [.ref a0, .int x1, .int x2, .int x3].toArray s 0 0 A) (F0 m 16 ls []) := by
    intro  H locs ls  hH hS hl
    refine lv_bipush (v := (-2)) hx hb dX11_numbers_16 (by decide) ?_
    exact te_i hx hb hr hlocks hH hS (⟨rfl, by decide, by decide⟩) dX11_numbers_18
  refine lv_if_eq (tgt := 16) hx hb dX11_numbers_4 (by decide) (fun c4 => ?_) (fun c4 => ?_)
  · skip
    have tc4 := f_eq (k := 0) (by decide) c4
    exact J16  _ _ _  hH hS (lv_sub hl [] rfl)
  · skip
    have tc4 := f_ne (k := 0) (by decide) c4
    refine lv_iload_n hx hb dX11_numbers_7 rfl (lv_at hl 2 rfl) ?_
    refine lv_if_lt (tgt := 16) hx hb dX11_numbers_8 (by decide) (fun c8 => ?_) (fun c8 => ?_)
    · skip
      have tc8 := f_lt (k := 0) (by decide) c8
      exact J16  _ _ _  hH hS (lv_sub hl [] rfl)
    · skip
      have tc8 := f_nlt (k := 0) (by decide) c8
      refine lv_iload_n hx hb dX11_numbers_11 rfl (lv_at hl 2 rfl) ?_
      refine lv_iconst (v := 3) hx hb dX11_numbers_12 (by decide) ?_
      refine lv_icmp_le (tgt := 19) hx hb dX11_numbers_13 (by decide) (fun c13 => ?_) (fun c13 => ?_)
      · skip
        have tc13 := f_le (k := 3) (by decide) c13
        refine lv_iload_n hx hb dX11_numbers_19 rfl (lv_at hl 3 rfl) ?_
        have J29 : ∀  (H : Heap) (locs : List Loc) (ls : Array Slot), HT D cs A T O X H → va_S A s.heap H locs → lv_has ls 4 [] → W p l e { frames := 2, cells := 0, slots := 0, locals := 46 } s m [.ref a0, .int x1, .int x2, .int x3].toArray below meth c H locs 0 0 (MQ below (Ti D cs (fun r u => u = (T, O, X) ∧ -3 ≤ r.toInt ∧ r.toInt ≤ 0) A) [.ref a0, .int x1, .int x2, .int x3].toArray s 0 0 A) (F0 m 29 ls []) := by
          intro  H locs ls  hH hS hl
          refine lv_bipush (v := (-3)) hx hb dX11_numbers_29 (by decide) ?_
          exact te_i hx hb hr hlocks hH hS (⟨rfl, by decide, by decide⟩) dX11_numbers_31
        refine lv_if_lt (tgt := 29) hx hb dX11_numbers_20 (by decide) (fun c20 => ?_) (fun c20 => ?_)
        · skip
          have tc20 := f_lt (k := 0) (by decide) c20
          exact J29  _ _ _  hH hS (lv_sub hl [] rfl)
        · skip
          have tc20 := f_nlt (k := 0) (by decide) c20
          refine lv_iload_n hx hb dX11_numbers_23 rfl (lv_at hl 3 rfl) ?_
          refine lv_bipush (v := 40) hx hb dX11_numbers_24 (by decide) ?_
          refine lv_icmp_le (tgt := 32) hx hb dX11_numbers_26 (by decide) (fun c26 => ?_) (fun c26 => ?_)
          · skip
            have tc26 := f_le (k := 40) (by decide) c26
            refine lv_aload_n hx hb dX11_numbers_32 rfl (lv_at hl 0 rfl) ?_
            refine t_get (ci := 11) (lst := ft11 w ch) (C := RX11) (F := TX11) (N := 20) hx hb hts uX11 hown hkb hH t_a0 (hO.no t_a0 (by decide)) (fun _ h9 => h9) rfl rfl 11 (by decide) rfl kw_371 (fun _ h9 => h9) dX11_numbers_33 (fun v9 h9 => ?_)
            obtain ⟨v33, rfl, t_v33⟩ := h9
            refine lv_iload_n hx hb dX11_numbers_36 rfl (lv_at hl 1 rfl) ?_
            refine t_qld6 hx hb hkb hH t_v33 (hO.no t_v33 (by decide)) (by omega) (by omega) dX11_numbers_37 (fun v37 t_v37 => ?_)
            refine lv_iload_n hx hb dX11_numbers_38 rfl (lv_at hl 2 rfl) ?_
            refine lv_iload_n hx hb dX11_numbers_39 rfl (lv_at hl 3 rfl) ?_
            refine tk_v hH hS hA (tr_V (n := 2) (As := [.int x2, .int x3]) hx hb hml hown hts hkb hH hOX hks hE hS hA (s_Tray_lay l D cs kf T O X v37 x2 x3 t_v37 (by omega) (by omega) (hO.sub (by decide))) kw_1177 kw_1178 kw_1179 kw_12 kw_1180 (by decide +kernel) ⟨Nat.le_of_ble_eq_true rfl, Nat.le_of_ble_eq_true rfl⟩ (HT.recv (ci := 8) hkb hH t_v37 (hO.no t_v37 (by decide)) rfl) rfl rfl hl.1 (Nat.le_of_ble_eq_true rfl) dX11_numbers_40 ⟨Nat.le_of_ble_eq_true rfl, Nat.le_of_ble_eq_true rfl⟩) (fun u H locs hz9 hH hS => ?_)
            have hz9 : u = (T, O, X) := hz9
            subst hz9
            have hH : HT D cs A T O X H := hH
            refine W.widen (k := 0) (n := 0) (Nat.le_of_ble_eq_true rfl) (Nat.le_of_ble_eq_true rfl) ?_
            refine lv_iconst (v := 0) hx hb dX11_numbers_43 (by decide) ?_
            exact te_i hx hb hr hlocks hH hS (⟨rfl, by decide, by decide⟩) dX11_numbers_44
          · skip
            have tc26 := f_nle (k := 40) (by decide) c26
            exact J29  _ _ _  hH hS (lv_sub hl [] rfl)
      · skip
        have tc13 := f_nle (k := 3) (by decide) c13
        exact J16  _ _ _  hH hS (lv_sub hl [] rfl)
set_option maxHeartbeats 4000000 in
set_option maxRecDepth 100000 in
theorem s_FW_write (l : Launch) (D : va_G) (cs : CS) (kf : KF) (T : TF) (O : List Nat) (X : va_W) (a0 w hw gw ch gq : Nat) (x1 : Int32) (x2 : Int32) (x3 : Int64) (t_a0 : T a0 = some (21, w, ch)) (t_w : isW T w hw gw) (t_ch : T ch = some (10, gq, 0)) (hO : okO T O [2, 6, 18, 21]) : TK l D cs kf yX11_write cX11_write 6 (some (.long)) { frames := 1, cells := 0, slots := 0, locals := 23 } [.ref a0, .int x1, .int x2, .long x3] T O X (Tl D cs (fun _ u => u = (T, O, X))) := by
  refine tk_of (by decide) (Nat.le_of_ble_eq_true rfl) (fun p e s m below meth c ls A H locs hx hb hr hml hown hts hlocks hnm hkb hH hS hA hOX hks hE hl => ?_)
  have hown : s.vm.findClass RX11 = some m.cls := hown
  have hl : lv_has ls 6 [(0, .ref a0), (1, .int x1), (2, .int x2), (3, .long x3)] := hl
  have b1_w := t_w.2.1
  have b2_w := t_w.2.2
  refine lv_iload_n hx hb dX11_write_0 rfl (lv_at hl 1 rfl) ?_
  refine tk_i hH hS hA (tr_S (n := 1) (As := [.int x1]) hx hb hml hown hts hkb hH hOX hks hE hS hA (s_FW_isTray l D cs kf T O X x1  (hO.sub (by decide))) kw_871 kw_872 kw_1 kw_873 (by decide +kernel) ⟨Nat.le_of_ble_eq_true rfl, Nat.le_of_ble_eq_true rfl⟩ rfl rfl hl.1 (Nat.le_of_ble_eq_true rfl) dX11_write_1 ⟨Nat.le_of_ble_eq_true rfl, Nat.le_of_ble_eq_true rfl⟩) (fun v1 u H locs hz9 hH hS => ?_)
  obtain ⟨rfl, l_v1, u_v1, x_v10⟩ := hz9
  have hH : HT D cs A T O X H := hH
  refine W.widen (k := 0) (n := 0) (Nat.le_of_ble_eq_true rfl) (Nat.le_of_ble_eq_true rfl) ?_
  refine lv_if_ne (tgt := 11) hx hb dX11_write_4 (by decide) (fun c4 => ?_) (fun c4 => ?_)
  · skip
    have tc4 := f_ne (k := 0) (by decide) c4
    refine lv_aload_n hx hb dX11_write_11 rfl (lv_at hl 0 rfl) ?_
    refine t_get (ci := 11) (lst := ft11 w ch) (C := RX11) (F := TX11) (N := 20) hx hb hts uX11 hown hkb hH t_a0 (hO.no t_a0 (by decide)) (fun _ h9 => h9) rfl rfl 11 (by decide) rfl kw_371 (fun _ h9 => h9) dX11_write_12 (fun v9 h9 => ?_)
    obtain ⟨v12, rfl, t_v12⟩ := h9
    refine lv_iload_n hx hb dX11_write_15 rfl (lv_at hl 1 rfl) ?_
    refine t_qld6 hx hb hkb hH t_v12 (hO.no t_v12 (by decide)) (by omega) (by omega) dX11_write_16 (fun v16 t_v16 => ?_)
    refine lv_astore (lv' := [(5, .ref v16), (0, .ref a0), (1, .int x1), (2, .int x2), (3, .long x3)]) hx hb dX11_write_17 hl (by decide) rfl (fun ls hl => ?_)
    refine lv_aload hx hb dX11_write_19 (lv_at hl 0 rfl) ?_
    refine tk_i hH hS hA (tr_V (n := 0) (As := []) hx hb hml hown hts hkb hH hOX hks hE hS hA (s_Tray_isMissing l D cs kf T O X v16 t_v16 (hO.sub (by decide))) kw_874 kw_875 kw_876 kw_12 kw_877 (by decide +kernel) ⟨Nat.le_of_ble_eq_true rfl, Nat.le_of_ble_eq_true rfl⟩ (HT.recv (ci := 8) hkb hH t_v16 (hO.no t_v16 (by decide)) rfl) rfl rfl hl.1 (Nat.le_of_ble_eq_true rfl) dX11_write_21 ⟨Nat.le_of_ble_eq_true rfl, Nat.le_of_ble_eq_true rfl⟩) (fun v21 u H locs hz9 hH hS => ?_)
    obtain ⟨rfl, l_v21, u_v21⟩ := hz9
    have hH : HT D cs A T O X H := hH
    refine W.widen (k := 0) (n := 0) (Nat.le_of_ble_eq_true rfl) (Nat.le_of_ble_eq_true rfl) ?_
    refine lv_if_eq (tgt := 31) hx hb dX11_write_24 (by decide) (fun c24 => ?_) (fun c24 => ?_)
    · skip
      have tc24 := f_eq (k := 0) (by decide) c24
      refine lv_iload_n hx hb dX11_write_31 rfl (lv_at hl 3 rfl) ?_
      have J44 : ∀  (H : Heap) (locs : List Loc) (ls : Array Slot), HT D cs A T O X H → va_S A s.heap H locs → lv_has ls 6 [] → W p l e { frames := 1, cells := 0, slots := 0, locals := 23 } s m [.ref a0, .int x1, .int x2, .long x3].toArray below meth c H locs 0 0 (MQ below (Tl D cs (fun _ u => u = (T, O, X)) A) [.ref a0, .int x1, .int x2, .long x3].toArray s 0 0 A) (F0 m 44 ls []) := by
        intro  H locs ls  hH hS hl
        refine lv_ldc2 hx hb hown (hts _ kw_1189) dX11_write_44 ?_
        exact te_l hx hb hr hlocks hH hS rfl dX11_write_47
      refine lv_if_lt (tgt := 44) hx hb dX11_write_32 (by decide) (fun c32 => ?_) (fun c32 => ?_)
      · skip
        have tc32 := f_lt (k := 0) (by decide) c32
        exact J44  _ _ _  hH hS (lv_sub hl [] rfl)
      · skip
        have tc32 := f_nlt (k := 0) (by decide) c32
        refine lv_iload_n hx hb dX11_write_35 rfl (lv_at hl 3 rfl) ?_
        refine lv_aload hx hb dX11_write_36 (lv_at hl 0 rfl) ?_
        refine t_get (ci := 8) (lst := ft8 0 0) (C := RX8) (F := TX8) (N := 3) hx hb hts uX8 hown hkb hH t_v16 (hO.no t_v16 (by decide)) (fun _ h9 => h9) rfl rfl 2 (by decide) rfl kw_352 (fun _ h9 => h9) dX11_write_38 (fun v9 h9 => ?_)
        obtain ⟨v38, rfl, l_v38, u_v38⟩ := h9
        refine lv_icmp_lt (tgt := 48) hx hb dX11_write_41 (by decide) (fun c41 => ?_) (fun c41 => ?_)
        · skip
          have fuc41 := full_i x2
          have fvc41 := full_i v38
          have tc41 := g_lt c41
          refine lv_aload hx hb dX11_write_48 (lv_at hl 0 rfl) ?_
          refine lv_iload_n hx hb dX11_write_50 rfl (lv_at hl 3 rfl) ?_
          refine lv_lload_n hx hb dX11_write_51 rfl (lv_at hl 4 rfl) ?_
          refine tk_l hH hS hA (tr_V (n := 2) (As := [.int x2, .long x3]) hx hb hml hown hts hkb hH hOX hks hE hS hA (s_Tray_put l D cs kf T O X v16 x2 x3 t_v16 (hO.sub (by decide))) kw_1190 kw_1191 kw_1192 kw_12 kw_1193 (by decide +kernel) ⟨Nat.le_of_ble_eq_true rfl, Nat.le_of_ble_eq_true rfl⟩ (HT.recv (ci := 8) hkb hH t_v16 (hO.no t_v16 (by decide)) rfl) rfl rfl hl.1 (Nat.le_of_ble_eq_true rfl) dX11_write_52 ⟨Nat.le_of_ble_eq_true rfl, Nat.le_of_ble_eq_true rfl⟩) (fun v52 u H locs hz9 hH hS => ?_)
          have hz9 : u = (T, O, X) := hz9
          subst hz9
          have hH : HT D cs A T O X H := hH
          refine W.widen (k := 0) (n := 0) (Nat.le_of_ble_eq_true rfl) (Nat.le_of_ble_eq_true rfl) ?_
          exact te_l hx hb hr hlocks hH hS rfl dX11_write_55
        · skip
          have fuc41 := full_i x2
          have fvc41 := full_i v38
          have tc41 := g_nlt c41
          exact J44  _ _ _  hH hS (lv_sub hl [] rfl)
    · skip
      have tc24 := f_ne (k := 0) (by decide) c24
      refine lv_ldc2 hx hb hown (hts _ kw_1188) dX11_write_27 ?_
      exact te_l hx hb hr hlocks hH hS rfl dX11_write_30
  · skip
    have tc4 := f_eq (k := 0) (by decide) c4
    refine lv_ldc2 hx hb hown (hts _ kw_988) dX11_write_7 ?_
    exact te_l hx hb hr hlocks hH hS rfl dX11_write_10
set_option maxHeartbeats 4000000 in
set_option maxRecDepth 100000 in
theorem s_FW_lists (l : Launch) (D : va_G) (cs : CS) (kf : KF) (T : TF) (O : List Nat) (X : va_W) (a0 w hw gw ch gq : Nat) (x1 : Int32) (x2 : Int32) (t_a0 : T a0 = some (21, w, ch)) (t_w : isW T w hw gw) (t_ch : T ch = some (10, gq, 0)) (hO : okO T O [1, 2, 6, 7, 12, 15, 16, 18, 19, 20, 21]) : TK l D cs kf yX11_lists cX11_lists 7 (some (.int)) { frames := 6, cells := 0, slots := 0, locals := 152 } [.ref a0, .int x1, .int x2] T O X (Ti D cs (fun r u => u = (T, O, X) ∧ -6 ≤ r.toInt ∧ r.toInt ≤ 15)) := by
  refine tk_of (by decide) (Nat.le_of_ble_eq_true rfl) (fun p e s m below meth c ls A H locs hx hb hr hml hown hts hlocks hnm hkb hH hS hA hOX hks hE hl => ?_)
  have hown : s.vm.findClass RX11 = some m.cls := hown
  have hl : lv_has ls 7 [(0, .ref a0), (1, .int x1), (2, .int x2)] := hl
  have b1_w := t_w.2.1
  have b2_w := t_w.2.2
  refine lv_iload_n hx hb dX11_lists_0 rfl (lv_at hl 1 rfl) ?_
  refine tk_i hH hS hA (tr_S (n := 1) (As := [.int x1]) hx hb hml hown hts hkb hH hOX hks hE hS hA (s_FW_isTray l D cs kf T O X x1  (hO.sub (by decide))) kw_871 kw_872 kw_1 kw_873 (by decide +kernel) ⟨Nat.le_of_ble_eq_true rfl, Nat.le_of_ble_eq_true rfl⟩ rfl rfl hl.1 (Nat.le_of_ble_eq_true rfl) dX11_lists_1 ⟨Nat.le_of_ble_eq_true rfl, Nat.le_of_ble_eq_true rfl⟩) (fun v1 u H locs hz9 hH hS => ?_)
  obtain ⟨rfl, l_v1, u_v1, x_v10⟩ := hz9
  have hH : HT D cs A T O X H := hH
  refine W.widen (k := 0) (n := 0) (Nat.le_of_ble_eq_true rfl) (Nat.le_of_ble_eq_true rfl) ?_
  have J15 : ∀  (H : Heap) (locs : List Loc) (ls : Array Slot), HT D cs A T O X H → va_S A s.heap H locs → lv_has ls 7 [] → W p l e { frames := 6, cells := 0, slots := 0, locals := 152 } s m [.ref a0, .int x1, .int x2].toArray below meth c H locs 0 0 (MQ below (Ti D cs (fun r u => u = (T, O, X) ∧ -6 ≤ r.toInt ∧ r.toInt ≤ 15) A) [.ref a0, .int x1, .int x2].toArray s 0 0 A) (F0 m 15 ls []) := by
    intro  H locs ls  hH hS hl
    refine lv_bipush (v := (-2)) hx hb dX11_lists_15 (by decide) ?_
    exact te_i hx hb hr hlocks hH hS (⟨rfl, by decide, by decide⟩) dX11_lists_17
  refine lv_if_eq (tgt := 15) hx hb dX11_lists_4 (by decide) (fun c4 => ?_) (fun c4 => ?_)
  · skip
    have tc4 := f_eq (k := 0) (by decide) c4
    exact J15  _ _ _  hH hS (lv_sub hl [] rfl)
  · skip
    have tc4 := f_ne (k := 0) (by decide) c4
    refine lv_aload_n hx hb dX11_lists_7 rfl (lv_at hl 0 rfl) ?_
    refine lv_iload_n hx hb dX11_lists_8 rfl (lv_at hl 2 rfl) ?_
    refine tk_i hH hS hA (tr_V (n := 1) (As := [.int x2]) hx hb hml hown hts hkb hH hOX hks hE hS hA (s_FW_isGuide l D cs kf T O X a0 w hw gw ch gq x2 t_a0 t_w t_ch (hO.sub (by decide))) kw_794 kw_796 ks_20 kw_1 kw_797 (by decide +kernel) ⟨Nat.le_of_ble_eq_true rfl, Nat.le_of_ble_eq_true rfl⟩ (HT.recv (ci := 11) hkb hH t_a0 (hO.no t_a0 (by decide)) rfl) rfl rfl hl.1 (Nat.le_of_ble_eq_true rfl) dX11_lists_9 ⟨Nat.le_of_ble_eq_true rfl, Nat.le_of_ble_eq_true rfl⟩) (fun v9 u H locs hz9 hH hS => ?_)
    obtain ⟨rfl, l_v9, u_v9, x_v90⟩ := hz9
    have hH : HT D cs A T O X H := hH
    refine W.widen (k := 0) (n := 0) (Nat.le_of_ble_eq_true rfl) (Nat.le_of_ble_eq_true rfl) ?_
    refine lv_if_ne (tgt := 18) hx hb dX11_lists_12 (by decide) (fun c12 => ?_) (fun c12 => ?_)
    · skip
      have tc12 := f_ne (k := 0) (by decide) c12
      refine lv_aload_n hx hb dX11_lists_18 rfl (lv_at hl 0 rfl) ?_
      refine t_get (ci := 11) (lst := ft11 w ch) (C := RX11) (F := TX11) (N := 20) hx hb hts uX11 hown hkb hH t_a0 (hO.no t_a0 (by decide)) (fun _ h9 => h9) rfl rfl 11 (by decide) rfl kw_371 (fun _ h9 => h9) dX11_lists_19 (fun v9 h9 => ?_)
      obtain ⟨v19, rfl, t_v19⟩ := h9
      refine lv_iload_n hx hb dX11_lists_22 rfl (lv_at hl 1 rfl) ?_
      refine t_qld6 hx hb hkb hH t_v19 (hO.no t_v19 (by decide)) (by omega) (by omega) dX11_lists_23 (fun v23 t_v23 => ?_)
      refine lv_astore_n (lv' := [(3, .ref v23), (0, .ref a0), (1, .int x1), (2, .int x2)]) hx hb dX11_lists_24 rfl hl (by decide) rfl (fun ls hl => ?_)
      refine lv_aload_n hx hb dX11_lists_25 rfl (lv_at hl 0 rfl) ?_
      refine tk_i hH hS hA (tr_V (n := 0) (As := []) hx hb hml hown hts hkb hH hOX hks hE hS hA (s_Tray_isMissing l D cs kf T O X v23 t_v23 (hO.sub (by decide))) kw_874 kw_875 kw_876 kw_12 kw_877 (by decide +kernel) ⟨Nat.le_of_ble_eq_true rfl, Nat.le_of_ble_eq_true rfl⟩ (HT.recv (ci := 8) hkb hH t_v23 (hO.no t_v23 (by decide)) rfl) rfl rfl hl.1 (Nat.le_of_ble_eq_true rfl) dX11_lists_26 ⟨Nat.le_of_ble_eq_true rfl, Nat.le_of_ble_eq_true rfl⟩) (fun v26 u H locs hz9 hH hS => ?_)
      obtain ⟨rfl, l_v26, u_v26⟩ := hz9
      have hH : HT D cs A T O X H := hH
      refine W.widen (k := 0) (n := 0) (Nat.le_of_ble_eq_true rfl) (Nat.le_of_ble_eq_true rfl) ?_
      refine lv_if_eq (tgt := 35) hx hb dX11_lists_29 (by decide) (fun c29 => ?_) (fun c29 => ?_)
      · skip
        have tc29 := f_eq (k := 0) (by decide) c29
        refine lv_aload_n hx hb dX11_lists_35 rfl (lv_at hl 1 rfl) ?_
        refine t_get (ci := 11) (lst := ft11 w ch) (C := RX11) (F := TX11) (N := 20) hx hb hts uX11 hown hkb hH t_a0 (hO.no t_a0 (by decide)) (fun _ h9 => h9) rfl rfl 14 (by decide) rfl kw_374 (fun _ h9 => h9) dX11_lists_36 (fun v9 h9 => ?_)
        obtain ⟨v36, rfl, t_v36⟩ := h9
        refine lv_aload_n hx hb dX11_lists_39 rfl (lv_at hl 1 rfl) ?_
        refine lv_iload_n hx hb dX11_lists_40 rfl (lv_at hl 3 rfl) ?_
        refine tk_r hH hS hA (tr_V (n := 1) (As := [.int x2]) hx hb hml hown hts hkb hH hOX hks hE hS hA (s_FW_rowsOf l D cs kf T O X a0 w hw gw ch gq x2 t_a0 t_w t_ch (by omega) (by omega) (hO.sub (by decide))) kw_830 kw_832 ks_21 kw_1 kw_833 (by decide +kernel) ⟨Nat.le_of_ble_eq_true rfl, Nat.le_of_ble_eq_true rfl⟩ (HT.recv (ci := 11) hkb hH t_a0 (hO.no t_a0 (by decide)) rfl) rfl rfl hl.1 (Nat.le_of_ble_eq_true rfl) dX11_lists_41 ⟨Nat.le_of_ble_eq_true rfl, Nat.le_of_ble_eq_true rfl⟩) (fun v41 u H locs hz9 hH hS => ?_)
        obtain ⟨hu9, t_v41⟩ := hz9
        have hu9 : u = (T, O, X) := hu9
        subst hu9
        have hH : HT D cs A T O X H := hH
        refine W.widen (k := 0) (n := 0) (Nat.le_of_ble_eq_true rfl) (Nat.le_of_ble_eq_true rfl) ?_
        refine lv_aload_n hx hb dX11_lists_44 rfl (lv_at hl 1 rfl) ?_
        refine tk_i hH hS hA (tr_V (n := 0) (As := []) hx hb hml hown hts hkb hH hOX hks hE hS hA (s_FW_openNow l D cs kf T O X a0 w hw gw ch gq t_a0 t_w t_ch (hO.sub (by decide))) kw_846 kw_848 ks_22 kw_1 kw_849 (by decide +kernel) ⟨Nat.le_of_ble_eq_true rfl, Nat.le_of_ble_eq_true rfl⟩ (HT.recv (ci := 11) hkb hH t_a0 (hO.no t_a0 (by decide)) rfl) rfl rfl hl.1 (Nat.le_of_ble_eq_true rfl) dX11_lists_45 ⟨Nat.le_of_ble_eq_true rfl, Nat.le_of_ble_eq_true rfl⟩) (fun v45 u H locs hz9 hH hS => ?_)
        obtain ⟨rfl, l_v45, u_v45⟩ := hz9
        have hH : HT D cs A T O X H := hH
        refine W.widen (k := 0) (n := 0) (Nat.le_of_ble_eq_true rfl) (Nat.le_of_ble_eq_true rfl) ?_
        refine tk_i hH hS hA (tr_V (n := 2) (As := [.ref v41, .int v45]) hx hb hml hown hts hkb hH hOX hks hE hS hA (s_Ways_find l D cs kf T O X v36 v41 v45 t_v36 t_v41 (hO.sub (by decide))) kw_912 kw_913 kw_914 kw_9 kw_915 (by decide +kernel) ⟨Nat.le_of_ble_eq_true rfl, Nat.le_of_ble_eq_true rfl⟩ (HT.recv (ci := 10) hkb hH t_v36 (hO.no t_v36 (by decide)) rfl) rfl rfl hl.1 (Nat.le_of_ble_eq_true rfl) dX11_lists_48 ⟨Nat.le_of_ble_eq_true rfl, Nat.le_of_ble_eq_true rfl⟩) (fun v48 u H locs hz9 hH hS => ?_)
        obtain ⟨rfl, l_v48, u_v48⟩ := hz9
        have hH : HT D cs A T O X H := hH
        refine W.widen (k := 0) (n := 0) (Nat.le_of_ble_eq_true rfl) (Nat.le_of_ble_eq_true rfl) ?_
        refine lv_istore (lv' := [(4, .int v48), (3, .ref v23), (0, .ref a0), (1, .int x1), (2, .int x2)]) hx hb dX11_lists_51 hl (by decide) rfl (fun ls hl => ?_)
        refine lv_iload hx hb dX11_lists_53 (lv_at hl 0 rfl) ?_
        refine lv_if_ne (tgt := 61) hx hb dX11_lists_55 (by decide) (fun c55 => ?_) (fun c55 => ?_)
        · skip
          have tc55 := f_ne (k := 0) (by decide) c55
          refine lv_iload hx hb dX11_lists_61 (lv_at hl 0 rfl) ?_
          refine lv_iconst (v := 1) hx hb dX11_lists_63 (by decide) ?_
          refine lv_iadd hx hb dX11_lists_64 ?_
          refine lv_topi (fun v64 ev64 => ?_)
          have tv64 : v64.toInt = v48.toInt + (1) := by rw [ev64]; exact add_i rfl (by decide : (1 : Int32).toInt = 1) (by omega) (by omega)
          refine lv_aload_n hx hb dX11_lists_65 rfl (lv_at hl 1 rfl) ?_
          refine t_get (ci := 8) (lst := ft8 0 0) (C := RX8) (F := TX8) (N := 3) hx hb hts uX8 hown hkb hH t_v23 (hO.no t_v23 (by decide)) (fun _ h9 => h9) rfl rfl 2 (by decide) rfl kw_352 (fun _ h9 => h9) dX11_lists_66 (fun v9 h9 => ?_)
          obtain ⟨v66, rfl, l_v66, u_v66⟩ := h9
          refine va_mmin hx hb (by rw [hml]; exact hl.1.symm) hown (hts _ kw_903) (hts _ kw_450) (hts _ kw_6) (hts _ kw_451) (Nat.le_of_ble_eq_true rfl) (Nat.le_of_ble_eq_true rfl) (Nat.le_of_ble_eq_true rfl) (Nat.le_of_ble_eq_true rfl) dX11_lists_69 ?_
          refine lv_topi (fun v69 ev69 => ?_)
          have tv69 : v69.toInt = min v64.toInt v66.toInt := by rw [ev69]; exact min_i rfl rfl
          refine lv_istore (lv' := [(5, .int v69), (4, .int v48), (3, .ref v23), (0, .ref a0), (1, .int x1), (2, .int x2)]) hx hb dX11_lists_72 hl (by decide) rfl (fun ls hl => ?_)
          refine lv_iconst (v := 0) hx hb dX11_lists_74 (by decide) ?_
          have J77 : ∀ (n : Nat) (p77_6 : Int32) (H : Heap) (locs : List Loc) (ls : Array Slot), (15 - p77_6.toInt).toNat = n → (0 ≤ p77_6.toInt) → (p77_6.toInt ≤ 15) → HT D cs A T O X H → va_S A s.heap H locs → lv_has ls 7 [(6, .int p77_6), (5, .int v69), (3, .ref v23), (0, .ref a0), (2, .int x2)] → W p l e { frames := 6, cells := 0, slots := 0, locals := 152 } s m [.ref a0, .int x1, .int x2].toArray below meth c H locs 0 0 (MQ below (Ti D cs (fun r u => u = (T, O, X) ∧ -6 ≤ r.toInt ∧ r.toInt ≤ 15) A) [.ref a0, .int x1, .int x2].toArray s 0 0 A) (F0 m 77 ls []) := by
            intro n
            induction n using Nat.strongRecOn with
            | _ n ih77 =>
              intro p77_6 H locs ls hm77 l_p77_6 u_p77_6 hH hS hl
              refine lv_iload hx hb dX11_lists_77 (lv_at hl 0 rfl) ?_
              refine lv_iload hx hb dX11_lists_79 (lv_at hl 1 rfl) ?_
              refine lv_icmp_ge (tgt := 120) hx hb dX11_lists_81 (by decide) (fun c81 => ?_) (fun c81 => ?_)
              · skip
                have fuc81 := full_i p77_6
                have fvc81 := full_i v69
                have tc81 := g_le c81
                refine lv_iload hx hb dX11_lists_120 (lv_at hl 1 rfl) ?_
                exact te_i hx hb hr hlocks hH hS (⟨rfl, by omega, by omega⟩) dX11_lists_122
              · skip
                have fuc81 := full_i p77_6
                have fvc81 := full_i v69
                have tc81 := g_nle c81
                refine lv_aload_n hx hb dX11_lists_84 rfl (lv_at hl 2 rfl) ?_
                refine lv_iload hx hb dX11_lists_85 (lv_at hl 0 rfl) ?_
                refine lv_iload hx hb dX11_lists_87 (lv_at hl 0 rfl) ?_
                have J110 : ∀ (k110_0 : Int64) (H : Heap) (locs : List Loc) (ls : Array Slot), HT D cs A T O X H → va_S A s.heap H locs → lv_has ls 7 [(6, .int p77_6), (5, .int v69), (3, .ref v23), (0, .ref a0), (2, .int x2)] → W p l e { frames := 6, cells := 0, slots := 0, locals := 152 } s m [.ref a0, .int x1, .int x2].toArray below meth c H locs 0 0 (MQ below (Ti D cs (fun r u => u = (T, O, X) ∧ -6 ≤ r.toInt ∧ r.toInt ≤ 15) A) [.ref a0, .int x1, .int x2].toArray s 0 0 A) (F0 m 110 ls [.long k110_0, .int p77_6, .ref v23]) := by
                  intro k110_0 H locs ls  hH hS hl
                  refine tk_l hH hS hA (tr_V (n := 2) (As := [.int p77_6, .long k110_0]) hx hb hml hown hts hkb hH hOX hks hE hS hA (s_Tray_put l D cs kf T O X v23 p77_6 k110_0 t_v23 (hO.sub (by decide))) kw_1190 kw_1191 kw_1192 kw_12 kw_1193 (by decide +kernel) ⟨Nat.le_of_ble_eq_true rfl, Nat.le_of_ble_eq_true rfl⟩ (HT.recv (ci := 8) hkb hH t_v23 (hO.no t_v23 (by decide)) rfl) rfl rfl hl.1 (Nat.le_of_ble_eq_true rfl) dX11_lists_110 ⟨Nat.le_of_ble_eq_true rfl, Nat.le_of_ble_eq_true rfl⟩) (fun v110 u H locs hz9 hH hS => ?_)
                  have hz9 : u = (T, O, X) := hz9
                  subst hz9
                  have hH : HT D cs A T O X H := hH
                  refine W.widen (k := 0) (n := 0) (Nat.le_of_ble_eq_true rfl) (Nat.le_of_ble_eq_true rfl) ?_
                  refine lv_pop2_2 hx hb dX11_lists_113 rfl ?_
                  obtain ⟨v114, ev114⟩ : ∃ y : Int32, y = p77_6 + 1 := ⟨_, rfl⟩
                  have tv114 : v114.toInt = p77_6.toInt + (1) := by rw [ev114]; exact add_i rfl (by decide) (by omega) (by omega)
                  refine lv_iinc (v := v114) (lv' := [(6, .int v114), (5, .int v69), (3, .ref v23), (0, .ref a0), (2, .int x2)]) hx hb dX11_lists_114 hl (k := 0) rfl (by rw [ev114]; rfl) (by decide) rfl (fun ls hl => ?_)
                  refine lv_goto (tgt := 77) hx hb dX11_lists_117 (by decide) ?_
                  exact ih77 _ (by omega) v114 _ _ _ rfl (by omega) (by omega) hH hS (lv_sub hl [0, 1, 2, 3, 4] rfl)
                refine lv_if_ne (tgt := 97) hx hb dX11_lists_89 (by decide) (fun c89 => ?_) (fun c89 => ?_)
                · skip
                  have tc89 := f_ne (k := 0) (by decide) c89
                  refine lv_aload_n hx hb dX11_lists_97 rfl (lv_at hl 3 rfl) ?_
                  refine t_get (ci := 11) (lst := ft11 w ch) (C := RX11) (F := TX11) (N := 20) hx hb hts uX11 hown hkb hH t_a0 (hO.no t_a0 (by decide)) (fun _ h9 => h9) rfl rfl 14 (by decide) rfl kw_374 (fun _ h9 => h9) dX11_lists_98 (fun v9 h9 => ?_)
                  obtain ⟨v98, rfl, t_v98⟩ := h9
                  refine t_get (ci := 10) (lst := ft10 0 0) (C := RX10) (F := TX10) (N := 7) hx hb hts uX10 hown hkb hH t_v98 (hO.no t_v98 (by decide)) (fun _ h9 => h9) rfl rfl 1 (by decide) rfl kw_274 (fun _ h9 => h9) dX11_lists_101 (fun v9 h9 => ?_)
                  obtain ⟨v101, rfl, t_v101⟩ := h9
                  refine lv_iload hx hb dX11_lists_104 (lv_at hl 0 rfl) ?_
                  refine lv_iconst (v := 1) hx hb dX11_lists_106 (by decide) ?_
                  refine lv_isub hx hb dX11_lists_107 ?_
                  refine lv_topi (fun v107 ev107 => ?_)
                  have tv107 : v107.toInt = p77_6.toInt - (1) := by rw [ev107]; exact sub_i rfl (by decide : (1 : Int32).toInt = 1) (by omega) (by omega)
                  refine t_ild hx hb hkb hH t_v101 (hO.no t_v101 (by decide)) (by omega) (by omega) dX11_lists_108 (fun v108 h9 => ?_)
                  refine lv_i2l hx hb dX11_lists_109 rfl ?_
                  exact J110 v108.toInt64 _ _ _  hH hS (lv_sub hl [0, 1, 2, 3, 4] rfl)
                · skip
                  have tc89 := f_eq (k := 0) (by decide) c89
                  refine lv_iload_n hx hb dX11_lists_92 rfl (lv_at hl 4 rfl) ?_
                  refine lv_i2l hx hb dX11_lists_93 rfl ?_
                  refine lv_goto (tgt := 110) hx hb dX11_lists_94 (by decide) ?_
                  exact J110 x2.toInt64 _ _ _  hH hS (lv_sub hl [0, 1, 2, 3, 4] rfl)
          refine lv_istore (lv' := [(6, .int 0), (5, .int v69), (4, .int v48), (3, .ref v23), (0, .ref a0), (1, .int x1), (2, .int x2)]) hx hb dX11_lists_75 hl (by decide) rfl (fun ls hl => ?_)
          exact J77 _ 0 _ _ _ rfl (by decide) (by decide) hH hS (lv_sub hl [0, 1, 3, 4, 6] rfl)
        · skip
          have tc55 := f_eq (k := 0) (by decide) c55
          refine lv_bipush (v := (-5)) hx hb dX11_lists_58 (by decide) ?_
          exact te_i hx hb hr hlocks hH hS (⟨rfl, by decide, by decide⟩) dX11_lists_60
      · skip
        have tc29 := f_ne (k := 0) (by decide) c29
        refine lv_bipush (v := (-6)) hx hb dX11_lists_32 (by decide) ?_
        exact te_i hx hb hr hlocks hH hS (⟨rfl, by decide, by decide⟩) dX11_lists_34
    · skip
      have tc12 := f_eq (k := 0) (by decide) c12
      exact J15  _ _ _  hH hS (lv_sub hl [] rfl)
set_option maxHeartbeats 4000000 in
set_option maxRecDepth 100000 in
theorem s_FW_image (l : Launch) (D : va_G) (cs : CS) (kf : KF) (T : TF) (O : List Nat) (X : va_W) (a0 w hw gw ch gq : Nat) (x1 : Int32) (t_a0 : T a0 = some (21, w, ch)) (t_w : isW T w hw gw) (t_ch : T ch = some (10, gq, 0)) (hO : okO T O [1, 4, 5, 16, 19, 21]) : TK l D cs kf yX11_image cX11_image 2 (some (.int)) { frames := 2, cells := 0, slots := 0, locals := 81 } [.ref a0, .int x1] T O X (Ti D cs (fun r u => u = (T, O, X) ∧ -2 ≤ r.toInt ∧ r.toInt ≤ 0)) := by
  refine tk_of (by decide) (Nat.le_of_ble_eq_true rfl) (fun p e s m below meth c ls A H locs hx hb hr hml hown hts hlocks hnm hkb hH hS hA hOX hks hE hl => ?_)
  have hown : s.vm.findClass RX11 = some m.cls := hown
  have hl : lv_has ls 2 [(0, .ref a0), (1, .int x1)] := hl
  have b1_w := t_w.2.1
  have b2_w := t_w.2.2
  refine lv_iload_n hx hb dX11_image_0 rfl (lv_at hl 1 rfl) ?_
  refine tk_i hH hS hA (tr_S (n := 1) (As := [.int x1]) hx hb hml hown hts hkb hH hOX hks hE hS hA (s_FW_isImage l D cs kf T O X x1  (hO.sub (by decide))) kw_1202 kw_1203 kw_1 kw_1204 (by decide +kernel) ⟨Nat.le_of_ble_eq_true rfl, Nat.le_of_ble_eq_true rfl⟩ rfl rfl hl.1 (Nat.le_of_ble_eq_true rfl) dX11_image_1 ⟨Nat.le_of_ble_eq_true rfl, Nat.le_of_ble_eq_true rfl⟩) (fun v1 u H locs hz9 hH hS => ?_)
  obtain ⟨rfl, l_v1, u_v1, x_v10⟩ := hz9
  have hH : HT D cs A T O X H := hH
  refine W.widen (k := 0) (n := 0) (Nat.le_of_ble_eq_true rfl) (Nat.le_of_ble_eq_true rfl) ?_
  refine lv_if_ne (tgt := 10) hx hb dX11_image_4 (by decide) (fun c4 => ?_) (fun c4 => ?_)
  · skip
    have tc4 := f_ne (k := 0) (by decide) c4
    refine lv_aload_n hx hb dX11_image_10 rfl (lv_at hl 0 rfl) ?_
    refine t_get (ci := 11) (lst := ft11 w ch) (C := RX11) (F := TX11) (N := 20) hx hb hts uX11 hown hkb hH t_a0 (hO.no t_a0 (by decide)) (fun _ h9 => h9) rfl rfl 9 (by decide) rfl kw_369 (fun _ h9 => h9) dX11_image_11 (fun v9 h9 => ?_)
    obtain ⟨v11, rfl, t_v11⟩ := h9
    refine lv_iload_n hx hb dX11_image_14 rfl (lv_at hl 1 rfl) ?_
    refine lv_aload_n hx hb dX11_image_15 rfl (lv_at hl 0 rfl) ?_
    refine t_get (ci := 11) (lst := ft11 w ch) (C := RX11) (F := TX11) (N := 20) hx hb hts uX11 hown hkb hH t_a0 (hO.no t_a0 (by decide)) (fun _ h9 => h9) rfl rfl 3 (by decide) rfl kw_363 (fun _ h9 => h9) dX11_image_16 (fun v9 h9 => ?_)
    have h9 : v9 = .ref w := h9
    subst h9
    refine t_qst5 hx hb hkb hH hS t_v11 (hO.no t_v11 (by decide)) t_w (hO.no t_w.1 (by decide)) (by omega) (by omega) dX11_image_19 (fun H locs hH hS => ?_)
    refine lv_aload_n hx hb dX11_image_20 rfl (lv_at hl 0 rfl) ?_
    refine t_get (ci := 11) (lst := ft11 w ch) (C := RX11) (F := TX11) (N := 20) hx hb hts uX11 hown hkb hH t_a0 (hO.no t_a0 (by decide)) (fun _ h9 => h9) rfl rfl 10 (by decide) rfl kw_370 (fun _ h9 => h9) dX11_image_21 (fun v9 h9 => ?_)
    obtain ⟨v21, rfl, t_v21⟩ := h9
    refine lv_iload_n hx hb dX11_image_24 rfl (lv_at hl 1 rfl) ?_
    refine t_qld4 hx hb hkb hH t_v21 (hO.no t_v21 (by decide)) (by omega) (by omega) dX11_image_25 (fun v25 t_v25 => ?_)
    refine lv_aload_n hx hb dX11_image_26 rfl (lv_at hl 0 rfl) ?_
    refine t_get (ci := 11) (lst := ft11 w ch) (C := RX11) (F := TX11) (N := 20) hx hb hts uX11 hown hkb hH t_a0 (hO.no t_a0 (by decide)) (fun _ h9 => h9) rfl rfl 4 (by decide) rfl kw_364 (fun _ h9 => h9) dX11_image_27 (fun v9 h9 => ?_)
    obtain ⟨v27, rfl, t_v27⟩ := h9
    refine tk_v hH hS hA (tr_V (n := 1) (As := [.ref v27]) hx hb hml hown hts hkb hH hOX hks hE hS hA (s_State_take l D cs kf T O X v25 v27 t_v25 t_v27 (hO.sub (by decide))) kw_757 kw_758 kw_759 kw_7 kw_760 (by decide +kernel) ⟨Nat.le_of_ble_eq_true rfl, Nat.le_of_ble_eq_true rfl⟩ (HT.recv (ci := 6) hkb hH t_v25 (hO.no t_v25 (by decide)) rfl) rfl rfl hl.1 (Nat.le_of_ble_eq_true rfl) dX11_image_30 ⟨Nat.le_of_ble_eq_true rfl, Nat.le_of_ble_eq_true rfl⟩) (fun u H locs hz9 hH hS => ?_)
    have hz9 : u = (T, O, X) := hz9
    subst hz9
    have hH : HT D cs A T O X H := hH
    refine W.widen (k := 0) (n := 0) (Nat.le_of_ble_eq_true rfl) (Nat.le_of_ble_eq_true rfl) ?_
    refine lv_iconst (v := 0) hx hb dX11_image_33 (by decide) ?_
    exact te_i hx hb hr hlocks hH hS (⟨rfl, by decide, by decide⟩) dX11_image_34
  · skip
    have tc4 := f_eq (k := 0) (by decide) c4
    refine lv_bipush (v := (-2)) hx hb dX11_image_7 (by decide) ?_
    exact te_i hx hb hr hlocks hH hS (⟨rfl, by decide, by decide⟩) dX11_image_9
set_option maxHeartbeats 4000000 in
set_option maxRecDepth 100000 in
theorem s_FW_count (l : Launch) (D : va_G) (cs : CS) (kf : KF) (T : TF) (O : List Nat) (X : va_W) (a0 w hw gw ch gq : Nat) (x1 : Int32) (t_a0 : T a0 = some (21, w, ch)) (t_w : isW T w hw gw) (t_ch : T ch = some (10, gq, 0)) (hO : okO T O [1, 16, 19, 21]) : TK l D cs kf yX11_count cX11_count 2 (some (.int)) { frames := 4, cells := 0, slots := 0, locals := 85 } [.ref a0, .int x1] T O X (Ti D cs (fun r u => u = (T, O, X))) := by
  refine tk_of (by decide) (Nat.le_of_ble_eq_true rfl) (fun p e s m below meth c ls A H locs hx hb hr hml hown hts hlocks hnm hkb hH hS hA hOX hks hE hl => ?_)
  have hown : s.vm.findClass RX11 = some m.cls := hown
  have hl : lv_has ls 2 [(0, .ref a0), (1, .int x1)] := hl
  have b1_w := t_w.2.1
  have b2_w := t_w.2.2
  refine lv_iload_n hx hb dX11_count_0 rfl (lv_at hl 1 rfl) ?_
  by_cases c1_0 : x1 = 0
  · skip
    refine lv_topc c1_0 ?_
    have tc1_0 := f_eq (k := 0) (by decide) c1_0
    refine lv_tableIn (off := 55) (tgt := 56) hx hb dX11_count_1 (by decide) (by decide) (by decide) (by decide) ?_
    refine lv_aload_n hx hb dX11_count_56 rfl (lv_at hl 0 rfl) ?_
    refine t_get (ci := 11) (lst := ft11 w ch) (C := RX11) (F := TX11) (N := 20) hx hb hts uX11 hown hkb hH t_a0 (hO.no t_a0 (by decide)) (fun _ h9 => h9) rfl rfl 3 (by decide) rfl kw_363 (fun _ h9 => h9) dX11_count_57 (fun v9 h9 => ?_)
    have h9 : v9 = .ref w := h9
    subst h9
    refine t_get (ci := 9) (lst := ft9w hw gw) (C := RX9) (F := TX9) (N := 14) hx hb hts uX9 hown hkb hH t_w.1 (hO.no t_w.1 (by decide)) (fun fs => (ob9w t_w fs).mp) rfl rfl 0 (by decide) rfl kw_109 (fun _ h9 => h9) dX11_count_60 (fun v9 h9 => ?_)
    have h9 : v9 = .int (nI hw) := h9
    subst h9
    have e_hw : (nI hw).toInt = hw := nI_toInt (by have := t_w.2.1; omega)
    have b_hw := t_w.2.1
    exact te_i hx hb hr hlocks hH hS (rfl) dX11_count_63
  have tc1_0 := f_ne (k := 0) (by decide) c1_0
  by_cases c1_1 : x1 = 1
  · skip
    refine lv_topc c1_1 ?_
    have tc1_1 := f_eq (k := 1) (by decide) c1_1
    refine lv_tableIn (off := 63) (tgt := 64) hx hb dX11_count_1 (by decide) (by decide) (by decide) (by decide) ?_
    refine lv_aload_n hx hb dX11_count_64 rfl (lv_at hl 0 rfl) ?_
    refine t_get (ci := 11) (lst := ft11 w ch) (C := RX11) (F := TX11) (N := 20) hx hb hts uX11 hown hkb hH t_a0 (hO.no t_a0 (by decide)) (fun _ h9 => h9) rfl rfl 3 (by decide) rfl kw_363 (fun _ h9 => h9) dX11_count_65 (fun v9 h9 => ?_)
    have h9 : v9 = .ref w := h9
    subst h9
    refine t_get (ci := 9) (lst := ft9w hw gw) (C := RX9) (F := TX9) (N := 14) hx hb hts uX9 hown hkb hH t_w.1 (hO.no t_w.1 (by decide)) (fun fs => (ob9w t_w fs).mp) rfl rfl 1 (by decide) rfl kw_112 (fun _ h9 => h9) dX11_count_68 (fun v9 h9 => ?_)
    have h9 : v9 = .int (nI gw) := h9
    subst h9
    have e_gw : (nI gw).toInt = gw := nI_toInt (by have := t_w.2.2; omega)
    have b_gw := t_w.2.2
    exact te_i hx hb hr hlocks hH hS (rfl) dX11_count_71
  have tc1_1 := f_ne (k := 1) (by decide) c1_1
  by_cases c1_2 : x1 = 2
  · skip
    refine lv_topc c1_2 ?_
    have tc1_2 := f_eq (k := 2) (by decide) c1_2
    refine lv_tableIn (off := 71) (tgt := 72) hx hb dX11_count_1 (by decide) (by decide) (by decide) (by decide) ?_
    refine lv_aload_n hx hb dX11_count_72 rfl (lv_at hl 0 rfl) ?_
    refine t_get (ci := 11) (lst := ft11 w ch) (C := RX11) (F := TX11) (N := 20) hx hb hts uX11 hown hkb hH t_a0 (hO.no t_a0 (by decide)) (fun _ h9 => h9) rfl rfl 4 (by decide) rfl kw_364 (fun _ h9 => h9) dX11_count_73 (fun v9 h9 => ?_)
    obtain ⟨v73, rfl, t_v73⟩ := h9
    refine t_get (ci := 6) (lst := ft6 0 0) (C := RX6) (F := TX6) (N := 6) hx hb hts uX6 hown hkb hH t_v73 (hO.no t_v73 (by decide)) (fun _ h9 => h9) rfl rfl 2 (by decide) rfl kw_191 (fun _ h9 => h9) dX11_count_76 (fun v9 h9 => ?_)
    obtain ⟨v76, rfl⟩ := h9
    exact te_i hx hb hr hlocks hH hS (rfl) dX11_count_79
  have tc1_2 := f_ne (k := 2) (by decide) c1_2
  by_cases c1_3 : x1 = 3
  · skip
    refine lv_topc c1_3 ?_
    have tc1_3 := f_eq (k := 3) (by decide) c1_3
    refine lv_tableIn (off := 79) (tgt := 80) hx hb dX11_count_1 (by decide) (by decide) (by decide) (by decide) ?_
    refine lv_aload_n hx hb dX11_count_80 rfl (lv_at hl 0 rfl) ?_
    refine t_get (ci := 11) (lst := ft11 w ch) (C := RX11) (F := TX11) (N := 20) hx hb hts uX11 hown hkb hH t_a0 (hO.no t_a0 (by decide)) (fun _ h9 => h9) rfl rfl 4 (by decide) rfl kw_364 (fun _ h9 => h9) dX11_count_81 (fun v9 h9 => ?_)
    obtain ⟨v81, rfl, t_v81⟩ := h9
    refine t_get (ci := 6) (lst := ft6 0 0) (C := RX6) (F := TX6) (N := 6) hx hb hts uX6 hown hkb hH t_v81 (hO.no t_v81 (by decide)) (fun _ h9 => h9) rfl rfl 3 (by decide) rfl kw_193 (fun _ h9 => h9) dX11_count_84 (fun v9 h9 => ?_)
    obtain ⟨v84, rfl⟩ := h9
    exact te_i hx hb hr hlocks hH hS (rfl) dX11_count_87
  have tc1_3 := f_ne (k := 3) (by decide) c1_3
  by_cases c1_4 : x1 = 4
  · skip
    refine lv_topc c1_4 ?_
    have tc1_4 := f_eq (k := 4) (by decide) c1_4
    refine lv_tableIn (off := 87) (tgt := 88) hx hb dX11_count_1 (by decide) (by decide) (by decide) (by decide) ?_
    refine lv_aload_n hx hb dX11_count_88 rfl (lv_at hl 0 rfl) ?_
    refine t_get (ci := 11) (lst := ft11 w ch) (C := RX11) (F := TX11) (N := 20) hx hb hts uX11 hown hkb hH t_a0 (hO.no t_a0 (by decide)) (fun _ h9 => h9) rfl rfl 4 (by decide) rfl kw_364 (fun _ h9 => h9) dX11_count_89 (fun v9 h9 => ?_)
    obtain ⟨v89, rfl, t_v89⟩ := h9
    refine t_get (ci := 6) (lst := ft6 0 0) (C := RX6) (F := TX6) (N := 6) hx hb hts uX6 hown hkb hH t_v89 (hO.no t_v89 (by decide)) (fun _ h9 => h9) rfl rfl 0 (by decide) rfl kw_186 (fun _ h9 => h9) dX11_count_92 (fun v9 h9 => ?_)
    obtain ⟨v92, rfl⟩ := h9
    refine tk_i hH hS hA (tr_S (n := 1) (As := [.int v92]) hx hb hml hown hts hkb hH hOX hks hE hS hA (s_bitCount l D cs kf T O X v92  (hO.sub (by decide))) kw_893 kw_692 kw_20 kw_693 (by decide +kernel) ⟨Nat.le_of_ble_eq_true rfl, Nat.le_of_ble_eq_true rfl⟩ rfl rfl hl.1 (Nat.le_of_ble_eq_true rfl) dX11_count_95 ⟨Nat.le_of_ble_eq_true rfl, Nat.le_of_ble_eq_true rfl⟩) (fun v95 u H locs hz9 hH hS => ?_)
    obtain ⟨rfl, l_v95, u_v95⟩ := hz9
    have hH : HT D cs A T O X H := hH
    refine W.widen (k := 0) (n := 0) (Nat.le_of_ble_eq_true rfl) (Nat.le_of_ble_eq_true rfl) ?_
    exact te_i hx hb hr hlocks hH hS (rfl) dX11_count_98
  have tc1_4 := f_ne (k := 4) (by decide) c1_4
  by_cases c1_5 : x1 = 5
  · skip
    refine lv_topc c1_5 ?_
    have tc1_5 := f_eq (k := 5) (by decide) c1_5
    refine lv_tableIn (off := 98) (tgt := 99) hx hb dX11_count_1 (by decide) (by decide) (by decide) (by decide) ?_
    refine lv_aload_n hx hb dX11_count_99 rfl (lv_at hl 0 rfl) ?_
    refine tk_i hH hS hA (tr_V (n := 0) (As := []) hx hb hml hown hts hkb hH hOX hks hE hS hA (s_FW_openNow l D cs kf T O X a0 w hw gw ch gq t_a0 t_w t_ch (hO.sub (by decide))) kw_846 kw_848 ks_22 kw_1 kw_849 (by decide +kernel) ⟨Nat.le_of_ble_eq_true rfl, Nat.le_of_ble_eq_true rfl⟩ (HT.recv (ci := 11) hkb hH t_a0 (hO.no t_a0 (by decide)) rfl) rfl rfl hl.1 (Nat.le_of_ble_eq_true rfl) dX11_count_100 ⟨Nat.le_of_ble_eq_true rfl, Nat.le_of_ble_eq_true rfl⟩) (fun v100 u H locs hz9 hH hS => ?_)
    obtain ⟨rfl, l_v100, u_v100⟩ := hz9
    have hH : HT D cs A T O X H := hH
    refine W.widen (k := 0) (n := 0) (Nat.le_of_ble_eq_true rfl) (Nat.le_of_ble_eq_true rfl) ?_
    refine tk_i hH hS hA (tr_S (n := 1) (As := [.int v100]) hx hb hml hown hts hkb hH hOX hks hE hS hA (s_bitCount l D cs kf T O X v100  (hO.sub (by decide))) kw_893 kw_692 kw_20 kw_693 (by decide +kernel) ⟨Nat.le_of_ble_eq_true rfl, Nat.le_of_ble_eq_true rfl⟩ rfl rfl hl.1 (Nat.le_of_ble_eq_true rfl) dX11_count_103 ⟨Nat.le_of_ble_eq_true rfl, Nat.le_of_ble_eq_true rfl⟩) (fun v103 u H locs hz9 hH hS => ?_)
    obtain ⟨rfl, l_v103, u_v103⟩ := hz9
    have hH : HT D cs A T O X H := hH
    refine W.widen (k := 0) (n := 0) (Nat.le_of_ble_eq_true rfl) (Nat.le_of_ble_eq_true rfl) ?_
    exact te_i hx hb hr hlocks hH hS (rfl) dX11_count_106
  have tc1_5 := f_ne (k := 5) (by decide) c1_5
  by_cases c1_6 : x1 = 6
  · skip
    refine lv_topc c1_6 ?_
    have tc1_6 := f_eq (k := 6) (by decide) c1_6
    refine lv_tableIn (off := 106) (tgt := 107) hx hb dX11_count_1 (by decide) (by decide) (by decide) (by decide) ?_
    refine lv_aload_n hx hb dX11_count_107 rfl (lv_at hl 0 rfl) ?_
    refine t_get (ci := 11) (lst := ft11 w ch) (C := RX11) (F := TX11) (N := 20) hx hb hts uX11 hown hkb hH t_a0 (hO.no t_a0 (by decide)) (fun _ h9 => h9) rfl rfl 7 (by decide) rfl kw_367 (fun _ h9 => h9) dX11_count_108 (fun v9 h9 => ?_)
    obtain ⟨v108, rfl, l_v108, u_v108⟩ := h9
    exact te_i hx hb hr hlocks hH hS (rfl) dX11_count_111
  have tc1_6 := f_ne (k := 6) (by decide) c1_6
  by_cases c1_7 : x1 = 7
  · skip
    refine lv_topc c1_7 ?_
    have tc1_7 := f_eq (k := 7) (by decide) c1_7
    refine lv_tableIn (off := 111) (tgt := 112) hx hb dX11_count_1 (by decide) (by decide) (by decide) (by decide) ?_
    refine lv_aload_n hx hb dX11_count_112 rfl (lv_at hl 0 rfl) ?_
    refine t_get (ci := 11) (lst := ft11 w ch) (C := RX11) (F := TX11) (N := 20) hx hb hts uX11 hown hkb hH t_a0 (hO.no t_a0 (by decide)) (fun _ h9 => h9) rfl rfl 1 (by decide) rfl kw_361 (fun _ h9 => h9) dX11_count_113 (fun v9 h9 => ?_)
    obtain ⟨v113, rfl, l_v113, u_v113, gt_v113⟩ := h9
    have eg_v113 : v113.toInt = (gq : Int) := by have q9 := tl_eq gt_v113 t_ch; omega
    exact te_i hx hb hr hlocks hH hS (rfl) dX11_count_116
  have tc1_7 := f_ne (k := 7) (by decide) c1_7
  by_cases c1_8 : x1 = 8
  · skip
    refine lv_topc c1_8 ?_
    have tc1_8 := f_eq (k := 8) (by decide) c1_8
    refine lv_tableIn (off := 116) (tgt := 117) hx hb dX11_count_1 (by decide) (by decide) (by decide) (by decide) ?_
    refine lv_aload_n hx hb dX11_count_117 rfl (lv_at hl 0 rfl) ?_
    refine t_get (ci := 11) (lst := ft11 w ch) (C := RX11) (F := TX11) (N := 20) hx hb hts uX11 hown hkb hH t_a0 (hO.no t_a0 (by decide)) (fun _ h9 => h9) rfl rfl 3 (by decide) rfl kw_363 (fun _ h9 => h9) dX11_count_118 (fun v9 h9 => ?_)
    have h9 : v9 = .ref w := h9
    subst h9
    refine t_get (ci := 9) (lst := ft9w hw gw) (C := RX9) (F := TX9) (N := 14) hx hb hts uX9 hown hkb hH t_w.1 (hO.no t_w.1 (by decide)) (fun fs => (ob9w t_w fs).mp) rfl rfl 2 (by decide) rfl kw_115 (fun _ h9 => h9) dX11_count_121 (fun v9 h9 => ?_)
    obtain ⟨v121, rfl⟩ := h9
    exact te_i hx hb hr hlocks hH hS (rfl) dX11_count_124
  have tc1_8 := f_ne (k := 8) (by decide) c1_8
  by_cases c1_9 : x1 = 9
  · skip
    refine lv_topc c1_9 ?_
    have tc1_9 := f_eq (k := 9) (by decide) c1_9
    refine lv_tableIn (off := 124) (tgt := 125) hx hb dX11_count_1 (by decide) (by decide) (by decide) (by decide) ?_
    refine lv_aload_n hx hb dX11_count_125 rfl (lv_at hl 0 rfl) ?_
    refine t_get (ci := 11) (lst := ft11 w ch) (C := RX11) (F := TX11) (N := 20) hx hb hts uX11 hown hkb hH t_a0 (hO.no t_a0 (by decide)) (fun _ h9 => h9) rfl rfl 4 (by decide) rfl kw_364 (fun _ h9 => h9) dX11_count_126 (fun v9 h9 => ?_)
    obtain ⟨v126, rfl, t_v126⟩ := h9
    refine t_get (ci := 6) (lst := ft6 0 0) (C := RX6) (F := TX6) (N := 6) hx hb hts uX6 hown hkb hH t_v126 (hO.no t_v126 (by decide)) (fun _ h9 => h9) rfl rfl 1 (by decide) rfl kw_188 (fun _ h9 => h9) dX11_count_129 (fun v9 h9 => ?_)
    obtain ⟨v129, rfl⟩ := h9
    refine tk_i hH hS hA (tr_S (n := 1) (As := [.int v129]) hx hb hml hown hts hkb hH hOX hks hE hS hA (s_bitCount l D cs kf T O X v129  (hO.sub (by decide))) kw_893 kw_692 kw_20 kw_693 (by decide +kernel) ⟨Nat.le_of_ble_eq_true rfl, Nat.le_of_ble_eq_true rfl⟩ rfl rfl hl.1 (Nat.le_of_ble_eq_true rfl) dX11_count_132 ⟨Nat.le_of_ble_eq_true rfl, Nat.le_of_ble_eq_true rfl⟩) (fun v132 u H locs hz9 hH hS => ?_)
    obtain ⟨rfl, l_v132, u_v132⟩ := hz9
    have hH : HT D cs A T O X H := hH
    refine W.widen (k := 0) (n := 0) (Nat.le_of_ble_eq_true rfl) (Nat.le_of_ble_eq_true rfl) ?_
    exact te_i hx hb hr hlocks hH hS (rfl) dX11_count_135
  have tc1_9 := f_ne (k := 9) (by decide) c1_9
  refine lv_tableOut (tgt := 136) hx hb dX11_count_1 (by omega) (by decide) ?_
  refine lv_iconst (v := (-1)) hx hb dX11_count_136 (by decide) ?_
  exact te_i hx hb hr hlocks hH hS (rfl) dX11_count_137
theorem dX10_climbsUpTo_0 : decode cX10_climbsUpTo 0 = .ok (.iload_n 2, 1) := by decide +kernel
theorem dX10_climbsUpTo_1 : decode cX10_climbsUpTo 1 = .ok (.aload_n 1, 1) := by decide +kernel
theorem dX10_climbsUpTo_2 : decode cX10_climbsUpTo 2 = .ok (.getfield 55, 3) := by decide +kernel
theorem dX10_climbsUpTo_5 : decode cX10_climbsUpTo 5 = .ok (.getfield 64, 3) := by decide +kernel
theorem dX10_climbsUpTo_8 : decode cX10_climbsUpTo 8 = .ok (.iand, 1) := by decide +kernel
theorem dX10_climbsUpTo_9 : decode cX10_climbsUpTo 9 = .ok (.istore 4, 2) := by decide +kernel
theorem dX10_climbsUpTo_11 : decode cX10_climbsUpTo 11 = .ok (.iload_n 2, 1) := by decide +kernel
theorem dX10_climbsUpTo_12 : decode cX10_climbsUpTo 12 = .ok (.aload_n 1, 1) := by decide +kernel
theorem dX10_climbsUpTo_13 : decode cX10_climbsUpTo 13 = .ok (.getfield 55, 3) := by decide +kernel
theorem dX10_climbsUpTo_16 : decode cX10_climbsUpTo 16 = .ok (.getfield 59, 3) := by decide +kernel
theorem dX10_climbsUpTo_19 : decode cX10_climbsUpTo 19 = .ok (.iand, 1) := by decide +kernel
theorem dX10_climbsUpTo_20 : decode cX10_climbsUpTo 20 = .ok (.istore 5, 2) := by decide +kernel
theorem dX10_climbsUpTo_22 : decode cX10_climbsUpTo 22 = .ok (.iload_n 2, 1) := by decide +kernel
theorem dX10_climbsUpTo_23 : decode cX10_climbsUpTo 23 = .ok (.iload 4, 2) := by decide +kernel
theorem dX10_climbsUpTo_25 : decode cX10_climbsUpTo 25 = .ok (.iconst (-1), 1) := by decide +kernel
theorem dX10_climbsUpTo_26 : decode cX10_climbsUpTo 26 = .ok (.ixor, 1) := by decide +kernel
theorem dX10_climbsUpTo_27 : decode cX10_climbsUpTo 27 = .ok (.iand, 1) := by decide +kernel
theorem dX10_climbsUpTo_28 : decode cX10_climbsUpTo 28 = .ok (.istore 6, 2) := by decide +kernel
theorem dX10_climbsUpTo_30 : decode cX10_climbsUpTo 30 = .ok (.aload_n 0, 1) := by decide +kernel
theorem dX10_climbsUpTo_31 : decode cX10_climbsUpTo 31 = .ok (.iconst 0, 1) := by decide +kernel
theorem dX10_climbsUpTo_32 : decode cX10_climbsUpTo 32 = .ok (.putfield 32, 3) := by decide +kernel
theorem dX10_climbsUpTo_35 : decode cX10_climbsUpTo 35 = .ok (.iconst 0, 1) := by decide +kernel
theorem dX10_climbsUpTo_36 : decode cX10_climbsUpTo 36 = .ok (.istore 7, 2) := by decide +kernel
theorem dX10_climbsUpTo_38 : decode cX10_climbsUpTo 38 = .ok (.iload 7, 2) := by decide +kernel
theorem dX10_climbsUpTo_40 : decode cX10_climbsUpTo 40 = .ok (.bipush 14, 2) := by decide +kernel
theorem dX10_climbsUpTo_42 : decode cX10_climbsUpTo 42 = .ok (.if_icmp .ge 46, 3) := by decide +kernel
theorem dX10_climbsUpTo_45 : decode cX10_climbsUpTo 45 = .ok (.iload 4, 2) := by decide +kernel
theorem dX10_climbsUpTo_47 : decode cX10_climbsUpTo 47 = .ok (.iload 7, 2) := by decide +kernel
theorem dX10_climbsUpTo_49 : decode cX10_climbsUpTo 49 = .ok (.ishr, 1) := by decide +kernel
theorem dX10_climbsUpTo_50 : decode cX10_climbsUpTo 50 = .ok (.iconst 1, 1) := by decide +kernel
theorem dX10_climbsUpTo_51 : decode cX10_climbsUpTo 51 = .ok (.iand, 1) := by decide +kernel
theorem dX10_climbsUpTo_52 : decode cX10_climbsUpTo 52 = .ok (.ifCond .eq 30, 3) := by decide +kernel
theorem dX10_climbsUpTo_55 : decode cX10_climbsUpTo 55 = .ok (.aload_n 0, 1) := by decide +kernel
theorem dX10_climbsUpTo_56 : decode cX10_climbsUpTo 56 = .ok (.getfield 29, 3) := by decide +kernel
theorem dX10_climbsUpTo_59 : decode cX10_climbsUpTo 59 = .ok (.aload_n 0, 1) := by decide +kernel
theorem dX10_climbsUpTo_60 : decode cX10_climbsUpTo 60 = .ok (.getfield 32, 3) := by decide +kernel
theorem dX10_climbsUpTo_63 : decode cX10_climbsUpTo 63 = .ok (.aload_n 1, 1) := by decide +kernel
theorem dX10_climbsUpTo_64 : decode cX10_climbsUpTo 64 = .ok (.iload 6, 2) := by decide +kernel
theorem dX10_climbsUpTo_66 : decode cX10_climbsUpTo 66 = .ok (.iload 7, 2) := by decide +kernel
theorem dX10_climbsUpTo_68 : decode cX10_climbsUpTo 68 = .ok (.invokestatic 81, 3) := by decide +kernel
theorem dX10_climbsUpTo_71 : decode cX10_climbsUpTo 71 = .ok (.iastore, 1) := by decide +kernel
theorem dX10_climbsUpTo_72 : decode cX10_climbsUpTo 72 = .ok (.aload_n 0, 1) := by decide +kernel
theorem dX10_climbsUpTo_73 : decode cX10_climbsUpTo 73 = .ok (.dup, 1) := by decide +kernel
theorem dX10_climbsUpTo_74 : decode cX10_climbsUpTo 74 = .ok (.getfield 32, 3) := by decide +kernel
theorem dX10_climbsUpTo_77 : decode cX10_climbsUpTo 77 = .ok (.iconst 1, 1) := by decide +kernel
theorem dX10_climbsUpTo_78 : decode cX10_climbsUpTo 78 = .ok (.iadd, 1) := by decide +kernel
theorem dX10_climbsUpTo_79 : decode cX10_climbsUpTo 79 = .ok (.putfield 32, 3) := by decide +kernel
theorem dX10_climbsUpTo_82 : decode cX10_climbsUpTo 82 = .ok (.iinc 7 1, 3) := by decide +kernel
theorem dX10_climbsUpTo_85 : decode cX10_climbsUpTo 85 = .ok (.goto (-47), 3) := by decide +kernel
theorem dX10_climbsUpTo_88 : decode cX10_climbsUpTo 88 = .ok (.iload 5, 2) := by decide +kernel
theorem dX10_climbsUpTo_90 : decode cX10_climbsUpTo 90 = .ok (.iload 4, 2) := by decide +kernel
theorem dX10_climbsUpTo_92 : decode cX10_climbsUpTo 92 = .ok (.iand, 1) := by decide +kernel
theorem dX10_climbsUpTo_93 : decode cX10_climbsUpTo 93 = .ok (.invokestatic 85, 3) := by decide +kernel
theorem dX10_climbsUpTo_96 : decode cX10_climbsUpTo 96 = .ok (.i2l, 1) := by decide +kernel
theorem dX10_climbsUpTo_97 : decode cX10_climbsUpTo 97 = .ok (.lstore 7, 2) := by decide +kernel
theorem dX10_climbsUpTo_99 : decode cX10_climbsUpTo 99 = .ok (.iconst 0, 1) := by decide +kernel
theorem dX10_climbsUpTo_100 : decode cX10_climbsUpTo 100 = .ok (.istore 9, 2) := by decide +kernel
theorem dX10_climbsUpTo_102 : decode cX10_climbsUpTo 102 = .ok (.iload 9, 2) := by decide +kernel
theorem dX10_climbsUpTo_104 : decode cX10_climbsUpTo 104 = .ok (.bipush 14, 2) := by decide +kernel
theorem dX10_climbsUpTo_106 : decode cX10_climbsUpTo 106 = .ok (.if_icmp .ge 46, 3) := by decide +kernel
theorem dX10_climbsUpTo_109 : decode cX10_climbsUpTo 109 = .ok (.iload 5, 2) := by decide +kernel
theorem dX10_climbsUpTo_111 : decode cX10_climbsUpTo 111 = .ok (.iload 6, 2) := by decide +kernel
theorem dX10_climbsUpTo_113 : decode cX10_climbsUpTo 113 = .ok (.iand, 1) := by decide +kernel
theorem dX10_climbsUpTo_114 : decode cX10_climbsUpTo 114 = .ok (.iload 9, 2) := by decide +kernel
theorem dX10_climbsUpTo_116 : decode cX10_climbsUpTo 116 = .ok (.ishr, 1) := by decide +kernel
theorem dX10_climbsUpTo_117 : decode cX10_climbsUpTo 117 = .ok (.iconst 1, 1) := by decide +kernel
theorem dX10_climbsUpTo_118 : decode cX10_climbsUpTo 118 = .ok (.iand, 1) := by decide +kernel
theorem dX10_climbsUpTo_119 : decode cX10_climbsUpTo 119 = .ok (.ifCond .eq 27, 3) := by decide +kernel
theorem dX10_climbsUpTo_122 : decode cX10_climbsUpTo 122 = .ok (.lload 7, 2) := by decide +kernel
theorem dX10_climbsUpTo_124 : decode cX10_climbsUpTo 124 = .ok (.aload_n 0, 1) := by decide +kernel
theorem dX10_climbsUpTo_125 : decode cX10_climbsUpTo 125 = .ok (.aload_n 1, 1) := by decide +kernel
theorem dX10_climbsUpTo_126 : decode cX10_climbsUpTo 126 = .ok (.iload 9, 2) := by decide +kernel
theorem dX10_climbsUpTo_128 : decode cX10_climbsUpTo 128 = .ok (.iload 6, 2) := by decide +kernel
theorem dX10_climbsUpTo_130 : decode cX10_climbsUpTo 130 = .ok (.iconst 1, 1) := by decide +kernel
theorem dX10_climbsUpTo_131 : decode cX10_climbsUpTo 131 = .ok (.iload 9, 2) := by decide +kernel
theorem dX10_climbsUpTo_133 : decode cX10_climbsUpTo 133 = .ok (.ishl, 1) := by decide +kernel
theorem dX10_climbsUpTo_134 : decode cX10_climbsUpTo 134 = .ok (.iconst (-1), 1) := by decide +kernel
theorem dX10_climbsUpTo_135 : decode cX10_climbsUpTo 135 = .ok (.ixor, 1) := by decide +kernel
theorem dX10_climbsUpTo_136 : decode cX10_climbsUpTo 136 = .ok (.iand, 1) := by decide +kernel
theorem dX10_climbsUpTo_137 : decode cX10_climbsUpTo 137 = .ok (.iload_n 3, 1) := by decide +kernel
theorem dX10_climbsUpTo_138 : decode cX10_climbsUpTo 138 = .ok (.iconst 1, 1) := by decide +kernel
theorem dX10_climbsUpTo_139 : decode cX10_climbsUpTo 139 = .ok (.isub, 1) := by decide +kernel
theorem dX10_climbsUpTo_140 : decode cX10_climbsUpTo 140 = .ok (.invokevirtual 88, 3) := by decide +kernel
theorem dX10_climbsUpTo_143 : decode cX10_climbsUpTo 143 = .ok (.ladd, 1) := by decide +kernel
theorem dX10_climbsUpTo_144 : decode cX10_climbsUpTo 144 = .ok (.lstore 7, 2) := by decide +kernel
theorem dX10_climbsUpTo_146 : decode cX10_climbsUpTo 146 = .ok (.iinc 9 1, 3) := by decide +kernel
theorem dX10_climbsUpTo_149 : decode cX10_climbsUpTo 149 = .ok (.goto (-47), 3) := by decide +kernel
theorem dX10_climbsUpTo_152 : decode cX10_climbsUpTo 152 = .ok (.lload 7, 2) := by decide +kernel
theorem dX10_climbsUpTo_154 : decode cX10_climbsUpTo 154 = .ok (.lreturn, 1) := by decide +kernel
theorem dX11_climbs_0 : decode cX11_climbs 0 = .ok (.aload_n 0, 1) := by decide +kernel
theorem dX11_climbs_1 : decode cX11_climbs 1 = .ok (.iload_n 1, 1) := by decide +kernel
theorem dX11_climbs_2 : decode cX11_climbs 2 = .ok (.invokevirtual 186, 3) := by decide +kernel
theorem dX11_climbs_5 : decode cX11_climbs 5 = .ok (.ifCond .ne 7, 3) := by decide +kernel
theorem dX11_climbs_8 : decode cX11_climbs 8 = .ok (.ldc2_w 314, 3) := by decide +kernel
theorem dX11_climbs_11 : decode cX11_climbs 11 = .ok (.lreturn, 1) := by decide +kernel
theorem dX11_climbs_12 : decode cX11_climbs 12 = .ok (.iload_n 2, 1) := by decide +kernel
theorem dX11_climbs_13 : decode cX11_climbs 13 = .ok (.iconst 1, 1) := by decide +kernel
theorem dX11_climbs_14 : decode cX11_climbs 14 = .ok (.if_icmp .lt 9, 3) := by decide +kernel
theorem dX11_climbs_17 : decode cX11_climbs 17 = .ok (.iload_n 2, 1) := by decide +kernel
theorem dX11_climbs_18 : decode cX11_climbs 18 = .ok (.bipush 7, 2) := by decide +kernel
theorem dX11_climbs_20 : decode cX11_climbs 20 = .ok (.if_icmp .le 7, 3) := by decide +kernel
theorem dX11_climbs_23 : decode cX11_climbs 23 = .ok (.ldc2_w 316, 3) := by decide +kernel
theorem dX11_climbs_26 : decode cX11_climbs 26 = .ok (.lreturn, 1) := by decide +kernel
theorem dX11_climbs_27 : decode cX11_climbs 27 = .ok (.aload_n 0, 1) := by decide +kernel
theorem dX11_climbs_28 : decode cX11_climbs 28 = .ok (.getfield 82, 3) := by decide +kernel
theorem dX11_climbs_31 : decode cX11_climbs 31 = .ok (.aload_n 0, 1) := by decide +kernel
theorem dX11_climbs_32 : decode cX11_climbs 32 = .ok (.iload_n 1, 1) := by decide +kernel
theorem dX11_climbs_33 : decode cX11_climbs 33 = .ok (.invokevirtual 202, 3) := by decide +kernel
theorem dX11_climbs_36 : decode cX11_climbs 36 = .ok (.aload_n 0, 1) := by decide +kernel
theorem dX11_climbs_37 : decode cX11_climbs 37 = .ok (.invokevirtual 206, 3) := by decide +kernel
theorem dX11_climbs_40 : decode cX11_climbs 40 = .ok (.iload_n 2, 1) := by decide +kernel
theorem dX11_climbs_41 : decode cX11_climbs 41 = .ok (.invokevirtual 318, 3) := by decide +kernel
theorem dX11_climbs_44 : decode cX11_climbs 44 = .ok (.lreturn, 1) := by decide +kernel
theorem kw_993 : Cond.constantLong "FootholdWall" 316 (-3) ∈ gw := gw_of (tb_of 993 (by decide +kernel)) (by decide +kernel)
theorem kw_994 : Cond.methodLink "FootholdWall" 318 yX10_climbsUpTo ∈ gw := gw_of (tb_of 994 (by decide +kernel)) (by decide +kernel)
theorem kw_995 : Cond.instanceMethod yX10_climbsUpTo ∈ gw := gw_of (tb_of 995 (by decide +kernel)) (by decide +kernel)
theorem kw_996 : Cond.selects "FootholdWall$Ways" yX10_climbsUpTo yX10_climbsUpTo ∈ gw := gw_of (tb_of 996 (by decide +kernel)) (by decide +kernel)
theorem kw_997 : Cond.code yX10_climbsUpTo cX10_climbsUpTo 10 (some (.long)) ∈ gw := gw_of (tb_of 997 (by decide +kernel)) (by decide +kernel)
theorem kw_998 : Cond.methodLink "FootholdWall$Ways" 81 yX10_leadingTo ∈ gw := gw_of (tb_of 998 (by decide +kernel)) (by decide +kernel)
theorem kw_999 : Cond.static yX10_leadingTo ∈ gw := gw_of (tb_of 999 (by decide +kernel)) (by decide +kernel)
theorem kw_1000 : Cond.code yX10_leadingTo cX10_leadingTo 5 (some (.int)) ∈ gw := gw_of (tb_of 1000 (by decide +kernel)) (by decide +kernel)
set_option maxHeartbeats 4000000 in
set_option maxRecDepth 100000 in
theorem s_Ways_climbsUpTo (l : Launch) (D : va_G) (cs : CS) (kf : KF) (T : TF) (O : List Nat) (X : va_W) (a0 : Nat) (a1 : Nat) (x2 : Int32) (x3 : Int32) (t_a0 : T a0 = some (20, 0, 0)) (t_a1 : T a1 = some (15, 0, 0)) (l_x3 : 1 ≤ x3.toInt) (u_x3 : x3.toInt ≤ 7) (hO : okO T O [1, 12, 15, 19, 20]) : TK l D cs kf yX10_climbsUpTo cX10_climbsUpTo 10 (some (.long)) { frames := 9, cells := 0, slots := 0, locals := 241 } [.ref a0, .ref a1, .int x2, .int x3] T O X (Tl D cs (fun _ u => u = (T, O, X))) := by
  refine tk_of (by decide) (Nat.le_of_ble_eq_true rfl) (fun p e s m below meth c ls A H locs hx hb hr hml hown hts hlocks hnm hkb hH hS hA hOX hks hE hl => ?_)
  have hown : s.vm.findClass RX10 = some m.cls := hown
  have hl : lv_has ls 10 [(0, .ref a0), (1, .ref a1), (2, .int x2), (3, .int x3)] := hl
  have hO0 := hO
  obtain ⟨fs9, ho9, hH⟩ := hH.take t_a0 (hO0.no t_a0 (by decide))
  have hp0 : okL T (ft10 0 0) fs9 := ho9
  clear ho9
  obtain ⟨v9, fs9, rfl, h9, hp1⟩ := okL_i hp0
  obtain ⟨q0_0, rfl, t_q0_0⟩ := h9
  obtain ⟨v9, fs9, rfl, h9, hp2⟩ := okL_i hp1
  obtain ⟨q0_1, rfl, t_q0_1⟩ := h9
  obtain ⟨v9, fs9, rfl, h9, hp3⟩ := okL_i hp2
  obtain ⟨q0_2, rfl, l_q0_2, u_q0_2⟩ := h9
  obtain ⟨v9, fs9, rfl, h9, hp4⟩ := okL_i hp3
  obtain ⟨q0_3, rfl, t_q0_3⟩ := h9
  obtain ⟨v9, fs9, rfl, h9, hp5⟩ := okL_i hp4
  obtain ⟨q0_4, rfl, t_q0_4⟩ := h9
  obtain ⟨v9, fs9, rfl, h9, hp6⟩ := okL_i hp5
  obtain ⟨q0_5, rfl, t_q0_5⟩ := h9
  obtain ⟨v9, fs9, rfl, h9, hp7⟩ := okL_i hp6
  obtain ⟨q0_6, rfl, l_q0_6, u_q0_6⟩ := h9
  have hpz := okL_z hp7
  subst hpz
  have hH : HT D cs A T (a0 :: O) ((a0, .inr (10, [.ref q0_0, .ref q0_1, .int q0_2, .ref q0_3, .ref q0_4, .ref q0_5, .int q0_6])) :: X) H := hH
  have hO : okO T (a0 :: O) [1, 12, 15, 19] := okO.cons (hO0.sub (by decide)) t_a0 (by decide)
  refine lv_iload_n hx hb dX10_climbsUpTo_0 rfl (lv_at hl 2 rfl) ?_
  refine lv_aload_n hx hb dX10_climbsUpTo_1 rfl (lv_at hl 1 rfl) ?_
  refine t_get (ci := 5) (lst := ft5 0 0) (C := RX5) (F := TX5) (N := 6) hx hb hts uX5 hown hkb hH t_a1 (hO.no t_a1 (by decide)) (fun _ h9 => h9) rfl rfl 0 (by decide) rfl kw_246 (fun _ h9 => h9) dX10_climbsUpTo_2 (fun v9 h9 => ?_)
  obtain ⟨v2, hv2, gv2, rfl, t_v2⟩ := h9
  refine t_get (ci := 9) (lst := ft9w hv2 gv2) (C := RX9) (F := TX9) (N := 14) hx hb hts uX9 hown hkb hH t_v2.1 (hO.no t_v2.1 (by decide)) (fun fs => (ob9w t_v2 fs).mp) rfl rfl 4 (by decide) rfl kw_126 (fun _ h9 => h9) dX10_climbsUpTo_5 (fun v9 h9 => ?_)
  obtain ⟨v5, rfl, l_v5, u_v5⟩ := h9
  refine lv_iand hx hb dX10_climbsUpTo_8 ?_
  refine lv_topi (fun v8 ev8 => ?_)
  have tv8 : 0 ≤ v8.toInt ∧ v8.toInt ≤ v5.toInt := by rw [ev8]; exact and_r (by omega)
  refine lv_istore (lv' := [(4, .int v8), (0, .ref a0), (1, .ref a1), (2, .int x2), (3, .int x3)]) hx hb dX10_climbsUpTo_9 hl (by decide) rfl (fun ls hl => ?_)
  refine lv_iload_n hx hb dX10_climbsUpTo_11 rfl (lv_at hl 3 rfl) ?_
  refine lv_aload_n hx hb dX10_climbsUpTo_12 rfl (lv_at hl 2 rfl) ?_
  refine t_get (ci := 5) (lst := ft5 0 0) (C := RX5) (F := TX5) (N := 6) hx hb hts uX5 hown hkb hH t_a1 (hO.no t_a1 (by decide)) (fun _ h9 => h9) rfl rfl 0 (by decide) rfl kw_246 (fun _ h9 => h9) dX10_climbsUpTo_13 (fun v9 h9 => ?_)
  obtain ⟨v13, hv13, gv13, rfl, t_v13⟩ := h9
  refine t_get (ci := 9) (lst := ft9w hv13 gv13) (C := RX9) (F := TX9) (N := 14) hx hb hts uX9 hown hkb hH t_v13.1 (hO.no t_v13.1 (by decide)) (fun fs => (ob9w t_v13 fs).mp) rfl rfl 3 (by decide) rfl kw_118 (fun _ h9 => h9) dX10_climbsUpTo_16 (fun v9 h9 => ?_)
  obtain ⟨v16, rfl, l_v16, u_v16⟩ := h9
  refine lv_iand hx hb dX10_climbsUpTo_19 ?_
  refine lv_topi (fun v19 ev19 => ?_)
  have tv19 : 0 ≤ v19.toInt ∧ v19.toInt ≤ v16.toInt := by rw [ev19]; exact and_r (by omega)
  refine lv_istore (lv' := [(5, .int v19), (4, .int v8), (0, .ref a0), (1, .ref a1), (2, .int x2), (3, .int x3)]) hx hb dX10_climbsUpTo_20 hl (by decide) rfl (fun ls hl => ?_)
  refine lv_iload_n hx hb dX10_climbsUpTo_22 rfl (lv_at hl 4 rfl) ?_
  refine lv_iload hx hb dX10_climbsUpTo_23 (lv_at hl 1 rfl) ?_
  refine lv_iconst (v := (-1)) hx hb dX10_climbsUpTo_25 (by decide) ?_
  refine lv_ixor hx hb dX10_climbsUpTo_26 ?_
  refine lv_topi (fun v26 ev26 => ?_)
  refine lv_iand hx hb dX10_climbsUpTo_27 ?_
  refine lv_topi (fun v27 ev27 => ?_)
  refine lv_istore (lv' := [(6, .int v27), (5, .int v19), (4, .int v8), (0, .ref a0), (1, .ref a1), (2, .int x2), (3, .int x3)]) hx hb dX10_climbsUpTo_28 hl (by decide) rfl (fun ls hl => ?_)
  refine lv_aload_n hx hb dX10_climbsUpTo_30 rfl (lv_at hl 3 rfl) ?_
  refine lv_iconst (v := 0) hx hb dX10_climbsUpTo_31 (by decide) ?_
  refine x_put (ci := 10) (v := .int 0) (ty := tyX10 6) (C := RX10) (F := TX10) (N := 7) hx hb hts uX10 tyX10 tyX10_ok nmX10 hown hkb hH hS rfl 6 (by decide) kw_279 (fun _ h9 => h9) rfl (tyX10_ok 6 (by decide)) rfl rfl (Nat.le_of_ble_eq_true rfl) dX10_climbsUpTo_32 (fun H locs hH hS => ?_)
  have hH : HT D cs A T (a0 :: O) ((a0, .inr (10, [.ref q0_0, .ref q0_1, .int q0_2, .ref q0_3, .ref q0_4, .ref q0_5, .int 0])) :: X) H := hH
  refine lv_iconst (v := 0) hx hb dX10_climbsUpTo_35 (by decide) ?_
  have J38 : ∀ (n : Nat) (p38_7 : Int32) (f38_6 : Int32) (H : Heap) (locs : List Loc) (ls : Array Slot), (14 - p38_7.toInt).toNat = n → (0 ≤ p38_7.toInt) → (p38_7.toInt ≤ 14) → (0 ≤ f38_6.toInt) → (f38_6.toInt ≤ 14) → (f38_6.toInt ≤ p38_7.toInt) → HT D cs A T (a0 :: O) ((a0, .inr (10, [.ref q0_0, .ref q0_1, .int q0_2, .ref q0_3, .ref q0_4, .ref q0_5, .int f38_6])) :: X) H → va_S A s.heap H locs → lv_has ls 10 [(7, .int p38_7), (6, .int v27), (5, .int v19), (4, .int v8), (0, .ref a0), (1, .ref a1), (3, .int x3)] → W p l e { frames := 9, cells := 0, slots := 0, locals := 241 } s m [.ref a0, .ref a1, .int x2, .int x3].toArray below meth c H locs 0 0 (MQ below (Tl D cs (fun _ u => u = (T, O, X)) A) [.ref a0, .ref a1, .int x2, .int x3].toArray s 0 0 A) (F0 m 38 ls []) := by
    intro n
    induction n using Nat.strongRecOn with
    | _ n ih38 =>
      intro p38_7 f38_6 H locs ls hm38 l_p38_7 u_p38_7 l_f38_6 u_f38_6 i38 hH hS hl
      refine lv_iload hx hb dX10_climbsUpTo_38 (lv_at hl 0 rfl) ?_
      refine lv_bipush (v := 14) hx hb dX10_climbsUpTo_40 (by decide) ?_
      refine lv_icmp_ge (tgt := 88) hx hb dX10_climbsUpTo_42 (by decide) (fun c42 => ?_) (fun c42 => ?_)
      · skip
        have tc42 := f_ge (k := 14) (by decide) c42
        refine lv_iload hx hb dX10_climbsUpTo_88 (lv_at hl 2 rfl) ?_
        refine lv_iload hx hb dX10_climbsUpTo_90 (lv_at hl 3 rfl) ?_
        refine lv_iand hx hb dX10_climbsUpTo_92 ?_
        refine lv_topi (fun v92 ev92 => ?_)
        have tv92 : 0 ≤ v92.toInt ∧ v92.toInt ≤ v19.toInt := by rw [ev92]; exact and_l (by omega)
        have ttv92 : 0 ≤ v92.toInt ∧ v92.toInt ≤ v8.toInt := by rw [ev92]; exact and_r (by omega)
        refine tk_i hH hS hA (tr_S (n := 1) (As := [.int v92]) hx hb hml hown hts hkb hH (ox_c hOX) hks hE hS hA (s_bitCount l D cs kf T (a0 :: O) ((a0, .inr (10, [.ref q0_0, .ref q0_1, .int q0_2, .ref q0_3, .ref q0_4, .ref q0_5, .int f38_6])) :: X) v92  (hO.sub (by decide))) kw_1001 kw_692 kw_20 kw_693 (by decide +kernel) ⟨Nat.le_of_ble_eq_true rfl, Nat.le_of_ble_eq_true rfl⟩ rfl rfl hl.1 (Nat.le_of_ble_eq_true rfl) dX10_climbsUpTo_93 ⟨Nat.le_of_ble_eq_true rfl, Nat.le_of_ble_eq_true rfl⟩) (fun v93 u H locs hz9 hH hS => ?_)
        obtain ⟨rfl, l_v93, u_v93⟩ := hz9
        have hH : HT D cs A T (a0 :: O) ((a0, .inr (10, [.ref q0_0, .ref q0_1, .int q0_2, .ref q0_3, .ref q0_4, .ref q0_5, .int f38_6])) :: X) H := hH
        refine W.widen (k := 0) (n := 0) (Nat.le_of_ble_eq_true rfl) (Nat.le_of_ble_eq_true rfl) ?_
        refine lv_i2l hx hb dX10_climbsUpTo_96 rfl ?_
        refine lv_lstore (lv' := [(7, .long v93.toInt64), (6, .int v27), (5, .int v19), (4, .int v8), (0, .ref a0), (1, .ref a1), (3, .int x3)]) hx hb dX10_climbsUpTo_97 hl (by decide) rfl (fun ls hl => ?_)
        refine lv_iconst (v := 0) hx hb dX10_climbsUpTo_99 (by decide) ?_
        have J102 : ∀ (n : Nat) (p102_9 : Int32) (p102_7 : Int64) (f102_0 : Nat) (f102_1 : Nat) (f102_2 : Int32) (f102_3 : Nat) (f102_4 : Nat) (f102_5 : Nat) (f102_6 : Int32) (H : Heap) (locs : List Loc) (ls : Array Slot), (14 - p102_9.toInt).toNat = n → (T f102_0 = some (1, 14, 1)) → (T f102_1 = some (1, 14, 0)) → (T f102_3 = some (2, 14, 0)) → (T f102_4 = some (1, 14, 0)) → (T f102_5 = some (1, 14, 0)) → (0 ≤ p102_9.toInt) → (p102_9.toInt ≤ 14) → (0 ≤ f102_2.toInt) → (f102_2.toInt ≤ 14) → (0 ≤ f102_6.toInt) → (f102_6.toInt ≤ 14) → HT D cs A T (a0 :: O) ((a0, .inr (10, [.ref f102_0, .ref f102_1, .int f102_2, .ref f102_3, .ref f102_4, .ref f102_5, .int f102_6])) :: X) H → va_S A s.heap H locs → lv_has ls 10 [(9, .int p102_9), (7, .long p102_7), (6, .int v27), (5, .int v19), (0, .ref a0), (1, .ref a1), (3, .int x3)] → W p l e { frames := 9, cells := 0, slots := 0, locals := 241 } s m [.ref a0, .ref a1, .int x2, .int x3].toArray below meth c H locs 0 0 (MQ below (Tl D cs (fun _ u => u = (T, O, X)) A) [.ref a0, .ref a1, .int x2, .int x3].toArray s 0 0 A) (F0 m 102 ls []) := by
          intro n
          induction n using Nat.strongRecOn with
          | _ n ih102 =>
            intro p102_9 p102_7 f102_0 f102_1 f102_2 f102_3 f102_4 f102_5 f102_6 H locs ls hm102 t_f102_0 t_f102_1 t_f102_3 t_f102_4 t_f102_5 l_p102_9 u_p102_9 l_f102_2 u_f102_2 l_f102_6 u_f102_6 hH hS hl
            refine lv_iload hx hb dX10_climbsUpTo_102 (lv_at hl 0 rfl) ?_
            refine lv_bipush (v := 14) hx hb dX10_climbsUpTo_104 (by decide) ?_
            refine lv_icmp_ge (tgt := 152) hx hb dX10_climbsUpTo_106 (by decide) (fun c106 => ?_) (fun c106 => ?_)
            · skip
              have tc106 := f_ge (k := 14) (by decide) c106
              refine lv_lload hx hb dX10_climbsUpTo_152 (lv_at hl 1 rfl) ?_
              have hH : HT D cs A T O X H := HT.lay (ci := 10) hH t_a0 (okL_c (⟨_, rfl, t_f102_0⟩) (okL_c (⟨_, rfl, t_f102_1⟩) (okL_c (⟨_, rfl, by omega, by omega⟩) (okL_c (⟨_, rfl, t_f102_3⟩) (okL_c (⟨_, rfl, t_f102_4⟩) (okL_c (⟨_, rfl, t_f102_5⟩) (okL_c (⟨_, rfl, by omega, by omega⟩) (okL_n))))))))
              have hO := hO0
              exact te_l hx hb hr hlocks hH hS rfl dX10_climbsUpTo_154
            · skip
              have tc106 := f_nge (k := 14) (by decide) c106
              refine lv_iload hx hb dX10_climbsUpTo_109 (lv_at hl 3 rfl) ?_
              refine lv_iload hx hb dX10_climbsUpTo_111 (lv_at hl 2 rfl) ?_
              refine lv_iand hx hb dX10_climbsUpTo_113 ?_
              refine lv_topi (fun v113 ev113 => ?_)
              have tv113 : 0 ≤ v113.toInt ∧ v113.toInt ≤ v19.toInt := by rw [ev113]; exact and_l (by omega)
              refine lv_iload hx hb dX10_climbsUpTo_114 (lv_at hl 0 rfl) ?_
              refine lv_ishr hx hb dX10_climbsUpTo_116 ?_
              refine lv_topi (fun v116 ev116 => ?_)
              have tv116 : 0 ≤ v116.toInt ∧ v116.toInt ≤ v113.toInt := by rw [ev116]; exact shr_b (by omega)
              refine lv_iconst (v := 1) hx hb dX10_climbsUpTo_117 (by decide) ?_
              refine lv_iand hx hb dX10_climbsUpTo_118 ?_
              refine lv_topi (fun v118 ev118 => ?_)
              have tv118 : 0 ≤ v118.toInt ∧ v118.toInt ≤ 1 := by rw [ev118]; exact and_r (by decide)
              have J146 : ∀ (p146_7 : Int64) (f146_0 : Nat) (f146_1 : Nat) (f146_2 : Int32) (f146_3 : Nat) (f146_4 : Nat) (f146_5 : Nat) (f146_6 : Int32) (H : Heap) (locs : List Loc) (ls : Array Slot), (T f146_0 = some (1, 14, 1)) → (T f146_1 = some (1, 14, 0)) → (T f146_3 = some (2, 14, 0)) → (T f146_4 = some (1, 14, 0)) → (T f146_5 = some (1, 14, 0)) → (0 ≤ f146_2.toInt) → (f146_2.toInt ≤ 14) → (0 ≤ f146_6.toInt) → (f146_6.toInt ≤ 14) → HT D cs A T (a0 :: O) ((a0, .inr (10, [.ref f146_0, .ref f146_1, .int f146_2, .ref f146_3, .ref f146_4, .ref f146_5, .int f146_6])) :: X) H → va_S A s.heap H locs → lv_has ls 10 [(9, .int p102_9), (7, .long p146_7), (6, .int v27), (5, .int v19), (0, .ref a0), (1, .ref a1), (3, .int x3)] → W p l e { frames := 9, cells := 0, slots := 0, locals := 241 } s m [.ref a0, .ref a1, .int x2, .int x3].toArray below meth c H locs 0 0 (MQ below (Tl D cs (fun _ u => u = (T, O, X)) A) [.ref a0, .ref a1, .int x2, .int x3].toArray s 0 0 A) (F0 m 146 ls []) := by
                intro p146_7 f146_0 f146_1 f146_2 f146_3 f146_4 f146_5 f146_6 H locs ls t_f146_0 t_f146_1 t_f146_3 t_f146_4 t_f146_5 l_f146_2 u_f146_2 l_f146_6 u_f146_6 hH hS hl
                obtain ⟨v146, ev146⟩ : ∃ y : Int32, y = p102_9 + 1 := ⟨_, rfl⟩
                have tv146 : v146.toInt = p102_9.toInt + (1) := by rw [ev146]; exact add_i rfl (by decide) (by omega) (by omega)
                refine lv_iinc (v := v146) (lv' := [(9, .int v146), (7, .long p146_7), (6, .int v27), (5, .int v19), (0, .ref a0), (1, .ref a1), (3, .int x3)]) hx hb dX10_climbsUpTo_146 hl (k := 0) rfl (by rw [ev146]; rfl) (by decide) rfl (fun ls hl => ?_)
                refine lv_goto (tgt := 102) hx hb dX10_climbsUpTo_149 (by decide) ?_
                exact ih102 _ (by omega) v146 p146_7 f146_0 f146_1 f146_2 f146_3 f146_4 f146_5 f146_6 _ _ _ rfl t_f146_0 t_f146_1 t_f146_3 t_f146_4 t_f146_5 (by omega) (by omega) (by omega) (by omega) (by omega) (by omega) hH hS (lv_sub hl [0, 1, 2, 3, 4, 5, 6] rfl)
              refine lv_if_eq (tgt := 146) hx hb dX10_climbsUpTo_119 (by decide) (fun c119 => ?_) (fun c119 => ?_)
              · skip
                have tc119 := f_eq (k := 0) (by decide) c119
                exact J146 p102_7 f102_0 f102_1 f102_2 f102_3 f102_4 f102_5 f102_6 _ _ _ t_f102_0 t_f102_1 t_f102_3 t_f102_4 t_f102_5 (by omega) (by omega) (by omega) (by omega) hH hS (lv_sub hl [0, 1, 2, 3, 4, 5, 6] rfl)
              · skip
                have tc119 := f_ne (k := 0) (by decide) c119
                refine lv_lload hx hb dX10_climbsUpTo_122 (lv_at hl 1 rfl) ?_
                refine lv_aload_n hx hb dX10_climbsUpTo_124 rfl (lv_at hl 4 rfl) ?_
                refine lv_aload_n hx hb dX10_climbsUpTo_125 rfl (lv_at hl 5 rfl) ?_
                refine lv_iload hx hb dX10_climbsUpTo_126 (lv_at hl 0 rfl) ?_
                refine lv_iload hx hb dX10_climbsUpTo_128 (lv_at hl 2 rfl) ?_
                refine lv_iconst (v := 1) hx hb dX10_climbsUpTo_130 (by decide) ?_
                refine lv_iload hx hb dX10_climbsUpTo_131 (lv_at hl 0 rfl) ?_
                refine lv_ishl hx hb dX10_climbsUpTo_133 ?_
                refine lv_topi (fun v133 ev133 => ?_)
                have tv133 : 1 ≤ v133.toInt ∧ v133.toInt ≤ 8192 := by rw [ev133]; exact shl_b 13 (by decide) (by omega) (by omega)
                refine lv_iconst (v := (-1)) hx hb dX10_climbsUpTo_134 (by decide) ?_
                refine lv_ixor hx hb dX10_climbsUpTo_135 ?_
                refine lv_topi (fun v135 ev135 => ?_)
                refine lv_iand hx hb dX10_climbsUpTo_136 ?_
                refine lv_topi (fun v136 ev136 => ?_)
                refine lv_iload_n hx hb dX10_climbsUpTo_137 rfl (lv_at hl 6 rfl) ?_
                refine lv_iconst (v := 1) hx hb dX10_climbsUpTo_138 (by decide) ?_
                refine lv_isub hx hb dX10_climbsUpTo_139 ?_
                refine lv_topi (fun v139 ev139 => ?_)
                have tv139 : v139.toInt = x3.toInt - (1) := by rw [ev139]; exact sub_i rfl (by decide : (1 : Int32).toInt = 1) (by omega) (by omega)
                have hH : HT D cs A T O X H := HT.lay (ci := 10) hH t_a0 (okL_c (⟨_, rfl, t_f102_0⟩) (okL_c (⟨_, rfl, t_f102_1⟩) (okL_c (⟨_, rfl, by omega, by omega⟩) (okL_c (⟨_, rfl, t_f102_3⟩) (okL_c (⟨_, rfl, t_f102_4⟩) (okL_c (⟨_, rfl, t_f102_5⟩) (okL_c (⟨_, rfl, by omega, by omega⟩) (okL_n))))))))
                have hO := hO0
                refine tk_l hH hS hA (tr_V (n := 4) (As := [.ref a1, .int p102_9, .int v136, .int v139]) hx hb hml hown hts hkb hH hOX hks hE hS hA (s_Ways_climbsOn6 l D cs kf T O X a0 a1 p102_9 v136 v139 t_a0 t_a1 (by omega) (hO.sub (by decide))) kw_1002 kw_1004 ks_30 kw_9 kw_1005 (by decide +kernel) ⟨Nat.le_of_ble_eq_true rfl, Nat.le_of_ble_eq_true rfl⟩ (HT.recv (ci := 10) hkb hH t_a0 (hO.no t_a0 (by decide)) rfl) rfl rfl hl.1 (Nat.le_of_ble_eq_true rfl) dX10_climbsUpTo_140 ⟨Nat.le_of_ble_eq_true rfl, Nat.le_of_ble_eq_true rfl⟩) (fun v140 u H locs hz9 hH hS => ?_)
                have hz9 : u = (T, O, X) := hz9
                subst hz9
                have hH : HT D cs A T O X H := hH
                obtain ⟨fs9, ho9, hH⟩ := hH.take t_a0 (hO0.no t_a0 (by decide))
                have hp0 : okL T (ft10 0 0) fs9 := ho9
                clear ho9
                obtain ⟨v9, fs9, rfl, h9, hp1⟩ := okL_i hp0
                obtain ⟨q140_0, rfl, t_q140_0⟩ := h9
                obtain ⟨v9, fs9, rfl, h9, hp2⟩ := okL_i hp1
                obtain ⟨q140_1, rfl, t_q140_1⟩ := h9
                obtain ⟨v9, fs9, rfl, h9, hp3⟩ := okL_i hp2
                obtain ⟨q140_2, rfl, l_q140_2, u_q140_2⟩ := h9
                obtain ⟨v9, fs9, rfl, h9, hp4⟩ := okL_i hp3
                obtain ⟨q140_3, rfl, t_q140_3⟩ := h9
                obtain ⟨v9, fs9, rfl, h9, hp5⟩ := okL_i hp4
                obtain ⟨q140_4, rfl, t_q140_4⟩ := h9
                obtain ⟨v9, fs9, rfl, h9, hp6⟩ := okL_i hp5
                obtain ⟨q140_5, rfl, t_q140_5⟩ := h9
                obtain ⟨v9, fs9, rfl, h9, hp7⟩ := okL_i hp6
                obtain ⟨q140_6, rfl, l_q140_6, u_q140_6⟩ := h9
                have hpz := okL_z hp7
                subst hpz
                have hH : HT D cs A T (a0 :: O) ((a0, .inr (10, [.ref q140_0, .ref q140_1, .int q140_2, .ref q140_3, .ref q140_4, .ref q140_5, .int q140_6])) :: X) H := hH
                have hO : okO T (a0 :: O) [1, 12, 15, 19] := okO.cons (hO0.sub (by decide)) t_a0 (by decide)
                refine W.widen (k := 0) (n := 0) (Nat.le_of_ble_eq_true rfl) (Nat.le_of_ble_eq_true rfl) ?_
                refine lv_ladd hx hb dX10_climbsUpTo_143 ?_
                refine lv_topl (fun v143 ev143 => ?_)
                refine lv_lstore (lv' := [(7, .long v143), (9, .int p102_9), (6, .int v27), (5, .int v19), (0, .ref a0), (1, .ref a1), (3, .int x3)]) hx hb dX10_climbsUpTo_144 hl (by decide) rfl (fun ls hl => ?_)
                exact J146 v143 q140_0 q140_1 q140_2 q140_3 q140_4 q140_5 q140_6 _ _ _ t_q140_0 t_q140_1 t_q140_3 t_q140_4 t_q140_5 (by omega) (by omega) (by omega) (by omega) hH hS (lv_sub hl [1, 0, 2, 3, 4, 5, 6] rfl)
        refine lv_istore (lv' := [(9, .int 0), (7, .long v93.toInt64), (6, .int v27), (5, .int v19), (4, .int v8), (0, .ref a0), (1, .ref a1), (3, .int x3)]) hx hb dX10_climbsUpTo_100 hl (by decide) rfl (fun ls hl => ?_)
        exact J102 _ 0 v93.toInt64 q0_0 q0_1 q0_2 q0_3 q0_4 q0_5 f38_6 _ _ _ rfl t_q0_0 t_q0_1 t_q0_3 t_q0_4 t_q0_5 (by decide) (by decide) (by omega) (by omega) (by omega) (by omega) hH hS (lv_sub hl [0, 1, 2, 3, 5, 6, 7] rfl)
      · skip
        have tc42 := f_nge (k := 14) (by decide) c42
        refine lv_iload hx hb dX10_climbsUpTo_45 (lv_at hl 3 rfl) ?_
        refine lv_iload hx hb dX10_climbsUpTo_47 (lv_at hl 0 rfl) ?_
        refine lv_ishr hx hb dX10_climbsUpTo_49 ?_
        refine lv_topi (fun v49 ev49 => ?_)
        have tv49 : 0 ≤ v49.toInt ∧ v49.toInt ≤ v8.toInt := by rw [ev49]; exact shr_b (by omega)
        refine lv_iconst (v := 1) hx hb dX10_climbsUpTo_50 (by decide) ?_
        refine lv_iand hx hb dX10_climbsUpTo_51 ?_
        refine lv_topi (fun v51 ev51 => ?_)
        have tv51 : 0 ≤ v51.toInt ∧ v51.toInt ≤ 1 := by rw [ev51]; exact and_r (by decide)
        have J82 : ∀ (f82_6 : Int32) (H : Heap) (locs : List Loc) (ls : Array Slot), (0 ≤ f82_6.toInt) → (f82_6.toInt ≤ 14) → (f82_6.toInt ≤ p38_7.toInt + 1) → HT D cs A T (a0 :: O) ((a0, .inr (10, [.ref q0_0, .ref q0_1, .int q0_2, .ref q0_3, .ref q0_4, .ref q0_5, .int f82_6])) :: X) H → va_S A s.heap H locs → lv_has ls 10 [(7, .int p38_7), (6, .int v27), (5, .int v19), (4, .int v8), (0, .ref a0), (1, .ref a1), (3, .int x3)] → W p l e { frames := 9, cells := 0, slots := 0, locals := 241 } s m [.ref a0, .ref a1, .int x2, .int x3].toArray below meth c H locs 0 0 (MQ below (Tl D cs (fun _ u => u = (T, O, X)) A) [.ref a0, .ref a1, .int x2, .int x3].toArray s 0 0 A) (F0 m 82 ls []) := by
          intro f82_6 H locs ls l_f82_6 u_f82_6 i82 hH hS hl
          obtain ⟨v82, ev82⟩ : ∃ y : Int32, y = p38_7 + 1 := ⟨_, rfl⟩
          have tv82 : v82.toInt = p38_7.toInt + (1) := by rw [ev82]; exact add_i rfl (by decide) (by omega) (by omega)
          refine lv_iinc (v := v82) (lv' := [(7, .int v82), (6, .int v27), (5, .int v19), (4, .int v8), (0, .ref a0), (1, .ref a1), (3, .int x3)]) hx hb dX10_climbsUpTo_82 hl (k := 0) rfl (by rw [ev82]; rfl) (by decide) rfl (fun ls hl => ?_)
          refine lv_goto (tgt := 38) hx hb dX10_climbsUpTo_85 (by decide) ?_
          exact ih38 _ (by omega) v82 f82_6 _ _ _ rfl (by omega) (by omega) (by omega) (by omega) (by omega) hH hS (lv_sub hl [0, 1, 2, 3, 4, 5, 6] rfl)
        refine lv_if_eq (tgt := 82) hx hb dX10_climbsUpTo_52 (by decide) (fun c52 => ?_) (fun c52 => ?_)
        · skip
          have tc52 := f_eq (k := 0) (by decide) c52
          exact J82 f38_6 _ _ _ (by omega) (by omega) (by omega) hH hS (lv_sub hl [0, 1, 2, 3, 4, 5, 6] rfl)
        · skip
          have tc52 := f_ne (k := 0) (by decide) c52
          refine lv_aload_n hx hb dX10_climbsUpTo_55 rfl (lv_at hl 4 rfl) ?_
          refine x_get (ci := 10) (C := RX10) (F := TX10) (N := 7) (v := .ref q0_5) hx hb hts uX10 hown hkb hH rfl 5 (by decide) rfl kw_278 (fun _ h9 => h9) dX10_climbsUpTo_56 ?_
          refine lv_aload_n hx hb dX10_climbsUpTo_59 rfl (lv_at hl 4 rfl) ?_
          refine x_get (ci := 10) (C := RX10) (F := TX10) (N := 7) (v := .int f38_6) hx hb hts uX10 hown hkb hH rfl 6 (by decide) rfl kw_279 (fun _ h9 => h9) dX10_climbsUpTo_60 ?_
          refine lv_aload_n hx hb dX10_climbsUpTo_63 rfl (lv_at hl 5 rfl) ?_
          refine lv_iload hx hb dX10_climbsUpTo_64 (lv_at hl 1 rfl) ?_
          refine lv_iload hx hb dX10_climbsUpTo_66 (lv_at hl 0 rfl) ?_
          refine tk_i hH hS hA (tr_S (n := 3) (As := [.ref a1, .int v27, .int p38_7]) hx hb hml hown hts hkb hH (ox_c hOX) hks hE hS hA (s_Ways_leadingTo l D cs kf T (a0 :: O) ((a0, .inr (10, [.ref q0_0, .ref q0_1, .int q0_2, .ref q0_3, .ref q0_4, .ref q0_5, .int f38_6])) :: X) a1 v27 p38_7 t_a1 (hO.sub (by decide))) kw_998 kw_999 kw_9 kw_1000 (by decide +kernel) ⟨Nat.le_of_ble_eq_true rfl, Nat.le_of_ble_eq_true rfl⟩ rfl rfl hl.1 (Nat.le_of_ble_eq_true rfl) dX10_climbsUpTo_68 ⟨Nat.le_of_ble_eq_true rfl, Nat.le_of_ble_eq_true rfl⟩) (fun v68 u H locs hz9 hH hS => ?_)
          obtain ⟨rfl, l_v68, u_v68⟩ := hz9
          have hH : HT D cs A T (a0 :: O) ((a0, .inr (10, [.ref q0_0, .ref q0_1, .int q0_2, .ref q0_3, .ref q0_4, .ref q0_5, .int f38_6])) :: X) H := hH
          refine W.widen (k := 0) (n := 0) (Nat.le_of_ble_eq_true rfl) (Nat.le_of_ble_eq_true rfl) ?_
          refine t_ist hx hb hkb hH hS t_q0_5 (hO.no t_q0_5 (by decide)) (by omega) (by omega) (cp_0 _) dX10_climbsUpTo_71 (fun H locs hH hS => ?_)
          refine lv_aload_n hx hb dX10_climbsUpTo_72 rfl (lv_at hl 4 rfl) ?_
          refine lv_dup hx hb dX10_climbsUpTo_73 rfl ?_
          refine x_get (ci := 10) (C := RX10) (F := TX10) (N := 7) (v := .int f38_6) hx hb hts uX10 hown hkb hH rfl 6 (by decide) rfl kw_279 (fun _ h9 => h9) dX10_climbsUpTo_74 ?_
          refine lv_iconst (v := 1) hx hb dX10_climbsUpTo_77 (by decide) ?_
          refine lv_iadd hx hb dX10_climbsUpTo_78 ?_
          refine lv_topi (fun v78 ev78 => ?_)
          have tv78 : v78.toInt = f38_6.toInt + (1) := by rw [ev78]; exact add_i rfl (by decide : (1 : Int32).toInt = 1) (by omega) (by omega)
          refine x_put (ci := 10) (v := .int v78) (ty := tyX10 6) (C := RX10) (F := TX10) (N := 7) hx hb hts uX10 tyX10 tyX10_ok nmX10 hown hkb hH hS rfl 6 (by decide) kw_279 (fun _ h9 => h9) rfl (tyX10_ok 6 (by decide)) rfl rfl (Nat.le_of_ble_eq_true rfl) dX10_climbsUpTo_79 (fun H locs hH hS => ?_)
          have hH : HT D cs A T (a0 :: O) ((a0, .inr (10, [.ref q0_0, .ref q0_1, .int q0_2, .ref q0_3, .ref q0_4, .ref q0_5, .int v78])) :: X) H := hH
          exact J82 v78 _ _ _ (by omega) (by omega) (by omega) hH hS (lv_sub hl [0, 1, 2, 3, 4, 5, 6] rfl)
  refine lv_istore (lv' := [(7, .int 0), (6, .int v27), (5, .int v19), (4, .int v8), (0, .ref a0), (1, .ref a1), (2, .int x2), (3, .int x3)]) hx hb dX10_climbsUpTo_36 hl (by decide) rfl (fun ls hl => ?_)
  have z_0 : (0 : Int32).toInt = 0 := by decide
  exact J38 _ 0 0 _ _ _ rfl (by decide) (by decide) (by decide) (by decide) (by omega) hH hS (lv_sub hl [0, 1, 2, 3, 4, 5, 7] rfl)
set_option maxHeartbeats 4000000 in
set_option maxRecDepth 100000 in
theorem s_FW_climbs (l : Launch) (D : va_G) (cs : CS) (kf : KF) (T : TF) (O : List Nat) (X : va_W) (a0 w hw gw ch gq : Nat) (x1 : Int32) (x2 : Int32) (t_a0 : T a0 = some (21, w, ch)) (t_w : isW T w hw gw) (t_ch : T ch = some (10, gq, 0)) (hO : okO T O [1, 7, 12, 15, 16, 19, 20, 21]) : TK l D cs kf yX11_climbs cX11_climbs 3 (some (.long)) { frames := 10, cells := 0, slots := 0, locals := 270 } [.ref a0, .int x1, .int x2] T O X (Tl D cs (fun _ u => u = (T, O, X))) := by
  refine tk_of (by decide) (Nat.le_of_ble_eq_true rfl) (fun p e s m below meth c ls A H locs hx hb hr hml hown hts hlocks hnm hkb hH hS hA hOX hks hE hl => ?_)
  have hown : s.vm.findClass RX11 = some m.cls := hown
  have hl : lv_has ls 3 [(0, .ref a0), (1, .int x1), (2, .int x2)] := hl
  have b1_w := t_w.2.1
  have b2_w := t_w.2.2
  refine lv_aload_n hx hb dX11_climbs_0 rfl (lv_at hl 0 rfl) ?_
  refine lv_iload_n hx hb dX11_climbs_1 rfl (lv_at hl 1 rfl) ?_
  refine tk_i hH hS hA (tr_V (n := 1) (As := [.int x1]) hx hb hml hown hts hkb hH hOX hks hE hS hA (s_FW_isGuide l D cs kf T O X a0 w hw gw ch gq x1 t_a0 t_w t_ch (hO.sub (by decide))) kw_794 kw_796 ks_20 kw_1 kw_797 (by decide +kernel) ⟨Nat.le_of_ble_eq_true rfl, Nat.le_of_ble_eq_true rfl⟩ (HT.recv (ci := 11) hkb hH t_a0 (hO.no t_a0 (by decide)) rfl) rfl rfl hl.1 (Nat.le_of_ble_eq_true rfl) dX11_climbs_2 ⟨Nat.le_of_ble_eq_true rfl, Nat.le_of_ble_eq_true rfl⟩) (fun v2 u H locs hz9 hH hS => ?_)
  obtain ⟨rfl, l_v2, u_v2, x_v20⟩ := hz9
  have hH : HT D cs A T O X H := hH
  refine W.widen (k := 0) (n := 0) (Nat.le_of_ble_eq_true rfl) (Nat.le_of_ble_eq_true rfl) ?_
  refine lv_if_ne (tgt := 12) hx hb dX11_climbs_5 (by decide) (fun c5 => ?_) (fun c5 => ?_)
  · skip
    have tc5 := f_ne (k := 0) (by decide) c5
    refine lv_iload_n hx hb dX11_climbs_12 rfl (lv_at hl 2 rfl) ?_
    refine lv_iconst (v := 1) hx hb dX11_climbs_13 (by decide) ?_
    have J23 : ∀  (H : Heap) (locs : List Loc) (ls : Array Slot), HT D cs A T O X H → va_S A s.heap H locs → lv_has ls 3 [] → W p l e { frames := 10, cells := 0, slots := 0, locals := 270 } s m [.ref a0, .int x1, .int x2].toArray below meth c H locs 0 0 (MQ below (Tl D cs (fun _ u => u = (T, O, X)) A) [.ref a0, .int x1, .int x2].toArray s 0 0 A) (F0 m 23 ls []) := by
      intro  H locs ls  hH hS hl
      refine lv_ldc2 hx hb hown (hts _ kw_993) dX11_climbs_23 ?_
      exact te_l hx hb hr hlocks hH hS rfl dX11_climbs_26
    refine lv_icmp_lt (tgt := 23) hx hb dX11_climbs_14 (by decide) (fun c14 => ?_) (fun c14 => ?_)
    · skip
      have tc14 := f_lt (k := 1) (by decide) c14
      exact J23  _ _ _  hH hS (lv_sub hl [] rfl)
    · skip
      have tc14 := f_nlt (k := 1) (by decide) c14
      refine lv_iload_n hx hb dX11_climbs_17 rfl (lv_at hl 2 rfl) ?_
      refine lv_bipush (v := 7) hx hb dX11_climbs_18 (by decide) ?_
      refine lv_icmp_le (tgt := 27) hx hb dX11_climbs_20 (by decide) (fun c20 => ?_) (fun c20 => ?_)
      · skip
        have tc20 := f_le (k := 7) (by decide) c20
        refine lv_aload_n hx hb dX11_climbs_27 rfl (lv_at hl 0 rfl) ?_
        refine t_get (ci := 11) (lst := ft11 w ch) (C := RX11) (F := TX11) (N := 20) hx hb hts uX11 hown hkb hH t_a0 (hO.no t_a0 (by decide)) (fun _ h9 => h9) rfl rfl 14 (by decide) rfl kw_374 (fun _ h9 => h9) dX11_climbs_28 (fun v9 h9 => ?_)
        obtain ⟨v28, rfl, t_v28⟩ := h9
        refine lv_aload_n hx hb dX11_climbs_31 rfl (lv_at hl 0 rfl) ?_
        refine lv_iload_n hx hb dX11_climbs_32 rfl (lv_at hl 1 rfl) ?_
        refine tk_r hH hS hA (tr_V (n := 1) (As := [.int x1]) hx hb hml hown hts hkb hH hOX hks hE hS hA (s_FW_rowsOf l D cs kf T O X a0 w hw gw ch gq x1 t_a0 t_w t_ch (by omega) (by omega) (hO.sub (by decide))) kw_830 kw_832 ks_21 kw_1 kw_833 (by decide +kernel) ⟨Nat.le_of_ble_eq_true rfl, Nat.le_of_ble_eq_true rfl⟩ (HT.recv (ci := 11) hkb hH t_a0 (hO.no t_a0 (by decide)) rfl) rfl rfl hl.1 (Nat.le_of_ble_eq_true rfl) dX11_climbs_33 ⟨Nat.le_of_ble_eq_true rfl, Nat.le_of_ble_eq_true rfl⟩) (fun v33 u H locs hz9 hH hS => ?_)
        obtain ⟨hu9, t_v33⟩ := hz9
        have hu9 : u = (T, O, X) := hu9
        subst hu9
        have hH : HT D cs A T O X H := hH
        refine W.widen (k := 0) (n := 0) (Nat.le_of_ble_eq_true rfl) (Nat.le_of_ble_eq_true rfl) ?_
        refine lv_aload_n hx hb dX11_climbs_36 rfl (lv_at hl 0 rfl) ?_
        refine tk_i hH hS hA (tr_V (n := 0) (As := []) hx hb hml hown hts hkb hH hOX hks hE hS hA (s_FW_openNow l D cs kf T O X a0 w hw gw ch gq t_a0 t_w t_ch (hO.sub (by decide))) kw_846 kw_848 ks_22 kw_1 kw_849 (by decide +kernel) ⟨Nat.le_of_ble_eq_true rfl, Nat.le_of_ble_eq_true rfl⟩ (HT.recv (ci := 11) hkb hH t_a0 (hO.no t_a0 (by decide)) rfl) rfl rfl hl.1 (Nat.le_of_ble_eq_true rfl) dX11_climbs_37 ⟨Nat.le_of_ble_eq_true rfl, Nat.le_of_ble_eq_true rfl⟩) (fun v37 u H locs hz9 hH hS => ?_)
        obtain ⟨rfl, l_v37, u_v37⟩ := hz9
        have hH : HT D cs A T O X H := hH
        refine W.widen (k := 0) (n := 0) (Nat.le_of_ble_eq_true rfl) (Nat.le_of_ble_eq_true rfl) ?_
        refine lv_iload_n hx hb dX11_climbs_40 rfl (lv_at hl 2 rfl) ?_
        refine tk_l hH hS hA (tr_V (n := 3) (As := [.ref v33, .int v37, .int x2]) hx hb hml hown hts hkb hH hOX hks hE hS hA (s_Ways_climbsUpTo l D cs kf T O X v28 v33 v37 x2 t_v28 t_v33 (by omega) (by omega) (hO.sub (by decide))) kw_994 kw_995 kw_996 kw_9 kw_997 (by decide +kernel) ⟨Nat.le_of_ble_eq_true rfl, Nat.le_of_ble_eq_true rfl⟩ (HT.recv (ci := 10) hkb hH t_v28 (hO.no t_v28 (by decide)) rfl) rfl rfl hl.1 (Nat.le_of_ble_eq_true rfl) dX11_climbs_41 ⟨Nat.le_of_ble_eq_true rfl, Nat.le_of_ble_eq_true rfl⟩) (fun v41 u H locs hz9 hH hS => ?_)
        have hz9 : u = (T, O, X) := hz9
        subst hz9
        have hH : HT D cs A T O X H := hH
        refine W.widen (k := 0) (n := 0) (Nat.le_of_ble_eq_true rfl) (Nat.le_of_ble_eq_true rfl) ?_
        exact te_l hx hb hr hlocks hH hS rfl dX11_climbs_44
      · skip
        have tc20 := f_nle (k := 7) (by decide) c20
        exact J23  _ _ _  hH hS (lv_sub hl [] rfl)
  · skip
    have tc5 := f_eq (k := 0) (by decide) c5
    refine lv_ldc2 hx hb hown (hts _ kw_988) dX11_climbs_8 ?_
    exact te_l hx hb hr hlocks hH hS rfl dX11_climbs_11
section ThRows5
variable {p : Program} {l : Launch} {e : Env} {R : Room} {s : State} {m : MethodId} {args : Array Value} {below : List Frame} {meth : Method} {c : Code} {H : Heap} {locs : List Loc} {cells slots : Nat}
variable {cc : ByteArray} {pc : Nat} {ls : Array Slot} {D : va_G} {A : Nat → Prop} {cs : CS} {T : TF} {O : List Nat} {X : va_W}
theorem te_n {post : Int32 → TX → Prop} {v : Int32} {ty : FieldType} (hx : p.tables.exec = Jvm.exec) (hb : c.code = cc) (hr : meth.sig.returnType = some ty) (hlocks : meth.locks = false) (hn : narrow ty (.int v) = .int v) (hH : HT D cs A T O X H) (hS : va_S A s.heap H locs) (hp : post v (T, O, X)) (hdg : decode cc pc = .ok (.ireturn, 1)) : W p l e R s m args below meth c H locs cells slots (MQ below (Ti D cs post A) args s cells slots A) (F0 m pc ls [.int v]) :=
  W.zret hx hb hr hn (fun t ht _ => ⟨⟨v, (T, O, X), rfl, hp, by show HT D cs A T O X t.heap; rw [ht]; exact hH⟩, hS.F ht⟩) hS.2.2 hdg hlocks
end ThRows5
theorem eq_c {r c : Int32} {k : Int} (hc : c.toInt = k) (h0 : k ≤ r.toInt) (h1 : r.toInt ≤ k) : r = c := Int32.toInt_inj.mp (by omega)
theorem narc {v : Int32} (h0 : 0 ≤ v.toInt) (h1 : v.toInt ≤ 255) : narrow .char (.int v) = .int v := by
  have ht : ∀ k, k < 256 → narrow .char (.int (nI k)) = .int (nI k) := by decide +kernel
  have e := is_nI h0
  rw [e]
  exact ht _ (by omega)
theorem i2c_id {v : Int32} (h0 : 0 ≤ v.toInt) (h1 : v.toInt ≤ 255) : (v.toUInt32 % 65536).toInt32 = v := by
  have ht : ∀ k, k < 256 → ((nI k).toUInt32 % 65536).toInt32 = nI k := by decide +kernel
  have e := is_nI h0
  rw [e]
  exact ht _ (by omega)
/-! the bytes of String constants -/
theorem upd_eq {f : Nat → Int32} {k : Nat} {x : Int32} : upd f k x k = x := if_pos rfl
theorem upd_ne {f : Nat → Int32} {k j : Nat} {x : Int32} (h : j ≠ k) : upd f k x j = f j := if_neg h
def chF (i k : Nat) : Int32 := (sbyt.getD i []).getD k 0
theorem chF_b (i k : Nat) : 0 ≤ (chF i k).toInt ∧ (chF i k).toInt ≤ 127 := by
  have ht : ∀ l ∈ sbyt, ∀ x ∈ l, 0 ≤ Int32.toInt x ∧ Int32.toInt x ≤ 127 := by decide +kernel
  unfold chF
  have z : (0 : Int32).toInt = 0 := by decide
  rw [List.getD_eq_getElem?_getD (l := sbyt), List.getD_eq_getElem?_getD]
  cases h1 : sbyt[i]? with
  | none =>
    show 0 ≤ (([] : List Int32)[k]?.getD 0).toInt ∧ (([] : List Int32)[k]?.getD 0).toInt ≤ 127
    rw [List.getElem?_nil]
    exact ⟨by show 0 ≤ (0 : Int32).toInt; omega, by show (0 : Int32).toInt ≤ 127; omega⟩
  | some l0 =>
    show 0 ≤ (l0[k]?.getD 0).toInt ∧ (l0[k]?.getD 0).toInt ≤ 127
    cases h2 : l0[k]? with
    | none => exact ⟨by show 0 ≤ (0 : Int32).toInt; omega, by show (0 : Int32).toInt ≤ 127; omega⟩
    | some x => exact ht l0 (List.mem_of_getElem? h1) x (List.mem_of_getElem? h2)
theorem and_255 {v : Int32} (h0 : 0 ≤ v.toInt) (h1 : v.toInt ≤ 127) : v &&& 255 = v := by
  have ht : ∀ k, k < 128 → nI k &&& 255 = nI k := by decide +kernel
  have e := is_nI h0
  rw [e]
  exact ht _ (by omega)
theorem ch_and {i k : Nat} {v w : Int32} (hv : v = chF i k) (hw : w = v &&& 255) : w = chF i k ∧ 0 ≤ w.toInt ∧ w.toInt ≤ 127 := by
  have h := chF_b i k
  rw [← hv] at h
  rw [hw, and_255 h.1 h.2]
  exact ⟨hv, h⟩
theorem keys_end {x v : Int32} (hv : v = chF 20 x.toInt.toNat) (h : x.toInt = 86) : v.toInt = 32 := by
  rw [hv, h]
  decide +kernel
/-- where a sign stands among the signs -/
def IXQ (i : Nat) (x r : Int32) : Prop := (0 ≤ r.toInt → ∃ j, j < slen.getD i 0 ∧ (chF i j).toInt = x.toInt) ∧ (r.toInt < 0 → ∀ j, j < slen.getD i 0 → (chF i j).toInt ≠ x.toInt)
def IXN (i : Nat) (x : Int32) (k : Nat) : Prop := ∀ j, j < k → (chF i j).toInt ≠ x.toInt
def IXT (i : Nat) (x : Int32) (m : Int) (r : Int32) : Prop := (0 ≤ r.toInt → ∃ j : Nat, (j : Int) < m ∧ (chF i j).toInt = x.toInt) ∧ (r.toInt < 0 → ∀ j : Nat, (j : Int) < m → (chF i j).toInt ≠ x.toInt)
theorem i2b_f {x : Int32} (h0 : 0 ≤ x.toInt) (h1 : x.toInt ≤ 255) : x.toInt8.toInt32.toInt = if x.toInt < 128 then x.toInt else x.toInt - 256 := by
  have ht : ∀ k : Nat, k < 256 → (nI k).toInt8.toInt32.toInt = if (k : Int) < 128 then (k : Int) else (k : Int) - 256 := by decide +kernel
  have e := is_nI h0
  have := ht x.toInt.toNat (by omega)
  rw [← e, show (x.toInt.toNat : Int) = x.toInt by omega] at this
  exact this
theorem ix_c {i : Nat} {x c v : Int32} {k : Nat} (h0 : 0 ≤ x.toInt) (h1 : x.toInt ≤ 255) (hc : c = x.toInt8.toInt32) (hv : v = chF i k) : v.toInt = c.toInt ↔ (chF i k).toInt = x.toInt := by
  have hb := chF_b i k
  have := i2b_f h0 h1
  rw [← hc] at this
  rw [hv]
  split at this <;> omega
theorem IXN_0 {i : Nat} {x z : Int32} (hz : z.toInt = 0) : IXN i x z.toInt.toNat := fun j hj => by omega
theorem IXN_s {i : Nat} {x c v a b : Int32} (hi : IXN i x a.toInt.toNat) (ha : 0 ≤ a.toInt) (h0 : 0 ≤ x.toInt) (h1 : x.toInt ≤ 255) (hc : c = x.toInt8.toInt32) (hv : v = chF i a.toInt.toNat) (hn : ¬ v.toInt = c.toInt) (hb : b.toInt = a.toInt + 1) : IXN i x b.toInt.toNat := fun j hj => by
  by_cases q : j < a.toInt.toNat
  · exact hi j q
  · have : j = a.toInt.toNat := by omega
    rw [this]
    exact fun w => hn ((ix_c h0 h1 hc hv).mpr w)
theorem IXT_y {i : Nat} {x c v a : Int32} {m : Int} (ha : 0 ≤ a.toInt) (hm : a.toInt < m) (h0 : 0 ≤ x.toInt) (h1 : x.toInt ≤ 255) (hc : c = x.toInt8.toInt32) (hv : v = chF i a.toInt.toNat) (hn : v.toInt = c.toInt) : IXT i x m a := ⟨fun _ => ⟨a.toInt.toNat, by omega, (ix_c h0 h1 hc hv).mp hn⟩, fun q => by omega⟩
theorem IXT_n {i : Nat} {x a r : Int32} {m : Int} (hi : IXN i x a.toInt.toNat) (hm : m ≤ a.toInt) (hr : r.toInt = -1) : IXT i x m r := ⟨fun q => by omega, fun _ j hj => hi j (by omega)⟩
theorem IXT_q {i : Nat} {x r : Int32} {m : Int} (h : IXT i x m r) (hm : m = (slen.getD i 0 : Nat)) : IXQ i x r := by
  refine ⟨fun q => ?_, fun q j hj => h.2 q j (by omega)⟩
  obtain ⟨j, a, b⟩ := h.1 q
  exact ⟨j, by omega, b⟩
/-! the reader, told once: the tokens of a text -/
def rn (P : Nat → Bool) : Nat → Nat → Nat
  | 0, e => e
  | f + 1, e => if P e = true then rn P f (e + 1) else e
def run (P : Nat → Bool) (n e : Nat) : Nat := rn P (n - e) e
theorem run_s {P : Nat → Bool} {n e : Nat} (h : e < n) (hp : P e = true) : run P n e = run P n (e + 1) := by
  unfold run
  rw [show n - e = (n - (e + 1)) + 1 by omega]
  show (if P e = true then _ else _) = _
  rw [if_pos hp]
theorem run_e {P : Nat → Bool} {n e : Nat} (h : ¬ (e < n ∧ P e = true)) : run P n e = e := by
  unfold run
  cases hf : n - e with
  | zero => rfl
  | succ f =>
    show (if P e = true then _ else _) = _
    rw [if_neg (fun q => h ⟨by omega, q⟩)]
theorem run_b {P : Nat → Bool} {n : Nat} : ∀ (k e : Nat), n - e = k → e ≤ n → e ≤ run P n e ∧ run P n e ≤ n := by
  intro k
  induction k with
  | zero => intro e h1 h2; rw [run_e (fun q => by omega)]; omega
  | succ k ih =>
    intro e h1 h2
    by_cases hp : P e = true
    · rw [run_s (by omega) hp]
      have := ih (e + 1) (by omega) (by omega)
      omega
    · rw [run_e (fun q => hp q.2)]; omega
abbrev Tp : Type := Nat → Int
def bl (t : Tp) (j : Nat) : Bool := decide (t j = 10 ∨ t j = 32)
def sm (t : Tp) (j : Nat) : Bool := decide (97 ≤ t j ∧ t j ≤ 122)
def dgt (t : Tp) (j : Nat) : Bool := decide (48 ≤ t j ∧ t j ≤ 57)
theorem bl_i {t : Tp} {j : Nat} : bl t j = true ↔ t j = 10 ∨ t j = 32 := decide_eq_true_iff
theorem sm_i {t : Tp} {j : Nat} : sm t j = true ↔ 97 ≤ t j ∧ t j ≤ 122 := decide_eq_true_iff
theorem dgt_i {t : Tp} {j : Nat} : dgt t j = true ↔ 48 ≤ t j ∧ t j ≤ 57 := decide_eq_true_iff
/-- where the next token begins -/
def nxs (t : Tp) (n e : Nat) : Nat := run (bl t) n e
/-- where the token that begins at s ends -/
def en (t : Tp) (n s : Nat) : Nat := if n ≤ s then s else if sm t s = true then run (sm t) n s else if dgt t s = true then run (dgt t) n s else s + 1
def nvl (t : Tp) (s : Nat) : Nat → Int
  | 0 => 0
  | k + 1 => 10 * nvl t s k + (t (s + k) - 48)
def nv (t : Tp) (n s : Nat) : Int := nvl t s (en t n s - s)
def sgk (x : Int) : Nat := if x = 59 then 30 else if x = 58 then 31 else if x = 43 then 32 else if x = 45 then 33 else if x = 42 then 34 else if x = 40 then 35 else if x = 41 then 36 else if x = 91 then 37 else if x = 93 then 38 else if x = 61 then 39 else if x = 60 then 40 else if x = 62 then 41 else 23
/-- the word from s to e is the String constant i -/
def wis (i : Nat) (t : Tp) (s e : Nat) : Prop := e = s + slen.getD i 0 ∧ ∀ j, j < slen.getD i 0 → t (s + j) = (chF i j).toInt
def kst : List Nat := [1, 6, 7, 8, 9, 17, 18, 19, 14, 3, 4, 5, 2, 16, 15, 10, 11, 12, 13]
noncomputable def wk (t : Tp) (s e : Nat) : Nat := @dite Nat (∃ i, i < 19 ∧ wis (kst.getD i 0) t s e) (Classical.propDecidable _) (fun h => h.choose) (fun _ => 20)
theorem kst_ne : ∀ i, i < 19 → ∀ k, k < 19 → i ≠ k → slen.getD (kst.getD i 0) 0 ≠ slen.getD (kst.getD k 0) 0 ∨ ∃ j, j < 7 ∧ j < slen.getD (kst.getD i 0) 0 ∧ chF (kst.getD i 0) j ≠ chF (kst.getD k 0) j := by decide +kernel
theorem wk_of {t : Tp} {s e i : Nat} (hi : i < 19) (h : wis (kst.getD i 0) t s e) : wk t s e = i := by
  have hx : ∃ i, i < 19 ∧ wis (kst.getD i 0) t s e := ⟨i, hi, h⟩
  unfold wk
  rw [dif_pos hx]
  obtain ⟨h1, h2⟩ := hx.choose_spec
  apply Classical.byContradiction
  intro hne
  rcases kst_ne _ hi _ h1 (Ne.symm hne) with q | ⟨j, _, hj, q⟩
  · have := h.1; have := h2.1; omega
  · have a := h.2 j hj
    have := h.1; have := h2.1
    have b := h2.2 j (by omega)
    exact q (Int32.toInt_inj.mp (a.symm.trans b))
theorem wk_no {t : Tp} {s e : Nat} (h : ∀ i, i < 19 → ¬ wis (kst.getD i 0) t s e) : wk t s e = 20 := by
  unfold wk
  rw [dif_neg (fun ⟨i, h1, h2⟩ => h i h1 h2)]
theorem wk_is {t : Tp} {s e i : Nat} (hi : i < 19) (h : wk t s e = i) : wis (kst.getD i 0) t s e := by
  unfold wk at h
  split at h
  · rename_i hx
    rw [← h]
    exact hx.choose_spec.2
  · omega
theorem wk_b {t : Tp} {s e : Nat} : wk t s e ≤ 20 := by
  unfold wk
  split
  · rename_i hx
    have := hx.choose_spec.1
    omega
  · omega
noncomputable def kd (t : Tp) (n s : Nat) : Nat := if n ≤ s then 22 else if sm t s = true then wk t s (en t n s) else if dgt t s = true then (if en t n s ≤ s + 3 then 21 else 23) else sgk (t s)
noncomputable def nx (t : Tp) (n s : Nat) : Nat := nxs t n (en t n s)
theorem sgk_b (x : Int) : sgk x = 23 ∨ (30 ≤ sgk x ∧ sgk x ≤ 41) := by
  unfold sgk
  repeat' split
  all_goals omega
def sgi (k : Nat) : Int := match k with | 30 => 59 | 31 => 58 | 32 => 43 | 33 => 45 | 34 => 42 | 35 => 40 | 36 => 41 | 37 => 91 | 38 => 93 | 39 => 61 | 40 => 60 | 41 => 62 | _ => 0
theorem sgi_k {x : Int} (h30 : 30 ≤ sgk x) : sgi (sgk x) = x := by
  unfold sgk at h30 ⊢
  split
  · rename_i q; exact q.symm
  · split
    · rename_i q; exact q.symm
    · split
      · rename_i q; exact q.symm
      · split
        · rename_i q; exact q.symm
        · split
          · rename_i q; exact q.symm
          · split
            · rename_i q; exact q.symm
            · split
              · rename_i q; exact q.symm
              · split
                · rename_i q; exact q.symm
                · split
                  · rename_i q; exact q.symm
                  · split
                    · rename_i q; exact q.symm
                    · split
                      · rename_i q; exact q.symm
                      · split
                        · rename_i q; exact q.symm
                        · exfalso
                          rename_i q1 q2 q3 q4 q5 q6 q7 q8 q9 q10 q11 q12
                          rw [if_neg q1, if_neg q2, if_neg q3, if_neg q4, if_neg q5, if_neg q6, if_neg q7, if_neg q8, if_neg q9, if_neg q10, if_neg q11, if_neg q12] at h30
                          omega
theorem sgk_inj {x y : Int} (h : sgk x = sgk y) (h30 : 30 ≤ sgk x) : x = y := by
  rw [← sgi_k h30, h, sgi_k (h ▸ h30)]
theorem en_b {t : Tp} {n s : Nat} (h : s ≤ n) : s ≤ en t n s ∧ en t n s ≤ n := by
  unfold en
  split
  · omega
  · split
    · exact run_b _ _ rfl h
    · split
      · exact run_b _ _ rfl h
      · omega
theorem en_gt {t : Tp} {n s : Nat} (h : s < n) : s < en t n s := by
  unfold en
  rw [if_neg (by omega)]
  split
  · rename_i q
    rw [run_s h q]
    have := run_b (P := sm t) (n := n) _ (s + 1) rfl (by omega)
    omega
  · split
    · rename_i q
      rw [run_s h q]
      have := run_b (P := dgt t) (n := n) _ (s + 1) rfl (by omega)
      omega
    · omega
theorem nxs_b {t : Tp} {n e : Nat} (h : e ≤ n) : e ≤ nxs t n e ∧ nxs t n e ≤ n := run_b _ _ rfl h
theorem nx_b {t : Tp} {n s : Nat} (h : s ≤ n) : s ≤ nx t n s ∧ nx t n s ≤ n := by
  have h1 := en_b (t := t) h
  have h2 := nxs_b (t := t) h1.2
  unfold nx
  omega
theorem nx_gt {t : Tp} {n s : Nat} (h : s < n) : s + 1 ≤ nx t n s ∧ nx t n s ≤ n := by
  have h1 := en_b (t := t) (Nat.le_of_lt h)
  have h2 := nxs_b (t := t) h1.2
  have h3 := en_gt (t := t) h
  unfold nx
  omega
theorem kd_end {t : Tp} {n s : Nat} (h : n ≤ s) : kd t n s = 22 := if_pos h
theorem kd_lt {t : Tp} {n s : Nat} (h : kd t n s ≠ 22) : s < n := by
  apply Classical.byContradiction
  intro q
  exact h (kd_end (by omega))
theorem kd_w {t : Tp} {n s : Nat} (h : s < n) (hs : sm t s = true) : kd t n s = wk t s (en t n s) := by
  unfold kd; rw [if_neg (by omega), if_pos hs]
theorem kd_d {t : Tp} {n s : Nat} (h : s < n) (hs : ¬ sm t s = true) (hd : dgt t s = true) : kd t n s = if en t n s ≤ s + 3 then 21 else 23 := by
  unfold kd; rw [if_neg (by omega), if_neg hs, if_pos hd]
theorem kd_g {t : Tp} {n s : Nat} (h : s < n) (hs : ¬ sm t s = true) (hd : ¬ dgt t s = true) : kd t n s = sgk (t s) := by
  unfold kd; rw [if_neg (by omega), if_neg hs, if_neg hd]
theorem kd_22 {t : Tp} {n s : Nat} (h : s < n) : kd t n s ≠ 22 := by
  unfold kd
  rw [if_neg (by omega)]
  split
  · have := wk_b (t := t) (s := s) (e := en t n s); omega
  · split
    · split <;> omega
    · have := sgk_b (t s); omega
/-! the reader as a machine: frames, a place, a fault, what lines told -/
abbrev Rg : Type := Nat × Nat × Int32 × Int32 × Nat
abbrev Cf : Type := List (Nat × Nat) × Nat × Int × Rg
def fwf (k : Nat) (x : Int) : Int := if k = 23 then 1 else x
/-- the bit of a hold, as both sides make it -/
def bitH (h : Nat) : Int32 := (1 : Int32) <<< (nI h &&& 31)
noncomputable def fst1 (t : Tp) (n : Nat) (f d : Nat) (K : List (Nat × Nat)) (p : Nat) (R : Rg) : Cf :=
  match f with
  | 0 => if kd t n p = 21 ∨ (16 ≤ kd t n p ∧ kd t n p ≤ 18) ∨ kd t n p = 2 ∨ kd t n p = 3 ∨ kd t n p = 11 ∨ kd t n p = 8 then (K, nx t n p, 0, R) else if kd t n p = 35 then (if d = 6 then (K, p, fwf (kd t n p) 4, R) else ((3, d + 1) :: (20, 36) :: K, nx t n p, 0, R)) else (K, p, fwf (kd t n p) 2, R)
  | 20 => if kd t n p = d then (K, nx t n p, 0, R) else (K, p, fwf (kd t n p) 2, R)
  | 1 => ((0, d) :: (2, d) :: K, p, 0, R)
  | 2 => if kd t n p = 34 then ((0, d) :: (2, d) :: K, nx t n p, 0, R) else (K, p, 0, R)
  | 3 => ((1, d) :: (4, d) :: K, p, 0, R)
  | 4 => if kd t n p = 32 ∨ kd t n p = 33 then ((1, d) :: (4, d) :: K, nx t n p, 0, R) else (K, p, 0, R)
  | 5 => if kd t n p = 15 then (if d = 6 then (K, p, fwf (kd t n p) 4, R) else ((5, d + 1) :: K, nx t n p, 0, R)) else if kd t n p = 37 then (if d = 6 then (K, p, fwf (kd t n p) 4, R) else ((8, d + 1) :: (20, 38) :: K, nx t n p, 0, R)) else ((3, d) :: (21, d) :: K, p, 0, R)
  | 21 => if 39 ≤ kd t n p ∧ kd t n p ≤ 41 then ((3, d) :: K, nx t n p, 0, R) else (K, p, fwf (kd t n p) 2, R)
  | 6 => ((5, d) :: (7, d) :: K, p, 0, R)
  | 7 => if kd t n p = 14 then ((5, d) :: (7, d) :: K, nx t n p, 0, R) else (K, p, 0, R)
  | 8 => ((6, d) :: (9, d) :: K, p, 0, R)
  | 9 => if kd t n p = 13 then ((6, d) :: (9, d) :: K, nx t n p, 0, R) else (K, p, 0, R)
  | 22 => if kd t n p = 21 then (if nv t n p ≤ (d : Int) then (K, nx t n p, 0, R) else (K, p, fwf (kd t n p) 3, R)) else (K, p, fwf (kd t n p) 2, R)
  | 30 => if kd t n p = 22 then (K, p, 0, R) else ((31, 0) :: (20, 30) :: (32, 0) :: K, p, 0, R)
  | 32 => ((30, 0) :: K, p, 0, (R.1, R.2.1, R.2.2.1, R.2.2.2.1, R.2.2.2.2 + 1))
  | 31 => if kd t n p = 0 then (if 14 ≤ R.1 then (K, p, fwf (kd t n p) 4, R) else ((22, 99) :: (22, 99) :: (33, 0) :: K, nx t n p, 0, R)) else if kd t n p = 1 then (if 5 ≤ R.2.1 then (K, p, fwf (kd t n p) 4, R) else ((20, 2) :: (22, 99) :: (34, 0) :: K, nx t n p, 0, R)) else if kd t n p = 4 then ((20, 31) :: (8, 0) :: K, nx t n p, 0, R) else if kd t n p = 5 then ((35, 0) :: (20, 6) :: (36, 0) :: K, nx t n p, 0, R) else if kd t n p = 7 then ((37, 0) :: K, nx t n p, 0, R) else if kd t n p = 8 then ((22, 999) :: K, nx t n p, 0, R) else (K, p, fwf (kd t n p) 2, R)
  | 33 => if kd t n p = 9 then ((33, 0) :: K, nx t n p, 0, (R.1, R.2.1, R.2.2.1 ||| bitH R.1, R.2.2.2)) else if kd t n p = 10 then ((33, 0) :: K, nx t n p, 0, (R.1, R.2.1, R.2.2.1, R.2.2.2.1 ||| bitH R.1, R.2.2.2.2)) else if kd t n p = 11 then ((33, 0) :: K, nx t n p, 0, R) else if kd t n p = 12 then ((22, 999) :: (33, 0) :: K, nx t n p, 0, R) else (K, p, 0, (R.1 + 1, R.2))
  | 34 => if kd t n p = 3 then ((22, 99) :: (38, 0) :: K, nx t n p, 0, R) else ((38, 0) :: K, p, 0, R)
  | 38 => (K, p, 0, (R.1, R.2.1 + 1, R.2.2))
  | 35 => if kd t n p = 21 then (if nv t n p < (R.1 : Int) ∧ (R.2.2.1 ||| R.2.2.2.1).toBitVec.getLsbD (nv t n p).toNat = false then (K, nx t n p, 0, R) else (K, p, fwf (kd t n p) 3, R)) else (K, p, fwf (kd t n p) 2, R)
  | 36 => if kd t n p = 21 then (if nv t n p < (R.2.1 : Int) then (K, nx t n p, 0, R) else (K, p, fwf (kd t n p) 3, R)) else (K, p, fwf (kd t n p) 2, R)
  | 37 => if kd t n p = 21 then (if nv t n p < (R.1 : Int) then (K, nx t n p, 0, R) else (K, p, fwf (kd t n p) 3, R)) else (K, p, fwf (kd t n p) 2, R)
  | _ => (K, p, 0, R)
noncomputable def stp (t : Tp) (n : Nat) (c : Cf) : Cf := if c.2.2.1 ≠ 0 then c else match c.1 with
  | [] => c
  | (f, d) :: K => fst1 t n f d K c.2.1 c.2.2.2
noncomputable def it (t : Tp) (n : Nat) : Nat → Cf → Cf
  | 0, c => c
  | k + 1, c => it t n k (stp t n c)
def RT (t : Tp) (n : Nat) (c c' : Cf) : Prop := ∃ k, it t n k c = c'
theorem RT.rf {t : Tp} {n : Nat} {c : Cf} : RT t n c c := ⟨0, rfl⟩
theorem it_add {t : Tp} {n : Nat} : ∀ (k j : Nat) (c : Cf), it t n (k + j) c = it t n j (it t n k c) := by
  intro k
  induction k with
  | zero => intro j c; rw [Nat.zero_add]; rfl
  | succ k ih => intro j c; rw [Nat.succ_add]; exact ih j _
theorem RT.tr {t : Tp} {n : Nat} {a b c : Cf} (h1 : RT t n a b) (h2 : RT t n b c) : RT t n a c := by
  obtain ⟨k, h1⟩ := h1
  obtain ⟨j, h2⟩ := h2
  exact ⟨k + j, by rw [it_add, h1, h2]⟩
theorem RT.st {t : Tp} {n : Nat} {a b : Cf} (h : stp t n a = b) : RT t n a b := ⟨1, h⟩
def hlt (c : Cf) : Prop := c.2.2.1 ≠ 0 ∨ c.1 = []
theorem stp_h {t : Tp} {n : Nat} {c : Cf} (h : hlt c) : stp t n c = c := by
  unfold stp
  by_cases hw : c.2.2.1 = 0
  · rw [if_neg (fun q => q hw), h.resolve_left (fun q => q hw)]
  · rw [if_pos hw]
theorem RT.fs {t : Tp} {n f d p : Nat} {K : List (Nat × Nat)} {R : Rg} {c : Cf} (h : fst1 t n f d K p R = c) : RT t n ((f, d) :: K, p, 0, R) c := by
  have e : stp t n ((f, d) :: K, p, 0, R) = c := by
    unfold stp
    rw [if_neg (by show ¬ (0 : Int) ≠ 0; omega)]
    exact h
  exact ⟨1, e⟩
theorem it_h {t : Tp} {n : Nat} {c : Cf} (h : hlt c) : ∀ k, it t n k c = c := by
  intro k
  induction k with
  | zero => rfl
  | succ k ih => show it t n k (stp t n c) = c; rw [stp_h h]; exact ih
theorem RT.eq {t : Tp} {n : Nat} {c a b : Cf} (h1 : RT t n c a) (h2 : RT t n c b) (ha : hlt a) (hb : hlt b) : a = b := by
  obtain ⟨k, h1⟩ := h1
  obtain ⟨j, h2⟩ := h2
  by_cases q : k ≤ j
  · rw [show j = k + (j - k) by omega, it_add, h1, it_h ha] at h2
    exact h2
  · rw [show k = j + (k - j) by omega, it_add, h2, it_h hb] at h1
    exact h1.symm
/-! a step of each frame -/
section Steps
variable {t : Tp} {n d p : Nat} {K : List (Nat × Nat)} {R : Rg}
theorem st_aV (h : (kd t n p = 21 ∨ (16 ≤ kd t n p ∧ kd t n p ≤ 18) ∨ kd t n p = 2 ∨ kd t n p = 3 ∨ kd t n p = 11 ∨ kd t n p = 8)) : RT t n ((0, d) :: K, p, 0, R) (K, nx t n p, 0, R) := RT.fs (show (if kd t n p = 21 ∨ (16 ≤ kd t n p ∧ kd t n p ≤ 18) ∨ kd t n p = 2 ∨ kd t n p = 3 ∨ kd t n p = 11 ∨ kd t n p = 8 then (K, nx t n p, 0, R) else if kd t n p = 35 then (if d = 6 then (K, p, fwf (kd t n p) 4, R) else ((3, d + 1) :: (20, 36) :: K, nx t n p, 0, R)) else (K, p, fwf (kd t n p) 2, R) : Cf) = _ by rw [if_pos h])
theorem st_aP (h : kd t n p = 35) (hd : d ≠ 6) : RT t n ((0, d) :: K, p, 0, R) ((3, d + 1) :: (20, 36) :: K, nx t n p, 0, R) := RT.fs (show (if kd t n p = 21 ∨ (16 ≤ kd t n p ∧ kd t n p ≤ 18) ∨ kd t n p = 2 ∨ kd t n p = 3 ∨ kd t n p = 11 ∨ kd t n p = 8 then (K, nx t n p, 0, R) else if kd t n p = 35 then (if d = 6 then (K, p, fwf (kd t n p) 4, R) else ((3, d + 1) :: (20, 36) :: K, nx t n p, 0, R)) else (K, p, fwf (kd t n p) 2, R) : Cf) = _ by rw [if_neg (by omega), if_pos h, if_neg hd])
theorem st_aD (h : kd t n p = 35) : RT t n ((0, 6) :: K, p, 0, R) (K, p, fwf (kd t n p) 4, R) := RT.fs (show (if kd t n p = 21 ∨ (16 ≤ kd t n p ∧ kd t n p ≤ 18) ∨ kd t n p = 2 ∨ kd t n p = 3 ∨ kd t n p = 11 ∨ kd t n p = 8 then (K, nx t n p, 0, R) else if kd t n p = 35 then (if 6 = 6 then (K, p, fwf (kd t n p) 4, R) else ((3, 6 + 1) :: (20, 36) :: K, nx t n p, 0, R)) else (K, p, fwf (kd t n p) 2, R) : Cf) = _ by rw [if_neg (by omega), if_pos h, if_pos rfl])
theorem st_aN (h : ¬ (kd t n p = 21 ∨ (16 ≤ kd t n p ∧ kd t n p ≤ 18) ∨ kd t n p = 2 ∨ kd t n p = 3 ∨ kd t n p = 11 ∨ kd t n p = 8)) (h2 : kd t n p ≠ 35) : RT t n ((0, d) :: K, p, 0, R) (K, p, fwf (kd t n p) 2, R) := RT.fs (show (if kd t n p = 21 ∨ (16 ≤ kd t n p ∧ kd t n p ≤ 18) ∨ kd t n p = 2 ∨ kd t n p = 3 ∨ kd t n p = 11 ∨ kd t n p = 8 then (K, nx t n p, 0, R) else if kd t n p = 35 then (if d = 6 then (K, p, fwf (kd t n p) 4, R) else ((3, d + 1) :: (20, 36) :: K, nx t n p, 0, R)) else (K, p, fwf (kd t n p) 2, R) : Cf) = _ by rw [if_neg h, if_neg h2])
theorem st_xY (h : kd t n p = d) : RT t n ((20, d) :: K, p, 0, R) (K, nx t n p, 0, R) := RT.fs (show (if kd t n p = d then (K, nx t n p, 0, R) else (K, p, fwf (kd t n p) 2, R) : Cf) = _ by rw [if_pos h])
theorem st_xN (h : kd t n p ≠ d) : RT t n ((20, d) :: K, p, 0, R) (K, p, fwf (kd t n p) 2, R) := RT.fs (show (if kd t n p = d then (K, nx t n p, 0, R) else (K, p, fwf (kd t n p) 2, R) : Cf) = _ by rw [if_neg h])
theorem st_t  : RT t n ((1, d) :: K, p, 0, R) ((0, d) :: (2, d) :: K, p, 0, R) := RT.fs (rfl)
theorem st_tY (h : kd t n p = 34) : RT t n ((2, d) :: K, p, 0, R) ((0, d) :: (2, d) :: K, nx t n p, 0, R) := RT.fs (show (if kd t n p = 34 then ((0, d) :: (2, d) :: K, nx t n p, 0, R) else (K, p, 0, R) : Cf) = _ by rw [if_pos h])
theorem st_tN (h : kd t n p ≠ 34) : RT t n ((2, d) :: K, p, 0, R) (K, p, 0, R) := RT.fs (show (if kd t n p = 34 then ((0, d) :: (2, d) :: K, nx t n p, 0, R) else (K, p, 0, R) : Cf) = _ by rw [if_neg h])
theorem st_s  : RT t n ((3, d) :: K, p, 0, R) ((1, d) :: (4, d) :: K, p, 0, R) := RT.fs (rfl)
theorem st_sY (h : kd t n p = 32 ∨ kd t n p = 33) : RT t n ((4, d) :: K, p, 0, R) ((1, d) :: (4, d) :: K, nx t n p, 0, R) := RT.fs (show (if kd t n p = 32 ∨ kd t n p = 33 then ((1, d) :: (4, d) :: K, nx t n p, 0, R) else (K, p, 0, R) : Cf) = _ by rw [if_pos h])
theorem st_sN (h : ¬ (kd t n p = 32 ∨ kd t n p = 33)) : RT t n ((4, d) :: K, p, 0, R) (K, p, 0, R) := RT.fs (show (if kd t n p = 32 ∨ kd t n p = 33 then ((1, d) :: (4, d) :: K, nx t n p, 0, R) else (K, p, 0, R) : Cf) = _ by rw [if_neg h])
theorem st_uN (h : kd t n p = 15) (hd : d ≠ 6) : RT t n ((5, d) :: K, p, 0, R) ((5, d + 1) :: K, nx t n p, 0, R) := RT.fs (show (if kd t n p = 15 then (if d = 6 then (K, p, fwf (kd t n p) 4, R) else ((5, d + 1) :: K, nx t n p, 0, R)) else if kd t n p = 37 then (if d = 6 then (K, p, fwf (kd t n p) 4, R) else ((8, d + 1) :: (20, 38) :: K, nx t n p, 0, R)) else ((3, d) :: (21, d) :: K, p, 0, R) : Cf) = _ by rw [if_pos h, if_neg hd])
theorem st_uND (h : kd t n p = 15) : RT t n ((5, 6) :: K, p, 0, R) (K, p, fwf (kd t n p) 4, R) := RT.fs (show (if kd t n p = 15 then (if 6 = 6 then (K, p, fwf (kd t n p) 4, R) else ((5, 6 + 1) :: K, nx t n p, 0, R)) else if kd t n p = 37 then (if 6 = 6 then (K, p, fwf (kd t n p) 4, R) else ((8, 6 + 1) :: (20, 38) :: K, nx t n p, 0, R)) else ((3, 6) :: (21, 6) :: K, p, 0, R) : Cf) = _ by rw [if_pos h, if_pos rfl])
theorem st_uB (h : kd t n p = 37) (hd : d ≠ 6) : RT t n ((5, d) :: K, p, 0, R) ((8, d + 1) :: (20, 38) :: K, nx t n p, 0, R) := RT.fs (show (if kd t n p = 15 then (if d = 6 then (K, p, fwf (kd t n p) 4, R) else ((5, d + 1) :: K, nx t n p, 0, R)) else if kd t n p = 37 then (if d = 6 then (K, p, fwf (kd t n p) 4, R) else ((8, d + 1) :: (20, 38) :: K, nx t n p, 0, R)) else ((3, d) :: (21, d) :: K, p, 0, R) : Cf) = _ by rw [if_neg (by omega), if_pos h, if_neg hd])
theorem st_uBD (h : kd t n p = 37) : RT t n ((5, 6) :: K, p, 0, R) (K, p, fwf (kd t n p) 4, R) := RT.fs (show (if kd t n p = 15 then (if 6 = 6 then (K, p, fwf (kd t n p) 4, R) else ((5, 6 + 1) :: K, nx t n p, 0, R)) else if kd t n p = 37 then (if 6 = 6 then (K, p, fwf (kd t n p) 4, R) else ((8, 6 + 1) :: (20, 38) :: K, nx t n p, 0, R)) else ((3, 6) :: (21, 6) :: K, p, 0, R) : Cf) = _ by rw [if_neg (by omega), if_pos h, if_pos rfl])
theorem st_uS (h : kd t n p ≠ 15) (h2 : kd t n p ≠ 37) : RT t n ((5, d) :: K, p, 0, R) ((3, d) :: (21, d) :: K, p, 0, R) := RT.fs (show (if kd t n p = 15 then (if d = 6 then (K, p, fwf (kd t n p) 4, R) else ((5, d + 1) :: K, nx t n p, 0, R)) else if kd t n p = 37 then (if d = 6 then (K, p, fwf (kd t n p) 4, R) else ((8, d + 1) :: (20, 38) :: K, nx t n p, 0, R)) else ((3, d) :: (21, d) :: K, p, 0, R) : Cf) = _ by rw [if_neg h, if_neg h2])
theorem st_cY (h : 39 ≤ kd t n p ∧ kd t n p ≤ 41) : RT t n ((21, d) :: K, p, 0, R) ((3, d) :: K, nx t n p, 0, R) := RT.fs (show (if 39 ≤ kd t n p ∧ kd t n p ≤ 41 then ((3, d) :: K, nx t n p, 0, R) else (K, p, fwf (kd t n p) 2, R) : Cf) = _ by rw [if_pos h])
theorem st_cN (h : ¬ (39 ≤ kd t n p ∧ kd t n p ≤ 41)) : RT t n ((21, d) :: K, p, 0, R) (K, p, fwf (kd t n p) 2, R) := RT.fs (show (if 39 ≤ kd t n p ∧ kd t n p ≤ 41 then ((3, d) :: K, nx t n p, 0, R) else (K, p, fwf (kd t n p) 2, R) : Cf) = _ by rw [if_neg h])
theorem st_b  : RT t n ((6, d) :: K, p, 0, R) ((5, d) :: (7, d) :: K, p, 0, R) := RT.fs (rfl)
theorem st_bY (h : kd t n p = 14) : RT t n ((7, d) :: K, p, 0, R) ((5, d) :: (7, d) :: K, nx t n p, 0, R) := RT.fs (show (if kd t n p = 14 then ((5, d) :: (7, d) :: K, nx t n p, 0, R) else (K, p, 0, R) : Cf) = _ by rw [if_pos h])
theorem st_bN (h : kd t n p ≠ 14) : RT t n ((7, d) :: K, p, 0, R) (K, p, 0, R) := RT.fs (show (if kd t n p = 14 then ((5, d) :: (7, d) :: K, nx t n p, 0, R) else (K, p, 0, R) : Cf) = _ by rw [if_neg h])
theorem st_r  : RT t n ((8, d) :: K, p, 0, R) ((6, d) :: (9, d) :: K, p, 0, R) := RT.fs (rfl)
theorem st_rY (h : kd t n p = 13) : RT t n ((9, d) :: K, p, 0, R) ((6, d) :: (9, d) :: K, nx t n p, 0, R) := RT.fs (show (if kd t n p = 13 then ((6, d) :: (9, d) :: K, nx t n p, 0, R) else (K, p, 0, R) : Cf) = _ by rw [if_pos h])
theorem st_rN (h : kd t n p ≠ 13) : RT t n ((9, d) :: K, p, 0, R) (K, p, 0, R) := RT.fs (show (if kd t n p = 13 then ((6, d) :: (9, d) :: K, nx t n p, 0, R) else (K, p, 0, R) : Cf) = _ by rw [if_neg h])
theorem st_nY (h : kd t n p = 21) (h2 : nv t n p ≤ (d : Int)) : RT t n ((22, d) :: K, p, 0, R) (K, nx t n p, 0, R) := RT.fs (show (if kd t n p = 21 then (if nv t n p ≤ (d : Int) then (K, nx t n p, 0, R) else (K, p, fwf (kd t n p) 3, R)) else (K, p, fwf (kd t n p) 2, R) : Cf) = _ by rw [if_pos h, if_pos h2])
theorem st_nB (h : kd t n p = 21) (h2 : ¬ nv t n p ≤ (d : Int)) : RT t n ((22, d) :: K, p, 0, R) (K, p, fwf (kd t n p) 3, R) := RT.fs (show (if kd t n p = 21 then (if nv t n p ≤ (d : Int) then (K, nx t n p, 0, R) else (K, p, fwf (kd t n p) 3, R)) else (K, p, fwf (kd t n p) 2, R) : Cf) = _ by rw [if_pos h, if_neg h2])
theorem st_nN (h : kd t n p ≠ 21) : RT t n ((22, d) :: K, p, 0, R) (K, p, fwf (kd t n p) 2, R) := RT.fs (show (if kd t n p = 21 then (if nv t n p ≤ (d : Int) then (K, nx t n p, 0, R) else (K, p, fwf (kd t n p) 3, R)) else (K, p, fwf (kd t n p) 2, R) : Cf) = _ by rw [if_neg h])
theorem st_lE (h : kd t n p = 22) : RT t n ((30, d) :: K, p, 0, R) (K, p, 0, R) := RT.fs (show (if kd t n p = 22 then (K, p, 0, R) else ((31, 0) :: (20, 30) :: (32, 0) :: K, p, 0, R) : Cf) = _ by rw [if_pos h])
theorem st_lL (h : kd t n p ≠ 22) : RT t n ((30, d) :: K, p, 0, R) ((31, 0) :: (20, 30) :: (32, 0) :: K, p, 0, R) := RT.fs (show (if kd t n p = 22 then (K, p, 0, R) else ((31, 0) :: (20, 30) :: (32, 0) :: K, p, 0, R) : Cf) = _ by rw [if_neg h])
theorem st_lC  : RT t n ((32, d) :: K, p, 0, R) ((30, 0) :: K, p, 0, (R.1, R.2.1, R.2.2.1, R.2.2.2.1, R.2.2.2.2 + 1)) := RT.fs (rfl)
theorem st_iH (h : kd t n p = 0) (h2 : ¬ 14 ≤ R.1) : RT t n ((31, d) :: K, p, 0, R) ((22, 99) :: (22, 99) :: (33, 0) :: K, nx t n p, 0, R) := RT.fs (show (if kd t n p = 0 then (if 14 ≤ R.1 then (K, p, fwf (kd t n p) 4, R) else ((22, 99) :: (22, 99) :: (33, 0) :: K, nx t n p, 0, R)) else if kd t n p = 1 then (if 5 ≤ R.2.1 then (K, p, fwf (kd t n p) 4, R) else ((20, 2) :: (22, 99) :: (34, 0) :: K, nx t n p, 0, R)) else if kd t n p = 4 then ((20, 31) :: (8, 0) :: K, nx t n p, 0, R) else if kd t n p = 5 then ((35, 0) :: (20, 6) :: (36, 0) :: K, nx t n p, 0, R) else if kd t n p = 7 then ((37, 0) :: K, nx t n p, 0, R) else if kd t n p = 8 then ((22, 999) :: K, nx t n p, 0, R) else (K, p, fwf (kd t n p) 2, R) : Cf) = _ by rw [if_pos h, if_neg h2])
theorem st_iHM (h : kd t n p = 0) (h2 : 14 ≤ R.1) : RT t n ((31, d) :: K, p, 0, R) (K, p, fwf (kd t n p) 4, R) := RT.fs (show (if kd t n p = 0 then (if 14 ≤ R.1 then (K, p, fwf (kd t n p) 4, R) else ((22, 99) :: (22, 99) :: (33, 0) :: K, nx t n p, 0, R)) else if kd t n p = 1 then (if 5 ≤ R.2.1 then (K, p, fwf (kd t n p) 4, R) else ((20, 2) :: (22, 99) :: (34, 0) :: K, nx t n p, 0, R)) else if kd t n p = 4 then ((20, 31) :: (8, 0) :: K, nx t n p, 0, R) else if kd t n p = 5 then ((35, 0) :: (20, 6) :: (36, 0) :: K, nx t n p, 0, R) else if kd t n p = 7 then ((37, 0) :: K, nx t n p, 0, R) else if kd t n p = 8 then ((22, 999) :: K, nx t n p, 0, R) else (K, p, fwf (kd t n p) 2, R) : Cf) = _ by rw [if_pos h, if_pos h2])
theorem st_iG (h : kd t n p = 1) (h2 : ¬ 5 ≤ R.2.1) : RT t n ((31, d) :: K, p, 0, R) ((20, 2) :: (22, 99) :: (34, 0) :: K, nx t n p, 0, R) := RT.fs (show (if kd t n p = 0 then (if 14 ≤ R.1 then (K, p, fwf (kd t n p) 4, R) else ((22, 99) :: (22, 99) :: (33, 0) :: K, nx t n p, 0, R)) else if kd t n p = 1 then (if 5 ≤ R.2.1 then (K, p, fwf (kd t n p) 4, R) else ((20, 2) :: (22, 99) :: (34, 0) :: K, nx t n p, 0, R)) else if kd t n p = 4 then ((20, 31) :: (8, 0) :: K, nx t n p, 0, R) else if kd t n p = 5 then ((35, 0) :: (20, 6) :: (36, 0) :: K, nx t n p, 0, R) else if kd t n p = 7 then ((37, 0) :: K, nx t n p, 0, R) else if kd t n p = 8 then ((22, 999) :: K, nx t n p, 0, R) else (K, p, fwf (kd t n p) 2, R) : Cf) = _ by rw [if_neg (by omega), if_pos h, if_neg h2])
theorem st_iGM (h : kd t n p = 1) (h2 : 5 ≤ R.2.1) : RT t n ((31, d) :: K, p, 0, R) (K, p, fwf (kd t n p) 4, R) := RT.fs (show (if kd t n p = 0 then (if 14 ≤ R.1 then (K, p, fwf (kd t n p) 4, R) else ((22, 99) :: (22, 99) :: (33, 0) :: K, nx t n p, 0, R)) else if kd t n p = 1 then (if 5 ≤ R.2.1 then (K, p, fwf (kd t n p) 4, R) else ((20, 2) :: (22, 99) :: (34, 0) :: K, nx t n p, 0, R)) else if kd t n p = 4 then ((20, 31) :: (8, 0) :: K, nx t n p, 0, R) else if kd t n p = 5 then ((35, 0) :: (20, 6) :: (36, 0) :: K, nx t n p, 0, R) else if kd t n p = 7 then ((37, 0) :: K, nx t n p, 0, R) else if kd t n p = 8 then ((22, 999) :: K, nx t n p, 0, R) else (K, p, fwf (kd t n p) 2, R) : Cf) = _ by rw [if_neg (by omega), if_pos h, if_pos h2])
theorem st_iS (h : kd t n p = 4) : RT t n ((31, d) :: K, p, 0, R) ((20, 31) :: (8, 0) :: K, nx t n p, 0, R) := RT.fs (show (if kd t n p = 0 then (if 14 ≤ R.1 then (K, p, fwf (kd t n p) 4, R) else ((22, 99) :: (22, 99) :: (33, 0) :: K, nx t n p, 0, R)) else if kd t n p = 1 then (if 5 ≤ R.2.1 then (K, p, fwf (kd t n p) 4, R) else ((20, 2) :: (22, 99) :: (34, 0) :: K, nx t n p, 0, R)) else if kd t n p = 4 then ((20, 31) :: (8, 0) :: K, nx t n p, 0, R) else if kd t n p = 5 then ((35, 0) :: (20, 6) :: (36, 0) :: K, nx t n p, 0, R) else if kd t n p = 7 then ((37, 0) :: K, nx t n p, 0, R) else if kd t n p = 8 then ((22, 999) :: K, nx t n p, 0, R) else (K, p, fwf (kd t n p) 2, R) : Cf) = _ by rw [if_neg (by omega), if_neg (by omega), if_pos h])
theorem st_iU (h : kd t n p = 5) : RT t n ((31, d) :: K, p, 0, R) ((35, 0) :: (20, 6) :: (36, 0) :: K, nx t n p, 0, R) := RT.fs (show (if kd t n p = 0 then (if 14 ≤ R.1 then (K, p, fwf (kd t n p) 4, R) else ((22, 99) :: (22, 99) :: (33, 0) :: K, nx t n p, 0, R)) else if kd t n p = 1 then (if 5 ≤ R.2.1 then (K, p, fwf (kd t n p) 4, R) else ((20, 2) :: (22, 99) :: (34, 0) :: K, nx t n p, 0, R)) else if kd t n p = 4 then ((20, 31) :: (8, 0) :: K, nx t n p, 0, R) else if kd t n p = 5 then ((35, 0) :: (20, 6) :: (36, 0) :: K, nx t n p, 0, R) else if kd t n p = 7 then ((37, 0) :: K, nx t n p, 0, R) else if kd t n p = 8 then ((22, 999) :: K, nx t n p, 0, R) else (K, p, fwf (kd t n p) 2, R) : Cf) = _ by rw [if_neg (by omega), if_neg (by omega), if_neg (by omega), if_pos h])
theorem st_iB (h : kd t n p = 7) : RT t n ((31, d) :: K, p, 0, R) ((37, 0) :: K, nx t n p, 0, R) := RT.fs (show (if kd t n p = 0 then (if 14 ≤ R.1 then (K, p, fwf (kd t n p) 4, R) else ((22, 99) :: (22, 99) :: (33, 0) :: K, nx t n p, 0, R)) else if kd t n p = 1 then (if 5 ≤ R.2.1 then (K, p, fwf (kd t n p) 4, R) else ((20, 2) :: (22, 99) :: (34, 0) :: K, nx t n p, 0, R)) else if kd t n p = 4 then ((20, 31) :: (8, 0) :: K, nx t n p, 0, R) else if kd t n p = 5 then ((35, 0) :: (20, 6) :: (36, 0) :: K, nx t n p, 0, R) else if kd t n p = 7 then ((37, 0) :: K, nx t n p, 0, R) else if kd t n p = 8 then ((22, 999) :: K, nx t n p, 0, R) else (K, p, fwf (kd t n p) 2, R) : Cf) = _ by rw [if_neg (by omega), if_neg (by omega), if_neg (by omega), if_neg (by omega), if_pos h])
theorem st_iD (h : kd t n p = 8) : RT t n ((31, d) :: K, p, 0, R) ((22, 999) :: K, nx t n p, 0, R) := RT.fs (show (if kd t n p = 0 then (if 14 ≤ R.1 then (K, p, fwf (kd t n p) 4, R) else ((22, 99) :: (22, 99) :: (33, 0) :: K, nx t n p, 0, R)) else if kd t n p = 1 then (if 5 ≤ R.2.1 then (K, p, fwf (kd t n p) 4, R) else ((20, 2) :: (22, 99) :: (34, 0) :: K, nx t n p, 0, R)) else if kd t n p = 4 then ((20, 31) :: (8, 0) :: K, nx t n p, 0, R) else if kd t n p = 5 then ((35, 0) :: (20, 6) :: (36, 0) :: K, nx t n p, 0, R) else if kd t n p = 7 then ((37, 0) :: K, nx t n p, 0, R) else if kd t n p = 8 then ((22, 999) :: K, nx t n p, 0, R) else (K, p, fwf (kd t n p) 2, R) : Cf) = _ by rw [if_neg (by omega), if_neg (by omega), if_neg (by omega), if_neg (by omega), if_neg (by omega), if_pos h])
theorem st_iN (h : kd t n p ≠ 0 ∧ kd t n p ≠ 1 ∧ kd t n p ≠ 4 ∧ kd t n p ≠ 5 ∧ kd t n p ≠ 7 ∧ kd t n p ≠ 8) : RT t n ((31, d) :: K, p, 0, R) (K, p, fwf (kd t n p) 2, R) := RT.fs (show (if kd t n p = 0 then (if 14 ≤ R.1 then (K, p, fwf (kd t n p) 4, R) else ((22, 99) :: (22, 99) :: (33, 0) :: K, nx t n p, 0, R)) else if kd t n p = 1 then (if 5 ≤ R.2.1 then (K, p, fwf (kd t n p) 4, R) else ((20, 2) :: (22, 99) :: (34, 0) :: K, nx t n p, 0, R)) else if kd t n p = 4 then ((20, 31) :: (8, 0) :: K, nx t n p, 0, R) else if kd t n p = 5 then ((35, 0) :: (20, 6) :: (36, 0) :: K, nx t n p, 0, R) else if kd t n p = 7 then ((37, 0) :: K, nx t n p, 0, R) else if kd t n p = 8 then ((22, 999) :: K, nx t n p, 0, R) else (K, p, fwf (kd t n p) 2, R) : Cf) = _ by rw [if_neg (by omega), if_neg (by omega), if_neg (by omega), if_neg (by omega), if_neg (by omega), if_neg (by omega)])
theorem st_fS (h : kd t n p = 9) : RT t n ((33, d) :: K, p, 0, R) ((33, 0) :: K, nx t n p, 0, (R.1, R.2.1, R.2.2.1 ||| bitH R.1, R.2.2.2)) := RT.fs (show (if kd t n p = 9 then ((33, 0) :: K, nx t n p, 0, (R.1, R.2.1, R.2.2.1 ||| bitH R.1, R.2.2.2)) else if kd t n p = 10 then ((33, 0) :: K, nx t n p, 0, (R.1, R.2.1, R.2.2.1, R.2.2.2.1 ||| bitH R.1, R.2.2.2.2)) else if kd t n p = 11 then ((33, 0) :: K, nx t n p, 0, R) else if kd t n p = 12 then ((22, 999) :: (33, 0) :: K, nx t n p, 0, R) else (K, p, 0, (R.1 + 1, R.2)) : Cf) = _ by rw [if_pos h])
theorem st_fT (h : kd t n p = 10) : RT t n ((33, d) :: K, p, 0, R) ((33, 0) :: K, nx t n p, 0, (R.1, R.2.1, R.2.2.1, R.2.2.2.1 ||| bitH R.1, R.2.2.2.2)) := RT.fs (show (if kd t n p = 9 then ((33, 0) :: K, nx t n p, 0, (R.1, R.2.1, R.2.2.1 ||| bitH R.1, R.2.2.2)) else if kd t n p = 10 then ((33, 0) :: K, nx t n p, 0, (R.1, R.2.1, R.2.2.1, R.2.2.2.1 ||| bitH R.1, R.2.2.2.2)) else if kd t n p = 11 then ((33, 0) :: K, nx t n p, 0, R) else if kd t n p = 12 then ((22, 999) :: (33, 0) :: K, nx t n p, 0, R) else (K, p, 0, (R.1 + 1, R.2)) : Cf) = _ by rw [if_neg (by omega), if_pos h])
theorem st_fW (h : kd t n p = 11) : RT t n ((33, d) :: K, p, 0, R) ((33, 0) :: K, nx t n p, 0, R) := RT.fs (show (if kd t n p = 9 then ((33, 0) :: K, nx t n p, 0, (R.1, R.2.1, R.2.2.1 ||| bitH R.1, R.2.2.2)) else if kd t n p = 10 then ((33, 0) :: K, nx t n p, 0, (R.1, R.2.1, R.2.2.1, R.2.2.2.1 ||| bitH R.1, R.2.2.2.2)) else if kd t n p = 11 then ((33, 0) :: K, nx t n p, 0, R) else if kd t n p = 12 then ((22, 999) :: (33, 0) :: K, nx t n p, 0, R) else (K, p, 0, (R.1 + 1, R.2)) : Cf) = _ by rw [if_neg (by omega), if_neg (by omega), if_pos h])
theorem st_fI (h : kd t n p = 12) : RT t n ((33, d) :: K, p, 0, R) ((22, 999) :: (33, 0) :: K, nx t n p, 0, R) := RT.fs (show (if kd t n p = 9 then ((33, 0) :: K, nx t n p, 0, (R.1, R.2.1, R.2.2.1 ||| bitH R.1, R.2.2.2)) else if kd t n p = 10 then ((33, 0) :: K, nx t n p, 0, (R.1, R.2.1, R.2.2.1, R.2.2.2.1 ||| bitH R.1, R.2.2.2.2)) else if kd t n p = 11 then ((33, 0) :: K, nx t n p, 0, R) else if kd t n p = 12 then ((22, 999) :: (33, 0) :: K, nx t n p, 0, R) else (K, p, 0, (R.1 + 1, R.2)) : Cf) = _ by rw [if_neg (by omega), if_neg (by omega), if_neg (by omega), if_pos h])
theorem st_fE (h : ¬ (9 ≤ kd t n p ∧ kd t n p ≤ 12)) : RT t n ((33, d) :: K, p, 0, R) (K, p, 0, (R.1 + 1, R.2)) := RT.fs (show (if kd t n p = 9 then ((33, 0) :: K, nx t n p, 0, (R.1, R.2.1, R.2.2.1 ||| bitH R.1, R.2.2.2)) else if kd t n p = 10 then ((33, 0) :: K, nx t n p, 0, (R.1, R.2.1, R.2.2.1, R.2.2.2.1 ||| bitH R.1, R.2.2.2.2)) else if kd t n p = 11 then ((33, 0) :: K, nx t n p, 0, R) else if kd t n p = 12 then ((22, 999) :: (33, 0) :: K, nx t n p, 0, R) else (K, p, 0, (R.1 + 1, R.2)) : Cf) = _ by rw [if_neg (by omega), if_neg (by omega), if_neg (by omega), if_neg (by omega)])
theorem st_gW (h : kd t n p = 3) : RT t n ((34, d) :: K, p, 0, R) ((22, 99) :: (38, 0) :: K, nx t n p, 0, R) := RT.fs (show (if kd t n p = 3 then ((22, 99) :: (38, 0) :: K, nx t n p, 0, R) else ((38, 0) :: K, p, 0, R) : Cf) = _ by rw [if_pos h])
theorem st_gN (h : kd t n p ≠ 3) : RT t n ((34, d) :: K, p, 0, R) ((38, 0) :: K, p, 0, R) := RT.fs (show (if kd t n p = 3 then ((22, 99) :: (38, 0) :: K, nx t n p, 0, R) else ((38, 0) :: K, p, 0, R) : Cf) = _ by rw [if_neg h])
theorem st_gC  : RT t n ((38, d) :: K, p, 0, R) (K, p, 0, (R.1, R.2.1 + 1, R.2.2)) := RT.fs (rfl)
theorem st_hY (h : kd t n p = 21) (h2 : nv t n p < (R.1 : Int) ∧ (R.2.2.1 ||| R.2.2.2.1).toBitVec.getLsbD (nv t n p).toNat = false) : RT t n ((35, d) :: K, p, 0, R) (K, nx t n p, 0, R) := RT.fs (show (if kd t n p = 21 then (if nv t n p < (R.1 : Int) ∧ (R.2.2.1 ||| R.2.2.2.1).toBitVec.getLsbD (nv t n p).toNat = false then (K, nx t n p, 0, R) else (K, p, fwf (kd t n p) 3, R)) else (K, p, fwf (kd t n p) 2, R) : Cf) = _ by rw [if_pos h, if_pos h2])
theorem st_hB (h : kd t n p = 21) (h2 : ¬ (nv t n p < (R.1 : Int) ∧ (R.2.2.1 ||| R.2.2.2.1).toBitVec.getLsbD (nv t n p).toNat = false)) : RT t n ((35, d) :: K, p, 0, R) (K, p, fwf (kd t n p) 3, R) := RT.fs (show (if kd t n p = 21 then (if nv t n p < (R.1 : Int) ∧ (R.2.2.1 ||| R.2.2.2.1).toBitVec.getLsbD (nv t n p).toNat = false then (K, nx t n p, 0, R) else (K, p, fwf (kd t n p) 3, R)) else (K, p, fwf (kd t n p) 2, R) : Cf) = _ by rw [if_pos h, if_neg h2])
theorem st_hN (h : kd t n p ≠ 21) : RT t n ((35, d) :: K, p, 0, R) (K, p, fwf (kd t n p) 2, R) := RT.fs (show (if kd t n p = 21 then (if nv t n p < (R.1 : Int) ∧ (R.2.2.1 ||| R.2.2.2.1).toBitVec.getLsbD (nv t n p).toNat = false then (K, nx t n p, 0, R) else (K, p, fwf (kd t n p) 3, R)) else (K, p, fwf (kd t n p) 2, R) : Cf) = _ by rw [if_neg h])
theorem st_gY (h : kd t n p = 21) (h2 : nv t n p < (R.2.1 : Int)) : RT t n ((36, d) :: K, p, 0, R) (K, nx t n p, 0, R) := RT.fs (show (if kd t n p = 21 then (if nv t n p < (R.2.1 : Int) then (K, nx t n p, 0, R) else (K, p, fwf (kd t n p) 3, R)) else (K, p, fwf (kd t n p) 2, R) : Cf) = _ by rw [if_pos h, if_pos h2])
theorem st_gB (h : kd t n p = 21) (h2 : ¬ nv t n p < (R.2.1 : Int)) : RT t n ((36, d) :: K, p, 0, R) (K, p, fwf (kd t n p) 3, R) := RT.fs (show (if kd t n p = 21 then (if nv t n p < (R.2.1 : Int) then (K, nx t n p, 0, R) else (K, p, fwf (kd t n p) 3, R)) else (K, p, fwf (kd t n p) 2, R) : Cf) = _ by rw [if_pos h, if_neg h2])
theorem st_gX (h : kd t n p ≠ 21) : RT t n ((36, d) :: K, p, 0, R) (K, p, fwf (kd t n p) 2, R) := RT.fs (show (if kd t n p = 21 then (if nv t n p < (R.2.1 : Int) then (K, nx t n p, 0, R) else (K, p, fwf (kd t n p) 3, R)) else (K, p, fwf (kd t n p) 2, R) : Cf) = _ by rw [if_neg h])
theorem st_kY (h : kd t n p = 21) (h2 : nv t n p < (R.1 : Int)) : RT t n ((37, d) :: K, p, 0, R) (K, nx t n p, 0, R) := RT.fs (show (if kd t n p = 21 then (if nv t n p < (R.1 : Int) then (K, nx t n p, 0, R) else (K, p, fwf (kd t n p) 3, R)) else (K, p, fwf (kd t n p) 2, R) : Cf) = _ by rw [if_pos h, if_pos h2])
theorem st_kB (h : kd t n p = 21) (h2 : ¬ nv t n p < (R.1 : Int)) : RT t n ((37, d) :: K, p, 0, R) (K, p, fwf (kd t n p) 3, R) := RT.fs (show (if kd t n p = 21 then (if nv t n p < (R.1 : Int) then (K, nx t n p, 0, R) else (K, p, fwf (kd t n p) 3, R)) else (K, p, fwf (kd t n p) 2, R) : Cf) = _ by rw [if_pos h, if_neg h2])
theorem st_kX (h : kd t n p ≠ 21) : RT t n ((37, d) :: K, p, 0, R) (K, p, fwf (kd t n p) 2, R) := RT.fs (show (if kd t n p = 21 then (if nv t n p < (R.1 : Int) then (K, nx t n p, 0, R) else (K, p, fwf (kd t n p) 3, R)) else (K, p, fwf (kd t n p) 2, R) : Cf) = _ by rw [if_neg h])
end Steps
theorem nvl_nn {t : Tp} {s : Nat} : ∀ k, (∀ j, j < k → dgt t (s + j) = true) → 0 ≤ nvl t s k := by
  intro k
  induction k with
  | zero => intro _; exact Int.le_refl _
  | succ k ih =>
    intro h
    have h1 := ih (fun j hj => h j (by omega))
    have h2 := dgt_i.mp (h k (by omega))
    show 0 ≤ 10 * nvl t s k + (t (s + k) - 48)
    omega
theorem run_all {P : Nat → Bool} {n : Nat} : ∀ (k e : Nat), n - e = k → ∀ j, e ≤ j → j < run P n e → P j = true := by
  intro k
  induction k with
  | zero =>
    intro e h j h1 h2
    rw [run_e (fun q => by omega)] at h2
    omega
  | succ k ih =>
    intro e h j h1 h2
    by_cases hp : P e = true
    · rw [run_s (by omega) hp] at h2
      by_cases q : j = e
      · rw [q]; exact hp
      · exact ih (e + 1) (by omega) j (by omega) h2
    · rw [run_e (fun q => hp q.2)] at h2
      omega
theorem nv_21 {t : Tp} {n s : Nat} (h : kd t n s = 21) : 0 ≤ nv t n s := by
  have hs : s < n := kd_lt (t := t) (by omega)
  by_cases h1 : sm t s = true
  · rw [kd_w hs h1] at h
    have h9 := Classical.byContradiction (p := wk t s (en t n s) ≤ 20) (fun q => q wk_b)
    omega
  · by_cases h2 : dgt t s = true
    · unfold nv
      refine nvl_nn _ (fun j hj => ?_)
      have he : en t n s = run (dgt t) n s := by
        unfold en
        rw [if_neg (by omega), if_neg h1, if_pos h2]
      rw [he] at hj
      exact run_all (n := n) _ s rfl (s + j) (by omega) (by omega)
    · rw [kd_g hs h1 h2] at h
      have := sgk_b (t s)
      omega
/-! what the class's Tokens hold -/
def TB (f : Nat → Int32) (t : Tp) : Prop := ∀ j, (f j).toInt = t j ∧ -128 ≤ t j ∧ t j ≤ 127
def TS (t : Tp) (n p : Nat) (s e k v : Int32) : Prop := s.toInt = (p : Int) ∧ p ≤ n ∧ e.toInt = (en t n p : Int) ∧ ((k.toInt = 0 ∧ kd t n p = 22) ∨ (k.toInt = 1 ∧ p < n ∧ sm t p = true) ∨ (k.toInt = 2 ∧ kd t n p = 21 ∧ v.toInt = nv t n p) ∨ (k.toInt = 3 ∧ 30 ≤ kd t n p ∧ kd t n p = sgk v.toInt) ∨ (k.toInt = 4 ∧ kd t n p = 23))
theorem TS.cs {t : Tp} {n p : Nat} {s e k v : Int32} (h : TS t n p s e k v) : (k.toInt = 0 ∧ kd t n p = 22) ∨ (k.toInt = 1 ∧ kd t n p ≤ 20) ∨ (k.toInt = 2 ∧ kd t n p = 21 ∧ v.toInt = nv t n p) ∨ (k.toInt = 3 ∧ 30 ≤ kd t n p ∧ kd t n p = sgk v.toInt) ∨ (k.toInt = 4 ∧ kd t n p = 23) := by
  rcases h.2.2.2 with q | q | q | q | q
  · exact Or.inl q
  · refine Or.inr (Or.inl ⟨q.1, ?_⟩)
    rw [kd_w q.2.1 q.2.2]
    exact wk_b
  · exact Or.inr (Or.inr (Or.inl q))
  · exact Or.inr (Or.inr (Or.inr (Or.inl q)))
  · exact Or.inr (Or.inr (Or.inr (Or.inr q)))
theorem TS.le {t : Tp} {n p : Nat} {s e k v : Int32} (h : TS t n p s e k v) : e.toInt ≤ (n : Int) := by
  have := (en_b (t := t) h.2.1).2
  have := h.2.2.1
  omega
theorem TS.nx {t : Tp} {n p : Nat} {s e k v s2 e2 k2 v2 : Int32} (h : TS t n p s e k v) (h2 : TS t n (nxs t n e.toInt.toNat) s2 e2 k2 v2) : TS t n (nx t n p) s2 e2 k2 v2 := by
  have e9 : e.toInt.toNat = en t n p := by have := h.2.2.1; omega
  rw [e9] at h2
  exact h2
section Go
variable {t : Tp} {n : Nat} {f : Nat → Int32} {a b c x y z v : Int32} {e0 : Nat}
theorem run_eq {P : Nat → Bool} {e : Nat} (h : n ≤ e) : run P n e = e := run_e (fun q => by omega)
theorem nxs_st (h : TB f t) (hx : x = f a.toInt.toNat) (hv : x.toInt = 10 ∨ x.toInt = 32) (h0 : 0 ≤ a.toInt) (hl : a.toInt < (n : Int)) (hb : b.toInt = a.toInt + 1) : nxs t n b.toInt.toNat = nxs t n a.toInt.toNat := by
  have e1 : b.toInt.toNat = a.toInt.toNat + 1 := by omega
  rw [e1]
  refine (run_s (by omega) (bl_i.mpr ?_)).symm
  rw [← (h _).1, ← hx]
  exact hv
theorem nxs_e1 (hi : nxs t n a.toInt.toNat = nxs t n e0) (hl : (n : Int) ≤ a.toInt) : nxs t n e0 = a.toInt.toNat := by
  rw [← hi]
  exact run_eq (by omega)
theorem nxs_e2 (h : TB f t) (hi : nxs t n a.toInt.toNat = nxs t n e0) (hx : x = f a.toInt.toNat) (hy : y = f a.toInt.toNat) (h1 : ¬ x.toInt = 10) (h2 : ¬ y.toInt = 32) : nxs t n e0 = a.toInt.toNat := by
  rw [← hi]
  refine run_e (fun q => ?_)
  have := bl_i.mp q.2
  rw [← (h _).1] at this
  rcases this with w | w
  · rw [← hx] at w; exact h1 w
  · rw [← hy] at w; exact h2 w
theorem smr_st (h : TB f t) (hi : run (sm t) n a.toInt.toNat = run (sm t) n e0) (hx : x = f a.toInt.toNat) (h1 : 97 ≤ x.toInt) (h2 : x.toInt ≤ 122) (h0 : 0 ≤ a.toInt) (hl : a.toInt < (n : Int)) (hb : b.toInt = a.toInt + 1) : run (sm t) n b.toInt.toNat = run (sm t) n e0 := by
  have e1 : b.toInt.toNat = a.toInt.toNat + 1 := by omega
  rw [e1, ← hi]
  refine (run_s (by omega) (sm_i.mpr ?_)).symm
  rw [← (h _).1, ← hx]
  exact ⟨h1, h2⟩
theorem dgr_st (h : TB f t) (hi : run (dgt t) n a.toInt.toNat = run (dgt t) n e0) (hx : x = f a.toInt.toNat) (h1 : 48 ≤ x.toInt) (h2 : x.toInt ≤ 57) (h0 : 0 ≤ a.toInt) (hl : a.toInt < (n : Int)) (hb : b.toInt = a.toInt + 1) : run (dgt t) n b.toInt.toNat = run (dgt t) n e0 := by
  have e1 : b.toInt.toNat = a.toInt.toNat + 1 := by omega
  rw [e1, ← hi]
  refine (run_s (by omega) (dgt_i.mpr ?_)).symm
  rw [← (h _).1, ← hx]
  exact ⟨h1, h2⟩
theorem smr_x (h : TB f t) (hx : x = f a.toInt.toNat) (h1 : x.toInt < 97 ∨ 122 < x.toInt) : run (sm t) n a.toInt.toNat = a.toInt.toNat := run_e (fun q => by
  have := sm_i.mp q.2
  rw [← (h _).1, ← hx] at this
  omega)
theorem dgr_x (h : TB f t) (hx : x = f a.toInt.toNat) (h1 : x.toInt < 48 ∨ 57 < x.toInt) : run (dgt t) n a.toInt.toNat = a.toInt.toNat := run_e (fun q => by
  have := dgt_i.mp q.2
  rw [← (h _).1, ← hx] at this
  omega)
theorem TS_E (hq : nxs t n e0 = a.toInt.toNat) (h0 : 0 ≤ a.toInt) (hl : (n : Int) ≤ a.toInt) (ha : a.toInt ≤ (n : Int)) (hk : c.toInt = 0) : TS t n (nxs t n e0) a a c v := by
  rw [hq]
  refine ⟨by omega, by omega, ?_, Or.inl ⟨hk, kd_end (by omega)⟩⟩
  unfold en
  rw [if_pos (by omega)]
  omega
theorem TS_W (h : TB f t) (hq : nxs t n e0 = a.toInt.toNat) (h0 : 0 ≤ a.toInt) (hl : a.toInt < (n : Int)) (hx : x = f a.toInt.toNat) (h1 : 97 ≤ x.toInt) (h2 : x.toInt ≤ 122) (hr : run (sm t) n b.toInt.toNat = run (sm t) n a.toInt.toNat) (hb : 0 ≤ b.toInt) (hz : run (sm t) n b.toInt.toNat = b.toInt.toNat) (hk : c.toInt = 1) : TS t n (nxs t n e0) a b c v := by
  rw [hq]
  have hs : sm t a.toInt.toNat = true := sm_i.mpr (by rw [← (h _).1, ← hx]; exact ⟨h1, h2⟩)
  refine ⟨by omega, by omega, ?_, Or.inr (Or.inl ⟨hk, by omega, hs⟩)⟩
  unfold en
  rw [if_neg (by omega), if_pos hs, ← hr, hz]
  omega
/-- the number that digits told so far -/
def DV (t : Tp) (s e v : Int32) : Prop := s.toInt ≤ e.toInt ∧ (e.toInt ≤ s.toInt + 3 → v.toInt = nvl t s.toInt.toNat (e.toInt - s.toInt).toNat ∧ 0 ≤ v.toInt ∧ (e.toInt = s.toInt → v.toInt ≤ 0) ∧ (e.toInt = s.toInt + 1 → v.toInt ≤ 9) ∧ (e.toInt = s.toInt + 2 → v.toInt ≤ 99) ∧ v.toInt ≤ 999)
theorem DV_0 (hv : v.toInt = 0) : DV t a a v := by
  refine ⟨Int.le_refl _, fun _ => ⟨?_, by omega, by omega, by omega, by omega, by omega⟩⟩
  rw [Int.sub_self]
  exact hv
theorem DV_s (h : TB f t) (hi : DV t a b v) (h0 : 0 ≤ a.toInt) (hy : y = f b.toInt.toNat) (h1 : 48 ≤ y.toInt) (h2 : y.toInt ≤ 57) {m d w : Int32} (em : m = v * 10) (ed : d.toInt = y.toInt - 48) (ew : w = m + d) (hc : c.toInt = b.toInt + 1) : DV t a c w := by
  refine ⟨by have := hi.1; omega, fun q => ?_⟩
  obtain ⟨i0, i1, i2, i3, i4, i5⟩ := hi.2 (by omega)
  have hm : m.toInt = v.toInt * 10 := by rw [em]; exact mul_i rfl (by decide) (by omega) (by omega)
  have hbv : v.toInt ≤ 99 := by
    have := hi.1
    by_cases z0 : b.toInt = a.toInt
    · have := i2 z0; omega
    · by_cases z1 : b.toInt = a.toInt + 1
      · have := i3 z1; omega
      · exact i4 (by omega)
  have hw : w.toInt = m.toInt + d.toInt := by rw [ew]; exact add_i rfl rfl (by omega) (by omega)
  have hk : (c.toInt - a.toInt).toNat = (b.toInt - a.toInt).toNat + 1 := by have := hi.1; omega
  have hy2 : y.toInt = t b.toInt.toNat := by rw [hy]; exact (h _).1
  have hl := hi.1
  refine ⟨?_, by omega, by omega, fun z => ?_, fun z => ?_, by omega⟩
  · rw [hk]
    show _ = 10 * nvl t a.toInt.toNat (b.toInt - a.toInt).toNat + (t (a.toInt.toNat + (b.toInt - a.toInt).toNat) - 48)
    rw [show a.toInt.toNat + (b.toInt - a.toInt).toNat = b.toInt.toNat by omega, ← i0, ← hy2]
    omega
  · have := i2 (by omega); omega
  · have := i3 (by omega); omega
theorem TS_D (h : TB f t) (hq : nxs t n e0 = a.toInt.toNat) (h0 : 0 ≤ a.toInt) (hl : a.toInt < (n : Int)) (hx : x = f a.toInt.toNat) (h1 : 48 ≤ x.toInt) (h2 : x.toInt ≤ 57) (hr : run (dgt t) n b.toInt.toNat = run (dgt t) n a.toInt.toNat) (hz : run (dgt t) n b.toInt.toNat = b.toInt.toNat) (hv : DV t a b v) (hk : (c.toInt = 2 ∧ b.toInt ≤ a.toInt + 3) ∨ (c.toInt = 4 ∧ a.toInt + 3 < b.toInt)) : TS t n (nxs t n e0) a b c v := by
  rw [hq]
  have ht : x.toInt = t a.toInt.toNat := by rw [hx]; exact (h _).1
  have hs : ¬ sm t a.toInt.toNat = true := fun q => by have := sm_i.mp q; omega
  have hd : dgt t a.toInt.toNat = true := dgt_i.mpr (by omega)
  have he : en t n a.toInt.toNat = b.toInt.toNat := by
    unfold en
    rw [if_neg (by omega), if_neg hs, if_pos hd, ← hr, hz]
  have hkd := kd_d (n := n) (by omega) hs hd
  rw [he] at hkd
  have hl2 := hv.1
  refine ⟨by omega, by omega, by rw [he]; omega, ?_⟩
  rcases hk with ⟨k1, k2⟩ | ⟨k1, k2⟩
  · refine Or.inr (Or.inr (Or.inl ⟨k1, by rw [hkd, if_pos (by omega)], ?_⟩))
    unfold nv
    rw [he, show b.toInt.toNat - a.toInt.toNat = (b.toInt - a.toInt).toNat by omega]
    exact (hv.2 k2).1
  · exact Or.inr (Or.inr (Or.inr (Or.inr ⟨k1, by rw [hkd, if_neg (by omega)]⟩)))
theorem and_255s {v : Int32} (h0 : -128 ≤ v.toInt) (h1 : v.toInt ≤ 127) : (v &&& 255).toInt = if v.toInt < 0 then v.toInt + 256 else v.toInt := by
  have ht : ∀ k : Nat, k < 256 → (Int32.ofInt ((k : Int) - 128) &&& 255).toInt = if (k : Int) - 128 < 0 then (k : Int) - 128 + 256 else (k : Int) - 128 := by decide +kernel
  have e : v = Int32.ofInt (((v.toInt + 128).toNat : Int) - 128) := by
    rw [show ((v.toInt + 128).toNat : Int) - 128 = v.toInt by omega]
    exact (Int32.ofInt_toInt v).symm
  have := ht (v.toInt + 128).toNat (by omega)
  rw [← e, show ((v.toInt + 128).toNat : Int) - 128 = v.toInt by omega] at this
  exact this
theorem sgk_tab : ∀ j, j < 12 → 30 ≤ sgk (chF 0 j).toInt := by decide +kernel
theorem sgk_tab2 : ∀ k, k < 42 → 30 ≤ k → ∃ j, j < 12 ∧ (chF 0 j).toInt = sgi k := by decide +kernel
theorem IXQ_s (h : IXQ 0 x v) : (0 ≤ v.toInt → 30 ≤ sgk x.toInt) ∧ (v.toInt < 0 → sgk x.toInt = 23) := by
  refine ⟨fun q => ?_, fun q => ?_⟩
  · obtain ⟨j, hj, e⟩ := h.1 q
    rw [← e]
    exact sgk_tab j hj
  · rcases sgk_b x.toInt with w | w
    · exact w
    · obtain ⟨j, hj, e⟩ := sgk_tab2 _ (by omega) w.1
      rw [sgi_k w.1] at e
      exact absurd e (h.2 q j hj)
theorem TS_G (h : TB f t) (hq : nxs t n e0 = a.toInt.toNat) (h0 : 0 ≤ a.toInt) (hl : a.toInt < (n : Int)) (hx : x = f a.toInt.toNat) (h1 : x.toInt < 97 ∨ 122 < x.toInt) (hy : y = f a.toInt.toNat) (h2 : y.toInt < 48 ∨ 57 < y.toInt) (hz : z = f a.toInt.toNat) (hv : v = z &&& 255) {r : Int32} (hi : IXQ 0 v r) (hb : b.toInt = a.toInt + 1) (hk : (c.toInt = 3 ∧ 0 ≤ r.toInt) ∨ (c.toInt = 4 ∧ r.toInt < 0)) : TS t n (nxs t n e0) a b c v := by
  rw [hq]
  have ht := h a.toInt.toNat
  have e1 : x.toInt = t a.toInt.toNat := by rw [hx]; exact ht.1
  have e2 : y.toInt = t a.toInt.toNat := by rw [hy]; exact ht.1
  have e3 : z.toInt = t a.toInt.toNat := by rw [hz]; exact ht.1
  have ev := and_255s (v := z) (by omega) (by omega)
  rw [← hv] at ev
  have hs : ¬ sm t a.toInt.toNat = true := fun q => by have := sm_i.mp q; omega
  have hd : ¬ dgt t a.toInt.toNat = true := fun q => by have := dgt_i.mp q; omega
  have he : en t n a.toInt.toNat = a.toInt.toNat + 1 := by
    unfold en
    rw [if_neg (by omega), if_neg hs, if_neg hd]
  have hkd := kd_g (n := n) (by omega) hs hd
  have hsg : sgk v.toInt = sgk (t a.toInt.toNat) := by
    by_cases q : z.toInt < 0
    · rw [if_pos q] at ev
      have w1 : sgk v.toInt = 23 := by
        unfold sgk
        repeat rw [if_neg (by omega)]
      have w2 : sgk (t a.toInt.toNat) = 23 := by
        unfold sgk
        repeat rw [if_neg (by omega)]
      rw [w1, w2]
    · rw [if_neg q] at ev
      rw [ev, e3]
  obtain ⟨i1, i2⟩ := IXQ_s hi
  refine ⟨by omega, by omega, by rw [he]; omega, ?_⟩
  rcases hk with ⟨k1, k2⟩ | ⟨k1, k2⟩
  · have := i1 k2
    exact Or.inr (Or.inr (Or.inr (Or.inl ⟨k1, by omega, by omega⟩)))
  · have := i2 k2
    exact Or.inr (Or.inr (Or.inr (Or.inr ⟨k1, by omega⟩)))
end Go
/-! a word -/
def WI (i : Nat) (t : Tp) (p k : Nat) : Prop := ∀ j, j < k → t (p + j) = (chF i j).toInt
theorem WI_0 {i p : Nat} {t : Tp} {z : Int32} (hz : z.toInt = 0) : WI i t p z.toInt.toNat := fun j hj => by omega
theorem WI_s {i p : Nat} {t : Tp} {f : Nat → Int32} {a b d x y : Int32} (h : TB f t) (hi : WI i t p a.toInt.toNat) (h0 : 0 ≤ a.toInt) (hx : x = f d.toInt.toNat) (hd : d.toInt = (p : Int) + a.toInt) (hy : y = chF i a.toInt.toNat) (he : x.toInt = y.toInt) (hb : b.toInt = a.toInt + 1) : WI i t p b.toInt.toNat := fun j hj => by
  by_cases q : j < a.toInt.toNat
  · exact hi j q
  · have : j = a.toInt.toNat := by omega
    rw [this, ← hy, ← he, hx, (h _).1, show d.toInt.toNat = p + a.toInt.toNat by omega]
theorem isW_1 {t : Tp} {n p kk i : Nat} {s e k v a : Int32} (h : TS t n p s e k v) (hk : k.toInt = 1) (hi : kst.getD kk 0 = i) (hkk : kk < 19) (hl : e.toInt - s.toInt = (slen.getD i 0 : Nat)) (hw : WI i t p a.toInt.toNat) (ha : (slen.getD i 0 : Nat) ≤ a.toInt) : kd t n p = kk := by
  rcases h.2.2.2 with q | q | q | q | q
  · omega
  · rw [kd_w q.2.1 q.2.2]
    refine wk_of hkk ?_
    rw [hi]
    have := h.1
    have := h.2.2.1
    exact ⟨by omega, fun j hj => hw j (by omega)⟩
  · omega
  · omega
  · omega
theorem isW_k {t : Tp} {n p kk : Nat} {s e k v : Int32} (h : TS t n p s e k v) (hk : ¬ k.toInt = 1) (hkk : kk < 19) : kd t n p ≠ kk := by
  have := h.cs
  omega
theorem isW_l {t : Tp} {n p kk i : Nat} {s e k v : Int32} (h : TS t n p s e k v) (hk : k.toInt = 1) (hi : kst.getD kk 0 = i) (hkk : kk < 19) (hl : ¬ e.toInt - s.toInt = (slen.getD i 0 : Nat)) : kd t n p ≠ kk := fun hq => by
  rcases h.2.2.2 with q | q | q | q | q
  · omega
  · rw [kd_w q.2.1 q.2.2] at hq
    have w := wk_is hkk hq
    rw [hi] at w
    have := w.1
    have := h.1
    have := h.2.2.1
    omega
  · omega
  · omega
  · omega
theorem isW_c {t : Tp} {n p kk i : Nat} {f : Nat → Int32} {s e k v a d x y : Int32} (hf : TB f t) (h : TS t n p s e k v) (hk : k.toInt = 1) (hi : kst.getD kk 0 = i) (hkk : kk < 19) (h0 : 0 ≤ a.toInt) (ha : a.toInt < (slen.getD i 0 : Nat)) (hx : x = f d.toInt.toNat) (hd : d.toInt = s.toInt + a.toInt) (hy : y = chF i a.toInt.toNat) (he : ¬ x.toInt = y.toInt) : kd t n p ≠ kk := fun hq => by
  rcases h.2.2.2 with q | q | q | q | q
  · omega
  · rw [kd_w q.2.1 q.2.2] at hq
    have w := wk_is hkk hq
    rw [hi] at w
    have := h.1
    have e2 := w.2 a.toInt.toNat (by omega)
    rw [← hy, ← (hf _).1, show p + a.toInt.toNat = d.toInt.toNat by omega, ← hx] at e2
    exact he e2
  · omega
  · omega
  · omega
theorem isS_1 {t : Tp} {n p kk : Nat} {s e k v x : Int32} (h : TS t n p s e k v) (hs : sgk x.toInt = kk) (hk : k.toInt = 3) (hv : v.toInt = x.toInt) : kd t n p = kk := by
  have := h.cs
  rw [hv] at this
  omega
theorem isS_k {t : Tp} {n p kk : Nat} {s e k v : Int32} (h : TS t n p s e k v) (h30 : 30 ≤ kk) (hk : ¬ k.toInt = 3) : kd t n p ≠ kk := by
  have := h.cs
  omega
theorem isS_v {t : Tp} {n p kk : Nat} {s e k v x : Int32} (h : TS t n p s e k v) (hs : sgk x.toInt = kk) (h30 : 30 ≤ kk) (hk : k.toInt = 3) (hv : ¬ v.toInt = x.toInt) : kd t n p ≠ kk := fun q => by
  rcases h.cs with w | w | w | w | w
  · omega
  · omega
  · omega
  · exact hv (sgk_inj (by omega) (by omega))
  · omega
/-- the place is where the token that stands here begins -/
def TSS (t : Tp) (n : Nat) (s e k v : Int32) : Prop := TS t n s.toInt.toNat s e k v
theorem TS.self {t : Tp} {n p : Nat} {s e k v : Int32} (h : TS t n p s e k v) : TSS t n s e k v ∧ s.toInt.toNat = p := by
  have e1 : s.toInt.toNat = p := by have := h.1; omega
  refine ⟨?_, e1⟩
  unfold TSS
  rw [e1]
  exact h
theorem TSS.nx {t : Tp} {n : Nat} {s e k v s2 : Int32} (h : TSS t n s e k v) (h2 : s2.toInt.toNat = nxs t n e.toInt.toNat) : s2.toInt.toNat = nx t n s.toInt.toNat := by
  have e9 : e.toInt.toNat = en t n s.toInt.toNat := by have := h.2.2.1; omega
  rw [h2, e9]
  rfl
theorem TSS.b {t : Tp} {n : Nat} {s e k v : Int32} (h : TSS t n s e k v) : 0 ≤ s.toInt ∧ s.toInt ≤ e.toInt ∧ e.toInt ≤ (n : Int) := by
  have h1 := h.1
  have h2 := h.2.2.1
  have h3 := en_b (t := t) h.2.1
  omega
theorem fwf_ne {k : Nat} {x : Int} (h : x ≠ 0) : fwf k x ≠ 0 := by
  unfold fwf
  split <;> omega
theorem refuse_1 {t : Tp} {n : Nat} {s e k v : Int32} {x : Int} {c : Int32} (h : TSS t n s e k v) (hk : k.toInt = 4) (hc : c.toInt = 1) : c.toInt = fwf (kd t n s.toInt.toNat) x := by
  have := h.cs
  unfold fwf
  rw [if_pos (by omega)]
  exact hc
theorem refuse_2 {t : Tp} {n : Nat} {s e k v x : Int32} (h : TSS t n s e k v) (hk : ¬ k.toInt = 4) : x.toInt = fwf (kd t n s.toInt.toNat) x.toInt := by
  have := h.cs
  unfold fwf
  rw [if_neg (by omega)]
/-! bits of sets in the class's reader -/
theorem m31_tab : ∀ i, i < 32 → (-1 : Int32).toBitVec.getLsbD i = true := by decide +kernel
theorem sr_tab : ∀ j, j < 32 → ((nI j &&& 31).toBitVec.smod 32).toNat = j := by decide +kernel
theorem lo_tab : ∀ h, h < 15 → ∀ k, k < h → ((1 : Int32) <<< (nI h &&& 31) - 1).toBitVec.getLsbD k = true := by decide +kernel
theorem bit0 {y : Int32} : (y &&& 1).toInt = 0 ↔ y.toBitVec.getLsbD 0 = false := by
  have hand : (y &&& 1).toBitVec.toNat = y.toBitVec.toNat % 2 := by
    rw [Int32.toBitVec_and, BitVec.toNat_and]
    show y.toBitVec.toNat &&& 1 = _
    exact Nat.and_one_is_mod _
  have h1 : (y &&& 1).toInt = ((y &&& 1).toBitVec.toNat : Int) := nn_of (by rw [hand]; omega)
  have h2 : y.toBitVec.getLsbD 0 = decide (y.toBitVec.toNat % 2 = 1) := by
    show y.toBitVec.toNat.testBit 0 = _
    exact Nat.testBit_zero _
  rw [h1, hand, h2]
  constructor
  · intro q
    exact decide_eq_false (by omega)
  · intro q
    have := of_decide_eq_false q
    omega
theorem shr_bit {x k : Int32} (h0 : 0 ≤ k.toInt) (h1 : k.toInt ≤ 31) : ((x >>> (k &&& 31)) &&& 1).toInt = 0 ↔ x.toBitVec.getLsbD k.toInt.toNat = false := by
  have ek := is_nI h0
  have hs : ((k &&& 31).toBitVec.smod 32).toNat = k.toInt.toNat := by
    have := sr_tab k.toInt.toNat (by omega)
    rw [← ek] at this
    exact this
  have e : (x >>> (k &&& 31)).toBitVec.getLsbD 0 = x.toBitVec.getLsbD k.toInt.toNat := by
    rw [Int32.toBitVec_shiftRight]
    show (x.toBitVec.sshiftRight ((k &&& 31).toBitVec.smod 32).toNat).getLsbD 0 = _
    rw [hs, BitVec.getLsbD_sshiftRight, if_pos (by omega)]
    simp
  rw [bit0, e]
theorem mid_bit {h s u k v5 v7 v13 v14 v20 v21 w z : Int32} (h0 : 0 ≤ k.toInt) (hk : k.toInt < h.toInt) (hh : h.toInt ≤ 14) (e5 : v5 = (1 : Int32) <<< (h &&& 31)) (e7 : v7 = v5 - 1) (e13 : v13 = s ^^^ (-1)) (e14 : v14 = v7 &&& v13) (e20 : v20 = u ^^^ (-1)) (e21 : v21 = v14 &&& v20) (ew : w = v21 >>> (k &&& 31)) (ez : z = w &&& 1) : z.toInt = 0 ↔ (s ||| u).toBitVec.getLsbD k.toInt.toNat = true := by
  rw [ez, ew, shr_bit h0 (by omega), e21, e20, e14, e13, e7, e5]
  have eh := is_nI (x := h) (by omega)
  have t1 := lo_tab h.toInt.toNat (by omega) k.toInt.toNat (by omega)
  rw [← eh] at t1
  have t2 := m31_tab k.toInt.toNat (by omega)
  rw [Int32.toBitVec_and, Int32.toBitVec_and, Int32.toBitVec_xor, Int32.toBitVec_xor, Int32.toBitVec_or, BitVec.getLsbD_and, BitVec.getLsbD_and, BitVec.getLsbD_xor, BitVec.getLsbD_xor, BitVec.getLsbD_or, t1, t2]
  cases s.toBitVec.getLsbD k.toInt.toNat <;> cases u.toBitVec.getLsbD k.toInt.toNat <;> decide
/-! ways of the machine, seen from the class -/
def GL (t : Tp) (n : Nat) (F F' : List (Nat × Nat)) (a b : Int32) : Prop := ∀ (K : List (Nat × Nat)) (R : Rg), RT t n (F ++ K, a.toInt.toNat, 0, R) (F' ++ K, b.toInt.toNat, 0, R)
def BL (t : Tp) (n : Nat) (F : List (Nat × Nat)) (a fa pl : Int32) : Prop := fa.toInt ≠ 0 ∧ 0 ≤ pl.toInt ∧ ∀ (K : List (Nat × Nat)) (R : Rg), ∃ (K' : List (Nat × Nat)) (R' : Rg), RT t n (F ++ K, a.toInt.toNat, 0, R) (K', pl.toInt.toNat, fa.toInt, R')
section Ways
variable {t : Tp} {n : Nat} {F F' F'' : List (Nat × Nat)} {x : Nat × Nat} {a b c fa pl : Int32}
theorem GL.rf : GL t n F F a a := fun _ _ => RT.rf
theorem GL.tr (h1 : GL t n F F' a b) (h2 : GL t n F' F'' b c) : GL t n F F'' a c := fun K R => (h1 K R).tr (h2 K R)
theorem GL.cons (h : GL t n [x] [] a b) : GL t n (x :: F) F a b := fun K R => h (F ++ K) R
theorem GL.bd (h1 : GL t n F F' a b) (h2 : BL t n F' b fa pl) : BL t n F a fa pl := ⟨h2.1, h2.2.1, fun K R => by
  obtain ⟨K', R', h⟩ := h2.2.2 K R
  exact ⟨K', R', (h1 K R).tr h⟩⟩
theorem BL.cons (h : BL t n [x] a fa pl) : BL t n (x :: F) a fa pl := ⟨h.1, h.2.1, fun K R => h.2.2 (F ++ K) R⟩
theorem GL_nx (h : ∀ (K : List (Nat × Nat)) (R : Rg), RT t n (F ++ K, a.toInt.toNat, 0, R) (F' ++ K, nx t n a.toInt.toNat, 0, R)) (hb : b.toInt.toNat = nx t n a.toInt.toNat) : GL t n F F' a b := fun K R => by
  rw [hb]
  exact h K R
theorem BL_f {G : List (Nat × Nat)} {x : Int} (h : ∀ (K : List (Nat × Nat)) (R : Rg), RT t n (F ++ K, a.toInt.toNat, 0, R) (G ++ K, a.toInt.toNat, fwf (kd t n a.toInt.toNat) x, R)) (hf : fa.toInt = fwf (kd t n a.toInt.toNat) x) (hx : x ≠ 0) (hp : pl.toInt = a.toInt) (ha : 0 ≤ a.toInt) : BL t n F a fa pl := by
  refine ⟨by rw [hf]; exact fwf_ne hx, by omega, fun K R => ⟨G ++ K, R, ?_⟩⟩
  rw [hf, hp]
  exact h K R
theorem TSS.lt {s e k v : Int32} (h : TSS t n s e k v) (hk : kd t n s.toInt.toNat ≠ 22) : s.toInt + 1 ≤ e.toInt := by
  have h1 := h.1
  have h2 := h.2.2.1
  have h3 := en_gt (t := t) (kd_lt hk)
  omega
/-- a loop of the class's reader, at its head -/
def LTI (t : Tp) (n : Nat) (F F' : List (Nat × Nat)) (s0 fine s e k v fa pl pl0 : Int32) : Prop := (fine.toInt = 0 ∧ BL t n F s0 fa pl) ∨ (fine.toInt = 1 ∧ TSS t n s e k v ∧ fa.toInt = 0 ∧ pl.toInt = pl0.toInt ∧ GL t n F F' s0 s)
theorem LTI.ok {s0 fine s e k v pl0 : Int32} (h : LTI t n F F' s0 fine s e k v fa pl pl0) (hf : ¬ fine.toInt = 0) : TSS t n s e k v ∧ fa.toInt = 0 ∧ pl.toInt = pl0.toInt ∧ GL t n F F' s0 s := (h.resolve_left (fun q => hf q.1)).2
theorem LTI.st {s0 s1 s2 e k v r pl0 pl1 : Int32} (h : GL t n F (x :: F') s0 s1) (h1 : r.toInt = 0 ∨ (TSS t n s2 e k v ∧ fa.toInt = 0 ∧ pl.toInt = pl1.toInt ∧ GL t n [x] [] s1 s2)) (h2 : r.toInt ≠ 0 ∨ BL t n [x] s1 fa pl) (h3 : 0 ≤ r.toInt) (h4 : r.toInt ≤ 1) (h5 : pl1.toInt = pl0.toInt) : LTI t n F F' s0 r s2 e k v fa pl pl0 := by
  by_cases q : r.toInt = 0
  · exact Or.inl ⟨q, h.bd (h2.resolve_left (fun w => w q)).cons⟩
  · obtain ⟨a1, a2, a3, a4⟩ := h1.resolve_left q
    exact Or.inr ⟨by omega, a1, a2, by omega, h.tr a4.cons⟩
theorem LTI.en {s0 s e k v r pl0 : Int32} (h : LTI t n F F' s0 r s e k v fa pl pl0) (hk : r.toInt = 0 ∨ GL t n F' [] s s) : (r.toInt = 0 ∨ (TSS t n s e k v ∧ fa.toInt = 0 ∧ pl.toInt = pl0.toInt ∧ GL t n F [] s0 s)) ∧ (r.toInt ≠ 0 ∨ BL t n F s0 fa pl) := by
  rcases h with q | q
  · exact ⟨Or.inl q.1, Or.inr q.2⟩
  · obtain ⟨a1, a2, a3, a4⟩ := q.2
    exact ⟨Or.inr ⟨a1, a2, a3, a4.tr (hk.resolve_left (by omega))⟩, Or.inl (by omega)⟩
end Ways
/-! ways of the machine that tell what lines told -/
def RZ (h g s t l : Int32) : Rg := (h.toInt.toNat, g.toInt.toNat, s, t, l.toInt.toNat)
def GR (t : Tp) (n : Nat) (F F' : List (Nat × Nat)) (R R' : Rg) (a b : Int32) : Prop := ∀ K : List (Nat × Nat), RT t n (F ++ K, a.toInt.toNat, 0, R) (F' ++ K, b.toInt.toNat, 0, R')
def BR (t : Tp) (n : Nat) (F : List (Nat × Nat)) (R : Rg) (a fa pl : Int32) : Prop := fa.toInt ≠ 0 ∧ 0 ≤ pl.toInt ∧ ∀ K : List (Nat × Nat), ∃ (K' : List (Nat × Nat)) (R' : Rg), RT t n (F ++ K, a.toInt.toNat, 0, R) (K', pl.toInt.toNat, fa.toInt, R')
section Regs
variable {t : Tp} {n : Nat} {F F' F'' G : List (Nat × Nat)} {x : Nat × Nat} {R R' R'' : Rg} {a b c fa pl : Int32}
theorem GL.r (h : GL t n F F' a b) : GR t n F F' R R a b := fun K => h K R
theorem BL.r (h : BL t n F a fa pl) : BR t n F R a fa pl := ⟨h.1, h.2.1, fun K => h.2.2 K R⟩
theorem GR.rf : GR t n F F R R a a := fun _ => RT.rf
theorem GR.tr (h1 : GR t n F F' R R' a b) (h2 : GR t n F' F'' R' R'' b c) : GR t n F F'' R R'' a c := fun K => (h1 K).tr (h2 K)
theorem GR.cons (h : GR t n [x] [] R R' a b) : GR t n (x :: F) F R R' a b := fun K => h (F ++ K)
theorem GR.ap (h : GR t n F F' R R' a b) : GR t n (F ++ G) (F' ++ G) R R' a b := fun K => by
  have := h (G ++ K)
  rw [← List.append_assoc, ← List.append_assoc] at this
  exact this
theorem BR.cons (h : BR t n [x] R a fa pl) : BR t n (x :: F) R a fa pl := ⟨h.1, h.2.1, fun K => h.2.2 (F ++ K)⟩
theorem BR.ap (h : BR t n F R a fa pl) : BR t n (F ++ G) R a fa pl := ⟨h.1, h.2.1, fun K => by
  obtain ⟨K', R', q⟩ := h.2.2 (G ++ K)
  rw [← List.append_assoc] at q
  exact ⟨K', R', q⟩⟩
theorem GR.bd (h1 : GR t n F F' R R' a b) (h2 : BR t n F' R' b fa pl) : BR t n F R a fa pl := ⟨h2.1, h2.2.1, fun K => by
  obtain ⟨K', R'', h⟩ := h2.2.2 K
  exact ⟨K', R'', (h1 K).tr h⟩⟩
theorem GR_nx (h : ∀ K : List (Nat × Nat), RT t n (F ++ K, a.toInt.toNat, 0, R) (F' ++ K, nx t n a.toInt.toNat, 0, R')) (hb : b.toInt.toNat = nx t n a.toInt.toNat) : GR t n F F' R R' a b := fun K => by
  rw [hb]
  exact h K
theorem BR_f {x : Int} (h : ∀ K : List (Nat × Nat), RT t n (F ++ K, a.toInt.toNat, 0, R) (G ++ K, a.toInt.toNat, fwf (kd t n a.toInt.toNat) x, R')) (hf : fa.toInt = fwf (kd t n a.toInt.toNat) x) (hx : x ≠ 0) (hp : pl.toInt = a.toInt) (ha : 0 ≤ a.toInt) : BR t n F R a fa pl := by
  refine ⟨by rw [hf]; exact fwf_ne hx, by omega, fun K => ⟨G ++ K, R', ?_⟩⟩
  rw [hf, hp]
  exact h K
/-- a number that can't be -/
theorem BR_n {d : Nat} {m : Int} (hd : m = (d : Int)) (h1 : kd t n a.toInt.toNat ≠ 21 ∨ (kd t n a.toInt.toNat = 21 ∧ ¬ nv t n a.toInt.toNat ≤ m)) (hf : fa.toInt = fwf (kd t n a.toInt.toNat) (if kd t n a.toInt.toNat = 21 then 3 else 2)) (hp : pl.toInt = a.toInt) (ha : 0 ≤ a.toInt) : BR t n [(22, d)] R a fa pl := by
  rcases h1 with h1 | h1
  · rw [if_neg h1] at hf
    exact BR_f (G := []) (fun K => st_nN h1) hf (by decide) hp ha
  · rw [if_pos h1.1] at hf
    exact BR_f (G := []) (fun K => st_nB h1.1 (by rw [← hd]; exact h1.2)) hf (by decide) hp ha
theorem GR_n {d : Nat} {m : Int} {r : Int32} (hd : m = (d : Int)) (h1 : kd t n a.toInt.toNat = 21) (h2 : r.toInt = nv t n a.toInt.toNat) (h3 : r.toInt ≤ m) (hb : b.toInt.toNat = nx t n a.toInt.toNat) : GR t n [(22, d)] [] R R a b := GR_nx (fun K => st_nY h1 (by omega)) hb
/-- a HOLD, a GUIDE that is told -/
theorem GR_k {r m : Int32} (hd : m.toInt = (R.1 : Int) - 1) (h1 : kd t n a.toInt.toNat = 21) (h2 : r.toInt = nv t n a.toInt.toNat) (h3 : r.toInt ≤ m.toInt) (hb : b.toInt.toNat = nx t n a.toInt.toNat) : GR t n [(37, 0)] [] R R a b := GR_nx (fun K => st_kY h1 (by omega)) hb
theorem BR_k {m : Int32} (hd : m.toInt = (R.1 : Int) - 1) (h1 : kd t n a.toInt.toNat ≠ 21 ∨ (kd t n a.toInt.toNat = 21 ∧ ¬ nv t n a.toInt.toNat ≤ m.toInt)) (hf : fa.toInt = fwf (kd t n a.toInt.toNat) (if kd t n a.toInt.toNat = 21 then 3 else 2)) (hp : pl.toInt = a.toInt) (ha : 0 ≤ a.toInt) : BR t n [(37, 0)] R a fa pl := by
  rcases h1 with h1 | h1
  · rw [if_neg h1] at hf
    exact BR_f (G := []) (fun K => st_kX h1) hf (by decide) hp ha
  · rw [if_pos h1.1] at hf
    exact BR_f (G := []) (fun K => st_kB h1.1 (by omega)) hf (by decide) hp ha
theorem GR_g {r m : Int32} (hd : m.toInt = (R.2.1 : Int) - 1) (h1 : kd t n a.toInt.toNat = 21) (h2 : r.toInt = nv t n a.toInt.toNat) (h3 : r.toInt ≤ m.toInt) (hb : b.toInt.toNat = nx t n a.toInt.toNat) : GR t n [(36, 0)] [] R R a b := GR_nx (fun K => st_gY h1 (by omega)) hb
theorem BR_g {m : Int32} (hd : m.toInt = (R.2.1 : Int) - 1) (h1 : kd t n a.toInt.toNat ≠ 21 ∨ (kd t n a.toInt.toNat = 21 ∧ ¬ nv t n a.toInt.toNat ≤ m.toInt)) (hf : fa.toInt = fwf (kd t n a.toInt.toNat) (if kd t n a.toInt.toNat = 21 then 3 else 2)) (hp : pl.toInt = a.toInt) (ha : 0 ≤ a.toInt) : BR t n [(36, 0)] R a fa pl := by
  rcases h1 with h1 | h1
  · rw [if_neg h1] at hf
    exact BR_f (G := []) (fun K => st_gX h1) hf (by decide) hp ha
  · rw [if_pos h1.1] at hf
    exact BR_f (G := []) (fun K => st_gB h1.1 (by omega)) hf (by decide) hp ha
/-- flags of a hold that isn't counted yet -/
theorem bitH_of {h v : Int32} (h0 : 0 ≤ h.toInt) (hv : v = (1 : Int32) <<< (h &&& 31)) : v = bitH h.toInt.toNat := by
  unfold bitH
  rw [← is_nI h0]
  exact hv
theorem GR_fS {h g s u l v z : Int32} (hk : kd t n a.toInt.toNat = 9) (h0 : 0 ≤ h.toInt) (hv : v = (1 : Int32) <<< (h &&& 31)) (hz : z = s ||| v) (hb : b.toInt.toNat = nx t n a.toInt.toNat) : GR t n [(33, 0)] [(33, 0)] (RZ h g s u l) (RZ h g z u l) a b := by
  refine GR_nx (fun K => ?_) hb
  rw [hz, bitH_of h0 hv]
  exact st_fS hk
theorem GR_fT {h g s u l v z : Int32} (hk : kd t n a.toInt.toNat = 10) (h0 : 0 ≤ h.toInt) (hv : v = (1 : Int32) <<< (h &&& 31)) (hz : z = u ||| v) (hb : b.toInt.toNat = nx t n a.toInt.toNat) : GR t n [(33, 0)] [(33, 0)] (RZ h g s u l) (RZ h g s z l) a b := by
  refine GR_nx (fun K => ?_) hb
  rw [hz, bitH_of h0 hv]
  exact st_fT hk
theorem GR_fE {h g s u l w : Int32} (hk : ¬ (9 ≤ kd t n a.toInt.toNat ∧ kd t n a.toInt.toNat ≤ 12)) (h0 : 0 ≤ h.toInt) (hw : w.toInt = h.toInt + 1) : GR t n [(33, 0)] [] (RZ h g s u l) (RZ w g s u l) a a := fun K => by
  have : RZ w g s u l = ((RZ h g s u l).1 + 1, (RZ h g s u l).2) := by
    unfold RZ
    rw [show w.toInt.toNat = h.toInt.toNat + 1 by omega]
  rw [this]
  exact st_fE hk
theorem BR_fN {h g s u l : Int32} (hk : ¬ (9 ≤ kd t n a.toInt.toNat ∧ kd t n a.toInt.toNat ≤ 12)) (hk2 : kd t n a.toInt.toNat ≠ 30) (hf : fa.toInt = fwf (kd t n a.toInt.toNat) 2) (hp : pl.toInt = a.toInt) (ha : 0 ≤ a.toInt) : BR t n [(33, 0), (20, 30)] (RZ h g s u l) a fa pl := by
  have g1 : GR t n [(33, 0), (20, 30)] [(20, 30)] (RZ h g s u l) ((RZ h g s u l).1 + 1, (RZ h g s u l).2) a a := fun K => st_fE hk
  exact g1.bd (BR_f (G := []) (fun K => st_xN hk2) hf (by decide) hp ha)
theorem GR_gC {h g s u l w : Int32} (h0 : 0 ≤ g.toInt) (hw : w.toInt = g.toInt + 1) : GR t n [(38, 0)] [] (RZ h g s u l) (RZ h w s u l) a a := fun K => by
  have : RZ h w s u l = ((RZ h g s u l).1, (RZ h g s u l).2.1 + 1, (RZ h g s u l).2.2) := by
    unfold RZ
    rw [show w.toInt.toNat = g.toInt.toNat + 1 by omega]
  rw [this]
  exact st_gC
/-- the holds that can be used -/
def MID (h s u m : Int32) : Prop := m = (((1 : Int32) <<< (h &&& 31) - 1) &&& (s ^^^ (-1))) &&& (u ^^^ (-1))
theorem MID.bit {h s u m k w z : Int32} (hm : MID h s u m) (h0 : 0 ≤ k.toInt) (hk : k.toInt < h.toInt) (hh : h.toInt ≤ 14) (ew : w = m >>> (k &&& 31)) (ez : z = w &&& 1) : z.toInt = 0 ↔ (s ||| u).toBitVec.getLsbD k.toInt.toNat = true := mid_bit h0 hk hh rfl rfl rfl rfl rfl hm ew ez
theorem GR_h {h g s u l r m : Int32} (hd : m.toInt = h.toInt - 1) (h1 : kd t n a.toInt.toNat = 21) (h2 : r.toInt = nv t n a.toInt.toNat) (h3 : r.toInt ≤ m.toInt) (h0 : 0 ≤ r.toInt) (hq : ¬ (s ||| u).toBitVec.getLsbD r.toInt.toNat = true) (hb : b.toInt.toNat = nx t n a.toInt.toNat) : GR t n [(35, 0)] [] (RZ h g s u l) (RZ h g s u l) a b := by
  refine GR_nx (fun K => st_hY h1 ⟨?_, ?_⟩) hb
  · show _ < ((h.toInt.toNat : Nat) : Int)
    omega
  · rw [← h2]
    show (s ||| u).toBitVec.getLsbD r.toInt.toNat = false
    cases q : (s ||| u).toBitVec.getLsbD r.toInt.toNat with
    | true => exact absurd q hq
    | false => rfl
theorem BR_h {h g s u l m : Int32} (hd : m.toInt = h.toInt - 1) (hh : 0 ≤ h.toInt) (h1 : kd t n a.toInt.toNat ≠ 21 ∨ (kd t n a.toInt.toNat = 21 ∧ ¬ nv t n a.toInt.toNat ≤ m.toInt)) (hf : fa.toInt = fwf (kd t n a.toInt.toNat) (if kd t n a.toInt.toNat = 21 then 3 else 2)) (hp : pl.toInt = a.toInt) (ha : 0 ≤ a.toInt) : BR t n [(35, 0)] (RZ h g s u l) a fa pl := by
  rcases h1 with h1 | h1
  · rw [if_neg h1] at hf
    exact BR_f (G := []) (fun K => st_hN h1) hf (by decide) hp ha
  · rw [if_pos h1.1] at hf
    refine BR_f (G := []) (fun K => st_hB h1.1 (fun q => ?_)) hf (by decide) hp ha
    have q1 : nv t n a.toInt.toNat < ((h.toInt.toNat : Nat) : Int) := q.1
    omega
theorem BR_hb {h g s u l v : Int32} (h1 : kd t n a.toInt.toNat = 21) (hv : v.toInt = nv t n a.toInt.toNat) (hb : (s ||| u).toBitVec.getLsbD v.toInt.toNat = true) (hf : fa.toInt = fwf (kd t n a.toInt.toNat) 3) (hp : pl.toInt = a.toInt) (ha : 0 ≤ a.toInt) : BR t n [(35, 0)] (RZ h g s u l) a fa pl := by
  refine BR_f (G := []) (fun K => st_hB h1 (fun q => ?_)) hf (by decide) hp ha
  have q2 : (s ||| u).toBitVec.getLsbD (nv t n a.toInt.toNat).toNat = false := q.2
  rw [← hv, hb] at q2
  exact absurd q2 (by decide)
theorem GR_lC {h g s u l w : Int32} (h0 : 0 ≤ l.toInt) (hw : w.toInt = l.toInt + 1) : GR t n [(32, 0)] [(30, 0)] (RZ h g s u l) (RZ h g s u w) a a := fun K => by
  have : RZ h g s u w = ((RZ h g s u l).1, (RZ h g s u l).2.1, (RZ h g s u l).2.2.1, (RZ h g s u l).2.2.2.1, (RZ h g s u l).2.2.2.2 + 1) := by
    unfold RZ
    rw [show w.toInt.toNat = l.toInt.toNat + 1 by omega]
  rw [this]
  exact st_lC
/-- what the reading of a text ends with -/
def WO (t : Tp) (n : Nat) (l : Int32) : Prop := ∃ (p : Nat) (R : Rg), RT t n ([(30, 0)], nxs t n 0, 0, (0, 0, 0, 0, 0)) ([], p, 0, R) ∧ R.2.2.2.2 = l.toInt.toNat
def WB (t : Tp) (n : Nat) (fa pl : Int32) : Prop := fa.toInt ≠ 0 ∧ 0 ≤ pl.toInt ∧ ∃ (K : List (Nat × Nat)) (R : Rg), RT t n ([(30, 0)], nxs t n 0, 0, (0, 0, 0, 0, 0)) (K, pl.toInt.toNat, fa.toInt, R)
theorem WO_of {h g s u l : Int32} (h1 : GR t n [(30, 0)] [] (RZ 0 0 0 0 0) (RZ h g s u l) a b) (ha : a.toInt.toNat = nxs t n 0) : WO t n l := by
  have := h1 []
  rw [ha] at this
  exact ⟨_, _, this, rfl⟩
theorem WB_of (h1 : BR t n [(30, 0)] (RZ 0 0 0 0 0) a fa pl) (ha : a.toInt.toNat = nxs t n 0) : WB t n fa pl := by
  obtain ⟨K, R, q⟩ := h1.2.2 []
  rw [ha] at q
  exact ⟨h1.1, h1.2.1, K, R, q⟩
theorem WO_eq {l l2 : Int32} (h1 : WO t n l) (h2 : WO t n l2) : l.toInt.toNat = l2.toInt.toNat := by
  obtain ⟨p, R, a1, a2⟩ := h1
  obtain ⟨p2, R2, b1, b2⟩ := h2
  have := RT.eq a1 b1 (Or.inr rfl) (Or.inr rfl)
  rw [← a2, ← b2]
  cases this
  rfl
theorem WB_eq {f2 p2 : Int32} (h1 : WB t n fa pl) (h2 : WB t n f2 p2) : fa.toInt = f2.toInt ∧ pl.toInt = p2.toInt := by
  obtain ⟨x1, x2, K, R, a1⟩ := h1
  obtain ⟨y1, y2, K2, R2, b1⟩ := h2
  have := RT.eq a1 b1 (Or.inl x1) (Or.inl y1)
  injection this with _ e1
  injection e1 with e2 e3
  injection e3 with e4 _
  exact ⟨e4, by omega⟩
theorem WO_WB {l : Int32} (h1 : WO t n l) (h2 : WB t n fa pl) : False := by
  obtain ⟨p, R, a1, a2⟩ := h1
  obtain ⟨y1, y2, K2, R2, b1⟩ := h2
  have := RT.eq a1 b1 (Or.inr rfl) (Or.inl y1)
  injection this with _ e1
  injection e1 with _ e3
  injection e3 with e4 _
  exact y1 e4.symm
/-- what fault() tells -/
def FTF (fa pl w : Int) : Int := if w = 0 then fa else if w = 1 then pl else -1
theorem FTF_0 {fa pl w : Int} (h : w = 0) : FTF fa pl w = fa := if_pos h
theorem FTF_1 {fa pl w : Int} (h : w = 1) : FTF fa pl w = pl := by unfold FTF; rw [if_neg (by omega), if_pos h]
theorem FTF_2 {fa pl w : Int} (h0 : ¬ w = 0) (h1 : ¬ w = 1) : FTF fa pl w = -1 := by unfold FTF; rw [if_neg h0, if_neg h1]
end Regs
theorem dJ0_charAt_5068e_0 : decode cJ0_charAt_5068e 0 = .ok (.aload_n 0, 1) := by decide +kernel
theorem dJ0_charAt_5068e_1 : decode cJ0_charAt_5068e 1 = .ok (.invokevirtual 492, 3) := by decide +kernel
theorem dJ0_charAt_5068e_4 : decode cJ0_charAt_5068e 4 = .ok (.ifCond .eq 12, 3) := by decide +kernel
theorem dJ0_charAt_5068e_7 : decode cJ0_charAt_5068e 7 = .ok (.aload_n 0, 1) := by decide +kernel
theorem dJ0_charAt_5068e_8 : decode cJ0_charAt_5068e 8 = .ok (.getfield 9, 3) := by decide +kernel
theorem dJ0_charAt_5068e_11 : decode cJ0_charAt_5068e 11 = .ok (.iload_n 1, 1) := by decide +kernel
theorem dJ0_charAt_5068e_12 : decode cJ0_charAt_5068e 12 = .ok (.invokestatic 495, 3) := by decide +kernel
theorem dJ0_charAt_5068e_15 : decode cJ0_charAt_5068e 15 = .ok (.ireturn, 1) := by decide +kernel
theorem dJ0_checkIndex_df160_0 : decode cJ0_checkIndex_df160 0 = .ok (.iload_n 0, 1) := by decide +kernel
theorem dJ0_checkIndex_df160_1 : decode cJ0_checkIndex_df160 1 = .ok (.iload_n 1, 1) := by decide +kernel
theorem dJ0_checkIndex_df160_2 : decode cJ0_checkIndex_df160 2 = .ok (.getstatic 1053, 3) := by decide +kernel
theorem dJ0_checkIndex_df160_5 : decode cJ0_checkIndex_df160 5 = .ok (.invokestatic 1059, 3) := by decide +kernel
theorem dJ0_checkIndex_df160_8 : decode cJ0_checkIndex_df160 8 = .ok (.pop, 1) := by decide +kernel
theorem dJ0_checkIndex_df160_9 : decode cJ0_checkIndex_df160 9 = .ok (.return_, 1) := by decide +kernel
theorem dJ0_coder_7d493_0 : decode cJ0_coder_7d493 0 = .ok (.getstatic 38, 3) := by decide +kernel
theorem dJ0_coder_7d493_3 : decode cJ0_coder_7d493 3 = .ok (.ifCond .eq 10, 3) := by decide +kernel
theorem dJ0_coder_7d493_6 : decode cJ0_coder_7d493 6 = .ok (.aload_n 0, 1) := by decide +kernel
theorem dJ0_coder_7d493_7 : decode cJ0_coder_7d493 7 = .ok (.getfield 15, 3) := by decide +kernel
theorem dJ0_coder_7d493_10 : decode cJ0_coder_7d493 10 = .ok (.goto 4, 3) := by decide +kernel
theorem dJ0_coder_7d493_14 : decode cJ0_coder_7d493 14 = .ok (.ireturn, 1) := by decide +kernel
theorem dJ0_isLatin1_aae02_0 : decode cJ0_isLatin1_aae02 0 = .ok (.getstatic 38, 3) := by decide +kernel
theorem dJ0_isLatin1_aae02_3 : decode cJ0_isLatin1_aae02 3 = .ok (.ifCond .eq 14, 3) := by decide +kernel
theorem dJ0_isLatin1_aae02_6 : decode cJ0_isLatin1_aae02 6 = .ok (.aload_n 0, 1) := by decide +kernel
theorem dJ0_isLatin1_aae02_7 : decode cJ0_isLatin1_aae02 7 = .ok (.getfield 15, 3) := by decide +kernel
theorem dJ0_isLatin1_aae02_10 : decode cJ0_isLatin1_aae02 10 = .ok (.ifCond .ne 7, 3) := by decide +kernel
theorem dJ0_isLatin1_aae02_13 : decode cJ0_isLatin1_aae02 13 = .ok (.iconst 1, 1) := by decide +kernel
theorem dJ0_isLatin1_aae02_14 : decode cJ0_isLatin1_aae02 14 = .ok (.goto 4, 3) := by decide +kernel
theorem dJ0_isLatin1_aae02_18 : decode cJ0_isLatin1_aae02 18 = .ok (.ireturn, 1) := by decide +kernel
theorem dJ0_length_8abf5_0 : decode cJ0_length_8abf5 0 = .ok (.aload_n 0, 1) := by decide +kernel
theorem dJ0_length_8abf5_1 : decode cJ0_length_8abf5 1 = .ok (.getfield 9, 3) := by decide +kernel
theorem dJ0_length_8abf5_4 : decode cJ0_length_8abf5 4 = .ok (.arraylength, 1) := by decide +kernel
theorem dJ0_length_8abf5_5 : decode cJ0_length_8abf5 5 = .ok (.aload_n 0, 1) := by decide +kernel
theorem dJ0_length_8abf5_6 : decode cJ0_length_8abf5 6 = .ok (.invokevirtual 335, 3) := by decide +kernel
theorem dJ0_length_8abf5_9 : decode cJ0_length_8abf5 9 = .ok (.ishr, 1) := by decide +kernel
theorem dJ0_length_8abf5_10 : decode cJ0_length_8abf5 10 = .ok (.ireturn, 1) := by decide +kernel
theorem dJ1_charAt_3b067_0 : decode cJ1_charAt_3b067 0 = .ok (.iload_n 1, 1) := by decide +kernel
theorem dJ1_charAt_3b067_1 : decode cJ1_charAt_3b067 1 = .ok (.aload_n 0, 1) := by decide +kernel
theorem dJ1_charAt_3b067_2 : decode cJ1_charAt_3b067 2 = .ok (.arraylength, 1) := by decide +kernel
theorem dJ1_charAt_3b067_3 : decode cJ1_charAt_3b067 3 = .ok (.invokestatic 9, 3) := by decide +kernel
theorem dJ1_charAt_3b067_6 : decode cJ1_charAt_3b067 6 = .ok (.aload_n 0, 1) := by decide +kernel
theorem dJ1_charAt_3b067_7 : decode cJ1_charAt_3b067 7 = .ok (.iload_n 1, 1) := by decide +kernel
theorem dJ1_charAt_3b067_8 : decode cJ1_charAt_3b067 8 = .ok (.baload, 1) := by decide +kernel
theorem dJ1_charAt_3b067_9 : decode cJ1_charAt_3b067 9 = .ok (.sipush 255, 3) := by decide +kernel
theorem dJ1_charAt_3b067_12 : decode cJ1_charAt_3b067 12 = .ok (.iand, 1) := by decide +kernel
theorem dJ1_charAt_3b067_13 : decode cJ1_charAt_3b067 13 = .ok (.i2c, 1) := by decide +kernel
theorem dJ1_charAt_3b067_14 : decode cJ1_charAt_3b067 14 = .ok (.ireturn, 1) := by decide +kernel
theorem dJ3_checkIndex_8e157_0 : decode cJ3_checkIndex_8e157 0 = .ok (.iload_n 0, 1) := by decide +kernel
theorem dJ3_checkIndex_8e157_1 : decode cJ3_checkIndex_8e157 1 = .ok (.ifCond .lt 8, 3) := by decide +kernel
theorem dJ3_checkIndex_8e157_4 : decode cJ3_checkIndex_8e157 4 = .ok (.iload_n 0, 1) := by decide +kernel
theorem dJ3_checkIndex_8e157_5 : decode cJ3_checkIndex_8e157 5 = .ok (.iload_n 1, 1) := by decide +kernel
theorem dJ3_checkIndex_8e157_6 : decode cJ3_checkIndex_8e157 6 = .ok (.if_icmp .lt 10, 3) := by decide +kernel
theorem dJ3_checkIndex_8e157_16 : decode cJ3_checkIndex_8e157 16 = .ok (.iload_n 0, 1) := by decide +kernel
theorem dJ3_checkIndex_8e157_17 : decode cJ3_checkIndex_8e157 17 = .ok (.ireturn, 1) := by decide +kernel
theorem kw_14 : Cond.initialized "java/lang/String" ∈ gw := gw_of (tb_of 14 (by decide +kernel)) (by decide +kernel)
theorem kw_15 : Cond.initialized "java/lang/StringLatin1" ∈ gw := gw_of (tb_of 15 (by decide +kernel)) (by decide +kernel)
theorem kw_17 : Cond.initialized "jdk/internal/util/Preconditions" ∈ gw := gw_of (tb_of 17 (by decide +kernel)) (by decide +kernel)
theorem kw_471 : Cond.methodLink "java/lang/String" 492 yJ0_isLatin1_aae02 ∈ gw := gw_of (tb_of 471 (by decide +kernel)) (by decide +kernel)
theorem kw_472 : Cond.instanceMethod yJ0_isLatin1_aae02 ∈ gw := gw_of (tb_of 472 (by decide +kernel)) (by decide +kernel)
theorem kw_473 : Cond.selects "java/lang/String" yJ0_isLatin1_aae02 yJ0_isLatin1_aae02 ∈ gw := gw_of (tb_of 473 (by decide +kernel)) (by decide +kernel)
theorem kw_474 : Cond.code yJ0_isLatin1_aae02 cJ0_isLatin1_aae02 1 (some (.boolean)) ∈ gw := gw_of (tb_of 474 (by decide +kernel)) (by decide +kernel)
theorem kw_475 : Cond.fieldLink "java/lang/String" 38 "java/lang/String" "COMPACT_STRINGS" "Z" ∈ gw := gw_of (tb_of 475 (by decide +kernel)) (by decide +kernel)
theorem kw_481 : Cond.methodLink "java/lang/String" 335 yJ0_coder_7d493 ∈ gw := gw_of (tb_of 481 (by decide +kernel)) (by decide +kernel)
theorem kw_482 : Cond.instanceMethod yJ0_coder_7d493 ∈ gw := gw_of (tb_of 482 (by decide +kernel)) (by decide +kernel)
theorem kw_483 : Cond.selects "java/lang/String" yJ0_coder_7d493 yJ0_coder_7d493 ∈ gw := gw_of (tb_of 483 (by decide +kernel)) (by decide +kernel)
theorem kw_484 : Cond.code yJ0_coder_7d493 cJ0_coder_7d493 1 (some (.byte)) ∈ gw := gw_of (tb_of 484 (by decide +kernel)) (by decide +kernel)
theorem kw_514 : Cond.fieldLink "java/lang/String" 1053 "jdk/internal/util/Preconditions" "SIOOBE_FORMATTER" "Ljava/util/function/BiFunction;" ∈ gw := gw_of (tb_of 514 (by decide +kernel)) (by decide +kernel)
theorem kw_559 : Cond.methodLink "java/lang/String" 495 yJ1_charAt_3b067 ∈ gw := gw_of (tb_of 559 (by decide +kernel)) (by decide +kernel)
theorem kw_560 : Cond.static yJ1_charAt_3b067 ∈ gw := gw_of (tb_of 560 (by decide +kernel)) (by decide +kernel)
theorem kw_561 : Cond.code yJ1_charAt_3b067 cJ1_charAt_3b067 2 (some (.char)) ∈ gw := gw_of (tb_of 561 (by decide +kernel)) (by decide +kernel)
theorem kw_562 : Cond.methodLink "java/lang/StringLatin1" 9 yJ0_checkIndex_df160 ∈ gw := gw_of (tb_of 562 (by decide +kernel)) (by decide +kernel)
theorem kw_563 : Cond.static yJ0_checkIndex_df160 ∈ gw := gw_of (tb_of 563 (by decide +kernel)) (by decide +kernel)
theorem kw_564 : Cond.code yJ0_checkIndex_df160 cJ0_checkIndex_df160 2 none ∈ gw := gw_of (tb_of 564 (by decide +kernel)) (by decide +kernel)
theorem kw_565 : Cond.methodLink "java/lang/String" 1059 yJ3_checkIndex_8e157 ∈ gw := gw_of (tb_of 565 (by decide +kernel)) (by decide +kernel)
theorem kw_566 : Cond.static yJ3_checkIndex_8e157 ∈ gw := gw_of (tb_of 566 (by decide +kernel)) (by decide +kernel)
theorem kw_567 : Cond.code yJ3_checkIndex_8e157 cJ3_checkIndex_8e157 3 (some (.int)) ∈ gw := gw_of (tb_of 567 (by decide +kernel)) (by decide +kernel)
theorem kw_1789 : Cond.fieldLink "java/lang/String" 15 "java/lang/String" "coder" "B" ∈ gw := gw_of (tb_of 1789 (by decide +kernel)) (by decide +kernel)
theorem kw_1790 : Cond.fieldLink "java/lang/String" 9 "java/lang/String" "value" "[B" ∈ gw := gw_of (tb_of 1790 (by decide +kernel)) (by decide +kernel)
set_option maxHeartbeats 4000000 in
set_option maxRecDepth 100000 in
theorem s_checkIndexPN (l : Launch) (D : va_G) (cs : CS) (kf : KF) (T : TF) (O : List Nat) (X : va_W) (x0 : Int32) (x1 : Int32) (l_x0 : 0 ≤ x0.toInt) (u_x0 : x0.toInt < x1.toInt) (hO : okO T O []) : TK l D cs kf yJ3_checkIndex_8e157 cJ3_checkIndex_8e157 3 (some (.int)) { frames := 0, cells := 0, slots := 0, locals := 0 } [.int x0, .int x1, .null] T O X (Ti D cs (fun r u => u = (T, O, X) ∧ 0 ≤ r.toInt ∧ r.toInt ≤ 2147483646)) := by
  refine tk_of (by decide) (Nat.le_of_ble_eq_true rfl) (fun p e s m below meth c ls A H locs hx hb hr hml hown hts hlocks hnm hkb hH hS hA hOX hks hE hl => ?_)
  have hown : s.vm.findClass RJ3 = some m.cls := hown
  have hl : lv_has ls 3 [(0, .int x0), (1, .int x1), (2, .null)] := hl
  refine lv_iload_n hx hb dJ3_checkIndex_8e157_0 rfl (lv_at hl 0 rfl) ?_
  refine lv_if_lt (tgt := 9) hx hb dJ3_checkIndex_8e157_1 (by decide) (fun c1 => ?_) (fun c1 => ?_)
  · skip
    have tc1 := f_lt (k := 0) (by decide) c1
    exfalso; omega
  · skip
    have tc1 := f_nlt (k := 0) (by decide) c1
    refine lv_iload_n hx hb dJ3_checkIndex_8e157_4 rfl (lv_at hl 0 rfl) ?_
    refine lv_iload_n hx hb dJ3_checkIndex_8e157_5 rfl (lv_at hl 1 rfl) ?_
    refine lv_icmp_lt (tgt := 16) hx hb dJ3_checkIndex_8e157_6 (by decide) (fun c6 => ?_) (fun c6 => ?_)
    · skip
      have fuc6 := full_i x0
      have fvc6 := full_i x1
      have tc6 := g_lt c6
      refine lv_iload_n hx hb dJ3_checkIndex_8e157_16 rfl (lv_at hl 0 rfl) ?_
      exact te_i hx hb hr hlocks hH hS (⟨rfl, by omega, by omega⟩) dJ3_checkIndex_8e157_17
    · skip
      have fuc6 := full_i x0
      have fvc6 := full_i x1
      have tc6 := g_nlt c6
      exfalso; omega
set_option maxHeartbeats 4000000 in
set_option maxRecDepth 100000 in
theorem s_checkIndexPR (l : Launch) (D : va_G) (cs : CS) (kf : KF) (T : TF) (O : List Nat) (X : va_W) (x0 : Int32) (x1 : Int32) (x2 : Nat) (l_x0 : 0 ≤ x0.toInt) (u_x0 : x0.toInt < x1.toInt) (hO : okO T O []) : TK l D cs kf yJ3_checkIndex_8e157 cJ3_checkIndex_8e157 3 (some (.int)) { frames := 0, cells := 0, slots := 0, locals := 0 } [.int x0, .int x1, .ref x2] T O X (Ti D cs (fun r u => u = (T, O, X) ∧ 0 ≤ r.toInt ∧ r.toInt ≤ 2147483646)) := by
  refine tk_of (by decide) (Nat.le_of_ble_eq_true rfl) (fun p e s m below meth c ls A H locs hx hb hr hml hown hts hlocks hnm hkb hH hS hA hOX hks hE hl => ?_)
  have hown : s.vm.findClass RJ3 = some m.cls := hown
  have hl : lv_has ls 3 [(0, .int x0), (1, .int x1), (2, .ref x2)] := hl
  refine lv_iload_n hx hb dJ3_checkIndex_8e157_0 rfl (lv_at hl 0 rfl) ?_
  refine lv_if_lt (tgt := 9) hx hb dJ3_checkIndex_8e157_1 (by decide) (fun c1 => ?_) (fun c1 => ?_)
  · skip
    have tc1 := f_lt (k := 0) (by decide) c1
    exfalso; omega
  · skip
    have tc1 := f_nlt (k := 0) (by decide) c1
    refine lv_iload_n hx hb dJ3_checkIndex_8e157_4 rfl (lv_at hl 0 rfl) ?_
    refine lv_iload_n hx hb dJ3_checkIndex_8e157_5 rfl (lv_at hl 1 rfl) ?_
    refine lv_icmp_lt (tgt := 16) hx hb dJ3_checkIndex_8e157_6 (by decide) (fun c6 => ?_) (fun c6 => ?_)
    · skip
      have fuc6 := full_i x0
      have fvc6 := full_i x1
      have tc6 := g_lt c6
      refine lv_iload_n hx hb dJ3_checkIndex_8e157_16 rfl (lv_at hl 0 rfl) ?_
      exact te_i hx hb hr hlocks hH hS (⟨rfl, by omega, by omega⟩) dJ3_checkIndex_8e157_17
    · skip
      have fuc6 := full_i x0
      have fvc6 := full_i x1
      have tc6 := g_nlt c6
      exfalso; omega
set_option maxHeartbeats 4000000 in
set_option maxRecDepth 100000 in
theorem s_checkIndex (l : Launch) (D : va_G) (cs : CS) (kf : KF) (T : TF) (O : List Nat) (X : va_W) (x0 : Int32) (x1 : Int32) (l_x0 : 0 ≤ x0.toInt) (u_x0 : x0.toInt < x1.toInt) (hO : okO T O []) : TK l D cs kf yJ0_checkIndex_df160 cJ0_checkIndex_df160 2 none { frames := 1, cells := 0, slots := 0, locals := 22 } [.int x0, .int x1] T O X (Tv D cs (fun u => u = (T, O, X))) := by
  refine tk_of (by decide) (Nat.le_of_ble_eq_true rfl) (fun p e s m below meth c ls A H locs hx hb hr hml hown hts hlocks hnm hkb hH hS hA hOX hks hE hl => ?_)
  have hown : s.vm.findClass RJ0 = some m.cls := hown
  have hl : lv_has ls 2 [(0, .int x0), (1, .int x1)] := hl
  refine lv_iload_n hx hb dJ0_checkIndex_df160_0 rfl (lv_at hl 0 rfl) ?_
  refine lv_iload_n hx hb dJ0_checkIndex_df160_1 rfl (lv_at hl 1 rfl) ?_
  obtain ⟨fo9, hf9⟩ := hE.2.2
  refine va_gets hx hb hf9 hS hown (hts _ kw_514) (fun _ h9 => h9) dJ0_checkIndex_df160_2 ?_
  rcases fo9 with _ | r9
  · skip
    refine tk_i hH hS hA (tr_S (n := 3) (As := [.int x0, .int x1, .null]) hx hb hml hown hts hkb hH hOX hks hE hS hA (s_checkIndexPN l D cs kf T O X x0 x1 (by omega) (by omega) (hO.sub (by decide))) kw_565 kw_566 kw_17 kw_567 (by decide +kernel) ⟨Nat.le_of_ble_eq_true rfl, Nat.le_of_ble_eq_true rfl⟩ rfl rfl hl.1 (Nat.le_of_ble_eq_true rfl) dJ0_checkIndex_df160_5 ⟨Nat.le_of_ble_eq_true rfl, Nat.le_of_ble_eq_true rfl⟩) (fun v5 u H locs hz9 hH hS => ?_)
    obtain ⟨rfl, l_v5, u_v5⟩ := hz9
    have hH : HT D cs A T O X H := hH
    refine W.widen (k := 0) (n := 0) (Nat.le_of_ble_eq_true rfl) (Nat.le_of_ble_eq_true rfl) ?_
    refine lv_pop hx hb dJ0_checkIndex_df160_8 rfl ?_
    exact te_v hx hb hr hlocks hH hS rfl dJ0_checkIndex_df160_9
  · skip
    refine tk_i hH hS hA (tr_S (n := 3) (As := [.int x0, .int x1, .ref r9]) hx hb hml hown hts hkb hH hOX hks hE hS hA (s_checkIndexPR l D cs kf T O X x0 x1 r9 (by omega) (by omega) (hO.sub (by decide))) kw_565 kw_566 kw_17 kw_567 (by decide +kernel) ⟨Nat.le_of_ble_eq_true rfl, Nat.le_of_ble_eq_true rfl⟩ rfl rfl hl.1 (Nat.le_of_ble_eq_true rfl) dJ0_checkIndex_df160_5 ⟨Nat.le_of_ble_eq_true rfl, Nat.le_of_ble_eq_true rfl⟩) (fun v5 u H locs hz9 hH hS => ?_)
    obtain ⟨rfl, l_v5, u_v5⟩ := hz9
    have hH : HT D cs A T O X H := hH
    refine W.widen (k := 0) (n := 0) (Nat.le_of_ble_eq_true rfl) (Nat.le_of_ble_eq_true rfl) ?_
    refine lv_pop hx hb dJ0_checkIndex_df160_8 rfl ?_
    exact te_v hx hb hr hlocks hH hS rfl dJ0_checkIndex_df160_9
set_option maxHeartbeats 4000000 in
set_option maxRecDepth 100000 in
theorem s_coder (l : Launch) (D : va_G) (cs : CS) (kf : KF) (T : TF) (O : List Nat) (X : va_W) (a0 : Nat) (t_a0 : a0 < 21) (hO : okO T O []) : TK l D cs kf yJ0_coder_7d493 cJ0_coder_7d493 1 (some (.byte)) { frames := 0, cells := 0, slots := 0, locals := 0 } [.ref (kf.1 a0)] T O X (Ti D cs (fun r u => u = (T, O, X) ∧ 0 ≤ r.toInt ∧ r.toInt ≤ 0)) := by
  refine tk_of (by decide) (Nat.le_of_ble_eq_true rfl) (fun p e s m below meth c ls A H locs hx hb hr hml hown hts hlocks hnm hkb hH hS hA hOX hks hE hl => ?_)
  have hown : s.vm.findClass RJ0 = some m.cls := hown
  have hl : lv_has ls 1 [(0, .ref (kf.1 a0))] := hl
  refine va_gets hx hb hE.2.1 hS hown (hts _ kw_475) (fun _ h9 => h9) dJ0_coder_7d493_0 ?_
  refine lv_if_eq (tgt := 13) hx hb dJ0_coder_7d493_3 (by decide) (fun c3 => absurd c3 (by decide)) (fun _ => ?_)
  refine lv_aload_n hx hb dJ0_coder_7d493_6 rfl (lv_at hl 0 rfl) ?_
  refine vk_getf hx hb (hE.1.1 a0 t_a0).2.1 hS hown (hts _ kw_1789) (fun _ h9 => h9) dJ0_coder_7d493_7 ?_
  refine lv_goto (tgt := 14) hx hb dJ0_coder_7d493_10 (by decide) ?_
  exact te_n hx hb hr hlocks (by rfl) hH hS (⟨rfl, by decide, by decide⟩) dJ0_coder_7d493_14
set_option maxHeartbeats 4000000 in
set_option maxRecDepth 100000 in
theorem s_isLatin1 (l : Launch) (D : va_G) (cs : CS) (kf : KF) (T : TF) (O : List Nat) (X : va_W) (a0 : Nat) (t_a0 : a0 < 21) (hO : okO T O []) : TK l D cs kf yJ0_isLatin1_aae02 cJ0_isLatin1_aae02 1 (some (.boolean)) { frames := 0, cells := 0, slots := 0, locals := 0 } [.ref (kf.1 a0)] T O X (Ti D cs (fun r u => u = (T, O, X) ∧ 1 ≤ r.toInt ∧ r.toInt ≤ 1)) := by
  refine tk_of (by decide) (Nat.le_of_ble_eq_true rfl) (fun p e s m below meth c ls A H locs hx hb hr hml hown hts hlocks hnm hkb hH hS hA hOX hks hE hl => ?_)
  have hown : s.vm.findClass RJ0 = some m.cls := hown
  have hl : lv_has ls 1 [(0, .ref (kf.1 a0))] := hl
  refine va_gets hx hb hE.2.1 hS hown (hts _ kw_475) (fun _ h9 => h9) dJ0_isLatin1_aae02_0 ?_
  refine lv_if_eq (tgt := 17) hx hb dJ0_isLatin1_aae02_3 (by decide) (fun c3 => absurd c3 (by decide)) (fun _ => ?_)
  refine lv_aload_n hx hb dJ0_isLatin1_aae02_6 rfl (lv_at hl 0 rfl) ?_
  refine vk_getf hx hb (hE.1.1 a0 t_a0).2.1 hS hown (hts _ kw_1789) (fun _ h9 => h9) dJ0_isLatin1_aae02_7 ?_
  refine lv_if_ne (tgt := 17) hx hb dJ0_isLatin1_aae02_10 (by decide) (fun c10 => absurd c10 (by decide)) (fun _ => ?_)
  refine lv_iconst (v := 1) hx hb dJ0_isLatin1_aae02_13 (by decide) ?_
  refine lv_goto (tgt := 18) hx hb dJ0_isLatin1_aae02_14 (by decide) ?_
  exact te_z hx hb hr hlocks (by rfl) hH hS (⟨rfl, by decide, by decide⟩) dJ0_isLatin1_aae02_18
set_option maxHeartbeats 4000000 in
set_option maxRecDepth 100000 in
theorem s_length (l : Launch) (D : va_G) (cs : CS) (kf : KF) (T : TF) (O : List Nat) (X : va_W) (a0 : Nat) (t_a0 : a0 < 21) (hO : okO T O []) : TK l D cs kf yJ0_length_8abf5 cJ0_length_8abf5 1 (some (.int)) { frames := 1, cells := 0, slots := 0, locals := 20 } [.ref (kf.1 a0)] T O X (Ti D cs (fun r u => u = (T, O, X) ∧ 0 ≤ r.toInt ∧ r.toInt ≤ 88 ∧ (r.toInt = (slen.getD a0 0 : Nat)))) := by
  refine tk_of (by decide) (Nat.le_of_ble_eq_true rfl) (fun p e s m below meth c ls A H locs hx hb hr hml hown hts hlocks hnm hkb hH hS hA hOX hks hE hl => ?_)
  have hown : s.vm.findClass RJ0 = some m.cls := hown
  have hl : lv_has ls 1 [(0, .ref (kf.1 a0))] := hl
  refine lv_aload_n hx hb dJ0_length_8abf5_0 rfl (lv_at hl 0 rfl) ?_
  refine vk_getf hx hb (hE.1.1 a0 t_a0).2.2.1 hS hown (hts _ kw_1790) (fun _ h9 => h9) dJ0_length_8abf5_1 ?_
  refine va_tlen (v := nI (slen.getD a0 0)) hx hb (hE.1.1 a0 t_a0).2.2.2 hS rfl dJ0_length_8abf5_4 ?_
  have b9_a0 := slen_b a0
  have e9_a0 : (nI (slen.getD a0 0)).toInt = (slen.getD a0 0 : Nat) := nI_toInt (by omega)
  refine lv_aload_n hx hb dJ0_length_8abf5_5 rfl (lv_at hl 0 rfl) ?_
  refine tk_i hH hS hA (tr_V (n := 0) (As := []) hx hb hml hown hts hkb hH hOX hks hE hS hA (s_coder l D cs kf T O X a0 t_a0 (hO.sub (by decide))) kw_481 kw_482 kw_483 kw_14 kw_484 (by decide +kernel) ⟨Nat.le_of_ble_eq_true rfl, Nat.le_of_ble_eq_true rfl⟩ (vk_recv hE.1 t_a0 hS) rfl rfl hl.1 (Nat.le_of_ble_eq_true rfl) dJ0_length_8abf5_6 ⟨Nat.le_of_ble_eq_true rfl, Nat.le_of_ble_eq_true rfl⟩) (fun v6 u H locs hz9 hH hS => ?_)
  obtain ⟨rfl, l_v6, u_v6⟩ := hz9
  refine lv_topc (y := 0) (eq_c (by decide) l_v6 u_v6) ?_
  have hH : HT D cs A T O X H := hH
  refine W.widen (k := 0) (n := 0) (Nat.le_of_ble_eq_true rfl) (Nat.le_of_ble_eq_true rfl) ?_
  refine lv_ishr hx hb dJ0_length_8abf5_9 ?_
  refine lv_topi (fun v9 ev9 => ?_)
  have tv9 : v9.toInt = (nI (slen.getD a0 0)).toInt / 1 := by rw [ev9]; exact shr_c 0 (by decide +kernel) (by decide)
  exact te_i hx hb hr hlocks hH hS (⟨rfl, by omega, by omega, by omega⟩) dJ0_length_8abf5_10
set_option maxHeartbeats 4000000 in
set_option maxRecDepth 100000 in
theorem s_L1charAt2 (l : Launch) (D : va_G) (cs : CS) (kf : KF) (T : TF) (O : List Nat) (X : va_W) (a0 : Nat) (x1 : Int32) (t_a0 : a0 < 21) (l_x1 : 0 ≤ x1.toInt) (u_x1 : x1.toInt < (slen.getD a0 0 : Nat)) (hO : okO T O []) : TK l D cs kf yJ1_charAt_3b067 cJ1_charAt_3b067 2 (some (.char)) { frames := 2, cells := 0, slots := 0, locals := 43 } [.ref (kf.2 a0), .int x1] T O X (Ti D cs (fun r u => u = (T, O, X) ∧ 0 ≤ r.toInt ∧ r.toInt ≤ 255 ∧ (r = chF a0 x1.toInt.toNat))) := by
  refine tk_of (by decide) (Nat.le_of_ble_eq_true rfl) (fun p e s m below meth c ls A H locs hx hb hr hml hown hts hlocks hnm hkb hH hS hA hOX hks hE hl => ?_)
  have hown : s.vm.findClass RJ1 = some m.cls := hown
  have hl : lv_has ls 2 [(0, .ref (kf.2 a0)), (1, .int x1)] := hl
  refine lv_iload_n hx hb dJ1_charAt_3b067_0 rfl (lv_at hl 1 rfl) ?_
  refine lv_aload_n hx hb dJ1_charAt_3b067_1 rfl (lv_at hl 0 rfl) ?_
  refine va_tlen (v := nI (slen.getD a0 0)) hx hb (hE.1.1 a0 t_a0).2.2.2 hS rfl dJ1_charAt_3b067_2 ?_
  have b9_a0 := slen_b a0
  have e9_a0 : (nI (slen.getD a0 0)).toInt = (slen.getD a0 0 : Nat) := nI_toInt (by omega)
  refine tk_v hH hS hA (tr_S (n := 2) (As := [.int x1, .int (nI (slen.getD a0 0))]) hx hb hml hown hts hkb hH hOX hks hE hS hA (s_checkIndex l D cs kf T O X x1 (nI (slen.getD a0 0)) (by omega) (by omega) (hO.sub (by decide))) kw_562 kw_563 kw_14 kw_564 (by decide +kernel) ⟨Nat.le_of_ble_eq_true rfl, Nat.le_of_ble_eq_true rfl⟩ rfl rfl hl.1 (Nat.le_of_ble_eq_true rfl) dJ1_charAt_3b067_3 ⟨Nat.le_of_ble_eq_true rfl, Nat.le_of_ble_eq_true rfl⟩) (fun u H locs hz9 hH hS => ?_)
  have hz9 : u = (T, O, X) := hz9
  subst hz9
  have hH : HT D cs A T O X H := hH
  refine W.widen (k := 0) (n := 0) (Nat.le_of_ble_eq_true rfl) (Nat.le_of_ble_eq_true rfl) ?_
  refine lv_aload_n hx hb dJ1_charAt_3b067_6 rfl (lv_at hl 0 rfl) ?_
  refine lv_iload_n hx hb dJ1_charAt_3b067_7 rfl (lv_at hl 1 rfl) ?_
  refine va_tb (v := .int ((sbyt.getD a0 []).getD (Int32.toNatClampNeg x1) 0)) hx hb (hE.1.1 a0 t_a0).2.2.2 hS (in_t (by omega) (by omega)) rfl dJ1_charAt_3b067_8 ?_
  refine lv_topi (fun v8 ev8 => ?_)
  refine lv_sipush (v := 255) hx hb dJ1_charAt_3b067_9 (by decide) ?_
  refine lv_iand hx hb dJ1_charAt_3b067_12 ?_
  refine lv_topi (fun v12 ev12 => ?_)
  have tv12 : 0 ≤ v12.toInt ∧ v12.toInt ≤ 255 := by rw [ev12]; exact and_r (by decide)
  refine lv_i2c (v := v12) hx hb dJ1_charAt_3b067_13 (i2c_id (by omega) (by omega)) ?_
  exact te_n hx hb hr hlocks (narc (by omega) (by omega)) hH hS (⟨rfl, by omega, by omega, (ch_and (show v8 = chF a0 x1.toInt.toNat from ev8) ev12).1⟩) dJ1_charAt_3b067_14
set_option maxHeartbeats 4000000 in
set_option maxRecDepth 100000 in
theorem s_charAt2 (l : Launch) (D : va_G) (cs : CS) (kf : KF) (T : TF) (O : List Nat) (X : va_W) (a0 : Nat) (x1 : Int32) (t_a0 : a0 < 21) (l_x1 : 0 ≤ x1.toInt) (u_x1 : x1.toInt < (slen.getD a0 0 : Nat)) (hO : okO T O []) : TK l D cs kf yJ0_charAt_5068e cJ0_charAt_5068e 2 (some (.char)) { frames := 3, cells := 0, slots := 0, locals := 64 } [.ref (kf.1 a0), .int x1] T O X (Ti D cs (fun r u => u = (T, O, X) ∧ 0 ≤ r.toInt ∧ r.toInt ≤ 255 ∧ (r = chF a0 x1.toInt.toNat))) := by
  refine tk_of (by decide) (Nat.le_of_ble_eq_true rfl) (fun p e s m below meth c ls A H locs hx hb hr hml hown hts hlocks hnm hkb hH hS hA hOX hks hE hl => ?_)
  have hown : s.vm.findClass RJ0 = some m.cls := hown
  have hl : lv_has ls 2 [(0, .ref (kf.1 a0)), (1, .int x1)] := hl
  refine lv_aload_n hx hb dJ0_charAt_5068e_0 rfl (lv_at hl 0 rfl) ?_
  refine tk_i hH hS hA (tr_V (n := 0) (As := []) hx hb hml hown hts hkb hH hOX hks hE hS hA (s_isLatin1 l D cs kf T O X a0 t_a0 (hO.sub (by decide))) kw_471 kw_472 kw_473 kw_14 kw_474 (by decide +kernel) ⟨Nat.le_of_ble_eq_true rfl, Nat.le_of_ble_eq_true rfl⟩ (vk_recv hE.1 t_a0 hS) rfl rfl hl.1 (Nat.le_of_ble_eq_true rfl) dJ0_charAt_5068e_1 ⟨Nat.le_of_ble_eq_true rfl, Nat.le_of_ble_eq_true rfl⟩) (fun v1 u H locs hz9 hH hS => ?_)
  obtain ⟨rfl, l_v1, u_v1⟩ := hz9
  refine lv_topc (y := 1) (eq_c (by decide) l_v1 u_v1) ?_
  have hH : HT D cs A T O X H := hH
  refine W.widen (k := 0) (n := 0) (Nat.le_of_ble_eq_true rfl) (Nat.le_of_ble_eq_true rfl) ?_
  refine lv_if_eq (tgt := 16) hx hb dJ0_charAt_5068e_4 (by decide) (fun c4 => absurd c4 (by decide)) (fun _ => ?_)
  refine lv_aload_n hx hb dJ0_charAt_5068e_7 rfl (lv_at hl 0 rfl) ?_
  refine vk_getf hx hb (hE.1.1 a0 t_a0).2.2.1 hS hown (hts _ kw_1790) (fun _ h9 => h9) dJ0_charAt_5068e_8 ?_
  refine lv_iload_n hx hb dJ0_charAt_5068e_11 rfl (lv_at hl 1 rfl) ?_
  refine tk_i hH hS hA (tr_S (n := 2) (As := [.ref (kf.2 a0), .int x1]) hx hb hml hown hts hkb hH hOX hks hE hS hA (s_L1charAt2 l D cs kf T O X a0 x1 t_a0 (by omega) (by omega) (hO.sub (by decide))) kw_559 kw_560 kw_15 kw_561 (by decide +kernel) ⟨Nat.le_of_ble_eq_true rfl, Nat.le_of_ble_eq_true rfl⟩ rfl rfl hl.1 (Nat.le_of_ble_eq_true rfl) dJ0_charAt_5068e_12 ⟨Nat.le_of_ble_eq_true rfl, Nat.le_of_ble_eq_true rfl⟩) (fun v12 u H locs hz9 hH hS => ?_)
  obtain ⟨rfl, l_v12, u_v12, x_v120⟩ := hz9
  have hH : HT D cs A T O X H := hH
  refine W.widen (k := 0) (n := 0) (Nat.le_of_ble_eq_true rfl) (Nat.le_of_ble_eq_true rfl) ?_
  exact te_n hx hb hr hlocks (narc (by omega) (by omega)) hH hS (⟨rfl, by omega, by omega, x_v120⟩) dJ0_charAt_5068e_15
theorem dJ0_indexOf_0f7a4_0 : decode cJ0_indexOf_0f7a4 0 = .ok (.aload_n 0, 1) := by decide +kernel
theorem dJ0_indexOf_0f7a4_1 : decode cJ0_indexOf_0f7a4 1 = .ok (.iload_n 1, 1) := by decide +kernel
theorem dJ0_indexOf_0f7a4_2 : decode cJ0_indexOf_0f7a4 2 = .ok (.iconst 0, 1) := by decide +kernel
theorem dJ0_indexOf_0f7a4_3 : decode cJ0_indexOf_0f7a4 3 = .ok (.invokevirtual 633, 3) := by decide +kernel
theorem dJ0_indexOf_0f7a4_6 : decode cJ0_indexOf_0f7a4 6 = .ok (.ireturn, 1) := by decide +kernel
theorem dJ0_indexOf_7cf53_0 : decode cJ0_indexOf_7cf53 0 = .ok (.aload_n 0, 1) := by decide +kernel
theorem dJ0_indexOf_7cf53_1 : decode cJ0_indexOf_7cf53 1 = .ok (.invokevirtual 492, 3) := by decide +kernel
theorem dJ0_indexOf_7cf53_4 : decode cJ0_indexOf_7cf53 4 = .ok (.ifCond .eq 19, 3) := by decide +kernel
theorem dJ0_indexOf_7cf53_7 : decode cJ0_indexOf_7cf53 7 = .ok (.aload_n 0, 1) := by decide +kernel
theorem dJ0_indexOf_7cf53_8 : decode cJ0_indexOf_7cf53 8 = .ok (.getfield 9, 3) := by decide +kernel
theorem dJ0_indexOf_7cf53_11 : decode cJ0_indexOf_7cf53 11 = .ok (.iload_n 1, 1) := by decide +kernel
theorem dJ0_indexOf_7cf53_12 : decode cJ0_indexOf_7cf53 12 = .ok (.iload_n 2, 1) := by decide +kernel
theorem dJ0_indexOf_7cf53_13 : decode cJ0_indexOf_7cf53 13 = .ok (.aload_n 0, 1) := by decide +kernel
theorem dJ0_indexOf_7cf53_14 : decode cJ0_indexOf_7cf53 14 = .ok (.invokevirtual 505, 3) := by decide +kernel
theorem dJ0_indexOf_7cf53_17 : decode cJ0_indexOf_7cf53 17 = .ok (.invokestatic 637, 3) := by decide +kernel
theorem dJ0_indexOf_7cf53_20 : decode cJ0_indexOf_7cf53 20 = .ok (.goto 16, 3) := by decide +kernel
theorem dJ0_indexOf_7cf53_36 : decode cJ0_indexOf_7cf53 36 = .ok (.ireturn, 1) := by decide +kernel
theorem dJ1_canEncode_9a6ad_0 : decode cJ1_canEncode_9a6ad 0 = .ok (.iload_n 0, 1) := by decide +kernel
theorem dJ1_canEncode_9a6ad_1 : decode cJ1_canEncode_9a6ad 1 = .ok (.ifCond .lt 14, 3) := by decide +kernel
theorem dJ1_canEncode_9a6ad_4 : decode cJ1_canEncode_9a6ad 4 = .ok (.iload_n 0, 1) := by decide +kernel
theorem dJ1_canEncode_9a6ad_5 : decode cJ1_canEncode_9a6ad 5 = .ok (.sipush 255, 3) := by decide +kernel
theorem dJ1_canEncode_9a6ad_8 : decode cJ1_canEncode_9a6ad 8 = .ok (.if_icmp .gt 7, 3) := by decide +kernel
theorem dJ1_canEncode_9a6ad_11 : decode cJ1_canEncode_9a6ad 11 = .ok (.iconst 1, 1) := by decide +kernel
theorem dJ1_canEncode_9a6ad_12 : decode cJ1_canEncode_9a6ad 12 = .ok (.goto 4, 3) := by decide +kernel
theorem dJ1_canEncode_9a6ad_15 : decode cJ1_canEncode_9a6ad 15 = .ok (.iconst 0, 1) := by decide +kernel
theorem dJ1_canEncode_9a6ad_16 : decode cJ1_canEncode_9a6ad 16 = .ok (.ireturn, 1) := by decide +kernel
theorem dJ1_indexOfChar_4cfef_0 : decode cJ1_indexOfChar_4cfef 0 = .ok (.iload_n 1, 1) := by decide +kernel
theorem dJ1_indexOfChar_4cfef_1 : decode cJ1_indexOfChar_4cfef 1 = .ok (.i2b, 1) := by decide +kernel
theorem dJ1_indexOfChar_4cfef_2 : decode cJ1_indexOfChar_4cfef 2 = .ok (.istore 4, 2) := by decide +kernel
theorem dJ1_indexOfChar_4cfef_4 : decode cJ1_indexOfChar_4cfef 4 = .ok (.iload_n 2, 1) := by decide +kernel
theorem dJ1_indexOfChar_4cfef_5 : decode cJ1_indexOfChar_4cfef 5 = .ok (.istore 5, 2) := by decide +kernel
theorem dJ1_indexOfChar_4cfef_7 : decode cJ1_indexOfChar_4cfef 7 = .ok (.iload 5, 2) := by decide +kernel
theorem dJ1_indexOfChar_4cfef_9 : decode cJ1_indexOfChar_4cfef 9 = .ok (.iload_n 3, 1) := by decide +kernel
theorem dJ1_indexOfChar_4cfef_10 : decode cJ1_indexOfChar_4cfef 10 = .ok (.if_icmp .ge 21, 3) := by decide +kernel
theorem dJ1_indexOfChar_4cfef_13 : decode cJ1_indexOfChar_4cfef 13 = .ok (.aload_n 0, 1) := by decide +kernel
theorem dJ1_indexOfChar_4cfef_14 : decode cJ1_indexOfChar_4cfef 14 = .ok (.iload 5, 2) := by decide +kernel
theorem dJ1_indexOfChar_4cfef_16 : decode cJ1_indexOfChar_4cfef 16 = .ok (.baload, 1) := by decide +kernel
theorem dJ1_indexOfChar_4cfef_17 : decode cJ1_indexOfChar_4cfef 17 = .ok (.iload 4, 2) := by decide +kernel
theorem dJ1_indexOfChar_4cfef_19 : decode cJ1_indexOfChar_4cfef 19 = .ok (.if_icmp .ne 6, 3) := by decide +kernel
theorem dJ1_indexOfChar_4cfef_22 : decode cJ1_indexOfChar_4cfef 22 = .ok (.iload 5, 2) := by decide +kernel
theorem dJ1_indexOfChar_4cfef_24 : decode cJ1_indexOfChar_4cfef 24 = .ok (.ireturn, 1) := by decide +kernel
theorem dJ1_indexOfChar_4cfef_25 : decode cJ1_indexOfChar_4cfef 25 = .ok (.iinc 5 1, 3) := by decide +kernel
theorem dJ1_indexOfChar_4cfef_28 : decode cJ1_indexOfChar_4cfef 28 = .ok (.goto (-21), 3) := by decide +kernel
theorem dJ1_indexOfChar_4cfef_31 : decode cJ1_indexOfChar_4cfef 31 = .ok (.iconst (-1), 1) := by decide +kernel
theorem dJ1_indexOfChar_4cfef_32 : decode cJ1_indexOfChar_4cfef 32 = .ok (.ireturn, 1) := by decide +kernel
theorem dJ1_indexOf_4cfef_0 : decode cJ1_indexOf_4cfef 0 = .ok (.iload_n 1, 1) := by decide +kernel
theorem dJ1_indexOf_4cfef_1 : decode cJ1_indexOf_4cfef 1 = .ok (.invokestatic 88, 3) := by decide +kernel
theorem dJ1_indexOf_4cfef_4 : decode cJ1_indexOf_4cfef 4 = .ok (.ifCond .ne 5, 3) := by decide +kernel
theorem dJ1_indexOf_4cfef_7 : decode cJ1_indexOf_4cfef 7 = .ok (.iconst (-1), 1) := by decide +kernel
theorem dJ1_indexOf_4cfef_8 : decode cJ1_indexOf_4cfef 8 = .ok (.ireturn, 1) := by decide +kernel
theorem dJ1_indexOf_4cfef_9 : decode cJ1_indexOf_4cfef 9 = .ok (.iload_n 2, 1) := by decide +kernel
theorem dJ1_indexOf_4cfef_10 : decode cJ1_indexOf_4cfef 10 = .ok (.iconst 0, 1) := by decide +kernel
theorem dJ1_indexOf_4cfef_11 : decode cJ1_indexOf_4cfef 11 = .ok (.invokestatic 92, 3) := by decide +kernel
theorem dJ1_indexOf_4cfef_14 : decode cJ1_indexOf_4cfef 14 = .ok (.istore_n 2, 1) := by decide +kernel
theorem dJ1_indexOf_4cfef_15 : decode cJ1_indexOf_4cfef 15 = .ok (.iload_n 3, 1) := by decide +kernel
theorem dJ1_indexOf_4cfef_16 : decode cJ1_indexOf_4cfef 16 = .ok (.aload_n 0, 1) := by decide +kernel
theorem dJ1_indexOf_4cfef_17 : decode cJ1_indexOf_4cfef 17 = .ok (.arraylength, 1) := by decide +kernel
theorem dJ1_indexOf_4cfef_18 : decode cJ1_indexOf_4cfef 18 = .ok (.invokestatic 38, 3) := by decide +kernel
theorem dJ1_indexOf_4cfef_21 : decode cJ1_indexOf_4cfef 21 = .ok (.istore_n 3, 1) := by decide +kernel
theorem dJ1_indexOf_4cfef_22 : decode cJ1_indexOf_4cfef 22 = .ok (.iload_n 2, 1) := by decide +kernel
theorem dJ1_indexOf_4cfef_23 : decode cJ1_indexOf_4cfef 23 = .ok (.iload_n 3, 1) := by decide +kernel
theorem dJ1_indexOf_4cfef_24 : decode cJ1_indexOf_4cfef 24 = .ok (.if_icmp .lt 5, 3) := by decide +kernel
theorem dJ1_indexOf_4cfef_27 : decode cJ1_indexOf_4cfef 27 = .ok (.iconst (-1), 1) := by decide +kernel
theorem dJ1_indexOf_4cfef_28 : decode cJ1_indexOf_4cfef 28 = .ok (.ireturn, 1) := by decide +kernel
theorem dJ1_indexOf_4cfef_29 : decode cJ1_indexOf_4cfef 29 = .ok (.aload_n 0, 1) := by decide +kernel
theorem dJ1_indexOf_4cfef_30 : decode cJ1_indexOf_4cfef 30 = .ok (.iload_n 1, 1) := by decide +kernel
theorem dJ1_indexOf_4cfef_31 : decode cJ1_indexOf_4cfef 31 = .ok (.iload_n 2, 1) := by decide +kernel
theorem dJ1_indexOf_4cfef_32 : decode cJ1_indexOf_4cfef 32 = .ok (.iload_n 3, 1) := by decide +kernel
theorem dJ1_indexOf_4cfef_33 : decode cJ1_indexOf_4cfef 33 = .ok (.invokestatic 95, 3) := by decide +kernel
theorem dJ1_indexOf_4cfef_36 : decode cJ1_indexOf_4cfef 36 = .ok (.ireturn, 1) := by decide +kernel
theorem kw_467 : Cond.methodLink "java/lang/String" 633 yJ0_indexOf_7cf53 ∈ gw := gw_of (tb_of 467 (by decide +kernel)) (by decide +kernel)
theorem kw_468 : Cond.instanceMethod yJ0_indexOf_7cf53 ∈ gw := gw_of (tb_of 468 (by decide +kernel)) (by decide +kernel)
theorem kw_469 : Cond.selects "java/lang/String" yJ0_indexOf_7cf53 yJ0_indexOf_7cf53 ∈ gw := gw_of (tb_of 469 (by decide +kernel)) (by decide +kernel)
theorem kw_470 : Cond.code yJ0_indexOf_7cf53 cJ0_indexOf_7cf53 3 (some (.int)) ∈ gw := gw_of (tb_of 470 (by decide +kernel)) (by decide +kernel)
theorem kw_477 : Cond.methodLink "java/lang/String" 505 yJ0_length_8abf5 ∈ gw := gw_of (tb_of 477 (by decide +kernel)) (by decide +kernel)
theorem kw_478 : Cond.instanceMethod yJ0_length_8abf5 ∈ gw := gw_of (tb_of 478 (by decide +kernel)) (by decide +kernel)
theorem kw_479 : Cond.selects "java/lang/String" yJ0_length_8abf5 yJ0_length_8abf5 ∈ gw := gw_of (tb_of 479 (by decide +kernel)) (by decide +kernel)
theorem kw_480 : Cond.code yJ0_length_8abf5 cJ0_length_8abf5 1 (some (.int)) ∈ gw := gw_of (tb_of 480 (by decide +kernel)) (by decide +kernel)
theorem kw_485 : Cond.methodLink "java/lang/String" 637 yJ1_indexOf_4cfef ∈ gw := gw_of (tb_of 485 (by decide +kernel)) (by decide +kernel)
theorem kw_486 : Cond.static yJ1_indexOf_4cfef ∈ gw := gw_of (tb_of 486 (by decide +kernel)) (by decide +kernel)
theorem kw_487 : Cond.code yJ1_indexOf_4cfef cJ1_indexOf_4cfef 4 (some (.int)) ∈ gw := gw_of (tb_of 487 (by decide +kernel)) (by decide +kernel)
theorem kw_488 : Cond.methodLink "java/lang/StringLatin1" 88 yJ1_canEncode_9a6ad ∈ gw := gw_of (tb_of 488 (by decide +kernel)) (by decide +kernel)
theorem kw_489 : Cond.static yJ1_canEncode_9a6ad ∈ gw := gw_of (tb_of 489 (by decide +kernel)) (by decide +kernel)
theorem kw_490 : Cond.code yJ1_canEncode_9a6ad cJ1_canEncode_9a6ad 1 (some (.boolean)) ∈ gw := gw_of (tb_of 490 (by decide +kernel)) (by decide +kernel)
theorem kw_491 : Cond.methodLink "java/lang/StringLatin1" 92 Lib.Math.max.name ∈ gw := gw_of (tb_of 491 (by decide +kernel)) (by decide +kernel)
theorem kw_492 : Cond.methodLink "java/lang/StringLatin1" 38 Lib.Math.min.name ∈ gw := gw_of (tb_of 492 (by decide +kernel)) (by decide +kernel)
theorem kw_493 : Cond.methodLink "java/lang/StringLatin1" 95 yJ1_indexOfChar_4cfef ∈ gw := gw_of (tb_of 493 (by decide +kernel)) (by decide +kernel)
theorem kw_494 : Cond.static yJ1_indexOfChar_4cfef ∈ gw := gw_of (tb_of 494 (by decide +kernel)) (by decide +kernel)
theorem kw_495 : Cond.code yJ1_indexOfChar_4cfef cJ1_indexOfChar_4cfef 6 (some (.int)) ∈ gw := gw_of (tb_of 495 (by decide +kernel)) (by decide +kernel)
set_option maxHeartbeats 4000000 in
set_option maxRecDepth 100000 in
theorem s_canEncode (l : Launch) (D : va_G) (cs : CS) (kf : KF) (T : TF) (O : List Nat) (X : va_W) (x0 : Int32)  (hO : okO T O []) : TK l D cs kf yJ1_canEncode_9a6ad cJ1_canEncode_9a6ad 1 (some (.boolean)) { frames := 0, cells := 0, slots := 0, locals := 0 } [.int x0] T O X (Ti D cs (fun r u => u = (T, O, X) ∧ 0 ≤ r.toInt ∧ r.toInt ≤ 1 ∧ (¬ (0 ≤ x0.toInt ∧ x0.toInt ≤ 255) ∨ ¬ r.toInt = 0))) := by
  refine tk_of (by decide) (Nat.le_of_ble_eq_true rfl) (fun p e s m below meth c ls A H locs hx hb hr hml hown hts hlocks hnm hkb hH hS hA hOX hks hE hl => ?_)
  have hown : s.vm.findClass RJ1 = some m.cls := hown
  have hl : lv_has ls 1 [(0, .int x0)] := hl
  refine lv_iload_n hx hb dJ1_canEncode_9a6ad_0 rfl (lv_at hl 0 rfl) ?_
  refine lv_if_lt (tgt := 15) hx hb dJ1_canEncode_9a6ad_1 (by decide) (fun c1 => ?_) (fun c1 => ?_)
  · skip
    have tc1 := f_lt (k := 0) (by decide) c1
    refine lv_iconst (v := 0) hx hb dJ1_canEncode_9a6ad_15 (by decide) ?_
    have z9 : (0 : Int32).toInt = 0 := by decide
    exact te_z hx hb hr hlocks (by rfl) hH hS (⟨rfl, by decide, by decide, by omega⟩) dJ1_canEncode_9a6ad_16
  · skip
    have tc1 := f_nlt (k := 0) (by decide) c1
    refine lv_iload_n hx hb dJ1_canEncode_9a6ad_4 rfl (lv_at hl 0 rfl) ?_
    refine lv_sipush (v := 255) hx hb dJ1_canEncode_9a6ad_5 (by decide) ?_
    refine lv_icmp_gt (tgt := 15) hx hb dJ1_canEncode_9a6ad_8 (by decide) (fun c8 => ?_) (fun c8 => ?_)
    · skip
      have tc8 := f_gt (k := 255) (by decide) c8
      refine lv_iconst (v := 0) hx hb dJ1_canEncode_9a6ad_15 (by decide) ?_
      have z9 : (0 : Int32).toInt = 0 := by decide
      exact te_z hx hb hr hlocks (by rfl) hH hS (⟨rfl, by decide, by decide, by omega⟩) dJ1_canEncode_9a6ad_16
    · skip
      have tc8 := f_ngt (k := 255) (by decide) c8
      refine lv_iconst (v := 1) hx hb dJ1_canEncode_9a6ad_11 (by decide) ?_
      refine lv_goto (tgt := 16) hx hb dJ1_canEncode_9a6ad_12 (by decide) ?_
      have z9 : (1 : Int32).toInt = 1 := by decide
      exact te_z hx hb hr hlocks (by rfl) hH hS (⟨rfl, by decide, by decide, by omega⟩) dJ1_canEncode_9a6ad_16
set_option maxHeartbeats 4000000 in
set_option maxRecDepth 100000 in
theorem s_indexOfChar (l : Launch) (D : va_G) (cs : CS) (kf : KF) (T : TF) (O : List Nat) (X : va_W) (a0 : Nat) (x1 : Int32) (x2 : Int32) (x3 : Int32) (t_a0 : a0 < 21) (l_x1 : 0 ≤ x1.toInt) (u_x1 : x1.toInt ≤ 255) (l_x2 : 0 ≤ x2.toInt) (u_x2 : x2.toInt ≤ 0) (l_x3 : 0 ≤ x3.toInt) (u_x3 : x3.toInt < (slen.getD a0 0 : Nat) + 1) (hO : okO T O []) : TK l D cs kf yJ1_indexOfChar_4cfef cJ1_indexOfChar_4cfef 6 (some (.int)) { frames := 0, cells := 0, slots := 0, locals := 0 } [.ref (kf.2 a0), .int x1, .int x2, .int x3] T O X (Ti D cs (fun r u => u = (T, O, X) ∧ -1 ≤ r.toInt ∧ r.toInt ≤ 2147483646 ∧ (IXT a0 x1 x3.toInt r))) := by
  refine tk_of (by decide) (Nat.le_of_ble_eq_true rfl) (fun p e s m below meth c ls A H locs hx hb hr hml hown hts hlocks hnm hkb hH hS hA hOX hks hE hl => ?_)
  have hown : s.vm.findClass RJ1 = some m.cls := hown
  have hl : lv_has ls 6 [(0, .ref (kf.2 a0)), (1, .int x1), (2, .int x2), (3, .int x3)] := hl
  refine lv_iload_n hx hb dJ1_indexOfChar_4cfef_0 rfl (lv_at hl 1 rfl) ?_
  refine lv_i2b hx hb dJ1_indexOfChar_4cfef_1 rfl ?_
  refine lv_topi (fun v1 ev1 => ?_)
  refine lv_istore (lv' := [(4, .int v1), (0, .ref (kf.2 a0)), (1, .int x1), (2, .int x2), (3, .int x3)]) hx hb dJ1_indexOfChar_4cfef_2 hl (by decide) rfl (fun ls hl => ?_)
  refine lv_iload_n hx hb dJ1_indexOfChar_4cfef_4 rfl (lv_at hl 3 rfl) ?_
  have J7 : ∀ (n : Nat) (p7_5 : Int32) (H : Heap) (locs : List Loc) (ls : Array Slot), (2147483647 - p7_5.toInt).toNat = n → (0 ≤ p7_5.toInt) → (IXN a0 x1 p7_5.toInt.toNat) → HT D cs A T O X H → va_S A s.heap H locs → lv_has ls 6 [(5, .int p7_5), (4, .int v1), (0, .ref (kf.2 a0)), (3, .int x3)] → W p l e { frames := 0, cells := 0, slots := 0, locals := 0 } s m [.ref (kf.2 a0), .int x1, .int x2, .int x3].toArray below meth c H locs 0 0 (MQ below (Ti D cs (fun r u => u = (T, O, X) ∧ -1 ≤ r.toInt ∧ r.toInt ≤ 2147483646 ∧ (IXT a0 x1 x3.toInt r)) A) [.ref (kf.2 a0), .int x1, .int x2, .int x3].toArray s 0 0 A) (F0 m 7 ls []) := by
    intro n
    induction n using Nat.strongRecOn with
    | _ n ih7 =>
      intro p7_5 H locs ls hm7 l_p7_5 i7 hH hS hl
      refine lv_iload hx hb dJ1_indexOfChar_4cfef_7 (lv_at hl 0 rfl) ?_
      refine lv_iload_n hx hb dJ1_indexOfChar_4cfef_9 rfl (lv_at hl 3 rfl) ?_
      refine lv_icmp_ge (tgt := 31) hx hb dJ1_indexOfChar_4cfef_10 (by decide) (fun c10 => ?_) (fun c10 => ?_)
      · skip
        have fuc10 := full_i p7_5
        have fvc10 := full_i x3
        have tc10 := g_le c10
        refine lv_iconst (v := (-1)) hx hb dJ1_indexOfChar_4cfef_31 (by decide) ?_
        have z9_m1 : ((-1) : Int32).toInt = -1 := by decide
        exact te_i hx hb hr hlocks hH hS (⟨rfl, by decide, by decide, IXT_n i7 (by omega) (by decide)⟩) dJ1_indexOfChar_4cfef_32
      · skip
        have fuc10 := full_i p7_5
        have fvc10 := full_i x3
        have tc10 := g_nle c10
        refine lv_aload_n hx hb dJ1_indexOfChar_4cfef_13 rfl (lv_at hl 2 rfl) ?_
        refine lv_iload hx hb dJ1_indexOfChar_4cfef_14 (lv_at hl 0 rfl) ?_
        refine va_tb (v := .int ((sbyt.getD a0 []).getD (Int32.toNatClampNeg p7_5) 0)) hx hb (hE.1.1 a0 t_a0).2.2.2 hS (in_t (by omega) (by omega)) rfl dJ1_indexOfChar_4cfef_16 ?_
        refine lv_topi (fun v16 ev16 => ?_)
        refine lv_iload hx hb dJ1_indexOfChar_4cfef_17 (lv_at hl 1 rfl) ?_
        refine lv_icmp_ne (tgt := 25) hx hb dJ1_indexOfChar_4cfef_19 (by decide) (fun c19 => ?_) (fun c19 => ?_)
        · skip
          have fuc19 := full_i v16
          have fvc19 := full_i v1
          have tc19 := g_ne c19
          obtain ⟨v25, ev25⟩ : ∃ y : Int32, y = p7_5 + 1 := ⟨_, rfl⟩
          have tv25 : v25.toInt = p7_5.toInt + (1) := by rw [ev25]; exact add_i rfl (by decide) (by omega) (by omega)
          refine lv_iinc (v := v25) (lv' := [(5, .int v25), (4, .int v1), (0, .ref (kf.2 a0)), (3, .int x3)]) hx hb dJ1_indexOfChar_4cfef_25 hl (k := 0) rfl (by rw [ev25]; rfl) (by decide) rfl (fun ls hl => ?_)
          refine lv_goto (tgt := 7) hx hb dJ1_indexOfChar_4cfef_28 (by decide) ?_
          exact ih7 _ (by omega) v25 _ _ _ rfl (by omega) (by first | exact IXN_0 (by omega) | exact IXN_s i7 (by omega) l_x1 u_x1 ev1 ev16 tc19 tv25) hH hS (lv_sub hl [0, 1, 2, 3] rfl)
        · skip
          have fuc19 := full_i v16
          have fvc19 := full_i v1
          have tc19 := g_eq c19
          refine lv_iload hx hb dJ1_indexOfChar_4cfef_22 (lv_at hl 0 rfl) ?_
          exact te_i hx hb hr hlocks hH hS (⟨rfl, by omega, by omega, IXT_y (by omega) (by omega) l_x1 u_x1 ev1 ev16 tc19⟩) dJ1_indexOfChar_4cfef_24
  refine lv_istore (lv' := [(5, .int x2), (4, .int v1), (0, .ref (kf.2 a0)), (1, .int x1), (2, .int x2), (3, .int x3)]) hx hb dJ1_indexOfChar_4cfef_5 hl (by decide) rfl (fun ls hl => ?_)
  exact J7 _ x2 _ _ _ rfl (by omega) (by first | exact IXN_0 (by omega) | exact IXN_s i7 (by omega) l_x1 u_x1 ev1 ev16 tc19 tv25) hH hS (lv_sub hl [0, 1, 2, 5] rfl)
set_option maxHeartbeats 4000000 in
set_option maxRecDepth 100000 in
theorem s_L1indexOf (l : Launch) (D : va_G) (cs : CS) (kf : KF) (T : TF) (O : List Nat) (X : va_W) (a0 : Nat) (x1 : Int32) (x2 : Int32) (x3 : Int32) (t_a0 : a0 < 21) (l_x1 : 0 ≤ x1.toInt) (u_x1 : x1.toInt ≤ 255) (l_x2 : 0 ≤ x2.toInt) (u_x2 : x2.toInt ≤ 0) (l_x3 : 0 ≤ x3.toInt) (u_x3 : x3.toInt < (slen.getD a0 0 : Nat) + 1) (h3 : x3.toInt = (slen.getD a0 0 : Nat)) (hO : okO T O []) : TK l D cs kf yJ1_indexOf_4cfef cJ1_indexOf_4cfef 4 (some (.int)) { frames := 1, cells := 0, slots := 0, locals := 25 } [.ref (kf.2 a0), .int x1, .int x2, .int x3] T O X (Ti D cs (fun r u => u = (T, O, X) ∧ -1 ≤ r.toInt ∧ r.toInt ≤ 2147483646 ∧ (IXQ a0 x1 r))) := by
  refine tk_of (by decide) (Nat.le_of_ble_eq_true rfl) (fun p e s m below meth c ls A H locs hx hb hr hml hown hts hlocks hnm hkb hH hS hA hOX hks hE hl => ?_)
  have hown : s.vm.findClass RJ1 = some m.cls := hown
  have hl : lv_has ls 4 [(0, .ref (kf.2 a0)), (1, .int x1), (2, .int x2), (3, .int x3)] := hl
  refine lv_iload_n hx hb dJ1_indexOf_4cfef_0 rfl (lv_at hl 1 rfl) ?_
  refine tk_i hH hS hA (tr_S (n := 1) (As := [.int x1]) hx hb hml hown hts hkb hH hOX hks hE hS hA (s_canEncode l D cs kf T O X x1  (hO.sub (by decide))) kw_488 kw_489 kw_15 kw_490 (by decide +kernel) ⟨Nat.le_of_ble_eq_true rfl, Nat.le_of_ble_eq_true rfl⟩ rfl rfl hl.1 (Nat.le_of_ble_eq_true rfl) dJ1_indexOf_4cfef_1 ⟨Nat.le_of_ble_eq_true rfl, Nat.le_of_ble_eq_true rfl⟩) (fun v1 u H locs hz9 hH hS => ?_)
  obtain ⟨rfl, l_v1, u_v1, x_v10⟩ := hz9
  have hH : HT D cs A T O X H := hH
  refine W.widen (k := 0) (n := 0) (Nat.le_of_ble_eq_true rfl) (Nat.le_of_ble_eq_true rfl) ?_
  refine lv_if_ne (tgt := 9) hx hb dJ1_indexOf_4cfef_4 (by decide) (fun c4 => ?_) (fun c4 => ?_)
  · skip
    have tc4 := f_ne (k := 0) (by decide) c4
    refine lv_iload_n hx hb dJ1_indexOf_4cfef_9 rfl (lv_at hl 2 rfl) ?_
    refine lv_iconst (v := 0) hx hb dJ1_indexOf_4cfef_10 (by decide) ?_
    refine va_mmax hx hb (by rw [hml]; exact hl.1.symm) hown (hts _ kw_491) (hts _ kw_100) (hts _ kw_6) (hts _ kw_101) (Nat.le_of_ble_eq_true rfl) (Nat.le_of_ble_eq_true rfl) (Nat.le_of_ble_eq_true rfl) (Nat.le_of_ble_eq_true rfl) dJ1_indexOf_4cfef_11 ?_
    refine lv_topi (fun v11 ev11 => ?_)
    have tv11 : v11.toInt = max x2.toInt (0) := by rw [ev11]; exact max_i rfl (by decide : (0 : Int32).toInt = 0)
    refine lv_istore_n (lv' := [(2, .int v11), (0, .ref (kf.2 a0)), (1, .int x1), (3, .int x3)]) hx hb dJ1_indexOf_4cfef_14 rfl hl (by decide) rfl (fun ls hl => ?_)
    refine lv_iload_n hx hb dJ1_indexOf_4cfef_15 rfl (lv_at hl 3 rfl) ?_
    refine lv_aload_n hx hb dJ1_indexOf_4cfef_16 rfl (lv_at hl 1 rfl) ?_
    refine va_tlen (v := nI (slen.getD a0 0)) hx hb (hE.1.1 a0 t_a0).2.2.2 hS rfl dJ1_indexOf_4cfef_17 ?_
    have b9_a0 := slen_b a0
    have e9_a0 : (nI (slen.getD a0 0)).toInt = (slen.getD a0 0 : Nat) := nI_toInt (by omega)
    refine va_mmin hx hb (by rw [hml]; exact hl.1.symm) hown (hts _ kw_492) (hts _ kw_450) (hts _ kw_6) (hts _ kw_451) (Nat.le_of_ble_eq_true rfl) (Nat.le_of_ble_eq_true rfl) (Nat.le_of_ble_eq_true rfl) (Nat.le_of_ble_eq_true rfl) dJ1_indexOf_4cfef_18 ?_
    refine lv_topi (fun v18 ev18 => ?_)
    have tv18 : v18.toInt = min x3.toInt (nI (slen.getD a0 0)).toInt := by rw [ev18]; exact min_i rfl rfl
    refine lv_istore_n (lv' := [(3, .int v18), (2, .int v11), (0, .ref (kf.2 a0)), (1, .int x1)]) hx hb dJ1_indexOf_4cfef_21 rfl hl (by decide) rfl (fun ls hl => ?_)
    refine lv_iload_n hx hb dJ1_indexOf_4cfef_22 rfl (lv_at hl 1 rfl) ?_
    refine lv_iload_n hx hb dJ1_indexOf_4cfef_23 rfl (lv_at hl 0 rfl) ?_
    refine lv_icmp_lt (tgt := 29) hx hb dJ1_indexOf_4cfef_24 (by decide) (fun c24 => ?_) (fun c24 => ?_)
    · skip
      have fuc24 := full_i v11
      have fvc24 := full_i v18
      have tc24 := g_lt c24
      refine lv_aload_n hx hb dJ1_indexOf_4cfef_29 rfl (lv_at hl 2 rfl) ?_
      refine lv_iload_n hx hb dJ1_indexOf_4cfef_30 rfl (lv_at hl 3 rfl) ?_
      refine lv_iload_n hx hb dJ1_indexOf_4cfef_31 rfl (lv_at hl 1 rfl) ?_
      refine lv_iload_n hx hb dJ1_indexOf_4cfef_32 rfl (lv_at hl 0 rfl) ?_
      refine tk_i hH hS hA (tr_S (n := 4) (As := [.ref (kf.2 a0), .int x1, .int v11, .int v18]) hx hb hml hown hts hkb hH hOX hks hE hS hA (s_indexOfChar l D cs kf T O X a0 x1 v11 v18 t_a0 (by omega) (by omega) (by omega) (by omega) (by omega) (by omega) (hO.sub (by decide))) kw_493 kw_494 kw_15 kw_495 (by decide +kernel) ⟨Nat.le_of_ble_eq_true rfl, Nat.le_of_ble_eq_true rfl⟩ rfl rfl hl.1 (Nat.le_of_ble_eq_true rfl) dJ1_indexOf_4cfef_33 ⟨Nat.le_of_ble_eq_true rfl, Nat.le_of_ble_eq_true rfl⟩) (fun v33 u H locs hz9 hH hS => ?_)
      obtain ⟨rfl, l_v33, u_v33, x_v330⟩ := hz9
      have hH : HT D cs A T O X H := hH
      refine W.widen (k := 0) (n := 0) (Nat.le_of_ble_eq_true rfl) (Nat.le_of_ble_eq_true rfl) ?_
      exact te_i hx hb hr hlocks hH hS (⟨rfl, by omega, by omega, IXT_q x_v330 (by omega)⟩) dJ1_indexOf_4cfef_36
    · skip
      have fuc24 := full_i v11
      have fvc24 := full_i v18
      have tc24 := g_nlt c24
      refine lv_iconst (v := (-1)) hx hb dJ1_indexOf_4cfef_27 (by decide) ?_
      have z9_m1 : ((-1) : Int32).toInt = -1 := by decide
      exact te_i hx hb hr hlocks hH hS (⟨rfl, by decide, by decide, (by first | (exfalso; omega) | exact ⟨fun q9 => by omega, fun _ j9 hj9 => by omega⟩)⟩) dJ1_indexOf_4cfef_28
  · skip
    have tc4 := f_eq (k := 0) (by decide) c4
    refine lv_iconst (v := (-1)) hx hb dJ1_indexOf_4cfef_7 (by decide) ?_
    have z9_m1 : ((-1) : Int32).toInt = -1 := by decide
    exact te_i hx hb hr hlocks hH hS (⟨rfl, by decide, by decide, (by first | (exfalso; omega) | exact ⟨fun q9 => by omega, fun _ j9 hj9 => by omega⟩)⟩) dJ1_indexOf_4cfef_8
set_option maxHeartbeats 4000000 in
set_option maxRecDepth 100000 in
theorem s_indexOf2 (l : Launch) (D : va_G) (cs : CS) (kf : KF) (T : TF) (O : List Nat) (X : va_W) (a0 : Nat) (x1 : Int32) (x2 : Int32) (t_a0 : a0 < 21) (l_x1 : 0 ≤ x1.toInt) (u_x1 : x1.toInt ≤ 255) (l_x2 : 0 ≤ x2.toInt) (u_x2 : x2.toInt ≤ 0) (hO : okO T O []) : TK l D cs kf yJ0_indexOf_7cf53 cJ0_indexOf_7cf53 3 (some (.int)) { frames := 2, cells := 0, slots := 0, locals := 48 } [.ref (kf.1 a0), .int x1, .int x2] T O X (Ti D cs (fun r u => u = (T, O, X) ∧ -1 ≤ r.toInt ∧ r.toInt ≤ 2147483646 ∧ (IXQ a0 x1 r))) := by
  refine tk_of (by decide) (Nat.le_of_ble_eq_true rfl) (fun p e s m below meth c ls A H locs hx hb hr hml hown hts hlocks hnm hkb hH hS hA hOX hks hE hl => ?_)
  have hown : s.vm.findClass RJ0 = some m.cls := hown
  have hl : lv_has ls 3 [(0, .ref (kf.1 a0)), (1, .int x1), (2, .int x2)] := hl
  refine lv_aload_n hx hb dJ0_indexOf_7cf53_0 rfl (lv_at hl 0 rfl) ?_
  refine tk_i hH hS hA (tr_V (n := 0) (As := []) hx hb hml hown hts hkb hH hOX hks hE hS hA (s_isLatin1 l D cs kf T O X a0 t_a0 (hO.sub (by decide))) kw_471 kw_472 kw_473 kw_14 kw_474 (by decide +kernel) ⟨Nat.le_of_ble_eq_true rfl, Nat.le_of_ble_eq_true rfl⟩ (vk_recv hE.1 t_a0 hS) rfl rfl hl.1 (Nat.le_of_ble_eq_true rfl) dJ0_indexOf_7cf53_1 ⟨Nat.le_of_ble_eq_true rfl, Nat.le_of_ble_eq_true rfl⟩) (fun v1 u H locs hz9 hH hS => ?_)
  obtain ⟨rfl, l_v1, u_v1⟩ := hz9
  refine lv_topc (y := 1) (eq_c (by decide) l_v1 u_v1) ?_
  have hH : HT D cs A T O X H := hH
  refine W.widen (k := 0) (n := 0) (Nat.le_of_ble_eq_true rfl) (Nat.le_of_ble_eq_true rfl) ?_
  refine lv_if_eq (tgt := 23) hx hb dJ0_indexOf_7cf53_4 (by decide) (fun c4 => absurd c4 (by decide)) (fun _ => ?_)
  refine lv_aload_n hx hb dJ0_indexOf_7cf53_7 rfl (lv_at hl 0 rfl) ?_
  refine vk_getf hx hb (hE.1.1 a0 t_a0).2.2.1 hS hown (hts _ kw_1790) (fun _ h9 => h9) dJ0_indexOf_7cf53_8 ?_
  refine lv_iload_n hx hb dJ0_indexOf_7cf53_11 rfl (lv_at hl 1 rfl) ?_
  refine lv_iload_n hx hb dJ0_indexOf_7cf53_12 rfl (lv_at hl 2 rfl) ?_
  refine lv_aload_n hx hb dJ0_indexOf_7cf53_13 rfl (lv_at hl 0 rfl) ?_
  refine tk_i hH hS hA (tr_V (n := 0) (As := []) hx hb hml hown hts hkb hH hOX hks hE hS hA (s_length l D cs kf T O X a0 t_a0 (hO.sub (by decide))) kw_477 kw_478 kw_479 kw_14 kw_480 (by decide +kernel) ⟨Nat.le_of_ble_eq_true rfl, Nat.le_of_ble_eq_true rfl⟩ (vk_recv hE.1 t_a0 hS) rfl rfl hl.1 (Nat.le_of_ble_eq_true rfl) dJ0_indexOf_7cf53_14 ⟨Nat.le_of_ble_eq_true rfl, Nat.le_of_ble_eq_true rfl⟩) (fun v14 u H locs hz9 hH hS => ?_)
  obtain ⟨rfl, l_v14, u_v14, x_v140⟩ := hz9
  have hH : HT D cs A T O X H := hH
  refine W.widen (k := 0) (n := 0) (Nat.le_of_ble_eq_true rfl) (Nat.le_of_ble_eq_true rfl) ?_
  refine tk_i hH hS hA (tr_S (n := 4) (As := [.ref (kf.2 a0), .int x1, .int x2, .int v14]) hx hb hml hown hts hkb hH hOX hks hE hS hA (s_L1indexOf l D cs kf T O X a0 x1 x2 v14 t_a0 (by omega) (by omega) (by omega) (by omega) (by omega) (by omega) (by omega) (hO.sub (by decide))) kw_485 kw_486 kw_15 kw_487 (by decide +kernel) ⟨Nat.le_of_ble_eq_true rfl, Nat.le_of_ble_eq_true rfl⟩ rfl rfl hl.1 (Nat.le_of_ble_eq_true rfl) dJ0_indexOf_7cf53_17 ⟨Nat.le_of_ble_eq_true rfl, Nat.le_of_ble_eq_true rfl⟩) (fun v17 u H locs hz9 hH hS => ?_)
  obtain ⟨rfl, l_v17, u_v17, x_v170⟩ := hz9
  have hH : HT D cs A T O X H := hH
  refine W.widen (k := 0) (n := 0) (Nat.le_of_ble_eq_true rfl) (Nat.le_of_ble_eq_true rfl) ?_
  refine lv_goto (tgt := 36) hx hb dJ0_indexOf_7cf53_20 (by decide) ?_
  exact te_i hx hb hr hlocks hH hS (⟨rfl, by omega, by omega, x_v170⟩) dJ0_indexOf_7cf53_36
set_option maxHeartbeats 4000000 in
set_option maxRecDepth 100000 in
theorem s_indexOf1 (l : Launch) (D : va_G) (cs : CS) (kf : KF) (T : TF) (O : List Nat) (X : va_W) (a0 : Nat) (x1 : Int32) (t_a0 : a0 < 21) (l_x1 : 0 ≤ x1.toInt) (u_x1 : x1.toInt ≤ 255) (hO : okO T O []) : TK l D cs kf yJ0_indexOf_0f7a4 cJ0_indexOf_0f7a4 2 (some (.int)) { frames := 3, cells := 0, slots := 0, locals := 70 } [.ref (kf.1 a0), .int x1] T O X (Ti D cs (fun r u => u = (T, O, X) ∧ -1 ≤ r.toInt ∧ r.toInt ≤ 2147483646 ∧ (IXQ a0 x1 r))) := by
  refine tk_of (by decide) (Nat.le_of_ble_eq_true rfl) (fun p e s m below meth c ls A H locs hx hb hr hml hown hts hlocks hnm hkb hH hS hA hOX hks hE hl => ?_)
  have hown : s.vm.findClass RJ0 = some m.cls := hown
  have hl : lv_has ls 2 [(0, .ref (kf.1 a0)), (1, .int x1)] := hl
  refine lv_aload_n hx hb dJ0_indexOf_0f7a4_0 rfl (lv_at hl 0 rfl) ?_
  refine lv_iload_n hx hb dJ0_indexOf_0f7a4_1 rfl (lv_at hl 1 rfl) ?_
  refine lv_iconst (v := 0) hx hb dJ0_indexOf_0f7a4_2 (by decide) ?_
  refine tk_i hH hS hA (tr_V (n := 2) (As := [.int x1, .int 0]) hx hb hml hown hts hkb hH hOX hks hE hS hA (s_indexOf2 l D cs kf T O X a0 x1 (0) t_a0 (by omega) (by omega) (by decide) (by decide) (hO.sub (by decide))) kw_467 kw_468 kw_469 kw_14 kw_470 (by decide +kernel) ⟨Nat.le_of_ble_eq_true rfl, Nat.le_of_ble_eq_true rfl⟩ (vk_recv hE.1 t_a0 hS) rfl rfl hl.1 (Nat.le_of_ble_eq_true rfl) dJ0_indexOf_0f7a4_3 ⟨Nat.le_of_ble_eq_true rfl, Nat.le_of_ble_eq_true rfl⟩) (fun v3 u H locs hz9 hH hS => ?_)
  obtain ⟨rfl, l_v3, u_v3, x_v30⟩ := hz9
  have hH : HT D cs A T O X H := hH
  refine W.widen (k := 0) (n := 0) (Nat.le_of_ble_eq_true rfl) (Nat.le_of_ble_eq_true rfl) ?_
  exact te_i hx hb hr hlocks hH hS (⟨rfl, by omega, by omega, x_v30⟩) dJ0_indexOf_0f7a4_6
/-! what makes cells -/
def Tadd (T : TF) (r : Nat) (tg : Tg) : TF := fun q => if q = r then some tg else T q
theorem Tadd_r {T : TF} {r : Nat} {tg : Tg} : Tadd T r tg r = some tg := if_pos rfl
theorem Tadd_le {T : TF} {r : Nat} {tg : Tg} (h : T r = none) : Tle T (Tadd T r tg) := fun a t ha => by
  unfold Tadd
  rw [if_neg (fun z => by rw [z, h] at ha; cases ha)]
  exact ha
theorem Tle.rf {T : TF} : Tle T T := fun _ _ h => h
theorem Tle.tr {T T1 T2 : TF} (h1 : Tle T T1) (h2 : Tle T1 T2) : Tle T T2 := fun a t h => h2 a t (h1 a t h)
/-- more is told, of the kinds that are made alone -/
def Tgr (T T2 : TF) : Prop := Tle T T2 ∧ ∀ (b : Nat) (tg : Tg), T2 b = some tg → T b = some tg ∨ tg.1 = 1 ∨ tg.1 = 12 ∨ tg.1 = 19
theorem Tgr.rf {T : TF} : Tgr T T := ⟨Tle.rf, fun _ _ h => Or.inl h⟩
theorem Tgr.tr {T T1 T2 : TF} (h1 : Tgr T T1) (h2 : Tgr T1 T2) : Tgr T T2 := ⟨h1.1.tr h2.1, fun b tg h => (h2.2 b tg h).elim (h1.2 b tg) Or.inr⟩
theorem Tgr_add {T : TF} {r : Nat} {tg : Tg} (h : T r = none) (hk : tg.1 = 1 ∨ tg.1 = 12 ∨ tg.1 = 19) : Tgr T (Tadd T r tg) := ⟨Tadd_le h, fun b t hb => by
  unfold Tadd at hb
  split at hb
  · cases hb; exact Or.inr hk
  · exact Or.inl hb⟩
section ThMake
variable {p : Program} {l : Launch} {e : Env} {R : Room} {s : State} {m : MethodId} {args : Array Value} {below : List Frame} {meth : Method} {c : Code} {H : Heap} {locs : List Loc} {cells slots : Nat} {Q : State → Prop}
variable {cc : ByteArray} {pc : Nat} {ls : Array Slot} {rest : List Value} {D : va_G} {A : Nat → Prop} {a : Nat} {cs : CS} {T : TF} {O : List Nat} {X : va_W} {H0 : Heap}
/-- a new address isn't told yet -/
theorem new_none {ws : va_W} {q : Nat} {e0 : va_E} (hD : va_D A ((X ++ ws) ++ [(q, e0)])) (hOX : ∀ o ∈ O, ∃ (k : Nat) (e : va_E), X[k]? = some (o, e)) (h3 : ∀ (a : Nat) (tg : Tg), T a = some tg → a ∉ O → ∃ (k : Nat) (e : va_E), ws[k]? = some (a, e) ∧ sp cs T tg e) : T q = none := by
  have hq : ((X ++ ws) ++ [(q, e0)])[(X ++ ws).length]? = some (q, e0) := by rw [List.getElem?_append_right (Nat.le_refl _)]; simp
  cases ht : T q with
  | none => rfl
  | some tg =>
    exfalso
    by_cases ho : q ∈ O
    · obtain ⟨k, e1, hx⟩ := hOX q ho
      have hl : k < X.length := (List.getElem?_eq_some_iff.mp hx).1
      have h1 : ((X ++ ws) ++ [(q, e0)])[k]? = some (q, e1) := by rw [List.append_assoc, List.getElem?_append_left hl]; exact hx
      have := hD.1 _ _ _ _ h1 hq rfl
      rw [List.length_append] at this
      omega
    · obtain ⟨k, e1, hk, -⟩ := h3 q tg ht ho
      have hl : k < ws.length := (List.getElem?_eq_some_iff.mp hk).1
      have h1 : ((X ++ ws) ++ [(q, e0)])[X.length + k]? = some (q, e1) := by rw [List.getElem?_append_left (by rw [List.length_append]; omega)]; exact ap_r hk
      have := hD.1 _ _ _ _ h1 hq rfl
      rw [List.length_append] at this
      omega
/-- a new cell of a kind -/
theorem HT.push {ws : va_W} {H1 : Heap} {q : Nat} {e0 : va_E} {tg : Tg} (hP : va_P D cls ((X ++ ws) ++ [(q, e0)]) H1) (hD : va_D A ((X ++ ws) ++ [(q, e0)])) (hOX : ∀ o ∈ O, ∃ (k : Nat) (e : va_E), X[k]? = some (o, e)) (h3 : ∀ (a : Nat) (tg : Tg), T a = some tg → a ∉ O → ∃ (k : Nat) (e : va_E), ws[k]? = some (a, e) ∧ sp cs T tg e) (h4 : ∀ (k : Nat) (q : Nat × va_E), ws[k]? = some q → ∃ tg, T q.1 = some tg) (hs : sp cs (Tadd T q tg) tg e0) : HT D cs A (Tadd T q tg) O X H1 := by
  have hno := new_none hD hOX h3
  rw [List.append_assoc] at hP hD
  refine ⟨ws ++ [(q, e0)], hP, hD, fun b tb hb hO => ?_, fun k x hk => ?_⟩
  · by_cases hbq : b = q
    · subst hbq
      have : tb = tg := Option.some.inj (hb.symm.trans Tadd_r)
      subst this
      exact ⟨ws.length, e0, by rw [List.getElem?_append_right (Nat.le_refl _)]; simp, hs⟩
    · have hb2 : T b = some tb := by unfold Tadd at hb; rw [if_neg hbq] at hb; exact hb
      obtain ⟨k, eb, hk, hsb⟩ := h3 b tb hb2 hO
      exact ⟨k, eb, by rw [List.getElem?_append_left (List.getElem?_eq_some_iff.mp hk).1]; exact hk, sp_le (Tadd_le hno) hsb⟩
  · by_cases h1 : k < ws.length
    · rw [List.getElem?_append_left h1] at hk
      obtain ⟨t, ht⟩ := h4 _ _ hk
      exact ⟨t, Tadd_le hno _ _ ht⟩
    · rw [List.getElem?_append_right (by omega)] at hk
      have hz : k - ws.length < 1 := (List.getElem?_eq_some_iff.mp hk).1
      rw [show k - ws.length = 0 by omega] at hk
      cases hk
      exact ⟨tg, Tadd_r⟩
/-- newarray of ints, straight into its kind -/
theorem t_newI {n : Int32} {N' k : Nat} (hx : p.tables.exec = Jvm.exec) (hb : c.code = cc) (hts : ∀ w ∈ gw, w.before args s = true) (harr : Cond.arrayClass .int ∈ gw) (hkb : kb D (tyc cs) s) (hH : HT D cs A T O X H) (hOX : ∀ o ∈ O, ∃ (k : Nat) (e : va_E), X[k]? = some (o, e)) (hS : va_S A H0 H locs) (hA : ∀ q, H0.size ≤ q → A q) (hn : n.toInt = (N' : Int)) (hbd : N' ≤ 1000000) (hz : cp k 0) (hcells : cells + 1 ≤ R.cells) (hslots : slots + N' ≤ R.slots) (hdg : decode cc pc = .ok (.newarray .int, 2))
    (kk : ∀ (r : Nat) (T' : TF) (H1 : Heap), Tgr T T' → T' r = some (1, N', k) → HT D cs A T' O X H1 → va_S A H0 H1 locs → W p l e R s m args below meth c H1 locs (cells + 1) (slots + N') Q (F0 m (pc + 2) ls (.ref r :: rest))) : W p l e R s m args below meth c H locs cells slots Q (F0 m pc ls (.int n :: rest)) := by
  obtain ⟨ws, hP, hD, h3, h4⟩ := hH
  have z : (0 : Int32).toInt = 0 := by decide
  have c1 : n.toNatClampNeg = n.toInt.toNat := rfl
  refine n_a (atype := .int) (t := .int) (a0 := (N', .inl (fun _ => 0))) 1 rfl (fun _ _ h => h) hx hb (hts _ harr) rfl hkb.1 hP hD hS hA (fun _ => rfl) (fun q => by have := Int32.lt_iff_toInt_lt.mp q; omega) (by omega) (by show N' * 4 ≤ 536870912; omega) hcells hslots hdg (fun q H1 hP hD hS => ?_)
  exact kk q (Tadd T q (1, N', k)) H1 (Tgr_add (new_none hD hOX h3) (Or.inl rfl)) Tadd_r (HT.push hP hD hOX h3 h4 (show sp cs _ (1, N', k) _ from ⟨_, rfl, fun _ => hz⟩)) hS
/-- a new object stands first among the exact ones -/
theorem x_new {own C : String} {F : u_T} {N ci index : Nat} {fs : List Value} (hx : p.tables.exec = Jvm.exec) (hb : c.code = cc) (hts : ∀ w ∈ gw, w.before args s = true) (hin : ∀ w ∈ u_ws C F N, w ∈ gw) (ty : Nat → FieldType) (hty : ∀ k, k < N → parseFieldDescriptor (F k).2.2.1 = some (ty k)) (hown : s.vm.findClass own = some m.cls) (hcl : Cond.classLink own index C ∈ gw) (hinst : Cond.instantiable C N ∈ gw) (hini : Cond.initialized C ∈ gw) (hkb : kb D (tyc cs) s) (hH : HT D cs A T O X H) (hOX : ∀ o ∈ O, ∃ (k : Nat) (e : va_E), X[k]? = some (o, e)) (hS : va_S A H0 H locs) (hA : ∀ q, H0.size ≤ q → A q) (hc : cls[ci]? = some (C, F, N)) (hfs : ∀ j, j < N → defaultValue (ty j) = vp_V fs j) (hcells : cells + 1 ≤ R.cells) (hslots : slots + N ≤ R.slots) (hdg : decode cc pc = .ok (.new index, 3))
    (kk : ∀ (q : Nat) (H1 : Heap), T q = none → HT D cs A T O ((q, .inr (ci, fs)) :: X) H1 → va_S A H0 H1 locs → W p l e R s m args below meth c H1 locs (cells + 1) (slots + N) Q (F0 m (pc + 3) ls (.ref q :: rest))) : W p l e R s m args below meth c H locs cells slots Q (F0 m pc ls rest) := by
  obtain ⟨ws, hP, hD, h3, h4⟩ := hH
  refine va_new (D := D) hx hb hts hin ty hty hown (hts _ hcl) (hts _ hinst) (hts _ hini) hkb.1 hP hD hS hA hc hfs hcells hslots hdg (fun q H1 hP hD hS => ?_)
  have hno := new_none hD hOX h3
  have hg : ∀ (k : Nat) (x : Nat × va_E), (((q, Sum.inr (ci, fs)) :: X) ++ ws)[k]? = some x → ((X ++ ws) ++ [(q, Sum.inr (ci, fs))])[if k = 0 then (X ++ ws).length else k - 1]? = some x := by
    intro k x hk
    cases k with
    | zero => rw [if_pos rfl, List.getElem?_append_right (Nat.le_refl _)]; simpa using hk
    | succ k =>
      have hk : (X ++ ws)[k]? = some x := hk
      rw [if_neg (by omega), show k + 1 - 1 = k by omega, List.getElem?_append_left (List.getElem?_eq_some_iff.mp hk).1]
      exact hk
  refine kk q H1 hno ⟨ws, hP.by _ hg, hD.by _ hg ?_, h3, h4⟩ hS
  intro i1 i2 hi1 hi2 he
  simp only [List.length_append, List.length_cons] at hi1 hi2 he
  split at he <;> split at he <;> omega
/-- an exact object of a new address is laid into its kind -/
theorem HT.seal {q ci p0 q0 : Nat} {fs : List Value} (h : HT D cs A T O ((q, .inr (ci, fs)) :: X) H) (hno : T q = none) (hob : ob (Tadd T q (ci + 10, p0, q0)) ci p0 q0 fs) : HT D cs A (Tadd T q (ci + 10, p0, q0)) O X H := by
  obtain ⟨ws, hP, hD, h3, h4⟩ := h
  have hg : ∀ (k : Nat) (x : Nat × va_E), (X ++ (ws ++ [(q, Sum.inr (ci, fs))]))[k]? = some x → (((q, Sum.inr (ci, fs)) :: X) ++ ws)[if k < X.length + ws.length then k + 1 else 0]? = some x := by
    intro k x hk
    rw [← List.append_assoc] at hk
    by_cases h1 : k < X.length + ws.length
    · rw [if_pos h1]
      rw [List.getElem?_append_left (by rw [List.length_append]; exact h1)] at hk
      exact hk
    · rw [if_neg h1]
      rw [List.getElem?_append_right (by rw [List.length_append]; omega)] at hk
      have hz : k - (X ++ ws).length < 1 := (List.getElem?_eq_some_iff.mp hk).1
      rw [show k - (X ++ ws).length = 0 by omega] at hk
      simpa using hk
  refine ⟨ws ++ [(q, .inr (ci, fs))], hP.by _ hg, hD.by _ hg ?_, fun b tb hb hO => ?_, fun k x hk => ?_⟩
  · intro i1 i2 hi1 hi2 he
    simp only [List.length_append, List.length_cons, List.length_nil] at hi1 hi2
    split at he <;> split at he <;> omega
  · by_cases hbq : b = q
    · subst hbq
      have : tb = (ci + 10, p0, q0) := Option.some.inj (hb.symm.trans Tadd_r)
      subst this
      exact ⟨ws.length, _, by rw [List.getElem?_append_right (Nat.le_refl _)]; simp, ⟨fs, rfl, hob⟩⟩
    · have hb2 : T b = some tb := by unfold Tadd at hb; rw [if_neg hbq] at hb; exact hb
      obtain ⟨k, eb, hk, hsb⟩ := h3 b tb hb2 hO
      exact ⟨k, eb, by rw [List.getElem?_append_left (List.getElem?_eq_some_iff.mp hk).1]; exact hk, sp_le (Tadd_le hno) hsb⟩
  · by_cases h1 : k < ws.length
    · rw [List.getElem?_append_left h1] at hk
      obtain ⟨t, ht⟩ := h4 _ _ hk
      exact ⟨t, Tadd_le hno _ _ ht⟩
    · rw [List.getElem?_append_right (by omega)] at hk
      have hz : k - ws.length < 1 := (List.getElem?_eq_some_iff.mp hk).1
      rw [show k - ws.length = 0 by omega] at hk
      cases hk
      exact ⟨_, Tadd_r⟩
end ThMake
/-! exact cells by their places; contracts whose end tells how much was made -/
section ThRows6
variable {p : Program} {l : Launch} {e : Env} {R : Room} {s : State} {m : MethodId} {args : Array Value} {below : List Frame} {meth : Method} {c : Code} {H : Heap} {locs : List Loc} {cells slots : Nat} {Q : State → Prop}
variable {cc : ByteArray} {pc : Nat} {ls : Array Slot} {rest : List Value} {D : va_G} {A : Nat → Prop} {a : Nat} {cs : CS} {T : TF} {O : List Nat} {X : va_W} {H0 : Heap}
theorem ox_n {O : List Nat} {X : va_W} {a : Nat} {e0 : va_E} (h : ∀ o ∈ O, ∃ (k : Nat) (e : va_E), X[k]? = some (o, e)) : ∀ o ∈ O, ∃ (k : Nat) (e : va_E), ((a, e0) :: X)[k]? = some (o, e) := fun o ho => by
  obtain ⟨k, e1, h1⟩ := h o ho
  exact ⟨k + 1, e1, h1⟩
theorem ox_map {O : List Nat} {X X' : va_W} (hO : ∀ o ∈ O, ∃ (k : Nat) (e : va_E), X[k]? = some (o, e)) (h : X'.map Prod.fst = X.map Prod.fst) : ∀ o ∈ O, ∃ (k : Nat) (e : va_E), X'[k]? = some (o, e) := fun o ho => by
  obtain ⟨k, e1, h1⟩ := hO o ho
  have h2 : (X'.map Prod.fst)[k]? = some o := by rw [h, List.getElem?_map, h1]; rfl
  rw [List.getElem?_map] at h2
  cases h3 : X'[k]? with
  | none => rw [h3] at h2; cases h2
  | some q =>
    rw [h3] at h2
    cases h2
    exact ⟨k, q.2, h3⟩
theorem ox_mem {O1 O2 : List Nat} {X1 X2 : va_W} (hOX : ∀ o ∈ O1, ∃ (k : Nat) (e : va_E), X1[k]? = some (o, e)) (hX : ∀ a, a ∈ X1.map Prod.fst → a ∈ X2.map Prod.fst) (hO : ∀ o, o ∈ O2 → o ∈ O1 ∨ o ∈ X2.map Prod.fst) : ∀ o ∈ O2, ∃ (k : Nat) (e : va_E), X2[k]? = some (o, e) := fun o ho => by
  have h2 : o ∈ X2.map Prod.fst := by
    rcases hO o ho with q | q
    · obtain ⟨k, e1, h1⟩ := hOX o q
      exact hX o (List.mem_map.mpr ⟨(o, e1), List.mem_of_getElem? h1, rfl⟩)
    · exact q
  obtain ⟨q, hq, e1⟩ := List.mem_map.mp h2
  obtain ⟨k, hk⟩ := List.getElem?_of_mem hq
  exact ⟨k, q.2, by rw [hk, ← e1]⟩
theorem ap_l {X ws : va_W} {i : Nat} {q : Nat × va_E} (h : X[i]? = some q) : (X ++ ws)[i]? = some q := by rw [List.getElem?_append_left (List.getElem?_eq_some_iff.mp h).1]; exact h
theorem ap_setl {X ws : va_W} {i : Nat} {q0 q : Nat × va_E} (h : X[i]? = some q0) : (X ++ ws).set i q = X.set i q ++ ws := List.set_append_left _ _ (List.getElem?_eq_some_iff.mp h).1
theorem x_getk {own ref C : String} {F : u_T} {N ci index : Nat} {fs : List Value} {v : Value} (hx : p.tables.exec = Jvm.exec) (hb : c.code = cc) (hts : ∀ w ∈ gw, w.before args s = true) (hin : ∀ w ∈ u_ws C F N, w ∈ gw) (hown : s.vm.findClass own = some m.cls) (hkb : kb D (tyc cs) s) (hH : HT D cs A T O X H) (i : Nat) (hi : X[i]? = some (a, .inr (ci, fs))) (hc : cls[ci]? = some (C, F, N)) (k : Nat) (hk : k < N) (hv : fs[k]? = some v) (hlink : Cond.fieldLink own index ref (F k).2.1 (F k).2.2.1 ∈ gw) (hsame : ∀ x, s.fieldFound? (F k).1 (F k).2.1 (F k).2.2.1 = some x → s.fieldFound? ref (F k).2.1 (F k).2.2.1 = some x) (hdg : decode cc pc = .ok (.getfield index, 3))
    (kk : W p l e R s m args below meth c H locs cells slots Q (F0 m (pc + 3) ls (v :: rest))) : W p l e R s m args below meth c H locs cells slots Q (F0 m pc ls (.ref a :: rest)) := by
  obtain ⟨ws, hP, hD, h3, h4⟩ := hH
  exact va_get (D := D) hx hb hts hin hown hkb.1 hP i (ap_l hi) hc k hk (hts _ hlink) hsame hv hdg kk
theorem x_putk {own ref C : String} {F : u_T} {N ci index : Nat} {fs : List Value} {v : Value} {ty : FieldType} (hx : p.tables.exec = Jvm.exec) (hb : c.code = cc) (hts : ∀ w ∈ gw, w.before args s = true) (hin : ∀ w ∈ u_ws C F N, w ∈ gw) (ty0 : Nat → FieldType) (hty : ∀ k, k < N → parseFieldDescriptor (F k).2.2.1 = some (ty0 k)) (hnm : ∀ a, a < N → ∀ b, b < N → a ≠ b → (F a).2.1 ≠ (F b).2.1) (hown : s.vm.findClass own = some m.cls) (hkb : kb D (tyc cs) s) (hH : HT D cs A T O X H) (hS : va_S A H0 H locs) (i : Nat) (hi : X[i]? = some (a, .inr (ci, fs))) (hc : cls[ci]? = some (C, F, N)) (k : Nat) (hk : k < N) (hlink : Cond.fieldLink own index ref (F k).2.1 (F k).2.2.1 ∈ gw) (hsame : ∀ x, s.fieldFound? (F k).1 (F k).2.1 (F k).2.2.1 = some x → s.fieldFound? ref (F k).2.1 (F k).2.2.1 = some x) (hfin : (F k).2.2.2 = false) (hd : parseFieldDescriptor (F k).2.2.1 = some ty) (hn : narrow ty v = v) (hfit : fits ty v = true) (hl : k < fs.length) (hdg : decode cc pc = .ok (.putfield index, 3))
    (kk : ∀ (H1 : Heap) (locs1 : List Loc), HT D cs A T O (X.set i (a, .inr (ci, fs.set k v))) H1 → va_S A H0 H1 locs1 → W p l e R s m args below meth c H1 locs1 cells slots Q (F0 m (pc + 3) ls rest)) : W p l e R s m args below meth c H locs cells slots Q (F0 m pc ls (v :: .ref a :: rest)) := by
  obtain ⟨ws, hP, hD, h3, h4⟩ := hH
  exact va_put (D := D) hx hb hts hin ty0 hty hnm hown hkb.1 hP hD hS i (ap_l hi) hc k hk (hts _ hlink) hsame hfin hd hn hfit hl hdg (fun H1 locs1 hP hD hS => by
    rw [ap_setl hi] at hP hD
    exact kk H1 locs1 ⟨ws, hP, hD, h3, h4⟩ hS)
theorem x_putkF {own ref C : String} {F : u_T} {N ci index : Nat} {fs : List Value} {v : Value} {ty : FieldType} (hx : p.tables.exec = Jvm.exec) (hb : c.code = cc) (hts : ∀ w ∈ gw, w.before args s = true) (hin : ∀ w ∈ u_ws C F N, w ∈ gw) (ty0 : Nat → FieldType) (hty : ∀ k, k < N → parseFieldDescriptor (F k).2.2.1 = some (ty0 k)) (hnm : ∀ a, a < N → ∀ b, b < N → a ≠ b → (F a).2.1 ≠ (F b).2.1) (hown : s.vm.findClass own = some m.cls) (hkb : kb D (tyc cs) s) (hH : HT D cs A T O X H) (hS : va_S A H0 H locs) (i : Nat) (hi : X[i]? = some (a, .inr (ci, fs))) (hc : cls[ci]? = some (C, F, N)) (k : Nat) (hk : k < N) (hlink : Cond.fieldLink own index ref (F k).2.1 (F k).2.2.1 ∈ gw) (hsame : ∀ x, s.fieldFound? (F k).1 (F k).2.1 (F k).2.2.1 = some x → s.fieldFound? ref (F k).2.1 (F k).2.2.1 = some x) (hfin : (F k).2.2.2 = true) (hin2 : meth.name = "<init>") (hdecl : (F k).1 = own) (hd : parseFieldDescriptor (F k).2.2.1 = some ty) (hn : narrow ty v = v) (hfit : fits ty v = true) (hl : k < fs.length) (hdg : decode cc pc = .ok (.putfield index, 3))
    (kk : ∀ (H1 : Heap) (locs1 : List Loc), HT D cs A T O (X.set i (a, .inr (ci, fs.set k v))) H1 → va_S A H0 H1 locs1 → W p l e R s m args below meth c H1 locs1 cells slots Q (F0 m (pc + 3) ls rest)) : W p l e R s m args below meth c H locs cells slots Q (F0 m pc ls (v :: .ref a :: rest)) := by
  obtain ⟨ws, hP, hD, h3, h4⟩ := hH
  exact va_putF (D := D) hx hb hts hin ty0 hty hnm hown hkb.1 hP hD hS i (ap_l hi) hc k hk (hts _ hlink) hsame hfin hin2 hdecl hd hn hfit hl hdg (fun H1 locs1 hP hD hS => by
    rw [ap_setl hi] at hP hD
    exact kk H1 locs1 ⟨ws, hP, hD, h3, h4⟩ hS)
theorem x_recv {ci : Nat} {b : Nat} {C : String} {F : u_T} {N : Nat} {fs : List Value} (hkb : kb D (tyc cs) s) (hH : HT D cs A T O X H) (i : Nat) (hi : X[i]? = some (b, .inr (ci, fs))) (hc : cls[ci]? = some (C, F, N)) : ∃ cell : Cell, H[b]? = some cell ∧ cell.vm.isStatics = false ∧ s.vm.findClass C = some cell.cls := by
  obtain ⟨ws, hP, hD, h3, h4⟩ := hH
  exact va_recv hkb.1 hP hc (ap_l hi)
/-- arrays that are exact -/
theorem xa_ild {n : Nat} {f : Nat → Int32} {j : Int32} (hx : p.tables.exec = Jvm.exec) (hb : c.code = cc) (hkb : kb D (tyc cs) s) (hH : HT D cs A T O X H) (i : Nat) (hi : X[i]? = some (a, .inl (cs.2.1, n, .inl f))) (h0 : 0 ≤ j.toInt) (h1 : j.toInt < n) (hdg : decode cc pc = .ok (.iaload, 1))
    (kk : W p l e R s m args below meth c H locs cells slots Q (F0 m (pc + 1) ls (.int (f j.toNatClampNeg) :: rest))) : W p l e R s m args below meth c H locs cells slots Q (F0 m pc ls (.int j :: .ref a :: rest)) := by
  obtain ⟨ws, hP, hD, h3, h4⟩ := hH
  exact va_iald hx hb hkb.1 hP i 1 (ap_l hi) rfl (in_t h0 h1) hdg kk
theorem xa_bld {n : Nat} {f : Nat → Int32} {j : Int32} (hx : p.tables.exec = Jvm.exec) (hb : c.code = cc) (hkb : kb D (tyc cs) s) (hH : HT D cs A T O X H) (i : Nat) (hi : X[i]? = some (a, .inl (cs.1, n, .inl f))) (h0 : 0 ≤ j.toInt) (h1 : j.toInt < n) (hdg : decode cc pc = .ok (.baload, 1))
    (kk : W p l e R s m args below meth c H locs cells slots Q (F0 m (pc + 1) ls (.int (f j.toNatClampNeg) :: rest))) : W p l e R s m args below meth c H locs cells slots Q (F0 m pc ls (.int j :: .ref a :: rest)) := by
  obtain ⟨ws, hP, hD, h3, h4⟩ := hH
  exact va_bald hx hb hkb.1 hP i 0 (ap_l hi) rfl (in_t h0 h1) hdg kk
theorem xa_len {n : Nat} {f : Nat → Int32} (hx : p.tables.exec = Jvm.exec) (hb : c.code = cc) (hkb : kb D (tyc cs) s) (hH : HT D cs A T O X H) (i : Nat) (hi : X[i]? = some (a, .inl (cs.1, n, .inl f))) (hdg : decode cc pc = .ok (.arraylength, 1))
    (kk : W p l e R s m args below meth c H locs cells slots Q (F0 m (pc + 1) ls (.int (nI n) :: rest))) : W p l e R s m args below meth c H locs cells slots Q (F0 m pc ls (.ref a :: rest)) := by
  obtain ⟨ws, hP, hD, h3, h4⟩ := hH
  exact va_alen (v := nI n) hx hb hkb.1 hP i 0 (ap_l hi) rfl rfl hdg kk
theorem xa_ist {n : Nat} {f : Nat → Int32} {j x : Int32} (hx : p.tables.exec = Jvm.exec) (hb : c.code = cc) (hkb : kb D (tyc cs) s) (hH : HT D cs A T O X H) (hS : va_S A H0 H locs) (i : Nat) (hi : X[i]? = some (a, .inl (cs.2.1, n, .inl f))) (h0 : 0 ≤ j.toInt) (h1 : j.toInt < n) (hdg : decode cc pc = .ok (.iastore, 1))
    (kk : ∀ (H1 : Heap) (locs1 : List Loc), HT D cs A T O (X.set i (a, .inl (cs.2.1, n, .inl (upd f j.toNatClampNeg x)))) H1 → va_S A H0 H1 locs1 → W p l e R s m args below meth c H1 locs1 cells slots Q (F0 m (pc + 1) ls rest)) : W p l e R s m args below meth c H locs cells slots Q (F0 m pc ls (.int x :: .int j :: .ref a :: rest)) := by
  obtain ⟨ws, hP, hD, h3, h4⟩ := hH
  exact va_iast hx hb hkb.1 hP hD hS i 1 (ap_l hi) rfl (in_t h0 h1) hdg (fun H1 locs1 hP hD hS => by
    rw [ap_setl hi] at hP hD
    exact kk H1 locs1 ⟨ws, hP, hD, h3, h4⟩ hS)
theorem xa_bst {n : Nat} {f : Nat → Int32} {j x : Int32} (hx : p.tables.exec = Jvm.exec) (hb : c.code = cc) (hkb : kb D (tyc cs) s) (hH : HT D cs A T O X H) (hS : va_S A H0 H locs) (i : Nat) (hi : X[i]? = some (a, .inl (cs.1, n, .inl f))) (h0 : 0 ≤ j.toInt) (h1 : j.toInt < n) (hdg : decode cc pc = .ok (.bastore, 1))
    (kk : ∀ (H1 : Heap) (locs1 : List Loc), HT D cs A T O (X.set i (a, .inl (cs.1, n, .inl (upd f j.toNatClampNeg (vp_nar .byte x))))) H1 → va_S A H0 H1 locs1 → W p l e R s m args below meth c H1 locs1 cells slots Q (F0 m (pc + 1) ls rest)) : W p l e R s m args below meth c H locs cells slots Q (F0 m pc ls (.int x :: .int j :: .ref a :: rest)) := by
  obtain ⟨ws, hP, hD, h3, h4⟩ := hH
  exact va_bast hx hb hkb.1 hP hD hS i 0 (ap_l hi) rfl (in_t h0 h1) hdg (fun H1 locs1 hP hD hS => by
    rw [ap_setl hi] at hP hD
    exact kk H1 locs1 ⟨ws, hP, hD, h3, h4⟩ hS)
/-- an array is taken out, and laid back -/
theorem HT.takeA {tg : Tg} (h : HT D cs A T O X H) (ha : T a = some tg) (ho : a ∉ O) : ∃ e0 : va_E, sp cs T tg e0 ∧ HT D cs A T (a :: O) ((a, e0) :: X) H := by
  obtain ⟨ws, hP, hD, h3, h4⟩ := h
  obtain ⟨j, e0, hj, hs⟩ := h3 a _ ha ho
  have hl : j < ws.length := (List.getElem?_eq_some_iff.mp hj).1
  have hg : ∀ (k : Nat) (x : Nat × va_E), (((a, e0) :: X) ++ ws.eraseIdx j)[k]? = some x → (X ++ ws)[if k = 0 then X.length + j else if k ≤ X.length then k - 1 else if k - 1 - X.length < j then k - 1 else k]? = some x := by
    intro k x hk
    cases k with
    | zero => rw [if_pos rfl, ap_r hj]; simpa using hk
    | succ k =>
      rw [if_neg (by omega)]
      have hk : (X ++ ws.eraseIdx j)[k]? = some x := hk
      by_cases h1 : k < X.length
      · rw [if_pos (by omega)]
        rw [List.getElem?_append_left h1] at hk
        rw [show k + 1 - 1 = k by omega, List.getElem?_append_left h1]
        exact hk
      · rw [if_neg (by omega)]
        rw [List.getElem?_append_right (by omega), List.getElem?_eraseIdx] at hk
        by_cases h2 : k - X.length < j
        · rw [if_pos h2] at hk
          rw [if_pos (by omega), List.getElem?_append_right (by omega)]
          exact hk
        · rw [if_neg h2] at hk
          rw [if_neg (by omega), List.getElem?_append_right (by omega), show k + 1 - X.length = k - X.length + 1 by omega]
          exact hk
  refine ⟨e0, hs, ws.eraseIdx j, hP.by _ hg, hD.by _ hg ?_, fun b tb hb hO => ?_, fun k x hk => ?_⟩
  · intro i1 i2 hi1 hi2 he
    rw [List.length_append, List.length_cons, List.length_eraseIdx, if_pos hl] at hi1 hi2
    split at he <;> split at he <;> (try split at he) <;> (try split at he) <;> (try split at he) <;> (try split at he) <;> omega
  · have hb2 : b ∉ O := fun z => hO (List.mem_cons_of_mem _ z)
    have hba : b ≠ a := fun z => hO (z ▸ List.mem_cons_self)
    obtain ⟨k, eb, hk, hsb⟩ := h3 b tb hb hb2
    have hkj : k ≠ j := fun z => by
      subst z
      rw [hj] at hk
      exact hba (Prod.mk.inj (Option.some.inj hk)).1.symm
    by_cases h1 : k < j
    · exact ⟨k, eb, by rw [List.getElem?_eraseIdx, if_pos h1]; exact hk, hsb⟩
    · exact ⟨k - 1, eb, by rw [List.getElem?_eraseIdx, if_neg (by omega), show k - 1 + 1 = k by omega]; exact hk, hsb⟩
  · rw [List.getElem?_eraseIdx] at hk
    split at hk
    · exact h4 _ _ hk
    · exact h4 _ _ hk
theorem HT.layA {tg : Tg} {e0 : va_E} (h : HT D cs A T (a :: O) ((a, e0) :: X) H) (ha : T a = some tg) (hs : sp cs T tg e0) : HT D cs A T O X H := by
  obtain ⟨ws, hP, hD, h3, h4⟩ := h
  have hg : ∀ (k : Nat) (x : Nat × va_E), (X ++ (ws ++ [(a, e0)]))[k]? = some x → (((a, e0) :: X) ++ ws)[if k < X.length + ws.length then k + 1 else 0]? = some x := by
    intro k x hk
    rw [← List.append_assoc] at hk
    by_cases h1 : k < X.length + ws.length
    · rw [if_pos h1]
      rw [List.getElem?_append_left (by rw [List.length_append]; exact h1)] at hk
      exact hk
    · rw [if_neg h1]
      rw [List.getElem?_append_right (by rw [List.length_append]; omega)] at hk
      have hz : k - (X ++ ws).length < 1 := (List.getElem?_eq_some_iff.mp hk).1
      rw [show k - (X ++ ws).length = 0 by omega] at hk
      simpa using hk
  refine ⟨ws ++ [(a, e0)], hP.by _ hg, hD.by _ hg ?_, fun b tb hb hO => ?_, fun k x hk => ?_⟩
  · intro i1 i2 hi1 hi2 he
    simp only [List.length_append, List.length_cons, List.length_nil] at hi1 hi2
    split at he <;> split at he <;> omega
  · by_cases hba : b = a
    · subst hba
      have : tb = tg := Option.some.inj (hb.symm.trans ha)
      subst this
      exact ⟨ws.length, _, by rw [List.getElem?_append_right (Nat.le_refl _)]; simp, hs⟩
    · obtain ⟨k, eb, hk, hsb⟩ := h3 b tb hb (fun z => (List.mem_cons.mp z).elim hba hO)
      exact ⟨k, eb, by rw [List.getElem?_append_left (List.getElem?_eq_some_iff.mp hk).1]; exact hk, hsb⟩
  · by_cases h1 : k < ws.length
    · rw [List.getElem?_append_left h1] at hk
      exact h4 _ _ hk
    · rw [List.getElem?_append_right (by omega)] at hk
      have hz : k - ws.length < 1 := (List.getElem?_eq_some_iff.mp hk).1
      rw [show k - ws.length = 0 by omega] at hk
      cases hk
      exact ⟨_, ha⟩
theorem tag_ne {T : TF} {a b : Nat} {ta tb : Tg} (ha : T a = some ta) (hb : T b = some tb) (h : ta ≠ tb) : a ≠ b := fun z => by
  rw [z, hb] at ha
  exact h (Option.some.inj ha).symm
theorem nm_c {a b : Nat} {O : List Nat} (h : a ≠ b) (h2 : a ∉ O) : a ∉ b :: O := fun z => (List.mem_cons.mp z).elim h h2
/-- exact cells change places -/
theorem HT.pm {Y Y2 : va_W} {O2 : List Nat} {ym : Nat} (L : List Nat) (h : HT D cs A T O (Y ++ X) H) (hl : Y2.length = Y.length) (hm : Y.length = ym) (hL : ∀ k, k < Y2.length → Y2[k]? = Y[L.getD k 0]?) (hi : L.length = ym ∧ (∀ i, i < L.length → L.getD i 0 < L.length) ∧ ∀ i, i < L.length → ∀ j, j < L.length → L.getD i 0 = L.getD j 0 → i = j) (hO : ∀ a, a ∈ O → a ∈ O2) : HT D cs A T O2 (Y2 ++ X) H := by
  obtain ⟨ws, hP, hD, h3, h4⟩ := h
  have hg : ∀ (k : Nat) (x : Nat × va_E), ((Y2 ++ X) ++ ws)[k]? = some x → ((Y ++ X) ++ ws)[if k < Y.length then L.getD k 0 else k]? = some x := by
    intro k x hk
    rw [List.append_assoc] at hk ⊢
    by_cases q : k < Y.length
    · rw [if_pos q, List.getElem?_append_left (by have := hi.2.1 k (by omega); omega), ← hL k (by omega)]
      rw [List.getElem?_append_left (by omega)] at hk
      exact hk
    · rw [if_neg q, List.getElem?_append_right (by omega)]
      rw [List.getElem?_append_right (by omega), hl] at hk
      exact hk
  refine ⟨ws, hP.by _ hg, hD.by _ hg ?_, fun q tg hq hn => h3 q tg hq (fun z => hn (hO q z)), h4⟩
  intro i1 i2 _ _ he
  by_cases q1 : i1 < Y.length
  · have b1 := hi.2.1 i1 (by omega)
    rw [if_pos q1] at he
    by_cases q2 : i2 < Y.length
    · rw [if_pos q2] at he
      exact hi.2.2 i1 (by omega) i2 (by omega) he
    · rw [if_neg q2] at he
      omega
  · rw [if_neg q1] at he
    by_cases q2 : i2 < Y.length
    · have b2 := hi.2.1 i2 (by omega)
      rw [if_pos q2] at he
      omega
    · rw [if_neg q2] at he
      omega
/-- a new address is in no kind yet -/
theorem HT.none {e0 : va_E} (h : HT D cs A T O ((a, e0) :: X) H) (hOX : ∀ o ∈ O, ∃ (k : Nat) (e : va_E), X[k]? = some (o, e)) : T a = none := by
  obtain ⟨ws, hP, hD, h3, h4⟩ := h
  cases ht : T a with
  | none => rfl
  | some tg =>
    exfalso
    have h0 : (((a, e0) :: X) ++ ws)[0]? = some (a, e0) := rfl
    by_cases ho : a ∈ O
    · obtain ⟨k, e1, hx⟩ := hOX a ho
      have h1 : (((a, e0) :: X) ++ ws)[k + 1]? = some (a, e1) := ap_l (X := (a, e0) :: X) (i := k + 1) hx
      have := hD.1 _ _ _ _ h0 h1 rfl
      omega
    · obtain ⟨k, e1, hk, -⟩ := h3 a tg ht ho
      have h1 : (((a, e0) :: X) ++ ws)[((a, e0) :: X).length + k]? = some (a, e1) := ap_r hk
      have := hD.1 _ _ _ _ h0 h1 rfl
      rw [List.length_cons] at this
      omega
/-- the reference's arrays -/
def p8 (i x : Int32) : Prop := (i.toInt = 1 → 0 ≤ x.toInt ∧ x.toInt ≤ 14) ∧ (i.toInt = 2 → 0 ≤ x.toInt ∧ x.toInt ≤ 5) ∧ (i.toInt = 4 → 0 ≤ x.toInt ∧ x.toInt ≤ 16383) ∧ (i.toInt = 5 → 0 ≤ x.toInt ∧ x.toInt ≤ 16383) ∧ (i.toInt = 6 → 0 ≤ x.toInt ∧ x.toInt ≤ 16383) ∧ (i.toInt = 90 → 0 ≤ x.toInt ∧ x.toInt ≤ 10) ∧ (i.toInt = 401 → 0 ≤ x.toInt ∧ x.toInt ≤ 900)
theorem p8_far {i x : Int32} (h : 7 ≤ i.toInt) (h2 : i.toInt ≠ 90 ∧ i.toInt ≤ 400) : p8 i x := ⟨fun _ => by omega, fun _ => by omega, fun _ => by omega, fun _ => by omega, fun _ => by omega, fun _ => by omega, fun _ => by omega⟩
theorem p8_90 {i x : Int32} (h : i.toInt = 90) (h0 : 0 ≤ x.toInt) (h1 : x.toInt ≤ 10) : p8 i x := ⟨fun _ => by omega, fun _ => by omega, fun _ => by omega, fun _ => by omega, fun _ => by omega, fun _ => ⟨h0, h1⟩, fun _ => by omega⟩
theorem toN_eq {i : Int32} {k : Nat} (h : i.toInt = (k : Int)) : i.toNatClampNeg = k := by
  have : i.toNatClampNeg = i.toInt.toNat := rfl
  omega
theorem B8.at {n : Nat} {f : Nat → Int32} (h : B8 n f) (hn : 0 < n) (i : Int32) : p8 i (f i.toNatClampNeg) := by
  obtain ⟨a1, a2, a3, a4, a5, a6, a7, -⟩ := h 0 (by omega)
  simp only [Nat.zero_mul, Nat.zero_add] at a1 a2 a3 a4 a5 a6 a7
  exact ⟨fun h => by rw [toN_eq (k := 1) h]; exact a1, fun h => by rw [toN_eq (k := 2) h]; exact a2, fun h => by rw [toN_eq (k := 4) h]; exact a3, fun h => by rw [toN_eq (k := 5) h]; exact a4, fun h => by rw [toN_eq (k := 6) h]; exact a5, fun h => by rw [toN_eq (k := 90) h]; exact a6, fun h => by rw [toN_eq (k := 401) h]; exact a7⟩
theorem dpn_eq {f g : Nat → Int32} (h : ∀ j, 402 ≤ j → f j = g j) (k : Nat) : dpn f k = dpn g k := by
  induction k with
  | zero => rfl
  | succ k ih =>
    unfold dpn
    rw [ih, h (402 + k) (by omega)]
theorem wfc_eq {f g : Nat → Int32} (h : ∀ j, 401 ≤ j → f j = g j) (w : wfc f) : wfc g := by
  intro k hk h1
  rw [← h 401 (by omega)] at hk
  rw [← h (402 + k) (by omega)] at h1 ⊢
  rw [← dpn_eq (fun j hj => h j (by omega))]
  exact w k hk h1
theorem B8.put {n : Nat} {f : Nat → Int32} (h : B8 n f) {i x : Int32} (h0 : 0 ≤ i.toInt) (h1 : i.toInt ≤ 400) (hp : p8 i x) : B8 n (upd f i.toNatClampNeg x) := by
  have hi : i.toNatClampNeg = i.toInt.toNat := rfl
  intro z hz
  have hs := h z hz
  by_cases h00 : z = 0
  · subst h00
    obtain ⟨a1, a2, a3, a4, a5, a6, a7, a8⟩ := hs
    obtain ⟨q1, q2, q3, q4, q5, q6, q7⟩ := hp
    simp only [Nat.zero_mul, Nat.zero_add] at a1 a2 a3 a4 a5 a6 a7
    have hu : ∀ j : Nat, upd f i.toNatClampNeg x (0 * 1302 + j) = if j = i.toInt.toNat then x else f j := fun j => by
      unfold upd
      rw [Nat.zero_mul, Nat.zero_add, hi]
    refine ⟨?_, ?_, ?_, ?_, ?_, ?_, ?_, ?_⟩
    · simp only [hu]; split
      · exact q1 (by omega)
      · exact a1
    · simp only [hu]; split
      · exact q2 (by omega)
      · exact a2
    · simp only [hu]; split
      · exact q3 (by omega)
      · exact a3
    · simp only [hu]; split
      · exact q4 (by omega)
      · exact a4
    · simp only [hu]; split
      · exact q5 (by omega)
      · exact a5
    · simp only [hu]; split
      · exact q6 (by omega)
      · exact a6
    · simp only [hu]; rw [if_neg (by omega)]
      exact a7
    · refine wfc_eq (fun j hj => ?_) a8
      show f (0 * 1302 + j) = upd f i.toNatClampNeg x (0 * 1302 + j)
      rw [hu, if_neg (by omega), Nat.zero_mul, Nat.zero_add]
  · have hf : (fun j => upd f i.toNatClampNeg x (z * 1302 + j)) = fun j => f (z * 1302 + j) := by
      funext j
      unfold upd
      rw [if_neg (by omega)]
    rw [hf]
    exact hs
theorem t_ild8 {n k : Nat} {i : Int32} (hx : p.tables.exec = Jvm.exec) (hb : c.code = cc) (hkb : kb D (tyc cs) s) (hH : HT D cs A T O X H) (ha : T a = some (8, n, k)) (hno : a ∉ O) (hn : 0 < n) (h0 : 0 ≤ i.toInt) (h1 : i.toInt < n) (hdg : decode cc pc = .ok (.iaload, 1))
    (kk : ∀ x : Int32, p8 i x → (n = 3906 → (i = 1 → x = nI (k / 6)) ∧ (i = 2 → x = nI (k % 6))) → W p l e R s m args below meth c H locs cells slots Q (F0 m (pc + 1) ls (.int x :: rest))) : W p l e R s m args below meth c H locs cells slots Q (F0 m pc ls (.int i :: .ref a :: rest)) := by
  obtain ⟨ws, hP, hD, h3, h4⟩ := hH
  obtain ⟨j, e0, hj, hs⟩ := h3 a _ ha hno
  obtain ⟨f, rfl, hf, hg⟩ : ∃ f : Nat → Int32, e0 = .inl (cs.2.1, n, .inl f) ∧ B8 n f ∧ (n = 3906 → f 1 = nI (k / 6) ∧ f 2 = nI (k % 6)) := hs
  exact va_iald hx hb hkb.1 hP (X.length + j) 1 (ap_r hj) rfl (in_t h0 h1) hdg (kk _ (hf.at hn i) (fun q => ⟨fun z => by rw [z]; exact (hg q).1, fun z => by rw [z]; exact (hg q).2⟩))
theorem t_ist8 {n k : Nat} {i x : Int32} (hx : p.tables.exec = Jvm.exec) (hb : c.code = cc) (hkb : kb D (tyc cs) s) (hH : HT D cs A T O X H) (hS : va_S A H0 H locs) (ha : T a = some (8, n, k)) (hno : a ∉ O) (hn : 0 < n) (h0 : 0 ≤ i.toInt) (h1 : i.toInt < n) (h2 : i.toInt ≤ 400) (h2b : 3 ≤ i.toInt) (hv : p8 i x) (hdg : decode cc pc = .ok (.iastore, 1))
    (kk : ∀ (H1 : Heap) (locs1 : List Loc), HT D cs A T O X H1 → va_S A H0 H1 locs1 → W p l e R s m args below meth c H1 locs1 cells slots Q (F0 m (pc + 1) ls rest)) : W p l e R s m args below meth c H locs cells slots Q (F0 m pc ls (.int x :: .int i :: .ref a :: rest)) := by
  obtain ⟨ws, hP, hD, h3, h4⟩ := hH
  obtain ⟨j, e0, hj, hs⟩ := h3 a _ ha hno
  obtain ⟨f, rfl, hf, hg⟩ : ∃ f : Nat → Int32, e0 = .inl (cs.2.1, n, .inl f) ∧ B8 n f ∧ (n = 3906 → f 1 = nI (k / 6) ∧ f 2 = nI (k % 6)) := hs
  have hi : i.toNatClampNeg = i.toInt.toNat := rfl
  refine va_iast hx hb hkb.1 hP hD hS (X.length + j) 1 (ap_r hj) rfl (in_t h0 h1) hdg (fun H1 locs1 hP hD hS => ?_)
  exact kk H1 locs1 (HT.put hj ha h3 h4 (show sp cs T (8, n, k) _ from ⟨_, rfl, hf.put h0 h2 hv, fun q => ⟨(if_neg (by omega)).trans (hg q).1, (if_neg (by omega)).trans (hg q).2⟩⟩) hP hD) hS
theorem t_ild9 {n k : Nat} {i : Int32} (hx : p.tables.exec = Jvm.exec) (hb : c.code = cc) (hkb : kb D (tyc cs) s) (hH : HT D cs A T O X H) (ha : T a = some (9, n, k)) (hno : a ∉ O) (h0 : 0 ≤ i.toInt) (h1 : i.toInt < n) (hdg : decode cc pc = .ok (.iaload, 1))
    (kk : ∀ x : Int32, cp k x → W p l e R s m args below meth c H locs cells slots Q (F0 m (pc + 1) ls (.int x :: rest))) : W p l e R s m args below meth c H locs cells slots Q (F0 m pc ls (.int i :: .ref a :: rest)) := by
  obtain ⟨ws, hP, hD, h3, h4⟩ := hH
  obtain ⟨j, e0, hj, hs⟩ := h3 a _ ha hno
  obtain ⟨f, rfl, hf⟩ : ∃ f : Nat → Int32, e0 = .inl (cs.2.1, n, .inl f) ∧ ∀ j, cp k (f j) := hs
  exact va_iald hx hb hkb.1 hP (X.length + j) 1 (ap_r hj) rfl (in_t h0 h1) hdg (kk _ (hf _))
theorem t_ist9 {n k : Nat} {i x : Int32} (hx : p.tables.exec = Jvm.exec) (hb : c.code = cc) (hkb : kb D (tyc cs) s) (hH : HT D cs A T O X H) (hS : va_S A H0 H locs) (ha : T a = some (9, n, k)) (hno : a ∉ O) (h0 : 0 ≤ i.toInt) (h1 : i.toInt < n) (hv : cp k x) (hdg : decode cc pc = .ok (.iastore, 1))
    (kk : ∀ (H1 : Heap) (locs1 : List Loc), HT D cs A T O X H1 → va_S A H0 H1 locs1 → W p l e R s m args below meth c H1 locs1 cells slots Q (F0 m (pc + 1) ls rest)) : W p l e R s m args below meth c H locs cells slots Q (F0 m pc ls (.int x :: .int i :: .ref a :: rest)) := by
  obtain ⟨ws, hP, hD, h3, h4⟩ := hH
  obtain ⟨j, e0, hj, hs⟩ := h3 a _ ha hno
  obtain ⟨f, rfl, hf⟩ : ∃ f : Nat → Int32, e0 = .inl (cs.2.1, n, .inl f) ∧ ∀ j, cp k (f j) := hs
  refine va_iast hx hb hkb.1 hP hD hS (X.length + j) 1 (ap_r hj) rfl (in_t h0 h1) hdg (fun H1 locs1 hP hD hS => ?_)
  refine kk H1 locs1 (HT.put hj ha h3 h4 (show sp cs T (9, n, k) _ from ⟨_, rfl, fun q => ?_⟩) hP hD) hS
  unfold upd
  split
  · exact hv
  · exact hf q
end ThRows6
section ThDyn
variable {p : Program} {l : Launch} {e : Env} {R : Room} {s : State} {m : MethodId} {args : Array Value} {below : List Frame} {meth : Method} {c : Code} {H : Heap} {locs : List Loc} {cells slots : Nat} {Q : State → Prop}
variable {cc : ByteArray} {pc : Nat} {ls : Array Slot} {rest : List Value} {D : va_G} {A : Nat → Prop} {a : Nat} {cs : CS} {T : TF} {O : List Nat} {X : va_W} {H0 : Heap}
/-- a constructor's call -/
theorem tr_I {kf : KF} {own : String} {idx n n' nL : Nat} {y : MethodName} {yb : ByteArray} {rm : Room} {b : Addr} {As st : List Value} {Qm : (Nat → Prop) → Array Value → State → Outcome → State → Prop}
    (hx : p.tables.exec = Jvm.exec) (hb : c.code = cc) (hml : c.maxLocals = nL) (hown : s.vm.findClass own = some m.cls) (hts : ∀ w ∈ gw, w.before args s = true) (hkb : kb D (tyc cs) s) (hH : HT D cs A T O X H) (hOX : ∀ o ∈ O, ∃ (k : Nat) (e : va_E), X[k]? = some (o, e)) (hks : kS kf s) (hE : kE kf A s s.heap) (hS : va_S A s.heap H locs) (hA : ∀ q, s.heap.size ≤ q → A q)
    (hM : TK l D cs kf y yb n' none rm (.ref b :: As) T O X Qm) (h1 : Cond.methodLink own idx y ∈ gw) (h2 : Cond.instanceMethod y ∈ gw) (h4 : Cond.initialized y.cls ∈ gw) (h5 : Cond.code y yb n' none ∈ gw) (hy1 : y.name = "<init>")
    (hd : y.cls ≠ "java/lang/invoke/MethodHandle" ∧ y.cls ≠ "java/lang/invoke/VarHandle" ∧ (parseMethodDescriptor y.desc).map (fun d => d.parameters.length) = some n) (hR : rm.frames + 1 ≤ R.frames ∧ 8 + (n' + 11) + rm.locals ≤ R.locals)
    (hn : As.length = n) (hst : st = As.reverse ++ .ref b :: rest) (hsz : ls.size = nL) (hW : (rest.map fun v => v.category).sum ≤ 8) (hdg : decode cc pc = .ok (.invokespecial idx, 3)) (hf : cells + rm.cells ≤ R.cells ∧ slots + rm.slots ≤ R.slots) :
    va_Run p l e R s m args below meth c H locs cells slots rm.cells rm.slots (F0 m pc ls st) rest (Qm (AT T O X H.size) (Value.ref b :: As).toArray) (AT T O X H.size) := by
  subst hst
  exact va_runI (As := As) (rest := rest) ⟨hx, hb, hml, hown, hts⟩ (hM H.size) (cwI n hts (gi_M h5) rfl rfl rfl (hts _ h4) (hts _ h1) (hts _ h2) hy1 hd hR) ⟨prT.blind, fun U hU hW => ⟨rfl, by rw [hU], by rw [hU]; exact hH.weaken (fun _ _ => trivial), kb.warm hW hkb, hOX, kS.warm hW hks, by rw [hU]; exact (kE.moved hW.alike (hE.kept hS.2.1)).narrow (hH.in hS hA)⟩⟩ rfl hn hsz rfl (lv_room hW) hdg hf
/-- contracts whose end tells how much was made -/
def TKD (l : Launch) (D : va_G) (cs : CS) (kf : KF) (y : MethodName) (b : ByteArray) (n : Nat) (r : Option FieldType) (rm : Room) (as : List Value) (T : TF) (O : List Nat) (X : va_W) (Q : Nat → Nat → (Nat → Prop) → Array Value → State → Outcome → State → Prop) : Prop :=
  ∀ sz : Nat, MetFree l y (headSpec (wl y b n r) rm) (va_Pc as (prT D cs kf T O X sz)) (fun _ _ _ _ _ => True) (fun a st o t => ∃ k n, Q k n (AT T O X sz) a st o t ∧ ∃ L, FrameEnd st o t L k n ∧ ∀ q ∈ L, AT T O X sz q.base)
def MQD (below : List Frame) (Q : Nat → Nat → Array Value → State → Outcome → State → Prop) (a : Array Value) (s : State) (free : Addr → Prop) : State → Prop := fun t => ∃ k n, MQ below (Q k n) a s k n free t
theorem W.imp {Q' : State → Prop} {g : JFrame} (h : ∀ t, Q t → Q' t) (k : W p l e R s m args below meth c H locs cells slots Q g) : W p l e R s m args below meth c H locs cells slots Q' g := fun T hT X => by
  obtain ⟨t, a1, b1⟩ := k T hT X
  exact ⟨t, a1, h t b1⟩
theorem tkd_of {kf : KF} {y : MethodName} {b : ByteArray} {n : Nat} {r : Option FieldType} {rm : Room} {as : List Value} {Qd : Nat → Nat → (Nat → Prop) → Array Value → State → Outcome → State → Prop} (hy : plainName y.cls = true) (hlen : (lg_sl as).length ≤ n)
    (body : ∀ (p : Program) (e : Env) (s : State) (m : MethodId) (below : List Frame) (meth : Method) (c : Code) (ls : Array Slot) (A : Nat → Prop) (H : Heap) (locs : List Loc), p.tables.exec = Jvm.exec → c.code = b → meth.sig.returnType = r → c.maxLocals = n → s.vm.findClass y.cls = some m.cls → (∀ w ∈ gw, w.before as.toArray s = true) → meth.locks = false → meth.name = y.name → kb D (tyc cs) s → HT D cs A T O X H → va_S A s.heap H locs → (∀ q : Nat, s.heap.size ≤ q → A q) → (∀ o ∈ O, ∃ (k : Nat) (e : va_E), X[k]? = some (o, e)) → kS kf s → kE kf A s s.heap → lv_has ls n (lv_args 0 as) →
      W p l e rm s m as.toArray below meth c H locs 0 0 (MQD below (fun k n => Qd k n A) as.toArray s A) (F0 m 0 ls [])) : TKD l D cs kf y b n r rm as T O X Qd := by
  intro sz
  refine MetFree.of_bodyS (code := b) (maxLocals := n) (ret := r) hy (fun args s m h hn => ?_) (fun p e s m args below meth c s₁ B hml hv _ => ?_)
  · obtain ⟨meth, c, h1, h2, h3, h4, h5, h6, -, -⟩ := Cond.code_spec hn (atoms_spec (ws := wl y b n r) h _ List.mem_cons_self)
    exact ⟨meth, c, h1, h2, h3, h4, h5, h6⟩
  · obtain ⟨rfl, hsz, hH, hK, hOX, hks, hE⟩ := hv
    have hts := atoms_spec (ws := wl y b n r) B.pre
    subst hsz
    have hh0 : s₁.heap = s.heap := by rw [B.state]; rfl
    have k := body p e s m below meth c _ _ _ [] B.exec B.bytes B.returns hml (findClass_of_methodNamed B.named) (fun w hw => hts w (List.mem_cons_of_mem _ hw)) B.notSynchronized (name_of_methodNamed B.named B.method).1 hK (hH.self hOX) va_S.rf (fun q h => Or.inr (Or.inr h)) hOX hks hE (lv_entry as hlen)
    rw [← lg_entry_eq] at k
    obtain ⟨t, a1, kk, nn, o, b1, b2, b3, b4⟩ := k s₁ hh0 (Stand.of_body B)
    exact ⟨t, o, a1, b1, b2, kk, nn, b3, b4⟩
def RunD (p : Program) (l : Launch) (e : Env) (R : Room) (s : State) (m : MethodId) (args : Array Value) (below : List Frame) (meth : Method) (c : Code) (H : Heap) (locs : List Loc) (cells slots : Nat) (g : JFrame) (rest : List Value) (Qa : Nat → Nat → State → Outcome → State → Prop) (free : Addr → Prop) : Prop :=
  ∀ T : State, T.heap = H → Stand p l e R s m args below meth c T locs cells slots → ∃ (v : Option Value) (st₀ t T' : State) (L : List Loc) (k n : Nat), st₀.heap = H ∧ Stand p l e R s m args below meth c T' (locs ++ L) (cells + k) (slots + n) ∧ (∀ q ∈ L, free q.base) ∧ T'.heap = t.heap ∧ T'.vm = t.vm ∧ Qa k n st₀ (.returned v) t ∧
    Goes p e below T g T' { g with pc := g.pc + 3, stack := v.toList ++ rest }
def PostD (Qc : Nat → Nat → Array Value → State → Outcome → State → Prop) (free : Addr → Prop) : Pt → Array Value → Option Value → Pt → Prop := fun A a v B =>
  ∃ (k n : Nat) (g : JFrame) (mk : MethodId) (t : State) (L : List Loc), B.U.heap = t.heap ∧ B.U.vm = t.vm ∧ Qc k n a (A.U.calling g mk a) (.returned v) t ∧ B.locs = A.locs ++ L ∧ (∀ q ∈ L, free q.base) ∧ B.cells = A.cells + k ∧ B.slots = A.slots + n
theorem back_D {kf : KF} {own : String} {idx n n' : Nat} {y : MethodName} {yb : ByteArray} {r : Option FieldType} {rm : Room} {As : List Value} {sz : Nat} {Qm : Nat → Nat → (Nat → Prop) → Array Value → State → Outcome → State → Prop}
    (hts : ∀ w ∈ gw, w.before args s = true) (hM : TKD l D cs kf y yb n' r rm As T O X Qm) (cb : CallB R s args own idx y yb n' r (wl y yb n' r) rm rm.cells rm.slots n) : Back l R p e below s args y 3 8 (PreOf R rm.cells rm.slots (va_Pc As (prT D cs kf T O X sz))) (PostD (fun k n => Qm k n (AT T O X sz)) (AT T O X sz)) := by
  obtain ⟨hrc, hrs, hfr, hlo, hws, hcw, -, hini, -⟩ := cb
  refine Back.of_free (S := headSpec (wl y yb n' r) rm) (P := va_Pc As (prT D cs kf T O X sz)) (K := fun _ _ _ _ _ => True) (bytes := yb) (maxL := n') (ret := r)
    (E := fun a st o t L k n => Qm k n (AT T O X sz) a st o t ∧ ∀ q ∈ L, AT T O X sz q.base) (hM sz) hfr hlo ?_ ?_ (fun _ _ _ _ _ _ _ _ _ => trivial) ?_ ?_
  · intro m meth c A a X hp
    exact ⟨atoms_intro fun w hw => hws w hw _ _ X.warmed, hws _ hcw _ _ X.warmed, word_at X.warmed (Or.inl (by first | rfl | simp [Cond.onTables, Cond.keeps, Cond.steady])) hini, hp.1, hp.2.1⟩
  · intro m meth c A a g mk X hp
    exact prT.blind _ _ _ _ hp.2.2
  · intro a st o t ⟨k, n, hq, L, hF, hL⟩
    exact ⟨L, k, n, hF, hq, hL⟩
  · intro m meth c A a g mk v t L k n X hp hq hF ⟨e1, hL⟩
    exact ⟨k, n, g, mk, t, L, rfl, rfl, e1, rfl, hL, rfl, rfl⟩
theorem tr_VD {kf : KF} {own C : String} {idx n n' nL : Nat} {y : MethodName} {yb : ByteArray} {r : Option FieldType} {rm : Room} {b : Addr} {As st : List Value} {Qm : Nat → Nat → (Nat → Prop) → Array Value → State → Outcome → State → Prop}
    (hx : p.tables.exec = Jvm.exec) (hb : c.code = cc) (hml : c.maxLocals = nL) (hown : s.vm.findClass own = some m.cls) (hts : ∀ w ∈ gw, w.before args s = true) (hkb : kb D (tyc cs) s) (hH : HT D cs A T O X H) (hOX : ∀ o ∈ O, ∃ (k : Nat) (e : va_E), X[k]? = some (o, e)) (hks : kS kf s) (hE : kE kf A s s.heap) (hS : va_S A s.heap H locs) (hA : ∀ q, s.heap.size ≤ q → A q)
    (hM : TKD l D cs kf y yb n' r rm (.ref b :: As) T O X Qm) (h1 : Cond.methodLink own idx y ∈ gw) (h2 : Cond.instanceMethod y ∈ gw) (h3 : Cond.selects C y y ∈ gw) (h4 : Cond.initialized C ∈ gw) (h5 : Cond.code y yb n' r ∈ gw)
    (hd : y.cls = C ∧ y.cls ≠ "java/lang/invoke/MethodHandle" ∧ y.cls ≠ "java/lang/invoke/VarHandle" ∧ (parseMethodDescriptor y.desc).map (fun d => d.parameters.length) = some n) (hR : rm.frames + 1 ≤ R.frames ∧ 8 + (n' + 11) + rm.locals ≤ R.locals)
    (he : ∃ cell : Cell, H[b]? = some cell ∧ cell.vm.isStatics = false ∧ s.vm.findClass C = some cell.cls) (hn : As.length = n) (hst : st = As.reverse ++ .ref b :: rest) (hsz : ls.size = nL) (hW : (rest.map fun v => v.category).sum ≤ 8) (hdg : decode cc pc = .ok (.invokevirtual idx, 3)) (hf : cells + rm.cells ≤ R.cells ∧ slots + rm.slots ≤ R.slots) :
    RunD p l e R s m args below meth c H locs cells slots (F0 m pc ls st) rest (fun k n => Qm k n (AT T O X H.size) (Value.ref b :: As).toArray) (AT T O X H.size) := by
  subst hst
  have hG : GoodIn gw (wsV own idx C y (wl y yb n' r)) := gi_app (fun w hw => by
    simp only [List.mem_cons, List.not_mem_nil, or_false] at hw
    rcases hw with rfl | rfl | rfl | rfl
    · exact h1
    · exact h2
    · exact h3
    · exact h4) (gi_M h5)
  have cw := cwV (R := R) (rm := rm) n hts hG rfl rfl rfl hd hR
  have hK := back_D (p := p) (e := e) (below := below) (sz := H.size) hts hM cw.1
  obtain ⟨⟨-, -, -, -, -, -, hcode, -, hy, hlen, hl⟩, hin, hse⟩ := cw
  obtain ⟨cellB, hcB, hoB, hclB⟩ := he
  intro T' hT X'
  obtain ⟨v, vm₁, ⟨U', l2, c2, s2⟩, hW₁, X2, ⟨k, nn, g', mk, t, L, e1, e2, hq, g1, hL, g2, g3⟩, st⟩ := callV X' hx (C := C) (bytes := yb) (maxL := n') (ret := r) hown hl hin hse hcode hy hK (by rw [hT]; exact hcB) hoB hclB rfl (hsz.trans hml.symm) (argsL := As) (rest := rest) (fun sig h => hn.trans (hlen sig h)) rfl (lv_room hW) (by rw [hb]; exact hdg)
    (fun vm₁ hW₁ => ⟨hf.1, hf.2, rfl, by rw [show (T'.setVm vm₁).heap = H from hT], by rw [show (T'.setVm vm₁).heap = H from hT]; exact hH.weaken (fun _ _ => trivial), kb.warm hW₁ hkb, hOX, kS.warm hW₁ hks, by rw [show (T'.setVm vm₁).heap = H from hT]; exact (kE.moved hW₁.alike (hE.kept hS.2.1)).narrow (hH.in hS hA)⟩)
  dsimp only [Pt.U, Pt.locs, Pt.cells, Pt.slots] at X2 e1 e2 g1 g2 g3 st
  subst g1; subst g2; subst g3
  exact ⟨v, (T'.setVm vm₁).calling g' mk (Value.ref b :: As).toArray, t, U', L, k, nn, hT, X2, hL, e1, e2, hq, st⟩
theorem tk_iD {post : Nat → Nat → Int32 → TX → Prop} {st : List Value} {av : Array Value} (hH : HT D cs A T O X H) (hS : va_S A H0 H locs) (hA : ∀ q, H0.size ≤ q → A q)
    (hr : RunD p l e R s m args below meth c H locs cells slots (F0 m pc ls st) rest (fun k n => Ti D cs (post k n) (AT T O X H.size) av) (AT T O X H.size))
    (kk : ∀ (r : Int32) (k n : Nat) (u : TX) (H1 : Heap) (locs1 : List Loc), post k n r u → HT D cs A u.1 u.2.1 u.2.2 H1 → va_S A H0 H1 locs1 → W p l e R s m args below meth c H1 locs1 (cells + k) (slots + n) Q (F0 m (pc + 3) ls (.int r :: rest))) : W p l e R s m args below meth c H locs cells slots Q (F0 m pc ls st) := by
  have hFc := hH.in hS hA
  intro T' hT X'
  obtain ⟨v, st₀, t, T2, L, k, n, h0, X2, hL, e1, e2, ⟨⟨r, u, hv, hp, hb⟩, hz, hk⟩, st⟩ := hr T' hT X'
  cases hv
  rw [h0] at hz hk
  have hB : HT D cs (AT T O X H.size) u.1 u.2.1 u.2.2 t.heap := hb
  rw [← e1] at hB hz
  obtain ⟨t2, a1, b1⟩ := kk r k n u T2.heap (locs ++ L) hp (hB.weaken hFc) ⟨Nat.le_trans hS.1 hz, fun q h1 h2 => by rw [e1, hk q (Nat.lt_of_lt_of_le h1 hS.1) (fun z => h2 (hFc q z))]; exact hS.2.1 q h1 h2, fun q hq => by
      rcases List.mem_append.mp hq with h | h
      · exact hS.2.2 q h
      · exact hFc _ (hL q h)⟩ T2 rfl X2
  exact ⟨t2, st t2 a1, b1⟩
theorem tk_vD {post : Nat → Nat → TX → Prop} {st : List Value} {av : Array Value} (hH : HT D cs A T O X H) (hS : va_S A H0 H locs) (hA : ∀ q, H0.size ≤ q → A q)
    (hr : RunD p l e R s m args below meth c H locs cells slots (F0 m pc ls st) rest (fun k n => Tv D cs (post k n) (AT T O X H.size) av) (AT T O X H.size))
    (kk : ∀ (k n : Nat) (u : TX) (H1 : Heap) (locs1 : List Loc), post k n u → HT D cs A u.1 u.2.1 u.2.2 H1 → va_S A H0 H1 locs1 → W p l e R s m args below meth c H1 locs1 (cells + k) (slots + n) Q (F0 m (pc + 3) ls rest)) : W p l e R s m args below meth c H locs cells slots Q (F0 m pc ls st) := by
  have hFc := hH.in hS hA
  intro T' hT X'
  obtain ⟨v, st₀, t, T2, L, k, n, h0, X2, hL, e1, e2, ⟨⟨u, hv, hp, hb⟩, hz, hk⟩, st⟩ := hr T' hT X'
  cases hv
  rw [h0] at hz hk
  have hB : HT D cs (AT T O X H.size) u.1 u.2.1 u.2.2 t.heap := hb
  rw [← e1] at hB hz
  obtain ⟨t2, a1, b1⟩ := kk k n u T2.heap (locs ++ L) hp (hB.weaken hFc) ⟨Nat.le_trans hS.1 hz, fun q h1 h2 => by rw [e1, hk q (Nat.lt_of_lt_of_le h1 hS.1) (fun z => h2 (hFc q z))]; exact hS.2.1 q h1 h2, fun q hq => by
      rcases List.mem_append.mp hq with h | h
      · exact hS.2.2 q h
      · exact hFc _ (hL q h)⟩ T2 rfl X2
  exact ⟨t2, st t2 a1, b1⟩
theorem te_iD {post : Nat → Nat → Int32 → TX → Prop} {v : Int32} (hx : p.tables.exec = Jvm.exec) (hb : c.code = cc) (hr : meth.sig.returnType = some .int) (hlocks : meth.locks = false) (hH : HT D cs A T O X H) (hS : va_S A s.heap H locs) (hp : post cells slots v (T, O, X)) (hdg : decode cc pc = .ok (.ireturn, 1)) : W p l e R s m args below meth c H locs cells slots (MQD below (fun k n => Ti D cs (post k n) A) args s A) (F0 m pc ls [.int v]) :=
  W.imp (fun _ h => ⟨cells, slots, h⟩) (te_i (post := post cells slots) hx hb hr hlocks hH hS hp hdg)
theorem te_vD {post : Nat → Nat → TX → Prop} (hx : p.tables.exec = Jvm.exec) (hb : c.code = cc) (hr : meth.sig.returnType = none) (hlocks : meth.locks = false) (hH : HT D cs A T O X H) (hS : va_S A s.heap H locs) (hp : post cells slots (T, O, X)) (hdg : decode cc pc = .ok (.return_, 1)) : W p l e R s m args below meth c H locs cells slots (MQD below (fun k n => Tv D cs (post k n) A) args s A) (F0 m pc ls []) :=
  W.imp (fun _ h => ⟨cells, slots, h⟩) (te_v (post := post cells slots) hx hb hr hlocks hH hS hp hdg)
theorem te_ra {post : TX × Nat → Prop} {v : Nat} {ty : FieldType} (hx : p.tables.exec = Jvm.exec) (hb : c.code = cc) (hr : meth.sig.returnType = some (.array ty)) (hlocks : meth.locks = false) (hH : HT D cs A T O X H) (hS : va_S A s.heap H locs) (hp : post ((T, O, X), v)) (hdg : decode cc pc = .ok (.areturn, 1)) : W p l e R s m args below meth c H locs cells slots (MQ below (Tr D cs post A) args s cells slots A) (F0 m pc ls [.ref v]) :=
  W.aret hx hb hr (Or.inr ⟨ty, rfl⟩) (Or.inr ⟨v, rfl⟩) (fun t ht _ => ⟨⟨((T, O, X), v), v, rfl, hp, rfl, by show HT D cs A T O X t.heap; rw [ht]; exact hH⟩, hS.F ht⟩) hS.2.2 hdg hlocks
end ThDyn
theorem dX7_go_0 : decode cX7_go 0 = .ok (.aload_n 0, 1) := by decide +kernel
theorem dX7_go_1 : decode cX7_go 1 = .ok (.aload_n 0, 1) := by decide +kernel
theorem dX7_go_2 : decode cX7_go 2 = .ok (.getfield 22, 3) := by decide +kernel
theorem dX7_go_5 : decode cX7_go 5 = .ok (.putfield 19, 3) := by decide +kernel
theorem dX7_go_8 : decode cX7_go 8 = .ok (.aload_n 0, 1) := by decide +kernel
theorem dX7_go_9 : decode cX7_go 9 = .ok (.getfield 19, 3) := by decide +kernel
theorem dX7_go_12 : decode cX7_go 12 = .ok (.aload_n 0, 1) := by decide +kernel
theorem dX7_go_13 : decode cX7_go 13 = .ok (.getfield 15, 3) := by decide +kernel
theorem dX7_go_16 : decode cX7_go 16 = .ok (.if_icmp .ge 44, 3) := by decide +kernel
theorem dX7_go_19 : decode cX7_go 19 = .ok (.aload_n 0, 1) := by decide +kernel
theorem dX7_go_20 : decode cX7_go 20 = .ok (.getfield 9, 3) := by decide +kernel
theorem dX7_go_23 : decode cX7_go 23 = .ok (.aload_n 0, 1) := by decide +kernel
theorem dX7_go_24 : decode cX7_go 24 = .ok (.getfield 19, 3) := by decide +kernel
theorem dX7_go_27 : decode cX7_go 27 = .ok (.baload, 1) := by decide +kernel
theorem dX7_go_28 : decode cX7_go 28 = .ok (.bipush 10, 2) := by decide +kernel
theorem dX7_go_30 : decode cX7_go 30 = .ok (.if_icmp .eq 17, 3) := by decide +kernel
theorem dX7_go_33 : decode cX7_go 33 = .ok (.aload_n 0, 1) := by decide +kernel
theorem dX7_go_34 : decode cX7_go 34 = .ok (.getfield 9, 3) := by decide +kernel
theorem dX7_go_37 : decode cX7_go 37 = .ok (.aload_n 0, 1) := by decide +kernel
theorem dX7_go_38 : decode cX7_go 38 = .ok (.getfield 19, 3) := by decide +kernel
theorem dX7_go_41 : decode cX7_go 41 = .ok (.baload, 1) := by decide +kernel
theorem dX7_go_42 : decode cX7_go 42 = .ok (.bipush 32, 2) := by decide +kernel
theorem dX7_go_44 : decode cX7_go 44 = .ok (.if_icmp .ne 16, 3) := by decide +kernel
theorem dX7_go_47 : decode cX7_go 47 = .ok (.aload_n 0, 1) := by decide +kernel
theorem dX7_go_48 : decode cX7_go 48 = .ok (.dup, 1) := by decide +kernel
theorem dX7_go_49 : decode cX7_go 49 = .ok (.getfield 19, 3) := by decide +kernel
theorem dX7_go_52 : decode cX7_go 52 = .ok (.iconst 1, 1) := by decide +kernel
theorem dX7_go_53 : decode cX7_go 53 = .ok (.iadd, 1) := by decide +kernel
theorem dX7_go_54 : decode cX7_go 54 = .ok (.putfield 19, 3) := by decide +kernel
theorem dX7_go_57 : decode cX7_go 57 = .ok (.goto (-49), 3) := by decide +kernel
theorem dX7_go_60 : decode cX7_go 60 = .ok (.aload_n 0, 1) := by decide +kernel
theorem dX7_go_61 : decode cX7_go 61 = .ok (.aload_n 0, 1) := by decide +kernel
theorem dX7_go_62 : decode cX7_go 62 = .ok (.getfield 19, 3) := by decide +kernel
theorem dX7_go_65 : decode cX7_go 65 = .ok (.putfield 22, 3) := by decide +kernel
theorem dX7_go_68 : decode cX7_go 68 = .ok (.aload_n 0, 1) := by decide +kernel
theorem dX7_go_69 : decode cX7_go 69 = .ok (.getfield 19, 3) := by decide +kernel
theorem dX7_go_72 : decode cX7_go 72 = .ok (.aload_n 0, 1) := by decide +kernel
theorem dX7_go_73 : decode cX7_go 73 = .ok (.getfield 15, 3) := by decide +kernel
theorem dX7_go_76 : decode cX7_go 76 = .ok (.if_icmp .lt 11, 3) := by decide +kernel
theorem dX7_go_79 : decode cX7_go 79 = .ok (.aload_n 0, 1) := by decide +kernel
theorem dX7_go_80 : decode cX7_go 80 = .ok (.iconst 0, 1) := by decide +kernel
theorem dX7_go_81 : decode cX7_go 81 = .ok (.putfield 25, 3) := by decide +kernel
theorem dX7_go_84 : decode cX7_go 84 = .ok (.goto 219, 3) := by decide +kernel
theorem dX7_go_87 : decode cX7_go 87 = .ok (.aload_n 0, 1) := by decide +kernel
theorem dX7_go_88 : decode cX7_go 88 = .ok (.getfield 9, 3) := by decide +kernel
theorem dX7_go_91 : decode cX7_go 91 = .ok (.aload_n 0, 1) := by decide +kernel
theorem dX7_go_92 : decode cX7_go 92 = .ok (.getfield 19, 3) := by decide +kernel
theorem dX7_go_95 : decode cX7_go 95 = .ok (.baload, 1) := by decide +kernel
theorem dX7_go_96 : decode cX7_go 96 = .ok (.invokestatic 46, 3) := by decide +kernel
theorem dX7_go_99 : decode cX7_go 99 = .ok (.ifCond .eq 47, 3) := by decide +kernel
theorem dX7_go_102 : decode cX7_go 102 = .ok (.aload_n 0, 1) := by decide +kernel
theorem dX7_go_103 : decode cX7_go 103 = .ok (.iconst 1, 1) := by decide +kernel
theorem dX7_go_104 : decode cX7_go 104 = .ok (.putfield 25, 3) := by decide +kernel
theorem dX7_go_107 : decode cX7_go 107 = .ok (.aload_n 0, 1) := by decide +kernel
theorem dX7_go_108 : decode cX7_go 108 = .ok (.getfield 22, 3) := by decide +kernel
theorem dX7_go_111 : decode cX7_go 111 = .ok (.aload_n 0, 1) := by decide +kernel
theorem dX7_go_112 : decode cX7_go 112 = .ok (.getfield 15, 3) := by decide +kernel
theorem dX7_go_115 : decode cX7_go 115 = .ok (.if_icmp .ge 188, 3) := by decide +kernel
theorem dX7_go_118 : decode cX7_go 118 = .ok (.aload_n 0, 1) := by decide +kernel
theorem dX7_go_119 : decode cX7_go 119 = .ok (.getfield 9, 3) := by decide +kernel
theorem dX7_go_122 : decode cX7_go 122 = .ok (.aload_n 0, 1) := by decide +kernel
theorem dX7_go_123 : decode cX7_go 123 = .ok (.getfield 22, 3) := by decide +kernel
theorem dX7_go_126 : decode cX7_go 126 = .ok (.baload, 1) := by decide +kernel
theorem dX7_go_127 : decode cX7_go 127 = .ok (.invokestatic 46, 3) := by decide +kernel
theorem dX7_go_130 : decode cX7_go 130 = .ok (.ifCond .eq 173, 3) := by decide +kernel
theorem dX7_go_133 : decode cX7_go 133 = .ok (.aload_n 0, 1) := by decide +kernel
theorem dX7_go_134 : decode cX7_go 134 = .ok (.dup, 1) := by decide +kernel
theorem dX7_go_135 : decode cX7_go 135 = .ok (.getfield 22, 3) := by decide +kernel
theorem dX7_go_138 : decode cX7_go 138 = .ok (.iconst 1, 1) := by decide +kernel
theorem dX7_go_139 : decode cX7_go 139 = .ok (.iadd, 1) := by decide +kernel
theorem dX7_go_140 : decode cX7_go 140 = .ok (.putfield 22, 3) := by decide +kernel
theorem dX7_go_143 : decode cX7_go 143 = .ok (.goto (-36), 3) := by decide +kernel
theorem dX7_go_146 : decode cX7_go 146 = .ok (.aload_n 0, 1) := by decide +kernel
theorem dX7_go_147 : decode cX7_go 147 = .ok (.getfield 9, 3) := by decide +kernel
theorem dX7_go_150 : decode cX7_go 150 = .ok (.aload_n 0, 1) := by decide +kernel
theorem dX7_go_151 : decode cX7_go 151 = .ok (.getfield 19, 3) := by decide +kernel
theorem dX7_go_154 : decode cX7_go 154 = .ok (.baload, 1) := by decide +kernel
theorem dX7_go_155 : decode cX7_go 155 = .ok (.invokestatic 50, 3) := by decide +kernel
theorem dX7_go_158 : decode cX7_go 158 = .ok (.ifCond .eq 96, 3) := by decide +kernel
theorem dX7_go_161 : decode cX7_go 161 = .ok (.aload_n 0, 1) := by decide +kernel
theorem dX7_go_162 : decode cX7_go 162 = .ok (.iconst 0, 1) := by decide +kernel
theorem dX7_go_163 : decode cX7_go 163 = .ok (.putfield 28, 3) := by decide +kernel
theorem dX7_go_166 : decode cX7_go 166 = .ok (.aload_n 0, 1) := by decide +kernel
theorem dX7_go_167 : decode cX7_go 167 = .ok (.getfield 22, 3) := by decide +kernel
theorem dX7_go_170 : decode cX7_go 170 = .ok (.aload_n 0, 1) := by decide +kernel
theorem dX7_go_171 : decode cX7_go 171 = .ok (.getfield 15, 3) := by decide +kernel
theorem dX7_go_174 : decode cX7_go 174 = .ok (.if_icmp .ge 55, 3) := by decide +kernel
theorem dX7_go_177 : decode cX7_go 177 = .ok (.aload_n 0, 1) := by decide +kernel
theorem dX7_go_178 : decode cX7_go 178 = .ok (.getfield 9, 3) := by decide +kernel
theorem dX7_go_181 : decode cX7_go 181 = .ok (.aload_n 0, 1) := by decide +kernel
theorem dX7_go_182 : decode cX7_go 182 = .ok (.getfield 22, 3) := by decide +kernel
theorem dX7_go_185 : decode cX7_go 185 = .ok (.baload, 1) := by decide +kernel
theorem dX7_go_186 : decode cX7_go 186 = .ok (.invokestatic 50, 3) := by decide +kernel
theorem dX7_go_189 : decode cX7_go 189 = .ok (.ifCond .eq 40, 3) := by decide +kernel
theorem dX7_go_192 : decode cX7_go 192 = .ok (.aload_n 0, 1) := by decide +kernel
theorem dX7_go_193 : decode cX7_go 193 = .ok (.aload_n 0, 1) := by decide +kernel
theorem dX7_go_194 : decode cX7_go 194 = .ok (.getfield 28, 3) := by decide +kernel
theorem dX7_go_197 : decode cX7_go 197 = .ok (.bipush 10, 2) := by decide +kernel
theorem dX7_go_199 : decode cX7_go 199 = .ok (.imul, 1) := by decide +kernel
theorem dX7_go_200 : decode cX7_go 200 = .ok (.aload_n 0, 1) := by decide +kernel
theorem dX7_go_201 : decode cX7_go 201 = .ok (.getfield 9, 3) := by decide +kernel
theorem dX7_go_204 : decode cX7_go 204 = .ok (.aload_n 0, 1) := by decide +kernel
theorem dX7_go_205 : decode cX7_go 205 = .ok (.getfield 22, 3) := by decide +kernel
theorem dX7_go_208 : decode cX7_go 208 = .ok (.baload, 1) := by decide +kernel
theorem dX7_go_209 : decode cX7_go 209 = .ok (.bipush 48, 2) := by decide +kernel
theorem dX7_go_211 : decode cX7_go 211 = .ok (.isub, 1) := by decide +kernel
theorem dX7_go_212 : decode cX7_go 212 = .ok (.iadd, 1) := by decide +kernel
theorem dX7_go_213 : decode cX7_go 213 = .ok (.putfield 28, 3) := by decide +kernel
theorem dX7_go_216 : decode cX7_go 216 = .ok (.aload_n 0, 1) := by decide +kernel
theorem dX7_go_217 : decode cX7_go 217 = .ok (.dup, 1) := by decide +kernel
theorem dX7_go_218 : decode cX7_go 218 = .ok (.getfield 22, 3) := by decide +kernel
theorem dX7_go_221 : decode cX7_go 221 = .ok (.iconst 1, 1) := by decide +kernel
theorem dX7_go_222 : decode cX7_go 222 = .ok (.iadd, 1) := by decide +kernel
theorem dX7_go_223 : decode cX7_go 223 = .ok (.putfield 22, 3) := by decide +kernel
theorem dX7_go_226 : decode cX7_go 226 = .ok (.goto (-60), 3) := by decide +kernel
theorem dX7_go_229 : decode cX7_go 229 = .ok (.aload_n 0, 1) := by decide +kernel
theorem dX7_go_230 : decode cX7_go 230 = .ok (.aload_n 0, 1) := by decide +kernel
theorem dX7_go_231 : decode cX7_go 231 = .ok (.getfield 22, 3) := by decide +kernel
theorem dX7_go_234 : decode cX7_go 234 = .ok (.aload_n 0, 1) := by decide +kernel
theorem dX7_go_235 : decode cX7_go 235 = .ok (.getfield 19, 3) := by decide +kernel
theorem dX7_go_238 : decode cX7_go 238 = .ok (.isub, 1) := by decide +kernel
theorem dX7_go_239 : decode cX7_go 239 = .ok (.iconst 3, 1) := by decide +kernel
theorem dX7_go_240 : decode cX7_go 240 = .ok (.if_icmp .gt 7, 3) := by decide +kernel
theorem dX7_go_243 : decode cX7_go 243 = .ok (.iconst 2, 1) := by decide +kernel
theorem dX7_go_244 : decode cX7_go 244 = .ok (.goto 4, 3) := by decide +kernel
theorem dX7_go_247 : decode cX7_go 247 = .ok (.iconst 4, 1) := by decide +kernel
theorem dX7_go_248 : decode cX7_go 248 = .ok (.putfield 25, 3) := by decide +kernel
theorem dX7_go_251 : decode cX7_go 251 = .ok (.goto 52, 3) := by decide +kernel
theorem dX7_go_254 : decode cX7_go 254 = .ok (.aload_n 0, 1) := by decide +kernel
theorem dX7_go_255 : decode cX7_go 255 = .ok (.aload_n 0, 1) := by decide +kernel
theorem dX7_go_256 : decode cX7_go 256 = .ok (.getfield 9, 3) := by decide +kernel
theorem dX7_go_259 : decode cX7_go 259 = .ok (.aload_n 0, 1) := by decide +kernel
theorem dX7_go_260 : decode cX7_go 260 = .ok (.getfield 19, 3) := by decide +kernel
theorem dX7_go_263 : decode cX7_go 263 = .ok (.baload, 1) := by decide +kernel
theorem dX7_go_264 : decode cX7_go 264 = .ok (.sipush 255, 3) := by decide +kernel
theorem dX7_go_267 : decode cX7_go 267 = .ok (.iand, 1) := by decide +kernel
theorem dX7_go_268 : decode cX7_go 268 = .ok (.putfield 28, 3) := by decide +kernel
theorem dX7_go_271 : decode cX7_go 271 = .ok (.aload_n 0, 1) := by decide +kernel
theorem dX7_go_272 : decode cX7_go 272 = .ok (.ldc 53, 2) := by decide +kernel
theorem dX7_go_274 : decode cX7_go 274 = .ok (.aload_n 0, 1) := by decide +kernel
theorem dX7_go_275 : decode cX7_go 275 = .ok (.getfield 28, 3) := by decide +kernel
theorem dX7_go_278 : decode cX7_go 278 = .ok (.i2c, 1) := by decide +kernel
theorem dX7_go_279 : decode cX7_go 279 = .ok (.invokevirtual 55, 3) := by decide +kernel
theorem dX7_go_282 : decode cX7_go 282 = .ok (.ifCond .lt 7, 3) := by decide +kernel
theorem dX7_go_285 : decode cX7_go 285 = .ok (.iconst 3, 1) := by decide +kernel
theorem dX7_go_286 : decode cX7_go 286 = .ok (.goto 4, 3) := by decide +kernel
theorem dX7_go_289 : decode cX7_go 289 = .ok (.iconst 4, 1) := by decide +kernel
theorem dX7_go_290 : decode cX7_go 290 = .ok (.putfield 25, 3) := by decide +kernel
theorem dX7_go_293 : decode cX7_go 293 = .ok (.aload_n 0, 1) := by decide +kernel
theorem dX7_go_294 : decode cX7_go 294 = .ok (.dup, 1) := by decide +kernel
theorem dX7_go_295 : decode cX7_go 295 = .ok (.getfield 22, 3) := by decide +kernel
theorem dX7_go_298 : decode cX7_go 298 = .ok (.iconst 1, 1) := by decide +kernel
theorem dX7_go_299 : decode cX7_go 299 = .ok (.iadd, 1) := by decide +kernel
theorem dX7_go_300 : decode cX7_go 300 = .ok (.putfield 22, 3) := by decide +kernel
theorem dX7_go_303 : decode cX7_go 303 = .ok (.return_, 1) := by decide +kernel
theorem dX7_isDigit_0 : decode cX7_isDigit 0 = .ok (.iload_n 0, 1) := by decide +kernel
theorem dX7_isDigit_1 : decode cX7_isDigit 1 = .ok (.bipush 48, 2) := by decide +kernel
theorem dX7_isDigit_3 : decode cX7_isDigit 3 = .ok (.if_icmp .lt 13, 3) := by decide +kernel
theorem dX7_isDigit_6 : decode cX7_isDigit 6 = .ok (.iload_n 0, 1) := by decide +kernel
theorem dX7_isDigit_7 : decode cX7_isDigit 7 = .ok (.bipush 57, 2) := by decide +kernel
theorem dX7_isDigit_9 : decode cX7_isDigit 9 = .ok (.if_icmp .gt 7, 3) := by decide +kernel
theorem dX7_isDigit_12 : decode cX7_isDigit 12 = .ok (.iconst 1, 1) := by decide +kernel
theorem dX7_isDigit_13 : decode cX7_isDigit 13 = .ok (.goto 4, 3) := by decide +kernel
theorem dX7_isDigit_16 : decode cX7_isDigit 16 = .ok (.iconst 0, 1) := by decide +kernel
theorem dX7_isDigit_17 : decode cX7_isDigit 17 = .ok (.ireturn, 1) := by decide +kernel
theorem dX7_isLetter_0 : decode cX7_isLetter 0 = .ok (.iload_n 0, 1) := by decide +kernel
theorem dX7_isLetter_1 : decode cX7_isLetter 1 = .ok (.bipush 97, 2) := by decide +kernel
theorem dX7_isLetter_3 : decode cX7_isLetter 3 = .ok (.if_icmp .lt 13, 3) := by decide +kernel
theorem dX7_isLetter_6 : decode cX7_isLetter 6 = .ok (.iload_n 0, 1) := by decide +kernel
theorem dX7_isLetter_7 : decode cX7_isLetter 7 = .ok (.bipush 122, 2) := by decide +kernel
theorem dX7_isLetter_9 : decode cX7_isLetter 9 = .ok (.if_icmp .gt 7, 3) := by decide +kernel
theorem dX7_isLetter_12 : decode cX7_isLetter 12 = .ok (.iconst 1, 1) := by decide +kernel
theorem dX7_isLetter_13 : decode cX7_isLetter 13 = .ok (.goto 4, 3) := by decide +kernel
theorem dX7_isLetter_16 : decode cX7_isLetter 16 = .ok (.iconst 0, 1) := by decide +kernel
theorem dX7_isLetter_17 : decode cX7_isLetter 17 = .ok (.ireturn, 1) := by decide +kernel
theorem kw_3 : Cond.initialized "FootholdWall$Tokens" ∈ gw := gw_of (tb_of 3 (by decide +kernel)) (by decide +kernel)
theorem kw_44 : Cond.fieldLink "FootholdWall$Tokens" 9 "FootholdWall$Tokens" "text" "[B" ∈ gw := gw_of (tb_of 44 (by decide +kernel)) (by decide +kernel)
theorem kw_45 : Cond.fieldLink "FootholdWall$Tokens" 15 "FootholdWall$Tokens" "length" "I" ∈ gw := gw_of (tb_of 45 (by decide +kernel)) (by decide +kernel)
theorem kw_46 : Cond.fieldLink "FootholdWall$Tokens" 19 "FootholdWall$Tokens" "start" "I" ∈ gw := gw_of (tb_of 46 (by decide +kernel)) (by decide +kernel)
theorem kw_47 : Cond.fieldLink "FootholdWall$Tokens" 22 "FootholdWall$Tokens" "end" "I" ∈ gw := gw_of (tb_of 47 (by decide +kernel)) (by decide +kernel)
theorem kw_48 : Cond.fieldLink "FootholdWall$Tokens" 25 "FootholdWall$Tokens" "kind" "I" ∈ gw := gw_of (tb_of 48 (by decide +kernel)) (by decide +kernel)
theorem kw_51 : Cond.fieldLink "FootholdWall$Tokens" 28 "FootholdWall$Tokens" "value" "I" ∈ gw := gw_of (tb_of 51 (by decide +kernel)) (by decide +kernel)
theorem kw_456 : Cond.methodLink "FootholdWall$Tokens" 46 yX7_isLetter ∈ gw := gw_of (tb_of 456 (by decide +kernel)) (by decide +kernel)
theorem kw_457 : Cond.static yX7_isLetter ∈ gw := gw_of (tb_of 457 (by decide +kernel)) (by decide +kernel)
theorem kw_458 : Cond.code yX7_isLetter cX7_isLetter 1 (some (.boolean)) ∈ gw := gw_of (tb_of 458 (by decide +kernel)) (by decide +kernel)
theorem kw_459 : Cond.methodLink "FootholdWall$Tokens" 50 yX7_isDigit ∈ gw := gw_of (tb_of 459 (by decide +kernel)) (by decide +kernel)
theorem kw_460 : Cond.static yX7_isDigit ∈ gw := gw_of (tb_of 460 (by decide +kernel)) (by decide +kernel)
theorem kw_461 : Cond.code yX7_isDigit cX7_isDigit 1 (some (.boolean)) ∈ gw := gw_of (tb_of 461 (by decide +kernel)) (by decide +kernel)
theorem kw_463 : Cond.methodLink "FootholdWall$Tokens" 55 yJ0_indexOf_0f7a4 ∈ gw := gw_of (tb_of 463 (by decide +kernel)) (by decide +kernel)
theorem kw_464 : Cond.instanceMethod yJ0_indexOf_0f7a4 ∈ gw := gw_of (tb_of 464 (by decide +kernel)) (by decide +kernel)
theorem kw_465 : Cond.selects "java/lang/String" yJ0_indexOf_0f7a4 yJ0_indexOf_0f7a4 ∈ gw := gw_of (tb_of 465 (by decide +kernel)) (by decide +kernel)
theorem kw_466 : Cond.code yJ0_indexOf_0f7a4 cJ0_indexOf_0f7a4 2 (some (.int)) ∈ gw := gw_of (tb_of 466 (by decide +kernel)) (by decide +kernel)
set_option maxHeartbeats 4000000 in
set_option maxRecDepth 100000 in
theorem s_Tok_isLetter (l : Launch) (D : va_G) (cs : CS) (kf : KF) (T : TF) (O : List Nat) (X : va_W) (x0 : Int32)  (hO : okO T O []) : TK l D cs kf yX7_isLetter cX7_isLetter 1 (some (.boolean)) { frames := 0, cells := 0, slots := 0, locals := 0 } [.int x0] T O X (Ti D cs (fun r u => u = (T, O, X) ∧ 0 ≤ r.toInt ∧ r.toInt ≤ 1 ∧ (r.toInt = 0 ∨ (97 ≤ x0.toInt ∧ x0.toInt ≤ 122)) ∧ (¬ r.toInt = 0 ∨ x0.toInt < 97 ∨ 122 < x0.toInt))) := by
  refine tk_of (by decide) (Nat.le_of_ble_eq_true rfl) (fun p e s m below meth c ls A H locs hx hb hr hml hown hts hlocks hnm hkb hH hS hA hOX hks hE hl => ?_)
  have hown : s.vm.findClass RX7 = some m.cls := hown
  have hl : lv_has ls 1 [(0, .int x0)] := hl
  refine lv_iload_n hx hb dX7_isLetter_0 rfl (lv_at hl 0 rfl) ?_
  refine lv_bipush (v := 97) hx hb dX7_isLetter_1 (by decide) ?_
  refine lv_icmp_lt (tgt := 16) hx hb dX7_isLetter_3 (by decide) (fun c3 => ?_) (fun c3 => ?_)
  · skip
    have tc3 := f_lt (k := 97) (by decide) c3
    refine lv_iconst (v := 0) hx hb dX7_isLetter_16 (by decide) ?_
    have z9 : (0 : Int32).toInt = 0 := by decide
    exact te_z hx hb hr hlocks (by rfl) hH hS (⟨rfl, by decide, by decide, by omega, by omega⟩) dX7_isLetter_17
  · skip
    have tc3 := f_nlt (k := 97) (by decide) c3
    refine lv_iload_n hx hb dX7_isLetter_6 rfl (lv_at hl 0 rfl) ?_
    refine lv_bipush (v := 122) hx hb dX7_isLetter_7 (by decide) ?_
    refine lv_icmp_gt (tgt := 16) hx hb dX7_isLetter_9 (by decide) (fun c9 => ?_) (fun c9 => ?_)
    · skip
      have tc9 := f_gt (k := 122) (by decide) c9
      refine lv_iconst (v := 0) hx hb dX7_isLetter_16 (by decide) ?_
      have z9 : (0 : Int32).toInt = 0 := by decide
      exact te_z hx hb hr hlocks (by rfl) hH hS (⟨rfl, by decide, by decide, by omega, by omega⟩) dX7_isLetter_17
    · skip
      have tc9 := f_ngt (k := 122) (by decide) c9
      refine lv_iconst (v := 1) hx hb dX7_isLetter_12 (by decide) ?_
      refine lv_goto (tgt := 17) hx hb dX7_isLetter_13 (by decide) ?_
      have z9 : (1 : Int32).toInt = 1 := by decide
      exact te_z hx hb hr hlocks (by rfl) hH hS (⟨rfl, by decide, by decide, by omega, by omega⟩) dX7_isLetter_17
set_option maxHeartbeats 4000000 in
set_option maxRecDepth 100000 in
theorem s_Tok_isDigit (l : Launch) (D : va_G) (cs : CS) (kf : KF) (T : TF) (O : List Nat) (X : va_W) (x0 : Int32)  (hO : okO T O []) : TK l D cs kf yX7_isDigit cX7_isDigit 1 (some (.boolean)) { frames := 0, cells := 0, slots := 0, locals := 0 } [.int x0] T O X (Ti D cs (fun r u => u = (T, O, X) ∧ 0 ≤ r.toInt ∧ r.toInt ≤ 1 ∧ (r.toInt = 0 ∨ (48 ≤ x0.toInt ∧ x0.toInt ≤ 57)) ∧ (¬ r.toInt = 0 ∨ x0.toInt < 48 ∨ 57 < x0.toInt))) := by
  refine tk_of (by decide) (Nat.le_of_ble_eq_true rfl) (fun p e s m below meth c ls A H locs hx hb hr hml hown hts hlocks hnm hkb hH hS hA hOX hks hE hl => ?_)
  have hown : s.vm.findClass RX7 = some m.cls := hown
  have hl : lv_has ls 1 [(0, .int x0)] := hl
  refine lv_iload_n hx hb dX7_isDigit_0 rfl (lv_at hl 0 rfl) ?_
  refine lv_bipush (v := 48) hx hb dX7_isDigit_1 (by decide) ?_
  refine lv_icmp_lt (tgt := 16) hx hb dX7_isDigit_3 (by decide) (fun c3 => ?_) (fun c3 => ?_)
  · skip
    have tc3 := f_lt (k := 48) (by decide) c3
    refine lv_iconst (v := 0) hx hb dX7_isDigit_16 (by decide) ?_
    have z9 : (0 : Int32).toInt = 0 := by decide
    exact te_z hx hb hr hlocks (by rfl) hH hS (⟨rfl, by decide, by decide, by omega, by omega⟩) dX7_isDigit_17
  · skip
    have tc3 := f_nlt (k := 48) (by decide) c3
    refine lv_iload_n hx hb dX7_isDigit_6 rfl (lv_at hl 0 rfl) ?_
    refine lv_bipush (v := 57) hx hb dX7_isDigit_7 (by decide) ?_
    refine lv_icmp_gt (tgt := 16) hx hb dX7_isDigit_9 (by decide) (fun c9 => ?_) (fun c9 => ?_)
    · skip
      have tc9 := f_gt (k := 57) (by decide) c9
      refine lv_iconst (v := 0) hx hb dX7_isDigit_16 (by decide) ?_
      have z9 : (0 : Int32).toInt = 0 := by decide
      exact te_z hx hb hr hlocks (by rfl) hH hS (⟨rfl, by decide, by decide, by omega, by omega⟩) dX7_isDigit_17
    · skip
      have tc9 := f_ngt (k := 57) (by decide) c9
      refine lv_iconst (v := 1) hx hb dX7_isDigit_12 (by decide) ?_
      refine lv_goto (tgt := 17) hx hb dX7_isDigit_13 (by decide) ?_
      have z9 : (1 : Int32).toInt = 1 := by decide
      exact te_z hx hb hr hlocks (by rfl) hH hS (⟨rfl, by decide, by decide, by omega, by omega⟩) dX7_isDigit_17
set_option maxHeartbeats 4000000 in
set_option maxRecDepth 100000 in
theorem s_Tok_go (l : Launch) (D : va_G) (cs : CS) (kf : KF) (T : TF) (O : List Nat) (X : va_W) (a0 : Nat) (y0 : Nat) (y1 : Int32) (y2 : Int32) (y3 : Int32) (y4 : Int32) (y5 : Int32) (y6 : Int32) (y7 : Int32) (ft : Nat → Int32) (t : Tp) (tn : Nat) (t_a0 : T a0 = some (17, 0, 0)) (t_y0 : T y0 = some (0, 900, 0)) (l_y1 : 0 ≤ y1.toInt) (u_y1 : y1.toInt ≤ 900) (l_y2 : 0 ≤ y2.toInt) (u_y2 : y2.toInt ≤ 900) (l_y3 : 0 ≤ y3.toInt) (u_y3 : y3.toInt ≤ 900) (hn : y1.toInt = (tn : Int)) (htb : TB ft t) (he : y3.toInt ≤ (tn : Int)) (hO : okO T (a0 :: y0 :: O) []) : TK l D cs kf yX7_go cX7_go 1 none { frames := 4, cells := 0, slots := 0, locals := 91 } [.ref a0] T (a0 :: y0 :: O) ((a0, .inr (7, [.ref y0, .int y1, .int y2, .int y3, .int y4, .int y5, .int y6, .int y7])) :: (y0, .inl (cs.1, 900, .inl ft)) :: X) (Tv D cs (fun u => ∃ (n0_2 : Int32) (n0_3 : Int32) (n0_4 : Int32) (n0_5 : Int32), u = (T, a0 :: y0 :: O, (a0, .inr (7, [.ref y0, .int y1, .int n0_2, .int n0_3, .int n0_4, .int n0_5, .int y6, .int y7])) :: (y0, .inl (cs.1, 900, .inl ft)) :: X) ∧ (TSS t tn n0_2 n0_3 n0_4 n0_5) ∧ (n0_2.toInt.toNat = nxs t tn y3.toInt.toNat) ∧ (y3.toInt ≤ n0_2.toInt ∧ n0_2.toInt ≤ n0_3.toInt ∧ n0_3.toInt ≤ y1.toInt))) := by
  refine tk_of (by decide) (Nat.le_of_ble_eq_true rfl) (fun p e s m below meth c ls A H locs hx hb hr hml hown hts hlocks hnm hkb hH hS hA hOX hks hE hl => ?_)
  have hown : s.vm.findClass RX7 = some m.cls := hown
  have hl : lv_has ls 1 [(0, .ref a0)] := hl
  have hOXf := hOX
  refine lv_aload_n hx hb dX7_go_0 rfl (lv_at hl 0 rfl) ?_
  refine lv_aload_n hx hb dX7_go_1 rfl (lv_at hl 0 rfl) ?_
  refine x_getk (ci := 7) (C := RX7) (F := TX7) (N := 8) (v := .int y3) hx hb hts uX7 hown hkb hH 0 rfl rfl 3 (by decide) rfl kw_47 (fun _ h9 => h9) dX7_go_2 ?_
  have J8 : ∀ (n : Nat) (f8_102 : Int32) (H : Heap) (locs : List Loc) (ls : Array Slot), (900 - f8_102.toInt).toNat = n → (0 ≤ f8_102.toInt) → (f8_102.toInt ≤ 900) → (nxs t tn f8_102.toInt.toNat = nxs t tn y3.toInt.toNat) → (y3.toInt ≤ f8_102.toInt ∧ f8_102.toInt ≤ (tn : Int)) → HT D cs A T (a0 :: y0 :: O) ((a0, .inr (7, [.ref y0, .int y1, .int f8_102, .int y3, .int y4, .int y5, .int y6, .int y7])) :: (y0, .inl (cs.1, 900, .inl ft)) :: X) H → va_S A s.heap H locs → lv_has ls 1 [(0, .ref a0)] → W p l e { frames := 4, cells := 0, slots := 0, locals := 91 } s m [.ref a0].toArray below meth c H locs 0 0 (MQ below (Tv D cs (fun u => ∃ (n0_2 : Int32) (n0_3 : Int32) (n0_4 : Int32) (n0_5 : Int32), u = (T, a0 :: y0 :: O, (a0, .inr (7, [.ref y0, .int y1, .int n0_2, .int n0_3, .int n0_4, .int n0_5, .int y6, .int y7])) :: (y0, .inl (cs.1, 900, .inl ft)) :: X) ∧ (TSS t tn n0_2 n0_3 n0_4 n0_5) ∧ (n0_2.toInt.toNat = nxs t tn y3.toInt.toNat) ∧ (y3.toInt ≤ n0_2.toInt ∧ n0_2.toInt ≤ n0_3.toInt ∧ n0_3.toInt ≤ y1.toInt)) A) [.ref a0].toArray s 0 0 A) (F0 m 8 ls []) := by
    intro n
    induction n using Nat.strongRecOn with
    | _ n ih8 =>
      intro f8_102 H locs ls hm8 l_f8_102 u_f8_102 i8 i8b hH hS hl
      refine lv_aload_n hx hb dX7_go_8 rfl (lv_at hl 0 rfl) ?_
      refine x_getk (ci := 7) (C := RX7) (F := TX7) (N := 8) (v := .int f8_102) hx hb hts uX7 hown hkb hH 0 rfl rfl 2 (by decide) rfl kw_46 (fun _ h9 => h9) dX7_go_9 ?_
      refine lv_aload_n hx hb dX7_go_12 rfl (lv_at hl 0 rfl) ?_
      refine x_getk (ci := 7) (C := RX7) (F := TX7) (N := 8) (v := .int y1) hx hb hts uX7 hown hkb hH 0 rfl rfl 1 (by decide) rfl kw_45 (fun _ h9 => h9) dX7_go_13 ?_
      have J60 : ∀  (H : Heap) (locs : List Loc) (ls : Array Slot), (nxs t tn y3.toInt.toNat = f8_102.toInt.toNat) → HT D cs A T (a0 :: y0 :: O) ((a0, .inr (7, [.ref y0, .int y1, .int f8_102, .int y3, .int y4, .int y5, .int y6, .int y7])) :: (y0, .inl (cs.1, 900, .inl ft)) :: X) H → va_S A s.heap H locs → lv_has ls 1 [(0, .ref a0)] → W p l e { frames := 4, cells := 0, slots := 0, locals := 91 } s m [.ref a0].toArray below meth c H locs 0 0 (MQ below (Tv D cs (fun u => ∃ (n0_2 : Int32) (n0_3 : Int32) (n0_4 : Int32) (n0_5 : Int32), u = (T, a0 :: y0 :: O, (a0, .inr (7, [.ref y0, .int y1, .int n0_2, .int n0_3, .int n0_4, .int n0_5, .int y6, .int y7])) :: (y0, .inl (cs.1, 900, .inl ft)) :: X) ∧ (TSS t tn n0_2 n0_3 n0_4 n0_5) ∧ (n0_2.toInt.toNat = nxs t tn y3.toInt.toNat) ∧ (y3.toInt ≤ n0_2.toInt ∧ n0_2.toInt ≤ n0_3.toInt ∧ n0_3.toInt ≤ y1.toInt)) A) [.ref a0].toArray s 0 0 A) (F0 m 60 ls []) := by
        intro  H locs ls i60 hH hS hl
        refine lv_aload_n hx hb dX7_go_60 rfl (lv_at hl 0 rfl) ?_
        refine lv_aload_n hx hb dX7_go_61 rfl (lv_at hl 0 rfl) ?_
        refine x_getk (ci := 7) (C := RX7) (F := TX7) (N := 8) (v := .int f8_102) hx hb hts uX7 hown hkb hH 0 rfl rfl 2 (by decide) rfl kw_46 (fun _ h9 => h9) dX7_go_62 ?_
        refine x_putk (ci := 7) (v := .int f8_102) (ty := tyX7 3) (C := RX7) (F := TX7) (N := 8) hx hb hts uX7 tyX7 tyX7_ok nmX7 hown hkb hH hS 0 rfl rfl 3 (by decide) kw_47 (fun _ h9 => h9) rfl (tyX7_ok 3 (by decide)) rfl rfl (Nat.le_of_ble_eq_true rfl) dX7_go_65 (fun H locs hH hS => ?_)
        have hH : HT D cs A T (a0 :: y0 :: O) ((a0, .inr (7, [.ref y0, .int y1, .int f8_102, .int f8_102, .int y4, .int y5, .int y6, .int y7])) :: (y0, .inl (cs.1, 900, .inl ft)) :: X) H := hH
        refine lv_aload_n hx hb dX7_go_68 rfl (lv_at hl 0 rfl) ?_
        refine x_getk (ci := 7) (C := RX7) (F := TX7) (N := 8) (v := .int f8_102) hx hb hts uX7 hown hkb hH 0 rfl rfl 2 (by decide) rfl kw_46 (fun _ h9 => h9) dX7_go_69 ?_
        refine lv_aload_n hx hb dX7_go_72 rfl (lv_at hl 0 rfl) ?_
        refine x_getk (ci := 7) (C := RX7) (F := TX7) (N := 8) (v := .int y1) hx hb hts uX7 hown hkb hH 0 rfl rfl 1 (by decide) rfl kw_45 (fun _ h9 => h9) dX7_go_73 ?_
        refine lv_icmp_lt (tgt := 87) hx hb dX7_go_76 (by decide) (fun c76 => ?_) (fun c76 => ?_)
        · skip
          have fuc76 := full_i f8_102
          have fvc76 := full_i y1
          have tc76 := g_lt c76
          refine lv_aload_n hx hb dX7_go_87 rfl (lv_at hl 0 rfl) ?_
          refine x_getk (ci := 7) (C := RX7) (F := TX7) (N := 8) (v := .ref y0) hx hb hts uX7 hown hkb hH 0 rfl rfl 0 (by decide) rfl kw_44 (fun _ h9 => h9) dX7_go_88 ?_
          refine lv_aload_n hx hb dX7_go_91 rfl (lv_at hl 0 rfl) ?_
          refine x_getk (ci := 7) (C := RX7) (F := TX7) (N := 8) (v := .int f8_102) hx hb hts uX7 hown hkb hH 0 rfl rfl 2 (by decide) rfl kw_46 (fun _ h9 => h9) dX7_go_92 ?_
          refine xa_bld hx hb hkb hH 1 rfl (by omega) (by omega) dX7_go_95 ?_
          refine lv_topi (fun v95 ev95 => ?_)
          have tv95 : v95 = ft f8_102.toInt.toNat := ev95
          refine tk_i hH hS hA (tr_S (n := 1) (As := [.int v95]) hx hb hml hown hts hkb hH (ox_map hOX rfl) hks hE hS hA (s_Tok_isLetter l D cs kf T (a0 :: y0 :: O) ((a0, .inr (7, [.ref y0, .int y1, .int f8_102, .int f8_102, .int y4, .int y5, .int y6, .int y7])) :: (y0, .inl (cs.1, 900, .inl ft)) :: X) v95  (hO.sub (by decide))) kw_456 kw_457 kw_3 kw_458 (by decide +kernel) ⟨Nat.le_of_ble_eq_true rfl, Nat.le_of_ble_eq_true rfl⟩ rfl rfl hl.1 (Nat.le_of_ble_eq_true rfl) dX7_go_96 ⟨Nat.le_of_ble_eq_true rfl, Nat.le_of_ble_eq_true rfl⟩) (fun v96 u H locs hz9 hH hS => ?_)
          obtain ⟨rfl, l_v96, u_v96, x_v960, x_v961⟩ := hz9
          have hH : HT D cs A T (a0 :: y0 :: O) ((a0, .inr (7, [.ref y0, .int y1, .int f8_102, .int f8_102, .int y4, .int y5, .int y6, .int y7])) :: (y0, .inl (cs.1, 900, .inl ft)) :: X) H := hH
          refine W.widen (k := 0) (n := 0) (Nat.le_of_ble_eq_true rfl) (Nat.le_of_ble_eq_true rfl) ?_
          refine lv_if_eq (tgt := 146) hx hb dX7_go_99 (by decide) (fun c99 => ?_) (fun c99 => ?_)
          · skip
            have tc99 := f_eq (k := 0) (by decide) c99
            refine lv_aload_n hx hb dX7_go_146 rfl (lv_at hl 0 rfl) ?_
            refine x_getk (ci := 7) (C := RX7) (F := TX7) (N := 8) (v := .ref y0) hx hb hts uX7 hown hkb hH 0 rfl rfl 0 (by decide) rfl kw_44 (fun _ h9 => h9) dX7_go_147 ?_
            refine lv_aload_n hx hb dX7_go_150 rfl (lv_at hl 0 rfl) ?_
            refine x_getk (ci := 7) (C := RX7) (F := TX7) (N := 8) (v := .int f8_102) hx hb hts uX7 hown hkb hH 0 rfl rfl 2 (by decide) rfl kw_46 (fun _ h9 => h9) dX7_go_151 ?_
            refine xa_bld hx hb hkb hH 1 rfl (by omega) (by omega) dX7_go_154 ?_
            refine lv_topi (fun v154 ev154 => ?_)
            have tv154 : v154 = ft f8_102.toInt.toNat := ev154
            refine tk_i hH hS hA (tr_S (n := 1) (As := [.int v154]) hx hb hml hown hts hkb hH (ox_map hOX rfl) hks hE hS hA (s_Tok_isDigit l D cs kf T (a0 :: y0 :: O) ((a0, .inr (7, [.ref y0, .int y1, .int f8_102, .int f8_102, .int y4, .int y5, .int y6, .int y7])) :: (y0, .inl (cs.1, 900, .inl ft)) :: X) v154  (hO.sub (by decide))) kw_459 kw_460 kw_3 kw_461 (by decide +kernel) ⟨Nat.le_of_ble_eq_true rfl, Nat.le_of_ble_eq_true rfl⟩ rfl rfl hl.1 (Nat.le_of_ble_eq_true rfl) dX7_go_155 ⟨Nat.le_of_ble_eq_true rfl, Nat.le_of_ble_eq_true rfl⟩) (fun v155 u H locs hz9 hH hS => ?_)
            obtain ⟨rfl, l_v155, u_v155, x_v1550, x_v1551⟩ := hz9
            have hH : HT D cs A T (a0 :: y0 :: O) ((a0, .inr (7, [.ref y0, .int y1, .int f8_102, .int f8_102, .int y4, .int y5, .int y6, .int y7])) :: (y0, .inl (cs.1, 900, .inl ft)) :: X) H := hH
            refine W.widen (k := 0) (n := 0) (Nat.le_of_ble_eq_true rfl) (Nat.le_of_ble_eq_true rfl) ?_
            refine lv_if_eq (tgt := 254) hx hb dX7_go_158 (by decide) (fun c158 => ?_) (fun c158 => ?_)
            · skip
              have tc158 := f_eq (k := 0) (by decide) c158
              refine lv_aload_n hx hb dX7_go_254 rfl (lv_at hl 0 rfl) ?_
              refine lv_aload_n hx hb dX7_go_255 rfl (lv_at hl 0 rfl) ?_
              refine x_getk (ci := 7) (C := RX7) (F := TX7) (N := 8) (v := .ref y0) hx hb hts uX7 hown hkb hH 0 rfl rfl 0 (by decide) rfl kw_44 (fun _ h9 => h9) dX7_go_256 ?_
              refine lv_aload_n hx hb dX7_go_259 rfl (lv_at hl 0 rfl) ?_
              refine x_getk (ci := 7) (C := RX7) (F := TX7) (N := 8) (v := .int f8_102) hx hb hts uX7 hown hkb hH 0 rfl rfl 2 (by decide) rfl kw_46 (fun _ h9 => h9) dX7_go_260 ?_
              refine xa_bld hx hb hkb hH 1 rfl (by omega) (by omega) dX7_go_263 ?_
              refine lv_topi (fun v263 ev263 => ?_)
              have tv263 : v263 = ft f8_102.toInt.toNat := ev263
              refine lv_sipush (v := 255) hx hb dX7_go_264 (by decide) ?_
              refine lv_iand hx hb dX7_go_267 ?_
              refine lv_topi (fun v267 ev267 => ?_)
              have tv267 : 0 ≤ v267.toInt ∧ v267.toInt ≤ 255 := by rw [ev267]; exact and_r (by decide)
              refine x_putk (ci := 7) (v := .int v267) (ty := tyX7 5) (C := RX7) (F := TX7) (N := 8) hx hb hts uX7 tyX7 tyX7_ok nmX7 hown hkb hH hS 0 rfl rfl 5 (by decide) kw_51 (fun _ h9 => h9) rfl (tyX7_ok 5 (by decide)) rfl rfl (Nat.le_of_ble_eq_true rfl) dX7_go_268 (fun H locs hH hS => ?_)
              have hH : HT D cs A T (a0 :: y0 :: O) ((a0, .inr (7, [.ref y0, .int y1, .int f8_102, .int f8_102, .int y4, .int v267, .int y6, .int y7])) :: (y0, .inl (cs.1, 900, .inl ft)) :: X) H := hH
              refine lv_aload_n hx hb dX7_go_271 rfl (lv_at hl 0 rfl) ?_
              refine va_ldcS (q := kf.1 0) hx hb hown (hks ("FootholdWall$Tokens", 53, ";:+-*()[]=<>", 0) (by decide +kernel)) dX7_go_272 ?_
              refine lv_aload_n hx hb dX7_go_274 rfl (lv_at hl 0 rfl) ?_
              refine x_getk (ci := 7) (C := RX7) (F := TX7) (N := 8) (v := .int v267) hx hb hts uX7 hown hkb hH 0 rfl rfl 5 (by decide) rfl kw_51 (fun _ h9 => h9) dX7_go_275 ?_
              refine lv_i2c (v := v267) hx hb dX7_go_278 (i2c_id (by omega) (by omega)) ?_
              refine tk_i hH hS hA (tr_V (n := 1) (As := [.int v267]) hx hb hml hown hts hkb hH (ox_map hOX rfl) hks hE hS hA (s_indexOf1 l D cs kf T (a0 :: y0 :: O) ((a0, .inr (7, [.ref y0, .int y1, .int f8_102, .int f8_102, .int y4, .int v267, .int y6, .int y7])) :: (y0, .inl (cs.1, 900, .inl ft)) :: X) 0 v267 (by decide) (by omega) (by omega) (hO.sub (by decide))) kw_463 kw_464 kw_465 kw_14 kw_466 (by decide +kernel) ⟨Nat.le_of_ble_eq_true rfl, Nat.le_of_ble_eq_true rfl⟩ (vk_recv hE.1 (by decide) hS) rfl rfl hl.1 (Nat.le_of_ble_eq_true rfl) dX7_go_279 ⟨Nat.le_of_ble_eq_true rfl, Nat.le_of_ble_eq_true rfl⟩) (fun v279 u H locs hz9 hH hS => ?_)
              obtain ⟨rfl, l_v279, u_v279, x_v2790⟩ := hz9
              have hH : HT D cs A T (a0 :: y0 :: O) ((a0, .inr (7, [.ref y0, .int y1, .int f8_102, .int f8_102, .int y4, .int v267, .int y6, .int y7])) :: (y0, .inl (cs.1, 900, .inl ft)) :: X) H := hH
              refine W.widen (k := 0) (n := 0) (Nat.le_of_ble_eq_true rfl) (Nat.le_of_ble_eq_true rfl) ?_
              refine lv_if_lt (tgt := 289) hx hb dX7_go_282 (by decide) (fun c282 => ?_) (fun c282 => ?_)
              · skip
                have tc282 := f_lt (k := 0) (by decide) c282
                refine lv_iconst (v := 4) hx hb dX7_go_289 (by decide) ?_
                refine x_putk (ci := 7) (v := .int 4) (ty := tyX7 4) (C := RX7) (F := TX7) (N := 8) hx hb hts uX7 tyX7 tyX7_ok nmX7 hown hkb hH hS 0 rfl rfl 4 (by decide) kw_48 (fun _ h9 => h9) rfl (tyX7_ok 4 (by decide)) rfl rfl (Nat.le_of_ble_eq_true rfl) dX7_go_290 (fun H locs hH hS => ?_)
                have hH : HT D cs A T (a0 :: y0 :: O) ((a0, .inr (7, [.ref y0, .int y1, .int f8_102, .int f8_102, .int 4, .int v267, .int y6, .int y7])) :: (y0, .inl (cs.1, 900, .inl ft)) :: X) H := hH
                refine lv_aload_n hx hb dX7_go_293 rfl (lv_at hl 0 rfl) ?_
                refine lv_dup hx hb dX7_go_294 rfl ?_
                refine x_getk (ci := 7) (C := RX7) (F := TX7) (N := 8) (v := .int f8_102) hx hb hts uX7 hown hkb hH 0 rfl rfl 3 (by decide) rfl kw_47 (fun _ h9 => h9) dX7_go_295 ?_
                refine lv_iconst (v := 1) hx hb dX7_go_298 (by decide) ?_
                refine lv_iadd hx hb dX7_go_299 ?_
                refine lv_topi (fun v299 ev299 => ?_)
                have tv299 : v299.toInt = f8_102.toInt + (1) := by rw [ev299]; exact add_i rfl (by decide : (1 : Int32).toInt = 1) (by omega) (by omega)
                refine x_putk (ci := 7) (v := .int v299) (ty := tyX7 3) (C := RX7) (F := TX7) (N := 8) hx hb hts uX7 tyX7 tyX7_ok nmX7 hown hkb hH hS 0 rfl rfl 3 (by decide) kw_47 (fun _ h9 => h9) rfl (tyX7_ok 3 (by decide)) rfl rfl (Nat.le_of_ble_eq_true rfl) dX7_go_300 (fun H locs hH hS => ?_)
                have hH : HT D cs A T (a0 :: y0 :: O) ((a0, .inr (7, [.ref y0, .int y1, .int f8_102, .int v299, .int 4, .int v267, .int y6, .int y7])) :: (y0, .inl (cs.1, 900, .inl ft)) :: X) H := hH
                have ts9 : TS t tn (nxs t tn y3.toInt.toNat) f8_102 v299 (4 : Int32) v267 := by
                  first | (refine TS_G htb i60 ?_ ?_ tv95 ?_ tv154 ?_ tv263 ev267 x_v2790 ?_ (Or.inr ⟨by decide, by omega⟩) <;> omega)
                have ts8 := ts9.self
                have nb9 := nxs_b (t := t) (n := tn) (e := y3.toInt.toNat) (by omega)
                have z9_4 : (4 : Int32).toInt = 4 := by decide
                have z9_4 : (4 : Int32).toInt = 4 := by decide
                exact te_v hx hb hr hlocks hH hS (⟨f8_102, v299, (4 : Int32), v267, rfl, ts8.1, ts8.2, (by have q9 := ts8.1.b; have q8 := ts8.2; omega)⟩) dX7_go_303
              · skip
                have tc282 := f_nlt (k := 0) (by decide) c282
                refine lv_iconst (v := 3) hx hb dX7_go_285 (by decide) ?_
                refine lv_goto (tgt := 290) hx hb dX7_go_286 (by decide) ?_
                refine x_putk (ci := 7) (v := .int 3) (ty := tyX7 4) (C := RX7) (F := TX7) (N := 8) hx hb hts uX7 tyX7 tyX7_ok nmX7 hown hkb hH hS 0 rfl rfl 4 (by decide) kw_48 (fun _ h9 => h9) rfl (tyX7_ok 4 (by decide)) rfl rfl (Nat.le_of_ble_eq_true rfl) dX7_go_290 (fun H locs hH hS => ?_)
                have hH : HT D cs A T (a0 :: y0 :: O) ((a0, .inr (7, [.ref y0, .int y1, .int f8_102, .int f8_102, .int 3, .int v267, .int y6, .int y7])) :: (y0, .inl (cs.1, 900, .inl ft)) :: X) H := hH
                refine lv_aload_n hx hb dX7_go_293 rfl (lv_at hl 0 rfl) ?_
                refine lv_dup hx hb dX7_go_294 rfl ?_
                refine x_getk (ci := 7) (C := RX7) (F := TX7) (N := 8) (v := .int f8_102) hx hb hts uX7 hown hkb hH 0 rfl rfl 3 (by decide) rfl kw_47 (fun _ h9 => h9) dX7_go_295 ?_
                refine lv_iconst (v := 1) hx hb dX7_go_298 (by decide) ?_
                refine lv_iadd hx hb dX7_go_299 ?_
                refine lv_topi (fun v299 ev299 => ?_)
                have tv299 : v299.toInt = f8_102.toInt + (1) := by rw [ev299]; exact add_i rfl (by decide : (1 : Int32).toInt = 1) (by omega) (by omega)
                refine x_putk (ci := 7) (v := .int v299) (ty := tyX7 3) (C := RX7) (F := TX7) (N := 8) hx hb hts uX7 tyX7 tyX7_ok nmX7 hown hkb hH hS 0 rfl rfl 3 (by decide) kw_47 (fun _ h9 => h9) rfl (tyX7_ok 3 (by decide)) rfl rfl (Nat.le_of_ble_eq_true rfl) dX7_go_300 (fun H locs hH hS => ?_)
                have hH : HT D cs A T (a0 :: y0 :: O) ((a0, .inr (7, [.ref y0, .int y1, .int f8_102, .int v299, .int 3, .int v267, .int y6, .int y7])) :: (y0, .inl (cs.1, 900, .inl ft)) :: X) H := hH
                have ts9 : TS t tn (nxs t tn y3.toInt.toNat) f8_102 v299 (3 : Int32) v267 := by
                  first | (refine TS_G htb i60 ?_ ?_ tv95 ?_ tv154 ?_ tv263 ev267 x_v2790 ?_ (Or.inl ⟨by decide, by omega⟩) <;> omega)
                have ts8 := ts9.self
                have nb9 := nxs_b (t := t) (n := tn) (e := y3.toInt.toNat) (by omega)
                have z9_3 : (3 : Int32).toInt = 3 := by decide
                have z9_3 : (3 : Int32).toInt = 3 := by decide
                exact te_v hx hb hr hlocks hH hS (⟨f8_102, v299, (3 : Int32), v267, rfl, ts8.1, ts8.2, (by have q9 := ts8.1.b; have q8 := ts8.2; omega)⟩) dX7_go_303
            · skip
              have tc158 := f_ne (k := 0) (by decide) c158
              refine lv_aload_n hx hb dX7_go_161 rfl (lv_at hl 0 rfl) ?_
              refine lv_iconst (v := 0) hx hb dX7_go_162 (by decide) ?_
              have J166 : ∀ (n : Nat) (f166_103 : Int32) (f166_105 : Int32) (H : Heap) (locs : List Loc) (ls : Array Slot), (900 - f166_103.toInt).toNat = n → (0 ≤ f166_103.toInt) → (f166_103.toInt ≤ 900) → (run (dgt t) tn f166_103.toInt.toNat = run (dgt t) tn f8_102.toInt.toNat) → (f8_102.toInt ≤ f166_103.toInt ∧ f166_103.toInt ≤ (tn : Int)) → (DV t f8_102 f166_103 f166_105) → HT D cs A T (a0 :: y0 :: O) ((a0, .inr (7, [.ref y0, .int y1, .int f8_102, .int f166_103, .int y4, .int f166_105, .int y6, .int y7])) :: (y0, .inl (cs.1, 900, .inl ft)) :: X) H → va_S A s.heap H locs → lv_has ls 1 [(0, .ref a0)] → W p l e { frames := 4, cells := 0, slots := 0, locals := 91 } s m [.ref a0].toArray below meth c H locs 0 0 (MQ below (Tv D cs (fun u => ∃ (n0_2 : Int32) (n0_3 : Int32) (n0_4 : Int32) (n0_5 : Int32), u = (T, a0 :: y0 :: O, (a0, .inr (7, [.ref y0, .int y1, .int n0_2, .int n0_3, .int n0_4, .int n0_5, .int y6, .int y7])) :: (y0, .inl (cs.1, 900, .inl ft)) :: X) ∧ (TSS t tn n0_2 n0_3 n0_4 n0_5) ∧ (n0_2.toInt.toNat = nxs t tn y3.toInt.toNat) ∧ (y3.toInt ≤ n0_2.toInt ∧ n0_2.toInt ≤ n0_3.toInt ∧ n0_3.toInt ≤ y1.toInt)) A) [.ref a0].toArray s 0 0 A) (F0 m 166 ls []) := by
                intro n
                induction n using Nat.strongRecOn with
                | _ n ih166 =>
                  intro f166_103 f166_105 H locs ls hm166 l_f166_103 u_f166_103 i166 i166b i166v hH hS hl
                  refine lv_aload_n hx hb dX7_go_166 rfl (lv_at hl 0 rfl) ?_
                  refine x_getk (ci := 7) (C := RX7) (F := TX7) (N := 8) (v := .int f166_103) hx hb hts uX7 hown hkb hH 0 rfl rfl 3 (by decide) rfl kw_47 (fun _ h9 => h9) dX7_go_167 ?_
                  refine lv_aload_n hx hb dX7_go_170 rfl (lv_at hl 0 rfl) ?_
                  refine x_getk (ci := 7) (C := RX7) (F := TX7) (N := 8) (v := .int y1) hx hb hts uX7 hown hkb hH 0 rfl rfl 1 (by decide) rfl kw_45 (fun _ h9 => h9) dX7_go_171 ?_
                  refine lv_icmp_ge (tgt := 229) hx hb dX7_go_174 (by decide) (fun c174 => ?_) (fun c174 => ?_)
                  · skip
                    have fuc174 := full_i f166_103
                    have fvc174 := full_i y1
                    have tc174 := g_le c174
                    refine lv_aload_n hx hb dX7_go_229 rfl (lv_at hl 0 rfl) ?_
                    refine lv_aload_n hx hb dX7_go_230 rfl (lv_at hl 0 rfl) ?_
                    refine x_getk (ci := 7) (C := RX7) (F := TX7) (N := 8) (v := .int f166_103) hx hb hts uX7 hown hkb hH 0 rfl rfl 3 (by decide) rfl kw_47 (fun _ h9 => h9) dX7_go_231 ?_
                    refine lv_aload_n hx hb dX7_go_234 rfl (lv_at hl 0 rfl) ?_
                    refine x_getk (ci := 7) (C := RX7) (F := TX7) (N := 8) (v := .int f8_102) hx hb hts uX7 hown hkb hH 0 rfl rfl 2 (by decide) rfl kw_46 (fun _ h9 => h9) dX7_go_235 ?_
                    refine lv_isub hx hb dX7_go_238 ?_
                    refine lv_topi (fun v238 ev238 => ?_)
                    have tv238 : v238.toInt = f166_103.toInt - f8_102.toInt := by rw [ev238]; exact sub_i rfl rfl (by omega) (by omega)
                    refine lv_iconst (v := 3) hx hb dX7_go_239 (by decide) ?_
                    refine lv_icmp_gt (tgt := 247) hx hb dX7_go_240 (by decide) (fun c240 => ?_) (fun c240 => ?_)
                    · skip
                      have tc240 := f_gt (k := 3) (by decide) c240
                      refine lv_iconst (v := 4) hx hb dX7_go_247 (by decide) ?_
                      refine x_putk (ci := 7) (v := .int 4) (ty := tyX7 4) (C := RX7) (F := TX7) (N := 8) hx hb hts uX7 tyX7 tyX7_ok nmX7 hown hkb hH hS 0 rfl rfl 4 (by decide) kw_48 (fun _ h9 => h9) rfl (tyX7_ok 4 (by decide)) rfl rfl (Nat.le_of_ble_eq_true rfl) dX7_go_248 (fun H locs hH hS => ?_)
                      have hH : HT D cs A T (a0 :: y0 :: O) ((a0, .inr (7, [.ref y0, .int y1, .int f8_102, .int f166_103, .int 4, .int f166_105, .int y6, .int y7])) :: (y0, .inl (cs.1, 900, .inl ft)) :: X) H := hH
                      refine lv_goto (tgt := 303) hx hb dX7_go_251 (by decide) ?_
                      have ts9 : TS t tn (nxs t tn y3.toInt.toNat) f8_102 f166_103 (4 : Int32) f166_105 := by
                        first | (refine TS_D htb i60 ?_ ?_ tv154 ?_ ?_ i166 (run_eq (by omega)) i166v (Or.inr ⟨by decide, by omega⟩) <;> omega) | (refine TS_D htb i60 ?_ ?_ tv154 ?_ ?_ i166 (dgr_x htb tv185 (by omega)) i166v (Or.inr ⟨by decide, by omega⟩) <;> omega)
                      have ts8 := ts9.self
                      have nb9 := nxs_b (t := t) (n := tn) (e := y3.toInt.toNat) (by omega)
                      have z9_4 : (4 : Int32).toInt = 4 := by decide
                      have z9_4 : (4 : Int32).toInt = 4 := by decide
                      exact te_v hx hb hr hlocks hH hS (⟨f8_102, f166_103, (4 : Int32), f166_105, rfl, ts8.1, ts8.2, (by have q9 := ts8.1.b; have q8 := ts8.2; omega)⟩) dX7_go_303
                    · skip
                      have tc240 := f_ngt (k := 3) (by decide) c240
                      refine lv_iconst (v := 2) hx hb dX7_go_243 (by decide) ?_
                      refine lv_goto (tgt := 248) hx hb dX7_go_244 (by decide) ?_
                      refine x_putk (ci := 7) (v := .int 2) (ty := tyX7 4) (C := RX7) (F := TX7) (N := 8) hx hb hts uX7 tyX7 tyX7_ok nmX7 hown hkb hH hS 0 rfl rfl 4 (by decide) kw_48 (fun _ h9 => h9) rfl (tyX7_ok 4 (by decide)) rfl rfl (Nat.le_of_ble_eq_true rfl) dX7_go_248 (fun H locs hH hS => ?_)
                      have hH : HT D cs A T (a0 :: y0 :: O) ((a0, .inr (7, [.ref y0, .int y1, .int f8_102, .int f166_103, .int 2, .int f166_105, .int y6, .int y7])) :: (y0, .inl (cs.1, 900, .inl ft)) :: X) H := hH
                      refine lv_goto (tgt := 303) hx hb dX7_go_251 (by decide) ?_
                      have ts9 : TS t tn (nxs t tn y3.toInt.toNat) f8_102 f166_103 (2 : Int32) f166_105 := by
                        first | (refine TS_D htb i60 ?_ ?_ tv154 ?_ ?_ i166 (run_eq (by omega)) i166v (Or.inl ⟨by decide, by omega⟩) <;> omega) | (refine TS_D htb i60 ?_ ?_ tv154 ?_ ?_ i166 (dgr_x htb tv185 (by omega)) i166v (Or.inl ⟨by decide, by omega⟩) <;> omega)
                      have ts8 := ts9.self
                      have nb9 := nxs_b (t := t) (n := tn) (e := y3.toInt.toNat) (by omega)
                      have z9_2 : (2 : Int32).toInt = 2 := by decide
                      have z9_2 : (2 : Int32).toInt = 2 := by decide
                      exact te_v hx hb hr hlocks hH hS (⟨f8_102, f166_103, (2 : Int32), f166_105, rfl, ts8.1, ts8.2, (by have q9 := ts8.1.b; have q8 := ts8.2; omega)⟩) dX7_go_303
                  · skip
                    have fuc174 := full_i f166_103
                    have fvc174 := full_i y1
                    have tc174 := g_nle c174
                    refine lv_aload_n hx hb dX7_go_177 rfl (lv_at hl 0 rfl) ?_
                    refine x_getk (ci := 7) (C := RX7) (F := TX7) (N := 8) (v := .ref y0) hx hb hts uX7 hown hkb hH 0 rfl rfl 0 (by decide) rfl kw_44 (fun _ h9 => h9) dX7_go_178 ?_
                    refine lv_aload_n hx hb dX7_go_181 rfl (lv_at hl 0 rfl) ?_
                    refine x_getk (ci := 7) (C := RX7) (F := TX7) (N := 8) (v := .int f166_103) hx hb hts uX7 hown hkb hH 0 rfl rfl 3 (by decide) rfl kw_47 (fun _ h9 => h9) dX7_go_182 ?_
                    refine xa_bld hx hb hkb hH 1 rfl (by omega) (by omega) dX7_go_185 ?_
                    refine lv_topi (fun v185 ev185 => ?_)
                    have tv185 : v185 = ft f166_103.toInt.toNat := ev185
                    refine tk_i hH hS hA (tr_S (n := 1) (As := [.int v185]) hx hb hml hown hts hkb hH (ox_map hOX rfl) hks hE hS hA (s_Tok_isDigit l D cs kf T (a0 :: y0 :: O) ((a0, .inr (7, [.ref y0, .int y1, .int f8_102, .int f166_103, .int y4, .int f166_105, .int y6, .int y7])) :: (y0, .inl (cs.1, 900, .inl ft)) :: X) v185  (hO.sub (by decide))) kw_459 kw_460 kw_3 kw_461 (by decide +kernel) ⟨Nat.le_of_ble_eq_true rfl, Nat.le_of_ble_eq_true rfl⟩ rfl rfl hl.1 (Nat.le_of_ble_eq_true rfl) dX7_go_186 ⟨Nat.le_of_ble_eq_true rfl, Nat.le_of_ble_eq_true rfl⟩) (fun v186 u H locs hz9 hH hS => ?_)
                    obtain ⟨rfl, l_v186, u_v186, x_v1860, x_v1861⟩ := hz9
                    have hH : HT D cs A T (a0 :: y0 :: O) ((a0, .inr (7, [.ref y0, .int y1, .int f8_102, .int f166_103, .int y4, .int f166_105, .int y6, .int y7])) :: (y0, .inl (cs.1, 900, .inl ft)) :: X) H := hH
                    refine W.widen (k := 0) (n := 0) (Nat.le_of_ble_eq_true rfl) (Nat.le_of_ble_eq_true rfl) ?_
                    refine lv_if_eq (tgt := 229) hx hb dX7_go_189 (by decide) (fun c189 => ?_) (fun c189 => ?_)
                    · skip
                      have tc189 := f_eq (k := 0) (by decide) c189
                      refine lv_aload_n hx hb dX7_go_229 rfl (lv_at hl 0 rfl) ?_
                      refine lv_aload_n hx hb dX7_go_230 rfl (lv_at hl 0 rfl) ?_
                      refine x_getk (ci := 7) (C := RX7) (F := TX7) (N := 8) (v := .int f166_103) hx hb hts uX7 hown hkb hH 0 rfl rfl 3 (by decide) rfl kw_47 (fun _ h9 => h9) dX7_go_231 ?_
                      refine lv_aload_n hx hb dX7_go_234 rfl (lv_at hl 0 rfl) ?_
                      refine x_getk (ci := 7) (C := RX7) (F := TX7) (N := 8) (v := .int f8_102) hx hb hts uX7 hown hkb hH 0 rfl rfl 2 (by decide) rfl kw_46 (fun _ h9 => h9) dX7_go_235 ?_
                      refine lv_isub hx hb dX7_go_238 ?_
                      refine lv_topi (fun v238 ev238 => ?_)
                      have tv238 : v238.toInt = f166_103.toInt - f8_102.toInt := by rw [ev238]; exact sub_i rfl rfl (by omega) (by omega)
                      refine lv_iconst (v := 3) hx hb dX7_go_239 (by decide) ?_
                      refine lv_icmp_gt (tgt := 247) hx hb dX7_go_240 (by decide) (fun c240 => ?_) (fun c240 => ?_)
                      · skip
                        have tc240 := f_gt (k := 3) (by decide) c240
                        refine lv_iconst (v := 4) hx hb dX7_go_247 (by decide) ?_
                        refine x_putk (ci := 7) (v := .int 4) (ty := tyX7 4) (C := RX7) (F := TX7) (N := 8) hx hb hts uX7 tyX7 tyX7_ok nmX7 hown hkb hH hS 0 rfl rfl 4 (by decide) kw_48 (fun _ h9 => h9) rfl (tyX7_ok 4 (by decide)) rfl rfl (Nat.le_of_ble_eq_true rfl) dX7_go_248 (fun H locs hH hS => ?_)
                        have hH : HT D cs A T (a0 :: y0 :: O) ((a0, .inr (7, [.ref y0, .int y1, .int f8_102, .int f166_103, .int 4, .int f166_105, .int y6, .int y7])) :: (y0, .inl (cs.1, 900, .inl ft)) :: X) H := hH
                        refine lv_goto (tgt := 303) hx hb dX7_go_251 (by decide) ?_
                        have ts9 : TS t tn (nxs t tn y3.toInt.toNat) f8_102 f166_103 (4 : Int32) f166_105 := by
                          first | (refine TS_D htb i60 ?_ ?_ tv154 ?_ ?_ i166 (run_eq (by omega)) i166v (Or.inr ⟨by decide, by omega⟩) <;> omega) | (refine TS_D htb i60 ?_ ?_ tv154 ?_ ?_ i166 (dgr_x htb tv185 (by omega)) i166v (Or.inr ⟨by decide, by omega⟩) <;> omega)
                        have ts8 := ts9.self
                        have nb9 := nxs_b (t := t) (n := tn) (e := y3.toInt.toNat) (by omega)
                        have z9_4 : (4 : Int32).toInt = 4 := by decide
                        have z9_4 : (4 : Int32).toInt = 4 := by decide
                        exact te_v hx hb hr hlocks hH hS (⟨f8_102, f166_103, (4 : Int32), f166_105, rfl, ts8.1, ts8.2, (by have q9 := ts8.1.b; have q8 := ts8.2; omega)⟩) dX7_go_303
                      · skip
                        have tc240 := f_ngt (k := 3) (by decide) c240
                        refine lv_iconst (v := 2) hx hb dX7_go_243 (by decide) ?_
                        refine lv_goto (tgt := 248) hx hb dX7_go_244 (by decide) ?_
                        refine x_putk (ci := 7) (v := .int 2) (ty := tyX7 4) (C := RX7) (F := TX7) (N := 8) hx hb hts uX7 tyX7 tyX7_ok nmX7 hown hkb hH hS 0 rfl rfl 4 (by decide) kw_48 (fun _ h9 => h9) rfl (tyX7_ok 4 (by decide)) rfl rfl (Nat.le_of_ble_eq_true rfl) dX7_go_248 (fun H locs hH hS => ?_)
                        have hH : HT D cs A T (a0 :: y0 :: O) ((a0, .inr (7, [.ref y0, .int y1, .int f8_102, .int f166_103, .int 2, .int f166_105, .int y6, .int y7])) :: (y0, .inl (cs.1, 900, .inl ft)) :: X) H := hH
                        refine lv_goto (tgt := 303) hx hb dX7_go_251 (by decide) ?_
                        have ts9 : TS t tn (nxs t tn y3.toInt.toNat) f8_102 f166_103 (2 : Int32) f166_105 := by
                          first | (refine TS_D htb i60 ?_ ?_ tv154 ?_ ?_ i166 (run_eq (by omega)) i166v (Or.inl ⟨by decide, by omega⟩) <;> omega) | (refine TS_D htb i60 ?_ ?_ tv154 ?_ ?_ i166 (dgr_x htb tv185 (by omega)) i166v (Or.inl ⟨by decide, by omega⟩) <;> omega)
                        have ts8 := ts9.self
                        have nb9 := nxs_b (t := t) (n := tn) (e := y3.toInt.toNat) (by omega)
                        have z9_2 : (2 : Int32).toInt = 2 := by decide
                        have z9_2 : (2 : Int32).toInt = 2 := by decide
                        exact te_v hx hb hr hlocks hH hS (⟨f8_102, f166_103, (2 : Int32), f166_105, rfl, ts8.1, ts8.2, (by have q9 := ts8.1.b; have q8 := ts8.2; omega)⟩) dX7_go_303
                    · skip
                      have tc189 := f_ne (k := 0) (by decide) c189
                      refine lv_aload_n hx hb dX7_go_192 rfl (lv_at hl 0 rfl) ?_
                      refine lv_aload_n hx hb dX7_go_193 rfl (lv_at hl 0 rfl) ?_
                      refine x_getk (ci := 7) (C := RX7) (F := TX7) (N := 8) (v := .int f166_105) hx hb hts uX7 hown hkb hH 0 rfl rfl 5 (by decide) rfl kw_51 (fun _ h9 => h9) dX7_go_194 ?_
                      refine lv_bipush (v := 10) hx hb dX7_go_197 (by decide) ?_
                      refine lv_imul hx hb dX7_go_199 ?_
                      refine lv_topi (fun v199 ev199 => ?_)
                      refine lv_aload_n hx hb dX7_go_200 rfl (lv_at hl 0 rfl) ?_
                      refine x_getk (ci := 7) (C := RX7) (F := TX7) (N := 8) (v := .ref y0) hx hb hts uX7 hown hkb hH 0 rfl rfl 0 (by decide) rfl kw_44 (fun _ h9 => h9) dX7_go_201 ?_
                      refine lv_aload_n hx hb dX7_go_204 rfl (lv_at hl 0 rfl) ?_
                      refine x_getk (ci := 7) (C := RX7) (F := TX7) (N := 8) (v := .int f166_103) hx hb hts uX7 hown hkb hH 0 rfl rfl 3 (by decide) rfl kw_47 (fun _ h9 => h9) dX7_go_205 ?_
                      refine xa_bld hx hb hkb hH 1 rfl (by omega) (by omega) dX7_go_208 ?_
                      refine lv_topi (fun v208 ev208 => ?_)
                      have tv208 : v208 = ft f166_103.toInt.toNat := ev208
                      refine lv_bipush (v := 48) hx hb dX7_go_209 (by decide) ?_
                      have h208 : v208 = v185 := tv208.trans tv185.symm
                      have b208 : 48 ≤ v208.toInt ∧ v208.toInt ≤ 57 := by rw [h208]; omega
                      refine lv_isub hx hb dX7_go_211 ?_
                      refine lv_topi (fun v211 ev211 => ?_)
                      have tv211 : v211.toInt = v208.toInt - (48) := by rw [ev211]; exact sub_i rfl (by decide : (48 : Int32).toInt = 48) (by omega) (by omega)
                      refine lv_iadd hx hb dX7_go_212 ?_
                      refine lv_topi (fun v212 ev212 => ?_)
                      refine x_putk (ci := 7) (v := .int v212) (ty := tyX7 5) (C := RX7) (F := TX7) (N := 8) hx hb hts uX7 tyX7 tyX7_ok nmX7 hown hkb hH hS 0 rfl rfl 5 (by decide) kw_51 (fun _ h9 => h9) rfl (tyX7_ok 5 (by decide)) rfl rfl (Nat.le_of_ble_eq_true rfl) dX7_go_213 (fun H locs hH hS => ?_)
                      have hH : HT D cs A T (a0 :: y0 :: O) ((a0, .inr (7, [.ref y0, .int y1, .int f8_102, .int f166_103, .int y4, .int v212, .int y6, .int y7])) :: (y0, .inl (cs.1, 900, .inl ft)) :: X) H := hH
                      refine lv_aload_n hx hb dX7_go_216 rfl (lv_at hl 0 rfl) ?_
                      refine lv_dup hx hb dX7_go_217 rfl ?_
                      refine x_getk (ci := 7) (C := RX7) (F := TX7) (N := 8) (v := .int f166_103) hx hb hts uX7 hown hkb hH 0 rfl rfl 3 (by decide) rfl kw_47 (fun _ h9 => h9) dX7_go_218 ?_
                      refine lv_iconst (v := 1) hx hb dX7_go_221 (by decide) ?_
                      refine lv_iadd hx hb dX7_go_222 ?_
                      refine lv_topi (fun v222 ev222 => ?_)
                      have tv222 : v222.toInt = f166_103.toInt + (1) := by rw [ev222]; exact add_i rfl (by decide : (1 : Int32).toInt = 1) (by omega) (by omega)
                      refine x_putk (ci := 7) (v := .int v222) (ty := tyX7 3) (C := RX7) (F := TX7) (N := 8) hx hb hts uX7 tyX7 tyX7_ok nmX7 hown hkb hH hS 0 rfl rfl 3 (by decide) kw_47 (fun _ h9 => h9) rfl (tyX7_ok 3 (by decide)) rfl rfl (Nat.le_of_ble_eq_true rfl) dX7_go_223 (fun H locs hH hS => ?_)
                      have hH : HT D cs A T (a0 :: y0 :: O) ((a0, .inr (7, [.ref y0, .int y1, .int f8_102, .int v222, .int y4, .int v212, .int y6, .int y7])) :: (y0, .inl (cs.1, 900, .inl ft)) :: X) H := hH
                      refine lv_goto (tgt := 166) hx hb dX7_go_226 (by decide) ?_
                      exact ih166 _ (by omega) v222 v212 _ _ _ rfl (by omega) (by omega) (by first | rfl | (refine dgr_st htb i166 tv185 ?_ ?_ ?_ ?_ tv222 <;> omega)) (by omega) (by first | exact DV_0 (by decide) | (refine DV_s htb i166v ?_ tv208 b208.1 b208.2 ev199 tv211 ev212 tv222; omega)) hH hS (lv_sub hl [0] rfl)
              refine x_putk (ci := 7) (v := .int 0) (ty := tyX7 5) (C := RX7) (F := TX7) (N := 8) hx hb hts uX7 tyX7 tyX7_ok nmX7 hown hkb hH hS 0 rfl rfl 5 (by decide) kw_51 (fun _ h9 => h9) rfl (tyX7_ok 5 (by decide)) rfl rfl (Nat.le_of_ble_eq_true rfl) dX7_go_163 (fun H locs hH hS => ?_)
              have hH : HT D cs A T (a0 :: y0 :: O) ((a0, .inr (7, [.ref y0, .int y1, .int f8_102, .int f8_102, .int y4, .int 0, .int y6, .int y7])) :: (y0, .inl (cs.1, 900, .inl ft)) :: X) H := hH
              have z_0 : (0 : Int32).toInt = 0 := by decide
              exact J166 _ f8_102 0 _ _ _ rfl (by omega) (by omega) (by first | rfl | (refine dgr_st htb i166 tv185 ?_ ?_ ?_ ?_ tv222 <;> omega)) (by omega) (by first | exact DV_0 (by decide) | (refine DV_s htb i166v ?_ tv208 b208.1 b208.2 ev199 tv211 ev212 tv222; omega)) hH hS (lv_sub hl [0] rfl)
          · skip
            have tc99 := f_ne (k := 0) (by decide) c99
            refine lv_aload_n hx hb dX7_go_102 rfl (lv_at hl 0 rfl) ?_
            refine lv_iconst (v := 1) hx hb dX7_go_103 (by decide) ?_
            have J107 : ∀ (n : Nat) (f107_103 : Int32) (H : Heap) (locs : List Loc) (ls : Array Slot), (900 - f107_103.toInt).toNat = n → (0 ≤ f107_103.toInt) → (f107_103.toInt ≤ 900) → (run (sm t) tn f107_103.toInt.toNat = run (sm t) tn f8_102.toInt.toNat) → (f8_102.toInt ≤ f107_103.toInt ∧ f107_103.toInt ≤ (tn : Int)) → HT D cs A T (a0 :: y0 :: O) ((a0, .inr (7, [.ref y0, .int y1, .int f8_102, .int f107_103, .int 1, .int y5, .int y6, .int y7])) :: (y0, .inl (cs.1, 900, .inl ft)) :: X) H → va_S A s.heap H locs → lv_has ls 1 [(0, .ref a0)] → W p l e { frames := 4, cells := 0, slots := 0, locals := 91 } s m [.ref a0].toArray below meth c H locs 0 0 (MQ below (Tv D cs (fun u => ∃ (n0_2 : Int32) (n0_3 : Int32) (n0_4 : Int32) (n0_5 : Int32), u = (T, a0 :: y0 :: O, (a0, .inr (7, [.ref y0, .int y1, .int n0_2, .int n0_3, .int n0_4, .int n0_5, .int y6, .int y7])) :: (y0, .inl (cs.1, 900, .inl ft)) :: X) ∧ (TSS t tn n0_2 n0_3 n0_4 n0_5) ∧ (n0_2.toInt.toNat = nxs t tn y3.toInt.toNat) ∧ (y3.toInt ≤ n0_2.toInt ∧ n0_2.toInt ≤ n0_3.toInt ∧ n0_3.toInt ≤ y1.toInt)) A) [.ref a0].toArray s 0 0 A) (F0 m 107 ls []) := by
              intro n
              induction n using Nat.strongRecOn with
              | _ n ih107 =>
                intro f107_103 H locs ls hm107 l_f107_103 u_f107_103 i107 i107b hH hS hl
                refine lv_aload_n hx hb dX7_go_107 rfl (lv_at hl 0 rfl) ?_
                refine x_getk (ci := 7) (C := RX7) (F := TX7) (N := 8) (v := .int f107_103) hx hb hts uX7 hown hkb hH 0 rfl rfl 3 (by decide) rfl kw_47 (fun _ h9 => h9) dX7_go_108 ?_
                refine lv_aload_n hx hb dX7_go_111 rfl (lv_at hl 0 rfl) ?_
                refine x_getk (ci := 7) (C := RX7) (F := TX7) (N := 8) (v := .int y1) hx hb hts uX7 hown hkb hH 0 rfl rfl 1 (by decide) rfl kw_45 (fun _ h9 => h9) dX7_go_112 ?_
                refine lv_icmp_ge (tgt := 303) hx hb dX7_go_115 (by decide) (fun c115 => ?_) (fun c115 => ?_)
                · skip
                  have fuc115 := full_i f107_103
                  have fvc115 := full_i y1
                  have tc115 := g_le c115
                  have ts9 : TS t tn (nxs t tn y3.toInt.toNat) f8_102 f107_103 (1 : Int32) y5 := by
                    first | (refine TS_W htb i60 ?_ ?_ tv95 ?_ ?_ i107 ?_ (run_eq (by omega)) (by decide) <;> omega) | (refine TS_W htb i60 ?_ ?_ tv95 ?_ ?_ i107 ?_ (smr_x htb tv126 (by omega)) (by decide) <;> omega)
                  have ts8 := ts9.self
                  have nb9 := nxs_b (t := t) (n := tn) (e := y3.toInt.toNat) (by omega)
                  have z9_1 : (1 : Int32).toInt = 1 := by decide
                  have z9_1 : (1 : Int32).toInt = 1 := by decide
                  exact te_v hx hb hr hlocks hH hS (⟨f8_102, f107_103, (1 : Int32), y5, rfl, ts8.1, ts8.2, (by have q9 := ts8.1.b; have q8 := ts8.2; omega)⟩) dX7_go_303
                · skip
                  have fuc115 := full_i f107_103
                  have fvc115 := full_i y1
                  have tc115 := g_nle c115
                  refine lv_aload_n hx hb dX7_go_118 rfl (lv_at hl 0 rfl) ?_
                  refine x_getk (ci := 7) (C := RX7) (F := TX7) (N := 8) (v := .ref y0) hx hb hts uX7 hown hkb hH 0 rfl rfl 0 (by decide) rfl kw_44 (fun _ h9 => h9) dX7_go_119 ?_
                  refine lv_aload_n hx hb dX7_go_122 rfl (lv_at hl 0 rfl) ?_
                  refine x_getk (ci := 7) (C := RX7) (F := TX7) (N := 8) (v := .int f107_103) hx hb hts uX7 hown hkb hH 0 rfl rfl 3 (by decide) rfl kw_47 (fun _ h9 => h9) dX7_go_123 ?_
                  refine xa_bld hx hb hkb hH 1 rfl (by omega) (by omega) dX7_go_126 ?_
                  refine lv_topi (fun v126 ev126 => ?_)
                  have tv126 : v126 = ft f107_103.toInt.toNat := ev126
                  refine tk_i hH hS hA (tr_S (n := 1) (As := [.int v126]) hx hb hml hown hts hkb hH (ox_map hOX rfl) hks hE hS hA (s_Tok_isLetter l D cs kf T (a0 :: y0 :: O) ((a0, .inr (7, [.ref y0, .int y1, .int f8_102, .int f107_103, .int 1, .int y5, .int y6, .int y7])) :: (y0, .inl (cs.1, 900, .inl ft)) :: X) v126  (hO.sub (by decide))) kw_456 kw_457 kw_3 kw_458 (by decide +kernel) ⟨Nat.le_of_ble_eq_true rfl, Nat.le_of_ble_eq_true rfl⟩ rfl rfl hl.1 (Nat.le_of_ble_eq_true rfl) dX7_go_127 ⟨Nat.le_of_ble_eq_true rfl, Nat.le_of_ble_eq_true rfl⟩) (fun v127 u H locs hz9 hH hS => ?_)
                  obtain ⟨rfl, l_v127, u_v127, x_v1270, x_v1271⟩ := hz9
                  have hH : HT D cs A T (a0 :: y0 :: O) ((a0, .inr (7, [.ref y0, .int y1, .int f8_102, .int f107_103, .int 1, .int y5, .int y6, .int y7])) :: (y0, .inl (cs.1, 900, .inl ft)) :: X) H := hH
                  refine W.widen (k := 0) (n := 0) (Nat.le_of_ble_eq_true rfl) (Nat.le_of_ble_eq_true rfl) ?_
                  refine lv_if_eq (tgt := 303) hx hb dX7_go_130 (by decide) (fun c130 => ?_) (fun c130 => ?_)
                  · skip
                    have tc130 := f_eq (k := 0) (by decide) c130
                    have ts9 : TS t tn (nxs t tn y3.toInt.toNat) f8_102 f107_103 (1 : Int32) y5 := by
                      first | (refine TS_W htb i60 ?_ ?_ tv95 ?_ ?_ i107 ?_ (run_eq (by omega)) (by decide) <;> omega) | (refine TS_W htb i60 ?_ ?_ tv95 ?_ ?_ i107 ?_ (smr_x htb tv126 (by omega)) (by decide) <;> omega)
                    have ts8 := ts9.self
                    have nb9 := nxs_b (t := t) (n := tn) (e := y3.toInt.toNat) (by omega)
                    have z9_1 : (1 : Int32).toInt = 1 := by decide
                    have z9_1 : (1 : Int32).toInt = 1 := by decide
                    exact te_v hx hb hr hlocks hH hS (⟨f8_102, f107_103, (1 : Int32), y5, rfl, ts8.1, ts8.2, (by have q9 := ts8.1.b; have q8 := ts8.2; omega)⟩) dX7_go_303
                  · skip
                    have tc130 := f_ne (k := 0) (by decide) c130
                    refine lv_aload_n hx hb dX7_go_133 rfl (lv_at hl 0 rfl) ?_
                    refine lv_dup hx hb dX7_go_134 rfl ?_
                    refine x_getk (ci := 7) (C := RX7) (F := TX7) (N := 8) (v := .int f107_103) hx hb hts uX7 hown hkb hH 0 rfl rfl 3 (by decide) rfl kw_47 (fun _ h9 => h9) dX7_go_135 ?_
                    refine lv_iconst (v := 1) hx hb dX7_go_138 (by decide) ?_
                    refine lv_iadd hx hb dX7_go_139 ?_
                    refine lv_topi (fun v139 ev139 => ?_)
                    have tv139 : v139.toInt = f107_103.toInt + (1) := by rw [ev139]; exact add_i rfl (by decide : (1 : Int32).toInt = 1) (by omega) (by omega)
                    refine x_putk (ci := 7) (v := .int v139) (ty := tyX7 3) (C := RX7) (F := TX7) (N := 8) hx hb hts uX7 tyX7 tyX7_ok nmX7 hown hkb hH hS 0 rfl rfl 3 (by decide) kw_47 (fun _ h9 => h9) rfl (tyX7_ok 3 (by decide)) rfl rfl (Nat.le_of_ble_eq_true rfl) dX7_go_140 (fun H locs hH hS => ?_)
                    have hH : HT D cs A T (a0 :: y0 :: O) ((a0, .inr (7, [.ref y0, .int y1, .int f8_102, .int v139, .int 1, .int y5, .int y6, .int y7])) :: (y0, .inl (cs.1, 900, .inl ft)) :: X) H := hH
                    refine lv_goto (tgt := 107) hx hb dX7_go_143 (by decide) ?_
                    exact ih107 _ (by omega) v139 _ _ _ rfl (by omega) (by omega) (by first | rfl | (refine smr_st htb i107 tv126 ?_ ?_ ?_ ?_ tv139 <;> omega)) (by omega) hH hS (lv_sub hl [0] rfl)
            refine x_putk (ci := 7) (v := .int 1) (ty := tyX7 4) (C := RX7) (F := TX7) (N := 8) hx hb hts uX7 tyX7 tyX7_ok nmX7 hown hkb hH hS 0 rfl rfl 4 (by decide) kw_48 (fun _ h9 => h9) rfl (tyX7_ok 4 (by decide)) rfl rfl (Nat.le_of_ble_eq_true rfl) dX7_go_104 (fun H locs hH hS => ?_)
            have hH : HT D cs A T (a0 :: y0 :: O) ((a0, .inr (7, [.ref y0, .int y1, .int f8_102, .int f8_102, .int 1, .int y5, .int y6, .int y7])) :: (y0, .inl (cs.1, 900, .inl ft)) :: X) H := hH
            exact J107 _ f8_102 _ _ _ rfl (by omega) (by omega) (by first | rfl | (refine smr_st htb i107 tv126 ?_ ?_ ?_ ?_ tv139 <;> omega)) (by omega) hH hS (lv_sub hl [0] rfl)
        · skip
          have fuc76 := full_i f8_102
          have fvc76 := full_i y1
          have tc76 := g_nlt c76
          refine lv_aload_n hx hb dX7_go_79 rfl (lv_at hl 0 rfl) ?_
          refine lv_iconst (v := 0) hx hb dX7_go_80 (by decide) ?_
          refine x_putk (ci := 7) (v := .int 0) (ty := tyX7 4) (C := RX7) (F := TX7) (N := 8) hx hb hts uX7 tyX7 tyX7_ok nmX7 hown hkb hH hS 0 rfl rfl 4 (by decide) kw_48 (fun _ h9 => h9) rfl (tyX7_ok 4 (by decide)) rfl rfl (Nat.le_of_ble_eq_true rfl) dX7_go_81 (fun H locs hH hS => ?_)
          have hH : HT D cs A T (a0 :: y0 :: O) ((a0, .inr (7, [.ref y0, .int y1, .int f8_102, .int f8_102, .int 0, .int y5, .int y6, .int y7])) :: (y0, .inl (cs.1, 900, .inl ft)) :: X) H := hH
          refine lv_goto (tgt := 303) hx hb dX7_go_84 (by decide) ?_
          have ts9 : TS t tn (nxs t tn y3.toInt.toNat) f8_102 f8_102 (0 : Int32) y5 := by
            first | (refine TS_E i60 ?_ ?_ ?_ (by decide) <;> omega)
          have ts8 := ts9.self
          have nb9 := nxs_b (t := t) (n := tn) (e := y3.toInt.toNat) (by omega)
          have z9_0 : (0 : Int32).toInt = 0 := by decide
          have z9_0 : (0 : Int32).toInt = 0 := by decide
          exact te_v hx hb hr hlocks hH hS (⟨f8_102, f8_102, (0 : Int32), y5, rfl, ts8.1, ts8.2, (by have q9 := ts8.1.b; have q8 := ts8.2; omega)⟩) dX7_go_303
      refine lv_icmp_ge (tgt := 60) hx hb dX7_go_16 (by decide) (fun c16 => ?_) (fun c16 => ?_)
      · skip
        have fuc16 := full_i f8_102
        have fvc16 := full_i y1
        have tc16 := g_le c16
        exact J60  _ _ _ (by first | (refine nxs_e1 i8 ?_; omega) | exact nxs_e2 htb i8 tv27 tv41 tc30 tc44) hH hS (lv_sub hl [0] rfl)
      · skip
        have fuc16 := full_i f8_102
        have fvc16 := full_i y1
        have tc16 := g_nle c16
        refine lv_aload_n hx hb dX7_go_19 rfl (lv_at hl 0 rfl) ?_
        refine x_getk (ci := 7) (C := RX7) (F := TX7) (N := 8) (v := .ref y0) hx hb hts uX7 hown hkb hH 0 rfl rfl 0 (by decide) rfl kw_44 (fun _ h9 => h9) dX7_go_20 ?_
        refine lv_aload_n hx hb dX7_go_23 rfl (lv_at hl 0 rfl) ?_
        refine x_getk (ci := 7) (C := RX7) (F := TX7) (N := 8) (v := .int f8_102) hx hb hts uX7 hown hkb hH 0 rfl rfl 2 (by decide) rfl kw_46 (fun _ h9 => h9) dX7_go_24 ?_
        refine xa_bld hx hb hkb hH 1 rfl (by omega) (by omega) dX7_go_27 ?_
        refine lv_topi (fun v27 ev27 => ?_)
        have tv27 : v27 = ft f8_102.toInt.toNat := ev27
        refine lv_bipush (v := 10) hx hb dX7_go_28 (by decide) ?_
        refine lv_icmp_eq (tgt := 47) hx hb dX7_go_30 (by decide) (fun c30 => ?_) (fun c30 => ?_)
        · skip
          have tc30 := f_eq (k := 10) (by decide) c30
          refine lv_aload_n hx hb dX7_go_47 rfl (lv_at hl 0 rfl) ?_
          refine lv_dup hx hb dX7_go_48 rfl ?_
          refine x_getk (ci := 7) (C := RX7) (F := TX7) (N := 8) (v := .int f8_102) hx hb hts uX7 hown hkb hH 0 rfl rfl 2 (by decide) rfl kw_46 (fun _ h9 => h9) dX7_go_49 ?_
          refine lv_iconst (v := 1) hx hb dX7_go_52 (by decide) ?_
          refine lv_iadd hx hb dX7_go_53 ?_
          refine lv_topi (fun v53 ev53 => ?_)
          have tv53 : v53.toInt = f8_102.toInt + (1) := by rw [ev53]; exact add_i rfl (by decide : (1 : Int32).toInt = 1) (by omega) (by omega)
          refine x_putk (ci := 7) (v := .int v53) (ty := tyX7 2) (C := RX7) (F := TX7) (N := 8) hx hb hts uX7 tyX7 tyX7_ok nmX7 hown hkb hH hS 0 rfl rfl 2 (by decide) kw_46 (fun _ h9 => h9) rfl (tyX7_ok 2 (by decide)) rfl rfl (Nat.le_of_ble_eq_true rfl) dX7_go_54 (fun H locs hH hS => ?_)
          have hH : HT D cs A T (a0 :: y0 :: O) ((a0, .inr (7, [.ref y0, .int y1, .int v53, .int y3, .int y4, .int y5, .int y6, .int y7])) :: (y0, .inl (cs.1, 900, .inl ft)) :: X) H := hH
          refine lv_goto (tgt := 8) hx hb dX7_go_57 (by decide) ?_
          exact ih8 _ (by omega) v53 _ _ _ rfl (by omega) (by omega) (by first | rfl | (refine (nxs_st htb tv27 ?_ ?_ ?_ tv53).trans i8 <;> omega) | (refine (nxs_st htb tv41 ?_ ?_ ?_ tv53).trans i8 <;> omega)) (by omega) hH hS (lv_sub hl [0] rfl)
        · skip
          have tc30 := f_ne (k := 10) (by decide) c30
          refine lv_aload_n hx hb dX7_go_33 rfl (lv_at hl 0 rfl) ?_
          refine x_getk (ci := 7) (C := RX7) (F := TX7) (N := 8) (v := .ref y0) hx hb hts uX7 hown hkb hH 0 rfl rfl 0 (by decide) rfl kw_44 (fun _ h9 => h9) dX7_go_34 ?_
          refine lv_aload_n hx hb dX7_go_37 rfl (lv_at hl 0 rfl) ?_
          refine x_getk (ci := 7) (C := RX7) (F := TX7) (N := 8) (v := .int f8_102) hx hb hts uX7 hown hkb hH 0 rfl rfl 2 (by decide) rfl kw_46 (fun _ h9 => h9) dX7_go_38 ?_
          refine xa_bld hx hb hkb hH 1 rfl (by omega) (by omega) dX7_go_41 ?_
          refine lv_topi (fun v41 ev41 => ?_)
          have tv41 : v41 = ft f8_102.toInt.toNat := ev41
          refine lv_bipush (v := 32) hx hb dX7_go_42 (by decide) ?_
          refine lv_icmp_ne (tgt := 60) hx hb dX7_go_44 (by decide) (fun c44 => ?_) (fun c44 => ?_)
          · skip
            have tc44 := f_ne (k := 32) (by decide) c44
            exact J60  _ _ _ (by first | (refine nxs_e1 i8 ?_; omega) | exact nxs_e2 htb i8 tv27 tv41 tc30 tc44) hH hS (lv_sub hl [0] rfl)
          · skip
            have tc44 := f_eq (k := 32) (by decide) c44
            refine lv_aload_n hx hb dX7_go_47 rfl (lv_at hl 0 rfl) ?_
            refine lv_dup hx hb dX7_go_48 rfl ?_
            refine x_getk (ci := 7) (C := RX7) (F := TX7) (N := 8) (v := .int f8_102) hx hb hts uX7 hown hkb hH 0 rfl rfl 2 (by decide) rfl kw_46 (fun _ h9 => h9) dX7_go_49 ?_
            refine lv_iconst (v := 1) hx hb dX7_go_52 (by decide) ?_
            refine lv_iadd hx hb dX7_go_53 ?_
            refine lv_topi (fun v53 ev53 => ?_)
            have tv53 : v53.toInt = f8_102.toInt + (1) := by rw [ev53]; exact add_i rfl (by decide : (1 : Int32).toInt = 1) (by omega) (by omega)
            refine x_putk (ci := 7) (v := .int v53) (ty := tyX7 2) (C := RX7) (F := TX7) (N := 8) hx hb hts uX7 tyX7 tyX7_ok nmX7 hown hkb hH hS 0 rfl rfl 2 (by decide) kw_46 (fun _ h9 => h9) rfl (tyX7_ok 2 (by decide)) rfl rfl (Nat.le_of_ble_eq_true rfl) dX7_go_54 (fun H locs hH hS => ?_)
            have hH : HT D cs A T (a0 :: y0 :: O) ((a0, .inr (7, [.ref y0, .int y1, .int v53, .int y3, .int y4, .int y5, .int y6, .int y7])) :: (y0, .inl (cs.1, 900, .inl ft)) :: X) H := hH
            refine lv_goto (tgt := 8) hx hb dX7_go_57 (by decide) ?_
            exact ih8 _ (by omega) v53 _ _ _ rfl (by omega) (by omega) (by first | rfl | (refine (nxs_st htb tv27 ?_ ?_ ?_ tv53).trans i8 <;> omega) | (refine (nxs_st htb tv41 ?_ ?_ ?_ tv53).trans i8 <;> omega)) (by omega) hH hS (lv_sub hl [0] rfl)
  refine x_putk (ci := 7) (v := .int y3) (ty := tyX7 2) (C := RX7) (F := TX7) (N := 8) hx hb hts uX7 tyX7 tyX7_ok nmX7 hown hkb hH hS 0 rfl rfl 2 (by decide) kw_46 (fun _ h9 => h9) rfl (tyX7_ok 2 (by decide)) rfl rfl (Nat.le_of_ble_eq_true rfl) dX7_go_5 (fun H locs hH hS => ?_)
  have hH : HT D cs A T (a0 :: y0 :: O) ((a0, .inr (7, [.ref y0, .int y1, .int y3, .int y3, .int y4, .int y5, .int y6, .int y7])) :: (y0, .inl (cs.1, 900, .inl ft)) :: X) H := hH
  exact J8 _ y3 _ _ _ rfl (by omega) (by omega) (by first | rfl | (refine (nxs_st htb tv27 ?_ ?_ ?_ tv53).trans i8 <;> omega) | (refine (nxs_st htb tv41 ?_ ?_ ?_ tv53).trans i8 <;> omega)) (by omega) hH hS (lv_sub hl [0] rfl)
theorem dX7_isSign_0 : decode cX7_isSign 0 = .ok (.aload_n 0, 1) := by decide +kernel
theorem dX7_isSign_1 : decode cX7_isSign 1 = .ok (.getfield 25, 3) := by decide +kernel
theorem dX7_isSign_4 : decode cX7_isSign 4 = .ok (.iconst 3, 1) := by decide +kernel
theorem dX7_isSign_5 : decode cX7_isSign 5 = .ok (.if_icmp .ne 15, 3) := by decide +kernel
theorem dX7_isSign_8 : decode cX7_isSign 8 = .ok (.aload_n 0, 1) := by decide +kernel
theorem dX7_isSign_9 : decode cX7_isSign 9 = .ok (.getfield 28, 3) := by decide +kernel
theorem dX7_isSign_12 : decode cX7_isSign 12 = .ok (.iload_n 1, 1) := by decide +kernel
theorem dX7_isSign_13 : decode cX7_isSign 13 = .ok (.if_icmp .ne 7, 3) := by decide +kernel
theorem dX7_isSign_16 : decode cX7_isSign 16 = .ok (.iconst 1, 1) := by decide +kernel
theorem dX7_isSign_17 : decode cX7_isSign 17 = .ok (.goto 4, 3) := by decide +kernel
theorem dX7_isSign_20 : decode cX7_isSign 20 = .ok (.iconst 0, 1) := by decide +kernel
theorem dX7_isSign_21 : decode cX7_isSign 21 = .ok (.ireturn, 1) := by decide +kernel
theorem dX7_isWord_0 : decode cX7_isWord 0 = .ok (.aload_n 0, 1) := by decide +kernel
theorem dX7_isWord_1 : decode cX7_isWord 1 = .ok (.getfield 25, 3) := by decide +kernel
theorem dX7_isWord_4 : decode cX7_isWord 4 = .ok (.iconst 1, 1) := by decide +kernel
theorem dX7_isWord_5 : decode cX7_isWord 5 = .ok (.if_icmp .ne 19, 3) := by decide +kernel
theorem dX7_isWord_8 : decode cX7_isWord 8 = .ok (.aload_n 0, 1) := by decide +kernel
theorem dX7_isWord_9 : decode cX7_isWord 9 = .ok (.getfield 22, 3) := by decide +kernel
theorem dX7_isWord_12 : decode cX7_isWord 12 = .ok (.aload_n 0, 1) := by decide +kernel
theorem dX7_isWord_13 : decode cX7_isWord 13 = .ok (.getfield 19, 3) := by decide +kernel
theorem dX7_isWord_16 : decode cX7_isWord 16 = .ok (.isub, 1) := by decide +kernel
theorem dX7_isWord_17 : decode cX7_isWord 17 = .ok (.aload_n 1, 1) := by decide +kernel
theorem dX7_isWord_18 : decode cX7_isWord 18 = .ok (.invokevirtual 61, 3) := by decide +kernel
theorem dX7_isWord_21 : decode cX7_isWord 21 = .ok (.if_icmp .eq 5, 3) := by decide +kernel
theorem dX7_isWord_24 : decode cX7_isWord 24 = .ok (.iconst 0, 1) := by decide +kernel
theorem dX7_isWord_25 : decode cX7_isWord 25 = .ok (.ireturn, 1) := by decide +kernel
theorem dX7_isWord_26 : decode cX7_isWord 26 = .ok (.iconst 0, 1) := by decide +kernel
theorem dX7_isWord_27 : decode cX7_isWord 27 = .ok (.istore_n 2, 1) := by decide +kernel
theorem dX7_isWord_28 : decode cX7_isWord 28 = .ok (.iload_n 2, 1) := by decide +kernel
theorem dX7_isWord_29 : decode cX7_isWord 29 = .ok (.aload_n 1, 1) := by decide +kernel
theorem dX7_isWord_30 : decode cX7_isWord 30 = .ok (.invokevirtual 61, 3) := by decide +kernel
theorem dX7_isWord_33 : decode cX7_isWord 33 = .ok (.if_icmp .ge 30, 3) := by decide +kernel
theorem dX7_isWord_36 : decode cX7_isWord 36 = .ok (.aload_n 0, 1) := by decide +kernel
theorem dX7_isWord_37 : decode cX7_isWord 37 = .ok (.getfield 9, 3) := by decide +kernel
theorem dX7_isWord_40 : decode cX7_isWord 40 = .ok (.aload_n 0, 1) := by decide +kernel
theorem dX7_isWord_41 : decode cX7_isWord 41 = .ok (.getfield 19, 3) := by decide +kernel
theorem dX7_isWord_44 : decode cX7_isWord 44 = .ok (.iload_n 2, 1) := by decide +kernel
theorem dX7_isWord_45 : decode cX7_isWord 45 = .ok (.iadd, 1) := by decide +kernel
theorem dX7_isWord_46 : decode cX7_isWord 46 = .ok (.baload, 1) := by decide +kernel
theorem dX7_isWord_47 : decode cX7_isWord 47 = .ok (.aload_n 1, 1) := by decide +kernel
theorem dX7_isWord_48 : decode cX7_isWord 48 = .ok (.iload_n 2, 1) := by decide +kernel
theorem dX7_isWord_49 : decode cX7_isWord 49 = .ok (.invokevirtual 64, 3) := by decide +kernel
theorem dX7_isWord_52 : decode cX7_isWord 52 = .ok (.if_icmp .eq 5, 3) := by decide +kernel
theorem dX7_isWord_55 : decode cX7_isWord 55 = .ok (.iconst 0, 1) := by decide +kernel
theorem dX7_isWord_56 : decode cX7_isWord 56 = .ok (.ireturn, 1) := by decide +kernel
theorem dX7_isWord_57 : decode cX7_isWord 57 = .ok (.iinc 2 1, 3) := by decide +kernel
theorem dX7_isWord_60 : decode cX7_isWord 60 = .ok (.goto (-32), 3) := by decide +kernel
theorem dX7_isWord_63 : decode cX7_isWord 63 = .ok (.iconst 1, 1) := by decide +kernel
theorem dX7_isWord_64 : decode cX7_isWord 64 = .ok (.ireturn, 1) := by decide +kernel
theorem dX7_refuse_0 : decode cX7_refuse 0 = .ok (.aload_n 0, 1) := by decide +kernel
theorem dX7_refuse_1 : decode cX7_refuse 1 = .ok (.aload_n 0, 1) := by decide +kernel
theorem dX7_refuse_2 : decode cX7_refuse 2 = .ok (.getfield 25, 3) := by decide +kernel
theorem dX7_refuse_5 : decode cX7_refuse 5 = .ok (.iconst 4, 1) := by decide +kernel
theorem dX7_refuse_6 : decode cX7_refuse 6 = .ok (.if_icmp .ne 7, 3) := by decide +kernel
theorem dX7_refuse_9 : decode cX7_refuse 9 = .ok (.iconst 1, 1) := by decide +kernel
theorem dX7_refuse_10 : decode cX7_refuse 10 = .ok (.goto 4, 3) := by decide +kernel
theorem dX7_refuse_13 : decode cX7_refuse 13 = .ok (.iload_n 1, 1) := by decide +kernel
theorem dX7_refuse_14 : decode cX7_refuse 14 = .ok (.putfield 31, 3) := by decide +kernel
theorem dX7_refuse_17 : decode cX7_refuse 17 = .ok (.aload_n 0, 1) := by decide +kernel
theorem dX7_refuse_18 : decode cX7_refuse 18 = .ok (.aload_n 0, 1) := by decide +kernel
theorem dX7_refuse_19 : decode cX7_refuse 19 = .ok (.getfield 19, 3) := by decide +kernel
theorem dX7_refuse_22 : decode cX7_refuse 22 = .ok (.putfield 34, 3) := by decide +kernel
theorem dX7_refuse_25 : decode cX7_refuse 25 = .ok (.iconst 0, 1) := by decide +kernel
theorem dX7_refuse_26 : decode cX7_refuse 26 = .ok (.ireturn, 1) := by decide +kernel
theorem dX7_takeNumber_0 : decode cX7_takeNumber 0 = .ok (.aload_n 0, 1) := by decide +kernel
theorem dX7_takeNumber_1 : decode cX7_takeNumber 1 = .ok (.getfield 25, 3) := by decide +kernel
theorem dX7_takeNumber_4 : decode cX7_takeNumber 4 = .ok (.iconst 2, 1) := by decide +kernel
theorem dX7_takeNumber_5 : decode cX7_takeNumber 5 = .ok (.if_icmp .ne 11, 3) := by decide +kernel
theorem dX7_takeNumber_8 : decode cX7_takeNumber 8 = .ok (.aload_n 0, 1) := by decide +kernel
theorem dX7_takeNumber_9 : decode cX7_takeNumber 9 = .ok (.getfield 28, 3) := by decide +kernel
theorem dX7_takeNumber_12 : decode cX7_takeNumber 12 = .ok (.iload_n 1, 1) := by decide +kernel
theorem dX7_takeNumber_13 : decode cX7_takeNumber 13 = .ok (.if_icmp .le 23, 3) := by decide +kernel
theorem dX7_takeNumber_16 : decode cX7_takeNumber 16 = .ok (.aload_n 0, 1) := by decide +kernel
theorem dX7_takeNumber_17 : decode cX7_takeNumber 17 = .ok (.aload_n 0, 1) := by decide +kernel
theorem dX7_takeNumber_18 : decode cX7_takeNumber 18 = .ok (.getfield 25, 3) := by decide +kernel
theorem dX7_takeNumber_21 : decode cX7_takeNumber 21 = .ok (.iconst 2, 1) := by decide +kernel
theorem dX7_takeNumber_22 : decode cX7_takeNumber 22 = .ok (.if_icmp .ne 7, 3) := by decide +kernel
theorem dX7_takeNumber_25 : decode cX7_takeNumber 25 = .ok (.iconst 3, 1) := by decide +kernel
theorem dX7_takeNumber_26 : decode cX7_takeNumber 26 = .ok (.goto 4, 3) := by decide +kernel
theorem dX7_takeNumber_29 : decode cX7_takeNumber 29 = .ok (.iconst 2, 1) := by decide +kernel
theorem dX7_takeNumber_30 : decode cX7_takeNumber 30 = .ok (.invokevirtual 72, 3) := by decide +kernel
theorem dX7_takeNumber_33 : decode cX7_takeNumber 33 = .ok (.pop, 1) := by decide +kernel
theorem dX7_takeNumber_34 : decode cX7_takeNumber 34 = .ok (.iconst (-1), 1) := by decide +kernel
theorem dX7_takeNumber_35 : decode cX7_takeNumber 35 = .ok (.ireturn, 1) := by decide +kernel
theorem dX7_takeNumber_36 : decode cX7_takeNumber 36 = .ok (.aload_n 0, 1) := by decide +kernel
theorem dX7_takeNumber_37 : decode cX7_takeNumber 37 = .ok (.getfield 28, 3) := by decide +kernel
theorem dX7_takeNumber_40 : decode cX7_takeNumber 40 = .ok (.istore_n 2, 1) := by decide +kernel
theorem dX7_takeNumber_41 : decode cX7_takeNumber 41 = .ok (.aload_n 0, 1) := by decide +kernel
theorem dX7_takeNumber_42 : decode cX7_takeNumber 42 = .ok (.invokevirtual 43, 3) := by decide +kernel
theorem dX7_takeNumber_45 : decode cX7_takeNumber 45 = .ok (.iload_n 2, 1) := by decide +kernel
theorem dX7_takeNumber_46 : decode cX7_takeNumber 46 = .ok (.ireturn, 1) := by decide +kernel
theorem dX7_takeSign_0 : decode cX7_takeSign 0 = .ok (.aload_n 0, 1) := by decide +kernel
theorem dX7_takeSign_1 : decode cX7_takeSign 1 = .ok (.iload_n 1, 1) := by decide +kernel
theorem dX7_takeSign_2 : decode cX7_takeSign 2 = .ok (.invokevirtual 75, 3) := by decide +kernel
theorem dX7_takeSign_5 : decode cX7_takeSign 5 = .ok (.ifCond .ne 9, 3) := by decide +kernel
theorem dX7_takeSign_8 : decode cX7_takeSign 8 = .ok (.aload_n 0, 1) := by decide +kernel
theorem dX7_takeSign_9 : decode cX7_takeSign 9 = .ok (.iconst 2, 1) := by decide +kernel
theorem dX7_takeSign_10 : decode cX7_takeSign 10 = .ok (.invokevirtual 72, 3) := by decide +kernel
theorem dX7_takeSign_13 : decode cX7_takeSign 13 = .ok (.ireturn, 1) := by decide +kernel
theorem dX7_takeSign_14 : decode cX7_takeSign 14 = .ok (.aload_n 0, 1) := by decide +kernel
theorem dX7_takeSign_15 : decode cX7_takeSign 15 = .ok (.invokevirtual 43, 3) := by decide +kernel
theorem dX7_takeSign_18 : decode cX7_takeSign 18 = .ok (.iconst 1, 1) := by decide +kernel
theorem dX7_takeSign_19 : decode cX7_takeSign 19 = .ok (.ireturn, 1) := by decide +kernel
theorem dX7_takeWord_0 : decode cX7_takeWord 0 = .ok (.aload_n 0, 1) := by decide +kernel
theorem dX7_takeWord_1 : decode cX7_takeWord 1 = .ok (.aload_n 1, 1) := by decide +kernel
theorem dX7_takeWord_2 : decode cX7_takeWord 2 = .ok (.invokevirtual 68, 3) := by decide +kernel
theorem dX7_takeWord_5 : decode cX7_takeWord 5 = .ok (.ifCond .ne 9, 3) := by decide +kernel
theorem dX7_takeWord_8 : decode cX7_takeWord 8 = .ok (.aload_n 0, 1) := by decide +kernel
theorem dX7_takeWord_9 : decode cX7_takeWord 9 = .ok (.iconst 2, 1) := by decide +kernel
theorem dX7_takeWord_10 : decode cX7_takeWord 10 = .ok (.invokevirtual 72, 3) := by decide +kernel
theorem dX7_takeWord_13 : decode cX7_takeWord 13 = .ok (.ireturn, 1) := by decide +kernel
theorem dX7_takeWord_14 : decode cX7_takeWord 14 = .ok (.aload_n 0, 1) := by decide +kernel
theorem dX7_takeWord_15 : decode cX7_takeWord 15 = .ok (.invokevirtual 43, 3) := by decide +kernel
theorem dX7_takeWord_18 : decode cX7_takeWord 18 = .ok (.iconst 1, 1) := by decide +kernel
theorem dX7_takeWord_19 : decode cX7_takeWord 19 = .ok (.ireturn, 1) := by decide +kernel
theorem kw_54 : Cond.fieldLink "FootholdWall$Tokens" 31 "FootholdWall$Tokens" "fault" "I" ∈ gw := gw_of (tb_of 54 (by decide +kernel)) (by decide +kernel)
theorem kw_56 : Cond.fieldLink "FootholdWall$Tokens" 34 "FootholdWall$Tokens" "place" "I" ∈ gw := gw_of (tb_of 56 (by decide +kernel)) (by decide +kernel)
theorem kw_452 : Cond.methodLink "FootholdWall$Tokens" 43 yX7_go ∈ gw := gw_of (tb_of 452 (by decide +kernel)) (by decide +kernel)
theorem kw_453 : Cond.instanceMethod yX7_go ∈ gw := gw_of (tb_of 453 (by decide +kernel)) (by decide +kernel)
theorem kw_454 : Cond.selects "FootholdWall$Tokens" yX7_go yX7_go ∈ gw := gw_of (tb_of 454 (by decide +kernel)) (by decide +kernel)
theorem kw_455 : Cond.code yX7_go cX7_go 1 none ∈ gw := gw_of (tb_of 455 (by decide +kernel)) (by decide +kernel)
theorem kw_551 : Cond.instanceMethod yX7_isWord ∈ gw := gw_of (tb_of 551 (by decide +kernel)) (by decide +kernel)
theorem kw_552 : Cond.selects "FootholdWall$Tokens" yX7_isWord yX7_isWord ∈ gw := gw_of (tb_of 552 (by decide +kernel)) (by decide +kernel)
theorem kw_553 : Cond.code yX7_isWord cX7_isWord 3 (some (.boolean)) ∈ gw := gw_of (tb_of 553 (by decide +kernel)) (by decide +kernel)
theorem kw_554 : Cond.methodLink "FootholdWall$Tokens" 61 yJ0_length_8abf5 ∈ gw := gw_of (tb_of 554 (by decide +kernel)) (by decide +kernel)
theorem kw_555 : Cond.methodLink "FootholdWall$Tokens" 64 yJ0_charAt_5068e ∈ gw := gw_of (tb_of 555 (by decide +kernel)) (by decide +kernel)
theorem kw_556 : Cond.instanceMethod yJ0_charAt_5068e ∈ gw := gw_of (tb_of 556 (by decide +kernel)) (by decide +kernel)
theorem kw_557 : Cond.selects "java/lang/String" yJ0_charAt_5068e yJ0_charAt_5068e ∈ gw := gw_of (tb_of 557 (by decide +kernel)) (by decide +kernel)
theorem kw_558 : Cond.code yJ0_charAt_5068e cJ0_charAt_5068e 2 (some (.char)) ∈ gw := gw_of (tb_of 558 (by decide +kernel)) (by decide +kernel)
theorem kw_580 : Cond.instanceMethod yX7_refuse ∈ gw := gw_of (tb_of 580 (by decide +kernel)) (by decide +kernel)
theorem kw_581 : Cond.selects "FootholdWall$Tokens" yX7_refuse yX7_refuse ∈ gw := gw_of (tb_of 581 (by decide +kernel)) (by decide +kernel)
theorem kw_582 : Cond.code yX7_refuse cX7_refuse 2 (some (.boolean)) ∈ gw := gw_of (tb_of 582 (by decide +kernel)) (by decide +kernel)
theorem kw_588 : Cond.methodLink "FootholdWall$Tokens" 72 yX7_refuse ∈ gw := gw_of (tb_of 588 (by decide +kernel)) (by decide +kernel)
theorem kw_607 : Cond.methodLink "FootholdWall$Tokens" 68 yX7_isWord ∈ gw := gw_of (tb_of 607 (by decide +kernel)) (by decide +kernel)
theorem kw_614 : Cond.methodLink "FootholdWall$Tokens" 75 yX7_isSign ∈ gw := gw_of (tb_of 614 (by decide +kernel)) (by decide +kernel)
theorem kw_615 : Cond.instanceMethod yX7_isSign ∈ gw := gw_of (tb_of 615 (by decide +kernel)) (by decide +kernel)
theorem kw_616 : Cond.selects "FootholdWall$Tokens" yX7_isSign yX7_isSign ∈ gw := gw_of (tb_of 616 (by decide +kernel)) (by decide +kernel)
theorem kw_617 : Cond.code yX7_isSign cX7_isSign 2 (some (.boolean)) ∈ gw := gw_of (tb_of 617 (by decide +kernel)) (by decide +kernel)
