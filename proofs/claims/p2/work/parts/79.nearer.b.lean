set_option maxHeartbeats 4000000 in
set_option maxRecDepth 100000 in
theorem s_M_nearer (l : Launch) (D : va_G) (cs : CS) (kf : KF) (T : TF) (O : List Nat) (X : va_W) (a0 hg mq : Nat) (x1 : Int32) (x2 : Int32) (f18 : Nat → Int32) (f17 : Nat → Int32) (f1 : Nat → Int32) (o0 : Value) (y1 : Nat) (o2 : Value) (o3 : Value) (o4 : Value) (o5 : Value) (o6 : Value) (o7 : Value) (o8 : Value) (o9 : Value) (o10 : Value) (o11 : Value) (o12 : Value) (o13 : Value) (o14 : Value) (o15 : Value) (o16 : Value) (y17 : Nat) (y18 : Nat) (tl : List Value) (t_a0 : T a0 = some (22, hg, mq)) (b_hg : hg < 90) (s_f1 : B8 3906 f1) (g_f1 : f1 1 = nI (hg / 6) ∧ f1 2 = nI (hg % 6)) (t_y1 : T y1 = some (8, 3906, hg)) (t_y17 : T y17 = some (9, 14, 1)) (t_y18 : T y18 = some (9, 14, 8)) (hO : okO T (y18 :: y17 :: y1 :: a0 :: O) []) : TK l D cs kf yX12_nearer cX12_nearer 4 (some (.int)) { frames := 1, cells := 0, slots := 0, locals := 22 } [.ref a0, .int x1, .int x2] T (y18 :: y17 :: y1 :: a0 :: O) ((y18, .inl (cs.2.1, 14, .inl f18)) :: (y17, .inl (cs.2.1, 14, .inl f17)) :: (y1, .inl (cs.2.1, 3906, .inl f1)) :: (a0, .inr (12, o0 :: (.ref y1) :: o2 :: o3 :: o4 :: o5 :: o6 :: o7 :: o8 :: o9 :: o10 :: o11 :: o12 :: o13 :: o14 :: o15 :: o16 :: (.ref y17) :: (.ref y18) :: tl)) :: X) (Ti D cs (fun r u => u = (T, y18 :: y17 :: y1 :: a0 :: O, (y18, .inl (cs.2.1, 14, .inl f18)) :: (y17, .inl (cs.2.1, 14, .inl f17)) :: (y1, .inl (cs.2.1, 3906, .inl f1)) :: (a0, .inr (12, o0 :: (.ref y1) :: o2 :: o3 :: o4 :: o5 :: o6 :: o7 :: o8 :: o9 :: o10 :: o11 :: o12 :: o13 :: o14 :: o15 :: o16 :: (.ref y17) :: (.ref y18) :: tl)) :: X) ∧ -1 ≤ r.toInt ∧ r.toInt ≤ 13 ∧ (NR (hg / 6) x1 x2 f18 r))) := by
  refine tk_of (by decide) (Nat.le_of_ble_eq_true rfl) (fun p e s m below meth c ls A H locs hx hb hr hml hown hts hlocks hnm hkb hH hS hA hOX hks hE hl => ?_)
  have hown : s.vm.findClass RX12 = some m.cls := hown
  have hl : lv_has ls 4 [(0, .ref a0), (1, .int x1), (2, .int x2)] := hl
  have hOXf := hOX
  refine lv_iconst (v := 0) hx hb dX12_nearer_0 (by decide) ?_
  have J2 : ∀ (n : Nat) (p2_3 : Int32) (H : Heap) (locs : List Loc) (ls : Array Slot), (14 - p2_3.toInt).toNat = n → (0 ≤ p2_3.toInt) → (p2_3.toInt ≤ 14) → (NRi x1 x2 f18 p2_3.toInt.toNat) → HT D cs A T (y18 :: y17 :: y1 :: a0 :: O) ((y18, .inl (cs.2.1, 14, .inl f18)) :: (y17, .inl (cs.2.1, 14, .inl f17)) :: (y1, .inl (cs.2.1, 3906, .inl f1)) :: (a0, .inr (12, o0 :: (.ref y1) :: o2 :: o3 :: o4 :: o5 :: o6 :: o7 :: o8 :: o9 :: o10 :: o11 :: o12 :: o13 :: o14 :: o15 :: o16 :: (.ref y17) :: (.ref y18) :: tl)) :: X) H → va_S A s.heap H locs → lv_has ls 4 [(3, .int p2_3), (0, .ref a0), (1, .int x1), (2, .int x2)] → W p l e { frames := 1, cells := 0, slots := 0, locals := 22 } s m [.ref a0, .int x1, .int x2].toArray below meth c H locs 0 0 (MQ below (Ti D cs (fun r u => u = (T, y18 :: y17 :: y1 :: a0 :: O, (y18, .inl (cs.2.1, 14, .inl f18)) :: (y17, .inl (cs.2.1, 14, .inl f17)) :: (y1, .inl (cs.2.1, 3906, .inl f1)) :: (a0, .inr (12, o0 :: (.ref y1) :: o2 :: o3 :: o4 :: o5 :: o6 :: o7 :: o8 :: o9 :: o10 :: o11 :: o12 :: o13 :: o14 :: o15 :: o16 :: (.ref y17) :: (.ref y18) :: tl)) :: X) ∧ -1 ≤ r.toInt ∧ r.toInt ≤ 13 ∧ (NR (hg / 6) x1 x2 f18 r)) A) [.ref a0, .int x1, .int x2].toArray s 0 0 A) (F0 m 2 ls []) := by
    intro n
    induction n using Nat.strongRecOn with
    | _ n ih2 =>
      intro p2_3 H locs ls hm2 l_p2_3 u_p2_3 i2n hH hS hl
      refine lv_iload_n hx hb dX12_nearer_2 rfl (lv_at hl 0 rfl) ?_
      refine lv_aload_n hx hb dX12_nearer_3 rfl (lv_at hl 1 rfl) ?_
      refine x_getk (ci := 12) (C := RX12) (F := TX12) (N := 36) (v := .ref y1) hx hb hts uX12 hown hkb hH 3 rfl rfl 1 (by decide) rfl kw_1224 (fun _ h9 => h9) dX12_nearer_4 ?_
      refine lv_iconst (v := 1) hx hb dX12_nearer_7 (by decide) ?_
      refine xa_ild hx hb hkb hH 2 rfl (by decide) (by decide) dX12_nearer_8 ?_
      refine lv_topi (fun v8 ev8 => ?_)
      have tv8 : v8 = f1 1 := by rw [ev8]; rfl
      have bv8 : 0 ≤ v8.toInt ∧ v8.toInt ≤ 14 := by rw [ev8]; exact (s_f1.at (by decide) 1).1 (by decide)
      have hv8 : v8.toInt = ((hg / 6 : Nat) : Int) := by rw [tv8, g_f1.1]; exact nI_toInt (by omega)
      refine lv_icmp_ge (tgt := 39) hx hb dX12_nearer_9 (by decide) (fun c9 => ?_) (fun c9 => ?_)
      · skip
        have fuc9 := full_i p2_3
        have fvc9 := full_i v8
        have tc9 := g_le c9
        refine lv_iconst (v := (-1)) hx hb dX12_nearer_39 (by decide) ?_
        have z9_m1 : ((-1) : Int32).toInt = -1 := by decide
        exact te_i hx hb hr hlocks hH hS (⟨rfl, by decide, by decide, (Or.inl ⟨by decide, fun h hh => i2n h (by omega)⟩)⟩) dX12_nearer_40
      · skip
        have fuc9 := full_i p2_3
        have fvc9 := full_i v8
        have tc9 := g_nle c9
        refine lv_iload_n hx hb dX12_nearer_12 rfl (lv_at hl 2 rfl) ?_
        refine lv_i2l hx hb dX12_nearer_13 rfl ?_
        refine lv_iload_n hx hb dX12_nearer_14 rfl (lv_at hl 0 rfl) ?_
        refine tk_i hH hS hA (tr_S (n := 2) (As := [.long x1.toInt64, .int p2_3]) hx hb hml hown hts hkb hH (ox_map hOX rfl) hks hE hS hA (s_M_isIn2 l D cs kf T (y18 :: y17 :: y1 :: a0 :: O) ((y18, .inl (cs.2.1, 14, .inl f18)) :: (y17, .inl (cs.2.1, 14, .inl f17)) :: (y1, .inl (cs.2.1, 3906, .inl f1)) :: (a0, .inr (12, o0 :: (.ref y1) :: o2 :: o3 :: o4 :: o5 :: o6 :: o7 :: o8 :: o9 :: o10 :: o11 :: o12 :: o13 :: o14 :: o15 :: o16 :: (.ref y17) :: (.ref y18) :: tl)) :: X) x1.toInt64 p2_3  (hO.sub (by decide))) kw_1440 kw_1441 kw_13 kw_1442 (by decide +kernel) ⟨Nat.le_of_ble_eq_true rfl, Nat.le_of_ble_eq_true rfl⟩ rfl rfl hl.1 (Nat.le_of_ble_eq_true rfl) dX12_nearer_15 ⟨Nat.le_of_ble_eq_true rfl, Nat.le_of_ble_eq_true rfl⟩) (fun v15 u H locs hz9 hH hS => ?_)
        obtain ⟨rfl, l_v15, u_v15, x_v150⟩ := hz9
        have hH : HT D cs A T (y18 :: y17 :: y1 :: a0 :: O) ((y18, .inl (cs.2.1, 14, .inl f18)) :: (y17, .inl (cs.2.1, 14, .inl f17)) :: (y1, .inl (cs.2.1, 3906, .inl f1)) :: (a0, .inr (12, o0 :: (.ref y1) :: o2 :: o3 :: o4 :: o5 :: o6 :: o7 :: o8 :: o9 :: o10 :: o11 :: o12 :: o13 :: o14 :: o15 :: o16 :: (.ref y17) :: (.ref y18) :: tl)) :: X) H := hH
        refine W.widen (k := 0) (n := 0) (Nat.le_of_ble_eq_true rfl) (Nat.le_of_ble_eq_true rfl) ?_
        refine lv_if_eq (tgt := 33) hx hb dX12_nearer_18 (by decide) (fun c18 => ?_) (fun c18 => ?_)
        · skip
          have tc18 := f_eq (k := 0) (by decide) c18
          obtain ⟨v33, ev33⟩ : ∃ y : Int32, y = p2_3 + 1 := ⟨_, rfl⟩
          have tv33 : v33.toInt = p2_3.toInt + (1) := by rw [ev33]; exact add_i rfl (by decide) (by omega) (by omega)
          refine lv_iinc (v := v33) (lv' := [(3, .int v33), (0, .ref a0), (1, .int x1), (2, .int x2)]) hx hb dX12_nearer_33 hl (k := 0) rfl (by rw [ev33]; rfl) (by decide) rfl (fun ls hl => ?_)
          refine lv_goto (tgt := 2) hx hb dX12_nearer_36 (by decide) ?_
          exact ih2 _ (by omega) v33 _ _ _ rfl (by omega) (by omega) (by first | (refine NRi_0 ?_; decide) | (refine NRi_s (a := p2_3) i2n ?_ tv33 (Or.inl (inF_z x_v150 tc18)); omega) | (refine NRi_s i2n ?_ tv33 (Or.inr ⟨tv26, tc28⟩); omega)) hH hS (lv_sub hl [0, 1, 2, 3] rfl)
        · skip
          have tc18 := f_ne (k := 0) (by decide) c18
          refine lv_aload_n hx hb dX12_nearer_21 rfl (lv_at hl 1 rfl) ?_
          refine x_getk (ci := 12) (C := RX12) (F := TX12) (N := 36) (v := .ref y18) hx hb hts uX12 hown hkb hH 3 rfl rfl 18 (by decide) rfl kw_1241 (fun _ h9 => h9) dX12_nearer_22 ?_
          refine lv_iload_n hx hb dX12_nearer_25 rfl (lv_at hl 0 rfl) ?_
          refine xa_ild hx hb hkb hH 0 rfl (by omega) (by omega) dX12_nearer_26 ?_
          refine lv_topi (fun v26 ev26 => ?_)
          have tv26 : v26 = f18 p2_3.toInt.toNat := ev26
          refine lv_iload_n hx hb dX12_nearer_27 rfl (lv_at hl 3 rfl) ?_
          refine lv_icmp_ne (tgt := 33) hx hb dX12_nearer_28 (by decide) (fun c28 => ?_) (fun c28 => ?_)
          · skip
            have fuc28 := full_i v26
            have fvc28 := full_i x2
            have tc28 := g_ne c28
            obtain ⟨v33, ev33⟩ : ∃ y : Int32, y = p2_3 + 1 := ⟨_, rfl⟩
            have tv33 : v33.toInt = p2_3.toInt + (1) := by rw [ev33]; exact add_i rfl (by decide) (by omega) (by omega)
            refine lv_iinc (v := v33) (lv' := [(3, .int v33), (0, .ref a0), (1, .int x1), (2, .int x2)]) hx hb dX12_nearer_33 hl (k := 0) rfl (by rw [ev33]; rfl) (by decide) rfl (fun ls hl => ?_)
            refine lv_goto (tgt := 2) hx hb dX12_nearer_36 (by decide) ?_
            exact ih2 _ (by omega) v33 _ _ _ rfl (by omega) (by omega) (by first | (refine NRi_0 ?_; decide) | (refine NRi_s (a := p2_3) i2n ?_ tv33 (Or.inl (inF_z x_v150 tc18)); omega) | (refine NRi_s i2n ?_ tv33 (Or.inr ⟨tv26, tc28⟩); omega)) hH hS (lv_sub hl [0, 1, 2, 3] rfl)
          · skip
            have fuc28 := full_i v26
            have fvc28 := full_i x2
            have tc28 := g_eq c28
            refine lv_iload_n hx hb dX12_nearer_31 rfl (lv_at hl 0 rfl) ?_
            exact te_i hx hb hr hlocks hH hS (⟨rfl, by omega, by omega, (Or.inr ⟨by omega, by omega, inF_nz x_v150 tc18, by rw [← tv26]; omega⟩)⟩) dX12_nearer_32
  refine lv_istore_n (lv' := [(3, .int 0), (0, .ref a0), (1, .int x1), (2, .int x2)]) hx hb dX12_nearer_1 rfl hl (by decide) rfl (fun ls hl => ?_)
  have z_0 : (0 : Int32).toInt = 0 := by decide
  exact J2 _ 0 _ _ _ rfl (by decide) (by decide) (by first | (refine NRi_0 ?_; decide) | (refine NRi_s (a := p2_3) i2n ?_ tv33 (Or.inl (inF_z x_v150 tc18)); omega) | (refine NRi_s i2n ?_ tv33 (Or.inr ⟨tv26, tc28⟩); omega)) hH hS (lv_sub hl [0, 1, 2, 3] rfl)
