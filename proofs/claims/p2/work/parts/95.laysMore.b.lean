set_option maxHeartbeats 4000000 in
set_option maxRecDepth 100000 in
theorem s_M_laysMoreX (l : Launch) (D : va_G) (cs : CS) (kf : KF) (T : TF) (O : List Nat) (X : va_W) (a0 hg mq : Nat) (x1 : Int32) (x2 : Int32) (f1 : Nat → Int32) (o0 : Value) (y1 : Nat) (o2 : Value) (o3 : Value) (o4 : Value) (o5 : Value) (o6 : Value) (o7 : Value) (o8 : Value) (o9 : Value) (o10 : Value) (o11 : Value) (o12 : Value) (o13 : Value) (o14 : Value) (y15 : Nat) (y16 : Int32) (y17 : Nat) (o18 : Value) (o19 : Value) (o20 : Value) (o21 : Value) (o22 : Value) (o23 : Value) (o24 : Value) (o25 : Value) (o26 : Value) (o27 : Value) (y28 : Nat) (tl : List Value) (f28 : Nat → Int32) (f17 : Nat → Int32) (t_a0 : T a0 = some (22, hg, mq)) (b_hg : hg < 90) (l_x1 : 0 ≤ x1.toInt) (u_x1 : x1.toInt ≤ 16383) (s_f1 : B8 3906 f1) (g_f1 : f1 1 = nI (hg / 6) ∧ f1 2 = nI (hg % 6)) (t_y1 : T y1 = some (8, 3906, hg)) (t_y15 : T y15 = some (1, 900, 0)) (t_y17 : T y17 = some (9, 14, 1)) (t_y28 : T y28 = some (0, 229376, 0)) (hO : okO T (y1 :: a0 :: y28 :: y17 :: O) []) : TK l D cs kf yX12_laysMore cX12_laysMore 8 none { frames := 1, cells := 0, slots := 0, locals := 22 } [.ref a0, .int x1, .int x2] T (y1 :: a0 :: y28 :: y17 :: O) ((y1, .inl (cs.2.1, 3906, .inl f1)) :: (a0, .inr (12, o0 :: (.ref y1) :: o2 :: o3 :: o4 :: o5 :: o6 :: o7 :: o8 :: o9 :: o10 :: o11 :: o12 :: o13 :: o14 :: (.ref y15) :: (.int y16) :: (.ref y17) :: o18 :: o19 :: o20 :: o21 :: o22 :: o23 :: o24 :: o25 :: o26 :: o27 :: (.ref y28) :: tl)) :: (y28, .inl (cs.1, 229376, .inl f28)) :: (y17, .inl (cs.2.1, 14, .inl f17)) :: X) (Tv D cs (fun u => ∃ (G2 : Nat → Int32), u = (T, y1 :: a0 :: y28 :: y17 :: O, (y1, .inl (cs.2.1, 3906, .inl f1)) :: (a0, .inr (12, o0 :: (.ref y1) :: o2 :: o3 :: o4 :: o5 :: o6 :: o7 :: o8 :: o9 :: o10 :: o11 :: o12 :: o13 :: o14 :: (.ref y15) :: (.int y16) :: (.ref y17) :: o18 :: o19 :: o20 :: o21 :: o22 :: o23 :: o24 :: o25 :: o26 :: o27 :: (.ref y28) :: tl)) :: (y28, .inl (cs.1, 229376, .inl G2)) :: (y17, .inl (cs.2.1, 14, .inl f17)) :: X) ∧ (WS (hg / 6) x1.toInt.toNat f17 G2 0))) := by
  refine tk_of (by decide) (Nat.le_of_ble_eq_true rfl) (fun p e s m below meth c ls A H locs hx hb hr hml hown hts hlocks hnm hkb hH hS hA hOX hks hE hl => ?_)
  have hown : s.vm.findClass RX12 = some m.cls := hown
  have hl : lv_has ls 8 [(0, .ref a0), (1, .int x1), (2, .int x2)] := hl
  have hOXf := hOX
  refine lv_iconst (v := 1) hx hb dX12_laysMore_0 (by decide) ?_
  refine lv_aload_n hx hb dX12_laysMore_1 rfl (lv_at hl 0 rfl) ?_
  refine x_getk (ci := 12) (C := RX12) (F := TX12) (N := 36) (v := .ref y1) hx hb hts uX12 hown hkb hH 1 rfl rfl 1 (by decide) rfl kw_1224 (fun _ h9 => h9) dX12_laysMore_2 ?_
  refine lv_iconst (v := 1) hx hb dX12_laysMore_5 (by decide) ?_
  refine xa_ild hx hb hkb hH 0 rfl (by decide) (by decide) dX12_laysMore_6 ?_
  refine lv_topi (fun v6 ev6 => ?_)
  have tv6 : v6 = f1 1 := by rw [ev6]; rfl
  have bv6 : 0 ≤ v6.toInt ∧ v6.toInt ≤ 14 := by rw [ev6]; exact (s_f1.at (by decide) 1).1 (by decide)
  have hv6 : v6.toInt = ((hg / 6 : Nat) : Int) := by rw [tv6, g_f1.1]; exact nI_toInt (by omega)
  refine lv_ishl hx hb dX12_laysMore_7 ?_
  refine lv_topi (fun v7 ev7 => ?_)
  have tv7 : 1 ≤ v7.toInt ∧ v7.toInt ≤ 16384 := by rw [ev7]; exact shl_b 14 (by decide) (by omega) (by omega)
  refine lv_iconst (v := 1) hx hb dX12_laysMore_8 (by decide) ?_
  refine lv_isub hx hb dX12_laysMore_9 ?_
  refine lv_topi (fun v9 ev9 => ?_)
  have tv9 : v9.toInt = v7.toInt - (1) := by rw [ev9]; exact sub_i rfl (by decide : (1 : Int32).toInt = 1) (by omega) (by omega)
  have J11 : ∀ (n : Nat) (p11_3 : Int32) (g11_2 : Nat → Int32) (H : Heap) (locs : List Loc) (ls : Array Slot), (p11_3.toInt - (0)).toNat = n → (0 ≤ p11_3.toInt) → (p11_3.toInt ≤ 16383) → (L11 hg x1 f17 g11_2 p11_3) → HT D cs A T (y1 :: a0 :: y28 :: y17 :: O) ((y1, .inl (cs.2.1, 3906, .inl f1)) :: (a0, .inr (12, o0 :: (.ref y1) :: o2 :: o3 :: o4 :: o5 :: o6 :: o7 :: o8 :: o9 :: o10 :: o11 :: o12 :: o13 :: o14 :: (.ref y15) :: (.int y16) :: (.ref y17) :: o18 :: o19 :: o20 :: o21 :: o22 :: o23 :: o24 :: o25 :: o26 :: o27 :: (.ref y28) :: tl)) :: (y28, .inl (cs.1, 229376, .inl g11_2)) :: (y17, .inl (cs.2.1, 14, .inl f17)) :: X) H → va_S A s.heap H locs → lv_has ls 8 [(3, .int p11_3), (0, .ref a0), (1, .int x1), (2, .int x2)] → W p l e { frames := 1, cells := 0, slots := 0, locals := 22 } s m [.ref a0, .int x1, .int x2].toArray below meth c H locs 0 0 (MQ below (Tv D cs (fun u => ∃ (G2 : Nat → Int32), u = (T, y1 :: a0 :: y28 :: y17 :: O, (y1, .inl (cs.2.1, 3906, .inl f1)) :: (a0, .inr (12, o0 :: (.ref y1) :: o2 :: o3 :: o4 :: o5 :: o6 :: o7 :: o8 :: o9 :: o10 :: o11 :: o12 :: o13 :: o14 :: (.ref y15) :: (.int y16) :: (.ref y17) :: o18 :: o19 :: o20 :: o21 :: o22 :: o23 :: o24 :: o25 :: o26 :: o27 :: (.ref y28) :: tl)) :: (y28, .inl (cs.1, 229376, .inl G2)) :: (y17, .inl (cs.2.1, 14, .inl f17)) :: X) ∧ (WS (hg / 6) x1.toInt.toNat f17 G2 0)) A) [.ref a0, .int x1, .int x2].toArray s 0 0 A) (F0 m 11 ls []) := by
    intro n
    induction n using Nat.strongRecOn with
    | _ n ih11 =>
      intro p11_3 g11_2 H locs ls hm11 l_p11_3 u_p11_3 i11 hH hS hl
      refine lv_iload_n hx hb dX12_laysMore_11 rfl (lv_at hl 0 rfl) ?_
      refine lv_if_le (tgt := 202) hx hb dX12_laysMore_12 (by decide) (fun c12 => ?_) (fun c12 => ?_)
      · skip
        have tc12 := f_le (k := 0) (by decide) c12
        exact te_v hx hb hr hlocks hH hS (⟨g11_2, rfl, (L11_end i11 (by omega))⟩) dX12_laysMore_202
      · skip
        have tc12 := f_nle (k := 0) (by decide) c12
        refine lv_iload_n hx hb dX12_laysMore_15 rfl (lv_at hl 0 rfl) ?_
        refine lv_iload_n hx hb dX12_laysMore_16 rfl (lv_at hl 2 rfl) ?_
        refine lv_iconst (v := (-1)) hx hb dX12_laysMore_17 (by decide) ?_
        refine lv_ixor hx hb dX12_laysMore_18 ?_
        refine lv_topi (fun v18 ev18 => ?_)
        refine lv_iand hx hb dX12_laysMore_19 ?_
        refine lv_topi (fun v19 ev19 => ?_)
        have tv19 : 0 ≤ v19.toInt ∧ v19.toInt ≤ p11_3.toInt := by rw [ev19]; exact and_l (by omega)
        have J196 : ∀ (g196_2 : Nat → Int32) (H : Heap) (locs : List Loc) (ls : Array Slot), (L96 hg x1 f17 g196_2 p11_3) → HT D cs A T (y1 :: a0 :: y28 :: y17 :: O) ((y1, .inl (cs.2.1, 3906, .inl f1)) :: (a0, .inr (12, o0 :: (.ref y1) :: o2 :: o3 :: o4 :: o5 :: o6 :: o7 :: o8 :: o9 :: o10 :: o11 :: o12 :: o13 :: o14 :: (.ref y15) :: (.int y16) :: (.ref y17) :: o18 :: o19 :: o20 :: o21 :: o22 :: o23 :: o24 :: o25 :: o26 :: o27 :: (.ref y28) :: tl)) :: (y28, .inl (cs.1, 229376, .inl g196_2)) :: (y17, .inl (cs.2.1, 14, .inl f17)) :: X) H → va_S A s.heap H locs → lv_has ls 8 [(3, .int p11_3), (0, .ref a0), (1, .int x1), (2, .int x2)] → W p l e { frames := 1, cells := 0, slots := 0, locals := 22 } s m [.ref a0, .int x1, .int x2].toArray below meth c H locs 0 0 (MQ below (Tv D cs (fun u => ∃ (G2 : Nat → Int32), u = (T, y1 :: a0 :: y28 :: y17 :: O, (y1, .inl (cs.2.1, 3906, .inl f1)) :: (a0, .inr (12, o0 :: (.ref y1) :: o2 :: o3 :: o4 :: o5 :: o6 :: o7 :: o8 :: o9 :: o10 :: o11 :: o12 :: o13 :: o14 :: (.ref y15) :: (.int y16) :: (.ref y17) :: o18 :: o19 :: o20 :: o21 :: o22 :: o23 :: o24 :: o25 :: o26 :: o27 :: (.ref y28) :: tl)) :: (y28, .inl (cs.1, 229376, .inl G2)) :: (y17, .inl (cs.2.1, 14, .inl f17)) :: X) ∧ (WS (hg / 6) x1.toInt.toNat f17 G2 0)) A) [.ref a0, .int x1, .int x2].toArray s 0 0 A) (F0 m 196 ls []) := by
          intro g196_2 H locs ls i196 hH hS hl
          obtain ⟨v196, ev196⟩ : ∃ y : Int32, y = p11_3 + (-1) := ⟨_, rfl⟩
          have tv196 : v196.toInt = p11_3.toInt + (-1) := by rw [ev196]; exact add_i rfl (by decide) (by omega) (by omega)
          refine lv_iinc (v := v196) (lv' := [(3, .int v196), (0, .ref a0), (1, .int x1), (2, .int x2)]) hx hb dX12_laysMore_196 hl (k := 0) rfl (by rw [ev196]; rfl) (by decide) rfl (fun ls hl => ?_)
          refine lv_goto (tgt := 11) hx hb dX12_laysMore_199 (by decide) ?_
          exact ih11 _ (by omega) v196 g196_2 _ _ _ rfl (by omega) (by omega) (by first | exact (L11_n i196 tv196) | exact (L11_0 hv9 tv9)) hH hS (lv_sub hl [0, 1, 2, 3] rfl)
        refine lv_if_eq (tgt := 26) hx hb dX12_laysMore_20 (by decide) (fun c20 => ?_) (fun c20 => ?_)
        · skip
          have tc20 := f_eq (k := 0) (by decide) c20
          refine lv_iconst (v := 0) hx hb dX12_laysMore_26 (by decide) ?_
          have J29 : ∀ (n : Nat) (p29_4 : Int32) (g29_2 : Nat → Int32) (H : Heap) (locs : List Loc) (ls : Array Slot), (14 - p29_4.toInt).toNat = n → (0 ≤ p29_4.toInt) → (p29_4.toInt ≤ 14) → (L29 hg x1 f17 g29_2 p11_3 p29_4.toInt.toNat) → HT D cs A T (y1 :: a0 :: y28 :: y17 :: O) ((y1, .inl (cs.2.1, 3906, .inl f1)) :: (a0, .inr (12, o0 :: (.ref y1) :: o2 :: o3 :: o4 :: o5 :: o6 :: o7 :: o8 :: o9 :: o10 :: o11 :: o12 :: o13 :: o14 :: (.ref y15) :: (.int y16) :: (.ref y17) :: o18 :: o19 :: o20 :: o21 :: o22 :: o23 :: o24 :: o25 :: o26 :: o27 :: (.ref y28) :: tl)) :: (y28, .inl (cs.1, 229376, .inl g29_2)) :: (y17, .inl (cs.2.1, 14, .inl f17)) :: X) H → va_S A s.heap H locs → lv_has ls 8 [(4, .int p29_4), (3, .int p11_3), (0, .ref a0), (1, .int x1), (2, .int x2)] → W p l e { frames := 1, cells := 0, slots := 0, locals := 22 } s m [.ref a0, .int x1, .int x2].toArray below meth c H locs 0 0 (MQ below (Tv D cs (fun u => ∃ (G2 : Nat → Int32), u = (T, y1 :: a0 :: y28 :: y17 :: O, (y1, .inl (cs.2.1, 3906, .inl f1)) :: (a0, .inr (12, o0 :: (.ref y1) :: o2 :: o3 :: o4 :: o5 :: o6 :: o7 :: o8 :: o9 :: o10 :: o11 :: o12 :: o13 :: o14 :: (.ref y15) :: (.int y16) :: (.ref y17) :: o18 :: o19 :: o20 :: o21 :: o22 :: o23 :: o24 :: o25 :: o26 :: o27 :: (.ref y28) :: tl)) :: (y28, .inl (cs.1, 229376, .inl G2)) :: (y17, .inl (cs.2.1, 14, .inl f17)) :: X) ∧ (WS (hg / 6) x1.toInt.toNat f17 G2 0)) A) [.ref a0, .int x1, .int x2].toArray s 0 0 A) (F0 m 29 ls []) := by
            intro n
            induction n using Nat.strongRecOn with
            | _ n ih29 =>
              intro p29_4 g29_2 H locs ls hm29 l_p29_4 u_p29_4 i29 hH hS hl
              refine lv_iload hx hb dX12_laysMore_29 (lv_at hl 0 rfl) ?_
              refine lv_aload_n hx hb dX12_laysMore_31 rfl (lv_at hl 2 rfl) ?_
              refine x_getk (ci := 12) (C := RX12) (F := TX12) (N := 36) (v := .ref y1) hx hb hts uX12 hown hkb hH 1 rfl rfl 1 (by decide) rfl kw_1224 (fun _ h9 => h9) dX12_laysMore_32 ?_
              refine lv_iconst (v := 1) hx hb dX12_laysMore_35 (by decide) ?_
              refine xa_ild hx hb hkb hH 0 rfl (by decide) (by decide) dX12_laysMore_36 ?_
              refine lv_topi (fun v36 ev36 => ?_)
              have tv36 : v36 = f1 1 := by rw [ev36]; rfl
              have bv36 : 0 ≤ v36.toInt ∧ v36.toInt ≤ 14 := by rw [ev36]; exact (s_f1.at (by decide) 1).1 (by decide)
              have hv36 : v36.toInt = ((hg / 6 : Nat) : Int) := by rw [tv36, g_f1.1]; exact nI_toInt (by omega)
              refine lv_icmp_ge (tgt := 196) hx hb dX12_laysMore_37 (by decide) (fun c37 => ?_) (fun c37 => ?_)
              · skip
                have fuc37 := full_i p29_4
                have fvc37 := full_i v36
                have tc37 := g_le c37
                exact J196 g29_2 _ _ _ (by first | (refine L96_n i29 ?_ ?_ <;> omega) | (refine L96_s i11 ?_ ?_ ev18 ev19 ?_ ?_ <;> omega)) hH hS (lv_sub hl [1, 2, 3, 4] rfl)
              · skip
                have fuc37 := full_i p29_4
                have fvc37 := full_i v36
                have tc37 := g_nle c37
                refine lv_iload_n hx hb dX12_laysMore_40 rfl (lv_at hl 1 rfl) ?_
                refine lv_i2l hx hb dX12_laysMore_41 rfl ?_
                refine lv_iload hx hb dX12_laysMore_42 (lv_at hl 0 rfl) ?_
                refine tk_i hH hS hA (tr_S (n := 2) (As := [.long p11_3.toInt64, .int p29_4]) hx hb hml hown hts hkb hH (ox_map hOX rfl) hks hE hS hA (s_M_isIn2 l D cs kf T (y1 :: a0 :: y28 :: y17 :: O) ((y1, .inl (cs.2.1, 3906, .inl f1)) :: (a0, .inr (12, o0 :: (.ref y1) :: o2 :: o3 :: o4 :: o5 :: o6 :: o7 :: o8 :: o9 :: o10 :: o11 :: o12 :: o13 :: o14 :: (.ref y15) :: (.int y16) :: (.ref y17) :: o18 :: o19 :: o20 :: o21 :: o22 :: o23 :: o24 :: o25 :: o26 :: o27 :: (.ref y28) :: tl)) :: (y28, .inl (cs.1, 229376, .inl g29_2)) :: (y17, .inl (cs.2.1, 14, .inl f17)) :: X) p11_3.toInt64 p29_4  (hO.sub (by decide))) kw_1440 kw_1441 kw_13 kw_1442 (by decide +kernel) ⟨Nat.le_of_ble_eq_true rfl, Nat.le_of_ble_eq_true rfl⟩ rfl rfl hl.1 (Nat.le_of_ble_eq_true rfl) dX12_laysMore_44 ⟨Nat.le_of_ble_eq_true rfl, Nat.le_of_ble_eq_true rfl⟩) (fun v44 u H locs hz9 hH hS => ?_)
                obtain ⟨rfl, l_v44, u_v44, x_v440⟩ := hz9
                have hH : HT D cs A T (y1 :: a0 :: y28 :: y17 :: O) ((y1, .inl (cs.2.1, 3906, .inl f1)) :: (a0, .inr (12, o0 :: (.ref y1) :: o2 :: o3 :: o4 :: o5 :: o6 :: o7 :: o8 :: o9 :: o10 :: o11 :: o12 :: o13 :: o14 :: (.ref y15) :: (.int y16) :: (.ref y17) :: o18 :: o19 :: o20 :: o21 :: o22 :: o23 :: o24 :: o25 :: o26 :: o27 :: (.ref y28) :: tl)) :: (y28, .inl (cs.1, 229376, .inl g29_2)) :: (y17, .inl (cs.2.1, 14, .inl f17)) :: X) H := hH
                refine W.widen (k := 0) (n := 0) (Nat.le_of_ble_eq_true rfl) (Nat.le_of_ble_eq_true rfl) ?_
                have J190 : ∀ (g190_2 : Nat → Int32) (H : Heap) (locs : List Loc) (ls : Array Slot), (L29 hg x1 f17 g190_2 p11_3 (p29_4.toInt.toNat + 1)) → HT D cs A T (y1 :: a0 :: y28 :: y17 :: O) ((y1, .inl (cs.2.1, 3906, .inl f1)) :: (a0, .inr (12, o0 :: (.ref y1) :: o2 :: o3 :: o4 :: o5 :: o6 :: o7 :: o8 :: o9 :: o10 :: o11 :: o12 :: o13 :: o14 :: (.ref y15) :: (.int y16) :: (.ref y17) :: o18 :: o19 :: o20 :: o21 :: o22 :: o23 :: o24 :: o25 :: o26 :: o27 :: (.ref y28) :: tl)) :: (y28, .inl (cs.1, 229376, .inl g190_2)) :: (y17, .inl (cs.2.1, 14, .inl f17)) :: X) H → va_S A s.heap H locs → lv_has ls 8 [(4, .int p29_4), (3, .int p11_3), (0, .ref a0), (1, .int x1), (2, .int x2)] → W p l e { frames := 1, cells := 0, slots := 0, locals := 22 } s m [.ref a0, .int x1, .int x2].toArray below meth c H locs 0 0 (MQ below (Tv D cs (fun u => ∃ (G2 : Nat → Int32), u = (T, y1 :: a0 :: y28 :: y17 :: O, (y1, .inl (cs.2.1, 3906, .inl f1)) :: (a0, .inr (12, o0 :: (.ref y1) :: o2 :: o3 :: o4 :: o5 :: o6 :: o7 :: o8 :: o9 :: o10 :: o11 :: o12 :: o13 :: o14 :: (.ref y15) :: (.int y16) :: (.ref y17) :: o18 :: o19 :: o20 :: o21 :: o22 :: o23 :: o24 :: o25 :: o26 :: o27 :: (.ref y28) :: tl)) :: (y28, .inl (cs.1, 229376, .inl G2)) :: (y17, .inl (cs.2.1, 14, .inl f17)) :: X) ∧ (WS (hg / 6) x1.toInt.toNat f17 G2 0)) A) [.ref a0, .int x1, .int x2].toArray s 0 0 A) (F0 m 190 ls []) := by
                  intro g190_2 H locs ls i190 hH hS hl
                  obtain ⟨v190, ev190⟩ : ∃ y : Int32, y = p29_4 + 1 := ⟨_, rfl⟩
                  have tv190 : v190.toInt = p29_4.toInt + (1) := by rw [ev190]; exact add_i rfl (by decide) (by omega) (by omega)
                  refine lv_iinc (v := v190) (lv' := [(4, .int v190), (3, .int p11_3), (0, .ref a0), (1, .int x1), (2, .int x2)]) hx hb dX12_laysMore_190 hl (k := 0) rfl (by rw [ev190]; rfl) (by decide) rfl (fun ls hl => ?_)
                  refine lv_goto (tgt := 29) hx hb dX12_laysMore_193 (by decide) ?_
                  exact ih29 _ (by omega) v190 g190_2 _ _ _ rfl (by omega) (by omega) (by first | (refine L29_e i190 ?_; omega) | (refine L29_0 i11 ?_ ?_ ev18 ev19 ?_ (by decide) <;> omega)) hH hS (lv_sub hl [0, 1, 2, 3, 4] rfl)
                refine lv_if_ne (tgt := 53) hx hb dX12_laysMore_47 (by decide) (fun c47 => ?_) (fun c47 => ?_)
                · skip
                  have tc47 := f_ne (k := 0) (by decide) c47
                  refine lv_aload_n hx hb dX12_laysMore_53 rfl (lv_at hl 2 rfl) ?_
                  refine x_getk (ci := 12) (C := RX12) (F := TX12) (N := 36) (v := .ref y1) hx hb hts uX12 hown hkb hH 1 rfl rfl 1 (by decide) rfl kw_1224 (fun _ h9 => h9) dX12_laysMore_54 ?_
                  refine lv_iconst (v := 5) hx hb dX12_laysMore_57 (by decide) ?_
                  refine xa_ild hx hb hkb hH 0 rfl (by decide) (by decide) dX12_laysMore_58 ?_
                  refine lv_topi (fun v58 ev58 => ?_)
                  have tv58 : v58 = f1 5 := by rw [ev58]; rfl
                  have bv58 : 0 ≤ v58.toInt ∧ v58.toInt ≤ 16383 := by rw [ev58]; exact (s_f1.at (by decide) 5).2.2.2.1 (by decide)
                  refine lv_i2l hx hb dX12_laysMore_59 rfl ?_
                  refine lv_iload hx hb dX12_laysMore_60 (lv_at hl 0 rfl) ?_
                  refine tk_i hH hS hA (tr_S (n := 2) (As := [.long v58.toInt64, .int p29_4]) hx hb hml hown hts hkb hH (ox_map hOX rfl) hks hE hS hA (s_M_isIn2 l D cs kf T (y1 :: a0 :: y28 :: y17 :: O) ((y1, .inl (cs.2.1, 3906, .inl f1)) :: (a0, .inr (12, o0 :: (.ref y1) :: o2 :: o3 :: o4 :: o5 :: o6 :: o7 :: o8 :: o9 :: o10 :: o11 :: o12 :: o13 :: o14 :: (.ref y15) :: (.int y16) :: (.ref y17) :: o18 :: o19 :: o20 :: o21 :: o22 :: o23 :: o24 :: o25 :: o26 :: o27 :: (.ref y28) :: tl)) :: (y28, .inl (cs.1, 229376, .inl g29_2)) :: (y17, .inl (cs.2.1, 14, .inl f17)) :: X) v58.toInt64 p29_4  (hO.sub (by decide))) kw_1440 kw_1441 kw_13 kw_1442 (by decide +kernel) ⟨Nat.le_of_ble_eq_true rfl, Nat.le_of_ble_eq_true rfl⟩ rfl rfl hl.1 (Nat.le_of_ble_eq_true rfl) dX12_laysMore_62 ⟨Nat.le_of_ble_eq_true rfl, Nat.le_of_ble_eq_true rfl⟩) (fun v62 u H locs hz9 hH hS => ?_)
                  obtain ⟨rfl, l_v62, u_v62, x_v620⟩ := hz9
                  have hH : HT D cs A T (y1 :: a0 :: y28 :: y17 :: O) ((y1, .inl (cs.2.1, 3906, .inl f1)) :: (a0, .inr (12, o0 :: (.ref y1) :: o2 :: o3 :: o4 :: o5 :: o6 :: o7 :: o8 :: o9 :: o10 :: o11 :: o12 :: o13 :: o14 :: (.ref y15) :: (.int y16) :: (.ref y17) :: o18 :: o19 :: o20 :: o21 :: o22 :: o23 :: o24 :: o25 :: o26 :: o27 :: (.ref y28) :: tl)) :: (y28, .inl (cs.1, 229376, .inl g29_2)) :: (y17, .inl (cs.2.1, 14, .inl f17)) :: X) H := hH
                  refine W.widen (k := 0) (n := 0) (Nat.le_of_ble_eq_true rfl) (Nat.le_of_ble_eq_true rfl) ?_
                  have J82 : ∀ (k82_0 : Int32) (H : Heap) (locs : List Loc) (ls : Array Slot), (0 ≤ k82_0.toInt) → (k82_0.toInt ≤ 99) → (k82_0.toInt = 0 ∨ k82_0.toInt = 99) → HT D cs A T (y1 :: a0 :: y28 :: y17 :: O) ((y1, .inl (cs.2.1, 3906, .inl f1)) :: (a0, .inr (12, o0 :: (.ref y1) :: o2 :: o3 :: o4 :: o5 :: o6 :: o7 :: o8 :: o9 :: o10 :: o11 :: o12 :: o13 :: o14 :: (.ref y15) :: (.int y16) :: (.ref y17) :: o18 :: o19 :: o20 :: o21 :: o22 :: o23 :: o24 :: o25 :: o26 :: o27 :: (.ref y28) :: tl)) :: (y28, .inl (cs.1, 229376, .inl g29_2)) :: (y17, .inl (cs.2.1, 14, .inl f17)) :: X) H → va_S A s.heap H locs → lv_has ls 8 [(4, .int p29_4), (3, .int p11_3), (0, .ref a0), (1, .int x1), (2, .int x2)] → W p l e { frames := 1, cells := 0, slots := 0, locals := 22 } s m [.ref a0, .int x1, .int x2].toArray below meth c H locs 0 0 (MQ below (Tv D cs (fun u => ∃ (G2 : Nat → Int32), u = (T, y1 :: a0 :: y28 :: y17 :: O, (y1, .inl (cs.2.1, 3906, .inl f1)) :: (a0, .inr (12, o0 :: (.ref y1) :: o2 :: o3 :: o4 :: o5 :: o6 :: o7 :: o8 :: o9 :: o10 :: o11 :: o12 :: o13 :: o14 :: (.ref y15) :: (.int y16) :: (.ref y17) :: o18 :: o19 :: o20 :: o21 :: o22 :: o23 :: o24 :: o25 :: o26 :: o27 :: (.ref y28) :: tl)) :: (y28, .inl (cs.1, 229376, .inl G2)) :: (y17, .inl (cs.2.1, 14, .inl f17)) :: X) ∧ (WS (hg / 6) x1.toInt.toNat f17 G2 0)) A) [.ref a0, .int x1, .int x2].toArray s 0 0 A) (F0 m 82 ls [.int k82_0]) := by
                    intro k82_0 H locs ls l_k82_0 u_k82_0 i82 hH hS hl
                    refine lv_istore (lv' := [(5, .int k82_0), (4, .int p29_4), (3, .int p11_3), (0, .ref a0), (1, .int x1), (2, .int x2)]) hx hb dX12_laysMore_82 hl (by decide) rfl (fun ls hl => ?_)
                    refine lv_aload_n hx hb dX12_laysMore_84 rfl (lv_at hl 3 rfl) ?_
                    refine x_getk (ci := 12) (C := RX12) (F := TX12) (N := 36) (v := .ref y17) hx hb hts uX12 hown hkb hH 1 rfl rfl 17 (by decide) rfl kw_1240 (fun _ h9 => h9) dX12_laysMore_85 ?_
                    refine lv_iload hx hb dX12_laysMore_88 (lv_at hl 1 rfl) ?_
                    refine xa_ild hx hb hkb hH 3 rfl (by omega) (by omega) dX12_laysMore_90 ?_
                    refine lv_topi (fun v90 ev90 => ?_)
                    have tv90 : v90 = f17 p29_4.toInt.toNat := ev90
                    refine lv_iload_n hx hb dX12_laysMore_91 rfl (lv_at hl 4 rfl) ?_
                    refine lv_iand hx hb dX12_laysMore_92 ?_
                    refine lv_topi (fun v92 ev92 => ?_)
                    have tv92 : 0 ≤ v92.toInt ∧ v92.toInt ≤ x1.toInt := by rw [ev92]; exact and_r (by omega)
                    refine lv_iload_n hx hb dX12_laysMore_93 rfl (lv_at hl 2 rfl) ?_
                    refine lv_iconst (v := (-1)) hx hb dX12_laysMore_94 (by decide) ?_
                    refine lv_ixor hx hb dX12_laysMore_95 ?_
                    refine lv_topi (fun v95 ev95 => ?_)
                    refine lv_iand hx hb dX12_laysMore_96 ?_
                    refine lv_topi (fun v96 ev96 => ?_)
                    have tv96 : 0 ≤ v96.toInt ∧ v96.toInt ≤ v92.toInt := by rw [ev96]; exact and_l (by omega)
                    refine lv_istore (lv' := [(6, .int v96), (5, .int k82_0), (4, .int p29_4), (3, .int p11_3), (0, .ref a0), (1, .int x1), (2, .int x2)]) hx hb dX12_laysMore_97 hl (by decide) rfl (fun ls hl => ?_)
                    refine lv_iconst (v := 0) hx hb dX12_laysMore_99 (by decide) ?_
                    have J102 : ∀ (n : Nat) (p102_7 : Int32) (p102_5 : Int32) (H : Heap) (locs : List Loc) (ls : Array Slot), (14 - p102_7.toInt).toNat = n → (0 ≤ p102_7.toInt) → (p102_7.toInt ≤ 14) → (0 ≤ p102_5.toInt) → (p102_5.toInt ≤ 100) → (L102 hg x1 f17 g29_2 p11_3 p29_4 p102_5 p102_7.toInt.toNat) → HT D cs A T (y1 :: a0 :: y28 :: y17 :: O) ((y1, .inl (cs.2.1, 3906, .inl f1)) :: (a0, .inr (12, o0 :: (.ref y1) :: o2 :: o3 :: o4 :: o5 :: o6 :: o7 :: o8 :: o9 :: o10 :: o11 :: o12 :: o13 :: o14 :: (.ref y15) :: (.int y16) :: (.ref y17) :: o18 :: o19 :: o20 :: o21 :: o22 :: o23 :: o24 :: o25 :: o26 :: o27 :: (.ref y28) :: tl)) :: (y28, .inl (cs.1, 229376, .inl g29_2)) :: (y17, .inl (cs.2.1, 14, .inl f17)) :: X) H → va_S A s.heap H locs → lv_has ls 8 [(7, .int p102_7), (6, .int v96), (5, .int p102_5), (4, .int p29_4), (3, .int p11_3), (0, .ref a0), (1, .int x1), (2, .int x2)] → W p l e { frames := 1, cells := 0, slots := 0, locals := 22 } s m [.ref a0, .int x1, .int x2].toArray below meth c H locs 0 0 (MQ below (Tv D cs (fun u => ∃ (G2 : Nat → Int32), u = (T, y1 :: a0 :: y28 :: y17 :: O, (y1, .inl (cs.2.1, 3906, .inl f1)) :: (a0, .inr (12, o0 :: (.ref y1) :: o2 :: o3 :: o4 :: o5 :: o6 :: o7 :: o8 :: o9 :: o10 :: o11 :: o12 :: o13 :: o14 :: (.ref y15) :: (.int y16) :: (.ref y17) :: o18 :: o19 :: o20 :: o21 :: o22 :: o23 :: o24 :: o25 :: o26 :: o27 :: (.ref y28) :: tl)) :: (y28, .inl (cs.1, 229376, .inl G2)) :: (y17, .inl (cs.2.1, 14, .inl f17)) :: X) ∧ (WS (hg / 6) x1.toInt.toNat f17 G2 0)) A) [.ref a0, .int x1, .int x2].toArray s 0 0 A) (F0 m 102 ls []) := by
                      intro n
                      induction n using Nat.strongRecOn with
                      | _ n ih102 =>
                        intro p102_7 p102_5 H locs ls hm102 l_p102_7 u_p102_7 l_p102_5 u_p102_5 i102 hH hS hl
                        refine lv_iload hx hb dX12_laysMore_102 (lv_at hl 0 rfl) ?_
                        refine lv_aload_n hx hb dX12_laysMore_104 rfl (lv_at hl 5 rfl) ?_
                        refine x_getk (ci := 12) (C := RX12) (F := TX12) (N := 36) (v := .ref y1) hx hb hts uX12 hown hkb hH 1 rfl rfl 1 (by decide) rfl kw_1224 (fun _ h9 => h9) dX12_laysMore_105 ?_
                        refine lv_iconst (v := 1) hx hb dX12_laysMore_108 (by decide) ?_
                        refine xa_ild hx hb hkb hH 0 rfl (by decide) (by decide) dX12_laysMore_109 ?_
                        refine lv_topi (fun v109 ev109 => ?_)
                        have tv109 : v109 = f1 1 := by rw [ev109]; rfl
                        have bv109 : 0 ≤ v109.toInt ∧ v109.toInt ≤ 14 := by rw [ev109]; exact (s_f1.at (by decide) 1).1 (by decide)
                        have hv109 : v109.toInt = ((hg / 6 : Nat) : Int) := by rw [tv109, g_f1.1]; exact nI_toInt (by omega)
                        refine lv_icmp_ge (tgt := 175) hx hb dX12_laysMore_110 (by decide) (fun c110 => ?_) (fun c110 => ?_)
                        · skip
                          have fuc110 := full_i p102_7
                          have fvc110 := full_i v109
                          have tc110 := g_le c110
                          refine lv_aload_n hx hb dX12_laysMore_175 rfl (lv_at hl 5 rfl) ?_
                          refine x_getk (ci := 12) (C := RX12) (F := TX12) (N := 36) (v := .ref y28) hx hb hts uX12 hown hkb hH 1 rfl rfl 28 (by decide) rfl kw_1251 (fun _ h9 => h9) dX12_laysMore_176 ?_
                          refine lv_bipush (v := 14) hx hb dX12_laysMore_179 (by decide) ?_
                          refine lv_iload_n hx hb dX12_laysMore_181 rfl (lv_at hl 4 rfl) ?_
                          refine lv_imul hx hb dX12_laysMore_182 ?_
                          refine lv_topi (fun v182 ev182 => ?_)
                          have tv182 : v182.toInt = (14) * p11_3.toInt := by rw [ev182]; exact mul_i (by decide : (14 : Int32).toInt = 14) rfl (by omega) (by omega)
                          refine lv_iload hx hb dX12_laysMore_183 (lv_at hl 3 rfl) ?_
                          refine lv_iadd hx hb dX12_laysMore_185 ?_
                          refine lv_topi (fun v185 ev185 => ?_)
                          have tv185 : v185.toInt = v182.toInt + p29_4.toInt := by rw [ev185]; exact add_i rfl rfl (by omega) (by omega)
                          refine lv_iload hx hb dX12_laysMore_186 (lv_at hl 2 rfl) ?_
                          refine lv_i2b hx hb dX12_laysMore_188 rfl ?_
                          refine lv_topi (fun v188 ev188 => ?_)
                          refine xa_bst hx hb hkb hH hS 2 rfl (by omega) (by omega) dX12_laysMore_189 (fun H locs hH hS => ?_)
                          have hH : HT D cs A T (y1 :: a0 :: y28 :: y17 :: O) ((y1, .inl (cs.2.1, 3906, .inl f1)) :: (a0, .inr (12, o0 :: (.ref y1) :: o2 :: o3 :: o4 :: o5 :: o6 :: o7 :: o8 :: o9 :: o10 :: o11 :: o12 :: o13 :: o14 :: (.ref y15) :: (.int y16) :: (.ref y17) :: o18 :: o19 :: o20 :: o21 :: o22 :: o23 :: o24 :: o25 :: o26 :: o27 :: (.ref y28) :: tl)) :: (y28, .inl (cs.1, 229376, .inl (upd g29_2 (v185.toInt.toNat) (vp_nar .byte v188)))) :: (y17, .inl (cs.2.1, 14, .inl f17)) :: X) H := hH
                          obtain ⟨F189, eF189⟩ : ∃ f9, f9 = upd g29_2 (v185.toInt.toNat) (vp_nar .byte v188) := ⟨_, rfl⟩
                          have hH : HT D cs A T (y1 :: a0 :: y28 :: y17 :: O) ((y1, .inl (cs.2.1, 3906, .inl f1)) :: (a0, .inr (12, o0 :: (.ref y1) :: o2 :: o3 :: o4 :: o5 :: o6 :: o7 :: o8 :: o9 :: o10 :: o11 :: o12 :: o13 :: o14 :: (.ref y15) :: (.int y16) :: (.ref y17) :: o18 :: o19 :: o20 :: o21 :: o22 :: o23 :: o24 :: o25 :: o26 :: o27 :: (.ref y28) :: tl)) :: (y28, .inl (cs.1, 229376, .inl F189)) :: (y17, .inl (cs.2.1, 14, .inl f17)) :: X) H := eF189 ▸ hH
                          exact J190 F189 _ _ _ (by first | (refine L190_p (by omega) i29 ?_ ?_ ?_ rfl i102 ev188 tv182 tv185 eF189 <;> omega) | (refine L29_s i29 ?_ ?_ ?_ x_v440 ?_ rfl <;> omega)) hH hS (lv_sub hl [3, 4, 5, 6, 7] rfl)
                        · skip
                          have fuc110 := full_i p102_7
                          have fvc110 := full_i v109
                          have tc110 := g_nle c110
                          refine lv_iload hx hb dX12_laysMore_113 (lv_at hl 1 rfl) ?_
                          refine lv_i2l hx hb dX12_laysMore_115 rfl ?_
                          refine lv_iload hx hb dX12_laysMore_116 (lv_at hl 0 rfl) ?_
                          refine tk_i hH hS hA (tr_S (n := 2) (As := [.long v96.toInt64, .int p102_7]) hx hb hml hown hts hkb hH (ox_map hOX rfl) hks hE hS hA (s_M_isIn2 l D cs kf T (y1 :: a0 :: y28 :: y17 :: O) ((y1, .inl (cs.2.1, 3906, .inl f1)) :: (a0, .inr (12, o0 :: (.ref y1) :: o2 :: o3 :: o4 :: o5 :: o6 :: o7 :: o8 :: o9 :: o10 :: o11 :: o12 :: o13 :: o14 :: (.ref y15) :: (.int y16) :: (.ref y17) :: o18 :: o19 :: o20 :: o21 :: o22 :: o23 :: o24 :: o25 :: o26 :: o27 :: (.ref y28) :: tl)) :: (y28, .inl (cs.1, 229376, .inl g29_2)) :: (y17, .inl (cs.2.1, 14, .inl f17)) :: X) v96.toInt64 p102_7  (hO.sub (by decide))) kw_1440 kw_1441 kw_13 kw_1442 (by decide +kernel) ⟨Nat.le_of_ble_eq_true rfl, Nat.le_of_ble_eq_true rfl⟩ rfl rfl hl.1 (Nat.le_of_ble_eq_true rfl) dX12_laysMore_118 ⟨Nat.le_of_ble_eq_true rfl, Nat.le_of_ble_eq_true rfl⟩) (fun v118 u H locs hz9 hH hS => ?_)
                          obtain ⟨rfl, l_v118, u_v118, x_v1180⟩ := hz9
                          have hH : HT D cs A T (y1 :: a0 :: y28 :: y17 :: O) ((y1, .inl (cs.2.1, 3906, .inl f1)) :: (a0, .inr (12, o0 :: (.ref y1) :: o2 :: o3 :: o4 :: o5 :: o6 :: o7 :: o8 :: o9 :: o10 :: o11 :: o12 :: o13 :: o14 :: (.ref y15) :: (.int y16) :: (.ref y17) :: o18 :: o19 :: o20 :: o21 :: o22 :: o23 :: o24 :: o25 :: o26 :: o27 :: (.ref y28) :: tl)) :: (y28, .inl (cs.1, 229376, .inl g29_2)) :: (y17, .inl (cs.2.1, 14, .inl f17)) :: X) H := hH
                          refine W.widen (k := 0) (n := 0) (Nat.le_of_ble_eq_true rfl) (Nat.le_of_ble_eq_true rfl) ?_
                          have J169 : ∀ (p169_5 : Int32) (H : Heap) (locs : List Loc) (ls : Array Slot), (0 ≤ p169_5.toInt) → (p169_5.toInt ≤ 100) → (L102 hg x1 f17 g29_2 p11_3 p29_4 p169_5 (p102_7.toInt.toNat + 1)) → HT D cs A T (y1 :: a0 :: y28 :: y17 :: O) ((y1, .inl (cs.2.1, 3906, .inl f1)) :: (a0, .inr (12, o0 :: (.ref y1) :: o2 :: o3 :: o4 :: o5 :: o6 :: o7 :: o8 :: o9 :: o10 :: o11 :: o12 :: o13 :: o14 :: (.ref y15) :: (.int y16) :: (.ref y17) :: o18 :: o19 :: o20 :: o21 :: o22 :: o23 :: o24 :: o25 :: o26 :: o27 :: (.ref y28) :: tl)) :: (y28, .inl (cs.1, 229376, .inl g29_2)) :: (y17, .inl (cs.2.1, 14, .inl f17)) :: X) H → va_S A s.heap H locs → lv_has ls 8 [(7, .int p102_7), (6, .int v96), (5, .int p169_5), (4, .int p29_4), (3, .int p11_3), (0, .ref a0), (1, .int x1), (2, .int x2)] → W p l e { frames := 1, cells := 0, slots := 0, locals := 22 } s m [.ref a0, .int x1, .int x2].toArray below meth c H locs 0 0 (MQ below (Tv D cs (fun u => ∃ (G2 : Nat → Int32), u = (T, y1 :: a0 :: y28 :: y17 :: O, (y1, .inl (cs.2.1, 3906, .inl f1)) :: (a0, .inr (12, o0 :: (.ref y1) :: o2 :: o3 :: o4 :: o5 :: o6 :: o7 :: o8 :: o9 :: o10 :: o11 :: o12 :: o13 :: o14 :: (.ref y15) :: (.int y16) :: (.ref y17) :: o18 :: o19 :: o20 :: o21 :: o22 :: o23 :: o24 :: o25 :: o26 :: o27 :: (.ref y28) :: tl)) :: (y28, .inl (cs.1, 229376, .inl G2)) :: (y17, .inl (cs.2.1, 14, .inl f17)) :: X) ∧ (WS (hg / 6) x1.toInt.toNat f17 G2 0)) A) [.ref a0, .int x1, .int x2].toArray s 0 0 A) (F0 m 169 ls []) := by
                            intro p169_5 H locs ls l_p169_5 u_p169_5 i169 hH hS hl
                            obtain ⟨v169, ev169⟩ : ∃ y : Int32, y = p102_7 + 1 := ⟨_, rfl⟩
                            have tv169 : v169.toInt = p102_7.toInt + (1) := by rw [ev169]; exact add_i rfl (by decide) (by omega) (by omega)
                            refine lv_iinc (v := v169) (lv' := [(7, .int v169), (6, .int v96), (5, .int p169_5), (4, .int p29_4), (3, .int p11_3), (0, .ref a0), (1, .int x1), (2, .int x2)]) hx hb dX12_laysMore_169 hl (k := 0) rfl (by rw [ev169]; rfl) (by decide) rfl (fun ls hl => ?_)
                            refine lv_goto (tgt := 102) hx hb dX12_laysMore_172 (by decide) ?_
                            exact ih102 _ (by omega) v169 p169_5 _ _ _ rfl (by omega) (by omega) (by omega) (by omega) (by first | (refine L102_e i169 ?_; omega) | exact (L102_0 i82)) hH hS (lv_sub hl [0, 1, 2, 3, 4, 5, 6, 7] rfl)
                          refine lv_if_eq (tgt := 169) hx hb dX12_laysMore_121 (by decide) (fun c121 => ?_) (fun c121 => ?_)
                          · skip
                            have tc121 := f_eq (k := 0) (by decide) c121
                            exact J169 p102_5 _ _ _ (by omega) (by omega) (by first | exact (L102_s i102) | (refine L102_n i102 qv164 tv166 ?_; omega)) hH hS (lv_sub hl [0, 1, 2, 3, 4, 5, 6, 7] rfl)
                          · skip
                            have tc121 := f_ne (k := 0) (by decide) c121
                            refine lv_aload_n hx hb dX12_laysMore_124 rfl (lv_at hl 5 rfl) ?_
                            refine x_getk (ci := 12) (C := RX12) (F := TX12) (N := 36) (v := .ref y28) hx hb hts uX12 hown hkb hH 1 rfl rfl 28 (by decide) rfl kw_1251 (fun _ h9 => h9) dX12_laysMore_125 ?_
                            refine lv_bipush (v := 14) hx hb dX12_laysMore_128 (by decide) ?_
                            refine lv_iload_n hx hb dX12_laysMore_130 rfl (lv_at hl 4 rfl) ?_
                            refine lv_iconst (v := 1) hx hb dX12_laysMore_131 (by decide) ?_
                            refine lv_iload hx hb dX12_laysMore_132 (lv_at hl 0 rfl) ?_
                            refine lv_ishl hx hb dX12_laysMore_134 ?_
                            refine lv_topi (fun v134 ev134 => ?_)
                            have tv134 : 1 ≤ v134.toInt ∧ v134.toInt ≤ 8192 := by rw [ev134]; exact shl_b 13 (by decide) (by omega) (by omega)
                            refine lv_ior hx hb dX12_laysMore_135 ?_
                            refine lv_topi (fun v135 ev135 => ?_)
                            have tv135 : 0 ≤ v135.toInt ∧ v135.toInt < 16384 := by rw [ev135]; exact or_b 14 (by decide) (by omega) (by omega) (by omega) (by omega)
                            refine lv_imul hx hb dX12_laysMore_136 ?_
                            refine lv_topi (fun v136 ev136 => ?_)
                            have tv136 : v136.toInt = (14) * v135.toInt := by rw [ev136]; exact mul_i (by decide : (14 : Int32).toInt = 14) rfl (by omega) (by omega)
                            refine lv_iload hx hb dX12_laysMore_137 (lv_at hl 0 rfl) ?_
                            refine lv_iadd hx hb dX12_laysMore_139 ?_
                            refine lv_topi (fun v139 ev139 => ?_)
                            have tv139 : v139.toInt = v136.toInt + p102_7.toInt := by rw [ev139]; exact add_i rfl rfl (by omega) (by omega)
                            refine xa_bld hx hb hkb hH 2 rfl (by omega) (by omega) dX12_laysMore_140 ?_
                            refine lv_topi (fun v140 ev140 => ?_)
                            have tv140 : v140 = g29_2 v139.toInt.toNat := ev140
                            have qv140 := L140_of i29 (by omega) (by omega) (by omega) tv90 ev92 (by omega) ev95 ev96 (by omega) x_v1180 tc121 (by omega) (by omega) (by omega) ev134 ev135 (by omega) tv136 tv139 tv140
                            have bv140 := qv140.b
                            refine lv_iconst (v := 1) hx hb dX12_laysMore_141 (by decide) ?_
                            refine lv_iadd hx hb dX12_laysMore_142 ?_
                            refine lv_topi (fun v142 ev142 => ?_)
                            have tv142 : v142.toInt = v140.toInt + (1) := by rw [ev142]; exact add_i rfl (by decide : (1 : Int32).toInt = 1) (by omega) (by omega)
                            refine lv_iload hx hb dX12_laysMore_143 (lv_at hl 2 rfl) ?_
                            refine lv_icmp_ge (tgt := 169) hx hb dX12_laysMore_145 (by decide) (fun c145 => ?_) (fun c145 => ?_)
                            · skip
                              have fuc145 := full_i v142
                              have fvc145 := full_i p102_5
                              have tc145 := g_le c145
                              exact J169 p102_5 _ _ _ (by omega) (by omega) (by first | exact (L102_s i102) | (refine L102_n i102 qv164 tv166 ?_; omega)) hH hS (lv_sub hl [0, 1, 2, 3, 4, 5, 6, 7] rfl)
                            · skip
                              have fuc145 := full_i v142
                              have fvc145 := full_i p102_5
                              have tc145 := g_nle c145
                              refine lv_aload_n hx hb dX12_laysMore_148 rfl (lv_at hl 5 rfl) ?_
                              refine x_getk (ci := 12) (C := RX12) (F := TX12) (N := 36) (v := .ref y28) hx hb hts uX12 hown hkb hH 1 rfl rfl 28 (by decide) rfl kw_1251 (fun _ h9 => h9) dX12_laysMore_149 ?_
                              refine lv_bipush (v := 14) hx hb dX12_laysMore_152 (by decide) ?_
                              refine lv_iload_n hx hb dX12_laysMore_154 rfl (lv_at hl 4 rfl) ?_
                              refine lv_iconst (v := 1) hx hb dX12_laysMore_155 (by decide) ?_
                              refine lv_iload hx hb dX12_laysMore_156 (lv_at hl 0 rfl) ?_
                              refine lv_ishl hx hb dX12_laysMore_158 ?_
                              refine lv_topi (fun v158 ev158 => ?_)
                              have tv158 : 1 ≤ v158.toInt ∧ v158.toInt ≤ 8192 := by rw [ev158]; exact shl_b 13 (by decide) (by omega) (by omega)
                              refine lv_ior hx hb dX12_laysMore_159 ?_
                              refine lv_topi (fun v159 ev159 => ?_)
                              have tv159 : 0 ≤ v159.toInt ∧ v159.toInt < 16384 := by rw [ev159]; exact or_b 14 (by decide) (by omega) (by omega) (by omega) (by omega)
                              refine lv_imul hx hb dX12_laysMore_160 ?_
                              refine lv_topi (fun v160 ev160 => ?_)
                              have tv160 : v160.toInt = (14) * v159.toInt := by rw [ev160]; exact mul_i (by decide : (14 : Int32).toInt = 14) rfl (by omega) (by omega)
                              refine lv_iload hx hb dX12_laysMore_161 (lv_at hl 0 rfl) ?_
                              refine lv_iadd hx hb dX12_laysMore_163 ?_
                              refine lv_topi (fun v163 ev163 => ?_)
                              have tv163 : v163.toInt = v160.toInt + p102_7.toInt := by rw [ev163]; exact add_i rfl rfl (by omega) (by omega)
                              refine xa_bld hx hb hkb hH 2 rfl (by omega) (by omega) dX12_laysMore_164 ?_
                              refine lv_topi (fun v164 ev164 => ?_)
                              have tv164 : v164 = g29_2 v163.toInt.toNat := ev164
                              have qv164 := L140_of i29 (by omega) (by omega) (by omega) tv90 ev92 (by omega) ev95 ev96 (by omega) x_v1180 tc121 (by omega) (by omega) (by omega) ev158 ev159 (by omega) tv160 tv163 tv164
                              have bv164 := qv164.b
                              have qe9 := qv140.eq qv164
                              refine lv_iconst (v := 1) hx hb dX12_laysMore_165 (by decide) ?_
                              refine lv_iadd hx hb dX12_laysMore_166 ?_
                              refine lv_topi (fun v166 ev166 => ?_)
                              have tv166 : v166.toInt = v164.toInt + (1) := by rw [ev166]; exact add_i rfl (by decide : (1 : Int32).toInt = 1) (by omega) (by omega)
                              refine lv_istore (lv' := [(5, .int v166), (7, .int p102_7), (6, .int v96), (4, .int p29_4), (3, .int p11_3), (0, .ref a0), (1, .int x1), (2, .int x2)]) hx hb dX12_laysMore_167 hl (by decide) rfl (fun ls hl => ?_)
                              exact J169 v166 _ _ _ (by omega) (by omega) (by first | exact (L102_s i102) | (refine L102_n i102 qv164 tv166 ?_; omega)) hH hS (lv_sub hl [1, 2, 0, 3, 4, 5, 6, 7] rfl)
                    refine lv_istore (lv' := [(7, .int 0), (6, .int v96), (5, .int k82_0), (4, .int p29_4), (3, .int p11_3), (0, .ref a0), (1, .int x1), (2, .int x2)]) hx hb dX12_laysMore_100 hl (by decide) rfl (fun ls hl => ?_)
                    have z_0 : (0 : Int32).toInt = 0 := by decide
                    exact J102 _ 0 k82_0 _ _ _ rfl (by decide) (by decide) (by omega) (by omega) (by first | (refine L102_e i169 ?_; omega) | exact (L102_0 i82)) hH hS (lv_sub hl [0, 1, 2, 3, 4, 5, 6, 7] rfl)
                  have J80 : ∀  (H : Heap) (locs : List Loc) (ls : Array Slot), HT D cs A T (y1 :: a0 :: y28 :: y17 :: O) ((y1, .inl (cs.2.1, 3906, .inl f1)) :: (a0, .inr (12, o0 :: (.ref y1) :: o2 :: o3 :: o4 :: o5 :: o6 :: o7 :: o8 :: o9 :: o10 :: o11 :: o12 :: o13 :: o14 :: (.ref y15) :: (.int y16) :: (.ref y17) :: o18 :: o19 :: o20 :: o21 :: o22 :: o23 :: o24 :: o25 :: o26 :: o27 :: (.ref y28) :: tl)) :: (y28, .inl (cs.1, 229376, .inl g29_2)) :: (y17, .inl (cs.2.1, 14, .inl f17)) :: X) H → va_S A s.heap H locs → lv_has ls 8 [(4, .int p29_4), (3, .int p11_3), (0, .ref a0), (1, .int x1), (2, .int x2)] → W p l e { frames := 1, cells := 0, slots := 0, locals := 22 } s m [.ref a0, .int x1, .int x2].toArray below meth c H locs 0 0 (MQ below (Tv D cs (fun u => ∃ (G2 : Nat → Int32), u = (T, y1 :: a0 :: y28 :: y17 :: O, (y1, .inl (cs.2.1, 3906, .inl f1)) :: (a0, .inr (12, o0 :: (.ref y1) :: o2 :: o3 :: o4 :: o5 :: o6 :: o7 :: o8 :: o9 :: o10 :: o11 :: o12 :: o13 :: o14 :: (.ref y15) :: (.int y16) :: (.ref y17) :: o18 :: o19 :: o20 :: o21 :: o22 :: o23 :: o24 :: o25 :: o26 :: o27 :: (.ref y28) :: tl)) :: (y28, .inl (cs.1, 229376, .inl G2)) :: (y17, .inl (cs.2.1, 14, .inl f17)) :: X) ∧ (WS (hg / 6) x1.toInt.toNat f17 G2 0)) A) [.ref a0, .int x1, .int x2].toArray s 0 0 A) (F0 m 80 ls []) := by
                    intro  H locs ls  hH hS hl
                    refine lv_bipush (v := 99) hx hb dX12_laysMore_80 (by decide) ?_
                    have z_99 : (99 : Int32).toInt = 99 := by decide
                    exact J82 99 _ _ _ (by decide) (by decide) (by decide) hH hS (lv_sub hl [0, 1, 2, 3, 4] rfl)
                  refine lv_if_eq (tgt := 80) hx hb dX12_laysMore_65 (by decide) (fun c65 => ?_) (fun c65 => ?_)
                  · skip
                    have tc65 := f_eq (k := 0) (by decide) c65
                    exact J80  _ _ _  hH hS (lv_sub hl [0, 1, 2, 3, 4] rfl)
                  · skip
                    have tc65 := f_ne (k := 0) (by decide) c65
                    refine lv_iload_n hx hb dX12_laysMore_68 rfl (lv_at hl 4 rfl) ?_
                    refine lv_iload_n hx hb dX12_laysMore_69 rfl (lv_at hl 1 rfl) ?_
                    refine lv_iconst (v := (-1)) hx hb dX12_laysMore_70 (by decide) ?_
                    refine lv_ixor hx hb dX12_laysMore_71 ?_
                    refine lv_topi (fun v71 ev71 => ?_)
                    refine lv_iand hx hb dX12_laysMore_72 ?_
                    refine lv_topi (fun v72 ev72 => ?_)
                    refine lv_if_ne (tgt := 80) hx hb dX12_laysMore_73 (by decide) (fun c73 => ?_) (fun c73 => ?_)
                    · skip
                      have tc73 := f_ne (k := 0) (by decide) c73
                      exact J80  _ _ _  hH hS (lv_sub hl [0, 1, 2, 3, 4] rfl)
                    · skip
                      have tc73 := f_eq (k := 0) (by decide) c73
                      refine lv_iconst (v := 0) hx hb dX12_laysMore_76 (by decide) ?_
                      refine lv_goto (tgt := 82) hx hb dX12_laysMore_77 (by decide) ?_
                      have z_0 : (0 : Int32).toInt = 0 := by decide
                      exact J82 0 _ _ _ (by decide) (by decide) (by decide) hH hS (lv_sub hl [0, 1, 2, 3, 4] rfl)
                · skip
                  have tc47 := f_eq (k := 0) (by decide) c47
                  refine lv_goto (tgt := 190) hx hb dX12_laysMore_50 (by decide) ?_
                  exact J190 g29_2 _ _ _ (by first | (refine L190_p (by omega) i29 ?_ ?_ ?_ rfl i102 ev188 tv182 tv185 eF189 <;> omega) | (refine L29_s i29 ?_ ?_ ?_ x_v440 ?_ rfl <;> omega)) hH hS (lv_sub hl [0, 1, 2, 3, 4] rfl)
          refine lv_istore (lv' := [(4, .int 0), (3, .int p11_3), (0, .ref a0), (1, .int x1), (2, .int x2)]) hx hb dX12_laysMore_27 hl (by decide) rfl (fun ls hl => ?_)
          have z_0 : (0 : Int32).toInt = 0 := by decide
          exact J29 _ 0 g11_2 _ _ _ rfl (by decide) (by decide) (by first | (refine L29_e i190 ?_; omega) | (refine L29_0 i11 ?_ ?_ ev18 ev19 ?_ (by decide) <;> omega)) hH hS (lv_sub hl [0, 1, 2, 3, 4] rfl)
        · skip
          have tc20 := f_ne (k := 0) (by decide) c20
          refine lv_goto (tgt := 196) hx hb dX12_laysMore_23 (by decide) ?_
          exact J196 g11_2 _ _ _ (by first | (refine L96_n i29 ?_ ?_ <;> omega) | (refine L96_s i11 ?_ ?_ ev18 ev19 ?_ ?_ <;> omega)) hH hS (lv_sub hl [0, 1, 2, 3] rfl)
  have hv9 : v7.toInt = (2 : Int) ^ (hg / 6) := by rw [ev7, tv6, g_f1.1]; exact sh_tab _ (by omega)
  refine lv_istore_n (lv' := [(3, .int v9), (0, .ref a0), (1, .int x1), (2, .int x2)]) hx hb dX12_laysMore_10 rfl hl (by decide) rfl (fun ls hl => ?_)
  exact J11 _ v9 f28 _ _ _ rfl (by omega) (by omega) (by first | exact (L11_n i196 tv196) | exact (L11_0 hv9 tv9)) hH hS (lv_sub hl [0, 1, 2, 3] rfl)
