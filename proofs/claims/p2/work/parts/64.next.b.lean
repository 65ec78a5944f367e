set_option maxHeartbeats 4000000 in
set_option maxRecDepth 100000 in
theorem s_M_next (l : Launch) (D : va_G) (cs : CS) (kf : KF) (T : TF) (O : List Nat) (X : va_W) (a0 hg mq : Nat) (o0 : Value) (o1 : Value) (o2 : Value) (y3 : Nat) (y4 : Nat) (o5 : Value) (y6 : Int32) (y7 : Int32) (y8 : Int32) (y9 : Int32) (y10 : Int32) (y11 : Int32) (y12 : Int32) (tl : List Value) (t_a0 : T a0 = some (22, hg, mq)) (b_hg : hg < 90) (t_y3 : T y3 = some (1, 900, 0)) (t_y4 : T y4 = some (8, 1302, 0)) (l_y6 : 0 ≤ y6.toInt) (u_y6 : y6.toInt ≤ 900) (l_y7 : 0 ≤ y7.toInt) (u_y7 : y7.toInt ≤ 900) (l_y8 : 0 ≤ y8.toInt) (u_y8 : y8.toInt ≤ 900) (l_y10 : 0 ≤ y10.toInt) (u_y10 : y10.toInt ≤ 999) (k2 : y7.toInt ≤ y8.toInt) (hO : okO T (a0 :: O) [1]) : TK l D cs kf yX12_next cX12_next 2 none { frames := 5, cells := 0, slots := 0, locals := 108 } [.ref a0] T (a0 :: O) ((a0, .inr (12, o0 :: o1 :: o2 :: (.ref y3) :: (.ref y4) :: o5 :: (.int y6) :: (.int y7) :: (.int y8) :: (.int y9) :: (.int y10) :: (.int y11) :: (.int y12) :: tl)) :: X) (Tv D cs (fun u => ∃ (n0_6 : Int32) (n0_7 : Int32) (n0_9 : Int32) (n0_10 : Int32), u = (T, a0 :: O, (a0, .inr (12, o0 :: o1 :: o2 :: (.ref y3) :: (.ref y4) :: o5 :: (.int n0_6) :: (.int n0_7) :: (.int y8) :: (.int n0_9) :: (.int n0_10) :: (.int y11) :: (.int y12) :: tl)) :: X) ∧ (y7.toInt ≤ n0_6.toInt) ∧ (n0_6.toInt ≤ n0_7.toInt) ∧ (n0_7.toInt ≤ y8.toInt) ∧ (TK3 n0_9 n0_6 n0_7) ∧ (0 ≤ n0_10.toInt) ∧ (n0_10.toInt ≤ 999))) := by
  refine tk_of (by decide) (Nat.le_of_ble_eq_true rfl) (fun p e s m below meth c ls A H locs hx hb hr hml hown hts hlocks hnm hkb hH hS hA hOX hks hE hl => ?_)
  have hown : s.vm.findClass RX12 = some m.cls := hown
  have hl : lv_has ls 2 [(0, .ref a0)] := hl
  have hOXf := hOX
  obtain ⟨e9, hs9, hH⟩ := HT.takeA hH t_y3 (hO.no t_y3 (by decide))
  obtain ⟨f3, rfl, -⟩ : ∃ f : Nat → Int32, e9 = .inl (cs.2.1, 900, .inl f) ∧ ∀ j, cp 0 (f j) := hs9
  have hO0 := hO
  have hO : okO T (y3 :: a0 :: O) [] := okO.cons (hO.sub (by decide)) t_y3 (by decide)
  refine lv_aload_n hx hb dX12_next_0 rfl (lv_at hl 0 rfl) ?_
  refine lv_aload_n hx hb dX12_next_1 rfl (lv_at hl 0 rfl) ?_
  refine x_getk (ci := 12) (C := RX12) (F := TX12) (N := 36) (v := .int y7) hx hb hts uX12 hown hkb hH 1 rfl rfl 7 (by decide) rfl kw_1230 (fun _ h9 => h9) dX12_next_2 ?_
  have J8 : ∀ (n : Nat) (f8_206 : Int32) (H : Heap) (locs : List Loc) (ls : Array Slot), (900 - f8_206.toInt).toNat = n → (0 ≤ f8_206.toInt) → (f8_206.toInt ≤ 900) → (y7.toInt ≤ f8_206.toInt ∧ f8_206.toInt ≤ y8.toInt) → HT D cs A T (y3 :: a0 :: O) ((y3, .inl (cs.2.1, 900, .inl f3)) :: (a0, .inr (12, o0 :: o1 :: o2 :: (.ref y3) :: (.ref y4) :: o5 :: (.int f8_206) :: (.int y7) :: (.int y8) :: (.int y9) :: (.int y10) :: (.int y11) :: (.int y12) :: tl)) :: X) H → va_S A s.heap H locs → lv_has ls 2 [(0, .ref a0)] → W p l e { frames := 5, cells := 0, slots := 0, locals := 108 } s m [.ref a0].toArray below meth c H locs 0 0 (MQ below (Tv D cs (fun u => ∃ (n0_6 : Int32) (n0_7 : Int32) (n0_9 : Int32) (n0_10 : Int32), u = (T, a0 :: O, (a0, .inr (12, o0 :: o1 :: o2 :: (.ref y3) :: (.ref y4) :: o5 :: (.int n0_6) :: (.int n0_7) :: (.int y8) :: (.int n0_9) :: (.int n0_10) :: (.int y11) :: (.int y12) :: tl)) :: X) ∧ (y7.toInt ≤ n0_6.toInt) ∧ (n0_6.toInt ≤ n0_7.toInt) ∧ (n0_7.toInt ≤ y8.toInt) ∧ (TK3 n0_9 n0_6 n0_7) ∧ (0 ≤ n0_10.toInt) ∧ (n0_10.toInt ≤ 999)) A) [.ref a0].toArray s 0 0 A) (F0 m 8 ls []) := by
    intro n
    induction n using Nat.strongRecOn with
    | _ n ih8 =>
      intro f8_206 H locs ls hm8 l_f8_206 u_f8_206 i8 hH hS hl
      refine lv_aload_n hx hb dX12_next_8 rfl (lv_at hl 0 rfl) ?_
      refine lv_aload_n hx hb dX12_next_9 rfl (lv_at hl 0 rfl) ?_
      refine x_getk (ci := 12) (C := RX12) (F := TX12) (N := 36) (v := .int f8_206) hx hb hts uX12 hown hkb hH 1 rfl rfl 6 (by decide) rfl kw_1229 (fun _ h9 => h9) dX12_next_10 ?_
      refine tk_i hH hS hA (tr_V (n := 1) (As := [.int f8_206]) hx hb hml hown hts hkb hH (ox_c (ox_map hOX rfl)) hks hE hS hA (s_M_see l D cs kf T O X a0 hg mq f8_206 f3 o0 o1 o2 y3 y4 o5 f8_206 y7 y8 y9 y10 y11 y12 tl t_a0 b_hg (by omega) t_y3 t_y4 (by omega) (by omega) (by omega) (by omega) (by omega) (by omega) (by omega) (by omega) (hO.sub (by decide))) kw_1348 kw_1350 ks_44 kw_13 kw_1351 (by decide +kernel) ⟨Nat.le_of_ble_eq_true rfl, Nat.le_of_ble_eq_true rfl⟩ (x_recv (ci := 12) hkb hH 1 rfl rfl) rfl rfl hl.1 (Nat.le_of_ble_eq_true rfl) dX12_next_13 ⟨Nat.le_of_ble_eq_true rfl, Nat.le_of_ble_eq_true rfl⟩) (fun v13 u H locs hz9 hH hS => ?_)
      obtain ⟨rfl, x_v130, x_v131⟩ := hz9
      have hH : HT D cs A T (y3 :: a0 :: O) ((y3, .inl (cs.2.1, 900, .inl f3)) :: (a0, .inr (12, o0 :: o1 :: o2 :: (.ref y3) :: (.ref y4) :: o5 :: (.int f8_206) :: (.int y7) :: (.int y8) :: (.int y9) :: (.int y10) :: (.int y11) :: (.int y12) :: tl)) :: X) H := hH
      refine W.widen (k := 0) (n := 0) (Nat.le_of_ble_eq_true rfl) (Nat.le_of_ble_eq_true rfl) ?_
      refine lv_bipush (v := 10) hx hb dX12_next_16 (by decide) ?_
      refine lv_icmp_eq (tgt := 34) hx hb dX12_next_18 (by decide) (fun c18 => ?_) (fun c18 => ?_)
      · skip
        have tc18 := f_eq (k := 10) (by decide) c18
        refine lv_aload_n hx hb dX12_next_34 rfl (lv_at hl 0 rfl) ?_
        refine lv_dup hx hb dX12_next_35 rfl ?_
        refine x_getk (ci := 12) (C := RX12) (F := TX12) (N := 36) (v := .int f8_206) hx hb hts uX12 hown hkb hH 1 rfl rfl 6 (by decide) rfl kw_1229 (fun _ h9 => h9) dX12_next_36 ?_
        refine lv_iconst (v := 1) hx hb dX12_next_39 (by decide) ?_
        refine lv_iadd hx hb dX12_next_40 ?_
        refine lv_topi (fun v40 ev40 => ?_)
        have tv40 : v40.toInt = f8_206.toInt + (1) := by rw [ev40]; exact add_i rfl (by decide : (1 : Int32).toInt = 1) (by omega) (by omega)
        refine x_putk (ci := 12) (v := .int v40) (ty := tyX12 6) (C := RX12) (F := TX12) (N := 36) hx hb hts uX12 tyX12 tyX12_ok nmX12 hown hkb hH hS 1 rfl rfl 6 (by decide) kw_1229 (fun _ h9 => h9) rfl (tyX12_ok 6 (by decide)) rfl rfl (by show 6 < tl.length + 13; omega) dX12_next_41 (fun H locs hH hS => ?_)
        have hH : HT D cs A T (y3 :: a0 :: O) ((y3, .inl (cs.2.1, 900, .inl f3)) :: (a0, .inr (12, o0 :: o1 :: o2 :: (.ref y3) :: (.ref y4) :: o5 :: (.int v40) :: (.int y7) :: (.int y8) :: (.int y9) :: (.int y10) :: (.int y11) :: (.int y12) :: tl)) :: X) H := hH
        refine lv_goto (tgt := 8) hx hb dX12_next_44 (by decide) ?_
        exact ih8 _ (by omega) v40 _ _ _ rfl (by omega) (by omega) (by omega) hH hS (lv_sub hl [0] rfl)
      · skip
        have tc18 := f_ne (k := 10) (by decide) c18
        refine lv_aload_n hx hb dX12_next_21 rfl (lv_at hl 0 rfl) ?_
        refine lv_aload_n hx hb dX12_next_22 rfl (lv_at hl 0 rfl) ?_
        refine x_getk (ci := 12) (C := RX12) (F := TX12) (N := 36) (v := .int f8_206) hx hb hts uX12 hown hkb hH 1 rfl rfl 6 (by decide) rfl kw_1229 (fun _ h9 => h9) dX12_next_23 ?_
        refine tk_i hH hS hA (tr_V (n := 1) (As := [.int f8_206]) hx hb hml hown hts hkb hH (ox_c (ox_map hOX rfl)) hks hE hS hA (s_M_see l D cs kf T O X a0 hg mq f8_206 f3 o0 o1 o2 y3 y4 o5 f8_206 y7 y8 y9 y10 y11 y12 tl t_a0 b_hg (by omega) t_y3 t_y4 (by omega) (by omega) (by omega) (by omega) (by omega) (by omega) (by omega) (by omega) (hO.sub (by decide))) kw_1348 kw_1350 ks_44 kw_13 kw_1351 (by decide +kernel) ⟨Nat.le_of_ble_eq_true rfl, Nat.le_of_ble_eq_true rfl⟩ (x_recv (ci := 12) hkb hH 1 rfl rfl) rfl rfl hl.1 (Nat.le_of_ble_eq_true rfl) dX12_next_26 ⟨Nat.le_of_ble_eq_true rfl, Nat.le_of_ble_eq_true rfl⟩) (fun v26 u H locs hz9 hH hS => ?_)
        obtain ⟨rfl, x_v260, x_v261⟩ := hz9
        have hH : HT D cs A T (y3 :: a0 :: O) ((y3, .inl (cs.2.1, 900, .inl f3)) :: (a0, .inr (12, o0 :: o1 :: o2 :: (.ref y3) :: (.ref y4) :: o5 :: (.int f8_206) :: (.int y7) :: (.int y8) :: (.int y9) :: (.int y10) :: (.int y11) :: (.int y12) :: tl)) :: X) H := hH
        refine W.widen (k := 0) (n := 0) (Nat.le_of_ble_eq_true rfl) (Nat.le_of_ble_eq_true rfl) ?_
        refine lv_bipush (v := 32) hx hb dX12_next_29 (by decide) ?_
        refine lv_icmp_ne (tgt := 47) hx hb dX12_next_31 (by decide) (fun c31 => ?_) (fun c31 => ?_)
        · skip
          have tc31 := f_ne (k := 32) (by decide) c31
          refine lv_aload_n hx hb dX12_next_47 rfl (lv_at hl 0 rfl) ?_
          refine lv_aload_n hx hb dX12_next_48 rfl (lv_at hl 0 rfl) ?_
          refine x_getk (ci := 12) (C := RX12) (F := TX12) (N := 36) (v := .int f8_206) hx hb hts uX12 hown hkb hH 1 rfl rfl 6 (by decide) rfl kw_1229 (fun _ h9 => h9) dX12_next_49 ?_
          refine x_putk (ci := 12) (v := .int f8_206) (ty := tyX12 7) (C := RX12) (F := TX12) (N := 36) hx hb hts uX12 tyX12 tyX12_ok nmX12 hown hkb hH hS 1 rfl rfl 7 (by decide) kw_1230 (fun _ h9 => h9) rfl (tyX12_ok 7 (by decide)) rfl rfl (by show 7 < tl.length + 13; omega) dX12_next_52 (fun H locs hH hS => ?_)
          have hH : HT D cs A T (y3 :: a0 :: O) ((y3, .inl (cs.2.1, 900, .inl f3)) :: (a0, .inr (12, o0 :: o1 :: o2 :: (.ref y3) :: (.ref y4) :: o5 :: (.int f8_206) :: (.int f8_206) :: (.int y8) :: (.int y9) :: (.int y10) :: (.int y11) :: (.int y12) :: tl)) :: X) H := hH
          refine lv_aload_n hx hb dX12_next_55 rfl (lv_at hl 0 rfl) ?_
          refine x_getk (ci := 12) (C := RX12) (F := TX12) (N := 36) (v := .int f8_206) hx hb hts uX12 hown hkb hH 1 rfl rfl 6 (by decide) rfl kw_1229 (fun _ h9 => h9) dX12_next_56 ?_
          refine lv_aload_n hx hb dX12_next_59 rfl (lv_at hl 0 rfl) ?_
          refine x_getk (ci := 12) (C := RX12) (F := TX12) (N := 36) (v := .int y8) hx hb hts uX12 hown hkb hH 1 rfl rfl 8 (by decide) rfl kw_1231 (fun _ h9 => h9) dX12_next_60 ?_
          refine lv_icmp_lt (tgt := 75) hx hb dX12_next_63 (by decide) (fun c63 => ?_) (fun c63 => ?_)
          · skip
            have fuc63 := full_i f8_206
            have fvc63 := full_i y8
            have tc63 := g_lt c63
            refine lv_aload_n hx hb dX12_next_75 rfl (lv_at hl 0 rfl) ?_
            refine lv_aload_n hx hb dX12_next_76 rfl (lv_at hl 0 rfl) ?_
            refine x_getk (ci := 12) (C := RX12) (F := TX12) (N := 36) (v := .int f8_206) hx hb hts uX12 hown hkb hH 1 rfl rfl 6 (by decide) rfl kw_1229 (fun _ h9 => h9) dX12_next_77 ?_
            refine tk_i hH hS hA (tr_V (n := 1) (As := [.int f8_206]) hx hb hml hown hts hkb hH (ox_c (ox_map hOX rfl)) hks hE hS hA (s_M_see l D cs kf T O X a0 hg mq f8_206 f3 o0 o1 o2 y3 y4 o5 f8_206 f8_206 y8 y9 y10 y11 y12 tl t_a0 b_hg (by omega) t_y3 t_y4 (by omega) (by omega) (by omega) (by omega) (by omega) (by omega) (by omega) (by omega) (hO.sub (by decide))) kw_1348 kw_1350 ks_44 kw_13 kw_1351 (by decide +kernel) ⟨Nat.le_of_ble_eq_true rfl, Nat.le_of_ble_eq_true rfl⟩ (x_recv (ci := 12) hkb hH 1 rfl rfl) rfl rfl hl.1 (Nat.le_of_ble_eq_true rfl) dX12_next_80 ⟨Nat.le_of_ble_eq_true rfl, Nat.le_of_ble_eq_true rfl⟩) (fun v80 u H locs hz9 hH hS => ?_)
            obtain ⟨rfl, x_v800, x_v801⟩ := hz9
            have hH : HT D cs A T (y3 :: a0 :: O) ((y3, .inl (cs.2.1, 900, .inl f3)) :: (a0, .inr (12, o0 :: o1 :: o2 :: (.ref y3) :: (.ref y4) :: o5 :: (.int f8_206) :: (.int f8_206) :: (.int y8) :: (.int y9) :: (.int y10) :: (.int y11) :: (.int y12) :: tl)) :: X) H := hH
            refine W.widen (k := 0) (n := 0) (Nat.le_of_ble_eq_true rfl) (Nat.le_of_ble_eq_true rfl) ?_
            refine tk_i hH hS hA (tr_S (n := 1) (As := [.int v80]) hx hb hml hown hts hkb hH (ox_c (ox_map hOX rfl)) hks hE hS hA (s_M_isSmall2 l D cs kf T (y3 :: a0 :: O) ((y3, .inl (cs.2.1, 900, .inl f3)) :: (a0, .inr (12, o0 :: o1 :: o2 :: (.ref y3) :: (.ref y4) :: o5 :: (.int f8_206) :: (.int f8_206) :: (.int y8) :: (.int y9) :: (.int y10) :: (.int y11) :: (.int y12) :: tl)) :: X) v80  (hO.sub (by decide))) kw_1352 kw_1353 kw_13 kw_1354 (by decide +kernel) ⟨Nat.le_of_ble_eq_true rfl, Nat.le_of_ble_eq_true rfl⟩ rfl rfl hl.1 (Nat.le_of_ble_eq_true rfl) dX12_next_83 ⟨Nat.le_of_ble_eq_true rfl, Nat.le_of_ble_eq_true rfl⟩) (fun v83 u H locs hz9 hH hS => ?_)
            obtain ⟨rfl, l_v83, u_v83, x_v830, x_v831⟩ := hz9
            have hH : HT D cs A T (y3 :: a0 :: O) ((y3, .inl (cs.2.1, 900, .inl f3)) :: (a0, .inr (12, o0 :: o1 :: o2 :: (.ref y3) :: (.ref y4) :: o5 :: (.int f8_206) :: (.int f8_206) :: (.int y8) :: (.int y9) :: (.int y10) :: (.int y11) :: (.int y12) :: tl)) :: X) H := hH
            refine W.widen (k := 0) (n := 0) (Nat.le_of_ble_eq_true rfl) (Nat.le_of_ble_eq_true rfl) ?_
            have J89 : ∀ (n : Nat) (f89_207 : Int32) (H : Heap) (locs : List Loc) (ls : Array Slot), (900 - f89_207.toInt).toNat = n → (0 ≤ f89_207.toInt) → (f89_207.toInt ≤ 900) → (f8_206.toInt ≤ f89_207.toInt ∧ f89_207.toInt ≤ y8.toInt) → (v83.toInt ≠ 0) → HT D cs A T (y3 :: a0 :: O) ((y3, .inl (cs.2.1, 900, .inl f3)) :: (a0, .inr (12, o0 :: o1 :: o2 :: (.ref y3) :: (.ref y4) :: o5 :: (.int f8_206) :: (.int f89_207) :: (.int y8) :: (.int y9) :: (.int y10) :: (.int y11) :: (.int y12) :: tl)) :: X) H → va_S A s.heap H locs → lv_has ls 2 [(0, .ref a0)] → W p l e { frames := 5, cells := 0, slots := 0, locals := 108 } s m [.ref a0].toArray below meth c H locs 0 0 (MQ below (Tv D cs (fun u => ∃ (n0_6 : Int32) (n0_7 : Int32) (n0_9 : Int32) (n0_10 : Int32), u = (T, a0 :: O, (a0, .inr (12, o0 :: o1 :: o2 :: (.ref y3) :: (.ref y4) :: o5 :: (.int n0_6) :: (.int n0_7) :: (.int y8) :: (.int n0_9) :: (.int n0_10) :: (.int y11) :: (.int y12) :: tl)) :: X) ∧ (y7.toInt ≤ n0_6.toInt) ∧ (n0_6.toInt ≤ n0_7.toInt) ∧ (n0_7.toInt ≤ y8.toInt) ∧ (TK3 n0_9 n0_6 n0_7) ∧ (0 ≤ n0_10.toInt) ∧ (n0_10.toInt ≤ 999)) A) [.ref a0].toArray s 0 0 A) (F0 m 89 ls []) := by
              intro n
              induction n using Nat.strongRecOn with
              | _ n ih89 =>
                intro f89_207 H locs ls hm89 l_f89_207 u_f89_207 i89 j89 hH hS hl
                refine lv_aload_n hx hb dX12_next_89 rfl (lv_at hl 0 rfl) ?_
                refine lv_aload_n hx hb dX12_next_90 rfl (lv_at hl 0 rfl) ?_
                refine x_getk (ci := 12) (C := RX12) (F := TX12) (N := 36) (v := .int f89_207) hx hb hts uX12 hown hkb hH 1 rfl rfl 7 (by decide) rfl kw_1230 (fun _ h9 => h9) dX12_next_91 ?_
                refine tk_i hH hS hA (tr_V (n := 1) (As := [.int f89_207]) hx hb hml hown hts hkb hH (ox_c (ox_map hOX rfl)) hks hE hS hA (s_M_see l D cs kf T O X a0 hg mq f89_207 f3 o0 o1 o2 y3 y4 o5 f8_206 f89_207 y8 y9 y10 y11 y12 tl t_a0 b_hg (by omega) t_y3 t_y4 (by omega) (by omega) (by omega) (by omega) (by omega) (by omega) (by omega) (by omega) (hO.sub (by decide))) kw_1348 kw_1350 ks_44 kw_13 kw_1351 (by decide +kernel) ⟨Nat.le_of_ble_eq_true rfl, Nat.le_of_ble_eq_true rfl⟩ (x_recv (ci := 12) hkb hH 1 rfl rfl) rfl rfl hl.1 (Nat.le_of_ble_eq_true rfl) dX12_next_94 ⟨Nat.le_of_ble_eq_true rfl, Nat.le_of_ble_eq_true rfl⟩) (fun v94 u H locs hz9 hH hS => ?_)
                obtain ⟨rfl, x_v940, x_v941⟩ := hz9
                have hH : HT D cs A T (y3 :: a0 :: O) ((y3, .inl (cs.2.1, 900, .inl f3)) :: (a0, .inr (12, o0 :: o1 :: o2 :: (.ref y3) :: (.ref y4) :: o5 :: (.int f8_206) :: (.int f89_207) :: (.int y8) :: (.int y9) :: (.int y10) :: (.int y11) :: (.int y12) :: tl)) :: X) H := hH
                refine W.widen (k := 0) (n := 0) (Nat.le_of_ble_eq_true rfl) (Nat.le_of_ble_eq_true rfl) ?_
                refine tk_i hH hS hA (tr_S (n := 1) (As := [.int v94]) hx hb hml hown hts hkb hH (ox_c (ox_map hOX rfl)) hks hE hS hA (s_M_isSmall2 l D cs kf T (y3 :: a0 :: O) ((y3, .inl (cs.2.1, 900, .inl f3)) :: (a0, .inr (12, o0 :: o1 :: o2 :: (.ref y3) :: (.ref y4) :: o5 :: (.int f8_206) :: (.int f89_207) :: (.int y8) :: (.int y9) :: (.int y10) :: (.int y11) :: (.int y12) :: tl)) :: X) v94  (hO.sub (by decide))) kw_1352 kw_1353 kw_13 kw_1354 (by decide +kernel) ⟨Nat.le_of_ble_eq_true rfl, Nat.le_of_ble_eq_true rfl⟩ rfl rfl hl.1 (Nat.le_of_ble_eq_true rfl) dX12_next_97 ⟨Nat.le_of_ble_eq_true rfl, Nat.le_of_ble_eq_true rfl⟩) (fun v97 u H locs hz9 hH hS => ?_)
                obtain ⟨rfl, l_v97, u_v97, x_v970, x_v971⟩ := hz9
                have hH : HT D cs A T (y3 :: a0 :: O) ((y3, .inl (cs.2.1, 900, .inl f3)) :: (a0, .inr (12, o0 :: o1 :: o2 :: (.ref y3) :: (.ref y4) :: o5 :: (.int f8_206) :: (.int f89_207) :: (.int y8) :: (.int y9) :: (.int y10) :: (.int y11) :: (.int y12) :: tl)) :: X) H := hH
                refine W.widen (k := 0) (n := 0) (Nat.le_of_ble_eq_true rfl) (Nat.le_of_ble_eq_true rfl) ?_
                refine lv_if_eq (tgt := 116) hx hb dX12_next_100 (by decide) (fun c100 => ?_) (fun c100 => ?_)
                · skip
                  have tc100 := f_eq (k := 0) (by decide) c100
                  have hq : f8_206.toInt ≠ f89_207.toInt := fun q => by have := see_same x_v800 x_v940 q; omega
                  refine lv_aload_n hx hb dX12_next_116 rfl (lv_at hl 0 rfl) ?_
                  refine lv_aload_n hx hb dX12_next_117 rfl (lv_at hl 0 rfl) ?_
                  refine tk_i hH hS hA (tr_V (n := 0) (As := []) hx hb hml hown hts hkb hH (ox_c (ox_map hOX rfl)) hks hE hS hA (s_M_keyAt l D cs kf T O X a0 hg mq f3 o0 o1 o2 y3 y4 o5 f8_206 f89_207 y8 y9 y10 y11 y12 tl t_a0 b_hg t_y3 t_y4 (by omega) (by omega) (by omega) (by omega) (by omega) (by omega) (by omega) (by omega) (by omega) (hO.sub (by decide))) kw_1355 kw_1357 ks_45 kw_13 kw_1358 (by decide +kernel) ⟨Nat.le_of_ble_eq_true rfl, Nat.le_of_ble_eq_true rfl⟩ (x_recv (ci := 12) hkb hH 1 rfl rfl) rfl rfl hl.1 (Nat.le_of_ble_eq_true rfl) dX12_next_118 ⟨Nat.le_of_ble_eq_true rfl, Nat.le_of_ble_eq_true rfl⟩) (fun v118 u H locs hz9 hH hS => ?_)
                  obtain ⟨rfl⟩ := hz9
                  have hH : HT D cs A T (y3 :: a0 :: O) ((y3, .inl (cs.2.1, 900, .inl f3)) :: (a0, .inr (12, o0 :: o1 :: o2 :: (.ref y3) :: (.ref y4) :: o5 :: (.int f8_206) :: (.int f89_207) :: (.int y8) :: (.int y9) :: (.int y10) :: (.int y11) :: (.int y12) :: tl)) :: X) H := hH
                  refine W.widen (k := 0) (n := 0) (Nat.le_of_ble_eq_true rfl) (Nat.le_of_ble_eq_true rfl) ?_
                  refine x_putk (ci := 12) (v := .int v118) (ty := tyX12 9) (C := RX12) (F := TX12) (N := 36) hx hb hts uX12 tyX12 tyX12_ok nmX12 hown hkb hH hS 1 rfl rfl 9 (by decide) kw_1232 (fun _ h9 => h9) rfl (tyX12_ok 9 (by decide)) rfl rfl (by show 9 < tl.length + 13; omega) dX12_next_121 (fun H locs hH hS => ?_)
                  have hH : HT D cs A T (y3 :: a0 :: O) ((y3, .inl (cs.2.1, 900, .inl f3)) :: (a0, .inr (12, o0 :: o1 :: o2 :: (.ref y3) :: (.ref y4) :: o5 :: (.int f8_206) :: (.int f89_207) :: (.int y8) :: (.int v118) :: (.int y10) :: (.int y11) :: (.int y12) :: tl)) :: X) H := hH
                  refine lv_goto (tgt := 294) hx hb dX12_next_124 (by decide) ?_
                  have hH : HT D cs A T (a0 :: O) ((a0, .inr (12, o0 :: o1 :: o2 :: (.ref y3) :: (.ref y4) :: o5 :: (.int f8_206) :: (.int f89_207) :: (.int y8) :: (.int v118) :: (.int y10) :: (.int y11) :: (.int y12) :: tl)) :: X) H := HT.layA hH t_y3 (show sp cs T (1, 900, 0) _ from ⟨f3, rfl, fun _ => cp_0 _⟩)
                  exact te_v hx hb hr hlocks hH hS (⟨f8_206, f89_207, v118, y10, rfl, by omega, by omega, by omega, (fun q => by omega), by omega, by omega⟩) dX12_next_294
                · skip
                  have tc100 := f_ne (k := 0) (by decide) c100
                  refine lv_aload_n hx hb dX12_next_103 rfl (lv_at hl 0 rfl) ?_
                  refine lv_dup hx hb dX12_next_104 rfl ?_
                  refine x_getk (ci := 12) (C := RX12) (F := TX12) (N := 36) (v := .int f89_207) hx hb hts uX12 hown hkb hH 1 rfl rfl 7 (by decide) rfl kw_1230 (fun _ h9 => h9) dX12_next_105 ?_
                  refine lv_iconst (v := 1) hx hb dX12_next_108 (by decide) ?_
                  refine lv_iadd hx hb dX12_next_109 ?_
                  refine lv_topi (fun v109 ev109 => ?_)
                  have tv109 : v109.toInt = f89_207.toInt + (1) := by rw [ev109]; exact add_i rfl (by decide : (1 : Int32).toInt = 1) (by omega) (by omega)
                  refine x_putk (ci := 12) (v := .int v109) (ty := tyX12 7) (C := RX12) (F := TX12) (N := 36) hx hb hts uX12 tyX12 tyX12_ok nmX12 hown hkb hH hS 1 rfl rfl 7 (by decide) kw_1230 (fun _ h9 => h9) rfl (tyX12_ok 7 (by decide)) rfl rfl (by show 7 < tl.length + 13; omega) dX12_next_110 (fun H locs hH hS => ?_)
                  have hH : HT D cs A T (y3 :: a0 :: O) ((y3, .inl (cs.2.1, 900, .inl f3)) :: (a0, .inr (12, o0 :: o1 :: o2 :: (.ref y3) :: (.ref y4) :: o5 :: (.int f8_206) :: (.int v109) :: (.int y8) :: (.int y9) :: (.int y10) :: (.int y11) :: (.int y12) :: tl)) :: X) H := hH
                  refine lv_goto (tgt := 89) hx hb dX12_next_113 (by decide) ?_
                  exact ih89 _ (by omega) v109 _ _ _ rfl (by omega) (by omega) (by omega) (by omega) hH hS (lv_sub hl [0] rfl)
            refine lv_if_eq (tgt := 127) hx hb dX12_next_86 (by decide) (fun c86 => ?_) (fun c86 => ?_)
            · skip
              have tc86 := f_eq (k := 0) (by decide) c86
              refine lv_aload_n hx hb dX12_next_127 rfl (lv_at hl 0 rfl) ?_
              refine lv_aload_n hx hb dX12_next_128 rfl (lv_at hl 0 rfl) ?_
              refine x_getk (ci := 12) (C := RX12) (F := TX12) (N := 36) (v := .int f8_206) hx hb hts uX12 hown hkb hH 1 rfl rfl 6 (by decide) rfl kw_1229 (fun _ h9 => h9) dX12_next_129 ?_
              refine tk_i hH hS hA (tr_V (n := 1) (As := [.int f8_206]) hx hb hml hown hts hkb hH (ox_c (ox_map hOX rfl)) hks hE hS hA (s_M_see l D cs kf T O X a0 hg mq f8_206 f3 o0 o1 o2 y3 y4 o5 f8_206 f8_206 y8 y9 y10 y11 y12 tl t_a0 b_hg (by omega) t_y3 t_y4 (by omega) (by omega) (by omega) (by omega) (by omega) (by omega) (by omega) (by omega) (hO.sub (by decide))) kw_1348 kw_1350 ks_44 kw_13 kw_1351 (by decide +kernel) ⟨Nat.le_of_ble_eq_true rfl, Nat.le_of_ble_eq_true rfl⟩ (x_recv (ci := 12) hkb hH 1 rfl rfl) rfl rfl hl.1 (Nat.le_of_ble_eq_true rfl) dX12_next_132 ⟨Nat.le_of_ble_eq_true rfl, Nat.le_of_ble_eq_true rfl⟩) (fun v132 u H locs hz9 hH hS => ?_)
              obtain ⟨rfl, x_v1320, x_v1321⟩ := hz9
              have hH : HT D cs A T (y3 :: a0 :: O) ((y3, .inl (cs.2.1, 900, .inl f3)) :: (a0, .inr (12, o0 :: o1 :: o2 :: (.ref y3) :: (.ref y4) :: o5 :: (.int f8_206) :: (.int f8_206) :: (.int y8) :: (.int y9) :: (.int y10) :: (.int y11) :: (.int y12) :: tl)) :: X) H := hH
              refine W.widen (k := 0) (n := 0) (Nat.le_of_ble_eq_true rfl) (Nat.le_of_ble_eq_true rfl) ?_
              refine tk_i hH hS hA (tr_S (n := 1) (As := [.int v132]) hx hb hml hown hts hkb hH (ox_c (ox_map hOX rfl)) hks hE hS hA (s_M_isDigit2 l D cs kf T (y3 :: a0 :: O) ((y3, .inl (cs.2.1, 900, .inl f3)) :: (a0, .inr (12, o0 :: o1 :: o2 :: (.ref y3) :: (.ref y4) :: o5 :: (.int f8_206) :: (.int f8_206) :: (.int y8) :: (.int y9) :: (.int y10) :: (.int y11) :: (.int y12) :: tl)) :: X) v132  (hO.sub (by decide))) kw_1362 kw_1363 kw_13 kw_1364 (by decide +kernel) ⟨Nat.le_of_ble_eq_true rfl, Nat.le_of_ble_eq_true rfl⟩ rfl rfl hl.1 (Nat.le_of_ble_eq_true rfl) dX12_next_135 ⟨Nat.le_of_ble_eq_true rfl, Nat.le_of_ble_eq_true rfl⟩) (fun v135 u H locs hz9 hH hS => ?_)
              obtain ⟨rfl, l_v135, u_v135, x_v1350, x_v1351⟩ := hz9
              have hH : HT D cs A T (y3 :: a0 :: O) ((y3, .inl (cs.2.1, 900, .inl f3)) :: (a0, .inr (12, o0 :: o1 :: o2 :: (.ref y3) :: (.ref y4) :: o5 :: (.int f8_206) :: (.int f8_206) :: (.int y8) :: (.int y9) :: (.int y10) :: (.int y11) :: (.int y12) :: tl)) :: X) H := hH
              refine W.widen (k := 0) (n := 0) (Nat.le_of_ble_eq_true rfl) (Nat.le_of_ble_eq_true rfl) ?_
              refine lv_if_eq (tgt := 236) hx hb dX12_next_138 (by decide) (fun c138 => ?_) (fun c138 => ?_)
              · skip
                have tc138 := f_eq (k := 0) (by decide) c138
                refine lv_aload_n hx hb dX12_next_236 rfl (lv_at hl 0 rfl) ?_
                refine lv_dup hx hb dX12_next_237 rfl ?_
                refine x_getk (ci := 12) (C := RX12) (F := TX12) (N := 36) (v := .int f8_206) hx hb hts uX12 hown hkb hH 1 rfl rfl 7 (by decide) rfl kw_1230 (fun _ h9 => h9) dX12_next_238 ?_
                refine lv_iconst (v := 1) hx hb dX12_next_241 (by decide) ?_
                refine lv_iadd hx hb dX12_next_242 ?_
                refine lv_topi (fun v242 ev242 => ?_)
                have tv242 : v242.toInt = f8_206.toInt + (1) := by rw [ev242]; exact add_i rfl (by decide : (1 : Int32).toInt = 1) (by omega) (by omega)
                refine x_putk (ci := 12) (v := .int v242) (ty := tyX12 7) (C := RX12) (F := TX12) (N := 36) hx hb hts uX12 tyX12 tyX12_ok nmX12 hown hkb hH hS 1 rfl rfl 7 (by decide) kw_1230 (fun _ h9 => h9) rfl (tyX12_ok 7 (by decide)) rfl rfl (by show 7 < tl.length + 13; omega) dX12_next_243 (fun H locs hH hS => ?_)
                have hH : HT D cs A T (y3 :: a0 :: O) ((y3, .inl (cs.2.1, 900, .inl f3)) :: (a0, .inr (12, o0 :: o1 :: o2 :: (.ref y3) :: (.ref y4) :: o5 :: (.int f8_206) :: (.int v242) :: (.int y8) :: (.int y9) :: (.int y10) :: (.int y11) :: (.int y12) :: tl)) :: X) H := hH
                refine lv_aload_n hx hb dX12_next_246 rfl (lv_at hl 0 rfl) ?_
                refine lv_bipush (v := 23) hx hb dX12_next_247 (by decide) ?_
                refine x_putk (ci := 12) (v := .int 23) (ty := tyX12 9) (C := RX12) (F := TX12) (N := 36) hx hb hts uX12 tyX12 tyX12_ok nmX12 hown hkb hH hS 1 rfl rfl 9 (by decide) kw_1232 (fun _ h9 => h9) rfl (tyX12_ok 9 (by decide)) rfl rfl (by show 9 < tl.length + 13; omega) dX12_next_249 (fun H locs hH hS => ?_)
                have hH : HT D cs A T (y3 :: a0 :: O) ((y3, .inl (cs.2.1, 900, .inl f3)) :: (a0, .inr (12, o0 :: o1 :: o2 :: (.ref y3) :: (.ref y4) :: o5 :: (.int f8_206) :: (.int v242) :: (.int y8) :: (.int 23) :: (.int y10) :: (.int y11) :: (.int y12) :: tl)) :: X) H := hH
                refine lv_iconst (v := 0) hx hb dX12_next_252 (by decide) ?_
                have J254 : ∀ (n : Nat) (p254_1 : Int32) (f254_209 : Int32) (H : Heap) (locs : List Loc) (ls : Array Slot), (99 - p254_1.toInt).toNat = n → (0 ≤ p254_1.toInt) → (p254_1.toInt ≤ 99) → (23 ≤ f254_209.toInt) → (f254_209.toInt ≤ 199) → HT D cs A T (y3 :: a0 :: O) ((y3, .inl (cs.2.1, 900, .inl f3)) :: (a0, .inr (12, o0 :: o1 :: o2 :: (.ref y3) :: (.ref y4) :: o5 :: (.int f8_206) :: (.int v242) :: (.int y8) :: (.int f254_209) :: (.int y10) :: (.int y11) :: (.int y12) :: tl)) :: X) H → va_S A s.heap H locs → lv_has ls 2 [(1, .int p254_1), (0, .ref a0)] → W p l e { frames := 5, cells := 0, slots := 0, locals := 108 } s m [.ref a0].toArray below meth c H locs 0 0 (MQ below (Tv D cs (fun u => ∃ (n0_6 : Int32) (n0_7 : Int32) (n0_9 : Int32) (n0_10 : Int32), u = (T, a0 :: O, (a0, .inr (12, o0 :: o1 :: o2 :: (.ref y3) :: (.ref y4) :: o5 :: (.int n0_6) :: (.int n0_7) :: (.int y8) :: (.int n0_9) :: (.int n0_10) :: (.int y11) :: (.int y12) :: tl)) :: X) ∧ (y7.toInt ≤ n0_6.toInt) ∧ (n0_6.toInt ≤ n0_7.toInt) ∧ (n0_7.toInt ≤ y8.toInt) ∧ (TK3 n0_9 n0_6 n0_7) ∧ (0 ≤ n0_10.toInt) ∧ (n0_10.toInt ≤ 999)) A) [.ref a0].toArray s 0 0 A) (F0 m 254 ls []) := by
                  intro n
                  induction n using Nat.strongRecOn with
                  | _ n ih254 =>
                    intro p254_1 f254_209 H locs ls hm254 l_p254_1 u_p254_1 l_f254_209 u_f254_209 hH hS hl
                    refine lv_iload_n hx hb dX12_next_254 rfl (lv_at hl 0 rfl) ?_
                    refine va_ldcS (q := kf.1 0) hx hb hown (hks ("FootholdWallModel", 126, ";:+-*()[]=<>", 0) (by decide +kernel)) dX12_next_255 ?_
                    refine tk_i hH hS hA (tr_V (n := 0) (As := []) hx hb hml hown hts hkb hH (ox_c (ox_map hOX rfl)) hks hE hS hA (s_length l D cs kf T (y3 :: a0 :: O) ((y3, .inl (cs.2.1, 900, .inl f3)) :: (a0, .inr (12, o0 :: o1 :: o2 :: (.ref y3) :: (.ref y4) :: o5 :: (.int f8_206) :: (.int v242) :: (.int y8) :: (.int f254_209) :: (.int y10) :: (.int y11) :: (.int y12) :: tl)) :: X) 0 (by decide) (hO.sub (by decide))) kw_1360 kw_478 kw_479 kw_14 kw_480 (by decide +kernel) ⟨Nat.le_of_ble_eq_true rfl, Nat.le_of_ble_eq_true rfl⟩ (vk_recv hE.1 (by decide) hS) rfl rfl hl.1 (Nat.le_of_ble_eq_true rfl) dX12_next_257 ⟨Nat.le_of_ble_eq_true rfl, Nat.le_of_ble_eq_true rfl⟩) (fun v257 u H locs hz9 hH hS => ?_)
                    obtain ⟨rfl, l_v257, u_v257, x_v2570⟩ := hz9
                    have hH : HT D cs A T (y3 :: a0 :: O) ((y3, .inl (cs.2.1, 900, .inl f3)) :: (a0, .inr (12, o0 :: o1 :: o2 :: (.ref y3) :: (.ref y4) :: o5 :: (.int f8_206) :: (.int v242) :: (.int y8) :: (.int f254_209) :: (.int y10) :: (.int y11) :: (.int y12) :: tl)) :: X) H := hH
                    refine W.widen (k := 0) (n := 0) (Nat.le_of_ble_eq_true rfl) (Nat.le_of_ble_eq_true rfl) ?_
                    refine lv_icmp_ge (tgt := 294) hx hb dX12_next_260 (by decide) (fun c260 => ?_) (fun c260 => ?_)
                    · skip
                      have fuc260 := full_i p254_1
                      have fvc260 := full_i v257
                      have tc260 := g_le c260
                      have hH : HT D cs A T (a0 :: O) ((a0, .inr (12, o0 :: o1 :: o2 :: (.ref y3) :: (.ref y4) :: o5 :: (.int f8_206) :: (.int v242) :: (.int y8) :: (.int f254_209) :: (.int y10) :: (.int y11) :: (.int y12) :: tl)) :: X) H := HT.layA hH t_y3 (show sp cs T (1, 900, 0) _ from ⟨f3, rfl, fun _ => cp_0 _⟩)
                      exact te_v hx hb hr hlocks hH hS (⟨f8_206, v242, f254_209, y10, rfl, by omega, by omega, by omega, (fun q => by omega), by omega, by omega⟩) dX12_next_294
                    · skip
                      have fuc260 := full_i p254_1
                      have fvc260 := full_i v257
                      have tc260 := g_nle c260
                      refine lv_aload_n hx hb dX12_next_263 rfl (lv_at hl 1 rfl) ?_
                      refine lv_aload_n hx hb dX12_next_264 rfl (lv_at hl 1 rfl) ?_
                      refine x_getk (ci := 12) (C := RX12) (F := TX12) (N := 36) (v := .int f8_206) hx hb hts uX12 hown hkb hH 1 rfl rfl 6 (by decide) rfl kw_1229 (fun _ h9 => h9) dX12_next_265 ?_
                      refine tk_i hH hS hA (tr_V (n := 1) (As := [.int f8_206]) hx hb hml hown hts hkb hH (ox_c (ox_map hOX rfl)) hks hE hS hA (s_M_see l D cs kf T O X a0 hg mq f8_206 f3 o0 o1 o2 y3 y4 o5 f8_206 v242 y8 f254_209 y10 y11 y12 tl t_a0 b_hg (by omega) t_y3 t_y4 (by omega) (by omega) (by omega) (by omega) (by omega) (by omega) (by omega) (by omega) (hO.sub (by decide))) kw_1348 kw_1350 ks_44 kw_13 kw_1351 (by decide +kernel) ⟨Nat.le_of_ble_eq_true rfl, Nat.le_of_ble_eq_true rfl⟩ (x_recv (ci := 12) hkb hH 1 rfl rfl) rfl rfl hl.1 (Nat.le_of_ble_eq_true rfl) dX12_next_268 ⟨Nat.le_of_ble_eq_true rfl, Nat.le_of_ble_eq_true rfl⟩) (fun v268 u H locs hz9 hH hS => ?_)
                      obtain ⟨rfl, x_v2680, x_v2681⟩ := hz9
                      have hH : HT D cs A T (y3 :: a0 :: O) ((y3, .inl (cs.2.1, 900, .inl f3)) :: (a0, .inr (12, o0 :: o1 :: o2 :: (.ref y3) :: (.ref y4) :: o5 :: (.int f8_206) :: (.int v242) :: (.int y8) :: (.int f254_209) :: (.int y10) :: (.int y11) :: (.int y12) :: tl)) :: X) H := hH
                      refine W.widen (k := 0) (n := 0) (Nat.le_of_ble_eq_true rfl) (Nat.le_of_ble_eq_true rfl) ?_
                      refine va_ldcS (q := kf.1 0) hx hb hown (hks ("FootholdWallModel", 126, ";:+-*()[]=<>", 0) (by decide +kernel)) dX12_next_271 ?_
                      refine lv_iload_n hx hb dX12_next_273 rfl (lv_at hl 0 rfl) ?_
                      refine tk_i hH hS hA (tr_V (n := 1) (As := [.int p254_1]) hx hb hml hown hts hkb hH (ox_c (ox_map hOX rfl)) hks hE hS hA (s_charAt2 l D cs kf T (y3 :: a0 :: O) ((y3, .inl (cs.2.1, 900, .inl f3)) :: (a0, .inr (12, o0 :: o1 :: o2 :: (.ref y3) :: (.ref y4) :: o5 :: (.int f8_206) :: (.int v242) :: (.int y8) :: (.int f254_209) :: (.int y10) :: (.int y11) :: (.int y12) :: tl)) :: X) 0 p254_1 (by decide) (by omega) (by omega) (hO.sub (by decide))) kw_1361 kw_556 kw_557 kw_14 kw_558 (by decide +kernel) ⟨Nat.le_of_ble_eq_true rfl, Nat.le_of_ble_eq_true rfl⟩ (vk_recv hE.1 (by decide) hS) rfl rfl hl.1 (Nat.le_of_ble_eq_true rfl) dX12_next_274 ⟨Nat.le_of_ble_eq_true rfl, Nat.le_of_ble_eq_true rfl⟩) (fun v274 u H locs hz9 hH hS => ?_)
                      obtain ⟨rfl, l_v274, u_v274, x_v2740⟩ := hz9
                      have hH : HT D cs A T (y3 :: a0 :: O) ((y3, .inl (cs.2.1, 900, .inl f3)) :: (a0, .inr (12, o0 :: o1 :: o2 :: (.ref y3) :: (.ref y4) :: o5 :: (.int f8_206) :: (.int v242) :: (.int y8) :: (.int f254_209) :: (.int y10) :: (.int y11) :: (.int y12) :: tl)) :: X) H := hH
                      refine W.widen (k := 0) (n := 0) (Nat.le_of_ble_eq_true rfl) (Nat.le_of_ble_eq_true rfl) ?_
                      have J288 : ∀ (f288_209 : Int32) (H : Heap) (locs : List Loc) (ls : Array Slot), (23 ≤ f288_209.toInt) → (f288_209.toInt ≤ 199) → HT D cs A T (y3 :: a0 :: O) ((y3, .inl (cs.2.1, 900, .inl f3)) :: (a0, .inr (12, o0 :: o1 :: o2 :: (.ref y3) :: (.ref y4) :: o5 :: (.int f8_206) :: (.int v242) :: (.int y8) :: (.int f288_209) :: (.int y10) :: (.int y11) :: (.int y12) :: tl)) :: X) H → va_S A s.heap H locs → lv_has ls 2 [(1, .int p254_1), (0, .ref a0)] → W p l e { frames := 5, cells := 0, slots := 0, locals := 108 } s m [.ref a0].toArray below meth c H locs 0 0 (MQ below (Tv D cs (fun u => ∃ (n0_6 : Int32) (n0_7 : Int32) (n0_9 : Int32) (n0_10 : Int32), u = (T, a0 :: O, (a0, .inr (12, o0 :: o1 :: o2 :: (.ref y3) :: (.ref y4) :: o5 :: (.int n0_6) :: (.int n0_7) :: (.int y8) :: (.int n0_9) :: (.int n0_10) :: (.int y11) :: (.int y12) :: tl)) :: X) ∧ (y7.toInt ≤ n0_6.toInt) ∧ (n0_6.toInt ≤ n0_7.toInt) ∧ (n0_7.toInt ≤ y8.toInt) ∧ (TK3 n0_9 n0_6 n0_7) ∧ (0 ≤ n0_10.toInt) ∧ (n0_10.toInt ≤ 999)) A) [.ref a0].toArray s 0 0 A) (F0 m 288 ls []) := by
                        intro f288_209 H locs ls l_f288_209 u_f288_209 hH hS hl
                        obtain ⟨v288, ev288⟩ : ∃ y : Int32, y = p254_1 + 1 := ⟨_, rfl⟩
                        have tv288 : v288.toInt = p254_1.toInt + (1) := by rw [ev288]; exact add_i rfl (by decide) (by omega) (by omega)
                        refine lv_iinc (v := v288) (lv' := [(1, .int v288), (0, .ref a0)]) hx hb dX12_next_288 hl (k := 0) rfl (by rw [ev288]; rfl) (by decide) rfl (fun ls hl => ?_)
                        refine lv_goto (tgt := 254) hx hb dX12_next_291 (by decide) ?_
                        exact ih254 _ (by omega) v288 f288_209 _ _ _ rfl (by omega) (by omega) (by omega) (by omega) hH hS (lv_sub hl [0, 1] rfl)
                      refine lv_icmp_ne (tgt := 288) hx hb dX12_next_277 (by decide) (fun c277 => ?_) (fun c277 => ?_)
                      · skip
                        have fuc277 := full_i v268
                        have fvc277 := full_i v274
                        have tc277 := g_ne c277
                        exact J288 f254_209 _ _ _ (by omega) (by omega) hH hS (lv_sub hl [0, 1] rfl)
                      · skip
                        have fuc277 := full_i v268
                        have fvc277 := full_i v274
                        have tc277 := g_eq c277
                        refine lv_aload_n hx hb dX12_next_280 rfl (lv_at hl 1 rfl) ?_
                        refine lv_bipush (v := 30) hx hb dX12_next_281 (by decide) ?_
                        refine lv_iload_n hx hb dX12_next_283 rfl (lv_at hl 0 rfl) ?_
                        refine lv_iadd hx hb dX12_next_284 ?_
                        refine lv_topi (fun v284 ev284 => ?_)
                        have tv284 : v284.toInt = (30) + p254_1.toInt := by rw [ev284]; exact add_i (by decide : (30 : Int32).toInt = 30) rfl (by omega) (by omega)
                        refine x_putk (ci := 12) (v := .int v284) (ty := tyX12 9) (C := RX12) (F := TX12) (N := 36) hx hb hts uX12 tyX12 tyX12_ok nmX12 hown hkb hH hS 1 rfl rfl 9 (by decide) kw_1232 (fun _ h9 => h9) rfl (tyX12_ok 9 (by decide)) rfl rfl (by show 9 < tl.length + 13; omega) dX12_next_285 (fun H locs hH hS => ?_)
                        have hH : HT D cs A T (y3 :: a0 :: O) ((y3, .inl (cs.2.1, 900, .inl f3)) :: (a0, .inr (12, o0 :: o1 :: o2 :: (.ref y3) :: (.ref y4) :: o5 :: (.int f8_206) :: (.int v242) :: (.int y8) :: (.int v284) :: (.int y10) :: (.int y11) :: (.int y12) :: tl)) :: X) H := hH
                        exact J288 v284 _ _ _ (by omega) (by omega) hH hS (lv_sub hl [0, 1] rfl)
                refine lv_istore_n (lv' := [(1, .int 0), (0, .ref a0)]) hx hb dX12_next_253 rfl hl (by decide) rfl (fun ls hl => ?_)
                exact J254 _ 0 23 _ _ _ rfl (by decide) (by decide) (by decide) (by decide) hH hS (lv_sub hl [0, 1] rfl)
              · skip
                have tc138 := f_ne (k := 0) (by decide) c138
                refine lv_aload_n hx hb dX12_next_141 rfl (lv_at hl 0 rfl) ?_
                refine lv_iconst (v := 0) hx hb dX12_next_142 (by decide) ?_
                have J146 : ∀ (n : Nat) (f146_207 : Int32) (f146_210 : Int32) (H : Heap) (locs : List Loc) (ls : Array Slot), (900 - f146_207.toInt).toNat = n → (0 ≤ f146_207.toInt) → (f146_207.toInt ≤ 900) → (0 ≤ f146_210.toInt) → (f146_210.toInt ≤ 999) → (v135.toInt ≠ 0) → (f8_206.toInt ≤ f146_207.toInt ∧ f146_207.toInt ≤ y8.toInt) → (((f146_207.toInt - f8_206.toInt) = 0 ∧ f146_210.toInt = 0) ∨ ((f146_207.toInt - f8_206.toInt) = 1 ∧ 0 ≤ f146_210.toInt ∧ f146_210.toInt ≤ 9) ∨ ((f146_207.toInt - f8_206.toInt) = 2 ∧ 0 ≤ f146_210.toInt ∧ f146_210.toInt ≤ 99) ∨ (3 ≤ (f146_207.toInt - f8_206.toInt) ∧ 0 ≤ f146_210.toInt ∧ f146_210.toInt ≤ 999)) → HT D cs A T (y3 :: a0 :: O) ((y3, .inl (cs.2.1, 900, .inl f3)) :: (a0, .inr (12, o0 :: o1 :: o2 :: (.ref y3) :: (.ref y4) :: o5 :: (.int f8_206) :: (.int f146_207) :: (.int y8) :: (.int y9) :: (.int f146_210) :: (.int y11) :: (.int y12) :: tl)) :: X) H → va_S A s.heap H locs → lv_has ls 2 [(0, .ref a0)] → W p l e { frames := 5, cells := 0, slots := 0, locals := 108 } s m [.ref a0].toArray below meth c H locs 0 0 (MQ below (Tv D cs (fun u => ∃ (n0_6 : Int32) (n0_7 : Int32) (n0_9 : Int32) (n0_10 : Int32), u = (T, a0 :: O, (a0, .inr (12, o0 :: o1 :: o2 :: (.ref y3) :: (.ref y4) :: o5 :: (.int n0_6) :: (.int n0_7) :: (.int y8) :: (.int n0_9) :: (.int n0_10) :: (.int y11) :: (.int y12) :: tl)) :: X) ∧ (y7.toInt ≤ n0_6.toInt) ∧ (n0_6.toInt ≤ n0_7.toInt) ∧ (n0_7.toInt ≤ y8.toInt) ∧ (TK3 n0_9 n0_6 n0_7) ∧ (0 ≤ n0_10.toInt) ∧ (n0_10.toInt ≤ 999)) A) [.ref a0].toArray s 0 0 A) (F0 m 146 ls []) := by
                  intro n
                  induction n using Nat.strongRecOn with
                  | _ n ih146 =>
                    intro f146_207 f146_210 H locs ls hm146 l_f146_207 u_f146_207 l_f146_210 u_f146_210 j146 i146 d146 hH hS hl
                    refine lv_aload_n hx hb dX12_next_146 rfl (lv_at hl 0 rfl) ?_
                    refine lv_aload_n hx hb dX12_next_147 rfl (lv_at hl 0 rfl) ?_
                    refine x_getk (ci := 12) (C := RX12) (F := TX12) (N := 36) (v := .int f146_207) hx hb hts uX12 hown hkb hH 1 rfl rfl 7 (by decide) rfl kw_1230 (fun _ h9 => h9) dX12_next_148 ?_
                    refine tk_i hH hS hA (tr_V (n := 1) (As := [.int f146_207]) hx hb hml hown hts hkb hH (ox_c (ox_map hOX rfl)) hks hE hS hA (s_M_see l D cs kf T O X a0 hg mq f146_207 f3 o0 o1 o2 y3 y4 o5 f8_206 f146_207 y8 y9 f146_210 y11 y12 tl t_a0 b_hg (by omega) t_y3 t_y4 (by omega) (by omega) (by omega) (by omega) (by omega) (by omega) (by omega) (by omega) (hO.sub (by decide))) kw_1348 kw_1350 ks_44 kw_13 kw_1351 (by decide +kernel) ⟨Nat.le_of_ble_eq_true rfl, Nat.le_of_ble_eq_true rfl⟩ (x_recv (ci := 12) hkb hH 1 rfl rfl) rfl rfl hl.1 (Nat.le_of_ble_eq_true rfl) dX12_next_151 ⟨Nat.le_of_ble_eq_true rfl, Nat.le_of_ble_eq_true rfl⟩) (fun v151 u H locs hz9 hH hS => ?_)
                    obtain ⟨rfl, x_v1510, x_v1511⟩ := hz9
                    have hH : HT D cs A T (y3 :: a0 :: O) ((y3, .inl (cs.2.1, 900, .inl f3)) :: (a0, .inr (12, o0 :: o1 :: o2 :: (.ref y3) :: (.ref y4) :: o5 :: (.int f8_206) :: (.int f146_207) :: (.int y8) :: (.int y9) :: (.int f146_210) :: (.int y11) :: (.int y12) :: tl)) :: X) H := hH
                    refine W.widen (k := 0) (n := 0) (Nat.le_of_ble_eq_true rfl) (Nat.le_of_ble_eq_true rfl) ?_
                    refine tk_i hH hS hA (tr_S (n := 1) (As := [.int v151]) hx hb hml hown hts hkb hH (ox_c (ox_map hOX rfl)) hks hE hS hA (s_M_isDigit2 l D cs kf T (y3 :: a0 :: O) ((y3, .inl (cs.2.1, 900, .inl f3)) :: (a0, .inr (12, o0 :: o1 :: o2 :: (.ref y3) :: (.ref y4) :: o5 :: (.int f8_206) :: (.int f146_207) :: (.int y8) :: (.int y9) :: (.int f146_210) :: (.int y11) :: (.int y12) :: tl)) :: X) v151  (hO.sub (by decide))) kw_1362 kw_1363 kw_13 kw_1364 (by decide +kernel) ⟨Nat.le_of_ble_eq_true rfl, Nat.le_of_ble_eq_true rfl⟩ rfl rfl hl.1 (Nat.le_of_ble_eq_true rfl) dX12_next_154 ⟨Nat.le_of_ble_eq_true rfl, Nat.le_of_ble_eq_true rfl⟩) (fun v154 u H locs hz9 hH hS => ?_)
                    obtain ⟨rfl, l_v154, u_v154, x_v1540, x_v1541⟩ := hz9
                    have hH : HT D cs A T (y3 :: a0 :: O) ((y3, .inl (cs.2.1, 900, .inl f3)) :: (a0, .inr (12, o0 :: o1 :: o2 :: (.ref y3) :: (.ref y4) :: o5 :: (.int f8_206) :: (.int f146_207) :: (.int y8) :: (.int y9) :: (.int f146_210) :: (.int y11) :: (.int y12) :: tl)) :: X) H := hH
                    refine W.widen (k := 0) (n := 0) (Nat.le_of_ble_eq_true rfl) (Nat.le_of_ble_eq_true rfl) ?_
                    refine lv_if_eq (tgt := 209) hx hb dX12_next_157 (by decide) (fun c157 => ?_) (fun c157 => ?_)
                    · skip
                      have tc157 := f_eq (k := 0) (by decide) c157
                      have hq : f8_206.toInt ≠ f146_207.toInt := fun q => by have := see_same x_v1320 x_v1510 q; omega
                      refine lv_aload_n hx hb dX12_next_209 rfl (lv_at hl 0 rfl) ?_
                      refine lv_aload_n hx hb dX12_next_210 rfl (lv_at hl 0 rfl) ?_
                      refine x_getk (ci := 12) (C := RX12) (F := TX12) (N := 36) (v := .int f146_207) hx hb hts uX12 hown hkb hH 1 rfl rfl 7 (by decide) rfl kw_1230 (fun _ h9 => h9) dX12_next_211 ?_
                      refine lv_aload_n hx hb dX12_next_214 rfl (lv_at hl 0 rfl) ?_
                      refine x_getk (ci := 12) (C := RX12) (F := TX12) (N := 36) (v := .int f8_206) hx hb hts uX12 hown hkb hH 1 rfl rfl 6 (by decide) rfl kw_1229 (fun _ h9 => h9) dX12_next_215 ?_
                      refine lv_isub hx hb dX12_next_218 ?_
                      refine lv_topi (fun v218 ev218 => ?_)
                      have tv218 : v218.toInt = f146_207.toInt - f8_206.toInt := by rw [ev218]; exact sub_i rfl rfl (by omega) (by omega)
                      refine lv_iconst (v := 3) hx hb dX12_next_219 (by decide) ?_
                      have J230 : ∀ (k230_0 : Int32) (H : Heap) (locs : List Loc) (ls : Array Slot), (21 ≤ k230_0.toInt) → (k230_0.toInt ≤ 23) → HT D cs A T (y3 :: a0 :: O) ((y3, .inl (cs.2.1, 900, .inl f3)) :: (a0, .inr (12, o0 :: o1 :: o2 :: (.ref y3) :: (.ref y4) :: o5 :: (.int f8_206) :: (.int f146_207) :: (.int y8) :: (.int y9) :: (.int f146_210) :: (.int y11) :: (.int y12) :: tl)) :: X) H → va_S A s.heap H locs → lv_has ls 2 [] → W p l e { frames := 5, cells := 0, slots := 0, locals := 108 } s m [.ref a0].toArray below meth c H locs 0 0 (MQ below (Tv D cs (fun u => ∃ (n0_6 : Int32) (n0_7 : Int32) (n0_9 : Int32) (n0_10 : Int32), u = (T, a0 :: O, (a0, .inr (12, o0 :: o1 :: o2 :: (.ref y3) :: (.ref y4) :: o5 :: (.int n0_6) :: (.int n0_7) :: (.int y8) :: (.int n0_9) :: (.int n0_10) :: (.int y11) :: (.int y12) :: tl)) :: X) ∧ (y7.toInt ≤ n0_6.toInt) ∧ (n0_6.toInt ≤ n0_7.toInt) ∧ (n0_7.toInt ≤ y8.toInt) ∧ (TK3 n0_9 n0_6 n0_7) ∧ (0 ≤ n0_10.toInt) ∧ (n0_10.toInt ≤ 999)) A) [.ref a0].toArray s 0 0 A) (F0 m 230 ls [.int k230_0, .ref a0]) := by
                        intro k230_0 H locs ls l_k230_0 u_k230_0 hH hS hl
                        refine x_putk (ci := 12) (v := .int k230_0) (ty := tyX12 9) (C := RX12) (F := TX12) (N := 36) hx hb hts uX12 tyX12 tyX12_ok nmX12 hown hkb hH hS 1 rfl rfl 9 (by decide) kw_1232 (fun _ h9 => h9) rfl (tyX12_ok 9 (by decide)) rfl rfl (by show 9 < tl.length + 13; omega) dX12_next_230 (fun H locs hH hS => ?_)
                        have hH : HT D cs A T (y3 :: a0 :: O) ((y3, .inl (cs.2.1, 900, .inl f3)) :: (a0, .inr (12, o0 :: o1 :: o2 :: (.ref y3) :: (.ref y4) :: o5 :: (.int f8_206) :: (.int f146_207) :: (.int y8) :: (.int k230_0) :: (.int f146_210) :: (.int y11) :: (.int y12) :: tl)) :: X) H := hH
                        refine lv_goto (tgt := 294) hx hb dX12_next_233 (by decide) ?_
                        have hH : HT D cs A T (a0 :: O) ((a0, .inr (12, o0 :: o1 :: o2 :: (.ref y3) :: (.ref y4) :: o5 :: (.int f8_206) :: (.int f146_207) :: (.int y8) :: (.int k230_0) :: (.int f146_210) :: (.int y11) :: (.int y12) :: tl)) :: X) H := HT.layA hH t_y3 (show sp cs T (1, 900, 0) _ from ⟨f3, rfl, fun _ => cp_0 _⟩)
                        exact te_v hx hb hr hlocks hH hS (⟨f8_206, f146_207, k230_0, f146_210, rfl, by omega, by omega, by omega, (fun q => by omega), by omega, by omega⟩) dX12_next_294
                      refine lv_icmp_le (tgt := 228) hx hb dX12_next_220 (by decide) (fun c220 => ?_) (fun c220 => ?_)
                      · skip
                        have tc220 := f_le (k := 3) (by decide) c220
                        refine lv_bipush (v := 21) hx hb dX12_next_228 (by decide) ?_
                        exact J230 21 _ _ _ (by decide) (by decide) hH hS (lv_sub hl [] rfl)
                      · skip
                        have tc220 := f_nle (k := 3) (by decide) c220
                        refine lv_bipush (v := 23) hx hb dX12_next_223 (by decide) ?_
                        refine lv_goto (tgt := 230) hx hb dX12_next_225 (by decide) ?_
                        exact J230 23 _ _ _ (by decide) (by decide) hH hS (lv_sub hl [] rfl)
                    · skip
                      have tc157 := f_ne (k := 0) (by decide) c157
                      refine lv_aload_n hx hb dX12_next_160 rfl (lv_at hl 0 rfl) ?_
                      refine x_getk (ci := 12) (C := RX12) (F := TX12) (N := 36) (v := .int f146_207) hx hb hts uX12 hown hkb hH 1 rfl rfl 7 (by decide) rfl kw_1230 (fun _ h9 => h9) dX12_next_161 ?_
                      refine lv_aload_n hx hb dX12_next_164 rfl (lv_at hl 0 rfl) ?_
                      refine x_getk (ci := 12) (C := RX12) (F := TX12) (N := 36) (v := .int f8_206) hx hb hts uX12 hown hkb hH 1 rfl rfl 6 (by decide) rfl kw_1229 (fun _ h9 => h9) dX12_next_165 ?_
                      refine lv_isub hx hb dX12_next_168 ?_
                      refine lv_topi (fun v168 ev168 => ?_)
                      have tv168 : v168.toInt = f146_207.toInt - f8_206.toInt := by rw [ev168]; exact sub_i rfl rfl (by omega) (by omega)
                      refine lv_iconst (v := 3) hx hb dX12_next_169 (by decide) ?_
                      have J196 : ∀ (f196_210 : Int32) (H : Heap) (locs : List Loc) (ls : Array Slot), (0 ≤ f196_210.toInt) → (f196_210.toInt ≤ 9999) → (((f146_207.toInt + 1 - f8_206.toInt) = 0 ∧ f196_210.toInt = 0) ∨ ((f146_207.toInt + 1 - f8_206.toInt) = 1 ∧ 0 ≤ f196_210.toInt ∧ f196_210.toInt ≤ 9) ∨ ((f146_207.toInt + 1 - f8_206.toInt) = 2 ∧ 0 ≤ f196_210.toInt ∧ f196_210.toInt ≤ 99) ∨ (3 ≤ (f146_207.toInt + 1 - f8_206.toInt) ∧ 0 ≤ f196_210.toInt ∧ f196_210.toInt ≤ 999)) → HT D cs A T (y3 :: a0 :: O) ((y3, .inl (cs.2.1, 900, .inl f3)) :: (a0, .inr (12, o0 :: o1 :: o2 :: (.ref y3) :: (.ref y4) :: o5 :: (.int f8_206) :: (.int f146_207) :: (.int y8) :: (.int y9) :: (.int f196_210) :: (.int y11) :: (.int y12) :: tl)) :: X) H → va_S A s.heap H locs → lv_has ls 2 [(0, .ref a0)] → W p l e { frames := 5, cells := 0, slots := 0, locals := 108 } s m [.ref a0].toArray below meth c H locs 0 0 (MQ below (Tv D cs (fun u => ∃ (n0_6 : Int32) (n0_7 : Int32) (n0_9 : Int32) (n0_10 : Int32), u = (T, a0 :: O, (a0, .inr (12, o0 :: o1 :: o2 :: (.ref y3) :: (.ref y4) :: o5 :: (.int n0_6) :: (.int n0_7) :: (.int y8) :: (.int n0_9) :: (.int n0_10) :: (.int y11) :: (.int y12) :: tl)) :: X) ∧ (y7.toInt ≤ n0_6.toInt) ∧ (n0_6.toInt ≤ n0_7.toInt) ∧ (n0_7.toInt ≤ y8.toInt) ∧ (TK3 n0_9 n0_6 n0_7) ∧ (0 ≤ n0_10.toInt) ∧ (n0_10.toInt ≤ 999)) A) [.ref a0].toArray s 0 0 A) (F0 m 196 ls []) := by
                        intro f196_210 H locs ls l_f196_210 u_f196_210 d196 hH hS hl
                        refine lv_aload_n hx hb dX12_next_196 rfl (lv_at hl 0 rfl) ?_
                        refine lv_dup hx hb dX12_next_197 rfl ?_
                        refine x_getk (ci := 12) (C := RX12) (F := TX12) (N := 36) (v := .int f146_207) hx hb hts uX12 hown hkb hH 1 rfl rfl 7 (by decide) rfl kw_1230 (fun _ h9 => h9) dX12_next_198 ?_
                        refine lv_iconst (v := 1) hx hb dX12_next_201 (by decide) ?_
                        refine lv_iadd hx hb dX12_next_202 ?_
                        refine lv_topi (fun v202 ev202 => ?_)
                        have tv202 : v202.toInt = f146_207.toInt + (1) := by rw [ev202]; exact add_i rfl (by decide : (1 : Int32).toInt = 1) (by omega) (by omega)
                        refine x_putk (ci := 12) (v := .int v202) (ty := tyX12 7) (C := RX12) (F := TX12) (N := 36) hx hb hts uX12 tyX12 tyX12_ok nmX12 hown hkb hH hS 1 rfl rfl 7 (by decide) kw_1230 (fun _ h9 => h9) rfl (tyX12_ok 7 (by decide)) rfl rfl (by show 7 < tl.length + 13; omega) dX12_next_203 (fun H locs hH hS => ?_)
                        have hH : HT D cs A T (y3 :: a0 :: O) ((y3, .inl (cs.2.1, 900, .inl f3)) :: (a0, .inr (12, o0 :: o1 :: o2 :: (.ref y3) :: (.ref y4) :: o5 :: (.int f8_206) :: (.int v202) :: (.int y8) :: (.int y9) :: (.int f196_210) :: (.int y11) :: (.int y12) :: tl)) :: X) H := hH
                        refine lv_goto (tgt := 146) hx hb dX12_next_206 (by decide) ?_
                        exact ih146 _ (by omega) v202 f196_210 _ _ _ rfl (by omega) (by omega) (by omega) (by omega) (by omega) (by omega) (by omega) hH hS (lv_sub hl [0] rfl)
                      refine lv_icmp_ge (tgt := 196) hx hb dX12_next_170 (by decide) (fun c170 => ?_) (fun c170 => ?_)
                      · skip
                        have tc170 := f_ge (k := 3) (by decide) c170
                        exact J196 f146_210 _ _ _ (by omega) (by omega) (by omega) hH hS (lv_sub hl [0] rfl)
                      · skip
                        have tc170 := f_nge (k := 3) (by decide) c170
                        refine lv_aload_n hx hb dX12_next_173 rfl (lv_at hl 0 rfl) ?_
                        refine lv_bipush (v := 10) hx hb dX12_next_174 (by decide) ?_
                        refine lv_aload_n hx hb dX12_next_176 rfl (lv_at hl 0 rfl) ?_
                        refine x_getk (ci := 12) (C := RX12) (F := TX12) (N := 36) (v := .int f146_210) hx hb hts uX12 hown hkb hH 1 rfl rfl 10 (by decide) rfl kw_1233 (fun _ h9 => h9) dX12_next_177 ?_
                        refine lv_imul hx hb dX12_next_180 ?_
                        refine lv_topi (fun v180 ev180 => ?_)
                        have tv180 : v180.toInt = (10) * f146_210.toInt := by rw [ev180]; exact mul_i (by decide : (10 : Int32).toInt = 10) rfl (by omega) (by omega)
                        refine lv_aload_n hx hb dX12_next_181 rfl (lv_at hl 0 rfl) ?_
                        refine lv_aload_n hx hb dX12_next_182 rfl (lv_at hl 0 rfl) ?_
                        refine x_getk (ci := 12) (C := RX12) (F := TX12) (N := 36) (v := .int f146_207) hx hb hts uX12 hown hkb hH 1 rfl rfl 7 (by decide) rfl kw_1230 (fun _ h9 => h9) dX12_next_183 ?_
                        refine tk_i hH hS hA (tr_V (n := 1) (As := [.int f146_207]) hx hb hml hown hts hkb hH (ox_c (ox_map hOX rfl)) hks hE hS hA (s_M_see l D cs kf T O X a0 hg mq f146_207 f3 o0 o1 o2 y3 y4 o5 f8_206 f146_207 y8 y9 f146_210 y11 y12 tl t_a0 b_hg (by omega) t_y3 t_y4 (by omega) (by omega) (by omega) (by omega) (by omega) (by omega) (by omega) (by omega) (hO.sub (by decide))) kw_1348 kw_1350 ks_44 kw_13 kw_1351 (by decide +kernel) ⟨Nat.le_of_ble_eq_true rfl, Nat.le_of_ble_eq_true rfl⟩ (x_recv (ci := 12) hkb hH 1 rfl rfl) rfl rfl hl.1 (Nat.le_of_ble_eq_true rfl) dX12_next_186 ⟨Nat.le_of_ble_eq_true rfl, Nat.le_of_ble_eq_true rfl⟩) (fun v186 u H locs hz9 hH hS => ?_)
                        obtain ⟨rfl, x_v1860, x_v1861⟩ := hz9
                        have hH : HT D cs A T (y3 :: a0 :: O) ((y3, .inl (cs.2.1, 900, .inl f3)) :: (a0, .inr (12, o0 :: o1 :: o2 :: (.ref y3) :: (.ref y4) :: o5 :: (.int f8_206) :: (.int f146_207) :: (.int y8) :: (.int y9) :: (.int f146_210) :: (.int y11) :: (.int y12) :: tl)) :: X) H := hH
                        refine W.widen (k := 0) (n := 0) (Nat.le_of_ble_eq_true rfl) (Nat.le_of_ble_eq_true rfl) ?_
                        have hs9 := see_same x_v1860 x_v1510 rfl
                        have bs9 : 48 ≤ v186.toInt ∧ v186.toInt ≤ 57 := by omega
                        refine lv_iadd hx hb dX12_next_189 ?_
                        refine lv_topi (fun v189 ev189 => ?_)
                        have tv189 : v189.toInt = v180.toInt + v186.toInt := by rw [ev189]; exact add_i rfl rfl (by omega) (by omega)
                        refine lv_bipush (v := 48) hx hb dX12_next_190 (by decide) ?_
                        refine lv_isub hx hb dX12_next_192 ?_
                        refine lv_topi (fun v192 ev192 => ?_)
                        have tv192 : v192.toInt = v189.toInt - (48) := by rw [ev192]; exact sub_i rfl (by decide : (48 : Int32).toInt = 48) (by omega) (by omega)
                        refine x_putk (ci := 12) (v := .int v192) (ty := tyX12 10) (C := RX12) (F := TX12) (N := 36) hx hb hts uX12 tyX12 tyX12_ok nmX12 hown hkb hH hS 1 rfl rfl 10 (by decide) kw_1233 (fun _ h9 => h9) rfl (tyX12_ok 10 (by decide)) rfl rfl (by show 10 < tl.length + 13; omega) dX12_next_193 (fun H locs hH hS => ?_)
                        have hH : HT D cs A T (y3 :: a0 :: O) ((y3, .inl (cs.2.1, 900, .inl f3)) :: (a0, .inr (12, o0 :: o1 :: o2 :: (.ref y3) :: (.ref y4) :: o5 :: (.int f8_206) :: (.int f146_207) :: (.int y8) :: (.int y9) :: (.int v192) :: (.int y11) :: (.int y12) :: tl)) :: X) H := hH
                        exact J196 v192 _ _ _ (by omega) (by omega) (by omega) hH hS (lv_sub hl [0] rfl)
                refine x_putk (ci := 12) (v := .int 0) (ty := tyX12 10) (C := RX12) (F := TX12) (N := 36) hx hb hts uX12 tyX12 tyX12_ok nmX12 hown hkb hH hS 1 rfl rfl 10 (by decide) kw_1233 (fun _ h9 => h9) rfl (tyX12_ok 10 (by decide)) rfl rfl (by show 10 < tl.length + 13; omega) dX12_next_143 (fun H locs hH hS => ?_)
                have hH : HT D cs A T (y3 :: a0 :: O) ((y3, .inl (cs.2.1, 900, .inl f3)) :: (a0, .inr (12, o0 :: o1 :: o2 :: (.ref y3) :: (.ref y4) :: o5 :: (.int f8_206) :: (.int f8_206) :: (.int y8) :: (.int y9) :: (.int 0) :: (.int y11) :: (.int y12) :: tl)) :: X) H := hH
                have z_0 : (0 : Int32).toInt = 0 := by decide
                exact J146 _ f8_206 0 _ _ _ rfl (by omega) (by omega) (by decide) (by decide) (by omega) (by omega) (by omega) hH hS (lv_sub hl [0] rfl)
            · skip
              have tc86 := f_ne (k := 0) (by decide) c86
              exact J89 _ f8_206 _ _ _ rfl (by omega) (by omega) (by omega) (by omega) hH hS (lv_sub hl [0] rfl)
          · skip
            have fuc63 := full_i f8_206
            have fvc63 := full_i y8
            have tc63 := g_nlt c63
            refine lv_aload_n hx hb dX12_next_66 rfl (lv_at hl 0 rfl) ?_
            refine lv_bipush (v := 22) hx hb dX12_next_67 (by decide) ?_
            refine x_putk (ci := 12) (v := .int 22) (ty := tyX12 9) (C := RX12) (F := TX12) (N := 36) hx hb hts uX12 tyX12 tyX12_ok nmX12 hown hkb hH hS 1 rfl rfl 9 (by decide) kw_1232 (fun _ h9 => h9) rfl (tyX12_ok 9 (by decide)) rfl rfl (by show 9 < tl.length + 13; omega) dX12_next_69 (fun H locs hH hS => ?_)
            have hH : HT D cs A T (y3 :: a0 :: O) ((y3, .inl (cs.2.1, 900, .inl f3)) :: (a0, .inr (12, o0 :: o1 :: o2 :: (.ref y3) :: (.ref y4) :: o5 :: (.int f8_206) :: (.int f8_206) :: (.int y8) :: (.int 22) :: (.int y10) :: (.int y11) :: (.int y12) :: tl)) :: X) H := hH
            refine lv_goto (tgt := 294) hx hb dX12_next_72 (by decide) ?_
            have hH : HT D cs A T (a0 :: O) ((a0, .inr (12, o0 :: o1 :: o2 :: (.ref y3) :: (.ref y4) :: o5 :: (.int f8_206) :: (.int f8_206) :: (.int y8) :: (.int 22) :: (.int y10) :: (.int y11) :: (.int y12) :: tl)) :: X) H := HT.layA hH t_y3 (show sp cs T (1, 900, 0) _ from ⟨f3, rfl, fun _ => cp_0 _⟩)
            have z9_22 : (22 : Int32).toInt = 22 := by decide
            have z9_22 : (22 : Int32).toInt = 22 := by decide
            exact te_v hx hb hr hlocks hH hS (⟨f8_206, f8_206, (22 : Int32), y10, rfl, by omega, by omega, by omega, (fun q => by omega), by omega, by omega⟩) dX12_next_294
        · skip
          have tc31 := f_eq (k := 32) (by decide) c31
          refine lv_aload_n hx hb dX12_next_34 rfl (lv_at hl 0 rfl) ?_
          refine lv_dup hx hb dX12_next_35 rfl ?_
          refine x_getk (ci := 12) (C := RX12) (F := TX12) (N := 36) (v := .int f8_206) hx hb hts uX12 hown hkb hH 1 rfl rfl 6 (by decide) rfl kw_1229 (fun _ h9 => h9) dX12_next_36 ?_
          refine lv_iconst (v := 1) hx hb dX12_next_39 (by decide) ?_
          refine lv_iadd hx hb dX12_next_40 ?_
          refine lv_topi (fun v40 ev40 => ?_)
          have tv40 : v40.toInt = f8_206.toInt + (1) := by rw [ev40]; exact add_i rfl (by decide : (1 : Int32).toInt = 1) (by omega) (by omega)
          refine x_putk (ci := 12) (v := .int v40) (ty := tyX12 6) (C := RX12) (F := TX12) (N := 36) hx hb hts uX12 tyX12 tyX12_ok nmX12 hown hkb hH hS 1 rfl rfl 6 (by decide) kw_1229 (fun _ h9 => h9) rfl (tyX12_ok 6 (by decide)) rfl rfl (by show 6 < tl.length + 13; omega) dX12_next_41 (fun H locs hH hS => ?_)
          have hH : HT D cs A T (y3 :: a0 :: O) ((y3, .inl (cs.2.1, 900, .inl f3)) :: (a0, .inr (12, o0 :: o1 :: o2 :: (.ref y3) :: (.ref y4) :: o5 :: (.int v40) :: (.int y7) :: (.int y8) :: (.int y9) :: (.int y10) :: (.int y11) :: (.int y12) :: tl)) :: X) H := hH
          refine lv_goto (tgt := 8) hx hb dX12_next_44 (by decide) ?_
          exact ih8 _ (by omega) v40 _ _ _ rfl (by omega) (by omega) (by omega) hH hS (lv_sub hl [0] rfl)
  refine x_putk (ci := 12) (v := .int y7) (ty := tyX12 6) (C := RX12) (F := TX12) (N := 36) hx hb hts uX12 tyX12 tyX12_ok nmX12 hown hkb hH hS 1 rfl rfl 6 (by decide) kw_1229 (fun _ h9 => h9) rfl (tyX12_ok 6 (by decide)) rfl rfl (by show 6 < tl.length + 13; omega) dX12_next_5 (fun H locs hH hS => ?_)
  have hH : HT D cs A T (y3 :: a0 :: O) ((y3, .inl (cs.2.1, 900, .inl f3)) :: (a0, .inr (12, o0 :: o1 :: o2 :: (.ref y3) :: (.ref y4) :: o5 :: (.int y7) :: (.int y7) :: (.int y8) :: (.int y9) :: (.int y10) :: (.int y11) :: (.int y12) :: tl)) :: X) H := hH
  exact J8 _ y7 _ _ _ rfl (by omega) (by omega) (by omega) hH hS (lv_sub hl [0] rfl)
