def wz (x : Int32) : Int := if x.toInt = 0 then 1 else 0
theorem wz_1 {x : Int32} (h : x.toInt = 0) : wz x = 1 := if_pos h
theorem wz_0 {x : Int32} (h : NZ x) : wz x = 0 := if_neg h
theorem wz_b (x : Int32) : 0 ≤ wz x ∧ wz x ≤ 1 := by
  unfold wz
  split <;> omega
/-- so many numbers of a wall that is read are copied -/
def CW (f r g : Nat → Int32) (k : Nat) : Prop := ∀ j, g j = if j < k then r j else f j
theorem CW_0 {f r : Nat → Int32} {z : Int32} (hz : z.toInt = 0) : CW f r f z.toInt.toNat := fun j => by rw [if_neg (by omega)]
theorem CW_s {f r g F : Nat → Int32} {p v x : Int32} (hi : CW f r g p.toInt.toNat) (h0 : 0 ≤ p.toInt) (hv : v.toInt = p.toInt + 1) (hx : x = r p.toInt.toNat) (eF : F = upd g p.toInt.toNat x) : CW f r F v.toInt.toNat := fun j => by
  rw [eF]
  by_cases q : j = p.toInt.toNat
  · rw [q, upd_eq, hx, if_pos (by omega)]
  · rw [upd_ne q, hi j]
    by_cases q2 : j < p.toInt.toNat
    · rw [if_pos q2, if_pos (by omega)]
    · rw [if_neg q2, if_neg (by omega)]
set_option maxRecDepth 20000 in
theorem CW_B8 {f r g : Nat → Int32} {p : Int32} (hi : CW f r g p.toInt.toNat) (hp : p.toInt = 1302) (hB : B8 3906 f) (hr : S8 r) : B8 3906 g := by
  have e : p.toInt.toNat = 1302 := by omega
  rw [e] at hi
  intro y hy
  by_cases q : y = 0
  · refine S8_cong (p := r) (fun j hj => ?_) hr
    show g (y * 1302 + j) = r j
    rw [hi, if_pos (by omega), show y * 1302 + j = j by omega]
  · refine S8_cong (p := fun j => f (y * 1302 + j)) (fun j hj => ?_) (hB y hy)
    show g (y * 1302 + j) = f (y * 1302 + j)
    rw [hi, if_neg (by omega)]
set_option maxHeartbeats 4000000 in
set_option maxRecDepth 100000 in
theorem s_M_plain0 (l : Launch) (D : va_G) (cs : CS) (kf : KF) (T : TF) (O : List Nat) (X : va_W) (o0 : Value) (o1 : Value) (o2 : Value) (o3 : Value) (y4 : Nat) (tl : List Value) (f4 : Nat → Int32) (mm hg mq : Nat) (t_y4 : T y4 = some (8, 1302, 0)) (t_mm : T mm = some (22, hg, mq)) (hO : okO T (mm :: y4 :: O) []) : TK l D cs kf yX12_plain cX12_plain 2 none { frames := 0, cells := 0, slots := 0, locals := 0 } [.ref y4] T (mm :: y4 :: O) ((mm, .inr (12, o0 :: o1 :: o2 :: o3 :: (.ref y4) :: tl)) :: (y4, .inl (cs.2.1, 1302, .inl f4)) :: X) (Tv D cs (fun u => ∃ (G1 : Nat → Int32), u = (T, mm :: y4 :: O, (mm, .inr (12, o0 :: o1 :: o2 :: o3 :: (.ref y4) :: tl)) :: (y4, .inl (cs.2.1, 1302, .inl G1)) :: X) ∧ (S8 G1))) := by
  refine tk_of (by decide) (Nat.le_of_ble_eq_true rfl) (fun p e s m below meth c ls A H locs hx hb hr hml hown hts hlocks hnm hkb hH hS hA hOX hks hE hl => ?_)
  have hown : s.vm.findClass RX12 = some m.cls := hown
  have hl : lv_has ls 2 [(0, .ref y4)] := hl
  have hOXf := hOX
  refine lv_iconst (v := 0) hx hb dX12_plain_0 (by decide) ?_
  have J2 : ∀ (n : Nat) (p2_1 : Int32) (g2_1 : Nat → Int32) (H : Heap) (locs : List Loc) (ls : Array Slot), (1302 - p2_1.toInt).toNat = n → (0 ≤ p2_1.toInt) → (p2_1.toInt ≤ 1302) → (∀ j : Nat, j < p2_1.toInt.toNat → g2_1 j = 0) → HT D cs A T (mm :: y4 :: O) ((mm, .inr (12, o0 :: o1 :: o2 :: o3 :: (.ref y4) :: tl)) :: (y4, .inl (cs.2.1, 1302, .inl g2_1)) :: X) H → va_S A s.heap H locs → lv_has ls 2 [(1, .int p2_1), (0, .ref y4)] → W p l e { frames := 0, cells := 0, slots := 0, locals := 0 } s m [.ref y4].toArray below meth c H locs 0 0 (MQ below (Tv D cs (fun u => ∃ (G1 : Nat → Int32), u = (T, mm :: y4 :: O, (mm, .inr (12, o0 :: o1 :: o2 :: o3 :: (.ref y4) :: tl)) :: (y4, .inl (cs.2.1, 1302, .inl G1)) :: X) ∧ (S8 G1)) A) [.ref y4].toArray s 0 0 A) (F0 m 2 ls []) := by
    intro n
    induction n using Nat.strongRecOn with
    | _ n ih2 =>
      intro p2_1 g2_1 H locs ls hm2 l_p2_1 u_p2_1 i2p hH hS hl
      refine lv_iload_n hx hb dX12_plain_2 rfl (lv_at hl 0 rfl) ?_
      refine lv_sipush (v := 1302) hx hb dX12_plain_3 (by decide) ?_
      refine lv_icmp_ge (tgt := 19) hx hb dX12_plain_6 (by decide) (fun c6 => ?_) (fun c6 => ?_)
      · skip
        have tc6 := f_ge (k := 1302) (by decide) c6
        refine lv_iconst (v := 0) hx hb dX12_plain_19 (by decide) ?_
        have J21 : ∀ (n : Nat) (p21_1 : Int32) (g21_1 : Nat → Int32) (H : Heap) (locs : List Loc) (ls : Array Slot), (14 - p21_1.toInt).toNat = n → (0 ≤ p21_1.toInt) → (p21_1.toInt ≤ 14) → (∀ j : Nat, j < 1302 → (j < 59 ∨ 87 ≤ j) → g21_1 j = 0) → HT D cs A T (mm :: y4 :: O) ((mm, .inr (12, o0 :: o1 :: o2 :: o3 :: (.ref y4) :: tl)) :: (y4, .inl (cs.2.1, 1302, .inl g21_1)) :: X) H → va_S A s.heap H locs → lv_has ls 2 [(1, .int p21_1), (0, .ref y4)] → W p l e { frames := 0, cells := 0, slots := 0, locals := 0 } s m [.ref y4].toArray below meth c H locs 0 0 (MQ below (Tv D cs (fun u => ∃ (G1 : Nat → Int32), u = (T, mm :: y4 :: O, (mm, .inr (12, o0 :: o1 :: o2 :: o3 :: (.ref y4) :: tl)) :: (y4, .inl (cs.2.1, 1302, .inl G1)) :: X) ∧ (S8 G1)) A) [.ref y4].toArray s 0 0 A) (F0 m 21 ls []) := by
          intro n
          induction n using Nat.strongRecOn with
          | _ n ih21 =>
            intro p21_1 g21_1 H locs ls hm21 l_p21_1 u_p21_1 i21p hH hS hl
            refine lv_iload_n hx hb dX12_plain_21 rfl (lv_at hl 0 rfl) ?_
            refine lv_bipush (v := 14) hx hb dX12_plain_22 (by decide) ?_
            refine lv_icmp_ge (tgt := 47) hx hb dX12_plain_24 (by decide) (fun c24 => ?_) (fun c24 => ?_)
            · skip
              have tc24 := f_ge (k := 14) (by decide) c24
              exact te_v hx hb hr hlocks hH hS (⟨g21_1, rfl, S8_plain i21p⟩) dX12_plain_47
            · skip
              have tc24 := f_nge (k := 14) (by decide) c24
              refine lv_aload_n hx hb dX12_plain_27 rfl (lv_at hl 1 rfl) ?_
              refine lv_bipush (v := 59) hx hb dX12_plain_28 (by decide) ?_
              refine lv_iload_n hx hb dX12_plain_30 rfl (lv_at hl 0 rfl) ?_
              refine lv_iadd hx hb dX12_plain_31 ?_
              refine lv_topi (fun v31 ev31 => ?_)
              have tv31 : v31.toInt = (59) + p21_1.toInt := by rw [ev31]; exact add_i (by decide : (59 : Int32).toInt = 59) rfl (by omega) (by omega)
              refine lv_iconst (v := (-1)) hx hb dX12_plain_32 (by decide) ?_
              refine xa_ist hx hb hkb hH hS 1 rfl (by omega) (by omega) dX12_plain_33 (fun H locs hH hS => ?_)
              have hH : HT D cs A T (mm :: y4 :: O) ((mm, .inr (12, o0 :: o1 :: o2 :: o3 :: (.ref y4) :: tl)) :: (y4, .inl (cs.2.1, 1302, .inl (upd g21_1 (v31.toInt.toNat) ((-1) : Int32)))) :: X) H := hH
              obtain ⟨F33, eF33⟩ : ∃ f9, f9 = upd g21_1 (v31.toInt.toNat) ((-1) : Int32) := ⟨_, rfl⟩
              have hH : HT D cs A T (mm :: y4 :: O) ((mm, .inr (12, o0 :: o1 :: o2 :: o3 :: (.ref y4) :: tl)) :: (y4, .inl (cs.2.1, 1302, .inl F33)) :: X) H := eF33 ▸ hH
              refine lv_aload_n hx hb dX12_plain_34 rfl (lv_at hl 1 rfl) ?_
              refine lv_bipush (v := 73) hx hb dX12_plain_35 (by decide) ?_
              refine lv_iload_n hx hb dX12_plain_37 rfl (lv_at hl 0 rfl) ?_
              refine lv_iadd hx hb dX12_plain_38 ?_
              refine lv_topi (fun v38 ev38 => ?_)
              have tv38 : v38.toInt = (73) + p21_1.toInt := by rw [ev38]; exact add_i (by decide : (73 : Int32).toInt = 73) rfl (by omega) (by omega)
              refine lv_iconst (v := (-1)) hx hb dX12_plain_39 (by decide) ?_
              refine xa_ist hx hb hkb hH hS 1 rfl (by omega) (by omega) dX12_plain_40 (fun H locs hH hS => ?_)
              have hH : HT D cs A T (mm :: y4 :: O) ((mm, .inr (12, o0 :: o1 :: o2 :: o3 :: (.ref y4) :: tl)) :: (y4, .inl (cs.2.1, 1302, .inl (upd F33 (v38.toInt.toNat) ((-1) : Int32)))) :: X) H := hH
              obtain ⟨F40, eF40⟩ : ∃ f9, f9 = upd F33 (v38.toInt.toNat) ((-1) : Int32) := ⟨_, rfl⟩
              have hH : HT D cs A T (mm :: y4 :: O) ((mm, .inr (12, o0 :: o1 :: o2 :: o3 :: (.ref y4) :: tl)) :: (y4, .inl (cs.2.1, 1302, .inl F40)) :: X) H := eF40 ▸ hH
              obtain ⟨v41, ev41⟩ : ∃ y : Int32, y = p21_1 + 1 := ⟨_, rfl⟩
              have tv41 : v41.toInt = p21_1.toInt + (1) := by rw [ev41]; exact add_i rfl (by decide) (by omega) (by omega)
              refine lv_iinc (v := v41) (lv' := [(1, .int v41), (0, .ref y4)]) hx hb dX12_plain_41 hl (k := 0) rfl (by rw [ev41]; rfl) (by decide) rfl (fun ls hl => ?_)
              refine lv_goto (tgt := 21) hx hb dX12_plain_44 (by decide) ?_
              exact ih21 _ (by omega) v41 F40 _ _ _ rfl (by omega) (by omega) (by intro j hj h2; first | exact i2p j (by omega) | (rw [eF40, upd_ne (by omega), eF33, upd_ne (by omega)]; exact i21p j hj h2)) hH hS (lv_sub hl [0, 1] rfl)
        refine lv_istore_n (lv' := [(1, .int 0), (0, .ref y4)]) hx hb dX12_plain_20 rfl hl (by decide) rfl (fun ls hl => ?_)
        have z_0 : (0 : Int32).toInt = 0 := by decide
        exact J21 _ 0 g2_1 _ _ _ rfl (by decide) (by decide) (by intro j hj h2; first | exact i2p j (by omega) | (rw [eF40, upd_ne (by omega), eF33, upd_ne (by omega)]; exact i21p j hj h2)) hH hS (lv_sub hl [0, 1] rfl)
      · skip
        have tc6 := f_nge (k := 1302) (by decide) c6
        refine lv_aload_n hx hb dX12_plain_9 rfl (lv_at hl 1 rfl) ?_
        refine lv_iload_n hx hb dX12_plain_10 rfl (lv_at hl 0 rfl) ?_
        refine lv_iconst (v := 0) hx hb dX12_plain_11 (by decide) ?_
        refine xa_ist hx hb hkb hH hS 1 rfl (by omega) (by omega) dX12_plain_12 (fun H locs hH hS => ?_)
        have hH : HT D cs A T (mm :: y4 :: O) ((mm, .inr (12, o0 :: o1 :: o2 :: o3 :: (.ref y4) :: tl)) :: (y4, .inl (cs.2.1, 1302, .inl (upd g2_1 (p2_1.toInt.toNat) (0 : Int32)))) :: X) H := hH
        obtain ⟨F12, eF12⟩ : ∃ f9, f9 = upd g2_1 (p2_1.toInt.toNat) (0 : Int32) := ⟨_, rfl⟩
        have hH : HT D cs A T (mm :: y4 :: O) ((mm, .inr (12, o0 :: o1 :: o2 :: o3 :: (.ref y4) :: tl)) :: (y4, .inl (cs.2.1, 1302, .inl F12)) :: X) H := eF12 ▸ hH
        obtain ⟨v13, ev13⟩ : ∃ y : Int32, y = p2_1 + 1 := ⟨_, rfl⟩
        have tv13 : v13.toInt = p2_1.toInt + (1) := by rw [ev13]; exact add_i rfl (by decide) (by omega) (by omega)
        refine lv_iinc (v := v13) (lv' := [(1, .int v13), (0, .ref y4)]) hx hb dX12_plain_13 hl (k := 0) rfl (by rw [ev13]; rfl) (by decide) rfl (fun ls hl => ?_)
        refine lv_goto (tgt := 2) hx hb dX12_plain_16 (by decide) ?_
        exact ih2 _ (by omega) v13 F12 _ _ _ rfl (by omega) (by omega) (by intro j hj; first | (exfalso; have z0 : (0 : Int32).toInt = 0 := (by decide); omega) | (rw [eF12]; unfold upd; split; rfl; exact i2p j (by omega))) hH hS (lv_sub hl [0, 1] rfl)
  refine lv_istore_n (lv' := [(1, .int 0), (0, .ref y4)]) hx hb dX12_plain_1 rfl hl (by decide) rfl (fun ls hl => ?_)
  have z_0 : (0 : Int32).toInt = 0 := by decide
  exact J2 _ 0 f4 _ _ _ rfl (by decide) (by decide) (by intro j hj; first | (exfalso; have z0 : (0 : Int32).toInt = 0 := (by decide); omega) | (rw [eF12]; unfold upd; split; rfl; exact i2p j (by omega))) hH hS (lv_sub hl [0, 1] rfl)
set_option maxHeartbeats 4000000 in
set_option maxRecDepth 100000 in
theorem s_M_next0 (l : Launch) (D : va_G) (cs : CS) (kf : KF) (T : TF) (O : List Nat) (X : va_W) (a0 hg mq : Nat) (o0 : Value) (o1 : Value) (o2 : Value) (y3 : Nat) (y4 : Nat) (o5 : Value) (y6 : Int32) (y7 : Int32) (y8 : Int32) (y9 : Int32) (y10 : Int32) (y11 : Int32) (y12 : Int32) (tl : List Value) (t_a0 : T a0 = some (22, hg, mq)) (b_hg : hg < 90) (t_y3 : T y3 = some (1, 900, 0)) (t_y4 : T y4 = some (8, 1302, 0)) (l_y7 : 0 ≤ y7.toInt) (u_y7 : y7.toInt ≤ 900) (l_y8 : 0 ≤ y8.toInt) (u_y8 : y8.toInt ≤ 900) (l_y10 : 0 ≤ y10.toInt) (u_y10 : y10.toInt ≤ 999) (k2 : y7.toInt ≤ y8.toInt) (hO : okO T (a0 :: O) [1]) : TK l D cs kf yX12_next cX12_next 2 none { frames := 5, cells := 0, slots := 0, locals := 108 } [.ref a0] T (a0 :: O) ((a0, .inr (12, o0 :: o1 :: o2 :: (.ref y3) :: (.ref y4) :: o5 :: (.int y6) :: (.int y7) :: (.int y8) :: (.int y9) :: (.int y10) :: (.int y11) :: (.int y12) :: tl)) :: X) (Tv D cs (fun u => ∃ (n0_6 : Int32) (n0_7 : Int32) (n0_9 : Int32) (n0_10 : Int32), u = (T, a0 :: O, (a0, .inr (12, o0 :: o1 :: o2 :: (.ref y3) :: (.ref y4) :: o5 :: (.int n0_6) :: (.int n0_7) :: (.int y8) :: (.int n0_9) :: (.int n0_10) :: (.int y11) :: (.int y12) :: tl)) :: X) ∧ (y7.toInt ≤ n0_6.toInt) ∧ (n0_6.toInt ≤ n0_7.toInt) ∧ (n0_7.toInt ≤ y8.toInt) ∧ (TK3 n0_9 n0_6 n0_7) ∧ (0 ≤ n0_10.toInt) ∧ (n0_10.toInt ≤ 999))) := by
  refine tk_of (by decide) (Nat.le_of_ble_eq_true rfl) (fun p e s m below meth c ls A H locs hx hb hr hml hown hts hlocks hnm hkb hH hS hA hOX hks hE hl => ?_)
  have hown : s.vm.findClass RX12 = some m.cls := hown
  have hl : lv_has ls 2 [(0, .ref a0)] := hl
  have hOXf := hOX
  obtain ⟨e9, hs9, hH⟩ := HT.takeA hH t_y3 (hO.no t_y3 (by decide))
  obtain ⟨f3, rfl, -⟩ : ∃ f : Nat → Int32, e9 = .inl (cs.2.1, 900, .inl f) ∧ ∀ j, cp 0 (f j) := hs9
  have hO0 := hO
  have hO : okO T (y3 :: a0 :: O) [] := okO.cons (hO.sub (by decide)) t_y3 (by decide)
  refine lv_aload_n hx hb dX12_next_0 rfl (lv_at hl 0 rfl) ?_
  refine lv_aload_n hx hb dX12_next_1 rfl (lv_at hl 0 rfl) ?_
  refine x_getk (ci := 12) (C := RX12) (F := TX12) (N := 36) (v := .int y7) hx hb hts uX12 hown hkb hH 1 rfl rfl 7 (by decide) rfl kw_1230 (fun _ h9 => h9) dX12_next_2 ?_
  have J8 : ∀ (n : Nat) (f8_206 : Int32) (H : Heap) (locs : List Loc) (ls : Array Slot), (900 - f8_206.toInt).toNat = n → (0 ≤ f8_206.toInt) → (f8_206.toInt ≤ 900) → (y7.toInt ≤ f8_206.toInt ∧ f8_206.toInt ≤ y8.toInt) → HT D cs A T (y3 :: a0 :: O) ((y3, .inl (cs.2.1, 900, .inl f3)) :: (a0, .inr (12, o0 :: o1 :: o2 :: (.ref y3) :: (.ref y4) :: o5 :: (.int f8_206) :: (.int y7) :: (.int y8) :: (.int y9) :: (.int y10) :: (.int y11) :: (.int y12) :: tl)) :: X) H → va_S A s.heap H locs → lv_has ls 2 [(0, .ref a0)] → W p l e { frames := 5, cells := 0, slots := 0, locals := 108 } s m [.ref a0].toArray below meth c H locs 0 0 (MQ below (Tv D cs (fun u => ∃ (n0_6 : Int32) (n0_7 : Int32) (n0_9 : Int32) (n0_10 : Int32), u = (T, a0 :: O, (a0, .inr (12, o0 :: o1 :: o2 :: (.ref y3) :: (.ref y4) :: o5 :: (.int n0_6) :: (.int n0_7) :: (.int y8) :: (.int n0_9) :: (.int n0_10) :: (.int y11) :: (.int y12) :: tl)) :: X) ∧ (y7.toInt ≤ n0_6.toInt) ∧ (n0_6.toInt ≤ n0_7.toInt) ∧ (n0_7.toInt ≤ y8.toInt) ∧ (TK3 n0_9 n0_6 n0_7) ∧ (0 ≤ n0_10.toInt) ∧ (n0_10.toInt ≤ 999)) A) [.ref a0].toArray s 0 0 A) (F0 m 8 ls []) := by
    intro n
    induction n using Nat.strongRecOn with
    | _ n ih8 =>
      intro f8_206 H locs ls hm8 l_f8_206 u_f8_206 i8 hH hS hl
      refine lv_aload_n hx hb dX12_next_8 rfl (lv_at hl 0 rfl) ?_
      refine lv_aload_n hx hb dX12_next_9 rfl (lv_at hl 0 rfl) ?_
      refine x_getk (ci := 12) (C := RX12) (F := TX12) (N := 36) (v := .int f8_206) hx hb hts uX12 hown hkb hH 1 rfl rfl 6 (by decide) rfl kw_1229 (fun _ h9 => h9) dX12_next_10 ?_
      refine tk_i hH hS hA (tr_V (n := 1) (As := [.int f8_206]) hx hb hml hown hts hkb hH (ox_c (ox_map hOX rfl)) hks hE hS hA (s_M_see l D cs kf T O X a0 hg mq f8_206 f3 o0 o1 o2 y3 y4 o5 f8_206 y7 y8 y9 y10 y11 y12 tl t_a0 b_hg (by omega) t_y3 t_y4 (by omega) (by omega) (by omega) (by omega) (by omega) (by omega) (by omega) (by omega) (hO.sub (by decide))) kw_1348 kw_1350 ks_44 kw_13 kw_1351 (by decide +kernel) ⟨Nat.le_of_ble_eq_true rfl, Nat.le_of_ble_eq_true rfl⟩ (x_recv (ci := 12) hkb hH 1 rfl rfl) rfl rfl hl.1 (Nat.le_of_ble_eq_true rfl) dX12_next_13 ⟨Nat.le_of_ble_eq_true rfl, Nat.le_of_ble_eq_true rfl⟩) (fun v13 u H locs hz9 hH hS => ?_)
      obtain ⟨rfl, x_v130, x_v131⟩ := hz9
      have hH : HT D cs A T (y3 :: a0 :: O) ((y3, .inl (cs.2.1, 900, .inl f3)) :: (a0, .inr (12, o0 :: o1 :: o2 :: (.ref y3) :: (.ref y4) :: o5 :: (.int f8_206) :: (.int y7) :: (.int y8) :: (.int y9) :: (.int y10) :: (.int y11) :: (.int y12) :: tl)) :: X) H := hH
      refine W.widen (k := 0) (n := 0) (Nat.le_of_ble_eq_true rfl) (Nat.le_of_ble_eq_true rfl) ?_
      refine lv_bipush (v := 10) hx hb dX12_next_16 (by decide) ?_
      refine lv_icmp_eq (tgt := 34) hx hb dX12_next_18 (by decide) (fun c18 => ?_) (fun c18 => ?_)
      · skip
        have tc18 := f_eq (k := 10) (by decide) c18
        refine lv_aload_n hx hb dX12_next_34 rfl (lv_at hl 0 rfl) ?_
        refine lv_dup hx hb dX12_next_35 rfl ?_
        refine x_getk (ci := 12) (C := RX12) (F := TX12) (N := 36) (v := .int f8_206) hx hb hts uX12 hown hkb hH 1 rfl rfl 6 (by decide) rfl kw_1229 (fun _ h9 => h9) dX12_next_36 ?_
        refine lv_iconst (v := 1) hx hb dX12_next_39 (by decide) ?_
        refine lv_iadd hx hb dX12_next_40 ?_
        refine lv_topi (fun v40 ev40 => ?_)
        have tv40 : v40.toInt = f8_206.toInt + (1) := by rw [ev40]; exact add_i rfl (by decide : (1 : Int32).toInt = 1) (by omega) (by omega)
        refine x_putk (ci := 12) (v := .int v40) (ty := tyX12 6) (C := RX12) (F := TX12) (N := 36) hx hb hts uX12 tyX12 tyX12_ok nmX12 hown hkb hH hS 1 rfl rfl 6 (by decide) kw_1229 (fun _ h9 => h9) rfl (tyX12_ok 6 (by decide)) rfl rfl (by show 6 < tl.length + 13; omega) dX12_next_41 (fun H locs hH hS => ?_)
        have hH : HT D cs A T (y3 :: a0 :: O) ((y3, .inl (cs.2.1, 900, .inl f3)) :: (a0, .inr (12, o0 :: o1 :: o2 :: (.ref y3) :: (.ref y4) :: o5 :: (.int v40) :: (.int y7) :: (.int y8) :: (.int y9) :: (.int y10) :: (.int y11) :: (.int y12) :: tl)) :: X) H := hH
        refine lv_goto (tgt := 8) hx hb dX12_next_44 (by decide) ?_
        exact ih8 _ (by omega) v40 _ _ _ rfl (by omega) (by omega) (by omega) hH hS (lv_sub hl [0] rfl)
      · skip
        have tc18 := f_ne (k := 10) (by decide) c18
        refine lv_aload_n hx hb dX12_next_21 rfl (lv_at hl 0 rfl) ?_
        refine lv_aload_n hx hb dX12_next_22 rfl (lv_at hl 0 rfl) ?_
        refine x_getk (ci := 12) (C := RX12) (F := TX12) (N := 36) (v := .int f8_206) hx hb hts uX12 hown hkb hH 1 rfl rfl 6 (by decide) rfl kw_1229 (fun _ h9 => h9) dX12_next_23 ?_
        refine tk_i hH hS hA (tr_V (n := 1) (As := [.int f8_206]) hx hb hml hown hts hkb hH (ox_c (ox_map hOX rfl)) hks hE hS hA (s_M_see l D cs kf T O X a0 hg mq f8_206 f3 o0 o1 o2 y3 y4 o5 f8_206 y7 y8 y9 y10 y11 y12 tl t_a0 b_hg (by omega) t_y3 t_y4 (by omega) (by omega) (by omega) (by omega) (by omega) (by omega) (by omega) (by omega) (hO.sub (by decide))) kw_1348 kw_1350 ks_44 kw_13 kw_1351 (by decide +kernel) ⟨Nat.le_of_ble_eq_true rfl, Nat.le_of_ble_eq_true rfl⟩ (x_recv (ci := 12) hkb hH 1 rfl rfl) rfl rfl hl.1 (Nat.le_of_ble_eq_true rfl) dX12_next_26 ⟨Nat.le_of_ble_eq_true rfl, Nat.le_of_ble_eq_true rfl⟩) (fun v26 u H locs hz9 hH hS => ?_)
        obtain ⟨rfl, x_v260, x_v261⟩ := hz9
        have hH : HT D cs A T (y3 :: a0 :: O) ((y3, .inl (cs.2.1, 900, .inl f3)) :: (a0, .inr (12, o0 :: o1 :: o2 :: (.ref y3) :: (.ref y4) :: o5 :: (.int f8_206) :: (.int y7) :: (.int y8) :: (.int y9) :: (.int y10) :: (.int y11) :: (.int y12) :: tl)) :: X) H := hH
        refine W.widen (k := 0) (n := 0) (Nat.le_of_ble_eq_true rfl) (Nat.le_of_ble_eq_true rfl) ?_
        refine lv_bipush (v := 32) hx hb dX12_next_29 (by decide) ?_
        refine lv_icmp_ne (tgt := 47) hx hb dX12_next_31 (by decide) (fun c31 => ?_) (fun c31 => ?_)
        · skip
          have tc31 := f_ne (k := 32) (by decide) c31
          refine lv_aload_n hx hb dX12_next_47 rfl (lv_at hl 0 rfl) ?_
          refine lv_aload_n hx hb dX12_next_48 rfl (lv_at hl 0 rfl) ?_
          refine x_getk (ci := 12) (C := RX12) (F := TX12) (N := 36) (v := .int f8_206) hx hb hts uX12 hown hkb hH 1 rfl rfl 6 (by decide) rfl kw_1229 (fun _ h9 => h9) dX12_next_49 ?_
          refine x_putk (ci := 12) (v := .int f8_206) (ty := tyX12 7) (C := RX12) (F := TX12) (N := 36) hx hb hts uX12 tyX12 tyX12_ok nmX12 hown hkb hH hS 1 rfl rfl 7 (by decide) kw_1230 (fun _ h9 => h9) rfl (tyX12_ok 7 (by decide)) rfl rfl (by show 7 < tl.length + 13; omega) dX12_next_52 (fun H locs hH hS => ?_)
          have hH : HT D cs A T (y3 :: a0 :: O) ((y3, .inl (cs.2.1, 900, .inl f3)) :: (a0, .inr (12, o0 :: o1 :: o2 :: (.ref y3) :: (.ref y4) :: o5 :: (.int f8_206) :: (.int f8_206) :: (.int y8) :: (.int y9) :: (.int y10) :: (.int y11) :: (.int y12) :: tl)) :: X) H := hH
          refine lv_aload_n hx hb dX12_next_55 rfl (lv_at hl 0 rfl) ?_
          refine x_getk (ci := 12) (C := RX12) (F := TX12) (N := 36) (v := .int f8_206) hx hb hts uX12 hown hkb hH 1 rfl rfl 6 (by decide) rfl kw_1229 (fun _ h9 => h9) dX12_next_56 ?_
          refine lv_aload_n hx hb dX12_next_59 rfl (lv_at hl 0 rfl) ?_
          refine x_getk (ci := 12) (C := RX12) (F := TX12) (N := 36) (v := .int y8) hx hb hts uX12 hown hkb hH 1 rfl rfl 8 (by decide) rfl kw_1231 (fun _ h9 => h9) dX12_next_60 ?_
          refine lv_icmp_lt (tgt := 75) hx hb dX12_next_63 (by decide) (fun c63 => ?_) (fun c63 => ?_)
          · skip
            have fuc63 := full_i f8_206
            have fvc63 := full_i y8
            have tc63 := g_lt c63
            refine lv_aload_n hx hb dX12_next_75 rfl (lv_at hl 0 rfl) ?_
            refine lv_aload_n hx hb dX12_next_76 rfl (lv_at hl 0 rfl) ?_
            refine x_getk (ci := 12) (C := RX12) (F := TX12) (N := 36) (v := .int f8_206) hx hb hts uX12 hown hkb hH 1 rfl rfl 6 (by decide) rfl kw_1229 (fun _ h9 => h9) dX12_next_77 ?_
            refine tk_i hH hS hA (tr_V (n := 1) (As := [.int f8_206]) hx hb hml hown hts hkb hH (ox_c (ox_map hOX rfl)) hks hE hS hA (s_M_see l D cs kf T O X a0 hg mq f8_206 f3 o0 o1 o2 y3 y4 o5 f8_206 f8_206 y8 y9 y10 y11 y12 tl t_a0 b_hg (by omega) t_y3 t_y4 (by omega) (by omega) (by omega) (by omega) (by omega) (by omega) (by omega) (by omega) (hO.sub (by decide))) kw_1348 kw_1350 ks_44 kw_13 kw_1351 (by decide +kernel) ⟨Nat.le_of_ble_eq_true rfl, Nat.le_of_ble_eq_true rfl⟩ (x_recv (ci := 12) hkb hH 1 rfl rfl) rfl rfl hl.1 (Nat.le_of_ble_eq_true rfl) dX12_next_80 ⟨Nat.le_of_ble_eq_true rfl, Nat.le_of_ble_eq_true rfl⟩) (fun v80 u H locs hz9 hH hS => ?_)
            obtain ⟨rfl, x_v800, x_v801⟩ := hz9
            have hH : HT D cs A T (y3 :: a0 :: O) ((y3, .inl (cs.2.1, 900, .inl f3)) :: (a0, .inr (12, o0 :: o1 :: o2 :: (.ref y3) :: (.ref y4) :: o5 :: (.int f8_206) :: (.int f8_206) :: (.int y8) :: (.int y9) :: (.int y10) :: (.int y11) :: (.int y12) :: tl)) :: X) H := hH
            refine W.widen (k := 0) (n := 0) (Nat.le_of_ble_eq_true rfl) (Nat.le_of_ble_eq_true rfl) ?_
            refine tk_i hH hS hA (tr_S (n := 1) (As := [.int v80]) hx hb hml hown hts hkb hH (ox_c (ox_map hOX rfl)) hks hE hS hA (s_M_isSmall2 l D cs kf T (y3 :: a0 :: O) ((y3, .inl (cs.2.1, 900, .inl f3)) :: (a0, .inr (12, o0 :: o1 :: o2 :: (.ref y3) :: (.ref y4) :: o5 :: (.int f8_206) :: (.int f8_206) :: (.int y8) :: (.int y9) :: (.int y10) :: (.int y11) :: (.int y12) :: tl)) :: X) v80  (hO.sub (by decide))) kw_1352 kw_1353 kw_13 kw_1354 (by decide +kernel) ⟨Nat.le_of_ble_eq_true rfl, Nat.le_of_ble_eq_true rfl⟩ rfl rfl hl.1 (Nat.le_of_ble_eq_true rfl) dX12_next_83 ⟨Nat.le_of_ble_eq_true rfl, Nat.le_of_ble_eq_true rfl⟩) (fun v83 u H locs hz9 hH hS => ?_)
            obtain ⟨rfl, l_v83, u_v83, x_v830, x_v831⟩ := hz9
            have hH : HT D cs A T (y3 :: a0 :: O) ((y3, .inl (cs.2.1, 900, .inl f3)) :: (a0, .inr (12, o0 :: o1 :: o2 :: (.ref y3) :: (.ref y4) :: o5 :: (.int f8_206) :: (.int f8_206) :: (.int y8) :: (.int y9) :: (.int y10) :: (.int y11) :: (.int y12) :: tl)) :: X) H := hH
            refine W.widen (k := 0) (n := 0) (Nat.le_of_ble_eq_true rfl) (Nat.le_of_ble_eq_true rfl) ?_
            have J89 : ∀ (n : Nat) (f89_207 : Int32) (H : Heap) (locs : List Loc) (ls : Array Slot), (900 - f89_207.toInt).toNat = n → (0 ≤ f89_207.toInt) → (f89_207.toInt ≤ 900) → (f8_206.toInt ≤ f89_207.toInt ∧ f89_207.toInt ≤ y8.toInt) → (v83.toInt ≠ 0) → HT D cs A T (y3 :: a0 :: O) ((y3, .inl (cs.2.1, 900, .inl f3)) :: (a0, .inr (12, o0 :: o1 :: o2 :: (.ref y3) :: (.ref y4) :: o5 :: (.int f8_206) :: (.int f89_207) :: (.int y8) :: (.int y9) :: (.int y10) :: (.int y11) :: (.int y12) :: tl)) :: X) H → va_S A s.heap H locs → lv_has ls 2 [(0, .ref a0)] → W p l e { frames := 5, cells := 0, slots := 0, locals := 108 } s m [.ref a0].toArray below meth c H locs 0 0 (MQ below (Tv D cs (fun u => ∃ (n0_6 : Int32) (n0_7 : Int32) (n0_9 : Int32) (n0_10 : Int32), u = (T, a0 :: O, (a0, .inr (12, o0 :: o1 :: o2 :: (.ref y3) :: (.ref y4) :: o5 :: (.int n0_6) :: (.int n0_7) :: (.int y8) :: (.int n0_9) :: (.int n0_10) :: (.int y11) :: (.int y12) :: tl)) :: X) ∧ (y7.toInt ≤ n0_6.toInt) ∧ (n0_6.toInt ≤ n0_7.toInt) ∧ (n0_7.toInt ≤ y8.toInt) ∧ (TK3 n0_9 n0_6 n0_7) ∧ (0 ≤ n0_10.toInt) ∧ (n0_10.toInt ≤ 999)) A) [.ref a0].toArray s 0 0 A) (F0 m 89 ls []) := by
              intro n
              induction n using Nat.strongRecOn with
              | _ n ih89 =>
                intro f89_207 H locs ls hm89 l_f89_207 u_f89_207 i89 j89 hH hS hl
                refine lv_aload_n hx hb dX12_next_89 rfl (lv_at hl 0 rfl) ?_
                refine lv_aload_n hx hb dX12_next_90 rfl (lv_at hl 0 rfl) ?_
                refine x_getk (ci := 12) (C := RX12) (F := TX12) (N := 36) (v := .int f89_207) hx hb hts uX12 hown hkb hH 1 rfl rfl 7 (by decide) rfl kw_1230 (fun _ h9 => h9) dX12_next_91 ?_
                refine tk_i hH hS hA (tr_V (n := 1) (As := [.int f89_207]) hx hb hml hown hts hkb hH (ox_c (ox_map hOX rfl)) hks hE hS hA (s_M_see l D cs kf T O X a0 hg mq f89_207 f3 o0 o1 o2 y3 y4 o5 f8_206 f89_207 y8 y9 y10 y11 y12 tl t_a0 b_hg (by omega) t_y3 t_y4 (by omega) (by omega) (by omega) (by omega) (by omega) (by omega) (by omega) (by omega) (hO.sub (by decide))) kw_1348 kw_1350 ks_44 kw_13 kw_1351 (by decide +kernel) ⟨Nat.le_of_ble_eq_true rfl, Nat.le_of_ble_eq_true rfl⟩ (x_recv (ci := 12) hkb hH 1 rfl rfl) rfl rfl hl.1 (Nat.le_of_ble_eq_true rfl) dX12_next_94 ⟨Nat.le_of_ble_eq_true rfl, Nat.le_of_ble_eq_true rfl⟩) (fun v94 u H locs hz9 hH hS => ?_)
                obtain ⟨rfl, x_v940, x_v941⟩ := hz9
                have hH : HT D cs A T (y3 :: a0 :: O) ((y3, .inl (cs.2.1, 900, .inl f3)) :: (a0, .inr (12, o0 :: o1 :: o2 :: (.ref y3) :: (.ref y4) :: o5 :: (.int f8_206) :: (.int f89_207) :: (.int y8) :: (.int y9) :: (.int y10) :: (.int y11) :: (.int y12) :: tl)) :: X) H := hH
                refine W.widen (k := 0) (n := 0) (Nat.le_of_ble_eq_true rfl) (Nat.le_of_ble_eq_true rfl) ?_
                refine tk_i hH hS hA (tr_S (n := 1) (As := [.int v94]) hx hb hml hown hts hkb hH (ox_c (ox_map hOX rfl)) hks hE hS hA (s_M_isSmall2 l D cs kf T (y3 :: a0 :: O) ((y3, .inl (cs.2.1, 900, .inl f3)) :: (a0, .inr (12, o0 :: o1 :: o2 :: (.ref y3) :: (.ref y4) :: o5 :: (.int f8_206) :: (.int f89_207) :: (.int y8) :: (.int y9) :: (.int y10) :: (.int y11) :: (.int y12) :: tl)) :: X) v94  (hO.sub (by decide))) kw_1352 kw_1353 kw_13 kw_1354 (by decide +kernel) ⟨Nat.le_of_ble_eq_true rfl, Nat.le_of_ble_eq_true rfl⟩ rfl rfl hl.1 (Nat.le_of_ble_eq_true rfl) dX12_next_97 ⟨Nat.le_of_ble_eq_true rfl, Nat.le_of_ble_eq_true rfl⟩) (fun v97 u H locs hz9 hH hS => ?_)
                obtain ⟨rfl, l_v97, u_v97, x_v970, x_v971⟩ := hz9
                have hH : HT D cs A T (y3 :: a0 :: O) ((y3, .inl (cs.2.1, 900, .inl f3)) :: (a0, .inr (12, o0 :: o1 :: o2 :: (.ref y3) :: (.ref y4) :: o5 :: (.int f8_206) :: (.int f89_207) :: (.int y8) :: (.int y9) :: (.int y10) :: (.int y11) :: (.int y12) :: tl)) :: X) H := hH
                refine W.widen (k := 0) (n := 0) (Nat.le_of_ble_eq_true rfl) (Nat.le_of_ble_eq_true rfl) ?_
                refine lv_if_eq (tgt := 116) hx hb dX12_next_100 (by decide) (fun c100 => ?_) (fun c100 => ?_)
                · skip
                  have tc100 := f_eq (k := 0) (by decide) c100
                  have hq : f8_206.toInt ≠ f89_207.toInt := fun q => by have := see_same x_v800 x_v940 q; omega
                  refine lv_aload_n hx hb dX12_next_116 rfl (lv_at hl 0 rfl) ?_
                  refine lv_aload_n hx hb dX12_next_117 rfl (lv_at hl 0 rfl) ?_
                  refine tk_i hH hS hA (tr_V (n := 0) (As := []) hx hb hml hown hts hkb hH (ox_c (ox_map hOX rfl)) hks hE hS hA (s_M_keyAt l D cs kf T O X a0 hg mq f3 o0 o1 o2 y3 y4 o5 f8_206 f89_207 y8 y9 y10 y11 y12 tl t_a0 b_hg t_y3 t_y4 (by omega) (by omega) (by omega) (by omega) (by omega) (by omega) (by omega) (by omega) (by omega) (hO.sub (by decide))) kw_1355 kw_1357 ks_45 kw_13 kw_1358 (by decide +kernel) ⟨Nat.le_of_ble_eq_true rfl, Nat.le_of_ble_eq_true rfl⟩ (x_recv (ci := 12) hkb hH 1 rfl rfl) rfl rfl hl.1 (Nat.le_of_ble_eq_true rfl) dX12_next_118 ⟨Nat.le_of_ble_eq_true rfl, Nat.le_of_ble_eq_true rfl⟩) (fun v118 u H locs hz9 hH hS => ?_)
                  obtain ⟨rfl⟩ := hz9
                  have hH : HT D cs A T (y3 :: a0 :: O) ((y3, .inl (cs.2.1, 900, .inl f3)) :: (a0, .inr (12, o0 :: o1 :: o2 :: (.ref y3) :: (.ref y4) :: o5 :: (.int f8_206) :: (.int f89_207) :: (.int y8) :: (.int y9) :: (.int y10) :: (.int y11) :: (.int y12) :: tl)) :: X) H := hH
                  refine W.widen (k := 0) (n := 0) (Nat.le_of_ble_eq_true rfl) (Nat.le_of_ble_eq_true rfl) ?_
                  refine x_putk (ci := 12) (v := .int v118) (ty := tyX12 9) (C := RX12) (F := TX12) (N := 36) hx hb hts uX12 tyX12 tyX12_ok nmX12 hown hkb hH hS 1 rfl rfl 9 (by decide) kw_1232 (fun _ h9 => h9) rfl (tyX12_ok 9 (by decide)) rfl rfl (by show 9 < tl.length + 13; omega) dX12_next_121 (fun H locs hH hS => ?_)
                  have hH : HT D cs A T (y3 :: a0 :: O) ((y3, .inl (cs.2.1, 900, .inl f3)) :: (a0, .inr (12, o0 :: o1 :: o2 :: (.ref y3) :: (.ref y4) :: o5 :: (.int f8_206) :: (.int f89_207) :: (.int y8) :: (.int v118) :: (.int y10) :: (.int y11) :: (.int y12) :: tl)) :: X) H := hH
                  refine lv_goto (tgt := 294) hx hb dX12_next_124 (by decide) ?_
                  have hH : HT D cs A T (a0 :: O) ((a0, .inr (12, o0 :: o1 :: o2 :: (.ref y3) :: (.ref y4) :: o5 :: (.int f8_206) :: (.int f89_207) :: (.int y8) :: (.int v118) :: (.int y10) :: (.int y11) :: (.int y12) :: tl)) :: X) H := HT.layA hH t_y3 (show sp cs T (1, 900, 0) _ from ⟨f3, rfl, fun _ => cp_0 _⟩)
                  exact te_v hx hb hr hlocks hH hS (⟨f8_206, f89_207, v118, y10, rfl, by omega, by omega, by omega, (fun q => by omega), by omega, by omega⟩) dX12_next_294
                · skip
                  have tc100 := f_ne (k := 0) (by decide) c100
                  refine lv_aload_n hx hb dX12_next_103 rfl (lv_at hl 0 rfl) ?_
                  refine lv_dup hx hb dX12_next_104 rfl ?_
                  refine x_getk (ci := 12) (C := RX12) (F := TX12) (N := 36) (v := .int f89_207) hx hb hts uX12 hown hkb hH 1 rfl rfl 7 (by decide) rfl kw_1230 (fun _ h9 => h9) dX12_next_105 ?_
                  refine lv_iconst (v := 1) hx hb dX12_next_108 (by decide) ?_
                  refine lv_iadd hx hb dX12_next_109 ?_
                  refine lv_topi (fun v109 ev109 => ?_)
                  have tv109 : v109.toInt = f89_207.toInt + (1) := by rw [ev109]; exact add_i rfl (by decide : (1 : Int32).toInt = 1) (by omega) (by omega)
                  refine x_putk (ci := 12) (v := .int v109) (ty := tyX12 7) (C := RX12) (F := TX12) (N := 36) hx hb hts uX12 tyX12 tyX12_ok nmX12 hown hkb hH hS 1 rfl rfl 7 (by decide) kw_1230 (fun _ h9 => h9) rfl (tyX12_ok 7 (by decide)) rfl rfl (by show 7 < tl.length + 13; omega) dX12_next_110 (fun H locs hH hS => ?_)
                  have hH : HT D cs A T (y3 :: a0 :: O) ((y3, .inl (cs.2.1, 900, .inl f3)) :: (a0, .inr (12, o0 :: o1 :: o2 :: (.ref y3) :: (.ref y4) :: o5 :: (.int f8_206) :: (.int v109) :: (.int y8) :: (.int y9) :: (.int y10) :: (.int y11) :: (.int y12) :: tl)) :: X) H := hH
                  refine lv_goto (tgt := 89) hx hb dX12_next_113 (by decide) ?_
                  exact ih89 _ (by omega) v109 _ _ _ rfl (by omega) (by omega) (by omega) (by omega) hH hS (lv_sub hl [0] rfl)
            refine lv_if_eq (tgt := 127) hx hb dX12_next_86 (by decide) (fun c86 => ?_) (fun c86 => ?_)
            · skip
              have tc86 := f_eq (k := 0) (by decide) c86
              refine lv_aload_n hx hb dX12_next_127 rfl (lv_at hl 0 rfl) ?_
              refine lv_aload_n hx hb dX12_next_128 rfl (lv_at hl 0 rfl) ?_
              refine x_getk (ci := 12) (C := RX12) (F := TX12) (N := 36) (v := .int f8_206) hx hb hts uX12 hown hkb hH 1 rfl rfl 6 (by decide) rfl kw_1229 (fun _ h9 => h9) dX12_next_129 ?_
              refine tk_i hH hS hA (tr_V (n := 1) (As := [.int f8_206]) hx hb hml hown hts hkb hH (ox_c (ox_map hOX rfl)) hks hE hS hA (s_M_see l D cs kf T O X a0 hg mq f8_206 f3 o0 o1 o2 y3 y4 o5 f8_206 f8_206 y8 y9 y10 y11 y12 tl t_a0 b_hg (by omega) t_y3 t_y4 (by omega) (by omega) (by omega) (by omega) (by omega) (by omega) (by omega) (by omega) (hO.sub (by decide))) kw_1348 kw_1350 ks_44 kw_13 kw_1351 (by decide +kernel) ⟨Nat.le_of_ble_eq_true rfl, Nat.le_of_ble_eq_true rfl⟩ (x_recv (ci := 12) hkb hH 1 rfl rfl) rfl rfl hl.1 (Nat.le_of_ble_eq_true rfl) dX12_next_132 ⟨Nat.le_of_ble_eq_true rfl, Nat.le_of_ble_eq_true rfl⟩) (fun v132 u H locs hz9 hH hS => ?_)
              obtain ⟨rfl, x_v1320, x_v1321⟩ := hz9
              have hH : HT D cs A T (y3 :: a0 :: O) ((y3, .inl (cs.2.1, 900, .inl f3)) :: (a0, .inr (12, o0 :: o1 :: o2 :: (.ref y3) :: (.ref y4) :: o5 :: (.int f8_206) :: (.int f8_206) :: (.int y8) :: (.int y9) :: (.int y10) :: (.int y11) :: (.int y12) :: tl)) :: X) H := hH
              refine W.widen (k := 0) (n := 0) (Nat.le_of_ble_eq_true rfl) (Nat.le_of_ble_eq_true rfl) ?_
              refine tk_i hH hS hA (tr_S (n := 1) (As := [.int v132]) hx hb hml hown hts hkb hH (ox_c (ox_map hOX rfl)) hks hE hS hA (s_M_isDigit2 l D cs kf T (y3 :: a0 :: O) ((y3, .inl (cs.2.1, 900, .inl f3)) :: (a0, .inr (12, o0 :: o1 :: o2 :: (.ref y3) :: (.ref y4) :: o5 :: (.int f8_206) :: (.int f8_206) :: (.int y8) :: (.int y9) :: (.int y10) :: (.int y11) :: (.int y12) :: tl)) :: X) v132  (hO.sub (by decide))) kw_1362 kw_1363 kw_13 kw_1364 (by decide +kernel) ⟨Nat.le_of_ble_eq_true rfl, Nat.le_of_ble_eq_true rfl⟩ rfl rfl hl.1 (Nat.le_of_ble_eq_true rfl) dX12_next_135 ⟨Nat.le_of_ble_eq_true rfl, Nat.le_of_ble_eq_true rfl⟩) (fun v135 u H locs hz9 hH hS => ?_)
              obtain ⟨rfl, l_v135, u_v135, x_v1350, x_v1351⟩ := hz9
              have hH : HT D cs A T (y3 :: a0 :: O) ((y3, .inl (cs.2.1, 900, .inl f3)) :: (a0, .inr (12, o0 :: o1 :: o2 :: (.ref y3) :: (.ref y4) :: o5 :: (.int f8_206) :: (.int f8_206) :: (.int y8) :: (.int y9) :: (.int y10) :: (.int y11) :: (.int y12) :: tl)) :: X) H := hH
              refine W.widen (k := 0) (n := 0) (Nat.le_of_ble_eq_true rfl) (Nat.le_of_ble_eq_true rfl) ?_
              refine lv_if_eq (tgt := 236) hx hb dX12_next_138 (by decide) (fun c138 => ?_) (fun c138 => ?_)
              · skip
                have tc138 := f_eq (k := 0) (by decide) c138
                refine lv_aload_n hx hb dX12_next_236 rfl (lv_at hl 0 rfl) ?_
                refine lv_dup hx hb dX12_next_237 rfl ?_
                refine x_getk (ci := 12) (C := RX12) (F := TX12) (N := 36) (v := .int f8_206) hx hb hts uX12 hown hkb hH 1 rfl rfl 7 (by decide) rfl kw_1230 (fun _ h9 => h9) dX12_next_238 ?_
                refine lv_iconst (v := 1) hx hb dX12_next_241 (by decide) ?_
                refine lv_iadd hx hb dX12_next_242 ?_
                refine lv_topi (fun v242 ev242 => ?_)
                have tv242 : v242.toInt = f8_206.toInt + (1) := by rw [ev242]; exact add_i rfl (by decide : (1 : Int32).toInt = 1) (by omega) (by omega)
                refine x_putk (ci := 12) (v := .int v242) (ty := tyX12 7) (C := RX12) (F := TX12) (N := 36) hx hb hts uX12 tyX12 tyX12_ok nmX12 hown hkb hH hS 1 rfl rfl 7 (by decide) kw_1230 (fun _ h9 => h9) rfl (tyX12_ok 7 (by decide)) rfl rfl (by show 7 < tl.length + 13; omega) dX12_next_243 (fun H locs hH hS => ?_)
                have hH : HT D cs A T (y3 :: a0 :: O) ((y3, .inl (cs.2.1, 900, .inl f3)) :: (a0, .inr (12, o0 :: o1 :: o2 :: (.ref y3) :: (.ref y4) :: o5 :: (.int f8_206) :: (.int v242) :: (.int y8) :: (.int y9) :: (.int y10) :: (.int y11) :: (.int y12) :: tl)) :: X) H := hH
                refine lv_aload_n hx hb dX12_next_246 rfl (lv_at hl 0 rfl) ?_
                refine lv_bipush (v := 23) hx hb dX12_next_247 (by decide) ?_
                refine x_putk (ci := 12) (v := .int 23) (ty := tyX12 9) (C := RX12) (F := TX12) (N := 36) hx hb hts uX12 tyX12 tyX12_ok nmX12 hown hkb hH hS 1 rfl rfl 9 (by decide) kw_1232 (fun _ h9 => h9) rfl (tyX12_ok 9 (by decide)) rfl rfl (by show 9 < tl.length + 13; omega) dX12_next_249 (fun H locs hH hS => ?_)
                have hH : HT D cs A T (y3 :: a0 :: O) ((y3, .inl (cs.2.1, 900, .inl f3)) :: (a0, .inr (12, o0 :: o1 :: o2 :: (.ref y3) :: (.ref y4) :: o5 :: (.int f8_206) :: (.int v242) :: (.int y8) :: (.int 23) :: (.int y10) :: (.int y11) :: (.int y12) :: tl)) :: X) H := hH
                refine lv_iconst (v := 0) hx hb dX12_next_252 (by decide) ?_
                have J254 : ∀ (n : Nat) (p254_1 : Int32) (f254_209 : Int32) (H : Heap) (locs : List Loc) (ls : Array Slot), (99 - p254_1.toInt).toNat = n → (0 ≤ p254_1.toInt) → (p254_1.toInt ≤ 99) → (23 ≤ f254_209.toInt) → (f254_209.toInt ≤ 199) → HT D cs A T (y3 :: a0 :: O) ((y3, .inl (cs.2.1, 900, .inl f3)) :: (a0, .inr (12, o0 :: o1 :: o2 :: (.ref y3) :: (.ref y4) :: o5 :: (.int f8_206) :: (.int v242) :: (.int y8) :: (.int f254_209) :: (.int y10) :: (.int y11) :: (.int y12) :: tl)) :: X) H → va_S A s.heap H locs → lv_has ls 2 [(1, .int p254_1), (0, .ref a0)] → W p l e { frames := 5, cells := 0, slots := 0, locals := 108 } s m [.ref a0].toArray below meth c H locs 0 0 (MQ below (Tv D cs (fun u => ∃ (n0_6 : Int32) (n0_7 : Int32) (n0_9 : Int32) (n0_10 : Int32), u = (T, a0 :: O, (a0, .inr (12, o0 :: o1 :: o2 :: (.ref y3) :: (.ref y4) :: o5 :: (.int n0_6) :: (.int n0_7) :: (.int y8) :: (.int n0_9) :: (.int n0_10) :: (.int y11) :: (.int y12) :: tl)) :: X) ∧ (y7.toInt ≤ n0_6.toInt) ∧ (n0_6.toInt ≤ n0_7.toInt) ∧ (n0_7.toInt ≤ y8.toInt) ∧ (TK3 n0_9 n0_6 n0_7) ∧ (0 ≤ n0_10.toInt) ∧ (n0_10.toInt ≤ 999)) A) [.ref a0].toArray s 0 0 A) (F0 m 254 ls []) := by
                  intro n
                  induction n using Nat.strongRecOn with
                  | _ n ih254 =>
                    intro p254_1 f254_209 H locs ls hm254 l_p254_1 u_p254_1 l_f254_209 u_f254_209 hH hS hl
                    refine lv_iload_n hx hb dX12_next_254 rfl (lv_at hl 0 rfl) ?_
                    refine va_ldcS (q := kf.1 0) hx hb hown (hks ("FootholdWallModel", 126, ";:+-*()[]=<>", 0) (by decide +kernel)) dX12_next_255 ?_
                    refine tk_i hH hS hA (tr_V (n := 0) (As := []) hx hb hml hown hts hkb hH (ox_c (ox_map hOX rfl)) hks hE hS hA (s_length l D cs kf T (y3 :: a0 :: O) ((y3, .inl (cs.2.1, 900, .inl f3)) :: (a0, .inr (12, o0 :: o1 :: o2 :: (.ref y3) :: (.ref y4) :: o5 :: (.int f8_206) :: (.int v242) :: (.int y8) :: (.int f254_209) :: (.int y10) :: (.int y11) :: (.int y12) :: tl)) :: X) 0 (by decide) (hO.sub (by decide))) kw_1360 kw_478 kw_479 kw_14 kw_480 (by decide +kernel) ⟨Nat.le_of_ble_eq_true rfl, Nat.le_of_ble_eq_true rfl⟩ (vk_recv hE.1 (by decide) hS) rfl rfl hl.1 (Nat.le_of_ble_eq_true rfl) dX12_next_257 ⟨Nat.le_of_ble_eq_true rfl, Nat.le_of_ble_eq_true rfl⟩) (fun v257 u H locs hz9 hH hS => ?_)
                    obtain ⟨rfl, l_v257, u_v257, x_v2570⟩ := hz9
                    have hH : HT D cs A T (y3 :: a0 :: O) ((y3, .inl (cs.2.1, 900, .inl f3)) :: (a0, .inr (12, o0 :: o1 :: o2 :: (.ref y3) :: (.ref y4) :: o5 :: (.int f8_206) :: (.int v242) :: (.int y8) :: (.int f254_209) :: (.int y10) :: (.int y11) :: (.int y12) :: tl)) :: X) H := hH
                    refine W.widen (k := 0) (n := 0) (Nat.le_of_ble_eq_true rfl) (Nat.le_of_ble_eq_true rfl) ?_
                    refine lv_icmp_ge (tgt := 294) hx hb dX12_next_260 (by decide) (fun c260 => ?_) (fun c260 => ?_)
                    · skip
                      have fuc260 := full_i p254_1
                      have fvc260 := full_i v257
                      have tc260 := g_le c260
                      have hH : HT D cs A T (a0 :: O) ((a0, .inr (12, o0 :: o1 :: o2 :: (.ref y3) :: (.ref y4) :: o5 :: (.int f8_206) :: (.int v242) :: (.int y8) :: (.int f254_209) :: (.int y10) :: (.int y11) :: (.int y12) :: tl)) :: X) H := HT.layA hH t_y3 (show sp cs T (1, 900, 0) _ from ⟨f3, rfl, fun _ => cp_0 _⟩)
                      exact te_v hx hb hr hlocks hH hS (⟨f8_206, v242, f254_209, y10, rfl, by omega, by omega, by omega, (fun q => by omega), by omega, by omega⟩) dX12_next_294
                    · skip
                      have fuc260 := full_i p254_1
                      have fvc260 := full_i v257
                      have tc260 := g_nle c260
                      refine lv_aload_n hx hb dX12_next_263 rfl (lv_at hl 1 rfl) ?_
                      refine lv_aload_n hx hb dX12_next_264 rfl (lv_at hl 1 rfl) ?_
                      refine x_getk (ci := 12) (C := RX12) (F := TX12) (N := 36) (v := .int f8_206) hx hb hts uX12 hown hkb hH 1 rfl rfl 6 (by decide) rfl kw_1229 (fun _ h9 => h9) dX12_next_265 ?_
                      refine tk_i hH hS hA (tr_V (n := 1) (As := [.int f8_206]) hx hb hml hown hts hkb hH (ox_c (ox_map hOX rfl)) hks hE hS hA (s_M_see l D cs kf T O X a0 hg mq f8_206 f3 o0 o1 o2 y3 y4 o5 f8_206 v242 y8 f254_209 y10 y11 y12 tl t_a0 b_hg (by omega) t_y3 t_y4 (by omega) (by omega) (by omega) (by omega) (by omega) (by omega) (by omega) (by omega) (hO.sub (by decide))) kw_1348 kw_1350 ks_44 kw_13 kw_1351 (by decide +kernel) ⟨Nat.le_of_ble_eq_true rfl, Nat.le_of_ble_eq_true rfl⟩ (x_recv (ci := 12) hkb hH 1 rfl rfl) rfl rfl hl.1 (Nat.le_of_ble_eq_true rfl) dX12_next_268 ⟨Nat.le_of_ble_eq_true rfl, Nat.le_of_ble_eq_true rfl⟩) (fun v268 u H locs hz9 hH hS => ?_)
                      obtain ⟨rfl, x_v2680, x_v2681⟩ := hz9
                      have hH : HT D cs A T (y3 :: a0 :: O) ((y3, .inl (cs.2.1, 900, .inl f3)) :: (a0, .inr (12, o0 :: o1 :: o2 :: (.ref y3) :: (.ref y4) :: o5 :: (.int f8_206) :: (.int v242) :: (.int y8) :: (.int f254_209) :: (.int y10) :: (.int y11) :: (.int y12) :: tl)) :: X) H := hH
                      refine W.widen (k := 0) (n := 0) (Nat.le_of_ble_eq_true rfl) (Nat.le_of_ble_eq_true rfl) ?_
                      refine va_ldcS (q := kf.1 0) hx hb hown (hks ("FootholdWallModel", 126, ";:+-*()[]=<>", 0) (by decide +kernel)) dX12_next_271 ?_
                      refine lv_iload_n hx hb dX12_next_273 rfl (lv_at hl 0 rfl) ?_
                      refine tk_i hH hS hA (tr_V (n := 1) (As := [.int p254_1]) hx hb hml hown hts hkb hH (ox_c (ox_map hOX rfl)) hks hE hS hA (s_charAt2 l D cs kf T (y3 :: a0 :: O) ((y3, .inl (cs.2.1, 900, .inl f3)) :: (a0, .inr (12, o0 :: o1 :: o2 :: (.ref y3) :: (.ref y4) :: o5 :: (.int f8_206) :: (.int v242) :: (.int y8) :: (.int f254_209) :: (.int y10) :: (.int y11) :: (.int y12) :: tl)) :: X) 0 p254_1 (by decide) (by omega) (by omega) (hO.sub (by decide))) kw_1361 kw_556 kw_557 kw_14 kw_558 (by decide +kernel) ⟨Nat.le_of_ble_eq_true rfl, Nat.le_of_ble_eq_true rfl⟩ (vk_recv hE.1 (by decide) hS) rfl rfl hl.1 (Nat.le_of_ble_eq_true rfl) dX12_next_274 ⟨Nat.le_of_ble_eq_true rfl, Nat.le_of_ble_eq_true rfl⟩) (fun v274 u H locs hz9 hH hS => ?_)
                      obtain ⟨rfl, l_v274, u_v274, x_v2740⟩ := hz9
                      have hH : HT D cs A T (y3 :: a0 :: O) ((y3, .inl (cs.2.1, 900, .inl f3)) :: (a0, .inr (12, o0 :: o1 :: o2 :: (.ref y3) :: (.ref y4) :: o5 :: (.int f8_206) :: (.int v242) :: (.int y8) :: (.int f254_209) :: (.int y10) :: (.int y11) :: (.int y12) :: tl)) :: X) H := hH
                      refine W.widen (k := 0) (n := 0) (Nat.le_of_ble_eq_true rfl) (Nat.le_of_ble_eq_true rfl) ?_
                      have J288 : ∀ (f288_209 : Int32) (H : Heap) (locs : List Loc) (ls : Array Slot), (23 ≤ f288_209.toInt) → (f288_209.toInt ≤ 199) → HT D cs A T (y3 :: a0 :: O) ((y3, .inl (cs.2.1, 900, .inl f3)) :: (a0, .inr (12, o0 :: o1 :: o2 :: (.ref y3) :: (.ref y4) :: o5 :: (.int f8_206) :: (.int v242) :: (.int y8) :: (.int f288_209) :: (.int y10) :: (.int y11) :: (.int y12) :: tl)) :: X) H → va_S A s.heap H locs → lv_has ls 2 [(1, .int p254_1), (0, .ref a0)] → W p l e { frames := 5, cells := 0, slots := 0, locals := 108 } s m [.ref a0].toArray below meth c H locs 0 0 (MQ below (Tv D cs (fun u => ∃ (n0_6 : Int32) (n0_7 : Int32) (n0_9 : Int32) (n0_10 : Int32), u = (T, a0 :: O, (a0, .inr (12, o0 :: o1 :: o2 :: (.ref y3) :: (.ref y4) :: o5 :: (.int n0_6) :: (.int n0_7) :: (.int y8) :: (.int n0_9) :: (.int n0_10) :: (.int y11) :: (.int y12) :: tl)) :: X) ∧ (y7.toInt ≤ n0_6.toInt) ∧ (n0_6.toInt ≤ n0_7.toInt) ∧ (n0_7.toInt ≤ y8.toInt) ∧ (TK3 n0_9 n0_6 n0_7) ∧ (0 ≤ n0_10.toInt) ∧ (n0_10.toInt ≤ 999)) A) [.ref a0].toArray s 0 0 A) (F0 m 288 ls []) := by
                        intro f288_209 H locs ls l_f288_209 u_f288_209 hH hS hl
                        obtain ⟨v288, ev288⟩ : ∃ y : Int32, y = p254_1 + 1 := ⟨_, rfl⟩
                        have tv288 : v288.toInt = p254_1.toInt + (1) := by rw [ev288]; exact add_i rfl (by decide) (by omega) (by omega)
                        refine lv_iinc (v := v288) (lv' := [(1, .int v288), (0, .ref a0)]) hx hb dX12_next_288 hl (k := 0) rfl (by rw [ev288]; rfl) (by decide) rfl (fun ls hl => ?_)
                        refine lv_goto (tgt := 254) hx hb dX12_next_291 (by decide) ?_
                        exact ih254 _ (by omega) v288 f288_209 _ _ _ rfl (by omega) (by omega) (by omega) (by omega) hH hS (lv_sub hl [0, 1] rfl)
                      refine lv_icmp_ne (tgt := 288) hx hb dX12_next_277 (by decide) (fun c277 => ?_) (fun c277 => ?_)
                      · skip
                        have fuc277 := full_i v268
                        have fvc277 := full_i v274
                        have tc277 := g_ne c277
                        exact J288 f254_209 _ _ _ (by omega) (by omega) hH hS (lv_sub hl [0, 1] rfl)
                      · skip
                        have fuc277 := full_i v268
                        have fvc277 := full_i v274
                        have tc277 := g_eq c277
                        refine lv_aload_n hx hb dX12_next_280 rfl (lv_at hl 1 rfl) ?_
                        refine lv_bipush (v := 30) hx hb dX12_next_281 (by decide) ?_
                        refine lv_iload_n hx hb dX12_next_283 rfl (lv_at hl 0 rfl) ?_
                        refine lv_iadd hx hb dX12_next_284 ?_
                        refine lv_topi (fun v284 ev284 => ?_)
                        have tv284 : v284.toInt = (30) + p254_1.toInt := by rw [ev284]; exact add_i (by decide : (30 : Int32).toInt = 30) rfl (by omega) (by omega)
                        refine x_putk (ci := 12) (v := .int v284) (ty := tyX12 9) (C := RX12) (F := TX12) (N := 36) hx hb hts uX12 tyX12 tyX12_ok nmX12 hown hkb hH hS 1 rfl rfl 9 (by decide) kw_1232 (fun _ h9 => h9) rfl (tyX12_ok 9 (by decide)) rfl rfl (by show 9 < tl.length + 13; omega) dX12_next_285 (fun H locs hH hS => ?_)
                        have hH : HT D cs A T (y3 :: a0 :: O) ((y3, .inl (cs.2.1, 900, .inl f3)) :: (a0, .inr (12, o0 :: o1 :: o2 :: (.ref y3) :: (.ref y4) :: o5 :: (.int f8_206) :: (.int v242) :: (.int y8) :: (.int v284) :: (.int y10) :: (.int y11) :: (.int y12) :: tl)) :: X) H := hH
                        exact J288 v284 _ _ _ (by omega) (by omega) hH hS (lv_sub hl [0, 1] rfl)
                refine lv_istore_n (lv' := [(1, .int 0), (0, .ref a0)]) hx hb dX12_next_253 rfl hl (by decide) rfl (fun ls hl => ?_)
                exact J254 _ 0 23 _ _ _ rfl (by decide) (by decide) (by decide) (by decide) hH hS (lv_sub hl [0, 1] rfl)
              · skip
                have tc138 := f_ne (k := 0) (by decide) c138
                refine lv_aload_n hx hb dX12_next_141 rfl (lv_at hl 0 rfl) ?_
                refine lv_iconst (v := 0) hx hb dX12_next_142 (by decide) ?_
                have J146 : ∀ (n : Nat) (f146_207 : Int32) (f146_210 : Int32) (H : Heap) (locs : List Loc) (ls : Array Slot), (900 - f146_207.toInt).toNat = n → (0 ≤ f146_207.toInt) → (f146_207.toInt ≤ 900) → (0 ≤ f146_210.toInt) → (f146_210.toInt ≤ 999) → (v135.toInt ≠ 0) → (f8_206.toInt ≤ f146_207.toInt ∧ f146_207.toInt ≤ y8.toInt) → (((f146_207.toInt - f8_206.toInt) = 0 ∧ f146_210.toInt = 0) ∨ ((f146_207.toInt - f8_206.toInt) = 1 ∧ 0 ≤ f146_210.toInt ∧ f146_210.toInt ≤ 9) ∨ ((f146_207.toInt - f8_206.toInt) = 2 ∧ 0 ≤ f146_210.toInt ∧ f146_210.toInt ≤ 99) ∨ (3 ≤ (f146_207.toInt - f8_206.toInt) ∧ 0 ≤ f146_210.toInt ∧ f146_210.toInt ≤ 999)) → HT D cs A T (y3 :: a0 :: O) ((y3, .inl (cs.2.1, 900, .inl f3)) :: (a0, .inr (12, o0 :: o1 :: o2 :: (.ref y3) :: (.ref y4) :: o5 :: (.int f8_206) :: (.int f146_207) :: (.int y8) :: (.int y9) :: (.int f146_210) :: (.int y11) :: (.int y12) :: tl)) :: X) H → va_S A s.heap H locs → lv_has ls 2 [(0, .ref a0)] → W p l e { frames := 5, cells := 0, slots := 0, locals := 108 } s m [.ref a0].toArray below meth c H locs 0 0 (MQ below (Tv D cs (fun u => ∃ (n0_6 : Int32) (n0_7 : Int32) (n0_9 : Int32) (n0_10 : Int32), u = (T, a0 :: O, (a0, .inr (12, o0 :: o1 :: o2 :: (.ref y3) :: (.ref y4) :: o5 :: (.int n0_6) :: (.int n0_7) :: (.int y8) :: (.int n0_9) :: (.int n0_10) :: (.int y11) :: (.int y12) :: tl)) :: X) ∧ (y7.toInt ≤ n0_6.toInt) ∧ (n0_6.toInt ≤ n0_7.toInt) ∧ (n0_7.toInt ≤ y8.toInt) ∧ (TK3 n0_9 n0_6 n0_7) ∧ (0 ≤ n0_10.toInt) ∧ (n0_10.toInt ≤ 999)) A) [.ref a0].toArray s 0 0 A) (F0 m 146 ls []) := by
                  intro n
                  induction n using Nat.strongRecOn with
                  | _ n ih146 =>
                    intro f146_207 f146_210 H locs ls hm146 l_f146_207 u_f146_207 l_f146_210 u_f146_210 j146 i146 d146 hH hS hl
                    refine lv_aload_n hx hb dX12_next_146 rfl (lv_at hl 0 rfl) ?_
                    refine lv_aload_n hx hb dX12_next_147 rfl (lv_at hl 0 rfl) ?_
                    refine x_getk (ci := 12) (C := RX12) (F := TX12) (N := 36) (v := .int f146_207) hx hb hts uX12 hown hkb hH 1 rfl rfl 7 (by decide) rfl kw_1230 (fun _ h9 => h9) dX12_next_148 ?_
                    refine tk_i hH hS hA (tr_V (n := 1) (As := [.int f146_207]) hx hb hml hown hts hkb hH (ox_c (ox_map hOX rfl)) hks hE hS hA (s_M_see l D cs kf T O X a0 hg mq f146_207 f3 o0 o1 o2 y3 y4 o5 f8_206 f146_207 y8 y9 f146_210 y11 y12 tl t_a0 b_hg (by omega) t_y3 t_y4 (by omega) (by omega) (by omega) (by omega) (by omega) (by omega) (by omega) (by omega) (hO.sub (by decide))) kw_1348 kw_1350 ks_44 kw_13 kw_1351 (by decide +kernel) ⟨Nat.le_of_ble_eq_true rfl, Nat.le_of_ble_eq_true rfl⟩ (x_recv (ci := 12) hkb hH 1 rfl rfl) rfl rfl hl.1 (Nat.le_of_ble_eq_true rfl) dX12_next_151 ⟨Nat.le_of_ble_eq_true rfl, Nat.le_of_ble_eq_true rfl⟩) (fun v151 u H locs hz9 hH hS => ?_)
                    obtain ⟨rfl, x_v1510, x_v1511⟩ := hz9
                    have hH : HT D cs A T (y3 :: a0 :: O) ((y3, .inl (cs.2.1, 900, .inl f3)) :: (a0, .inr (12, o0 :: o1 :: o2 :: (.ref y3) :: (.ref y4) :: o5 :: (.int f8_206) :: (.int f146_207) :: (.int y8) :: (.int y9) :: (.int f146_210) :: (.int y11) :: (.int y12) :: tl)) :: X) H := hH
                    refine W.widen (k := 0) (n := 0) (Nat.le_of_ble_eq_true rfl) (Nat.le_of_ble_eq_true rfl) ?_
                    refine tk_i hH hS hA (tr_S (n := 1) (As := [.int v151]) hx hb hml hown hts hkb hH (ox_c (ox_map hOX rfl)) hks hE hS hA (s_M_isDigit2 l D cs kf T (y3 :: a0 :: O) ((y3, .inl (cs.2.1, 900, .inl f3)) :: (a0, .inr (12, o0 :: o1 :: o2 :: (.ref y3) :: (.ref y4) :: o5 :: (.int f8_206) :: (.int f146_207) :: (.int y8) :: (.int y9) :: (.int f146_210) :: (.int y11) :: (.int y12) :: tl)) :: X) v151  (hO.sub (by decide))) kw_1362 kw_1363 kw_13 kw_1364 (by decide +kernel) ⟨Nat.le_of_ble_eq_true rfl, Nat.le_of_ble_eq_true rfl⟩ rfl rfl hl.1 (Nat.le_of_ble_eq_true rfl) dX12_next_154 ⟨Nat.le_of_ble_eq_true rfl, Nat.le_of_ble_eq_true rfl⟩) (fun v154 u H locs hz9 hH hS => ?_)
                    obtain ⟨rfl, l_v154, u_v154, x_v1540, x_v1541⟩ := hz9
                    have hH : HT D cs A T (y3 :: a0 :: O) ((y3, .inl (cs.2.1, 900, .inl f3)) :: (a0, .inr (12, o0 :: o1 :: o2 :: (.ref y3) :: (.ref y4) :: o5 :: (.int f8_206) :: (.int f146_207) :: (.int y8) :: (.int y9) :: (.int f146_210) :: (.int y11) :: (.int y12) :: tl)) :: X) H := hH
                    refine W.widen (k := 0) (n := 0) (Nat.le_of_ble_eq_true rfl) (Nat.le_of_ble_eq_true rfl) ?_
                    refine lv_if_eq (tgt := 209) hx hb dX12_next_157 (by decide) (fun c157 => ?_) (fun c157 => ?_)
                    · skip
                      have tc157 := f_eq (k := 0) (by decide) c157
                      have hq : f8_206.toInt ≠ f146_207.toInt := fun q => by have := see_same x_v1320 x_v1510 q; omega
                      refine lv_aload_n hx hb dX12_next_209 rfl (lv_at hl 0 rfl) ?_
                      refine lv_aload_n hx hb dX12_next_210 rfl (lv_at hl 0 rfl) ?_
                      refine x_getk (ci := 12) (C := RX12) (F := TX12) (N := 36) (v := .int f146_207) hx hb hts uX12 hown hkb hH 1 rfl rfl 7 (by decide) rfl kw_1230 (fun _ h9 => h9) dX12_next_211 ?_
                      refine lv_aload_n hx hb dX12_next_214 rfl (lv_at hl 0 rfl) ?_
                      refine x_getk (ci := 12) (C := RX12) (F := TX12) (N := 36) (v := .int f8_206) hx hb hts uX12 hown hkb hH 1 rfl rfl 6 (by decide) rfl kw_1229 (fun _ h9 => h9) dX12_next_215 ?_
                      refine lv_isub hx hb dX12_next_218 ?_
                      refine lv_topi (fun v218 ev218 => ?_)
                      have tv218 : v218.toInt = f146_207.toInt - f8_206.toInt := by rw [ev218]; exact sub_i rfl rfl (by omega) (by omega)
                      refine lv_iconst (v := 3) hx hb dX12_next_219 (by decide) ?_
                      have J230 : ∀ (k230_0 : Int32) (H : Heap) (locs : List Loc) (ls : Array Slot), (21 ≤ k230_0.toInt) → (k230_0.toInt ≤ 23) → HT D cs A T (y3 :: a0 :: O) ((y3, .inl (cs.2.1, 900, .inl f3)) :: (a0, .inr (12, o0 :: o1 :: o2 :: (.ref y3) :: (.ref y4) :: o5 :: (.int f8_206) :: (.int f146_207) :: (.int y8) :: (.int y9) :: (.int f146_210) :: (.int y11) :: (.int y12) :: tl)) :: X) H → va_S A s.heap H locs → lv_has ls 2 [] → W p l e { frames := 5, cells := 0, slots := 0, locals := 108 } s m [.ref a0].toArray below meth c H locs 0 0 (MQ below (Tv D cs (fun u => ∃ (n0_6 : Int32) (n0_7 : Int32) (n0_9 : Int32) (n0_10 : Int32), u = (T, a0 :: O, (a0, .inr (12, o0 :: o1 :: o2 :: (.ref y3) :: (.ref y4) :: o5 :: (.int n0_6) :: (.int n0_7) :: (.int y8) :: (.int n0_9) :: (.int n0_10) :: (.int y11) :: (.int y12) :: tl)) :: X) ∧ (y7.toInt ≤ n0_6.toInt) ∧ (n0_6.toInt ≤ n0_7.toInt) ∧ (n0_7.toInt ≤ y8.toInt) ∧ (TK3 n0_9 n0_6 n0_7) ∧ (0 ≤ n0_10.toInt) ∧ (n0_10.toInt ≤ 999)) A) [.ref a0].toArray s 0 0 A) (F0 m 230 ls [.int k230_0, .ref a0]) := by
                        intro k230_0 H locs ls l_k230_0 u_k230_0 hH hS hl
                        refine x_putk (ci := 12) (v := .int k230_0) (ty := tyX12 9) (C := RX12) (F := TX12) (N := 36) hx hb hts uX12 tyX12 tyX12_ok nmX12 hown hkb hH hS 1 rfl rfl 9 (by decide) kw_1232 (fun _ h9 => h9) rfl (tyX12_ok 9 (by decide)) rfl rfl (by show 9 < tl.length + 13; omega) dX12_next_230 (fun H locs hH hS => ?_)
                        have hH : HT D cs A T (y3 :: a0 :: O) ((y3, .inl (cs.2.1, 900, .inl f3)) :: (a0, .inr (12, o0 :: o1 :: o2 :: (.ref y3) :: (.ref y4) :: o5 :: (.int f8_206) :: (.int f146_207) :: (.int y8) :: (.int k230_0) :: (.int f146_210) :: (.int y11) :: (.int y12) :: tl)) :: X) H := hH
                        refine lv_goto (tgt := 294) hx hb dX12_next_233 (by decide) ?_
                        have hH : HT D cs A T (a0 :: O) ((a0, .inr (12, o0 :: o1 :: o2 :: (.ref y3) :: (.ref y4) :: o5 :: (.int f8_206) :: (.int f146_207) :: (.int y8) :: (.int k230_0) :: (.int f146_210) :: (.int y11) :: (.int y12) :: tl)) :: X) H := HT.layA hH t_y3 (show sp cs T (1, 900, 0) _ from ⟨f3, rfl, fun _ => cp_0 _⟩)
                        exact te_v hx hb hr hlocks hH hS (⟨f8_206, f146_207, k230_0, f146_210, rfl, by omega, by omega, by omega, (fun q => by omega), by omega, by omega⟩) dX12_next_294
                      refine lv_icmp_le (tgt := 228) hx hb dX12_next_220 (by decide) (fun c220 => ?_) (fun c220 => ?_)
                      · skip
                        have tc220 := f_le (k := 3) (by decide) c220
                        refine lv_bipush (v := 21) hx hb dX12_next_228 (by decide) ?_
                        exact J230 21 _ _ _ (by decide) (by decide) hH hS (lv_sub hl [] rfl)
                      · skip
                        have tc220 := f_nle (k := 3) (by decide) c220
                        refine lv_bipush (v := 23) hx hb dX12_next_223 (by decide) ?_
                        refine lv_goto (tgt := 230) hx hb dX12_next_225 (by decide) ?_
                        exact J230 23 _ _ _ (by decide) (by decide) hH hS (lv_sub hl [] rfl)
                    · skip
                      have tc157 := f_ne (k := 0) (by decide) c157
                      refine lv_aload_n hx hb dX12_next_160 rfl (lv_at hl 0 rfl) ?_
                      refine x_getk (ci := 12) (C := RX12) (F := TX12) (N := 36) (v := .int f146_207) hx hb hts uX12 hown hkb hH 1 rfl rfl 7 (by decide) rfl kw_1230 (fun _ h9 => h9) dX12_next_161 ?_
                      refine lv_aload_n hx hb dX12_next_164 rfl (lv_at hl 0 rfl) ?_
                      refine x_getk (ci := 12) (C := RX12) (F := TX12) (N := 36) (v := .int f8_206) hx hb hts uX12 hown hkb hH 1 rfl rfl 6 (by decide) rfl kw_1229 (fun _ h9 => h9) dX12_next_165 ?_
                      refine lv_isub hx hb dX12_next_168 ?_
                      refine lv_topi (fun v168 ev168 => ?_)
                      have tv168 : v168.toInt = f146_207.toInt - f8_206.toInt := by rw [ev168]; exact sub_i rfl rfl (by omega) (by omega)
                      refine lv_iconst (v := 3) hx hb dX12_next_169 (by decide) ?_
                      have J196 : ∀ (f196_210 : Int32) (H : Heap) (locs : List Loc) (ls : Array Slot), (0 ≤ f196_210.toInt) → (f196_210.toInt ≤ 9999) → (((f146_207.toInt + 1 - f8_206.toInt) = 0 ∧ f196_210.toInt = 0) ∨ ((f146_207.toInt + 1 - f8_206.toInt) = 1 ∧ 0 ≤ f196_210.toInt ∧ f196_210.toInt ≤ 9) ∨ ((f146_207.toInt + 1 - f8_206.toInt) = 2 ∧ 0 ≤ f196_210.toInt ∧ f196_210.toInt ≤ 99) ∨ (3 ≤ (f146_207.toInt + 1 - f8_206.toInt) ∧ 0 ≤ f196_210.toInt ∧ f196_210.toInt ≤ 999)) → HT D cs A T (y3 :: a0 :: O) ((y3, .inl (cs.2.1, 900, .inl f3)) :: (a0, .inr (12, o0 :: o1 :: o2 :: (.ref y3) :: (.ref y4) :: o5 :: (.int f8_206) :: (.int f146_207) :: (.int y8) :: (.int y9) :: (.int f196_210) :: (.int y11) :: (.int y12) :: tl)) :: X) H → va_S A s.heap H locs → lv_has ls 2 [(0, .ref a0)] → W p l e { frames := 5, cells := 0, slots := 0, locals := 108 } s m [.ref a0].toArray below meth c H locs 0 0 (MQ below (Tv D cs (fun u => ∃ (n0_6 : Int32) (n0_7 : Int32) (n0_9 : Int32) (n0_10 : Int32), u = (T, a0 :: O, (a0, .inr (12, o0 :: o1 :: o2 :: (.ref y3) :: (.ref y4) :: o5 :: (.int n0_6) :: (.int n0_7) :: (.int y8) :: (.int n0_9) :: (.int n0_10) :: (.int y11) :: (.int y12) :: tl)) :: X) ∧ (y7.toInt ≤ n0_6.toInt) ∧ (n0_6.toInt ≤ n0_7.toInt) ∧ (n0_7.toInt ≤ y8.toInt) ∧ (TK3 n0_9 n0_6 n0_7) ∧ (0 ≤ n0_10.toInt) ∧ (n0_10.toInt ≤ 999)) A) [.ref a0].toArray s 0 0 A) (F0 m 196 ls []) := by
                        intro f196_210 H locs ls l_f196_210 u_f196_210 d196 hH hS hl
                        refine lv_aload_n hx hb dX12_next_196 rfl (lv_at hl 0 rfl) ?_
                        refine lv_dup hx hb dX12_next_197 rfl ?_
                        refine x_getk (ci := 12) (C := RX12) (F := TX12) (N := 36) (v := .int f146_207) hx hb hts uX12 hown hkb hH 1 rfl rfl 7 (by decide) rfl kw_1230 (fun _ h9 => h9) dX12_next_198 ?_
                        refine lv_iconst (v := 1) hx hb dX12_next_201 (by decide) ?_
                        refine lv_iadd hx hb dX12_next_202 ?_
                        refine lv_topi (fun v202 ev202 => ?_)
                        have tv202 : v202.toInt = f146_207.toInt + (1) := by rw [ev202]; exact add_i rfl (by decide : (1 : Int32).toInt = 1) (by omega) (by omega)
                        refine x_putk (ci := 12) (v := .int v202) (ty := tyX12 7) (C := RX12) (F := TX12) (N := 36) hx hb hts uX12 tyX12 tyX12_ok nmX12 hown hkb hH hS 1 rfl rfl 7 (by decide) kw_1230 (fun _ h9 => h9) rfl (tyX12_ok 7 (by decide)) rfl rfl (by show 7 < tl.length + 13; omega) dX12_next_203 (fun H locs hH hS => ?_)
                        have hH : HT D cs A T (y3 :: a0 :: O) ((y3, .inl (cs.2.1, 900, .inl f3)) :: (a0, .inr (12, o0 :: o1 :: o2 :: (.ref y3) :: (.ref y4) :: o5 :: (.int f8_206) :: (.int v202) :: (.int y8) :: (.int y9) :: (.int f196_210) :: (.int y11) :: (.int y12) :: tl)) :: X) H := hH
                        refine lv_goto (tgt := 146) hx hb dX12_next_206 (by decide) ?_
                        exact ih146 _ (by omega) v202 f196_210 _ _ _ rfl (by omega) (by omega) (by omega) (by omega) (by omega) (by omega) (by omega) hH hS (lv_sub hl [0] rfl)
                      refine lv_icmp_ge (tgt := 196) hx hb dX12_next_170 (by decide) (fun c170 => ?_) (fun c170 => ?_)
                      · skip
                        have tc170 := f_ge (k := 3) (by decide) c170
                        exact J196 f146_210 _ _ _ (by omega) (by omega) (by omega) hH hS (lv_sub hl [0] rfl)
                      · skip
                        have tc170 := f_nge (k := 3) (by decide) c170
                        refine lv_aload_n hx hb dX12_next_173 rfl (lv_at hl 0 rfl) ?_
                        refine lv_bipush (v := 10) hx hb dX12_next_174 (by decide) ?_
                        refine lv_aload_n hx hb dX12_next_176 rfl (lv_at hl 0 rfl) ?_
                        refine x_getk (ci := 12) (C := RX12) (F := TX12) (N := 36) (v := .int f146_210) hx hb hts uX12 hown hkb hH 1 rfl rfl 10 (by decide) rfl kw_1233 (fun _ h9 => h9) dX12_next_177 ?_
                        refine lv_imul hx hb dX12_next_180 ?_
                        refine lv_topi (fun v180 ev180 => ?_)
                        have tv180 : v180.toInt = (10) * f146_210.toInt := by rw [ev180]; exact mul_i (by decide : (10 : Int32).toInt = 10) rfl (by omega) (by omega)
                        refine lv_aload_n hx hb dX12_next_181 rfl (lv_at hl 0 rfl) ?_
                        refine lv_aload_n hx hb dX12_next_182 rfl (lv_at hl 0 rfl) ?_
                        refine x_getk (ci := 12) (C := RX12) (F := TX12) (N := 36) (v := .int f146_207) hx hb hts uX12 hown hkb hH 1 rfl rfl 7 (by decide) rfl kw_1230 (fun _ h9 => h9) dX12_next_183 ?_
                        refine tk_i hH hS hA (tr_V (n := 1) (As := [.int f146_207]) hx hb hml hown hts hkb hH (ox_c (ox_map hOX rfl)) hks hE hS hA (s_M_see l D cs kf T O X a0 hg mq f146_207 f3 o0 o1 o2 y3 y4 o5 f8_206 f146_207 y8 y9 f146_210 y11 y12 tl t_a0 b_hg (by omega) t_y3 t_y4 (by omega) (by omega) (by omega) (by omega) (by omega) (by omega) (by omega) (by omega) (hO.sub (by decide))) kw_1348 kw_1350 ks_44 kw_13 kw_1351 (by decide +kernel) ⟨Nat.le_of_ble_eq_true rfl, Nat.le_of_ble_eq_true rfl⟩ (x_recv (ci := 12) hkb hH 1 rfl rfl) rfl rfl hl.1 (Nat.le_of_ble_eq_true rfl) dX12_next_186 ⟨Nat.le_of_ble_eq_true rfl, Nat.le_of_ble_eq_true rfl⟩) (fun v186 u H locs hz9 hH hS => ?_)
                        obtain ⟨rfl, x_v1860, x_v1861⟩ := hz9
                        have hH : HT D cs A T (y3 :: a0 :: O) ((y3, .inl (cs.2.1, 900, .inl f3)) :: (a0, .inr (12, o0 :: o1 :: o2 :: (.ref y3) :: (.ref y4) :: o5 :: (.int f8_206) :: (.int f146_207) :: (.int y8) :: (.int y9) :: (.int f146_210) :: (.int y11) :: (.int y12) :: tl)) :: X) H := hH
                        refine W.widen (k := 0) (n := 0) (Nat.le_of_ble_eq_true rfl) (Nat.le_of_ble_eq_true rfl) ?_
                        have hs9 := see_same x_v1860 x_v1510 rfl
                        have bs9 : 48 ≤ v186.toInt ∧ v186.toInt ≤ 57 := by omega
                        refine lv_iadd hx hb dX12_next_189 ?_
                        refine lv_topi (fun v189 ev189 => ?_)
                        have tv189 : v189.toInt = v180.toInt + v186.toInt := by rw [ev189]; exact add_i rfl rfl (by omega) (by omega)
                        refine lv_bipush (v := 48) hx hb dX12_next_190 (by decide) ?_
                        refine lv_isub hx hb dX12_next_192 ?_
                        refine lv_topi (fun v192 ev192 => ?_)
                        have tv192 : v192.toInt = v189.toInt - (48) := by rw [ev192]; exact sub_i rfl (by decide : (48 : Int32).toInt = 48) (by omega) (by omega)
                        refine x_putk (ci := 12) (v := .int v192) (ty := tyX12 10) (C := RX12) (F := TX12) (N := 36) hx hb hts uX12 tyX12 tyX12_ok nmX12 hown hkb hH hS 1 rfl rfl 10 (by decide) kw_1233 (fun _ h9 => h9) rfl (tyX12_ok 10 (by decide)) rfl rfl (by show 10 < tl.length + 13; omega) dX12_next_193 (fun H locs hH hS => ?_)
                        have hH : HT D cs A T (y3 :: a0 :: O) ((y3, .inl (cs.2.1, 900, .inl f3)) :: (a0, .inr (12, o0 :: o1 :: o2 :: (.ref y3) :: (.ref y4) :: o5 :: (.int f8_206) :: (.int f146_207) :: (.int y8) :: (.int y9) :: (.int v192) :: (.int y11) :: (.int y12) :: tl)) :: X) H := hH
                        exact J196 v192 _ _ _ (by omega) (by omega) (by omega) hH hS (lv_sub hl [0] rfl)
                refine x_putk (ci := 12) (v := .int 0) (ty := tyX12 10) (C := RX12) (F := TX12) (N := 36) hx hb hts uX12 tyX12 tyX12_ok nmX12 hown hkb hH hS 1 rfl rfl 10 (by decide) kw_1233 (fun _ h9 => h9) rfl (tyX12_ok 10 (by decide)) rfl rfl (by show 10 < tl.length + 13; omega) dX12_next_143 (fun H locs hH hS => ?_)
                have hH : HT D cs A T (y3 :: a0 :: O) ((y3, .inl (cs.2.1, 900, .inl f3)) :: (a0, .inr (12, o0 :: o1 :: o2 :: (.ref y3) :: (.ref y4) :: o5 :: (.int f8_206) :: (.int f8_206) :: (.int y8) :: (.int y9) :: (.int 0) :: (.int y11) :: (.int y12) :: tl)) :: X) H := hH
                have z_0 : (0 : Int32).toInt = 0 := by decide
                exact J146 _ f8_206 0 _ _ _ rfl (by omega) (by omega) (by decide) (by decide) (by omega) (by omega) (by omega) hH hS (lv_sub hl [0] rfl)
            · skip
              have tc86 := f_ne (k := 0) (by decide) c86
              exact J89 _ f8_206 _ _ _ rfl (by omega) (by omega) (by omega) (by omega) hH hS (lv_sub hl [0] rfl)
          · skip
            have fuc63 := full_i f8_206
            have fvc63 := full_i y8
            have tc63 := g_nlt c63
            refine lv_aload_n hx hb dX12_next_66 rfl (lv_at hl 0 rfl) ?_
            refine lv_bipush (v := 22) hx hb dX12_next_67 (by decide) ?_
            refine x_putk (ci := 12) (v := .int 22) (ty := tyX12 9) (C := RX12) (F := TX12) (N := 36) hx hb hts uX12 tyX12 tyX12_ok nmX12 hown hkb hH hS 1 rfl rfl 9 (by decide) kw_1232 (fun _ h9 => h9) rfl (tyX12_ok 9 (by decide)) rfl rfl (by show 9 < tl.length + 13; omega) dX12_next_69 (fun H locs hH hS => ?_)
            have hH : HT D cs A T (y3 :: a0 :: O) ((y3, .inl (cs.2.1, 900, .inl f3)) :: (a0, .inr (12, o0 :: o1 :: o2 :: (.ref y3) :: (.ref y4) :: o5 :: (.int f8_206) :: (.int f8_206) :: (.int y8) :: (.int 22) :: (.int y10) :: (.int y11) :: (.int y12) :: tl)) :: X) H := hH
            refine lv_goto (tgt := 294) hx hb dX12_next_72 (by decide) ?_
            have hH : HT D cs A T (a0 :: O) ((a0, .inr (12, o0 :: o1 :: o2 :: (.ref y3) :: (.ref y4) :: o5 :: (.int f8_206) :: (.int f8_206) :: (.int y8) :: (.int 22) :: (.int y10) :: (.int y11) :: (.int y12) :: tl)) :: X) H := HT.layA hH t_y3 (show sp cs T (1, 900, 0) _ from ⟨f3, rfl, fun _ => cp_0 _⟩)
            have z9_22 : (22 : Int32).toInt = 22 := by decide
            have z9_22 : (22 : Int32).toInt = 22 := by decide
            exact te_v hx hb hr hlocks hH hS (⟨f8_206, f8_206, (22 : Int32), y10, rfl, by omega, by omega, by omega, (fun q => by omega), by omega, by omega⟩) dX12_next_294
        · skip
          have tc31 := f_eq (k := 32) (by decide) c31
          refine lv_aload_n hx hb dX12_next_34 rfl (lv_at hl 0 rfl) ?_
          refine lv_dup hx hb dX12_next_35 rfl ?_
          refine x_getk (ci := 12) (C := RX12) (F := TX12) (N := 36) (v := .int f8_206) hx hb hts uX12 hown hkb hH 1 rfl rfl 6 (by decide) rfl kw_1229 (fun _ h9 => h9) dX12_next_36 ?_
          refine lv_iconst (v := 1) hx hb dX12_next_39 (by decide) ?_
          refine lv_iadd hx hb dX12_next_40 ?_
          refine lv_topi (fun v40 ev40 => ?_)
          have tv40 : v40.toInt = f8_206.toInt + (1) := by rw [ev40]; exact add_i rfl (by decide : (1 : Int32).toInt = 1) (by omega) (by omega)
          refine x_putk (ci := 12) (v := .int v40) (ty := tyX12 6) (C := RX12) (F := TX12) (N := 36) hx hb hts uX12 tyX12 tyX12_ok nmX12 hown hkb hH hS 1 rfl rfl 6 (by decide) kw_1229 (fun _ h9 => h9) rfl (tyX12_ok 6 (by decide)) rfl rfl (by show 6 < tl.length + 13; omega) dX12_next_41 (fun H locs hH hS => ?_)
          have hH : HT D cs A T (y3 :: a0 :: O) ((y3, .inl (cs.2.1, 900, .inl f3)) :: (a0, .inr (12, o0 :: o1 :: o2 :: (.ref y3) :: (.ref y4) :: o5 :: (.int v40) :: (.int y7) :: (.int y8) :: (.int y9) :: (.int y10) :: (.int y11) :: (.int y12) :: tl)) :: X) H := hH
          refine lv_goto (tgt := 8) hx hb dX12_next_44 (by decide) ?_
          exact ih8 _ (by omega) v40 _ _ _ rfl (by omega) (by omega) (by omega) hH hS (lv_sub hl [0] rfl)
  refine x_putk (ci := 12) (v := .int y7) (ty := tyX12 6) (C := RX12) (F := TX12) (N := 36) hx hb hts uX12 tyX12 tyX12_ok nmX12 hown hkb hH hS 1 rfl rfl 6 (by decide) kw_1229 (fun _ h9 => h9) rfl (tyX12_ok 6 (by decide)) rfl rfl (by show 6 < tl.length + 13; omega) dX12_next_5 (fun H locs hH hS => ?_)
  have hH : HT D cs A T (y3 :: a0 :: O) ((y3, .inl (cs.2.1, 900, .inl f3)) :: (a0, .inr (12, o0 :: o1 :: o2 :: (.ref y3) :: (.ref y4) :: o5 :: (.int y7) :: (.int y7) :: (.int y8) :: (.int y9) :: (.int y10) :: (.int y11) :: (.int y12) :: tl)) :: X) H := hH
  exact J8 _ y7 _ _ _ rfl (by omega) (by omega) (by omega) hH hS (lv_sub hl [0] rfl)
theorem dX12_wall_0 : decode cX12_wall 0 = .ok (.aload_n 0, 1) := by decide +kernel
theorem dX12_wall_1 : decode cX12_wall 1 = .ok (.iconst 0, 1) := by decide +kernel
theorem dX12_wall_2 : decode cX12_wall 2 = .ok (.putfield 1, 3) := by decide +kernel
theorem dX12_wall_5 : decode cX12_wall 5 = .ok (.iload_n 1, 1) := by decide +kernel
theorem dX12_wall_6 : decode cX12_wall 6 = .ok (.i2l, 1) := by decide +kernel
theorem dX12_wall_7 : decode cX12_wall 7 = .ok (.lconst 0, 1) := by decide +kernel
theorem dX12_wall_8 : decode cX12_wall 8 = .ok (.aload_n 0, 1) := by decide +kernel
theorem dX12_wall_9 : decode cX12_wall 9 = .ok (.getfield 82, 3) := by decide +kernel
theorem dX12_wall_12 : decode cX12_wall 12 = .ok (.i2l, 1) := by decide +kernel
theorem dX12_wall_13 : decode cX12_wall 13 = .ok (.invokestatic 144, 3) := by decide +kernel
theorem dX12_wall_16 : decode cX12_wall 16 = .ok (.ifCond .ne 6, 3) := by decide +kernel
theorem dX12_wall_19 : decode cX12_wall 19 = .ok (.bipush (-3), 2) := by decide +kernel
theorem dX12_wall_21 : decode cX12_wall 21 = .ok (.ireturn, 1) := by decide +kernel
theorem dX12_wall_22 : decode cX12_wall 22 = .ok (.aload_n 0, 1) := by decide +kernel
theorem dX12_wall_23 : decode cX12_wall 23 = .ok (.iload_n 1, 1) := by decide +kernel
theorem dX12_wall_24 : decode cX12_wall 24 = .ok (.putfield 85, 3) := by decide +kernel
theorem dX12_wall_27 : decode cX12_wall 27 = .ok (.aload_n 0, 1) := by decide +kernel
theorem dX12_wall_28 : decode cX12_wall 28 = .ok (.iconst 0, 1) := by decide +kernel
theorem dX12_wall_29 : decode cX12_wall 29 = .ok (.putfield 82, 3) := by decide +kernel
theorem dX12_wall_32 : decode cX12_wall 32 = .ok (.aload_n 0, 1) := by decide +kernel
theorem dX12_wall_33 : decode cX12_wall 33 = .ok (.iconst 0, 1) := by decide +kernel
theorem dX12_wall_34 : decode cX12_wall 34 = .ok (.putfield 103, 3) := by decide +kernel
theorem dX12_wall_37 : decode cX12_wall 37 = .ok (.aload_n 0, 1) := by decide +kernel
theorem dX12_wall_38 : decode cX12_wall 38 = .ok (.iconst 0, 1) := by decide +kernel
theorem dX12_wall_39 : decode cX12_wall 39 = .ok (.putfield 128, 3) := by decide +kernel
theorem dX12_wall_42 : decode cX12_wall 42 = .ok (.aload_n 0, 1) := by decide +kernel
theorem dX12_wall_43 : decode cX12_wall 43 = .ok (.getfield 24, 3) := by decide +kernel
theorem dX12_wall_46 : decode cX12_wall 46 = .ok (.invokestatic 78, 3) := by decide +kernel
theorem dX12_wall_49 : decode cX12_wall 49 = .ok (.aload_n 0, 1) := by decide +kernel
theorem dX12_wall_50 : decode cX12_wall 50 = .ok (.invokevirtual 137, 3) := by decide +kernel
theorem dX12_wall_53 : decode cX12_wall 53 = .ok (.aload_n 0, 1) := by decide +kernel
theorem dX12_wall_54 : decode cX12_wall 54 = .ok (.getfield 128, 3) := by decide +kernel
theorem dX12_wall_57 : decode cX12_wall 57 = .ok (.ifCond .ne 43, 3) := by decide +kernel
theorem dX12_wall_60 : decode cX12_wall 60 = .ok (.aload_n 0, 1) := by decide +kernel
theorem dX12_wall_61 : decode cX12_wall 61 = .ok (.getfield 110, 3) := by decide +kernel
theorem dX12_wall_64 : decode cX12_wall 64 = .ok (.bipush 22, 2) := by decide +kernel
theorem dX12_wall_66 : decode cX12_wall 66 = .ok (.if_icmp .eq 34, 3) := by decide +kernel
theorem dX12_wall_69 : decode cX12_wall 69 = .ok (.aload_n 0, 1) := by decide +kernel
theorem dX12_wall_70 : decode cX12_wall 70 = .ok (.invokevirtual 206, 3) := by decide +kernel
theorem dX12_wall_73 : decode cX12_wall 73 = .ok (.aload_n 0, 1) := by decide +kernel
theorem dX12_wall_74 : decode cX12_wall 74 = .ok (.bipush 30, 2) := by decide +kernel
theorem dX12_wall_76 : decode cX12_wall 76 = .ok (.invokevirtual 155, 3) := by decide +kernel
theorem dX12_wall_79 : decode cX12_wall 79 = .ok (.ifCond .ne 8, 3) := by decide +kernel
theorem dX12_wall_82 : decode cX12_wall 82 = .ok (.aload_n 0, 1) := by decide +kernel
theorem dX12_wall_83 : decode cX12_wall 83 = .ok (.iconst 2, 1) := by decide +kernel
theorem dX12_wall_84 : decode cX12_wall 84 = .ok (.invokevirtual 140, 3) := by decide +kernel
theorem dX12_wall_87 : decode cX12_wall 87 = .ok (.aload_n 0, 1) := by decide +kernel
theorem dX12_wall_88 : decode cX12_wall 88 = .ok (.getfield 24, 3) := by decide +kernel
theorem dX12_wall_91 : decode cX12_wall 91 = .ok (.iconst 0, 1) := by decide +kernel
theorem dX12_wall_92 : decode cX12_wall 92 = .ok (.dup2, 1) := by decide +kernel
theorem dX12_wall_93 : decode cX12_wall 93 = .ok (.iaload, 1) := by decide +kernel
theorem dX12_wall_94 : decode cX12_wall 94 = .ok (.iconst 1, 1) := by decide +kernel
theorem dX12_wall_95 : decode cX12_wall 95 = .ok (.iadd, 1) := by decide +kernel
theorem dX12_wall_96 : decode cX12_wall 96 = .ok (.iastore, 1) := by decide +kernel
theorem dX12_wall_97 : decode cX12_wall 97 = .ok (.goto (-44), 3) := by decide +kernel
theorem dX12_wall_100 : decode cX12_wall 100 = .ok (.aload_n 0, 1) := by decide +kernel
theorem dX12_wall_101 : decode cX12_wall 101 = .ok (.aload_n 0, 1) := by decide +kernel
theorem dX12_wall_102 : decode cX12_wall 102 = .ok (.getfield 128, 3) := by decide +kernel
theorem dX12_wall_105 : decode cX12_wall 105 = .ok (.putfield 209, 3) := by decide +kernel
theorem dX12_wall_108 : decode cX12_wall 108 = .ok (.aload_n 0, 1) := by decide +kernel
theorem dX12_wall_109 : decode cX12_wall 109 = .ok (.aload_n 0, 1) := by decide +kernel
theorem dX12_wall_110 : decode cX12_wall 110 = .ok (.getfield 128, 3) := by decide +kernel
theorem dX12_wall_113 : decode cX12_wall 113 = .ok (.ifCond .ne 7, 3) := by decide +kernel
theorem dX12_wall_116 : decode cX12_wall 116 = .ok (.iconst (-1), 1) := by decide +kernel
theorem dX12_wall_117 : decode cX12_wall 117 = .ok (.goto 7, 3) := by decide +kernel
theorem dX12_wall_120 : decode cX12_wall 120 = .ok (.aload_n 0, 1) := by decide +kernel
theorem dX12_wall_121 : decode cX12_wall 121 = .ok (.getfield 131, 3) := by decide +kernel
theorem dX12_wall_124 : decode cX12_wall 124 = .ok (.putfield 27, 3) := by decide +kernel
theorem dX12_wall_127 : decode cX12_wall 127 = .ok (.aload_n 0, 1) := by decide +kernel
theorem dX12_wall_128 : decode cX12_wall 128 = .ok (.getfield 128, 3) := by decide +kernel
theorem dX12_wall_131 : decode cX12_wall 131 = .ok (.ifCond .eq 11, 3) := by decide +kernel
theorem dX12_wall_134 : decode cX12_wall 134 = .ok (.bipush (-30), 2) := by decide +kernel
theorem dX12_wall_136 : decode cX12_wall 136 = .ok (.aload_n 0, 1) := by decide +kernel
theorem dX12_wall_137 : decode cX12_wall 137 = .ok (.getfield 128, 3) := by decide +kernel
theorem dX12_wall_140 : decode cX12_wall 140 = .ok (.isub, 1) := by decide +kernel
theorem dX12_wall_141 : decode cX12_wall 141 = .ok (.ireturn, 1) := by decide +kernel
theorem dX12_wall_142 : decode cX12_wall 142 = .ok (.iconst 0, 1) := by decide +kernel
theorem dX12_wall_143 : decode cX12_wall 143 = .ok (.istore_n 2, 1) := by decide +kernel
theorem dX12_wall_144 : decode cX12_wall 144 = .ok (.iload_n 2, 1) := by decide +kernel
theorem dX12_wall_145 : decode cX12_wall 145 = .ok (.sipush 1302, 3) := by decide +kernel
theorem dX12_wall_148 : decode cX12_wall 148 = .ok (.if_icmp .ge 21, 3) := by decide +kernel
theorem dX12_wall_151 : decode cX12_wall 151 = .ok (.aload_n 0, 1) := by decide +kernel
theorem dX12_wall_152 : decode cX12_wall 152 = .ok (.getfield 13, 3) := by decide +kernel
theorem dX12_wall_155 : decode cX12_wall 155 = .ok (.iload_n 2, 1) := by decide +kernel
theorem dX12_wall_156 : decode cX12_wall 156 = .ok (.aload_n 0, 1) := by decide +kernel
theorem dX12_wall_157 : decode cX12_wall 157 = .ok (.getfield 24, 3) := by decide +kernel
theorem dX12_wall_160 : decode cX12_wall 160 = .ok (.iload_n 2, 1) := by decide +kernel
theorem dX12_wall_161 : decode cX12_wall 161 = .ok (.iaload, 1) := by decide +kernel
theorem dX12_wall_162 : decode cX12_wall 162 = .ok (.iastore, 1) := by decide +kernel
theorem dX12_wall_163 : decode cX12_wall 163 = .ok (.iinc 2 1, 3) := by decide +kernel
theorem dX12_wall_166 : decode cX12_wall 166 = .ok (.goto (-22), 3) := by decide +kernel
theorem dX12_wall_169 : decode cX12_wall 169 = .ok (.iconst 0, 1) := by decide +kernel
theorem dX12_wall_170 : decode cX12_wall 170 = .ok (.istore_n 2, 1) := by decide +kernel
theorem dX12_wall_171 : decode cX12_wall 171 = .ok (.iload_n 2, 1) := by decide +kernel
theorem dX12_wall_172 : decode cX12_wall 172 = .ok (.aload_n 0, 1) := by decide +kernel
theorem dX12_wall_173 : decode cX12_wall 173 = .ok (.getfield 13, 3) := by decide +kernel
theorem dX12_wall_176 : decode cX12_wall 176 = .ok (.iconst 1, 1) := by decide +kernel
theorem dX12_wall_177 : decode cX12_wall 177 = .ok (.iaload, 1) := by decide +kernel
theorem dX12_wall_178 : decode cX12_wall 178 = .ok (.if_icmp .ge 38, 3) := by decide +kernel
theorem dX12_wall_181 : decode cX12_wall 181 = .ok (.aload_n 0, 1) := by decide +kernel
theorem dX12_wall_182 : decode cX12_wall 182 = .ok (.getfield 13, 3) := by decide +kernel
theorem dX12_wall_185 : decode cX12_wall 185 = .ok (.bipush 59, 2) := by decide +kernel
theorem dX12_wall_187 : decode cX12_wall 187 = .ok (.iload_n 2, 1) := by decide +kernel
theorem dX12_wall_188 : decode cX12_wall 188 = .ok (.iadd, 1) := by decide +kernel
theorem dX12_wall_189 : decode cX12_wall 189 = .ok (.iaload, 1) := by decide +kernel
theorem dX12_wall_190 : decode cX12_wall 190 = .ok (.iconst (-1), 1) := by decide +kernel
theorem dX12_wall_191 : decode cX12_wall 191 = .ok (.if_icmp .eq 19, 3) := by decide +kernel
theorem dX12_wall_194 : decode cX12_wall 194 = .ok (.aload_n 0, 1) := by decide +kernel
theorem dX12_wall_195 : decode cX12_wall 195 = .ok (.getfield 13, 3) := by decide +kernel
theorem dX12_wall_198 : decode cX12_wall 198 = .ok (.bipush 73, 2) := by decide +kernel
theorem dX12_wall_200 : decode cX12_wall 200 = .ok (.iload_n 2, 1) := by decide +kernel
theorem dX12_wall_201 : decode cX12_wall 201 = .ok (.iadd, 1) := by decide +kernel
theorem dX12_wall_202 : decode cX12_wall 202 = .ok (.aload_n 0, 1) := by decide +kernel
theorem dX12_wall_203 : decode cX12_wall 203 = .ok (.getfield 13, 3) := by decide +kernel
theorem dX12_wall_206 : decode cX12_wall 206 = .ok (.bipush 88, 2) := by decide +kernel
theorem dX12_wall_208 : decode cX12_wall 208 = .ok (.iaload, 1) := by decide +kernel
theorem dX12_wall_209 : decode cX12_wall 209 = .ok (.iastore, 1) := by decide +kernel
theorem dX12_wall_210 : decode cX12_wall 210 = .ok (.iinc 2 1, 3) := by decide +kernel
theorem dX12_wall_213 : decode cX12_wall 213 = .ok (.goto (-42), 3) := by decide +kernel
theorem dX12_wall_216 : decode cX12_wall 216 = .ok (.aload_n 0, 1) := by decide +kernel
theorem dX12_wall_217 : decode cX12_wall 217 = .ok (.getfield 13, 3) := by decide +kernel
theorem dX12_wall_220 : decode cX12_wall 220 = .ok (.iconst 0, 1) := by decide +kernel
theorem dX12_wall_221 : decode cX12_wall 221 = .ok (.iaload, 1) := by decide +kernel
theorem dX12_wall_222 : decode cX12_wall 222 = .ok (.ireturn, 1) := by decide +kernel
theorem kw_1220 : Cond.methodLink "FootholdWallModel" 78 yX12_plain ∈ gw := gw_of (tb_of 1220 (by decide +kernel)) (by decide +kernel)
theorem kw_1221 : Cond.static yX12_plain ∈ gw := gw_of (tb_of 1221 (by decide +kernel)) (by decide +kernel)
theorem kw_1222 : Cond.code yX12_plain cX12_plain 2 none ∈ gw := gw_of (tb_of 1222 (by decide +kernel)) (by decide +kernel)
theorem kw_1366 : Cond.methodLink "FootholdWallModel" 206 yX12_readLine ∈ gw := gw_of (tb_of 1366 (by decide +kernel)) (by decide +kernel)
theorem kw_1368 : Cond.instanceMethod yX12_readLine ∈ gw := gw_of (tb_of 1368 (by decide +kernel)) (by decide +kernel)
theorem kw_1369 : Cond.code yX12_readLine cX12_readLine 2 none ∈ gw := gw_of (tb_of 1369 (by decide +kernel)) (by decide +kernel)
theorem ks_46 : Cond.selects RX12 yX12_readLine yX12_readLine ∈ gw := gw_of (pv_of 46 (by decide +kernel)) (by decide +kernel)
set_option maxHeartbeats 4000000 in
set_option maxRecDepth 100000 in
theorem s_M_wall (l : Launch) (D : va_G) (cs : CS) (kf : KF) (T : TF) (O : List Nat) (X : va_W) (a0 hg mq : Nat) (x1 : Int32) (t_a0 : T a0 = some (22, hg, mq)) (b_hg : hg < 90) (hU : ∀ (b : Nat) (tg : Tg), T b = some tg → tg.1 = 22 → b = a0) (hO : okO T O [1, 8, 22]) : TK l D cs kf yX12_wall cX12_wall 3 (some (.int)) { frames := 33, cells := 0, slots := 0, locals := 703 } [.ref a0, .int x1] T O X (Ti D cs (fun r u => ∃ (T2 : TF) (hg2 : Nat), u = (T2, O, X) ∧ (Trm T T2 a0) ∧ (T2 a0 = some (22, hg2, mq)) ∧ (hg2 < 90))) := by
  refine tk_of (by decide) (Nat.le_of_ble_eq_true rfl) (fun p e s m below meth c ls A H locs hx hb hr hml hown hts hlocks hnm hkb hH hS hA hOX hks hE hl => ?_)
  have hown : s.vm.findClass RX12 = some m.cls := hown
  have hl : lv_has ls 3 [(0, .ref a0), (1, .int x1)] := hl
  have hO0 := hO
  obtain ⟨fs9, ho9, hH⟩ := hH.take t_a0 (hO0.no t_a0 (by decide))
  have hp0 : okL T (ft12 hg mq) fs9 := ho9
  clear ho9
  obtain ⟨v9, fs9, rfl, h9, hp1⟩ := okL_i hp0
  obtain ⟨q0_0, rfl⟩ := h9
  obtain ⟨v9, fs9, rfl, h9, hp2⟩ := okL_i hp1
  obtain ⟨q0_1, rfl, t_q0_1⟩ := h9
  obtain ⟨v9, fs9, rfl, h9, hp3⟩ := okL_i hp2
  obtain ⟨q0_2, rfl, t_q0_2⟩ := h9
  obtain ⟨v9, fs9, rfl, h9, hp4⟩ := okL_i hp3
  obtain ⟨q0_3, rfl, t_q0_3⟩ := h9
  obtain ⟨v9, fs9, rfl, h9, hp5⟩ := okL_i hp4
  obtain ⟨q0_4, rfl, t_q0_4⟩ := h9
  obtain ⟨v9, fs9, rfl, h9, hp6⟩ := okL_i hp5
  obtain ⟨q0_5, rfl, l_q0_5, u_q0_5⟩ := h9
  obtain ⟨v9, fs9, rfl, h9, hp7⟩ := okL_i hp6
  obtain ⟨q0_6, rfl⟩ := h9
  obtain ⟨v9, fs9, rfl, h9, hp8⟩ := okL_i hp7
  obtain ⟨q0_7, rfl⟩ := h9
  obtain ⟨v9, fs9, rfl, h9, hp9⟩ := okL_i hp8
  obtain ⟨q0_8, rfl⟩ := h9
  obtain ⟨v9, fs9, rfl, h9, hp10⟩ := okL_i hp9
  obtain ⟨q0_9, rfl⟩ := h9
  obtain ⟨v9, fs9, rfl, h9, hp11⟩ := okL_i hp10
  obtain ⟨q0_10, rfl, l_q0_10, u_q0_10⟩ := h9
  obtain ⟨v9, fs9, rfl, h9, hp12⟩ := okL_i hp11
  obtain ⟨q0_11, rfl⟩ := h9
  obtain ⟨v9, fs9, rfl, h9, hp13⟩ := okL_i hp12
  obtain ⟨q0_12, rfl⟩ := h9
  obtain ⟨v9, fs9, rfl, h9, hp14⟩ := okL_i hp13
  obtain ⟨q0_13, rfl⟩ := h9
  obtain ⟨v9, fs9, rfl, h9, hp15⟩ := okL_i hp14
  obtain ⟨q0_14, rfl⟩ := h9
  obtain ⟨v9, fs9, rfl, h9, hp16⟩ := okL_i hp15
  obtain ⟨q0_15, rfl, t_q0_15⟩ := h9
  obtain ⟨v9, fs9, rfl, h9, hp17⟩ := okL_i hp16
  obtain ⟨q0_16, rfl⟩ := h9
  obtain ⟨v9, fs9, rfl, h9, hp18⟩ := okL_i hp17
  obtain ⟨q0_17, rfl, t_q0_17⟩ := h9
  obtain ⟨v9, fs9, rfl, h9, hp19⟩ := okL_i hp18
  obtain ⟨q0_18, rfl, t_q0_18⟩ := h9
  obtain ⟨v9, fs9, rfl, h9, hp20⟩ := okL_i hp19
  obtain ⟨q0_19, rfl, t_q0_19⟩ := h9
  obtain ⟨v9, fs9, rfl, h9, hp21⟩ := okL_i hp20
  obtain ⟨q0_20, rfl, l_q0_20, u_q0_20⟩ := h9
  obtain ⟨v9, fs9, rfl, h9, hp22⟩ := okL_i hp21
  obtain ⟨q0_21, rfl, t_q0_21⟩ := h9
  obtain ⟨v9, fs9, rfl, h9, hp23⟩ := okL_i hp22
  obtain ⟨q0_22, rfl, t_q0_22⟩ := h9
  obtain ⟨v9, fs9, rfl, h9, hp24⟩ := okL_i hp23
  obtain ⟨q0_23, rfl⟩ := h9
  obtain ⟨v9, fs9, rfl, h9, hp25⟩ := okL_i hp24
  obtain ⟨q0_24, rfl⟩ := h9
  obtain ⟨v9, fs9, rfl, h9, hp26⟩ := okL_i hp25
  obtain ⟨q0_25, rfl⟩ := h9
  obtain ⟨v9, fs9, rfl, h9, hp27⟩ := okL_i hp26
  obtain ⟨q0_26, rfl, t_q0_26⟩ := h9
  obtain ⟨v9, fs9, rfl, h9, hp28⟩ := okL_i hp27
  obtain ⟨q0_27, rfl, t_q0_27⟩ := h9
  obtain ⟨v9, fs9, rfl, h9, hp29⟩ := okL_i hp28
  obtain ⟨q0_28, rfl, t_q0_28⟩ := h9
  obtain ⟨v9, fs9, rfl, h9, hp30⟩ := okL_i hp29
  obtain ⟨q0_29, rfl, t_q0_29⟩ := h9
  obtain ⟨v9, fs9, rfl, h9, hp31⟩ := okL_i hp30
  obtain ⟨q0_30, rfl, t_q0_30⟩ := h9
  obtain ⟨v9, fs9, rfl, h9, hp32⟩ := okL_i hp31
  obtain ⟨q0_31, rfl, t_q0_31⟩ := h9
  obtain ⟨v9, fs9, rfl, h9, hp33⟩ := okL_i hp32
  obtain ⟨q0_32, rfl⟩ := h9
  obtain ⟨v9, fs9, rfl, h9, hp34⟩ := okL_i hp33
  obtain ⟨q0_33, rfl, t_q0_33⟩ := h9
  obtain ⟨v9, fs9, rfl, h9, hp35⟩ := okL_i hp34
  obtain ⟨q0_34, rfl, t_q0_34⟩ := h9
  obtain ⟨v9, fs9, rfl, h9, hp36⟩ := okL_i hp35
  obtain ⟨q0_35, rfl, t_q0_35⟩ := h9
  have hpz := okL_z hp36
  subst hpz
  have hH : HT D cs A T (a0 :: O) ((a0, .inr (12, [.int q0_0, .ref q0_1, .ref q0_2, .ref q0_3, .ref q0_4, .int q0_5, .int q0_6, .int q0_7, .int q0_8, .int q0_9, .int q0_10, .int q0_11, .int q0_12, .int q0_13, .int q0_14, .ref q0_15, .int q0_16, .ref q0_17, .ref q0_18, .ref q0_19, .int q0_20, .ref q0_21, .ref q0_22, .int q0_23, .int q0_24, .int q0_25, .ref q0_26, .ref q0_27, .ref q0_28, .ref q0_29, .ref q0_30, .ref q0_31, .int q0_32, .ref q0_33, .ref q0_34, .ref q0_35])) :: X) H := hH
  have hO : okO T (a0 :: O) [1, 8] := okO.cons (hO0.sub (by decide)) t_a0 (by decide)
  obtain ⟨e9, hs9, hH⟩ := HT.takeA hH t_q0_4 (nm_c (tag_ne t_q0_4 t_a0 (by first | decide | exact fun q => absurd (show 8 = 22 from congrArg Prod.fst q) (by decide))) (hO0.no t_q0_4 (by decide)))
  obtain ⟨f4, rfl, s_f4, -⟩ : ∃ f : Nat → Int32, e9 = .inl (cs.2.1, 1302, .inl f) ∧ B8 1302 f ∧ (1302 = 3906 → f 1 = nI (0 / 6) ∧ f 2 = nI (0 % 6)) := hs9
  have s_f4 := S8_of s_f4
  have hO : okO T (q0_4 :: a0 :: O) [1] := okO.cons (hO.sub (by decide)) t_q0_4 (by decide)
  have hH : HT D cs A T (a0 :: q0_4 :: O) ((a0, .inr (12, [.int q0_0, .ref q0_1, .ref q0_2, .ref q0_3, .ref q0_4, .int q0_5, .int q0_6, .int q0_7, .int q0_8, .int q0_9, .int q0_10, .int q0_11, .int q0_12, .int q0_13, .int q0_14, .ref q0_15, .int q0_16, .ref q0_17, .ref q0_18, .ref q0_19, .int q0_20, .ref q0_21, .ref q0_22, .int q0_23, .int q0_24, .int q0_25, .ref q0_26, .ref q0_27, .ref q0_28, .ref q0_29, .ref q0_30, .ref q0_31, .int q0_32, .ref q0_33, .ref q0_34, .ref q0_35])) :: (q0_4, .inl (cs.2.1, 1302, .inl f4)) :: X) H := HT.swap hH
  have hO := okO.swap hO
  refine lv_aload_n hx hb dX12_wall_0 rfl (lv_at hl 0 rfl) ?_
  refine lv_iconst (v := 0) hx hb dX12_wall_1 (by decide) ?_
  refine x_putk (ci := 12) (v := .int 0) (ty := tyX12 0) (C := RX12) (F := TX12) (N := 36) hx hb hts uX12 tyX12 tyX12_ok nmX12 hown hkb hH hS 0 rfl rfl 0 (by decide) kw_1223 (fun _ h9 => h9) rfl (tyX12_ok 0 (by decide)) rfl rfl (Nat.le_of_ble_eq_true rfl) dX12_wall_2 (fun H locs hH hS => ?_)
  have hH : HT D cs A T (a0 :: q0_4 :: O) ((a0, .inr (12, [.int 0, .ref q0_1, .ref q0_2, .ref q0_3, .ref q0_4, .int q0_5, .int q0_6, .int q0_7, .int q0_8, .int q0_9, .int q0_10, .int q0_11, .int q0_12, .int q0_13, .int q0_14, .ref q0_15, .int q0_16, .ref q0_17, .ref q0_18, .ref q0_19, .int q0_20, .ref q0_21, .ref q0_22, .int q0_23, .int q0_24, .int q0_25, .ref q0_26, .ref q0_27, .ref q0_28, .ref q0_29, .ref q0_30, .ref q0_31, .int q0_32, .ref q0_33, .ref q0_34, .ref q0_35])) :: (q0_4, .inl (cs.2.1, 1302, .inl f4)) :: X) H := hH
  refine lv_iload_n hx hb dX12_wall_5 rfl (lv_at hl 1 rfl) ?_
  refine lv_i2l hx hb dX12_wall_6 rfl ?_
  refine lv_lconst (v := 0) hx hb dX12_wall_7 (by decide) ?_
  refine lv_aload_n hx hb dX12_wall_8 rfl (lv_at hl 0 rfl) ?_
  refine x_getk (ci := 12) (C := RX12) (F := TX12) (N := 36) (v := .int q0_5) hx hb hts uX12 hown hkb hH 0 rfl rfl 5 (by decide) rfl kw_1228 (fun _ h9 => h9) dX12_wall_9 ?_
  refine lv_i2l hx hb dX12_wall_12 rfl ?_
  refine tk_i hH hS hA (tr_S (n := 3) (As := [.long x1.toInt64, .long 0, .long q0_5.toInt64]) hx hb hml hown hts hkb hH (ox_c (ox_c hOX)) hks hE hS hA (s_M_within l D cs kf T (a0 :: q0_4 :: O) ((a0, .inr (12, [.int 0, .ref q0_1, .ref q0_2, .ref q0_3, .ref q0_4, .int q0_5, .int q0_6, .int q0_7, .int q0_8, .int q0_9, .int q0_10, .int q0_11, .int q0_12, .int q0_13, .int q0_14, .ref q0_15, .int q0_16, .ref q0_17, .ref q0_18, .ref q0_19, .int q0_20, .ref q0_21, .ref q0_22, .int q0_23, .int q0_24, .int q0_25, .ref q0_26, .ref q0_27, .ref q0_28, .ref q0_29, .ref q0_30, .ref q0_31, .int q0_32, .ref q0_33, .ref q0_34, .ref q0_35])) :: (q0_4, .inl (cs.2.1, 1302, .inl f4)) :: X) x1.toInt64 0 q0_5.toInt64  (hO.sub (by decide))) kw_1341 kw_1342 kw_13 kw_1343 (by decide +kernel) ⟨Nat.le_of_ble_eq_true rfl, Nat.le_of_ble_eq_true rfl⟩ rfl rfl hl.1 (Nat.le_of_ble_eq_true rfl) dX12_wall_13 ⟨Nat.le_of_ble_eq_true rfl, Nat.le_of_ble_eq_true rfl⟩) (fun v13 u H locs hz9 hH hS => ?_)
  obtain ⟨rfl, l_v13, u_v13, x_v130, x_v131⟩ := hz9
  simp only [Int32.toInt_toInt64] at x_v130 x_v131
  have k9_0 : (0 : Int64).toInt = 0 := by decide
  have hH : HT D cs A T (a0 :: q0_4 :: O) ((a0, .inr (12, [.int 0, .ref q0_1, .ref q0_2, .ref q0_3, .ref q0_4, .int q0_5, .int q0_6, .int q0_7, .int q0_8, .int q0_9, .int q0_10, .int q0_11, .int q0_12, .int q0_13, .int q0_14, .ref q0_15, .int q0_16, .ref q0_17, .ref q0_18, .ref q0_19, .int q0_20, .ref q0_21, .ref q0_22, .int q0_23, .int q0_24, .int q0_25, .ref q0_26, .ref q0_27, .ref q0_28, .ref q0_29, .ref q0_30, .ref q0_31, .int q0_32, .ref q0_33, .ref q0_34, .ref q0_35])) :: (q0_4, .inl (cs.2.1, 1302, .inl f4)) :: X) H := hH
  refine W.widen (k := 0) (n := 0) (Nat.le_of_ble_eq_true rfl) (Nat.le_of_ble_eq_true rfl) ?_
  refine lv_if_ne (tgt := 22) hx hb dX12_wall_16 (by decide) (fun c16 => ?_) (fun c16 => ?_)
  · skip
    have tc16 := f_ne (k := 0) (by decide) c16
    replace x_v130 := x_v130.resolve_left tc16
    clear x_v131
    refine lv_aload_n hx hb dX12_wall_22 rfl (lv_at hl 0 rfl) ?_
    refine lv_iload_n hx hb dX12_wall_23 rfl (lv_at hl 1 rfl) ?_
    refine x_putk (ci := 12) (v := .int x1) (ty := tyX12 8) (C := RX12) (F := TX12) (N := 36) hx hb hts uX12 tyX12 tyX12_ok nmX12 hown hkb hH hS 0 rfl rfl 8 (by decide) kw_1231 (fun _ h9 => h9) rfl (tyX12_ok 8 (by decide)) rfl rfl (Nat.le_of_ble_eq_true rfl) dX12_wall_24 (fun H locs hH hS => ?_)
    have hH : HT D cs A T (a0 :: q0_4 :: O) ((a0, .inr (12, [.int 0, .ref q0_1, .ref q0_2, .ref q0_3, .ref q0_4, .int q0_5, .int q0_6, .int q0_7, .int x1, .int q0_9, .int q0_10, .int q0_11, .int q0_12, .int q0_13, .int q0_14, .ref q0_15, .int q0_16, .ref q0_17, .ref q0_18, .ref q0_19, .int q0_20, .ref q0_21, .ref q0_22, .int q0_23, .int q0_24, .int q0_25, .ref q0_26, .ref q0_27, .ref q0_28, .ref q0_29, .ref q0_30, .ref q0_31, .int q0_32, .ref q0_33, .ref q0_34, .ref q0_35])) :: (q0_4, .inl (cs.2.1, 1302, .inl f4)) :: X) H := hH
    refine lv_aload_n hx hb dX12_wall_27 rfl (lv_at hl 0 rfl) ?_
    refine lv_iconst (v := 0) hx hb dX12_wall_28 (by decide) ?_
    refine x_putk (ci := 12) (v := .int 0) (ty := tyX12 5) (C := RX12) (F := TX12) (N := 36) hx hb hts uX12 tyX12 tyX12_ok nmX12 hown hkb hH hS 0 rfl rfl 5 (by decide) kw_1228 (fun _ h9 => h9) rfl (tyX12_ok 5 (by decide)) rfl rfl (Nat.le_of_ble_eq_true rfl) dX12_wall_29 (fun H locs hH hS => ?_)
    have hH : HT D cs A T (a0 :: q0_4 :: O) ((a0, .inr (12, [.int 0, .ref q0_1, .ref q0_2, .ref q0_3, .ref q0_4, .int 0, .int q0_6, .int q0_7, .int x1, .int q0_9, .int q0_10, .int q0_11, .int q0_12, .int q0_13, .int q0_14, .ref q0_15, .int q0_16, .ref q0_17, .ref q0_18, .ref q0_19, .int q0_20, .ref q0_21, .ref q0_22, .int q0_23, .int q0_24, .int q0_25, .ref q0_26, .ref q0_27, .ref q0_28, .ref q0_29, .ref q0_30, .ref q0_31, .int q0_32, .ref q0_33, .ref q0_34, .ref q0_35])) :: (q0_4, .inl (cs.2.1, 1302, .inl f4)) :: X) H := hH
    refine lv_aload_n hx hb dX12_wall_32 rfl (lv_at hl 0 rfl) ?_
    refine lv_iconst (v := 0) hx hb dX12_wall_33 (by decide) ?_
    refine x_putk (ci := 12) (v := .int 0) (ty := tyX12 7) (C := RX12) (F := TX12) (N := 36) hx hb hts uX12 tyX12 tyX12_ok nmX12 hown hkb hH hS 0 rfl rfl 7 (by decide) kw_1230 (fun _ h9 => h9) rfl (tyX12_ok 7 (by decide)) rfl rfl (Nat.le_of_ble_eq_true rfl) dX12_wall_34 (fun H locs hH hS => ?_)
    have hH : HT D cs A T (a0 :: q0_4 :: O) ((a0, .inr (12, [.int 0, .ref q0_1, .ref q0_2, .ref q0_3, .ref q0_4, .int 0, .int q0_6, .int 0, .int x1, .int q0_9, .int q0_10, .int q0_11, .int q0_12, .int q0_13, .int q0_14, .ref q0_15, .int q0_16, .ref q0_17, .ref q0_18, .ref q0_19, .int q0_20, .ref q0_21, .ref q0_22, .int q0_23, .int q0_24, .int q0_25, .ref q0_26, .ref q0_27, .ref q0_28, .ref q0_29, .ref q0_30, .ref q0_31, .int q0_32, .ref q0_33, .ref q0_34, .ref q0_35])) :: (q0_4, .inl (cs.2.1, 1302, .inl f4)) :: X) H := hH
    refine lv_aload_n hx hb dX12_wall_37 rfl (lv_at hl 0 rfl) ?_
    refine lv_iconst (v := 0) hx hb dX12_wall_38 (by decide) ?_
    refine x_putk (ci := 12) (v := .int 0) (ty := tyX12 11) (C := RX12) (F := TX12) (N := 36) hx hb hts uX12 tyX12 tyX12_ok nmX12 hown hkb hH hS 0 rfl rfl 11 (by decide) kw_1234 (fun _ h9 => h9) rfl (tyX12_ok 11 (by decide)) rfl rfl (Nat.le_of_ble_eq_true rfl) dX12_wall_39 (fun H locs hH hS => ?_)
    have hH : HT D cs A T (a0 :: q0_4 :: O) ((a0, .inr (12, [.int 0, .ref q0_1, .ref q0_2, .ref q0_3, .ref q0_4, .int 0, .int q0_6, .int 0, .int x1, .int q0_9, .int q0_10, .int 0, .int q0_12, .int q0_13, .int q0_14, .ref q0_15, .int q0_16, .ref q0_17, .ref q0_18, .ref q0_19, .int q0_20, .ref q0_21, .ref q0_22, .int q0_23, .int q0_24, .int q0_25, .ref q0_26, .ref q0_27, .ref q0_28, .ref q0_29, .ref q0_30, .ref q0_31, .int q0_32, .ref q0_33, .ref q0_34, .ref q0_35])) :: (q0_4, .inl (cs.2.1, 1302, .inl f4)) :: X) H := hH
    refine lv_aload_n hx hb dX12_wall_42 rfl (lv_at hl 0 rfl) ?_
    refine x_getk (ci := 12) (C := RX12) (F := TX12) (N := 36) (v := .ref q0_4) hx hb hts uX12 hown hkb hH 0 rfl rfl 4 (by decide) rfl kw_1227 (fun _ h9 => h9) dX12_wall_43 ?_
    have z9_0 : (0 : Int32).toInt = 0 := by decide
    have z9_0 : (0 : Int32).toInt = 0 := by decide
    have z9_0 : (0 : Int32).toInt = 0 := by decide
    have z9_0 : (0 : Int32).toInt = 0 := by decide
    refine tk_v hH hS hA (tr_S (n := 1) (As := [.ref q0_4]) hx hb hml hown hts hkb hH (ox_c (ox_c hOX)) hks hE hS hA (s_M_plain0 l D cs kf T O X (.int 0) (.ref q0_1) (.ref q0_2) (.ref q0_3) q0_4 [.int 0, .int q0_6, .int 0, .int x1, .int q0_9, .int q0_10, .int 0, .int q0_12, .int q0_13, .int q0_14, .ref q0_15, .int q0_16, .ref q0_17, .ref q0_18, .ref q0_19, .int q0_20, .ref q0_21, .ref q0_22, .int q0_23, .int q0_24, .int q0_25, .ref q0_26, .ref q0_27, .ref q0_28, .ref q0_29, .ref q0_30, .ref q0_31, .int q0_32, .ref q0_33, .ref q0_34, .ref q0_35] f4 a0 hg mq t_q0_4 t_a0 (hO.sub (by decide))) kw_1220 kw_1221 kw_13 kw_1222 (by decide +kernel) ⟨Nat.le_of_ble_eq_true rfl, Nat.le_of_ble_eq_true rfl⟩ rfl rfl hl.1 (Nat.le_of_ble_eq_true rfl) dX12_wall_46 ⟨Nat.le_of_ble_eq_true rfl, Nat.le_of_ble_eq_true rfl⟩) (fun u H locs hz9 hH hS => ?_)
    obtain ⟨F46_1, rfl, x_v460⟩ := hz9
    have s_F46_1 := x_v460
    have hH : HT D cs A T (a0 :: q0_4 :: O) ((a0, .inr (12, [.int 0, .ref q0_1, .ref q0_2, .ref q0_3, .ref q0_4, .int 0, .int q0_6, .int 0, .int x1, .int q0_9, .int q0_10, .int 0, .int q0_12, .int q0_13, .int q0_14, .ref q0_15, .int q0_16, .ref q0_17, .ref q0_18, .ref q0_19, .int q0_20, .ref q0_21, .ref q0_22, .int q0_23, .int q0_24, .int q0_25, .ref q0_26, .ref q0_27, .ref q0_28, .ref q0_29, .ref q0_30, .ref q0_31, .int q0_32, .ref q0_33, .ref q0_34, .ref q0_35])) :: (q0_4, .inl (cs.2.1, 1302, .inl F46_1)) :: X) H := hH
    refine W.widen (k := 0) (n := 0) (Nat.le_of_ble_eq_true rfl) (Nat.le_of_ble_eq_true rfl) ?_
    refine lv_aload_n hx hb dX12_wall_49 rfl (lv_at hl 0 rfl) ?_
    have J53 : ∀ (n : Nat) (f53_106 : Int32) (f53_107 : Int32) (f53_109 : Int32) (f53_110 : Int32) (f53_111 : Int32) (f53_112 : Int32) (g53_1 : Nat → Int32) (H : Heap) (locs : List Loc) (ls : Array Slot), ((900 - f53_106.toInt) * 2 + wz f53_111).toNat = n → (S8 g53_1) → (0 ≤ f53_106.toInt) → (f53_106.toInt ≤ 900) → (0 ≤ f53_107.toInt) → (f53_107.toInt ≤ 900) → (0 ≤ f53_110.toInt) → (f53_110.toInt ≤ 999) → (f53_106.toInt ≤ f53_107.toInt) → (f53_107.toInt ≤ x1.toInt) → (TK3 f53_109 f53_106 f53_107) → HT D cs A T (a0 :: q0_4 :: O) ((a0, .inr (12, [.int 0, .ref q0_1, .ref q0_2, .ref q0_3, .ref q0_4, .int 0, .int f53_106, .int f53_107, .int x1, .int f53_109, .int f53_110, .int f53_111, .int f53_112, .int q0_13, .int q0_14, .ref q0_15, .int q0_16, .ref q0_17, .ref q0_18, .ref q0_19, .int q0_20, .ref q0_21, .ref q0_22, .int q0_23, .int q0_24, .int q0_25, .ref q0_26, .ref q0_27, .ref q0_28, .ref q0_29, .ref q0_30, .ref q0_31, .int q0_32, .ref q0_33, .ref q0_34, .ref q0_35])) :: (q0_4, .inl (cs.2.1, 1302, .inl g53_1)) :: X) H → va_S A s.heap H locs → lv_has ls 3 [(0, .ref a0)] → W p l e { frames := 33, cells := 0, slots := 0, locals := 703 } s m [.ref a0, .int x1].toArray below meth c H locs 0 0 (MQ below (Ti D cs (fun r u => ∃ (T2 : TF) (hg2 : Nat), u = (T2, O, X) ∧ (Trm T T2 a0) ∧ (T2 a0 = some (22, hg2, mq)) ∧ (hg2 < 90)) A) [.ref a0, .int x1].toArray s 0 0 A) (F0 m 53 ls []) := by
      intro n
      induction n using Nat.strongRecOn with
      | _ n ih53 =>
        intro f53_106 f53_107 f53_109 f53_110 f53_111 f53_112 g53_1 H locs ls hm53 s_g53_1 l_f53_106 u_f53_106 l_f53_107 u_f53_107 l_f53_110 u_f53_110 ia53 ib53 ic53 hH hS hl
        refine lv_aload_n hx hb dX12_wall_53 rfl (lv_at hl 0 rfl) ?_
        refine x_getk (ci := 12) (C := RX12) (F := TX12) (N := 36) (v := .int f53_111) hx hb hts uX12 hown hkb hH 0 rfl rfl 11 (by decide) rfl kw_1234 (fun _ h9 => h9) dX12_wall_54 ?_
        have J100 : ∀  (H : Heap) (locs : List Loc) (ls : Array Slot), HT D cs A T (a0 :: q0_4 :: O) ((a0, .inr (12, [.int 0, .ref q0_1, .ref q0_2, .ref q0_3, .ref q0_4, .int 0, .int f53_106, .int f53_107, .int x1, .int f53_109, .int f53_110, .int f53_111, .int f53_112, .int q0_13, .int q0_14, .ref q0_15, .int q0_16, .ref q0_17, .ref q0_18, .ref q0_19, .int q0_20, .ref q0_21, .ref q0_22, .int q0_23, .int q0_24, .int q0_25, .ref q0_26, .ref q0_27, .ref q0_28, .ref q0_29, .ref q0_30, .ref q0_31, .int q0_32, .ref q0_33, .ref q0_34, .ref q0_35])) :: (q0_4, .inl (cs.2.1, 1302, .inl g53_1)) :: X) H → va_S A s.heap H locs → lv_has ls 3 [(0, .ref a0)] → W p l e { frames := 33, cells := 0, slots := 0, locals := 703 } s m [.ref a0, .int x1].toArray below meth c H locs 0 0 (MQ below (Ti D cs (fun r u => ∃ (T2 : TF) (hg2 : Nat), u = (T2, O, X) ∧ (Trm T T2 a0) ∧ (T2 a0 = some (22, hg2, mq)) ∧ (hg2 < 90)) A) [.ref a0, .int x1].toArray s 0 0 A) (F0 m 100 ls []) := by
          intro  H locs ls  hH hS hl
          refine lv_aload_n hx hb dX12_wall_100 rfl (lv_at hl 0 rfl) ?_
          refine lv_aload_n hx hb dX12_wall_101 rfl (lv_at hl 0 rfl) ?_
          refine x_getk (ci := 12) (C := RX12) (F := TX12) (N := 36) (v := .int f53_111) hx hb hts uX12 hown hkb hH 0 rfl rfl 11 (by decide) rfl kw_1234 (fun _ h9 => h9) dX12_wall_102 ?_
          refine x_putk (ci := 12) (v := .int f53_111) (ty := tyX12 13) (C := RX12) (F := TX12) (N := 36) hx hb hts uX12 tyX12 tyX12_ok nmX12 hown hkb hH hS 0 rfl rfl 13 (by decide) kw_1236 (fun _ h9 => h9) rfl (tyX12_ok 13 (by decide)) rfl rfl (Nat.le_of_ble_eq_true rfl) dX12_wall_105 (fun H locs hH hS => ?_)
          have hH : HT D cs A T (a0 :: q0_4 :: O) ((a0, .inr (12, [.int 0, .ref q0_1, .ref q0_2, .ref q0_3, .ref q0_4, .int 0, .int f53_106, .int f53_107, .int x1, .int f53_109, .int f53_110, .int f53_111, .int f53_112, .int f53_111, .int q0_14, .ref q0_15, .int q0_16, .ref q0_17, .ref q0_18, .ref q0_19, .int q0_20, .ref q0_21, .ref q0_22, .int q0_23, .int q0_24, .int q0_25, .ref q0_26, .ref q0_27, .ref q0_28, .ref q0_29, .ref q0_30, .ref q0_31, .int q0_32, .ref q0_33, .ref q0_34, .ref q0_35])) :: (q0_4, .inl (cs.2.1, 1302, .inl g53_1)) :: X) H := hH
          refine lv_aload_n hx hb dX12_wall_108 rfl (lv_at hl 0 rfl) ?_
          refine lv_aload_n hx hb dX12_wall_109 rfl (lv_at hl 0 rfl) ?_
          refine x_getk (ci := 12) (C := RX12) (F := TX12) (N := 36) (v := .int f53_111) hx hb hts uX12 hown hkb hH 0 rfl rfl 11 (by decide) rfl kw_1234 (fun _ h9 => h9) dX12_wall_110 ?_
          have J142 : ∀ (f142_114 : Int32) (H : Heap) (locs : List Loc) (ls : Array Slot), (0 ≤ f53_111.toInt) → (f53_111.toInt ≤ 0) → HT D cs A T (a0 :: q0_4 :: O) ((a0, .inr (12, [.int 0, .ref q0_1, .ref q0_2, .ref q0_3, .ref q0_4, .int 0, .int f53_106, .int f53_107, .int x1, .int f53_109, .int f53_110, .int f53_111, .int f53_112, .int f53_111, .int f142_114, .ref q0_15, .int q0_16, .ref q0_17, .ref q0_18, .ref q0_19, .int q0_20, .ref q0_21, .ref q0_22, .int q0_23, .int q0_24, .int q0_25, .ref q0_26, .ref q0_27, .ref q0_28, .ref q0_29, .ref q0_30, .ref q0_31, .int q0_32, .ref q0_33, .ref q0_34, .ref q0_35])) :: (q0_4, .inl (cs.2.1, 1302, .inl g53_1)) :: X) H → va_S A s.heap H locs → lv_has ls 3 [(0, .ref a0)] → W p l e { frames := 33, cells := 0, slots := 0, locals := 703 } s m [.ref a0, .int x1].toArray below meth c H locs 0 0 (MQ below (Ti D cs (fun r u => ∃ (T2 : TF) (hg2 : Nat), u = (T2, O, X) ∧ (Trm T T2 a0) ∧ (T2 a0 = some (22, hg2, mq)) ∧ (hg2 < 90)) A) [.ref a0, .int x1].toArray s 0 0 A) (F0 m 142 ls []) := by
            intro f142_114 H locs ls l_f53_111 u_f53_111 hH hS hl
            obtain ⟨e9, hs9, hH⟩ := HT.takeA hH t_q0_1 (nm_c (tag_ne t_q0_1 t_a0 (fun q => absurd (show 8 = 22 from congrArg Prod.fst q) (by decide))) (nm_c (tag_ne t_q0_1 t_q0_4 (fun q => absurd (show 3906 = 1302 from congrArg (fun z => z.2.1) q) (by decide))) (hO0.no t_q0_1 (by decide))))
            obtain ⟨f1, rfl, s_f1, g_f1⟩ : ∃ f : Nat → Int32, e9 = .inl (cs.2.1, 3906, .inl f) ∧ B8 3906 f ∧ (3906 = 3906 → f 1 = nI (hg / 6) ∧ f 2 = nI (hg % 6)) := hs9
            have hO : okO T (q0_1 :: a0 :: q0_4 :: O) [1] := okO.cons (hO.sub (by decide)) t_q0_1 (by decide)
            refine lv_iconst (v := 0) hx hb dX12_wall_142 (by decide) ?_
            have J144 : ∀ (n : Nat) (p144_2 : Int32) (g144_0 : Nat → Int32) (H : Heap) (locs : List Loc) (ls : Array Slot), (1302 - p144_2.toInt).toNat = n → (0 ≤ p144_2.toInt) → (p144_2.toInt ≤ 1302) → (CW f1 g53_1 g144_0 p144_2.toInt.toNat) → HT D cs A T (q0_1 :: a0 :: q0_4 :: O) ((q0_1, .inl (cs.2.1, 3906, .inl g144_0)) :: (a0, .inr (12, [.int 0, .ref q0_1, .ref q0_2, .ref q0_3, .ref q0_4, .int 0, .int f53_106, .int f53_107, .int x1, .int f53_109, .int f53_110, .int f53_111, .int f53_112, .int f53_111, .int f142_114, .ref q0_15, .int q0_16, .ref q0_17, .ref q0_18, .ref q0_19, .int q0_20, .ref q0_21, .ref q0_22, .int q0_23, .int q0_24, .int q0_25, .ref q0_26, .ref q0_27, .ref q0_28, .ref q0_29, .ref q0_30, .ref q0_31, .int q0_32, .ref q0_33, .ref q0_34, .ref q0_35])) :: (q0_4, .inl (cs.2.1, 1302, .inl g53_1)) :: X) H → va_S A s.heap H locs → lv_has ls 3 [(2, .int p144_2), (0, .ref a0)] → W p l e { frames := 33, cells := 0, slots := 0, locals := 703 } s m [.ref a0, .int x1].toArray below meth c H locs 0 0 (MQ below (Ti D cs (fun r u => ∃ (T2 : TF) (hg2 : Nat), u = (T2, O, X) ∧ (Trm T T2 a0) ∧ (T2 a0 = some (22, hg2, mq)) ∧ (hg2 < 90)) A) [.ref a0, .int x1].toArray s 0 0 A) (F0 m 144 ls []) := by
              intro n
              induction n using Nat.strongRecOn with
              | _ n ih144 =>
                intro p144_2 g144_0 H locs ls hm144 l_p144_2 u_p144_2 i144 hH hS hl
                refine lv_iload_n hx hb dX12_wall_144 rfl (lv_at hl 0 rfl) ?_
                refine lv_sipush (v := 1302) hx hb dX12_wall_145 (by decide) ?_
                refine lv_icmp_ge (tgt := 169) hx hb dX12_wall_148 (by decide) (fun c148 => ?_) (fun c148 => ?_)
                · skip
                  have tc148 := f_ge (k := 1302) (by decide) c148
                  have s_g144_0 := CW_B8 i144 (by omega) s_f1 s_g53_1
                  obtain ⟨hg, b_hg, g_g144_0⟩ := hg_of s_g144_0.first
                  refine lv_iconst (v := 0) hx hb dX12_wall_169 (by decide) ?_
                  have J171 : ∀ (n : Nat) (p171_2 : Int32) (g171_0 : Nat → Int32) (H : Heap) (locs : List Loc) (ls : Array Slot), (14 - p171_2.toInt).toNat = n → (B8 3906 g171_0) → (g171_0 1 = nI (hg / 6) ∧ g171_0 2 = nI (hg % 6)) → (0 ≤ p171_2.toInt) → (p171_2.toInt ≤ 14) → HT D cs A T (q0_1 :: a0 :: q0_4 :: O) ((q0_1, .inl (cs.2.1, 3906, .inl g171_0)) :: (a0, .inr (12, [.int 0, .ref q0_1, .ref q0_2, .ref q0_3, .ref q0_4, .int 0, .int f53_106, .int f53_107, .int x1, .int f53_109, .int f53_110, .int f53_111, .int f53_112, .int f53_111, .int f142_114, .ref q0_15, .int q0_16, .ref q0_17, .ref q0_18, .ref q0_19, .int q0_20, .ref q0_21, .ref q0_22, .int q0_23, .int q0_24, .int q0_25, .ref q0_26, .ref q0_27, .ref q0_28, .ref q0_29, .ref q0_30, .ref q0_31, .int q0_32, .ref q0_33, .ref q0_34, .ref q0_35])) :: (q0_4, .inl (cs.2.1, 1302, .inl g53_1)) :: X) H → va_S A s.heap H locs → lv_has ls 3 [(2, .int p171_2), (0, .ref a0)] → W p l e { frames := 33, cells := 0, slots := 0, locals := 703 } s m [.ref a0, .int x1].toArray below meth c H locs 0 0 (MQ below (Ti D cs (fun r u => ∃ (T2 : TF) (hg2 : Nat), u = (T2, O, X) ∧ (Trm T T2 a0) ∧ (T2 a0 = some (22, hg2, mq)) ∧ (hg2 < 90)) A) [.ref a0, .int x1].toArray s 0 0 A) (F0 m 171 ls []) := by
                    intro n
                    induction n using Nat.strongRecOn with
                    | _ n ih171 =>
                      intro p171_2 g171_0 H locs ls hm171 s_g171_0 g_g171_0 l_p171_2 u_p171_2 hH hS hl
                      refine lv_iload_n hx hb dX12_wall_171 rfl (lv_at hl 0 rfl) ?_
                      refine lv_aload_n hx hb dX12_wall_172 rfl (lv_at hl 1 rfl) ?_
                      refine x_getk (ci := 12) (C := RX12) (F := TX12) (N := 36) (v := .ref q0_1) hx hb hts uX12 hown hkb hH 1 rfl rfl 1 (by decide) rfl kw_1224 (fun _ h9 => h9) dX12_wall_173 ?_
                      refine lv_iconst (v := 1) hx hb dX12_wall_176 (by decide) ?_
                      refine xa_ild hx hb hkb hH 0 rfl (by decide) (by decide) dX12_wall_177 ?_
                      refine lv_topi (fun v177 ev177 => ?_)
                      have tv177 : v177 = g171_0 1 := by rw [ev177]; rfl
                      have bv177 : 0 ≤ v177.toInt ∧ v177.toInt ≤ 14 := by rw [ev177]; exact (s_g171_0.at (by decide) 1).1 (by decide)
                      have hv177 : v177.toInt = ((hg / 6 : Nat) : Int) := by rw [tv177, g_g171_0.1]; exact nI_toInt (by omega)
                      refine lv_icmp_ge (tgt := 216) hx hb dX12_wall_178 (by decide) (fun c178 => ?_) (fun c178 => ?_)
                      · skip
                        have fuc178 := full_i p171_2
                        have fvc178 := full_i v177
                        have tc178 := g_le c178
                        refine lv_aload_n hx hb dX12_wall_216 rfl (lv_at hl 1 rfl) ?_
                        refine x_getk (ci := 12) (C := RX12) (F := TX12) (N := 36) (v := .ref q0_1) hx hb hts uX12 hown hkb hH 1 rfl rfl 1 (by decide) rfl kw_1224 (fun _ h9 => h9) dX12_wall_217 ?_
                        refine lv_iconst (v := 0) hx hb dX12_wall_220 (by decide) ?_
                        refine xa_ild hx hb hkb hH 0 rfl (by decide) (by decide) dX12_wall_221 ?_
                        refine lv_topi (fun v221 ev221 => ?_)
                        have tv221 : v221 = g171_0 0 := by rw [ev221]; rfl
                        obtain ⟨T2, ta2, tm2, hs2, rk2, hH⟩ := HT.rk (hg2 := hg) (mq2 := mq) hH t_a0 t_q0_1 hU (by simp) (by simp)
                        have t_q0_2 := (hs2 _ (tag_ne t_q0_2 t_a0 (fun q => absurd (show 3 = 22 from congrArg Prod.fst q) (by decide))) (tag_ne t_q0_2 t_q0_1 (fun q => absurd (show 3 = 8 from congrArg Prod.fst q) (by decide)))).trans t_q0_2
                        have t_q0_3 := (hs2 _ (tag_ne t_q0_3 t_a0 (fun q => absurd (show 1 = 22 from congrArg Prod.fst q) (by decide))) (tag_ne t_q0_3 t_q0_1 (fun q => absurd (show 1 = 8 from congrArg Prod.fst q) (by decide)))).trans t_q0_3
                        have t_q0_4 := (hs2 _ (tag_ne t_q0_4 t_a0 (fun q => absurd (show 8 = 22 from congrArg Prod.fst q) (by decide))) (tag_ne t_q0_4 t_q0_1 (fun q => absurd (show 1302 = 3906 from congrArg (fun z => z.2.1) q) (by decide)))).trans t_q0_4
                        have t_q0_15 := (hs2 _ (tag_ne t_q0_15 t_a0 (fun q => absurd (show 1 = 22 from congrArg Prod.fst q) (by decide))) (tag_ne t_q0_15 t_q0_1 (fun q => absurd (show 1 = 8 from congrArg Prod.fst q) (by decide)))).trans t_q0_15
                        have t_q0_17 := (hs2 _ (tag_ne t_q0_17 t_a0 (fun q => absurd (show 9 = 22 from congrArg Prod.fst q) (by decide))) (tag_ne t_q0_17 t_q0_1 (fun q => absurd (show 9 = 8 from congrArg Prod.fst q) (by decide)))).trans t_q0_17
                        have t_q0_18 := (hs2 _ (tag_ne t_q0_18 t_a0 (fun q => absurd (show 9 = 22 from congrArg Prod.fst q) (by decide))) (tag_ne t_q0_18 t_q0_1 (fun q => absurd (show 9 = 8 from congrArg Prod.fst q) (by decide)))).trans t_q0_18
                        have t_q0_19 := (hs2 _ (tag_ne t_q0_19 t_a0 (fun q => absurd (show 1 = 22 from congrArg Prod.fst q) (by decide))) (tag_ne t_q0_19 t_q0_1 (fun q => absurd (show 1 = 8 from congrArg Prod.fst q) (by decide)))).trans t_q0_19
                        have t_q0_21 := (hs2 _ (tag_ne t_q0_21 t_a0 (fun q => absurd (show 1 = 22 from congrArg Prod.fst q) (by decide))) (tag_ne t_q0_21 t_q0_1 (fun q => absurd (show 1 = 8 from congrArg Prod.fst q) (by decide)))).trans t_q0_21
                        have t_q0_22 := (hs2 _ (tag_ne t_q0_22 t_a0 (fun q => absurd (show 1 = 22 from congrArg Prod.fst q) (by decide))) (tag_ne t_q0_22 t_q0_1 (fun q => absurd (show 1 = 8 from congrArg Prod.fst q) (by decide)))).trans t_q0_22
                        have t_q0_26 := (hs2 _ (tag_ne t_q0_26 t_a0 (fun q => absurd (show 2 = 22 from congrArg Prod.fst q) (by decide))) (tag_ne t_q0_26 t_q0_1 (fun q => absurd (show 2 = 8 from congrArg Prod.fst q) (by decide)))).trans t_q0_26
                        have t_q0_27 := (hs2 _ (tag_ne t_q0_27 t_a0 (fun q => absurd (show 3 = 22 from congrArg Prod.fst q) (by decide))) (tag_ne t_q0_27 t_q0_1 (fun q => absurd (show 3 = 8 from congrArg Prod.fst q) (by decide)))).trans t_q0_27
                        have t_q0_28 := (hs2 _ (tag_ne t_q0_28 t_a0 (fun q => absurd (show 0 = 22 from congrArg Prod.fst q) (by decide))) (tag_ne t_q0_28 t_q0_1 (fun q => absurd (show 0 = 8 from congrArg Prod.fst q) (by decide)))).trans t_q0_28
                        have t_q0_29 := (hs2 _ (tag_ne t_q0_29 t_a0 (fun q => absurd (show 1 = 22 from congrArg Prod.fst q) (by decide))) (tag_ne t_q0_29 t_q0_1 (fun q => absurd (show 1 = 8 from congrArg Prod.fst q) (by decide)))).trans t_q0_29
                        have t_q0_30 := (hs2 _ (tag_ne t_q0_30 t_a0 (fun q => absurd (show 1 = 22 from congrArg Prod.fst q) (by decide))) (tag_ne t_q0_30 t_q0_1 (fun q => absurd (show 1 = 8 from congrArg Prod.fst q) (by decide)))).trans t_q0_30
                        have t_q0_31 := (hs2 _ (tag_ne t_q0_31 t_a0 (fun q => absurd (show 1 = 22 from congrArg Prod.fst q) (by decide))) (tag_ne t_q0_31 t_q0_1 (fun q => absurd (show 1 = 8 from congrArg Prod.fst q) (by decide)))).trans t_q0_31
                        have t_q0_33 := (hs2 _ (tag_ne t_q0_33 t_a0 (fun q => absurd (show 9 = 22 from congrArg Prod.fst q) (by decide))) (tag_ne t_q0_33 t_q0_1 (fun q => absurd (show 9 = 8 from congrArg Prod.fst q) (by decide)))).trans t_q0_33
                        have t_q0_34 := (hs2 _ (tag_ne t_q0_34 t_a0 (fun q => absurd (show 9 = 22 from congrArg Prod.fst q) (by decide))) (tag_ne t_q0_34 t_q0_1 (fun q => absurd (show 9 = 8 from congrArg Prod.fst q) (by decide)))).trans t_q0_34
                        have t_q0_35 := (hs2 _ (tag_ne t_q0_35 t_a0 (fun q => absurd (show 2 = 22 from congrArg Prod.fst q) (by decide))) (tag_ne t_q0_35 t_q0_1 (fun q => absurd (show 2 = 8 from congrArg Prod.fst q) (by decide)))).trans t_q0_35
                        have hH : HT D cs A T2 (a0 :: q0_4 :: O) ((a0, .inr (12, [.int 0, .ref q0_1, .ref q0_2, .ref q0_3, .ref q0_4, .int 0, .int f53_106, .int f53_107, .int x1, .int f53_109, .int f53_110, .int f53_111, .int f53_112, .int f53_111, .int f142_114, .ref q0_15, .int q0_16, .ref q0_17, .ref q0_18, .ref q0_19, .int q0_20, .ref q0_21, .ref q0_22, .int q0_23, .int q0_24, .int q0_25, .ref q0_26, .ref q0_27, .ref q0_28, .ref q0_29, .ref q0_30, .ref q0_31, .int q0_32, .ref q0_33, .ref q0_34, .ref q0_35])) :: (q0_4, .inl (cs.2.1, 1302, .inl g53_1)) :: X) H := HT.layA hH ta2 (show sp cs T2 (8, 3906, hg) _ from ⟨_, rfl, s_g171_0, fun _ => g_g171_0⟩)
                        have t_q0_1 := ta2
                        have t_a0 := tm2
                        have hH : HT D cs A T2 (q0_4 :: O) ((q0_4, .inl (cs.2.1, 1302, .inl g53_1)) :: X) H := HT.lay (ci := 12) hH t_a0 (okL_c (⟨_, rfl⟩) (okL_c (⟨_, rfl, t_q0_1⟩) (okL_c (⟨_, rfl, t_q0_2⟩) (okL_c (⟨_, rfl, t_q0_3⟩) (okL_c (⟨_, rfl, t_q0_4⟩) (okL_c (⟨_, rfl, by decide, by decide⟩) (okL_c (⟨_, rfl⟩) (okL_c (⟨_, rfl⟩) (okL_c (⟨_, rfl⟩) (okL_c (⟨_, rfl⟩) (okL_c (⟨_, rfl, by omega, by omega⟩) (okL_c (⟨_, rfl⟩) (okL_c (⟨_, rfl⟩) (okL_c (⟨_, rfl⟩) (okL_c (⟨_, rfl⟩) (okL_c (⟨_, rfl, t_q0_15⟩) (okL_c (⟨_, rfl⟩) (okL_c (⟨_, rfl, t_q0_17⟩) (okL_c (⟨_, rfl, t_q0_18⟩) (okL_c (⟨_, rfl, t_q0_19⟩) (okL_c (⟨_, rfl, by omega, by omega⟩) (okL_c (⟨_, rfl, t_q0_21⟩) (okL_c (⟨_, rfl, t_q0_22⟩) (okL_c (⟨_, rfl⟩) (okL_c (⟨_, rfl⟩) (okL_c (⟨_, rfl⟩) (okL_c (⟨_, rfl, t_q0_26⟩) (okL_c (⟨_, rfl, t_q0_27⟩) (okL_c (⟨_, rfl, t_q0_28⟩) (okL_c (⟨_, rfl, t_q0_29⟩) (okL_c (⟨_, rfl, t_q0_30⟩) (okL_c (⟨_, rfl, t_q0_31⟩) (okL_c (⟨_, rfl⟩) (okL_c (⟨_, rfl, t_q0_33⟩) (okL_c (⟨_, rfl, t_q0_34⟩) (okL_c (⟨_, rfl, t_q0_35⟩) (okL_n)))))))))))))))))))))))))))))))))))))
                        have hO := hO0
                        have hH : HT D cs A T2 O X H := HT.layA hH t_q0_4 (show sp cs T2 (8, 1302, 0) _ from ⟨_, rfl, B8_of s_g53_1, fun q => absurd q (by decide)⟩)
                        exact te_i hx hb hr hlocks hH hS (⟨T2, hg, rfl, rk2, tm2, b_hg⟩) dX12_wall_222
                      · skip
                        have fuc178 := full_i p171_2
                        have fvc178 := full_i v177
                        have tc178 := g_nle c178
                        refine lv_aload_n hx hb dX12_wall_181 rfl (lv_at hl 1 rfl) ?_
                        refine x_getk (ci := 12) (C := RX12) (F := TX12) (N := 36) (v := .ref q0_1) hx hb hts uX12 hown hkb hH 1 rfl rfl 1 (by decide) rfl kw_1224 (fun _ h9 => h9) dX12_wall_182 ?_
                        refine lv_bipush (v := 59) hx hb dX12_wall_185 (by decide) ?_
                        refine lv_iload_n hx hb dX12_wall_187 rfl (lv_at hl 0 rfl) ?_
                        refine lv_iadd hx hb dX12_wall_188 ?_
                        refine lv_topi (fun v188 ev188 => ?_)
                        have tv188 : v188.toInt = (59) + p171_2.toInt := by rw [ev188]; exact add_i (by decide : (59 : Int32).toInt = 59) rfl (by omega) (by omega)
                        refine xa_ild hx hb hkb hH 0 rfl (by omega) (by omega) dX12_wall_189 ?_
                        refine lv_topi (fun v189 ev189 => ?_)
                        have tv189 : v189 = g171_0 v188.toInt.toNat := ev189
                        refine lv_iconst (v := (-1)) hx hb dX12_wall_190 (by decide) ?_
                        have J210 : ∀ (g210_0 : Nat → Int32) (H : Heap) (locs : List Loc) (ls : Array Slot), (B8 3906 g210_0) → (g210_0 1 = nI (hg / 6) ∧ g210_0 2 = nI (hg % 6)) → HT D cs A T (q0_1 :: a0 :: q0_4 :: O) ((q0_1, .inl (cs.2.1, 3906, .inl g210_0)) :: (a0, .inr (12, [.int 0, .ref q0_1, .ref q0_2, .ref q0_3, .ref q0_4, .int 0, .int f53_106, .int f53_107, .int x1, .int f53_109, .int f53_110, .int f53_111, .int f53_112, .int f53_111, .int f142_114, .ref q0_15, .int q0_16, .ref q0_17, .ref q0_18, .ref q0_19, .int q0_20, .ref q0_21, .ref q0_22, .int q0_23, .int q0_24, .int q0_25, .ref q0_26, .ref q0_27, .ref q0_28, .ref q0_29, .ref q0_30, .ref q0_31, .int q0_32, .ref q0_33, .ref q0_34, .ref q0_35])) :: (q0_4, .inl (cs.2.1, 1302, .inl g53_1)) :: X) H → va_S A s.heap H locs → lv_has ls 3 [(2, .int p171_2), (0, .ref a0)] → W p l e { frames := 33, cells := 0, slots := 0, locals := 703 } s m [.ref a0, .int x1].toArray below meth c H locs 0 0 (MQ below (Ti D cs (fun r u => ∃ (T2 : TF) (hg2 : Nat), u = (T2, O, X) ∧ (Trm T T2 a0) ∧ (T2 a0 = some (22, hg2, mq)) ∧ (hg2 < 90)) A) [.ref a0, .int x1].toArray s 0 0 A) (F0 m 210 ls []) := by
                          intro g210_0 H locs ls s_g210_0 g_g210_0 hH hS hl
                          obtain ⟨v210, ev210⟩ : ∃ y : Int32, y = p171_2 + 1 := ⟨_, rfl⟩
                          have tv210 : v210.toInt = p171_2.toInt + (1) := by rw [ev210]; exact add_i rfl (by decide) (by omega) (by omega)
                          refine lv_iinc (v := v210) (lv' := [(2, .int v210), (0, .ref a0)]) hx hb dX12_wall_210 hl (k := 0) rfl (by rw [ev210]; rfl) (by decide) rfl (fun ls hl => ?_)
                          refine lv_goto (tgt := 171) hx hb dX12_wall_213 (by decide) ?_
                          exact ih171 _ (by omega) v210 g210_0 _ _ _ rfl s_g210_0 g_g210_0 (by omega) (by omega) hH hS (lv_sub hl [0, 1] rfl)
                        refine lv_icmp_eq (tgt := 210) hx hb dX12_wall_191 (by decide) (fun c191 => ?_) (fun c191 => ?_)
                        · skip
                          have tc191 := f_eq (k := -1) (by decide) c191
                          exact J210 g171_0 _ _ _ s_g171_0 g_g171_0 hH hS (lv_sub hl [0, 1] rfl)
                        · skip
                          have tc191 := f_ne (k := -1) (by decide) c191
                          refine lv_aload_n hx hb dX12_wall_194 rfl (lv_at hl 1 rfl) ?_
                          refine x_getk (ci := 12) (C := RX12) (F := TX12) (N := 36) (v := .ref q0_1) hx hb hts uX12 hown hkb hH 1 rfl rfl 1 (by decide) rfl kw_1224 (fun _ h9 => h9) dX12_wall_195 ?_
                          refine lv_bipush (v := 73) hx hb dX12_wall_198 (by decide) ?_
                          refine lv_iload_n hx hb dX12_wall_200 rfl (lv_at hl 0 rfl) ?_
                          refine lv_iadd hx hb dX12_wall_201 ?_
                          refine lv_topi (fun v201 ev201 => ?_)
                          have tv201 : v201.toInt = (73) + p171_2.toInt := by rw [ev201]; exact add_i (by decide : (73 : Int32).toInt = 73) rfl (by omega) (by omega)
                          refine lv_aload_n hx hb dX12_wall_202 rfl (lv_at hl 1 rfl) ?_
                          refine x_getk (ci := 12) (C := RX12) (F := TX12) (N := 36) (v := .ref q0_1) hx hb hts uX12 hown hkb hH 1 rfl rfl 1 (by decide) rfl kw_1224 (fun _ h9 => h9) dX12_wall_203 ?_
                          refine lv_bipush (v := 88) hx hb dX12_wall_206 (by decide) ?_
                          refine xa_ild hx hb hkb hH 0 rfl (by decide) (by decide) dX12_wall_208 ?_
                          refine lv_topi (fun v208 ev208 => ?_)
                          have tv208 : v208 = g171_0 88 := by rw [ev208]; rfl
                          refine xa_ist hx hb hkb hH hS 0 rfl (by omega) (by omega) dX12_wall_209 (fun H locs hH hS => ?_)
                          have hH : HT D cs A T (q0_1 :: a0 :: q0_4 :: O) ((q0_1, .inl (cs.2.1, 3906, .inl (upd g171_0 (v201.toInt.toNat) v208))) :: (a0, .inr (12, [.int 0, .ref q0_1, .ref q0_2, .ref q0_3, .ref q0_4, .int 0, .int f53_106, .int f53_107, .int x1, .int f53_109, .int f53_110, .int f53_111, .int f53_112, .int f53_111, .int f142_114, .ref q0_15, .int q0_16, .ref q0_17, .ref q0_18, .ref q0_19, .int q0_20, .ref q0_21, .ref q0_22, .int q0_23, .int q0_24, .int q0_25, .ref q0_26, .ref q0_27, .ref q0_28, .ref q0_29, .ref q0_30, .ref q0_31, .int q0_32, .ref q0_33, .ref q0_34, .ref q0_35])) :: (q0_4, .inl (cs.2.1, 1302, .inl g53_1)) :: X) H := hH
                          obtain ⟨F209, eF209⟩ : ∃ f9, f9 = upd g171_0 (v201.toInt.toNat) v208 := ⟨_, rfl⟩
                          have hH : HT D cs A T (q0_1 :: a0 :: q0_4 :: O) ((q0_1, .inl (cs.2.1, 3906, .inl F209)) :: (a0, .inr (12, [.int 0, .ref q0_1, .ref q0_2, .ref q0_3, .ref q0_4, .int 0, .int f53_106, .int f53_107, .int x1, .int f53_109, .int f53_110, .int f53_111, .int f53_112, .int f53_111, .int f142_114, .ref q0_15, .int q0_16, .ref q0_17, .ref q0_18, .ref q0_19, .int q0_20, .ref q0_21, .ref q0_22, .int q0_23, .int q0_24, .int q0_25, .ref q0_26, .ref q0_27, .ref q0_28, .ref q0_29, .ref q0_30, .ref q0_31, .int q0_32, .ref q0_33, .ref q0_34, .ref q0_35])) :: (q0_4, .inl (cs.2.1, 1302, .inl g53_1)) :: X) H := eF209 ▸ hH
                          have g_F209 : F209 1 = nI (hg / 6) ∧ F209 2 = nI (hg % 6) := by rw [eF209]; exact ⟨(upd_ne (by omega)).trans g_g171_0.1, (upd_ne (by omega)).trans g_g171_0.2⟩
                          have s_F209 : B8 3906 F209 := by rw [eF209]; exact s_g171_0.put (i := v201) (x := v208) (by omega) (by omega) (p8_far (by omega) (⟨by omega, by omega⟩))
                          exact J210 F209 _ _ _ s_F209 g_F209 hH hS (lv_sub hl [0, 1] rfl)
                  refine lv_istore_n (lv' := [(2, .int 0), (0, .ref a0)]) hx hb dX12_wall_170 rfl hl (by decide) rfl (fun ls hl => ?_)
                  exact J171 _ 0 g144_0 _ _ _ rfl s_g144_0 g_g144_0 (by decide) (by decide) hH hS (lv_sub hl [0, 1] rfl)
                · skip
                  have tc148 := f_nge (k := 1302) (by decide) c148
                  refine lv_aload_n hx hb dX12_wall_151 rfl (lv_at hl 1 rfl) ?_
                  refine x_getk (ci := 12) (C := RX12) (F := TX12) (N := 36) (v := .ref q0_1) hx hb hts uX12 hown hkb hH 1 rfl rfl 1 (by decide) rfl kw_1224 (fun _ h9 => h9) dX12_wall_152 ?_
                  refine lv_iload_n hx hb dX12_wall_155 rfl (lv_at hl 0 rfl) ?_
                  refine lv_aload_n hx hb dX12_wall_156 rfl (lv_at hl 1 rfl) ?_
                  refine x_getk (ci := 12) (C := RX12) (F := TX12) (N := 36) (v := .ref q0_4) hx hb hts uX12 hown hkb hH 1 rfl rfl 4 (by decide) rfl kw_1227 (fun _ h9 => h9) dX12_wall_157 ?_
                  refine lv_iload_n hx hb dX12_wall_160 rfl (lv_at hl 0 rfl) ?_
                  refine xa_ild hx hb hkb hH 2 rfl (by omega) (by omega) dX12_wall_161 ?_
                  refine lv_topi (fun v161 ev161 => ?_)
                  have tv161 : v161 = g53_1 p144_2.toInt.toNat := ev161
                  refine xa_ist hx hb hkb hH hS 0 rfl (by omega) (by omega) dX12_wall_162 (fun H locs hH hS => ?_)
                  have hH : HT D cs A T (q0_1 :: a0 :: q0_4 :: O) ((q0_1, .inl (cs.2.1, 3906, .inl (upd g144_0 (p144_2.toInt.toNat) v161))) :: (a0, .inr (12, [.int 0, .ref q0_1, .ref q0_2, .ref q0_3, .ref q0_4, .int 0, .int f53_106, .int f53_107, .int x1, .int f53_109, .int f53_110, .int f53_111, .int f53_112, .int f53_111, .int f142_114, .ref q0_15, .int q0_16, .ref q0_17, .ref q0_18, .ref q0_19, .int q0_20, .ref q0_21, .ref q0_22, .int q0_23, .int q0_24, .int q0_25, .ref q0_26, .ref q0_27, .ref q0_28, .ref q0_29, .ref q0_30, .ref q0_31, .int q0_32, .ref q0_33, .ref q0_34, .ref q0_35])) :: (q0_4, .inl (cs.2.1, 1302, .inl g53_1)) :: X) H := hH
                  obtain ⟨F162, eF162⟩ : ∃ f9, f9 = upd g144_0 (p144_2.toInt.toNat) v161 := ⟨_, rfl⟩
                  have hH : HT D cs A T (q0_1 :: a0 :: q0_4 :: O) ((q0_1, .inl (cs.2.1, 3906, .inl F162)) :: (a0, .inr (12, [.int 0, .ref q0_1, .ref q0_2, .ref q0_3, .ref q0_4, .int 0, .int f53_106, .int f53_107, .int x1, .int f53_109, .int f53_110, .int f53_111, .int f53_112, .int f53_111, .int f142_114, .ref q0_15, .int q0_16, .ref q0_17, .ref q0_18, .ref q0_19, .int q0_20, .ref q0_21, .ref q0_22, .int q0_23, .int q0_24, .int q0_25, .ref q0_26, .ref q0_27, .ref q0_28, .ref q0_29, .ref q0_30, .ref q0_31, .int q0_32, .ref q0_33, .ref q0_34, .ref q0_35])) :: (q0_4, .inl (cs.2.1, 1302, .inl g53_1)) :: X) H := eF162 ▸ hH
                  obtain ⟨v163, ev163⟩ : ∃ y : Int32, y = p144_2 + 1 := ⟨_, rfl⟩
                  have tv163 : v163.toInt = p144_2.toInt + (1) := by rw [ev163]; exact add_i rfl (by decide) (by omega) (by omega)
                  refine lv_iinc (v := v163) (lv' := [(2, .int v163), (0, .ref a0)]) hx hb dX12_wall_163 hl (k := 0) rfl (by rw [ev163]; rfl) (by decide) rfl (fun ls hl => ?_)
                  refine lv_goto (tgt := 144) hx hb dX12_wall_166 (by decide) ?_
                  exact ih144 _ (by omega) v163 F162 _ _ _ rfl (by omega) (by omega) (by first | (refine CW_0 ?_; decide) | (refine CW_s i144 ?_ tv163 tv161 eF162; omega)) hH hS (lv_sub hl [0, 1] rfl)
            refine lv_istore_n (lv' := [(2, .int 0), (0, .ref a0)]) hx hb dX12_wall_143 rfl hl (by decide) rfl (fun ls hl => ?_)
            have z_0 : (0 : Int32).toInt = 0 := by decide
            exact J144 _ 0 f1 _ _ _ rfl (by decide) (by decide) (by first | (refine CW_0 ?_; decide) | (refine CW_s i144 ?_ tv163 tv161 eF162; omega)) hH hS (lv_sub hl [0, 1] rfl)
          refine lv_if_ne (tgt := 120) hx hb dX12_wall_113 (by decide) (fun c113 => ?_) (fun c113 => ?_)
          · skip
            have tc113 := f_ne (k := 0) (by decide) c113
            refine lv_aload_n hx hb dX12_wall_120 rfl (lv_at hl 0 rfl) ?_
            refine x_getk (ci := 12) (C := RX12) (F := TX12) (N := 36) (v := .int f53_112) hx hb hts uX12 hown hkb hH 0 rfl rfl 12 (by decide) rfl kw_1235 (fun _ h9 => h9) dX12_wall_121 ?_
            refine x_putk (ci := 12) (v := .int f53_112) (ty := tyX12 14) (C := RX12) (F := TX12) (N := 36) hx hb hts uX12 tyX12 tyX12_ok nmX12 hown hkb hH hS 0 rfl rfl 14 (by decide) kw_1237 (fun _ h9 => h9) rfl (tyX12_ok 14 (by decide)) rfl rfl (Nat.le_of_ble_eq_true rfl) dX12_wall_124 (fun H locs hH hS => ?_)
            have hH : HT D cs A T (a0 :: q0_4 :: O) ((a0, .inr (12, [.int 0, .ref q0_1, .ref q0_2, .ref q0_3, .ref q0_4, .int 0, .int f53_106, .int f53_107, .int x1, .int f53_109, .int f53_110, .int f53_111, .int f53_112, .int f53_111, .int f53_112, .ref q0_15, .int q0_16, .ref q0_17, .ref q0_18, .ref q0_19, .int q0_20, .ref q0_21, .ref q0_22, .int q0_23, .int q0_24, .int q0_25, .ref q0_26, .ref q0_27, .ref q0_28, .ref q0_29, .ref q0_30, .ref q0_31, .int q0_32, .ref q0_33, .ref q0_34, .ref q0_35])) :: (q0_4, .inl (cs.2.1, 1302, .inl g53_1)) :: X) H := hH
            refine lv_aload_n hx hb dX12_wall_127 rfl (lv_at hl 0 rfl) ?_
            refine x_getk (ci := 12) (C := RX12) (F := TX12) (N := 36) (v := .int f53_111) hx hb hts uX12 hown hkb hH 0 rfl rfl 11 (by decide) rfl kw_1234 (fun _ h9 => h9) dX12_wall_128 ?_
            refine lv_if_eq (tgt := 142) hx hb dX12_wall_131 (by decide) (fun c131 => ?_) (fun c131 => ?_)
            · skip
              have tc131 := f_eq (k := 0) (by decide) c131
              exact J142 f53_112 _ _ _ (by omega) (by omega) hH hS (lv_sub hl [0] rfl)
            · skip
              have tc131 := f_ne (k := 0) (by decide) c131
              refine lv_bipush (v := (-30)) hx hb dX12_wall_134 (by decide) ?_
              refine lv_aload_n hx hb dX12_wall_136 rfl (lv_at hl 0 rfl) ?_
              refine x_getk (ci := 12) (C := RX12) (F := TX12) (N := 36) (v := .int f53_111) hx hb hts uX12 hown hkb hH 0 rfl rfl 11 (by decide) rfl kw_1234 (fun _ h9 => h9) dX12_wall_137 ?_
              refine lv_isub hx hb dX12_wall_140 ?_
              refine lv_topi (fun v140 ev140 => ?_)
              have hH : HT D cs A T (q0_4 :: O) ((q0_4, .inl (cs.2.1, 1302, .inl g53_1)) :: X) H := HT.lay (ci := 12) hH t_a0 (okL_c (⟨_, rfl⟩) (okL_c (⟨_, rfl, t_q0_1⟩) (okL_c (⟨_, rfl, t_q0_2⟩) (okL_c (⟨_, rfl, t_q0_3⟩) (okL_c (⟨_, rfl, t_q0_4⟩) (okL_c (⟨_, rfl, by decide, by decide⟩) (okL_c (⟨_, rfl⟩) (okL_c (⟨_, rfl⟩) (okL_c (⟨_, rfl⟩) (okL_c (⟨_, rfl⟩) (okL_c (⟨_, rfl, by omega, by omega⟩) (okL_c (⟨_, rfl⟩) (okL_c (⟨_, rfl⟩) (okL_c (⟨_, rfl⟩) (okL_c (⟨_, rfl⟩) (okL_c (⟨_, rfl, t_q0_15⟩) (okL_c (⟨_, rfl⟩) (okL_c (⟨_, rfl, t_q0_17⟩) (okL_c (⟨_, rfl, t_q0_18⟩) (okL_c (⟨_, rfl, t_q0_19⟩) (okL_c (⟨_, rfl, by omega, by omega⟩) (okL_c (⟨_, rfl, t_q0_21⟩) (okL_c (⟨_, rfl, t_q0_22⟩) (okL_c (⟨_, rfl⟩) (okL_c (⟨_, rfl⟩) (okL_c (⟨_, rfl⟩) (okL_c (⟨_, rfl, t_q0_26⟩) (okL_c (⟨_, rfl, t_q0_27⟩) (okL_c (⟨_, rfl, t_q0_28⟩) (okL_c (⟨_, rfl, t_q0_29⟩) (okL_c (⟨_, rfl, t_q0_30⟩) (okL_c (⟨_, rfl, t_q0_31⟩) (okL_c (⟨_, rfl⟩) (okL_c (⟨_, rfl, t_q0_33⟩) (okL_c (⟨_, rfl, t_q0_34⟩) (okL_c (⟨_, rfl, t_q0_35⟩) (okL_n)))))))))))))))))))))))))))))))))))))
              have hO := hO0
              have hH : HT D cs A T O X H := HT.layA hH t_q0_4 (show sp cs T (8, 1302, 0) _ from ⟨_, rfl, B8_of s_g53_1, fun q => absurd q (by decide)⟩)
              exact te_i hx hb hr hlocks hH hS (⟨T, hg, rfl, Trm.rf, t_a0, b_hg⟩) dX12_wall_141
          · skip
            have tc113 := f_eq (k := 0) (by decide) c113
            refine lv_iconst (v := (-1)) hx hb dX12_wall_116 (by decide) ?_
            refine lv_goto (tgt := 124) hx hb dX12_wall_117 (by decide) ?_
            refine x_putk (ci := 12) (v := .int (-1)) (ty := tyX12 14) (C := RX12) (F := TX12) (N := 36) hx hb hts uX12 tyX12 tyX12_ok nmX12 hown hkb hH hS 0 rfl rfl 14 (by decide) kw_1237 (fun _ h9 => h9) rfl (tyX12_ok 14 (by decide)) rfl rfl (Nat.le_of_ble_eq_true rfl) dX12_wall_124 (fun H locs hH hS => ?_)
            have hH : HT D cs A T (a0 :: q0_4 :: O) ((a0, .inr (12, [.int 0, .ref q0_1, .ref q0_2, .ref q0_3, .ref q0_4, .int 0, .int f53_106, .int f53_107, .int x1, .int f53_109, .int f53_110, .int f53_111, .int f53_112, .int f53_111, .int (-1), .ref q0_15, .int q0_16, .ref q0_17, .ref q0_18, .ref q0_19, .int q0_20, .ref q0_21, .ref q0_22, .int q0_23, .int q0_24, .int q0_25, .ref q0_26, .ref q0_27, .ref q0_28, .ref q0_29, .ref q0_30, .ref q0_31, .int q0_32, .ref q0_33, .ref q0_34, .ref q0_35])) :: (q0_4, .inl (cs.2.1, 1302, .inl g53_1)) :: X) H := hH
            refine lv_aload_n hx hb dX12_wall_127 rfl (lv_at hl 0 rfl) ?_
            refine x_getk (ci := 12) (C := RX12) (F := TX12) (N := 36) (v := .int f53_111) hx hb hts uX12 hown hkb hH 0 rfl rfl 11 (by decide) rfl kw_1234 (fun _ h9 => h9) dX12_wall_128 ?_
            refine lv_if_eq (tgt := 142) hx hb dX12_wall_131 (by decide) (fun c131 => ?_) (fun c131 => ?_)
            · skip
              have tc131 := f_eq (k := 0) (by decide) c131
              exact J142 (-1) _ _ _ (by omega) (by omega) hH hS (lv_sub hl [0] rfl)
            · skip
              have tc131 := f_ne (k := 0) (by decide) c131
              exfalso; omega
        refine lv_if_ne (tgt := 100) hx hb dX12_wall_57 (by decide) (fun c57 => ?_) (fun c57 => ?_)
        · skip
          have tc57 := f_ne (k := 0) (by decide) c57
          exact J100  _ _ _  hH hS (lv_sub hl [0] rfl)
        · skip
          have tc57 := f_eq (k := 0) (by decide) c57
          refine lv_aload_n hx hb dX12_wall_60 rfl (lv_at hl 0 rfl) ?_
          refine x_getk (ci := 12) (C := RX12) (F := TX12) (N := 36) (v := .int f53_109) hx hb hts uX12 hown hkb hH 0 rfl rfl 9 (by decide) rfl kw_1232 (fun _ h9 => h9) dX12_wall_61 ?_
          refine lv_bipush (v := 22) hx hb dX12_wall_64 (by decide) ?_
          refine lv_icmp_eq (tgt := 100) hx hb dX12_wall_66 (by decide) (fun c66 => ?_) (fun c66 => ?_)
          · skip
            have tc66 := f_eq (k := 22) (by decide) c66
            exact J100  _ _ _  hH hS (lv_sub hl [0] rfl)
          · skip
            have tc66 := f_ne (k := 22) (by decide) c66
            have hw1 := wz_1 tc57
            refine lv_aload_n hx hb dX12_wall_69 rfl (lv_at hl 0 rfl) ?_
            have z9_0 : (0 : Int32).toInt = 0 := by decide
            have z9_0 : (0 : Int32).toInt = 0 := by decide
            refine tk_v hH hS hA (tr_V (n := 0) (As := []) hx hb hml hown hts hkb hH (ox_c (ox_c hOX)) hks hE hS hA (s_M_readLine l D cs kf T O X a0 hg mq (.int 0) (.ref q0_1) (.ref q0_2) q0_3 q0_4 (.int 0) f53_106 f53_107 x1 f53_109 f53_110 f53_111 f53_112 [.int q0_13, .int q0_14, .ref q0_15, .int q0_16, .ref q0_17, .ref q0_18, .ref q0_19, .int q0_20, .ref q0_21, .ref q0_22, .int q0_23, .int q0_24, .int q0_25, .ref q0_26, .ref q0_27, .ref q0_28, .ref q0_29, .ref q0_30, .ref q0_31, .int q0_32, .ref q0_33, .ref q0_34, .ref q0_35] g53_1 t_a0 b_hg t_q0_3 t_q0_4 (by omega) (by omega) (by omega) (by omega) (by omega) (by omega) (by omega) (by omega) s_g53_1 (by omega) (by omega) ic53 (by omega) (by omega) (hO.sub (by decide))) kw_1366 kw_1368 ks_46 kw_13 kw_1369 (by decide +kernel) ⟨Nat.le_of_ble_eq_true rfl, Nat.le_of_ble_eq_true rfl⟩ (x_recv (ci := 12) hkb hH 0 rfl rfl) rfl rfl hl.1 (Nat.le_of_ble_eq_true rfl) dX12_wall_70 ⟨Nat.le_of_ble_eq_true rfl, Nat.le_of_ble_eq_true rfl⟩) (fun u H locs hz9 hH hS => ?_)
            obtain ⟨n70_0_6, n70_0_7, n70_0_9, n70_0_10, n70_0_11, n70_0_12, F70_1, rfl, x_v700, x_v701, x_v702, x_v703, x_v704, x_v705, x_v706⟩ := hz9
            have s_F70_1 := x_v700
            have hH : HT D cs A T (a0 :: q0_4 :: O) ((a0, .inr (12, [.int 0, .ref q0_1, .ref q0_2, .ref q0_3, .ref q0_4, .int 0, .int n70_0_6, .int n70_0_7, .int x1, .int n70_0_9, .int n70_0_10, .int n70_0_11, .int n70_0_12, .int q0_13, .int q0_14, .ref q0_15, .int q0_16, .ref q0_17, .ref q0_18, .ref q0_19, .int q0_20, .ref q0_21, .ref q0_22, .int q0_23, .int q0_24, .int q0_25, .ref q0_26, .ref q0_27, .ref q0_28, .ref q0_29, .ref q0_30, .ref q0_31, .int q0_32, .ref q0_33, .ref q0_34, .ref q0_35])) :: (q0_4, .inl (cs.2.1, 1302, .inl F70_1)) :: X) H := hH
            refine W.widen (k := 0) (n := 0) (Nat.le_of_ble_eq_true rfl) (Nat.le_of_ble_eq_true rfl) ?_
            refine lv_aload_n hx hb dX12_wall_73 rfl (lv_at hl 0 rfl) ?_
            refine lv_bipush (v := 30) hx hb dX12_wall_74 (by decide) ?_
            have z9_0 : (0 : Int32).toInt = 0 := by decide
            have z9_0 : (0 : Int32).toInt = 0 := by decide
            have z9_30 : (30 : Int32).toInt = 30 := by decide
            refine tk_i hH hS hA (tr_V (n := 1) (As := [.int 30]) hx hb hml hown hts hkb hH (ox_c (ox_c hOX)) hks hE hS hA (s_M_eats l D cs kf T (q0_4 :: O) ((q0_4, .inl (cs.2.1, 1302, .inl F70_1)) :: X) a0 hg mq (30) (.int 0) (.ref q0_1) (.ref q0_2) q0_3 q0_4 (.int 0) n70_0_6 n70_0_7 x1 n70_0_9 n70_0_10 n70_0_11 n70_0_12 [.int q0_13, .int q0_14, .ref q0_15, .int q0_16, .ref q0_17, .ref q0_18, .ref q0_19, .int q0_20, .ref q0_21, .ref q0_22, .int q0_23, .int q0_24, .int q0_25, .ref q0_26, .ref q0_27, .ref q0_28, .ref q0_29, .ref q0_30, .ref q0_31, .int q0_32, .ref q0_33, .ref q0_34, .ref q0_35] t_a0 b_hg t_q0_3 t_q0_4 (by omega) (by omega) (by omega) (by omega) (by omega) (by omega) (by omega) (by omega) (by omega) (by omega) x_v704 (by omega) (hO.sub (by decide))) kw_1390 kw_1392 ks_52 kw_13 kw_1393 (by decide +kernel) ⟨Nat.le_of_ble_eq_true rfl, Nat.le_of_ble_eq_true rfl⟩ (x_recv (ci := 12) hkb hH 0 rfl rfl) rfl rfl hl.1 (Nat.le_of_ble_eq_true rfl) dX12_wall_76 ⟨Nat.le_of_ble_eq_true rfl, Nat.le_of_ble_eq_true rfl⟩) (fun v76 u H locs hz9 hH hS => ?_)
            obtain ⟨n76_0_6, n76_0_7, n76_0_9, n76_0_10, rfl, l_v76, u_v76, x_v760, x_v761, x_v762, x_v763, x_v764, x_v765, x_v766⟩ := hz9
            have hH : HT D cs A T (a0 :: q0_4 :: O) ((a0, .inr (12, [.int 0, .ref q0_1, .ref q0_2, .ref q0_3, .ref q0_4, .int 0, .int n76_0_6, .int n76_0_7, .int x1, .int n76_0_9, .int n76_0_10, .int n70_0_11, .int n70_0_12, .int q0_13, .int q0_14, .ref q0_15, .int q0_16, .ref q0_17, .ref q0_18, .ref q0_19, .int q0_20, .ref q0_21, .ref q0_22, .int q0_23, .int q0_24, .int q0_25, .ref q0_26, .ref q0_27, .ref q0_28, .ref q0_29, .ref q0_30, .ref q0_31, .int q0_32, .ref q0_33, .ref q0_34, .ref q0_35])) :: (q0_4, .inl (cs.2.1, 1302, .inl F70_1)) :: X) H := hH
            refine W.widen (k := 0) (n := 0) (Nat.le_of_ble_eq_true rfl) (Nat.le_of_ble_eq_true rfl) ?_
            refine lv_if_ne (tgt := 87) hx hb dX12_wall_79 (by decide) (fun c79 => ?_) (fun c79 => ?_)
            · skip
              have tc79 := f_ne (k := 0) (by decide) c79
              replace x_v766 := x_v766.resolve_left tc79
              refine lv_aload_n hx hb dX12_wall_87 rfl (lv_at hl 0 rfl) ?_
              refine x_getk (ci := 12) (C := RX12) (F := TX12) (N := 36) (v := .ref q0_4) hx hb hts uX12 hown hkb hH 0 rfl rfl 4 (by decide) rfl kw_1227 (fun _ h9 => h9) dX12_wall_88 ?_
              refine lv_iconst (v := 0) hx hb dX12_wall_91 (by decide) ?_
              refine lv_dup2_11 hx hb dX12_wall_92 rfl rfl ?_
              refine xa_ild hx hb hkb hH 1 rfl (by decide) (by decide) dX12_wall_93 ?_
              refine lv_topi (fun v93 ev93 => ?_)
              have tv93 : v93 = F70_1 0 := by rw [ev93]; rfl
              refine lv_iconst (v := 1) hx hb dX12_wall_94 (by decide) ?_
              refine lv_iadd hx hb dX12_wall_95 ?_
              refine lv_topi (fun v95 ev95 => ?_)
              refine xa_ist hx hb hkb hH hS 1 rfl (by decide) (by decide) dX12_wall_96 (fun H locs hH hS => ?_)
              have hH : HT D cs A T (a0 :: q0_4 :: O) ((a0, .inr (12, [.int 0, .ref q0_1, .ref q0_2, .ref q0_3, .ref q0_4, .int 0, .int n76_0_6, .int n76_0_7, .int x1, .int n76_0_9, .int n76_0_10, .int n70_0_11, .int n70_0_12, .int q0_13, .int q0_14, .ref q0_15, .int q0_16, .ref q0_17, .ref q0_18, .ref q0_19, .int q0_20, .ref q0_21, .ref q0_22, .int q0_23, .int q0_24, .int q0_25, .ref q0_26, .ref q0_27, .ref q0_28, .ref q0_29, .ref q0_30, .ref q0_31, .int q0_32, .ref q0_33, .ref q0_34, .ref q0_35])) :: (q0_4, .inl (cs.2.1, 1302, .inl (upd F70_1 (0) v95))) :: X) H := hH
              obtain ⟨F96, eF96⟩ : ∃ f9, f9 = upd F70_1 (0) v95 := ⟨_, rfl⟩
              have hH : HT D cs A T (a0 :: q0_4 :: O) ((a0, .inr (12, [.int 0, .ref q0_1, .ref q0_2, .ref q0_3, .ref q0_4, .int 0, .int n76_0_6, .int n76_0_7, .int x1, .int n76_0_9, .int n76_0_10, .int n70_0_11, .int n70_0_12, .int q0_13, .int q0_14, .ref q0_15, .int q0_16, .ref q0_17, .ref q0_18, .ref q0_19, .int q0_20, .ref q0_21, .ref q0_22, .int q0_23, .int q0_24, .int q0_25, .ref q0_26, .ref q0_27, .ref q0_28, .ref q0_29, .ref q0_30, .ref q0_31, .int q0_32, .ref q0_33, .ref q0_34, .ref q0_35])) :: (q0_4, .inl (cs.2.1, 1302, .inl F96)) :: X) H := eF96 ▸ hH
              have s_F96 : S8 F96 := eF96 ▸ S8_put (i := 0) (x := v95) s_F70_1 (by decide) (by decide) (⟨fun q9 => absurd q9 (by decide), fun q9 => absurd q9 (by decide), fun q9 => absurd q9 (by decide), fun q9 => absurd q9 (by decide), fun q9 => absurd q9 (by decide), fun q9 => absurd q9 (by decide), fun q9 => absurd q9 (by decide)⟩)
              have hw2 := wz_b n70_0_11
              refine lv_goto (tgt := 53) hx hb dX12_wall_97 (by decide) ?_
              exact ih53 _ (by omega) n76_0_6 n76_0_7 n76_0_9 n76_0_10 n70_0_11 n70_0_12 F96 _ _ _ rfl s_F96 (by omega) (by omega) (by omega) (by omega) (by omega) (by omega) (by omega) (by omega) x_v763 hH hS (lv_sub hl [0] rfl)
            · skip
              have tc79 := f_eq (k := 0) (by decide) c79
              clear x_v766
              refine lv_aload_n hx hb dX12_wall_82 rfl (lv_at hl 0 rfl) ?_
              refine lv_iconst (v := 2) hx hb dX12_wall_83 (by decide) ?_
              have z9_0 : (0 : Int32).toInt = 0 := by decide
              have z9_0 : (0 : Int32).toInt = 0 := by decide
              have z9_2 : (2 : Int32).toInt = 2 := by decide
              refine tk_v hH hS hA (tr_V (n := 1) (As := [.int 2]) hx hb hml hown hts hkb hH (ox_c (ox_c hOX)) hks hE hS hA (s_M_fails l D cs kf T (q0_4 :: O) ((q0_4, .inl (cs.2.1, 1302, .inl F70_1)) :: X) a0 hg mq (2) (.int 0) (.ref q0_1) (.ref q0_2) q0_3 q0_4 (.int 0) n76_0_6 n76_0_7 x1 n76_0_9 n76_0_10 n70_0_11 n70_0_12 [.int q0_13, .int q0_14, .ref q0_15, .int q0_16, .ref q0_17, .ref q0_18, .ref q0_19, .int q0_20, .ref q0_21, .ref q0_22, .int q0_23, .int q0_24, .int q0_25, .ref q0_26, .ref q0_27, .ref q0_28, .ref q0_29, .ref q0_30, .ref q0_31, .int q0_32, .ref q0_33, .ref q0_34, .ref q0_35] t_a0 b_hg (by decide) (by decide) t_q0_3 t_q0_4 (by omega) (by omega) (by omega) (by omega) (by omega) (by omega) (by omega) (by omega) (hO.sub (by decide))) kw_1378 kw_1380 ks_49 kw_13 kw_1381 (by decide +kernel) ⟨Nat.le_of_ble_eq_true rfl, Nat.le_of_ble_eq_true rfl⟩ (x_recv (ci := 12) hkb hH 0 rfl rfl) rfl rfl hl.1 (Nat.le_of_ble_eq_true rfl) dX12_wall_84 ⟨Nat.le_of_ble_eq_true rfl, Nat.le_of_ble_eq_true rfl⟩) (fun u H locs hz9 hH hS => ?_)
              obtain ⟨n84_0_11, n84_0_12, rfl, x_v840⟩ := hz9
              have hH : HT D cs A T (a0 :: q0_4 :: O) ((a0, .inr (12, [.int 0, .ref q0_1, .ref q0_2, .ref q0_3, .ref q0_4, .int 0, .int n76_0_6, .int n76_0_7, .int x1, .int n76_0_9, .int n76_0_10, .int n84_0_11, .int n84_0_12, .int q0_13, .int q0_14, .ref q0_15, .int q0_16, .ref q0_17, .ref q0_18, .ref q0_19, .int q0_20, .ref q0_21, .ref q0_22, .int q0_23, .int q0_24, .int q0_25, .ref q0_26, .ref q0_27, .ref q0_28, .ref q0_29, .ref q0_30, .ref q0_31, .int q0_32, .ref q0_33, .ref q0_34, .ref q0_35])) :: (q0_4, .inl (cs.2.1, 1302, .inl F70_1)) :: X) H := hH
              refine W.widen (k := 0) (n := 0) (Nat.le_of_ble_eq_true rfl) (Nat.le_of_ble_eq_true rfl) ?_
              refine lv_aload_n hx hb dX12_wall_87 rfl (lv_at hl 0 rfl) ?_
              refine x_getk (ci := 12) (C := RX12) (F := TX12) (N := 36) (v := .ref q0_4) hx hb hts uX12 hown hkb hH 0 rfl rfl 4 (by decide) rfl kw_1227 (fun _ h9 => h9) dX12_wall_88 ?_
              refine lv_iconst (v := 0) hx hb dX12_wall_91 (by decide) ?_
              refine lv_dup2_11 hx hb dX12_wall_92 rfl rfl ?_
              refine xa_ild hx hb hkb hH 1 rfl (by decide) (by decide) dX12_wall_93 ?_
              refine lv_topi (fun v93 ev93 => ?_)
              have tv93 : v93 = F70_1 0 := by rw [ev93]; rfl
              refine lv_iconst (v := 1) hx hb dX12_wall_94 (by decide) ?_
              refine lv_iadd hx hb dX12_wall_95 ?_
              refine lv_topi (fun v95 ev95 => ?_)
              refine xa_ist hx hb hkb hH hS 1 rfl (by decide) (by decide) dX12_wall_96 (fun H locs hH hS => ?_)
              have hH : HT D cs A T (a0 :: q0_4 :: O) ((a0, .inr (12, [.int 0, .ref q0_1, .ref q0_2, .ref q0_3, .ref q0_4, .int 0, .int n76_0_6, .int n76_0_7, .int x1, .int n76_0_9, .int n76_0_10, .int n84_0_11, .int n84_0_12, .int q0_13, .int q0_14, .ref q0_15, .int q0_16, .ref q0_17, .ref q0_18, .ref q0_19, .int q0_20, .ref q0_21, .ref q0_22, .int q0_23, .int q0_24, .int q0_25, .ref q0_26, .ref q0_27, .ref q0_28, .ref q0_29, .ref q0_30, .ref q0_31, .int q0_32, .ref q0_33, .ref q0_34, .ref q0_35])) :: (q0_4, .inl (cs.2.1, 1302, .inl (upd F70_1 (0) v95))) :: X) H := hH
              obtain ⟨F96, eF96⟩ : ∃ f9, f9 = upd F70_1 (0) v95 := ⟨_, rfl⟩
              have hH : HT D cs A T (a0 :: q0_4 :: O) ((a0, .inr (12, [.int 0, .ref q0_1, .ref q0_2, .ref q0_3, .ref q0_4, .int 0, .int n76_0_6, .int n76_0_7, .int x1, .int n76_0_9, .int n76_0_10, .int n84_0_11, .int n84_0_12, .int q0_13, .int q0_14, .ref q0_15, .int q0_16, .ref q0_17, .ref q0_18, .ref q0_19, .int q0_20, .ref q0_21, .ref q0_22, .int q0_23, .int q0_24, .int q0_25, .ref q0_26, .ref q0_27, .ref q0_28, .ref q0_29, .ref q0_30, .ref q0_31, .int q0_32, .ref q0_33, .ref q0_34, .ref q0_35])) :: (q0_4, .inl (cs.2.1, 1302, .inl F96)) :: X) H := eF96 ▸ hH
              have s_F96 : S8 F96 := eF96 ▸ S8_put (i := 0) (x := v95) s_F70_1 (by decide) (by decide) (⟨fun q9 => absurd q9 (by decide), fun q9 => absurd q9 (by decide), fun q9 => absurd q9 (by decide), fun q9 => absurd q9 (by decide), fun q9 => absurd q9 (by decide), fun q9 => absurd q9 (by decide), fun q9 => absurd q9 (by decide)⟩)
              have hw2 := wz_b n84_0_11
              try have hw3 := wz_0 x_v840
              refine lv_goto (tgt := 53) hx hb dX12_wall_97 (by decide) ?_
              exact ih53 _ (by omega) n76_0_6 n76_0_7 n76_0_9 n76_0_10 n84_0_11 n84_0_12 F96 _ _ _ rfl s_F96 (by omega) (by omega) (by omega) (by omega) (by omega) (by omega) (by omega) (by omega) x_v763 hH hS (lv_sub hl [0] rfl)
    have z9_0 : (0 : Int32).toInt = 0 := by decide
    have z9_0 : (0 : Int32).toInt = 0 := by decide
    have z9_0 : (0 : Int32).toInt = 0 := by decide
    have z9_0 : (0 : Int32).toInt = 0 := by decide
    refine tk_v hH hS hA (tr_V (n := 0) (As := []) hx hb hml hown hts hkb hH (ox_c (ox_c hOX)) hks hE hS hA (s_M_next0 l D cs kf T (q0_4 :: O) ((q0_4, .inl (cs.2.1, 1302, .inl F46_1)) :: X) a0 hg mq (.int 0) (.ref q0_1) (.ref q0_2) q0_3 q0_4 (.int 0) q0_6 (0) x1 q0_9 q0_10 (0) q0_12 [.int q0_13, .int q0_14, .ref q0_15, .int q0_16, .ref q0_17, .ref q0_18, .ref q0_19, .int q0_20, .ref q0_21, .ref q0_22, .int q0_23, .int q0_24, .int q0_25, .ref q0_26, .ref q0_27, .ref q0_28, .ref q0_29, .ref q0_30, .ref q0_31, .int q0_32, .ref q0_33, .ref q0_34, .ref q0_35] t_a0 b_hg t_q0_3 t_q0_4 (by decide) (by decide) (by omega) (by omega) (by omega) (by omega) (by omega) (hO.sub (by decide))) kw_1344 kw_1346 ks_43 kw_13 kw_1347 (by decide +kernel) ⟨Nat.le_of_ble_eq_true rfl, Nat.le_of_ble_eq_true rfl⟩ (x_recv (ci := 12) hkb hH 0 rfl rfl) rfl rfl hl.1 (Nat.le_of_ble_eq_true rfl) dX12_wall_50 ⟨Nat.le_of_ble_eq_true rfl, Nat.le_of_ble_eq_true rfl⟩) (fun u H locs hz9 hH hS => ?_)
    obtain ⟨n50_0_6, n50_0_7, n50_0_9, n50_0_10, rfl, x_v500, x_v501, x_v502, x_v503, x_v504, x_v505⟩ := hz9
    have hH : HT D cs A T (a0 :: q0_4 :: O) ((a0, .inr (12, [.int 0, .ref q0_1, .ref q0_2, .ref q0_3, .ref q0_4, .int 0, .int n50_0_6, .int n50_0_7, .int x1, .int n50_0_9, .int n50_0_10, .int 0, .int q0_12, .int q0_13, .int q0_14, .ref q0_15, .int q0_16, .ref q0_17, .ref q0_18, .ref q0_19, .int q0_20, .ref q0_21, .ref q0_22, .int q0_23, .int q0_24, .int q0_25, .ref q0_26, .ref q0_27, .ref q0_28, .ref q0_29, .ref q0_30, .ref q0_31, .int q0_32, .ref q0_33, .ref q0_34, .ref q0_35])) :: (q0_4, .inl (cs.2.1, 1302, .inl F46_1)) :: X) H := hH
    refine W.widen (k := 0) (n := 0) (Nat.le_of_ble_eq_true rfl) (Nat.le_of_ble_eq_true rfl) ?_
    have z_0 : (0 : Int32).toInt = 0 := by decide
    exact J53 _ n50_0_6 n50_0_7 n50_0_9 n50_0_10 0 q0_12 F46_1 _ _ _ rfl s_F46_1 (by omega) (by omega) (by omega) (by omega) (by omega) (by omega) (by omega) (by omega) x_v503 hH hS (lv_sub hl [0] rfl)
  · skip
    have tc16 := f_eq (k := 0) (by decide) c16
    clear x_v130
    replace x_v131 := x_v131.resolve_left (fun q9 => q9 tc16)
    refine lv_bipush (v := (-3)) hx hb dX12_wall_19 (by decide) ?_
    have hH : HT D cs A T (q0_4 :: O) ((q0_4, .inl (cs.2.1, 1302, .inl f4)) :: X) H := HT.lay (ci := 12) hH t_a0 (okL_c (⟨_, rfl⟩) (okL_c (⟨_, rfl, t_q0_1⟩) (okL_c (⟨_, rfl, t_q0_2⟩) (okL_c (⟨_, rfl, t_q0_3⟩) (okL_c (⟨_, rfl, t_q0_4⟩) (okL_c (⟨_, rfl, by omega, by omega⟩) (okL_c (⟨_, rfl⟩) (okL_c (⟨_, rfl⟩) (okL_c (⟨_, rfl⟩) (okL_c (⟨_, rfl⟩) (okL_c (⟨_, rfl, by omega, by omega⟩) (okL_c (⟨_, rfl⟩) (okL_c (⟨_, rfl⟩) (okL_c (⟨_, rfl⟩) (okL_c (⟨_, rfl⟩) (okL_c (⟨_, rfl, t_q0_15⟩) (okL_c (⟨_, rfl⟩) (okL_c (⟨_, rfl, t_q0_17⟩) (okL_c (⟨_, rfl, t_q0_18⟩) (okL_c (⟨_, rfl, t_q0_19⟩) (okL_c (⟨_, rfl, by omega, by omega⟩) (okL_c (⟨_, rfl, t_q0_21⟩) (okL_c (⟨_, rfl, t_q0_22⟩) (okL_c (⟨_, rfl⟩) (okL_c (⟨_, rfl⟩) (okL_c (⟨_, rfl⟩) (okL_c (⟨_, rfl, t_q0_26⟩) (okL_c (⟨_, rfl, t_q0_27⟩) (okL_c (⟨_, rfl, t_q0_28⟩) (okL_c (⟨_, rfl, t_q0_29⟩) (okL_c (⟨_, rfl, t_q0_30⟩) (okL_c (⟨_, rfl, t_q0_31⟩) (okL_c (⟨_, rfl⟩) (okL_c (⟨_, rfl, t_q0_33⟩) (okL_c (⟨_, rfl, t_q0_34⟩) (okL_c (⟨_, rfl, t_q0_35⟩) (okL_n)))))))))))))))))))))))))))))))))))))
    have hO := hO0
    have hH : HT D cs A T O X H := HT.layA hH t_q0_4 (show sp cs T (8, 1302, 0) _ from ⟨_, rfl, B8_of s_f4, fun q => absurd q (by decide)⟩)
    have z9_m3 : ((-3) : Int32).toInt = -3 := by decide
    exact te_i hx hb hr hlocks hH hS (⟨T, hg, rfl, Trm.rf, t_a0, b_hg⟩) dX12_wall_21
theorem dX12_lists_0 : decode cX12_lists 0 = .ok (.aload_n 0, 1) := by decide +kernel
theorem dX12_lists_1 : decode cX12_lists 1 = .ok (.iconst 0, 1) := by decide +kernel
theorem dX12_lists_2 : decode cX12_lists 2 = .ok (.putfield 1, 3) := by decide +kernel
theorem dX12_lists_5 : decode cX12_lists 5 = .ok (.iload_n 1, 1) := by decide +kernel
theorem dX12_lists_6 : decode cX12_lists 6 = .ok (.i2l, 1) := by decide +kernel
theorem dX12_lists_7 : decode cX12_lists 7 = .ok (.lconst 0, 1) := by decide +kernel
theorem dX12_lists_8 : decode cX12_lists 8 = .ok (.ldc2_w 275, 3) := by decide +kernel
theorem dX12_lists_11 : decode cX12_lists 11 = .ok (.invokestatic 144, 3) := by decide +kernel
theorem dX12_lists_14 : decode cX12_lists 14 = .ok (.ifCond .eq 12, 3) := by decide +kernel
theorem dX12_lists_17 : decode cX12_lists 17 = .ok (.aload_n 0, 1) := by decide +kernel
theorem dX12_lists_18 : decode cX12_lists 18 = .ok (.iload_n 2, 1) := by decide +kernel
theorem dX12_lists_19 : decode cX12_lists 19 = .ok (.i2l, 1) := by decide +kernel
theorem dX12_lists_20 : decode cX12_lists 20 = .ok (.invokevirtual 222, 3) := by decide +kernel
theorem dX12_lists_23 : decode cX12_lists 23 = .ok (.ifCond .ne 6, 3) := by decide +kernel
theorem dX12_lists_26 : decode cX12_lists 26 = .ok (.bipush (-2), 2) := by decide +kernel
theorem dX12_lists_28 : decode cX12_lists 28 = .ok (.ireturn, 1) := by decide +kernel
theorem dX12_lists_29 : decode cX12_lists 29 = .ok (.aload_n 0, 1) := by decide +kernel
theorem dX12_lists_30 : decode cX12_lists 30 = .ok (.iload_n 1, 1) := by decide +kernel
theorem dX12_lists_31 : decode cX12_lists 31 = .ok (.invokevirtual 289, 3) := by decide +kernel
theorem dX12_lists_34 : decode cX12_lists 34 = .ok (.istore_n 3, 1) := by decide +kernel
theorem dX12_lists_35 : decode cX12_lists 35 = .ok (.iload_n 3, 1) := by decide +kernel
theorem dX12_lists_36 : decode cX12_lists 36 = .ok (.ifCond .eq 5, 3) := by decide +kernel
theorem dX12_lists_39 : decode cX12_lists 39 = .ok (.iload_n 3, 1) := by decide +kernel
theorem dX12_lists_40 : decode cX12_lists 40 = .ok (.ireturn, 1) := by decide +kernel
theorem dX12_lists_41 : decode cX12_lists 41 = .ok (.aload_n 0, 1) := by decide +kernel
theorem dX12_lists_42 : decode cX12_lists 42 = .ok (.iload_n 2, 1) := by decide +kernel
theorem dX12_lists_43 : decode cX12_lists 43 = .ok (.invokevirtual 304, 3) := by decide +kernel
theorem dX12_lists_46 : decode cX12_lists 46 = .ok (.ifCond .ne 6, 3) := by decide +kernel
theorem dX12_lists_49 : decode cX12_lists 49 = .ok (.bipush (-5), 2) := by decide +kernel
theorem dX12_lists_51 : decode cX12_lists 51 = .ok (.ireturn, 1) := by decide +kernel
theorem dX12_lists_52 : decode cX12_lists 52 = .ok (.aload_n 0, 1) := by decide +kernel
theorem dX12_lists_53 : decode cX12_lists 53 = .ok (.getfield 266, 3) := by decide +kernel
theorem dX12_lists_56 : decode cX12_lists 56 = .ok (.iconst 1, 1) := by decide +kernel
theorem dX12_lists_57 : decode cX12_lists 57 = .ok (.iadd, 1) := by decide +kernel
theorem dX12_lists_58 : decode cX12_lists 58 = .ok (.aload_n 0, 1) := by decide +kernel
theorem dX12_lists_59 : decode cX12_lists 59 = .ok (.getfield 72, 3) := by decide +kernel
theorem dX12_lists_62 : decode cX12_lists 62 = .ok (.iload_n 1, 1) := by decide +kernel
theorem dX12_lists_63 : decode cX12_lists 63 = .ok (.iaload, 1) := by decide +kernel
theorem dX12_lists_64 : decode cX12_lists 64 = .ok (.if_icmp .ge 12, 3) := by decide +kernel
theorem dX12_lists_67 : decode cX12_lists 67 = .ok (.aload_n 0, 1) := by decide +kernel
theorem dX12_lists_68 : decode cX12_lists 68 = .ok (.getfield 266, 3) := by decide +kernel
theorem dX12_lists_71 : decode cX12_lists 71 = .ok (.iconst 1, 1) := by decide +kernel
theorem dX12_lists_72 : decode cX12_lists 72 = .ok (.iadd, 1) := by decide +kernel
theorem dX12_lists_73 : decode cX12_lists 73 = .ok (.goto 9, 3) := by decide +kernel
theorem dX12_lists_76 : decode cX12_lists 76 = .ok (.aload_n 0, 1) := by decide +kernel
theorem dX12_lists_77 : decode cX12_lists 77 = .ok (.getfield 72, 3) := by decide +kernel
theorem dX12_lists_80 : decode cX12_lists 80 = .ok (.iload_n 1, 1) := by decide +kernel
theorem dX12_lists_81 : decode cX12_lists 81 = .ok (.iaload, 1) := by decide +kernel
theorem dX12_lists_82 : decode cX12_lists 82 = .ok (.istore 4, 2) := by decide +kernel
theorem dX12_lists_84 : decode cX12_lists 84 = .ok (.iconst 0, 1) := by decide +kernel
theorem dX12_lists_85 : decode cX12_lists 85 = .ok (.istore 5, 2) := by decide +kernel
theorem dX12_lists_87 : decode cX12_lists 87 = .ok (.iload 5, 2) := by decide +kernel
theorem dX12_lists_89 : decode cX12_lists 89 = .ok (.iload 4, 2) := by decide +kernel
theorem dX12_lists_91 : decode cX12_lists 91 = .ok (.if_icmp .ge 41, 3) := by decide +kernel
theorem dX12_lists_94 : decode cX12_lists 94 = .ok (.aload_n 0, 1) := by decide +kernel
theorem dX12_lists_95 : decode cX12_lists 95 = .ok (.getfield 75, 3) := by decide +kernel
theorem dX12_lists_98 : decode cX12_lists 98 = .ok (.bipush 40, 2) := by decide +kernel
theorem dX12_lists_100 : decode cX12_lists 100 = .ok (.iload_n 1, 1) := by decide +kernel
theorem dX12_lists_101 : decode cX12_lists 101 = .ok (.imul, 1) := by decide +kernel
theorem dX12_lists_102 : decode cX12_lists 102 = .ok (.iload 5, 2) := by decide +kernel
theorem dX12_lists_104 : decode cX12_lists 104 = .ok (.iadd, 1) := by decide +kernel
theorem dX12_lists_105 : decode cX12_lists 105 = .ok (.iload 5, 2) := by decide +kernel
theorem dX12_lists_107 : decode cX12_lists 107 = .ok (.ifCond .ne 8, 3) := by decide +kernel
theorem dX12_lists_110 : decode cX12_lists 110 = .ok (.iload_n 2, 1) := by decide +kernel
theorem dX12_lists_111 : decode cX12_lists 111 = .ok (.i2l, 1) := by decide +kernel
theorem dX12_lists_112 : decode cX12_lists 112 = .ok (.goto 13, 3) := by decide +kernel
theorem dX12_lists_115 : decode cX12_lists 115 = .ok (.aload_n 0, 1) := by decide +kernel
theorem dX12_lists_116 : decode cX12_lists 116 = .ok (.getfield 39, 3) := by decide +kernel
theorem dX12_lists_119 : decode cX12_lists 119 = .ok (.iload 5, 2) := by decide +kernel
theorem dX12_lists_121 : decode cX12_lists 121 = .ok (.iconst 1, 1) := by decide +kernel
theorem dX12_lists_122 : decode cX12_lists 122 = .ok (.isub, 1) := by decide +kernel
theorem dX12_lists_123 : decode cX12_lists 123 = .ok (.iaload, 1) := by decide +kernel
theorem dX12_lists_124 : decode cX12_lists 124 = .ok (.i2l, 1) := by decide +kernel
theorem dX12_lists_125 : decode cX12_lists 125 = .ok (.lastore, 1) := by decide +kernel
theorem dX12_lists_126 : decode cX12_lists 126 = .ok (.iinc 5 1, 3) := by decide +kernel
theorem dX12_lists_129 : decode cX12_lists 129 = .ok (.goto (-42), 3) := by decide +kernel
theorem dX12_lists_132 : decode cX12_lists 132 = .ok (.iload 4, 2) := by decide +kernel
theorem dX12_lists_134 : decode cX12_lists 134 = .ok (.ireturn, 1) := by decide +kernel
set_option maxHeartbeats 4000000 in
set_option maxRecDepth 100000 in
theorem s_M_lists (l : Launch) (D : va_G) (cs : CS) (kf : KF) (T : TF) (O : List Nat) (X : va_W) (a0 hg mq : Nat) (x1 : Int32) (x2 : Int32) (t_a0 : T a0 = some (22, hg, mq)) (b_hg : hg < 90) (hO : okO T O [1, 2, 8, 9, 22]) : TK l D cs kf yX12_lists cX12_lists 6 (some (.int)) { frames := 6, cells := 0, slots := 0, locals := 140 } [.ref a0, .int x1, .int x2] T O X (Ti D cs (fun r u => u = (T, O, X) ∧ -6 ≤ r.toInt ∧ r.toInt ≤ 15)) := by
  refine tk_of (by decide) (Nat.le_of_ble_eq_true rfl) (fun p e s m below meth c ls A H locs hx hb hr hml hown hts hlocks hnm hkb hH hS hA hOX hks hE hl => ?_)
  have hown : s.vm.findClass RX12 = some m.cls := hown
  have hl : lv_has ls 6 [(0, .ref a0), (1, .int x1), (2, .int x2)] := hl
  refine lv_aload_n hx hb dX12_lists_0 rfl (lv_at hl 0 rfl) ?_
  refine lv_iconst (v := 0) hx hb dX12_lists_1 (by decide) ?_
  refine t_put (ci := 12) (lst := ft12 hg mq) (v := .int 0) (ty := tyX12 0) (C := RX12) (F := TX12) (N := 36) hx hb hts uX12 tyX12 tyX12_ok nmX12 hown hkb hH hS t_a0 (hO.no t_a0 (by decide)) (fun _ => Iff.rfl) rfl rfl 0 (by decide) rfl (⟨_, rfl⟩) kw_1223 (fun _ h9 => h9) rfl (tyX12_ok 0 (by decide)) rfl rfl dX12_lists_2 (fun H locs hH hS => ?_)
  refine lv_iload_n hx hb dX12_lists_5 rfl (lv_at hl 1 rfl) ?_
  refine lv_i2l hx hb dX12_lists_6 rfl ?_
  refine lv_lconst (v := 0) hx hb dX12_lists_7 (by decide) ?_
  refine lv_ldc2 hx hb hown (hts _ kw_1527) dX12_lists_8 ?_
  refine tk_i hH hS hA (tr_S (n := 3) (As := [.long x1.toInt64, .long 0, .long 3]) hx hb hml hown hts hkb hH hOX hks hE hS hA (s_M_within l D cs kf T O X x1.toInt64 0 3  (hO.sub (by decide))) kw_1341 kw_1342 kw_13 kw_1343 (by decide +kernel) ⟨Nat.le_of_ble_eq_true rfl, Nat.le_of_ble_eq_true rfl⟩ rfl rfl hl.1 (Nat.le_of_ble_eq_true rfl) dX12_lists_11 ⟨Nat.le_of_ble_eq_true rfl, Nat.le_of_ble_eq_true rfl⟩) (fun v11 u H locs hz9 hH hS => ?_)
  obtain ⟨rfl, l_v11, u_v11, x_v110, x_v111⟩ := hz9
  simp only [Int32.toInt_toInt64] at x_v110 x_v111
  have k9_0 : (0 : Int64).toInt = 0 := by decide
  have k9_3 : (3 : Int64).toInt = 3 := by decide
  have hH : HT D cs A T O X H := hH
  refine W.widen (k := 0) (n := 0) (Nat.le_of_ble_eq_true rfl) (Nat.le_of_ble_eq_true rfl) ?_
  have J26 : ∀  (H : Heap) (locs : List Loc) (ls : Array Slot), HT D cs A T O X H → va_S A s.heap H locs → lv_has ls 6 [] → W p l e { frames := 6, cells := 0, slots := 0, locals := 140 } s m [.ref a0, .int x1, .int x2].toArray below meth c H locs 0 0 (MQ below (Ti D cs (fun r u => u = (T, O, X) ∧ -6 ≤ r.toInt ∧ r.toInt ≤ 15) A) [.ref a0, .int x1, .int x2].toArray s 0 0 A) (F0 m 26 ls []) := by
    intro  H locs ls  hH hS hl
    refine lv_bipush (v := (-2)) hx hb dX12_lists_26 (by decide) ?_
    have z9_m2 : ((-2) : Int32).toInt = -2 := by decide
    exact te_i hx hb hr hlocks hH hS (⟨rfl, by decide, by decide⟩) dX12_lists_28
  refine lv_if_eq (tgt := 26) hx hb dX12_lists_14 (by decide) (fun c14 => ?_) (fun c14 => ?_)
  · skip
    have tc14 := f_eq (k := 0) (by decide) c14
    clear x_v110
    replace x_v111 := x_v111.resolve_left (fun q9 => q9 tc14)
    exact J26  _ _ _  hH hS (lv_sub hl [] rfl)
  · skip
    have tc14 := f_ne (k := 0) (by decide) c14
    replace x_v110 := x_v110.resolve_left tc14
    clear x_v111
    refine lv_aload_n hx hb dX12_lists_17 rfl (lv_at hl 0 rfl) ?_
    refine lv_iload_n hx hb dX12_lists_18 rfl (lv_at hl 2 rfl) ?_
    refine lv_i2l hx hb dX12_lists_19 rfl ?_
    refine tk_i hH hS hA (tr_V (n := 1) (As := [.long x2.toInt64]) hx hb hml hown hts hkb hH hOX hks hE hS hA (s_M_isGuide l D cs kf T O X a0 hg mq x2.toInt64 t_a0 b_hg (hO.sub (by decide))) kw_1470 kw_1472 ks_67 kw_13 kw_1473 (by decide +kernel) ⟨Nat.le_of_ble_eq_true rfl, Nat.le_of_ble_eq_true rfl⟩ (HT.recv (ci := 12) hkb hH t_a0 (hO.no t_a0 (by decide)) rfl) rfl rfl hl.1 (Nat.le_of_ble_eq_true rfl) dX12_lists_20 ⟨Nat.le_of_ble_eq_true rfl, Nat.le_of_ble_eq_true rfl⟩) (fun v20 u H locs hz9 hH hS => ?_)
    obtain ⟨rfl, l_v20, u_v20, x_v200⟩ := hz9
    simp only [Int32.toInt_toInt64] at x_v200
    have hH : HT D cs A T O X H := hH
    refine W.widen (k := 0) (n := 0) (Nat.le_of_ble_eq_true rfl) (Nat.le_of_ble_eq_true rfl) ?_
    refine lv_if_ne (tgt := 29) hx hb dX12_lists_23 (by decide) (fun c23 => ?_) (fun c23 => ?_)
    · skip
      have tc23 := f_ne (k := 0) (by decide) c23
      replace x_v200 := x_v200.resolve_left tc23
      refine lv_aload_n hx hb dX12_lists_29 rfl (lv_at hl 0 rfl) ?_
      refine lv_iload_n hx hb dX12_lists_30 rfl (lv_at hl 1 rfl) ?_
      refine tk_i hH hS hA (tr_V (n := 1) (As := [.int x1]) hx hb hml hown hts hkb hH hOX hks hE hS hA (s_M_noTray l D cs kf T O X a0 hg mq x1 t_a0 b_hg (hO.sub (by decide))) kw_1523 kw_1525 ks_75 kw_13 kw_1526 (by decide +kernel) ⟨Nat.le_of_ble_eq_true rfl, Nat.le_of_ble_eq_true rfl⟩ (HT.recv (ci := 12) hkb hH t_a0 (hO.no t_a0 (by decide)) rfl) rfl rfl hl.1 (Nat.le_of_ble_eq_true rfl) dX12_lists_31 ⟨Nat.le_of_ble_eq_true rfl, Nat.le_of_ble_eq_true rfl⟩) (fun v31 u H locs hz9 hH hS => ?_)
      obtain ⟨rfl, l_v31, u_v31, x_v310⟩ := hz9
      have hH : HT D cs A T O X H := hH
      refine W.widen (k := 0) (n := 0) (Nat.le_of_ble_eq_true rfl) (Nat.le_of_ble_eq_true rfl) ?_
      refine lv_istore_n (lv' := [(3, .int v31), (0, .ref a0), (1, .int x1), (2, .int x2)]) hx hb dX12_lists_34 rfl hl (by decide) rfl (fun ls hl => ?_)
      refine lv_iload_n hx hb dX12_lists_35 rfl (lv_at hl 0 rfl) ?_
      refine lv_if_eq (tgt := 41) hx hb dX12_lists_36 (by decide) (fun c36 => ?_) (fun c36 => ?_)
      · skip
        have tc36 := f_eq (k := 0) (by decide) c36
        refine lv_aload_n hx hb dX12_lists_41 rfl (lv_at hl 1 rfl) ?_
        refine lv_iload_n hx hb dX12_lists_42 rfl (lv_at hl 3 rfl) ?_
        refine tk_i hH hS hA (tr_V (n := 1) (As := [.int x2]) hx hb hml hown hts hkb hH hOX hks hE hS hA (s_M_laysWayOf l D cs kf T O X a0 hg mq x2 t_a0 b_hg (by omega) (by omega) (hO.sub (by decide))) kw_1560 kw_1562 ks_82 kw_13 kw_1563 (by decide +kernel) ⟨Nat.le_of_ble_eq_true rfl, Nat.le_of_ble_eq_true rfl⟩ (HT.recv (ci := 12) hkb hH t_a0 (hO.no t_a0 (by decide)) rfl) rfl rfl hl.1 (Nat.le_of_ble_eq_true rfl) dX12_lists_43 ⟨Nat.le_of_ble_eq_true rfl, Nat.le_of_ble_eq_true rfl⟩) (fun v43 u H locs hz9 hH hS => ?_)
        obtain ⟨rfl, l_v43, u_v43⟩ := hz9
        have hH : HT D cs A T O X H := hH
        refine W.widen (k := 0) (n := 0) (Nat.le_of_ble_eq_true rfl) (Nat.le_of_ble_eq_true rfl) ?_
        refine lv_if_ne (tgt := 52) hx hb dX12_lists_46 (by decide) (fun c46 => ?_) (fun c46 => ?_)
        · skip
          have tc46 := f_ne (k := 0) (by decide) c46
          have hO0 := hO
          obtain ⟨fs9, ho9, hH⟩ := hH.take t_a0 (hO0.no t_a0 (by decide))
          have hp0 : okL T (ft12 hg mq) fs9 := ho9
          clear ho9
          obtain ⟨v9, fs9, rfl, h9, hp1⟩ := okL_i hp0
          obtain ⟨q52_0, rfl⟩ := h9
          obtain ⟨v9, fs9, rfl, h9, hp2⟩ := okL_i hp1
          obtain ⟨q52_1, rfl, t_q52_1⟩ := h9
          obtain ⟨v9, fs9, rfl, h9, hp3⟩ := okL_i hp2
          obtain ⟨q52_2, rfl, t_q52_2⟩ := h9
          obtain ⟨v9, fs9, rfl, h9, hp4⟩ := okL_i hp3
          obtain ⟨q52_3, rfl, t_q52_3⟩ := h9
          obtain ⟨v9, fs9, rfl, h9, hp5⟩ := okL_i hp4
          obtain ⟨q52_4, rfl, t_q52_4⟩ := h9
          obtain ⟨v9, fs9, rfl, h9, hp6⟩ := okL_i hp5
          obtain ⟨q52_5, rfl, l_q52_5, u_q52_5⟩ := h9
          obtain ⟨v9, fs9, rfl, h9, hp7⟩ := okL_i hp6
          obtain ⟨q52_6, rfl⟩ := h9
          obtain ⟨v9, fs9, rfl, h9, hp8⟩ := okL_i hp7
          obtain ⟨q52_7, rfl⟩ := h9
          obtain ⟨v9, fs9, rfl, h9, hp9⟩ := okL_i hp8
          obtain ⟨q52_8, rfl⟩ := h9
          obtain ⟨v9, fs9, rfl, h9, hp10⟩ := okL_i hp9
          obtain ⟨q52_9, rfl⟩ := h9
          obtain ⟨v9, fs9, rfl, h9, hp11⟩ := okL_i hp10
          obtain ⟨q52_10, rfl, l_q52_10, u_q52_10⟩ := h9
          obtain ⟨v9, fs9, rfl, h9, hp12⟩ := okL_i hp11
          obtain ⟨q52_11, rfl⟩ := h9
          obtain ⟨v9, fs9, rfl, h9, hp13⟩ := okL_i hp12
          obtain ⟨q52_12, rfl⟩ := h9
          obtain ⟨v9, fs9, rfl, h9, hp14⟩ := okL_i hp13
          obtain ⟨q52_13, rfl⟩ := h9
          obtain ⟨v9, fs9, rfl, h9, hp15⟩ := okL_i hp14
          obtain ⟨q52_14, rfl⟩ := h9
          obtain ⟨v9, fs9, rfl, h9, hp16⟩ := okL_i hp15
          obtain ⟨q52_15, rfl, t_q52_15⟩ := h9
          obtain ⟨v9, fs9, rfl, h9, hp17⟩ := okL_i hp16
          obtain ⟨q52_16, rfl⟩ := h9
          obtain ⟨v9, fs9, rfl, h9, hp18⟩ := okL_i hp17
          obtain ⟨q52_17, rfl, t_q52_17⟩ := h9
          obtain ⟨v9, fs9, rfl, h9, hp19⟩ := okL_i hp18
          obtain ⟨q52_18, rfl, t_q52_18⟩ := h9
          obtain ⟨v9, fs9, rfl, h9, hp20⟩ := okL_i hp19
          obtain ⟨q52_19, rfl, t_q52_19⟩ := h9
          obtain ⟨v9, fs9, rfl, h9, hp21⟩ := okL_i hp20
          obtain ⟨q52_20, rfl, l_q52_20, u_q52_20⟩ := h9
          obtain ⟨v9, fs9, rfl, h9, hp22⟩ := okL_i hp21
          obtain ⟨q52_21, rfl, t_q52_21⟩ := h9
          obtain ⟨v9, fs9, rfl, h9, hp23⟩ := okL_i hp22
          obtain ⟨q52_22, rfl, t_q52_22⟩ := h9
          obtain ⟨v9, fs9, rfl, h9, hp24⟩ := okL_i hp23
          obtain ⟨q52_23, rfl⟩ := h9
          obtain ⟨v9, fs9, rfl, h9, hp25⟩ := okL_i hp24
          obtain ⟨q52_24, rfl⟩ := h9
          obtain ⟨v9, fs9, rfl, h9, hp26⟩ := okL_i hp25
          obtain ⟨q52_25, rfl⟩ := h9
          obtain ⟨v9, fs9, rfl, h9, hp27⟩ := okL_i hp26
          obtain ⟨q52_26, rfl, t_q52_26⟩ := h9
          obtain ⟨v9, fs9, rfl, h9, hp28⟩ := okL_i hp27
          obtain ⟨q52_27, rfl, t_q52_27⟩ := h9
          obtain ⟨v9, fs9, rfl, h9, hp29⟩ := okL_i hp28
          obtain ⟨q52_28, rfl, t_q52_28⟩ := h9
          obtain ⟨v9, fs9, rfl, h9, hp30⟩ := okL_i hp29
          obtain ⟨q52_29, rfl, t_q52_29⟩ := h9
          obtain ⟨v9, fs9, rfl, h9, hp31⟩ := okL_i hp30
          obtain ⟨q52_30, rfl, t_q52_30⟩ := h9
          obtain ⟨v9, fs9, rfl, h9, hp32⟩ := okL_i hp31
          obtain ⟨q52_31, rfl, t_q52_31⟩ := h9
          obtain ⟨v9, fs9, rfl, h9, hp33⟩ := okL_i hp32
          obtain ⟨q52_32, rfl⟩ := h9
          obtain ⟨v9, fs9, rfl, h9, hp34⟩ := okL_i hp33
          obtain ⟨q52_33, rfl, t_q52_33⟩ := h9
          obtain ⟨v9, fs9, rfl, h9, hp35⟩ := okL_i hp34
          obtain ⟨q52_34, rfl, t_q52_34⟩ := h9
          obtain ⟨v9, fs9, rfl, h9, hp36⟩ := okL_i hp35
          obtain ⟨q52_35, rfl, t_q52_35⟩ := h9
          have hpz := okL_z hp36
          subst hpz
          have hH : HT D cs A T (a0 :: O) ((a0, .inr (12, [.int q52_0, .ref q52_1, .ref q52_2, .ref q52_3, .ref q52_4, .int q52_5, .int q52_6, .int q52_7, .int q52_8, .int q52_9, .int q52_10, .int q52_11, .int q52_12, .int q52_13, .int q52_14, .ref q52_15, .int q52_16, .ref q52_17, .ref q52_18, .ref q52_19, .int q52_20, .ref q52_21, .ref q52_22, .int q52_23, .int q52_24, .int q52_25, .ref q52_26, .ref q52_27, .ref q52_28, .ref q52_29, .ref q52_30, .ref q52_31, .int q52_32, .ref q52_33, .ref q52_34, .ref q52_35])) :: X) H := hH
          have hO : okO T (a0 :: O) [1, 2, 8, 9] := okO.cons (hO0.sub (by decide)) t_a0 (by decide)
          obtain ⟨e9, hs9, hH⟩ := HT.takeA hH t_q52_34 (nm_c (tag_ne t_q52_34 t_a0 (fun q => absurd (show 9 = 22 from congrArg Prod.fst q) (by decide))) (hO0.no t_q52_34 (by decide)))
          obtain ⟨f34, rfl, -, p_f34⟩ : ∃ f : Nat → Int32, e9 = .inl (cs.2.1, 4, .inl f) ∧ (4 ≠ 4 → ∀ j, cp (2 * mq + 1) (f j)) ∧ (4 = 4 → ∀ j, j < 4 → ((f j).toInt = pvr (2 * mq + 1) j ∧ -1 ≤ (f j).toInt ∧ (f j).toInt ≤ 40)) := hs9
          have p_f34 := p_f34 rfl
          have hO : okO T (q52_34 :: a0 :: O) [1, 2, 8] := okO.cons (hO.sub (by decide)) t_q52_34 (by decide)
          refine lv_aload_n hx hb dX12_lists_52 rfl (lv_at hl 1 rfl) ?_
          refine x_getk (ci := 12) (C := RX12) (F := TX12) (N := 36) (v := .int q52_20) hx hb hts uX12 hown hkb hH 1 rfl rfl 20 (by decide) rfl kw_1243 (fun _ h9 => h9) dX12_lists_53 ?_
          refine lv_iconst (v := 1) hx hb dX12_lists_56 (by decide) ?_
          refine lv_iadd hx hb dX12_lists_57 ?_
          refine lv_topi (fun v57 ev57 => ?_)
          have tv57 : v57.toInt = q52_20.toInt + (1) := by rw [ev57]; exact add_i rfl (by decide : (1 : Int32).toInt = 1) (by omega) (by omega)
          refine lv_aload_n hx hb dX12_lists_58 rfl (lv_at hl 1 rfl) ?_
          refine x_getk (ci := 12) (C := RX12) (F := TX12) (N := 36) (v := .ref q52_34) hx hb hts uX12 hown hkb hH 1 rfl rfl 34 (by decide) rfl kw_1257 (fun _ h9 => h9) dX12_lists_59 ?_
          refine lv_iload_n hx hb dX12_lists_62 rfl (lv_at hl 2 rfl) ?_
          refine xa_ild hx hb hkb hH 0 rfl (by omega) (by omega) dX12_lists_63 ?_
          refine lv_topi (fun v63 ev63 => ?_)
          have tv63 : v63 = f34 x1.toInt.toNat := ev63
          have J87 : ∀ (n : Nat) (p87_5 : Int32) (p87_4 : Int32) (H : Heap) (locs : List Loc) (ls : Array Slot), (15 - p87_5.toInt).toNat = n → (0 ≤ p87_5.toInt) → (p87_5.toInt ≤ 15) → (0 ≤ p87_4.toInt) → (p87_4.toInt ≤ 15) → HT D cs A T (q52_34 :: a0 :: O) ((q52_34, .inl (cs.2.1, 4, .inl f34)) :: (a0, .inr (12, [.int q52_0, .ref q52_1, .ref q52_2, .ref q52_3, .ref q52_4, .int q52_5, .int q52_6, .int q52_7, .int q52_8, .int q52_9, .int q52_10, .int q52_11, .int q52_12, .int q52_13, .int q52_14, .ref q52_15, .int q52_16, .ref q52_17, .ref q52_18, .ref q52_19, .int q52_20, .ref q52_21, .ref q52_22, .int q52_23, .int q52_24, .int q52_25, .ref q52_26, .ref q52_27, .ref q52_28, .ref q52_29, .ref q52_30, .ref q52_31, .int q52_32, .ref q52_33, .ref q52_34, .ref q52_35])) :: X) H → va_S A s.heap H locs → lv_has ls 6 [(5, .int p87_5), (4, .int p87_4), (0, .ref a0), (1, .int x1), (2, .int x2)] → W p l e { frames := 6, cells := 0, slots := 0, locals := 140 } s m [.ref a0, .int x1, .int x2].toArray below meth c H locs 0 0 (MQ below (Ti D cs (fun r u => u = (T, O, X) ∧ -6 ≤ r.toInt ∧ r.toInt ≤ 15) A) [.ref a0, .int x1, .int x2].toArray s 0 0 A) (F0 m 87 ls []) := by
            intro n
            induction n using Nat.strongRecOn with
            | _ n ih87 =>
              intro p87_5 p87_4 H locs ls hm87 l_p87_5 u_p87_5 l_p87_4 u_p87_4 hH hS hl
              refine lv_iload hx hb dX12_lists_87 (lv_at hl 0 rfl) ?_
              refine lv_iload hx hb dX12_lists_89 (lv_at hl 1 rfl) ?_
              refine lv_icmp_ge (tgt := 132) hx hb dX12_lists_91 (by decide) (fun c91 => ?_) (fun c91 => ?_)
              · skip
                have fuc91 := full_i p87_5
                have fvc91 := full_i p87_4
                have tc91 := g_le c91
                refine lv_iload hx hb dX12_lists_132 (lv_at hl 1 rfl) ?_
                have hH : HT D cs A T (a0 :: O) ((a0, .inr (12, [.int q52_0, .ref q52_1, .ref q52_2, .ref q52_3, .ref q52_4, .int q52_5, .int q52_6, .int q52_7, .int q52_8, .int q52_9, .int q52_10, .int q52_11, .int q52_12, .int q52_13, .int q52_14, .ref q52_15, .int q52_16, .ref q52_17, .ref q52_18, .ref q52_19, .int q52_20, .ref q52_21, .ref q52_22, .int q52_23, .int q52_24, .int q52_25, .ref q52_26, .ref q52_27, .ref q52_28, .ref q52_29, .ref q52_30, .ref q52_31, .int q52_32, .ref q52_33, .ref q52_34, .ref q52_35])) :: X) H := HT.layA hH t_q52_34 (show sp cs T (9, 4, (2 * mq + 1)) _ from ⟨_, rfl, fun q => absurd rfl q, fun _ => p_f34⟩)
                have hH : HT D cs A T O X H := HT.lay (ci := 12) hH t_a0 (okL_c (⟨_, rfl⟩) (okL_c (⟨_, rfl, t_q52_1⟩) (okL_c (⟨_, rfl, t_q52_2⟩) (okL_c (⟨_, rfl, t_q52_3⟩) (okL_c (⟨_, rfl, t_q52_4⟩) (okL_c (⟨_, rfl, by omega, by omega⟩) (okL_c (⟨_, rfl⟩) (okL_c (⟨_, rfl⟩) (okL_c (⟨_, rfl⟩) (okL_c (⟨_, rfl⟩) (okL_c (⟨_, rfl, by omega, by omega⟩) (okL_c (⟨_, rfl⟩) (okL_c (⟨_, rfl⟩) (okL_c (⟨_, rfl⟩) (okL_c (⟨_, rfl⟩) (okL_c (⟨_, rfl, t_q52_15⟩) (okL_c (⟨_, rfl⟩) (okL_c (⟨_, rfl, t_q52_17⟩) (okL_c (⟨_, rfl, t_q52_18⟩) (okL_c (⟨_, rfl, t_q52_19⟩) (okL_c (⟨_, rfl, by omega, by omega⟩) (okL_c (⟨_, rfl, t_q52_21⟩) (okL_c (⟨_, rfl, t_q52_22⟩) (okL_c (⟨_, rfl⟩) (okL_c (⟨_, rfl⟩) (okL_c (⟨_, rfl⟩) (okL_c (⟨_, rfl, t_q52_26⟩) (okL_c (⟨_, rfl, t_q52_27⟩) (okL_c (⟨_, rfl, t_q52_28⟩) (okL_c (⟨_, rfl, t_q52_29⟩) (okL_c (⟨_, rfl, t_q52_30⟩) (okL_c (⟨_, rfl, t_q52_31⟩) (okL_c (⟨_, rfl⟩) (okL_c (⟨_, rfl, t_q52_33⟩) (okL_c (⟨_, rfl, t_q52_34⟩) (okL_c (⟨_, rfl, t_q52_35⟩) (okL_n)))))))))))))))))))))))))))))))))))))
                have hO := hO0
                exact te_i hx hb hr hlocks hH hS (⟨rfl, by omega, by omega⟩) dX12_lists_134
              · skip
                have fuc91 := full_i p87_5
                have fvc91 := full_i p87_4
                have tc91 := g_nle c91
                refine lv_aload_n hx hb dX12_lists_94 rfl (lv_at hl 2 rfl) ?_
                refine x_getk (ci := 12) (C := RX12) (F := TX12) (N := 36) (v := .ref q52_35) hx hb hts uX12 hown hkb hH 1 rfl rfl 35 (by decide) rfl kw_1258 (fun _ h9 => h9) dX12_lists_95 ?_
                refine lv_bipush (v := 40) hx hb dX12_lists_98 (by decide) ?_
                refine lv_iload_n hx hb dX12_lists_100 rfl (lv_at hl 3 rfl) ?_
                refine lv_imul hx hb dX12_lists_101 ?_
                refine lv_topi (fun v101 ev101 => ?_)
                have tv101 : v101.toInt = (40) * x1.toInt := by rw [ev101]; exact mul_i (by decide : (40 : Int32).toInt = 40) rfl (by omega) (by omega)
                refine lv_iload hx hb dX12_lists_102 (lv_at hl 0 rfl) ?_
                refine lv_iadd hx hb dX12_lists_104 ?_
                refine lv_topi (fun v104 ev104 => ?_)
                have tv104 : v104.toInt = v101.toInt + p87_5.toInt := by rw [ev104]; exact add_i rfl rfl (by omega) (by omega)
                refine lv_iload hx hb dX12_lists_105 (lv_at hl 0 rfl) ?_
                have J125 : ∀ (k125_0 : Int64) (H : Heap) (locs : List Loc) (ls : Array Slot), HT D cs A T (q52_34 :: a0 :: O) ((q52_34, .inl (cs.2.1, 4, .inl f34)) :: (a0, .inr (12, [.int q52_0, .ref q52_1, .ref q52_2, .ref q52_3, .ref q52_4, .int q52_5, .int q52_6, .int q52_7, .int q52_8, .int q52_9, .int q52_10, .int q52_11, .int q52_12, .int q52_13, .int q52_14, .ref q52_15, .int q52_16, .ref q52_17, .ref q52_18, .ref q52_19, .int q52_20, .ref q52_21, .ref q52_22, .int q52_23, .int q52_24, .int q52_25, .ref q52_26, .ref q52_27, .ref q52_28, .ref q52_29, .ref q52_30, .ref q52_31, .int q52_32, .ref q52_33, .ref q52_34, .ref q52_35])) :: X) H → va_S A s.heap H locs → lv_has ls 6 [(5, .int p87_5), (4, .int p87_4), (0, .ref a0), (1, .int x1), (2, .int x2)] → W p l e { frames := 6, cells := 0, slots := 0, locals := 140 } s m [.ref a0, .int x1, .int x2].toArray below meth c H locs 0 0 (MQ below (Ti D cs (fun r u => u = (T, O, X) ∧ -6 ≤ r.toInt ∧ r.toInt ≤ 15) A) [.ref a0, .int x1, .int x2].toArray s 0 0 A) (F0 m 125 ls [.long k125_0, .int v104, .ref q52_35]) := by
                  intro k125_0 H locs ls  hH hS hl
                  refine t_lst hx hb hkb hH hS t_q52_35 (hO.no t_q52_35 (by decide)) (by omega) (by omega) dX12_lists_125 (fun H locs hH hS => ?_)
                  obtain ⟨v126, ev126⟩ : ∃ y : Int32, y = p87_5 + 1 := ⟨_, rfl⟩
                  have tv126 : v126.toInt = p87_5.toInt + (1) := by rw [ev126]; exact add_i rfl (by decide) (by omega) (by omega)
                  refine lv_iinc (v := v126) (lv' := [(5, .int v126), (4, .int p87_4), (0, .ref a0), (1, .int x1), (2, .int x2)]) hx hb dX12_lists_126 hl (k := 0) rfl (by rw [ev126]; rfl) (by decide) rfl (fun ls hl => ?_)
                  refine lv_goto (tgt := 87) hx hb dX12_lists_129 (by decide) ?_
                  exact ih87 _ (by omega) v126 p87_4 _ _ _ rfl (by omega) (by omega) (by omega) (by omega) hH hS (lv_sub hl [0, 1, 2, 3, 4] rfl)
                refine lv_if_ne (tgt := 115) hx hb dX12_lists_107 (by decide) (fun c107 => ?_) (fun c107 => ?_)
                · skip
                  have tc107 := f_ne (k := 0) (by decide) c107
                  refine lv_aload_n hx hb dX12_lists_115 rfl (lv_at hl 2 rfl) ?_
                  refine x_getk (ci := 12) (C := RX12) (F := TX12) (N := 36) (v := .ref q52_19) hx hb hts uX12 hown hkb hH 1 rfl rfl 19 (by decide) rfl kw_1242 (fun _ h9 => h9) dX12_lists_116 ?_
                  refine lv_iload hx hb dX12_lists_119 (lv_at hl 0 rfl) ?_
                  refine lv_iconst (v := 1) hx hb dX12_lists_121 (by decide) ?_
                  refine lv_isub hx hb dX12_lists_122 ?_
                  refine lv_topi (fun v122 ev122 => ?_)
                  have tv122 : v122.toInt = p87_5.toInt - (1) := by rw [ev122]; exact sub_i rfl (by decide : (1 : Int32).toInt = 1) (by omega) (by omega)
                  refine t_ild hx hb hkb hH t_q52_19 (hO.no t_q52_19 (by decide)) (by omega) (by omega) dX12_lists_123 (fun v123 h9 => ?_)
                  have tv123 : 0 ≤ v123.toInt ∧ v123.toInt ≤ 13 := h9
                  refine lv_i2l hx hb dX12_lists_124 rfl ?_
                  exact J125 v123.toInt64 _ _ _  hH hS (lv_sub hl [0, 1, 2, 3, 4] rfl)
                · skip
                  have tc107 := f_eq (k := 0) (by decide) c107
                  refine lv_iload_n hx hb dX12_lists_110 rfl (lv_at hl 4 rfl) ?_
                  refine lv_i2l hx hb dX12_lists_111 rfl ?_
                  refine lv_goto (tgt := 125) hx hb dX12_lists_112 (by decide) ?_
                  exact J125 x2.toInt64 _ _ _  hH hS (lv_sub hl [0, 1, 2, 3, 4] rfl)
          have hb63 : 0 ≤ v63.toInt ∧ v63.toInt ≤ 40 := by rw [tv63]; have q9 := p_f34 x1.toInt.toNat (by omega); exact ⟨by rw [q9.1]; exact pvr_nn _ _, q9.2.2⟩
          refine lv_icmp_ge (tgt := 76) hx hb dX12_lists_64 (by decide) (fun c64 => ?_) (fun c64 => ?_)
          · skip
            have fuc64 := full_i v57
            have fvc64 := full_i v63
            have tc64 := g_le c64
            refine lv_aload_n hx hb dX12_lists_76 rfl (lv_at hl 1 rfl) ?_
            refine x_getk (ci := 12) (C := RX12) (F := TX12) (N := 36) (v := .ref q52_34) hx hb hts uX12 hown hkb hH 1 rfl rfl 34 (by decide) rfl kw_1257 (fun _ h9 => h9) dX12_lists_77 ?_
            refine lv_iload_n hx hb dX12_lists_80 rfl (lv_at hl 2 rfl) ?_
            refine xa_ild hx hb hkb hH 0 rfl (by omega) (by omega) dX12_lists_81 ?_
            refine lv_topi (fun v81 ev81 => ?_)
            have tv81 : v81 = f34 x1.toInt.toNat := ev81
            have hq9 : v81.toInt = v63.toInt := by rw [tv81, tv63]
            refine lv_istore (lv' := [(4, .int v81), (3, .int v31), (0, .ref a0), (1, .int x1), (2, .int x2)]) hx hb dX12_lists_82 hl (by decide) rfl (fun ls hl => ?_)
            refine lv_iconst (v := 0) hx hb dX12_lists_84 (by decide) ?_
            refine lv_istore (lv' := [(5, .int 0), (4, .int v81), (3, .int v31), (0, .ref a0), (1, .int x1), (2, .int x2)]) hx hb dX12_lists_85 hl (by decide) rfl (fun ls hl => ?_)
            exact J87 _ 0 v81 _ _ _ rfl (by decide) (by decide) (by omega) (by omega) hH hS (lv_sub hl [0, 1, 3, 4, 5] rfl)
          · skip
            have fuc64 := full_i v57
            have fvc64 := full_i v63
            have tc64 := g_nle c64
            refine lv_aload_n hx hb dX12_lists_67 rfl (lv_at hl 1 rfl) ?_
            refine x_getk (ci := 12) (C := RX12) (F := TX12) (N := 36) (v := .int q52_20) hx hb hts uX12 hown hkb hH 1 rfl rfl 20 (by decide) rfl kw_1243 (fun _ h9 => h9) dX12_lists_68 ?_
            refine lv_iconst (v := 1) hx hb dX12_lists_71 (by decide) ?_
            refine lv_iadd hx hb dX12_lists_72 ?_
            refine lv_topi (fun v72 ev72 => ?_)
            have tv72 : v72.toInt = q52_20.toInt + (1) := by rw [ev72]; exact add_i rfl (by decide : (1 : Int32).toInt = 1) (by omega) (by omega)
            refine lv_goto (tgt := 82) hx hb dX12_lists_73 (by decide) ?_
            refine lv_istore (lv' := [(4, .int v72), (3, .int v31), (0, .ref a0), (1, .int x1), (2, .int x2)]) hx hb dX12_lists_82 hl (by decide) rfl (fun ls hl => ?_)
            refine lv_iconst (v := 0) hx hb dX12_lists_84 (by decide) ?_
            refine lv_istore (lv' := [(5, .int 0), (4, .int v72), (3, .int v31), (0, .ref a0), (1, .int x1), (2, .int x2)]) hx hb dX12_lists_85 hl (by decide) rfl (fun ls hl => ?_)
            exact J87 _ 0 v72 _ _ _ rfl (by decide) (by decide) (by omega) (by omega) hH hS (lv_sub hl [0, 1, 3, 4, 5] rfl)
        · skip
          have tc46 := f_eq (k := 0) (by decide) c46
          refine lv_bipush (v := (-5)) hx hb dX12_lists_49 (by decide) ?_
          have z9_m5 : ((-5) : Int32).toInt = -5 := by decide
          exact te_i hx hb hr hlocks hH hS (⟨rfl, by decide, by decide⟩) dX12_lists_51
      · skip
        have tc36 := f_ne (k := 0) (by decide) c36
        refine lv_iload_n hx hb dX12_lists_39 rfl (lv_at hl 0 rfl) ?_
        exact te_i hx hb hr hlocks hH hS (⟨rfl, by omega, by omega⟩) dX12_lists_40
    · skip
      have tc23 := f_eq (k := 0) (by decide) c23
      clear x_v200
      exact J26  _ _ _  hH hS (lv_sub hl [] rfl)
theorem dX12_laysMore_0 : decode cX12_laysMore 0 = .ok (.iconst 1, 1) := by decide +kernel
theorem dX12_laysMore_1 : decode cX12_laysMore 1 = .ok (.aload_n 0, 1) := by decide +kernel
theorem dX12_laysMore_2 : decode cX12_laysMore 2 = .ok (.getfield 13, 3) := by decide +kernel
theorem dX12_laysMore_5 : decode cX12_laysMore 5 = .ok (.iconst 1, 1) := by decide +kernel
theorem dX12_laysMore_6 : decode cX12_laysMore 6 = .ok (.iaload, 1) := by decide +kernel
theorem dX12_laysMore_7 : decode cX12_laysMore 7 = .ok (.ishl, 1) := by decide +kernel
theorem dX12_laysMore_8 : decode cX12_laysMore 8 = .ok (.iconst 1, 1) := by decide +kernel
theorem dX12_laysMore_9 : decode cX12_laysMore 9 = .ok (.isub, 1) := by decide +kernel
theorem dX12_laysMore_10 : decode cX12_laysMore 10 = .ok (.istore_n 3, 1) := by decide +kernel
theorem dX12_laysMore_11 : decode cX12_laysMore 11 = .ok (.iload_n 3, 1) := by decide +kernel
theorem dX12_laysMore_12 : decode cX12_laysMore 12 = .ok (.ifCond .le 190, 3) := by decide +kernel
theorem dX12_laysMore_15 : decode cX12_laysMore 15 = .ok (.iload_n 3, 1) := by decide +kernel
theorem dX12_laysMore_16 : decode cX12_laysMore 16 = .ok (.iload_n 1, 1) := by decide +kernel
theorem dX12_laysMore_17 : decode cX12_laysMore 17 = .ok (.iconst (-1), 1) := by decide +kernel
theorem dX12_laysMore_18 : decode cX12_laysMore 18 = .ok (.ixor, 1) := by decide +kernel
theorem dX12_laysMore_19 : decode cX12_laysMore 19 = .ok (.iand, 1) := by decide +kernel
theorem dX12_laysMore_20 : decode cX12_laysMore 20 = .ok (.ifCond .eq 6, 3) := by decide +kernel
theorem dX12_laysMore_23 : decode cX12_laysMore 23 = .ok (.goto 173, 3) := by decide +kernel
theorem dX12_laysMore_26 : decode cX12_laysMore 26 = .ok (.iconst 0, 1) := by decide +kernel
theorem dX12_laysMore_27 : decode cX12_laysMore 27 = .ok (.istore 4, 2) := by decide +kernel
theorem dX12_laysMore_29 : decode cX12_laysMore 29 = .ok (.iload 4, 2) := by decide +kernel
theorem dX12_laysMore_31 : decode cX12_laysMore 31 = .ok (.aload_n 0, 1) := by decide +kernel
theorem dX12_laysMore_32 : decode cX12_laysMore 32 = .ok (.getfield 13, 3) := by decide +kernel
theorem dX12_laysMore_35 : decode cX12_laysMore 35 = .ok (.iconst 1, 1) := by decide +kernel
theorem dX12_laysMore_36 : decode cX12_laysMore 36 = .ok (.iaload, 1) := by decide +kernel
theorem dX12_laysMore_37 : decode cX12_laysMore 37 = .ok (.if_icmp .ge 159, 3) := by decide +kernel
theorem dX12_laysMore_40 : decode cX12_laysMore 40 = .ok (.iload_n 3, 1) := by decide +kernel
theorem dX12_laysMore_41 : decode cX12_laysMore 41 = .ok (.i2l, 1) := by decide +kernel
theorem dX12_laysMore_42 : decode cX12_laysMore 42 = .ok (.iload 4, 2) := by decide +kernel
theorem dX12_laysMore_44 : decode cX12_laysMore 44 = .ok (.invokestatic 186, 3) := by decide +kernel
theorem dX12_laysMore_47 : decode cX12_laysMore 47 = .ok (.ifCond .ne 6, 3) := by decide +kernel
theorem dX12_laysMore_50 : decode cX12_laysMore 50 = .ok (.goto 140, 3) := by decide +kernel
theorem dX12_laysMore_53 : decode cX12_laysMore 53 = .ok (.aload_n 0, 1) := by decide +kernel
theorem dX12_laysMore_54 : decode cX12_laysMore 54 = .ok (.getfield 13, 3) := by decide +kernel
theorem dX12_laysMore_57 : decode cX12_laysMore 57 = .ok (.iconst 5, 1) := by decide +kernel
theorem dX12_laysMore_58 : decode cX12_laysMore 58 = .ok (.iaload, 1) := by decide +kernel
theorem dX12_laysMore_59 : decode cX12_laysMore 59 = .ok (.i2l, 1) := by decide +kernel
theorem dX12_laysMore_60 : decode cX12_laysMore 60 = .ok (.iload 4, 2) := by decide +kernel
theorem dX12_laysMore_62 : decode cX12_laysMore 62 = .ok (.invokestatic 186, 3) := by decide +kernel
theorem dX12_laysMore_65 : decode cX12_laysMore 65 = .ok (.ifCond .eq 15, 3) := by decide +kernel
theorem dX12_laysMore_68 : decode cX12_laysMore 68 = .ok (.iload_n 2, 1) := by decide +kernel
theorem dX12_laysMore_69 : decode cX12_laysMore 69 = .ok (.iload_n 3, 1) := by decide +kernel
theorem dX12_laysMore_70 : decode cX12_laysMore 70 = .ok (.iconst (-1), 1) := by decide +kernel
theorem dX12_laysMore_71 : decode cX12_laysMore 71 = .ok (.ixor, 1) := by decide +kernel
theorem dX12_laysMore_72 : decode cX12_laysMore 72 = .ok (.iand, 1) := by decide +kernel
theorem dX12_laysMore_73 : decode cX12_laysMore 73 = .ok (.ifCond .ne 7, 3) := by decide +kernel
theorem dX12_laysMore_76 : decode cX12_laysMore 76 = .ok (.iconst 0, 1) := by decide +kernel
theorem dX12_laysMore_77 : decode cX12_laysMore 77 = .ok (.goto 5, 3) := by decide +kernel
theorem dX12_laysMore_80 : decode cX12_laysMore 80 = .ok (.bipush 99, 2) := by decide +kernel
theorem dX12_laysMore_82 : decode cX12_laysMore 82 = .ok (.istore 5, 2) := by decide +kernel
theorem dX12_laysMore_84 : decode cX12_laysMore 84 = .ok (.aload_n 0, 1) := by decide +kernel
theorem dX12_laysMore_85 : decode cX12_laysMore 85 = .ok (.getfield 33, 3) := by decide +kernel
theorem dX12_laysMore_88 : decode cX12_laysMore 88 = .ok (.iload 4, 2) := by decide +kernel
theorem dX12_laysMore_90 : decode cX12_laysMore 90 = .ok (.iaload, 1) := by decide +kernel
theorem dX12_laysMore_91 : decode cX12_laysMore 91 = .ok (.iload_n 1, 1) := by decide +kernel
theorem dX12_laysMore_92 : decode cX12_laysMore 92 = .ok (.iand, 1) := by decide +kernel
theorem dX12_laysMore_93 : decode cX12_laysMore 93 = .ok (.iload_n 3, 1) := by decide +kernel
theorem dX12_laysMore_94 : decode cX12_laysMore 94 = .ok (.iconst (-1), 1) := by decide +kernel
theorem dX12_laysMore_95 : decode cX12_laysMore 95 = .ok (.ixor, 1) := by decide +kernel
theorem dX12_laysMore_96 : decode cX12_laysMore 96 = .ok (.iand, 1) := by decide +kernel
theorem dX12_laysMore_97 : decode cX12_laysMore 97 = .ok (.istore 6, 2) := by decide +kernel
theorem dX12_laysMore_99 : decode cX12_laysMore 99 = .ok (.iconst 0, 1) := by decide +kernel
theorem dX12_laysMore_100 : decode cX12_laysMore 100 = .ok (.istore 7, 2) := by decide +kernel
theorem dX12_laysMore_102 : decode cX12_laysMore 102 = .ok (.iload 7, 2) := by decide +kernel
theorem dX12_laysMore_104 : decode cX12_laysMore 104 = .ok (.aload_n 0, 1) := by decide +kernel
theorem dX12_laysMore_105 : decode cX12_laysMore 105 = .ok (.getfield 13, 3) := by decide +kernel
theorem dX12_laysMore_108 : decode cX12_laysMore 108 = .ok (.iconst 1, 1) := by decide +kernel
theorem dX12_laysMore_109 : decode cX12_laysMore 109 = .ok (.iaload, 1) := by decide +kernel
theorem dX12_laysMore_110 : decode cX12_laysMore 110 = .ok (.if_icmp .ge 65, 3) := by decide +kernel
theorem dX12_laysMore_113 : decode cX12_laysMore 113 = .ok (.iload 6, 2) := by decide +kernel
theorem dX12_laysMore_115 : decode cX12_laysMore 115 = .ok (.i2l, 1) := by decide +kernel
theorem dX12_laysMore_116 : decode cX12_laysMore 116 = .ok (.iload 7, 2) := by decide +kernel
theorem dX12_laysMore_118 : decode cX12_laysMore 118 = .ok (.invokestatic 186, 3) := by decide +kernel
theorem dX12_laysMore_121 : decode cX12_laysMore 121 = .ok (.ifCond .eq 48, 3) := by decide +kernel
theorem dX12_laysMore_124 : decode cX12_laysMore 124 = .ok (.aload_n 0, 1) := by decide +kernel
theorem dX12_laysMore_125 : decode cX12_laysMore 125 = .ok (.getfield 56, 3) := by decide +kernel
theorem dX12_laysMore_128 : decode cX12_laysMore 128 = .ok (.bipush 14, 2) := by decide +kernel
theorem dX12_laysMore_130 : decode cX12_laysMore 130 = .ok (.iload_n 3, 1) := by decide +kernel
theorem dX12_laysMore_131 : decode cX12_laysMore 131 = .ok (.iconst 1, 1) := by decide +kernel
theorem dX12_laysMore_132 : decode cX12_laysMore 132 = .ok (.iload 7, 2) := by decide +kernel
theorem dX12_laysMore_134 : decode cX12_laysMore 134 = .ok (.ishl, 1) := by decide +kernel
theorem dX12_laysMore_135 : decode cX12_laysMore 135 = .ok (.ior, 1) := by decide +kernel
theorem dX12_laysMore_136 : decode cX12_laysMore 136 = .ok (.imul, 1) := by decide +kernel
theorem dX12_laysMore_137 : decode cX12_laysMore 137 = .ok (.iload 7, 2) := by decide +kernel
theorem dX12_laysMore_139 : decode cX12_laysMore 139 = .ok (.iadd, 1) := by decide +kernel
theorem dX12_laysMore_140 : decode cX12_laysMore 140 = .ok (.baload, 1) := by decide +kernel
theorem dX12_laysMore_141 : decode cX12_laysMore 141 = .ok (.iconst 1, 1) := by decide +kernel
theorem dX12_laysMore_142 : decode cX12_laysMore 142 = .ok (.iadd, 1) := by decide +kernel
theorem dX12_laysMore_143 : decode cX12_laysMore 143 = .ok (.iload 5, 2) := by decide +kernel
theorem dX12_laysMore_145 : decode cX12_laysMore 145 = .ok (.if_icmp .ge 24, 3) := by decide +kernel
theorem dX12_laysMore_148 : decode cX12_laysMore 148 = .ok (.aload_n 0, 1) := by decide +kernel
theorem dX12_laysMore_149 : decode cX12_laysMore 149 = .ok (.getfield 56, 3) := by decide +kernel
theorem dX12_laysMore_152 : decode cX12_laysMore 152 = .ok (.bipush 14, 2) := by decide +kernel
theorem dX12_laysMore_154 : decode cX12_laysMore 154 = .ok (.iload_n 3, 1) := by decide +kernel
theorem dX12_laysMore_155 : decode cX12_laysMore 155 = .ok (.iconst 1, 1) := by decide +kernel
theorem dX12_laysMore_156 : decode cX12_laysMore 156 = .ok (.iload 7, 2) := by decide +kernel
theorem dX12_laysMore_158 : decode cX12_laysMore 158 = .ok (.ishl, 1) := by decide +kernel
theorem dX12_laysMore_159 : decode cX12_laysMore 159 = .ok (.ior, 1) := by decide +kernel
theorem dX12_laysMore_160 : decode cX12_laysMore 160 = .ok (.imul, 1) := by decide +kernel
theorem dX12_laysMore_161 : decode cX12_laysMore 161 = .ok (.iload 7, 2) := by decide +kernel
theorem dX12_laysMore_163 : decode cX12_laysMore 163 = .ok (.iadd, 1) := by decide +kernel
theorem dX12_laysMore_164 : decode cX12_laysMore 164 = .ok (.baload, 1) := by decide +kernel
theorem dX12_laysMore_165 : decode cX12_laysMore 165 = .ok (.iconst 1, 1) := by decide +kernel
theorem dX12_laysMore_166 : decode cX12_laysMore 166 = .ok (.iadd, 1) := by decide +kernel
theorem dX12_laysMore_167 : decode cX12_laysMore 167 = .ok (.istore 5, 2) := by decide +kernel
theorem dX12_laysMore_169 : decode cX12_laysMore 169 = .ok (.iinc 7 1, 3) := by decide +kernel
theorem dX12_laysMore_172 : decode cX12_laysMore 172 = .ok (.goto (-70), 3) := by decide +kernel
theorem dX12_laysMore_175 : decode cX12_laysMore 175 = .ok (.aload_n 0, 1) := by decide +kernel
theorem dX12_laysMore_176 : decode cX12_laysMore 176 = .ok (.getfield 56, 3) := by decide +kernel
theorem dX12_laysMore_179 : decode cX12_laysMore 179 = .ok (.bipush 14, 2) := by decide +kernel
theorem dX12_laysMore_181 : decode cX12_laysMore 181 = .ok (.iload_n 3, 1) := by decide +kernel
theorem dX12_laysMore_182 : decode cX12_laysMore 182 = .ok (.imul, 1) := by decide +kernel
theorem dX12_laysMore_183 : decode cX12_laysMore 183 = .ok (.iload 4, 2) := by decide +kernel
theorem dX12_laysMore_185 : decode cX12_laysMore 185 = .ok (.iadd, 1) := by decide +kernel
theorem dX12_laysMore_186 : decode cX12_laysMore 186 = .ok (.iload 5, 2) := by decide +kernel
theorem dX12_laysMore_188 : decode cX12_laysMore 188 = .ok (.i2b, 1) := by decide +kernel
theorem dX12_laysMore_189 : decode cX12_laysMore 189 = .ok (.bastore, 1) := by decide +kernel
theorem dX12_laysMore_190 : decode cX12_laysMore 190 = .ok (.iinc 4 1, 3) := by decide +kernel
theorem dX12_laysMore_193 : decode cX12_laysMore 193 = .ok (.goto (-164), 3) := by decide +kernel
theorem dX12_laysMore_196 : decode cX12_laysMore 196 = .ok (.iinc 3 (-1), 3) := by decide +kernel
theorem dX12_laysMore_199 : decode cX12_laysMore 199 = .ok (.goto (-188), 3) := by decide +kernel
theorem dX12_laysMore_202 : decode cX12_laysMore 202 = .ok (.return_, 1) := by decide +kernel
theorem dX12_laysWhose_0 : decode cX12_laysWhose 0 = .ok (.aload_n 0, 1) := by decide +kernel
theorem dX12_laysWhose_1 : decode cX12_laysWhose 1 = .ok (.iload_n 1, 1) := by decide +kernel
theorem dX12_laysWhose_2 : decode cX12_laysWhose 2 = .ok (.invokevirtual 257, 3) := by decide +kernel
theorem dX12_laysWhose_5 : decode cX12_laysWhose 5 = .ok (.iload_n 2, 1) := by decide +kernel
theorem dX12_laysWhose_6 : decode cX12_laysWhose 6 = .ok (.aload_n 0, 1) := by decide +kernel
theorem dX12_laysWhose_7 : decode cX12_laysWhose 7 = .ok (.invokevirtual 372, 3) := by decide +kernel
theorem dX12_laysWhose_10 : decode cX12_laysWhose 10 = .ok (.aload_n 0, 1) := by decide +kernel
theorem dX12_laysWhose_11 : decode cX12_laysWhose 11 = .ok (.invokevirtual 272, 3) := by decide +kernel
theorem dX12_laysWhose_14 : decode cX12_laysWhose 14 = .ok (.iand, 1) := by decide +kernel
theorem dX12_laysWhose_15 : decode cX12_laysWhose 15 = .ok (.ior, 1) := by decide +kernel
theorem dX12_laysWhose_16 : decode cX12_laysWhose 16 = .ok (.istore_n 3, 1) := by decide +kernel
theorem dX12_laysWhose_17 : decode cX12_laysWhose 17 = .ok (.aload_n 0, 1) := by decide +kernel
theorem dX12_laysWhose_18 : decode cX12_laysWhose 18 = .ok (.iload_n 3, 1) := by decide +kernel
theorem dX12_laysWhose_19 : decode cX12_laysWhose 19 = .ok (.iload_n 2, 1) := by decide +kernel
theorem dX12_laysWhose_20 : decode cX12_laysWhose 20 = .ok (.invokevirtual 375, 3) := by decide +kernel
theorem dX12_laysWhose_23 : decode cX12_laysWhose 23 = .ok (.iconst (-1), 1) := by decide +kernel
theorem dX12_laysWhose_24 : decode cX12_laysWhose 24 = .ok (.istore 4, 2) := by decide +kernel
theorem dX12_laysWhose_26 : decode cX12_laysWhose 26 = .ok (.iconst 0, 1) := by decide +kernel
theorem dX12_laysWhose_27 : decode cX12_laysWhose 27 = .ok (.istore 5, 2) := by decide +kernel
theorem dX12_laysWhose_29 : decode cX12_laysWhose 29 = .ok (.iload 5, 2) := by decide +kernel
theorem dX12_laysWhose_31 : decode cX12_laysWhose 31 = .ok (.aload_n 0, 1) := by decide +kernel
theorem dX12_laysWhose_32 : decode cX12_laysWhose 32 = .ok (.getfield 13, 3) := by decide +kernel
theorem dX12_laysWhose_35 : decode cX12_laysWhose 35 = .ok (.iconst 1, 1) := by decide +kernel
theorem dX12_laysWhose_36 : decode cX12_laysWhose 36 = .ok (.iaload, 1) := by decide +kernel
theorem dX12_laysWhose_37 : decode cX12_laysWhose 37 = .ok (.if_icmp .ge 74, 3) := by decide +kernel
theorem dX12_laysWhose_40 : decode cX12_laysWhose 40 = .ok (.iload_n 3, 1) := by decide +kernel
theorem dX12_laysWhose_41 : decode cX12_laysWhose 41 = .ok (.aload_n 0, 1) := by decide +kernel
theorem dX12_laysWhose_42 : decode cX12_laysWhose 42 = .ok (.getfield 13, 3) := by decide +kernel
theorem dX12_laysWhose_45 : decode cX12_laysWhose 45 = .ok (.iconst 4, 1) := by decide +kernel
theorem dX12_laysWhose_46 : decode cX12_laysWhose 46 = .ok (.iaload, 1) := by decide +kernel
theorem dX12_laysWhose_47 : decode cX12_laysWhose 47 = .ok (.iand, 1) := by decide +kernel
theorem dX12_laysWhose_48 : decode cX12_laysWhose 48 = .ok (.i2l, 1) := by decide +kernel
theorem dX12_laysWhose_49 : decode cX12_laysWhose 49 = .ok (.iload 5, 2) := by decide +kernel
theorem dX12_laysWhose_51 : decode cX12_laysWhose 51 = .ok (.invokestatic 186, 3) := by decide +kernel
theorem dX12_laysWhose_54 : decode cX12_laysWhose 54 = .ok (.ifCond .eq 51, 3) := by decide +kernel
theorem dX12_laysWhose_57 : decode cX12_laysWhose 57 = .ok (.aload_n 0, 1) := by decide +kernel
theorem dX12_laysWhose_58 : decode cX12_laysWhose 58 = .ok (.iconst 1, 1) := by decide +kernel
theorem dX12_laysWhose_59 : decode cX12_laysWhose 59 = .ok (.iload 5, 2) := by decide +kernel
theorem dX12_laysWhose_61 : decode cX12_laysWhose 61 = .ok (.ishl, 1) := by decide +kernel
theorem dX12_laysWhose_62 : decode cX12_laysWhose 62 = .ok (.iload 5, 2) := by decide +kernel
theorem dX12_laysWhose_64 : decode cX12_laysWhose 64 = .ok (.invokevirtual 378, 3) := by decide +kernel
theorem dX12_laysWhose_67 : decode cX12_laysWhose 67 = .ok (.bipush 99, 2) := by decide +kernel
theorem dX12_laysWhose_69 : decode cX12_laysWhose 69 = .ok (.if_icmp .ge 36, 3) := by decide +kernel
theorem dX12_laysWhose_72 : decode cX12_laysWhose 72 = .ok (.iload 4, 2) := by decide +kernel
theorem dX12_laysWhose_74 : decode cX12_laysWhose 74 = .ok (.iconst (-1), 1) := by decide +kernel
theorem dX12_laysWhose_75 : decode cX12_laysWhose 75 = .ok (.if_icmp .eq 26, 3) := by decide +kernel
theorem dX12_laysWhose_78 : decode cX12_laysWhose 78 = .ok (.aload_n 0, 1) := by decide +kernel
theorem dX12_laysWhose_79 : decode cX12_laysWhose 79 = .ok (.iconst 1, 1) := by decide +kernel
theorem dX12_laysWhose_80 : decode cX12_laysWhose 80 = .ok (.iload 5, 2) := by decide +kernel
theorem dX12_laysWhose_82 : decode cX12_laysWhose 82 = .ok (.ishl, 1) := by decide +kernel
theorem dX12_laysWhose_83 : decode cX12_laysWhose 83 = .ok (.iload 5, 2) := by decide +kernel
theorem dX12_laysWhose_85 : decode cX12_laysWhose 85 = .ok (.invokevirtual 378, 3) := by decide +kernel
theorem dX12_laysWhose_88 : decode cX12_laysWhose 88 = .ok (.aload_n 0, 1) := by decide +kernel
theorem dX12_laysWhose_89 : decode cX12_laysWhose 89 = .ok (.iconst 1, 1) := by decide +kernel
theorem dX12_laysWhose_90 : decode cX12_laysWhose 90 = .ok (.iload 4, 2) := by decide +kernel
theorem dX12_laysWhose_92 : decode cX12_laysWhose 92 = .ok (.ishl, 1) := by decide +kernel
theorem dX12_laysWhose_93 : decode cX12_laysWhose 93 = .ok (.iload 4, 2) := by decide +kernel
theorem dX12_laysWhose_95 : decode cX12_laysWhose 95 = .ok (.invokevirtual 378, 3) := by decide +kernel
theorem dX12_laysWhose_98 : decode cX12_laysWhose 98 = .ok (.if_icmp .ge 7, 3) := by decide +kernel
theorem dX12_laysWhose_101 : decode cX12_laysWhose 101 = .ok (.iload 5, 2) := by decide +kernel
theorem dX12_laysWhose_103 : decode cX12_laysWhose 103 = .ok (.istore 4, 2) := by decide +kernel
theorem dX12_laysWhose_105 : decode cX12_laysWhose 105 = .ok (.iinc 5 1, 3) := by decide +kernel
theorem dX12_laysWhose_108 : decode cX12_laysWhose 108 = .ok (.goto (-79), 3) := by decide +kernel
theorem dX12_laysWhose_111 : decode cX12_laysWhose 111 = .ok (.iload 4, 2) := by decide +kernel
theorem dX12_laysWhose_113 : decode cX12_laysWhose 113 = .ok (.ireturn, 1) := by decide +kernel
theorem dX12_moreBy_0 : decode cX12_moreBy 0 = .ok (.aload_n 0, 1) := by decide +kernel
theorem dX12_moreBy_1 : decode cX12_moreBy 1 = .ok (.getfield 56, 3) := by decide +kernel
theorem dX12_moreBy_4 : decode cX12_moreBy 4 = .ok (.bipush 14, 2) := by decide +kernel
theorem dX12_moreBy_6 : decode cX12_moreBy 6 = .ok (.iload_n 1, 1) := by decide +kernel
theorem dX12_moreBy_7 : decode cX12_moreBy 7 = .ok (.imul, 1) := by decide +kernel
theorem dX12_moreBy_8 : decode cX12_moreBy 8 = .ok (.iload_n 2, 1) := by decide +kernel
theorem dX12_moreBy_9 : decode cX12_moreBy 9 = .ok (.iadd, 1) := by decide +kernel
theorem dX12_moreBy_10 : decode cX12_moreBy 10 = .ok (.baload, 1) := by decide +kernel
theorem dX12_moreBy_11 : decode cX12_moreBy 11 = .ok (.ireturn, 1) := by decide +kernel
theorem dX12_whose_0 : decode cX12_whose 0 = .ok (.aload_n 0, 1) := by decide +kernel
theorem dX12_whose_1 : decode cX12_whose 1 = .ok (.iconst 0, 1) := by decide +kernel
theorem dX12_whose_2 : decode cX12_whose 2 = .ok (.putfield 1, 3) := by decide +kernel
theorem dX12_whose_5 : decode cX12_whose 5 = .ok (.aload_n 0, 1) := by decide +kernel
theorem dX12_whose_6 : decode cX12_whose 6 = .ok (.iload_n 1, 1) := by decide +kernel
theorem dX12_whose_7 : decode cX12_whose 7 = .ok (.invokevirtual 381, 3) := by decide +kernel
theorem dX12_whose_10 : decode cX12_whose 10 = .ok (.ifCond .ne 6, 3) := by decide +kernel
theorem dX12_whose_13 : decode cX12_whose 13 = .ok (.bipush (-3), 2) := by decide +kernel
theorem dX12_whose_15 : decode cX12_whose 15 = .ok (.ireturn, 1) := by decide +kernel
theorem dX12_whose_16 : decode cX12_whose 16 = .ok (.iconst 0, 1) := by decide +kernel
theorem dX12_whose_17 : decode cX12_whose 17 = .ok (.istore_n 2, 1) := by decide +kernel
theorem dX12_whose_18 : decode cX12_whose 18 = .ok (.iconst 0, 1) := by decide +kernel
theorem dX12_whose_19 : decode cX12_whose 19 = .ok (.istore_n 3, 1) := by decide +kernel
theorem dX12_whose_20 : decode cX12_whose 20 = .ok (.iload_n 3, 1) := by decide +kernel
theorem dX12_whose_21 : decode cX12_whose 21 = .ok (.aload_n 0, 1) := by decide +kernel
theorem dX12_whose_22 : decode cX12_whose 22 = .ok (.getfield 13, 3) := by decide +kernel
theorem dX12_whose_25 : decode cX12_whose 25 = .ok (.iconst 2, 1) := by decide +kernel
theorem dX12_whose_26 : decode cX12_whose 26 = .ok (.iaload, 1) := by decide +kernel
theorem dX12_whose_27 : decode cX12_whose 27 = .ok (.if_icmp .ge 29, 3) := by decide +kernel
theorem dX12_whose_30 : decode cX12_whose 30 = .ok (.iload_n 2, 1) := by decide +kernel
theorem dX12_whose_31 : decode cX12_whose 31 = .ok (.aload_n 0, 1) := by decide +kernel
theorem dX12_whose_32 : decode cX12_whose 32 = .ok (.iload_n 3, 1) := by decide +kernel
theorem dX12_whose_33 : decode cX12_whose 33 = .ok (.iload_n 1, 1) := by decide +kernel
theorem dX12_whose_34 : decode cX12_whose 34 = .ok (.invokevirtual 384, 3) := by decide +kernel
theorem dX12_whose_37 : decode cX12_whose 37 = .ok (.iconst (-1), 1) := by decide +kernel
theorem dX12_whose_38 : decode cX12_whose 38 = .ok (.if_icmp .ne 7, 3) := by decide +kernel
theorem dX12_whose_41 : decode cX12_whose 41 = .ok (.iconst 0, 1) := by decide +kernel
theorem dX12_whose_42 : decode cX12_whose 42 = .ok (.goto 6, 3) := by decide +kernel
theorem dX12_whose_45 : decode cX12_whose 45 = .ok (.iconst 1, 1) := by decide +kernel
theorem dX12_whose_46 : decode cX12_whose 46 = .ok (.iload_n 3, 1) := by decide +kernel
theorem dX12_whose_47 : decode cX12_whose 47 = .ok (.ishl, 1) := by decide +kernel
theorem dX12_whose_48 : decode cX12_whose 48 = .ok (.ior, 1) := by decide +kernel
theorem dX12_whose_49 : decode cX12_whose 49 = .ok (.istore_n 2, 1) := by decide +kernel
theorem dX12_whose_50 : decode cX12_whose 50 = .ok (.iinc 3 1, 3) := by decide +kernel
theorem dX12_whose_53 : decode cX12_whose 53 = .ok (.goto (-33), 3) := by decide +kernel
theorem dX12_whose_56 : decode cX12_whose 56 = .ok (.iload_n 2, 1) := by decide +kernel
theorem dX12_whose_57 : decode cX12_whose 57 = .ok (.ireturn, 1) := by decide +kernel
theorem kw_1251 : Cond.fieldLink "FootholdWallModel" 56 "FootholdWallModel" "more" "[B" ∈ gw := gw_of (tb_of 1251 (by decide +kernel)) (by decide +kernel)
theorem kw_1720 : Cond.methodLink "FootholdWallModel" 381 yX12_isSetOf ∈ gw := gw_of (tb_of 1720 (by decide +kernel)) (by decide +kernel)
theorem kw_1722 : Cond.instanceMethod yX12_isSetOf ∈ gw := gw_of (tb_of 1722 (by decide +kernel)) (by decide +kernel)
theorem kw_1723 : Cond.code yX12_isSetOf cX12_isSetOf 2 (some (.boolean)) ∈ gw := gw_of (tb_of 1723 (by decide +kernel)) (by decide +kernel)
theorem kw_1728 : Cond.methodLink "FootholdWallModel" 384 yX12_laysWhose ∈ gw := gw_of (tb_of 1728 (by decide +kernel)) (by decide +kernel)
theorem kw_1730 : Cond.instanceMethod yX12_laysWhose ∈ gw := gw_of (tb_of 1730 (by decide +kernel)) (by decide +kernel)
theorem kw_1731 : Cond.code yX12_laysWhose cX12_laysWhose 6 (some (.int)) ∈ gw := gw_of (tb_of 1731 (by decide +kernel)) (by decide +kernel)
theorem kw_1732 : Cond.methodLink "FootholdWallModel" 375 yX12_laysMore ∈ gw := gw_of (tb_of 1732 (by decide +kernel)) (by decide +kernel)
theorem kw_1734 : Cond.instanceMethod yX12_laysMore ∈ gw := gw_of (tb_of 1734 (by decide +kernel)) (by decide +kernel)
theorem kw_1735 : Cond.code yX12_laysMore cX12_laysMore 8 none ∈ gw := gw_of (tb_of 1735 (by decide +kernel)) (by decide +kernel)
theorem kw_1736 : Cond.methodLink "FootholdWallModel" 378 yX12_moreBy ∈ gw := gw_of (tb_of 1736 (by decide +kernel)) (by decide +kernel)
theorem kw_1738 : Cond.instanceMethod yX12_moreBy ∈ gw := gw_of (tb_of 1738 (by decide +kernel)) (by decide +kernel)
theorem kw_1739 : Cond.code yX12_moreBy cX12_moreBy 3 (some (.int)) ∈ gw := gw_of (tb_of 1739 (by decide +kernel)) (by decide +kernel)
theorem ks_98 : Cond.selects RX12 yX12_isSetOf yX12_isSetOf ∈ gw := gw_of (pv_of 98 (by decide +kernel)) (by decide +kernel)
theorem ks_100 : Cond.selects RX12 yX12_laysWhose yX12_laysWhose ∈ gw := gw_of (pv_of 100 (by decide +kernel)) (by decide +kernel)
theorem ks_101 : Cond.selects RX12 yX12_laysMore yX12_laysMore ∈ gw := gw_of (pv_of 101 (by decide +kernel)) (by decide +kernel)
theorem ks_102 : Cond.selects RX12 yX12_moreBy yX12_moreBy ∈ gw := gw_of (pv_of 102 (by decide +kernel)) (by decide +kernel)
set_option maxHeartbeats 4000000 in
set_option maxRecDepth 100000 in
theorem s_M_moreBy (l : Launch) (D : va_G) (cs : CS) (kf : KF) (T : TF) (O : List Nat) (X : va_W) (a0 hg mq : Nat) (x1 : Int32) (x2 : Int32) (t_a0 : T a0 = some (22, hg, mq)) (b_hg : hg < 90) (l_x1 : 0 ≤ x1.toInt) (u_x1 : x1.toInt ≤ 16383) (l_x2 : 0 ≤ x2.toInt) (u_x2 : x2.toInt ≤ 13) (hO : okO T O [0, 22]) : TK l D cs kf yX12_moreBy cX12_moreBy 3 (some (.int)) { frames := 0, cells := 0, slots := 0, locals := 0 } [.ref a0, .int x1, .int x2] T O X (Ti D cs (fun r u => u = (T, O, X))) := by
  refine tk_of (by decide) (Nat.le_of_ble_eq_true rfl) (fun p e s m below meth c ls A H locs hx hb hr hml hown hts hlocks hnm hkb hH hS hA hOX hks hE hl => ?_)
  have hown : s.vm.findClass RX12 = some m.cls := hown
  have hl : lv_has ls 3 [(0, .ref a0), (1, .int x1), (2, .int x2)] := hl
  refine lv_aload_n hx hb dX12_moreBy_0 rfl (lv_at hl 0 rfl) ?_
  refine t_get (ci := 12) (lst := ft12 hg mq) (C := RX12) (F := TX12) (N := 36) hx hb hts uX12 hown hkb hH t_a0 (hO.no t_a0 (by decide)) (fun _ h9 => h9) rfl rfl 28 (by decide) rfl kw_1251 (fun _ h9 => h9) dX12_moreBy_1 (fun v9 h9 => ?_)
  obtain ⟨v1, rfl, t_v1⟩ := h9
  refine lv_bipush (v := 14) hx hb dX12_moreBy_4 (by decide) ?_
  refine lv_iload_n hx hb dX12_moreBy_6 rfl (lv_at hl 1 rfl) ?_
  refine lv_imul hx hb dX12_moreBy_7 ?_
  refine lv_topi (fun v7 ev7 => ?_)
  have tv7 : v7.toInt = (14) * x1.toInt := by rw [ev7]; exact mul_i (by decide : (14 : Int32).toInt = 14) rfl (by omega) (by omega)
  refine lv_iload_n hx hb dX12_moreBy_8 rfl (lv_at hl 2 rfl) ?_
  refine lv_iadd hx hb dX12_moreBy_9 ?_
  refine lv_topi (fun v9 ev9 => ?_)
  have tv9 : v9.toInt = v7.toInt + x2.toInt := by rw [ev9]; exact add_i rfl rfl (by omega) (by omega)
  refine t_bld hx hb hkb hH t_v1 (hO.no t_v1 (by decide)) (by omega) (by omega) dX12_moreBy_10 (fun v10 => ?_)
  exact te_i hx hb hr hlocks hH hS (rfl) dX12_moreBy_11
set_option maxHeartbeats 4000000 in
set_option maxRecDepth 100000 in
theorem s_M_laysMore (l : Launch) (D : va_G) (cs : CS) (kf : KF) (T : TF) (O : List Nat) (X : va_W) (a0 hg mq : Nat) (x1 : Int32) (x2 : Int32) (t_a0 : T a0 = some (22, hg, mq)) (b_hg : hg < 90) (hO : okO T O [0, 8, 9, 22]) : TK l D cs kf yX12_laysMore cX12_laysMore 8 none { frames := 1, cells := 0, slots := 0, locals := 22 } [.ref a0, .int x1, .int x2] T O X (Tv D cs (fun u => u = (T, O, X))) := by
  refine tk_of (by decide) (Nat.le_of_ble_eq_true rfl) (fun p e s m below meth c ls A H locs hx hb hr hml hown hts hlocks hnm hkb hH hS hA hOX hks hE hl => ?_)
  have hown : s.vm.findClass RX12 = some m.cls := hown
  have hl : lv_has ls 8 [(0, .ref a0), (1, .int x1), (2, .int x2)] := hl
  refine lv_iconst (v := 1) hx hb dX12_laysMore_0 (by decide) ?_
  refine lv_aload_n hx hb dX12_laysMore_1 rfl (lv_at hl 0 rfl) ?_
  refine t_get (ci := 12) (lst := ft12 hg mq) (C := RX12) (F := TX12) (N := 36) hx hb hts uX12 hown hkb hH t_a0 (hO.no t_a0 (by decide)) (fun _ h9 => h9) rfl rfl 1 (by decide) rfl kw_1224 (fun _ h9 => h9) dX12_laysMore_2 (fun v9 h9 => ?_)
  obtain ⟨v2, rfl, t_v2⟩ := h9
  refine lv_iconst (v := 1) hx hb dX12_laysMore_5 (by decide) ?_
  refine t_ild8 hx hb hkb hH t_v2 (hO.no t_v2 (by decide)) (by decide) (by decide) (by decide) dX12_laysMore_6 (fun v6 h9 h8 => ?_)
  have q9 := (h8 rfl).1 rfl
  subst q9
  have eH9 : (nI (hg / 6)).toInt = (((hg / 6) : Nat) : Int) := nI_toInt (by omega)
  refine lv_ishl hx hb dX12_laysMore_7 ?_
  refine lv_topi (fun v7 ev7 => ?_)
  have tv7 : 1 ≤ v7.toInt ∧ v7.toInt ≤ 16384 := by rw [ev7]; exact shl_b 14 (by decide) (by omega) (by omega)
  refine lv_iconst (v := 1) hx hb dX12_laysMore_8 (by decide) ?_
  refine lv_isub hx hb dX12_laysMore_9 ?_
  refine lv_topi (fun v9 ev9 => ?_)
  have tv9 : v9.toInt = v7.toInt - (1) := by rw [ev9]; exact sub_i rfl (by decide : (1 : Int32).toInt = 1) (by omega) (by omega)
  have J11 : ∀ (n : Nat) (p11_3 : Int32) (H : Heap) (locs : List Loc) (ls : Array Slot), (p11_3.toInt - (0)).toNat = n → (0 ≤ p11_3.toInt) → (p11_3.toInt ≤ 16383) → HT D cs A T O X H → va_S A s.heap H locs → lv_has ls 8 [(3, .int p11_3), (0, .ref a0), (1, .int x1), (2, .int x2)] → W p l e { frames := 1, cells := 0, slots := 0, locals := 22 } s m [.ref a0, .int x1, .int x2].toArray below meth c H locs 0 0 (MQ below (Tv D cs (fun u => u = (T, O, X)) A) [.ref a0, .int x1, .int x2].toArray s 0 0 A) (F0 m 11 ls []) := by
    intro n
    induction n using Nat.strongRecOn with
    | _ n ih11 =>
      intro p11_3 H locs ls hm11 l_p11_3 u_p11_3 hH hS hl
      refine lv_iload_n hx hb dX12_laysMore_11 rfl (lv_at hl 0 rfl) ?_
      refine lv_if_le (tgt := 202) hx hb dX12_laysMore_12 (by decide) (fun c12 => ?_) (fun c12 => ?_)
      · skip
        have tc12 := f_le (k := 0) (by decide) c12
        exact te_v hx hb hr hlocks hH hS rfl dX12_laysMore_202
      · skip
        have tc12 := f_nle (k := 0) (by decide) c12
        refine lv_iload_n hx hb dX12_laysMore_15 rfl (lv_at hl 0 rfl) ?_
        refine lv_iload_n hx hb dX12_laysMore_16 rfl (lv_at hl 2 rfl) ?_
        refine lv_iconst (v := (-1)) hx hb dX12_laysMore_17 (by decide) ?_
        refine lv_ixor hx hb dX12_laysMore_18 ?_
        refine lv_topi (fun v18 ev18 => ?_)
        refine lv_iand hx hb dX12_laysMore_19 ?_
        refine lv_topi (fun v19 ev19 => ?_)
        have tv19 : 0 ≤ v19.toInt ∧ v19.toInt ≤ p11_3.toInt := by rw [ev19]; exact and_l (by omega)
        have J196 : ∀  (H : Heap) (locs : List Loc) (ls : Array Slot), HT D cs A T O X H → va_S A s.heap H locs → lv_has ls 8 [(3, .int p11_3), (0, .ref a0), (1, .int x1), (2, .int x2)] → W p l e { frames := 1, cells := 0, slots := 0, locals := 22 } s m [.ref a0, .int x1, .int x2].toArray below meth c H locs 0 0 (MQ below (Tv D cs (fun u => u = (T, O, X)) A) [.ref a0, .int x1, .int x2].toArray s 0 0 A) (F0 m 196 ls []) := by
          intro  H locs ls  hH hS hl
          obtain ⟨v196, ev196⟩ : ∃ y : Int32, y = p11_3 + (-1) := ⟨_, rfl⟩
          have tv196 : v196.toInt = p11_3.toInt + (-1) := by rw [ev196]; exact add_i rfl (by decide) (by omega) (by omega)
          refine lv_iinc (v := v196) (lv' := [(3, .int v196), (0, .ref a0), (1, .int x1), (2, .int x2)]) hx hb dX12_laysMore_196 hl (k := 0) rfl (by rw [ev196]; rfl) (by decide) rfl (fun ls hl => ?_)
          refine lv_goto (tgt := 11) hx hb dX12_laysMore_199 (by decide) ?_
          exact ih11 _ (by omega) v196 _ _ _ rfl (by omega) (by omega) hH hS (lv_sub hl [0, 1, 2, 3] rfl)
        refine lv_if_eq (tgt := 26) hx hb dX12_laysMore_20 (by decide) (fun c20 => ?_) (fun c20 => ?_)
        · skip
          have tc20 := f_eq (k := 0) (by decide) c20
          refine lv_iconst (v := 0) hx hb dX12_laysMore_26 (by decide) ?_
          have J29 : ∀ (n : Nat) (p29_4 : Int32) (H : Heap) (locs : List Loc) (ls : Array Slot), (14 - p29_4.toInt).toNat = n → (0 ≤ p29_4.toInt) → (p29_4.toInt ≤ 14) → HT D cs A T O X H → va_S A s.heap H locs → lv_has ls 8 [(4, .int p29_4), (3, .int p11_3), (0, .ref a0), (1, .int x1), (2, .int x2)] → W p l e { frames := 1, cells := 0, slots := 0, locals := 22 } s m [.ref a0, .int x1, .int x2].toArray below meth c H locs 0 0 (MQ below (Tv D cs (fun u => u = (T, O, X)) A) [.ref a0, .int x1, .int x2].toArray s 0 0 A) (F0 m 29 ls []) := by
            intro n
            induction n using Nat.strongRecOn with
            | _ n ih29 =>
              intro p29_4 H locs ls hm29 l_p29_4 u_p29_4 hH hS hl
              refine lv_iload hx hb dX12_laysMore_29 (lv_at hl 0 rfl) ?_
              refine lv_aload_n hx hb dX12_laysMore_31 rfl (lv_at hl 2 rfl) ?_
              refine t_get (ci := 12) (lst := ft12 hg mq) (C := RX12) (F := TX12) (N := 36) hx hb hts uX12 hown hkb hH t_a0 (hO.no t_a0 (by decide)) (fun _ h9 => h9) rfl rfl 1 (by decide) rfl kw_1224 (fun _ h9 => h9) dX12_laysMore_32 (fun v9 h9 => ?_)
              obtain ⟨v32, rfl, t_v32⟩ := h9
              refine lv_iconst (v := 1) hx hb dX12_laysMore_35 (by decide) ?_
              refine t_ild8 hx hb hkb hH t_v32 (hO.no t_v32 (by decide)) (by decide) (by decide) (by decide) dX12_laysMore_36 (fun v36 h9 h8 => ?_)
              have q9 := (h8 rfl).1 rfl
              subst q9
              have eH9 : (nI (hg / 6)).toInt = (((hg / 6) : Nat) : Int) := nI_toInt (by omega)
              refine lv_icmp_ge (tgt := 196) hx hb dX12_laysMore_37 (by decide) (fun c37 => ?_) (fun c37 => ?_)
              · skip
                have fuc37 := full_i p29_4
                have fvc37 := full_i (nI (hg / 6))
                have tc37 := g_le c37
                exact J196  _ _ _  hH hS (lv_sub hl [1, 2, 3, 4] rfl)
              · skip
                have fuc37 := full_i p29_4
                have fvc37 := full_i (nI (hg / 6))
                have tc37 := g_nle c37
                refine lv_iload_n hx hb dX12_laysMore_40 rfl (lv_at hl 1 rfl) ?_
                refine lv_i2l hx hb dX12_laysMore_41 rfl ?_
                refine lv_iload hx hb dX12_laysMore_42 (lv_at hl 0 rfl) ?_
                refine tk_i hH hS hA (tr_S (n := 2) (As := [.long p11_3.toInt64, .int p29_4]) hx hb hml hown hts hkb hH hOX hks hE hS hA (s_M_isIn2 l D cs kf T O X p11_3.toInt64 p29_4  (hO.sub (by decide))) kw_1440 kw_1441 kw_13 kw_1442 (by decide +kernel) ⟨Nat.le_of_ble_eq_true rfl, Nat.le_of_ble_eq_true rfl⟩ rfl rfl hl.1 (Nat.le_of_ble_eq_true rfl) dX12_laysMore_44 ⟨Nat.le_of_ble_eq_true rfl, Nat.le_of_ble_eq_true rfl⟩) (fun v44 u H locs hz9 hH hS => ?_)
                obtain ⟨rfl, l_v44, u_v44, x_v440⟩ := hz9
                have hH : HT D cs A T O X H := hH
                refine W.widen (k := 0) (n := 0) (Nat.le_of_ble_eq_true rfl) (Nat.le_of_ble_eq_true rfl) ?_
                have J190 : ∀  (H : Heap) (locs : List Loc) (ls : Array Slot), HT D cs A T O X H → va_S A s.heap H locs → lv_has ls 8 [(4, .int p29_4), (3, .int p11_3), (0, .ref a0), (1, .int x1), (2, .int x2)] → W p l e { frames := 1, cells := 0, slots := 0, locals := 22 } s m [.ref a0, .int x1, .int x2].toArray below meth c H locs 0 0 (MQ below (Tv D cs (fun u => u = (T, O, X)) A) [.ref a0, .int x1, .int x2].toArray s 0 0 A) (F0 m 190 ls []) := by
                  intro  H locs ls  hH hS hl
                  obtain ⟨v190, ev190⟩ : ∃ y : Int32, y = p29_4 + 1 := ⟨_, rfl⟩
                  have tv190 : v190.toInt = p29_4.toInt + (1) := by rw [ev190]; exact add_i rfl (by decide) (by omega) (by omega)
                  refine lv_iinc (v := v190) (lv' := [(4, .int v190), (3, .int p11_3), (0, .ref a0), (1, .int x1), (2, .int x2)]) hx hb dX12_laysMore_190 hl (k := 0) rfl (by rw [ev190]; rfl) (by decide) rfl (fun ls hl => ?_)
                  refine lv_goto (tgt := 29) hx hb dX12_laysMore_193 (by decide) ?_
                  exact ih29 _ (by omega) v190 _ _ _ rfl (by omega) (by omega) hH hS (lv_sub hl [0, 1, 2, 3, 4] rfl)
                refine lv_if_ne (tgt := 53) hx hb dX12_laysMore_47 (by decide) (fun c47 => ?_) (fun c47 => ?_)
                · skip
                  have tc47 := f_ne (k := 0) (by decide) c47
                  refine lv_aload_n hx hb dX12_laysMore_53 rfl (lv_at hl 2 rfl) ?_
                  refine t_get (ci := 12) (lst := ft12 hg mq) (C := RX12) (F := TX12) (N := 36) hx hb hts uX12 hown hkb hH t_a0 (hO.no t_a0 (by decide)) (fun _ h9 => h9) rfl rfl 1 (by decide) rfl kw_1224 (fun _ h9 => h9) dX12_laysMore_54 (fun v9 h9 => ?_)
                  obtain ⟨v54, rfl, t_v54⟩ := h9
                  refine lv_iconst (v := 5) hx hb dX12_laysMore_57 (by decide) ?_
                  refine t_ild8 hx hb hkb hH t_v54 (hO.no t_v54 (by decide)) (by decide) (by decide) (by decide) dX12_laysMore_58 (fun v58 h9 h8 => ?_)
                  have tv58 : 0 ≤ v58.toInt ∧ v58.toInt ≤ 16383 := h9.2.2.2.1 (by decide)
                  refine lv_i2l hx hb dX12_laysMore_59 rfl ?_
                  refine lv_iload hx hb dX12_laysMore_60 (lv_at hl 0 rfl) ?_
                  refine tk_i hH hS hA (tr_S (n := 2) (As := [.long v58.toInt64, .int p29_4]) hx hb hml hown hts hkb hH hOX hks hE hS hA (s_M_isIn2 l D cs kf T O X v58.toInt64 p29_4  (hO.sub (by decide))) kw_1440 kw_1441 kw_13 kw_1442 (by decide +kernel) ⟨Nat.le_of_ble_eq_true rfl, Nat.le_of_ble_eq_true rfl⟩ rfl rfl hl.1 (Nat.le_of_ble_eq_true rfl) dX12_laysMore_62 ⟨Nat.le_of_ble_eq_true rfl, Nat.le_of_ble_eq_true rfl⟩) (fun v62 u H locs hz9 hH hS => ?_)
                  obtain ⟨rfl, l_v62, u_v62, x_v620⟩ := hz9
                  have hH : HT D cs A T O X H := hH
                  refine W.widen (k := 0) (n := 0) (Nat.le_of_ble_eq_true rfl) (Nat.le_of_ble_eq_true rfl) ?_
                  have J82 : ∀ (k82_0 : Int32) (H : Heap) (locs : List Loc) (ls : Array Slot), (0 ≤ k82_0.toInt) → (k82_0.toInt ≤ 99) → HT D cs A T O X H → va_S A s.heap H locs → lv_has ls 8 [(4, .int p29_4), (3, .int p11_3), (0, .ref a0), (1, .int x1), (2, .int x2)] → W p l e { frames := 1, cells := 0, slots := 0, locals := 22 } s m [.ref a0, .int x1, .int x2].toArray below meth c H locs 0 0 (MQ below (Tv D cs (fun u => u = (T, O, X)) A) [.ref a0, .int x1, .int x2].toArray s 0 0 A) (F0 m 82 ls [.int k82_0]) := by
                    intro k82_0 H locs ls l_k82_0 u_k82_0 hH hS hl
                    refine lv_istore (lv' := [(5, .int k82_0), (4, .int p29_4), (3, .int p11_3), (0, .ref a0), (1, .int x1), (2, .int x2)]) hx hb dX12_laysMore_82 hl (by decide) rfl (fun ls hl => ?_)
                    refine lv_aload_n hx hb dX12_laysMore_84 rfl (lv_at hl 3 rfl) ?_
                    refine t_get (ci := 12) (lst := ft12 hg mq) (C := RX12) (F := TX12) (N := 36) hx hb hts uX12 hown hkb hH t_a0 (hO.no t_a0 (by decide)) (fun _ h9 => h9) rfl rfl 17 (by decide) rfl kw_1240 (fun _ h9 => h9) dX12_laysMore_85 (fun v9 h9 => ?_)
                    obtain ⟨v85, rfl, t_v85⟩ := h9
                    refine lv_iload hx hb dX12_laysMore_88 (lv_at hl 1 rfl) ?_
                    refine t_ild9 hx hb hkb hH t_v85 (hO.no t_v85 (by decide)) (by omega) (by omega) (by decide) dX12_laysMore_90 (fun v90 h9 => ?_)
                    have tv90 : 0 ≤ v90.toInt ∧ v90.toInt ≤ 16383 := h9
                    refine lv_iload_n hx hb dX12_laysMore_91 rfl (lv_at hl 4 rfl) ?_
                    refine lv_iand hx hb dX12_laysMore_92 ?_
                    refine lv_topi (fun v92 ev92 => ?_)
                    have tv92 : 0 ≤ v92.toInt ∧ v92.toInt ≤ v90.toInt := by rw [ev92]; exact and_l (by omega)
                    refine lv_iload_n hx hb dX12_laysMore_93 rfl (lv_at hl 2 rfl) ?_
                    refine lv_iconst (v := (-1)) hx hb dX12_laysMore_94 (by decide) ?_
                    refine lv_ixor hx hb dX12_laysMore_95 ?_
                    refine lv_topi (fun v95 ev95 => ?_)
                    refine lv_iand hx hb dX12_laysMore_96 ?_
                    refine lv_topi (fun v96 ev96 => ?_)
                    have tv96 : 0 ≤ v96.toInt ∧ v96.toInt ≤ v92.toInt := by rw [ev96]; exact and_l (by omega)
                    refine lv_istore (lv' := [(6, .int v96), (5, .int k82_0), (4, .int p29_4), (3, .int p11_3), (0, .ref a0), (1, .int x1), (2, .int x2)]) hx hb dX12_laysMore_97 hl (by decide) rfl (fun ls hl => ?_)
                    refine lv_iconst (v := 0) hx hb dX12_laysMore_99 (by decide) ?_
                    have J102 : ∀ (n : Nat) (p102_7 : Int32) (p102_5 : Int32) (H : Heap) (locs : List Loc) (ls : Array Slot), (14 - p102_7.toInt).toNat = n → (0 ≤ p102_7.toInt) → (p102_7.toInt ≤ 14) → HT D cs A T O X H → va_S A s.heap H locs → lv_has ls 8 [(7, .int p102_7), (6, .int v96), (5, .int p102_5), (4, .int p29_4), (3, .int p11_3), (0, .ref a0), (1, .int x1), (2, .int x2)] → W p l e { frames := 1, cells := 0, slots := 0, locals := 22 } s m [.ref a0, .int x1, .int x2].toArray below meth c H locs 0 0 (MQ below (Tv D cs (fun u => u = (T, O, X)) A) [.ref a0, .int x1, .int x2].toArray s 0 0 A) (F0 m 102 ls []) := by
                      intro n
                      induction n using Nat.strongRecOn with
                      | _ n ih102 =>
                        intro p102_7 p102_5 H locs ls hm102 l_p102_7 u_p102_7 hH hS hl
                        refine lv_iload hx hb dX12_laysMore_102 (lv_at hl 0 rfl) ?_
                        refine lv_aload_n hx hb dX12_laysMore_104 rfl (lv_at hl 5 rfl) ?_
                        refine t_get (ci := 12) (lst := ft12 hg mq) (C := RX12) (F := TX12) (N := 36) hx hb hts uX12 hown hkb hH t_a0 (hO.no t_a0 (by decide)) (fun _ h9 => h9) rfl rfl 1 (by decide) rfl kw_1224 (fun _ h9 => h9) dX12_laysMore_105 (fun v9 h9 => ?_)
                        obtain ⟨v105, rfl, t_v105⟩ := h9
                        refine lv_iconst (v := 1) hx hb dX12_laysMore_108 (by decide) ?_
                        refine t_ild8 hx hb hkb hH t_v105 (hO.no t_v105 (by decide)) (by decide) (by decide) (by decide) dX12_laysMore_109 (fun v109 h9 h8 => ?_)
                        have q9 := (h8 rfl).1 rfl
                        subst q9
                        have eH9 : (nI (hg / 6)).toInt = (((hg / 6) : Nat) : Int) := nI_toInt (by omega)
                        refine lv_icmp_ge (tgt := 175) hx hb dX12_laysMore_110 (by decide) (fun c110 => ?_) (fun c110 => ?_)
                        · skip
                          have fuc110 := full_i p102_7
                          have fvc110 := full_i (nI (hg / 6))
                          have tc110 := g_le c110
                          refine lv_aload_n hx hb dX12_laysMore_175 rfl (lv_at hl 5 rfl) ?_
                          refine t_get (ci := 12) (lst := ft12 hg mq) (C := RX12) (F := TX12) (N := 36) hx hb hts uX12 hown hkb hH t_a0 (hO.no t_a0 (by decide)) (fun _ h9 => h9) rfl rfl 28 (by decide) rfl kw_1251 (fun _ h9 => h9) dX12_laysMore_176 (fun v9 h9 => ?_)
                          obtain ⟨v176, rfl, t_v176⟩ := h9
                          refine lv_bipush (v := 14) hx hb dX12_laysMore_179 (by decide) ?_
                          refine lv_iload_n hx hb dX12_laysMore_181 rfl (lv_at hl 4 rfl) ?_
                          refine lv_imul hx hb dX12_laysMore_182 ?_
                          refine lv_topi (fun v182 ev182 => ?_)
                          have tv182 : v182.toInt = (14) * p11_3.toInt := by rw [ev182]; exact mul_i (by decide : (14 : Int32).toInt = 14) rfl (by omega) (by omega)
                          refine lv_iload hx hb dX12_laysMore_183 (lv_at hl 3 rfl) ?_
                          refine lv_iadd hx hb dX12_laysMore_185 ?_
                          refine lv_topi (fun v185 ev185 => ?_)
                          have tv185 : v185.toInt = v182.toInt + p29_4.toInt := by rw [ev185]; exact add_i rfl rfl (by omega) (by omega)
                          refine lv_iload hx hb dX12_laysMore_186 (lv_at hl 2 rfl) ?_
                          refine lv_i2b hx hb dX12_laysMore_188 rfl ?_
                          refine lv_topi (fun v188 ev188 => ?_)
                          refine t_bst hx hb hkb hH hS t_v176 (hO.no t_v176 (by decide)) (by omega) (by omega) dX12_laysMore_189 (fun H locs hH hS => ?_)
                          exact J190  _ _ _  hH hS (lv_sub hl [3, 4, 5, 6, 7] rfl)
                        · skip
                          have fuc110 := full_i p102_7
                          have fvc110 := full_i (nI (hg / 6))
                          have tc110 := g_nle c110
                          refine lv_iload hx hb dX12_laysMore_113 (lv_at hl 1 rfl) ?_
                          refine lv_i2l hx hb dX12_laysMore_115 rfl ?_
                          refine lv_iload hx hb dX12_laysMore_116 (lv_at hl 0 rfl) ?_
                          refine tk_i hH hS hA (tr_S (n := 2) (As := [.long v96.toInt64, .int p102_7]) hx hb hml hown hts hkb hH hOX hks hE hS hA (s_M_isIn2 l D cs kf T O X v96.toInt64 p102_7  (hO.sub (by decide))) kw_1440 kw_1441 kw_13 kw_1442 (by decide +kernel) ⟨Nat.le_of_ble_eq_true rfl, Nat.le_of_ble_eq_true rfl⟩ rfl rfl hl.1 (Nat.le_of_ble_eq_true rfl) dX12_laysMore_118 ⟨Nat.le_of_ble_eq_true rfl, Nat.le_of_ble_eq_true rfl⟩) (fun v118 u H locs hz9 hH hS => ?_)
                          obtain ⟨rfl, l_v118, u_v118, x_v1180⟩ := hz9
                          have hH : HT D cs A T O X H := hH
                          refine W.widen (k := 0) (n := 0) (Nat.le_of_ble_eq_true rfl) (Nat.le_of_ble_eq_true rfl) ?_
                          have J169 : ∀ (p169_5 : Int32) (H : Heap) (locs : List Loc) (ls : Array Slot), HT D cs A T O X H → va_S A s.heap H locs → lv_has ls 8 [(7, .int p102_7), (6, .int v96), (5, .int p169_5), (4, .int p29_4), (3, .int p11_3), (0, .ref a0), (1, .int x1), (2, .int x2)] → W p l e { frames := 1, cells := 0, slots := 0, locals := 22 } s m [.ref a0, .int x1, .int x2].toArray below meth c H locs 0 0 (MQ below (Tv D cs (fun u => u = (T, O, X)) A) [.ref a0, .int x1, .int x2].toArray s 0 0 A) (F0 m 169 ls []) := by
                            intro p169_5 H locs ls  hH hS hl
                            obtain ⟨v169, ev169⟩ : ∃ y : Int32, y = p102_7 + 1 := ⟨_, rfl⟩
                            have tv169 : v169.toInt = p102_7.toInt + (1) := by rw [ev169]; exact add_i rfl (by decide) (by omega) (by omega)
                            refine lv_iinc (v := v169) (lv' := [(7, .int v169), (6, .int v96), (5, .int p169_5), (4, .int p29_4), (3, .int p11_3), (0, .ref a0), (1, .int x1), (2, .int x2)]) hx hb dX12_laysMore_169 hl (k := 0) rfl (by rw [ev169]; rfl) (by decide) rfl (fun ls hl => ?_)
                            refine lv_goto (tgt := 102) hx hb dX12_laysMore_172 (by decide) ?_
                            exact ih102 _ (by omega) v169 p169_5 _ _ _ rfl (by omega) (by omega) hH hS (lv_sub hl [0, 1, 2, 3, 4, 5, 6, 7] rfl)
                          refine lv_if_eq (tgt := 169) hx hb dX12_laysMore_121 (by decide) (fun c121 => ?_) (fun c121 => ?_)
                          · skip
                            have tc121 := f_eq (k := 0) (by decide) c121
                            exact J169 p102_5 _ _ _  hH hS (lv_sub hl [0, 1, 2, 3, 4, 5, 6, 7] rfl)
                          · skip
                            have tc121 := f_ne (k := 0) (by decide) c121
                            refine lv_aload_n hx hb dX12_laysMore_124 rfl (lv_at hl 5 rfl) ?_
                            refine t_get (ci := 12) (lst := ft12 hg mq) (C := RX12) (F := TX12) (N := 36) hx hb hts uX12 hown hkb hH t_a0 (hO.no t_a0 (by decide)) (fun _ h9 => h9) rfl rfl 28 (by decide) rfl kw_1251 (fun _ h9 => h9) dX12_laysMore_125 (fun v9 h9 => ?_)
                            obtain ⟨v125, rfl, t_v125⟩ := h9
                            refine lv_bipush (v := 14) hx hb dX12_laysMore_128 (by decide) ?_
                            refine lv_iload_n hx hb dX12_laysMore_130 rfl (lv_at hl 4 rfl) ?_
                            refine lv_iconst (v := 1) hx hb dX12_laysMore_131 (by decide) ?_
                            refine lv_iload hx hb dX12_laysMore_132 (lv_at hl 0 rfl) ?_
                            refine lv_ishl hx hb dX12_laysMore_134 ?_
                            refine lv_topi (fun v134 ev134 => ?_)
                            have tv134 : 1 ≤ v134.toInt ∧ v134.toInt ≤ 8192 := by rw [ev134]; exact shl_b 13 (by decide) (by omega) (by omega)
                            refine lv_ior hx hb dX12_laysMore_135 ?_
                            refine lv_topi (fun v135 ev135 => ?_)
                            have tv135 : 0 ≤ v135.toInt ∧ v135.toInt < 16384 := by rw [ev135]; exact or_b 14 (by decide) (by omega) (by omega) (by omega) (by omega)
                            refine lv_imul hx hb dX12_laysMore_136 ?_
                            refine lv_topi (fun v136 ev136 => ?_)
                            have tv136 : v136.toInt = (14) * v135.toInt := by rw [ev136]; exact mul_i (by decide : (14 : Int32).toInt = 14) rfl (by omega) (by omega)
                            refine lv_iload hx hb dX12_laysMore_137 (lv_at hl 0 rfl) ?_
                            refine lv_iadd hx hb dX12_laysMore_139 ?_
                            refine lv_topi (fun v139 ev139 => ?_)
                            have tv139 : v139.toInt = v136.toInt + p102_7.toInt := by rw [ev139]; exact add_i rfl rfl (by omega) (by omega)
                            refine t_bld hx hb hkb hH t_v125 (hO.no t_v125 (by decide)) (by omega) (by omega) dX12_laysMore_140 (fun v140 => ?_)
                            refine lv_iconst (v := 1) hx hb dX12_laysMore_141 (by decide) ?_
                            refine lv_iadd hx hb dX12_laysMore_142 ?_
                            refine lv_topi (fun v142 ev142 => ?_)
                            refine lv_iload hx hb dX12_laysMore_143 (lv_at hl 2 rfl) ?_
                            refine lv_icmp_ge (tgt := 169) hx hb dX12_laysMore_145 (by decide) (fun c145 => ?_) (fun c145 => ?_)
                            · skip
                              have fuc145 := full_i v142
                              have fvc145 := full_i p102_5
                              have tc145 := g_le c145
                              exact J169 p102_5 _ _ _  hH hS (lv_sub hl [0, 1, 2, 3, 4, 5, 6, 7] rfl)
                            · skip
                              have fuc145 := full_i v142
                              have fvc145 := full_i p102_5
                              have tc145 := g_nle c145
                              refine lv_aload_n hx hb dX12_laysMore_148 rfl (lv_at hl 5 rfl) ?_
                              refine t_get (ci := 12) (lst := ft12 hg mq) (C := RX12) (F := TX12) (N := 36) hx hb hts uX12 hown hkb hH t_a0 (hO.no t_a0 (by decide)) (fun _ h9 => h9) rfl rfl 28 (by decide) rfl kw_1251 (fun _ h9 => h9) dX12_laysMore_149 (fun v9 h9 => ?_)
                              obtain ⟨v149, rfl, t_v149⟩ := h9
                              refine lv_bipush (v := 14) hx hb dX12_laysMore_152 (by decide) ?_
                              refine lv_iload_n hx hb dX12_laysMore_154 rfl (lv_at hl 4 rfl) ?_
                              refine lv_iconst (v := 1) hx hb dX12_laysMore_155 (by decide) ?_
                              refine lv_iload hx hb dX12_laysMore_156 (lv_at hl 0 rfl) ?_
                              refine lv_ishl hx hb dX12_laysMore_158 ?_
                              refine lv_topi (fun v158 ev158 => ?_)
                              have tv158 : 1 ≤ v158.toInt ∧ v158.toInt ≤ 8192 := by rw [ev158]; exact shl_b 13 (by decide) (by omega) (by omega)
                              refine lv_ior hx hb dX12_laysMore_159 ?_
                              refine lv_topi (fun v159 ev159 => ?_)
                              have tv159 : 0 ≤ v159.toInt ∧ v159.toInt < 16384 := by rw [ev159]; exact or_b 14 (by decide) (by omega) (by omega) (by omega) (by omega)
                              refine lv_imul hx hb dX12_laysMore_160 ?_
                              refine lv_topi (fun v160 ev160 => ?_)
                              have tv160 : v160.toInt = (14) * v159.toInt := by rw [ev160]; exact mul_i (by decide : (14 : Int32).toInt = 14) rfl (by omega) (by omega)
                              refine lv_iload hx hb dX12_laysMore_161 (lv_at hl 0 rfl) ?_
                              refine lv_iadd hx hb dX12_laysMore_163 ?_
                              refine lv_topi (fun v163 ev163 => ?_)
                              have tv163 : v163.toInt = v160.toInt + p102_7.toInt := by rw [ev163]; exact add_i rfl rfl (by omega) (by omega)
                              refine t_bld hx hb hkb hH t_v149 (hO.no t_v149 (by decide)) (by omega) (by omega) dX12_laysMore_164 (fun v164 => ?_)
                              refine lv_iconst (v := 1) hx hb dX12_laysMore_165 (by decide) ?_
                              refine lv_iadd hx hb dX12_laysMore_166 ?_
                              refine lv_topi (fun v166 ev166 => ?_)
                              refine lv_istore (lv' := [(5, .int v166), (7, .int p102_7), (6, .int v96), (4, .int p29_4), (3, .int p11_3), (0, .ref a0), (1, .int x1), (2, .int x2)]) hx hb dX12_laysMore_167 hl (by decide) rfl (fun ls hl => ?_)
                              exact J169 v166 _ _ _  hH hS (lv_sub hl [1, 2, 0, 3, 4, 5, 6, 7] rfl)
                    refine lv_istore (lv' := [(7, .int 0), (6, .int v96), (5, .int k82_0), (4, .int p29_4), (3, .int p11_3), (0, .ref a0), (1, .int x1), (2, .int x2)]) hx hb dX12_laysMore_100 hl (by decide) rfl (fun ls hl => ?_)
                    exact J102 _ 0 k82_0 _ _ _ rfl (by decide) (by decide) hH hS (lv_sub hl [0, 1, 2, 3, 4, 5, 6, 7] rfl)
                  have J80 : ∀  (H : Heap) (locs : List Loc) (ls : Array Slot), HT D cs A T O X H → va_S A s.heap H locs → lv_has ls 8 [(4, .int p29_4), (3, .int p11_3), (0, .ref a0), (1, .int x1), (2, .int x2)] → W p l e { frames := 1, cells := 0, slots := 0, locals := 22 } s m [.ref a0, .int x1, .int x2].toArray below meth c H locs 0 0 (MQ below (Tv D cs (fun u => u = (T, O, X)) A) [.ref a0, .int x1, .int x2].toArray s 0 0 A) (F0 m 80 ls []) := by
                    intro  H locs ls  hH hS hl
                    refine lv_bipush (v := 99) hx hb dX12_laysMore_80 (by decide) ?_
                    exact J82 99 _ _ _ (by decide) (by decide) hH hS (lv_sub hl [0, 1, 2, 3, 4] rfl)
                  refine lv_if_eq (tgt := 80) hx hb dX12_laysMore_65 (by decide) (fun c65 => ?_) (fun c65 => ?_)
                  · skip
                    have tc65 := f_eq (k := 0) (by decide) c65
                    exact J80  _ _ _  hH hS (lv_sub hl [0, 1, 2, 3, 4] rfl)
                  · skip
                    have tc65 := f_ne (k := 0) (by decide) c65
                    refine lv_iload_n hx hb dX12_laysMore_68 rfl (lv_at hl 4 rfl) ?_
                    refine lv_iload_n hx hb dX12_laysMore_69 rfl (lv_at hl 1 rfl) ?_
                    refine lv_iconst (v := (-1)) hx hb dX12_laysMore_70 (by decide) ?_
                    refine lv_ixor hx hb dX12_laysMore_71 ?_
                    refine lv_topi (fun v71 ev71 => ?_)
                    refine lv_iand hx hb dX12_laysMore_72 ?_
                    refine lv_topi (fun v72 ev72 => ?_)
                    refine lv_if_ne (tgt := 80) hx hb dX12_laysMore_73 (by decide) (fun c73 => ?_) (fun c73 => ?_)
                    · skip
                      have tc73 := f_ne (k := 0) (by decide) c73
                      exact J80  _ _ _  hH hS (lv_sub hl [0, 1, 2, 3, 4] rfl)
                    · skip
                      have tc73 := f_eq (k := 0) (by decide) c73
                      refine lv_iconst (v := 0) hx hb dX12_laysMore_76 (by decide) ?_
                      refine lv_goto (tgt := 82) hx hb dX12_laysMore_77 (by decide) ?_
                      exact J82 0 _ _ _ (by decide) (by decide) hH hS (lv_sub hl [0, 1, 2, 3, 4] rfl)
                · skip
                  have tc47 := f_eq (k := 0) (by decide) c47
                  refine lv_goto (tgt := 190) hx hb dX12_laysMore_50 (by decide) ?_
                  exact J190  _ _ _  hH hS (lv_sub hl [0, 1, 2, 3, 4] rfl)
          refine lv_istore (lv' := [(4, .int 0), (3, .int p11_3), (0, .ref a0), (1, .int x1), (2, .int x2)]) hx hb dX12_laysMore_27 hl (by decide) rfl (fun ls hl => ?_)
          exact J29 _ 0 _ _ _ rfl (by decide) (by decide) hH hS (lv_sub hl [0, 1, 2, 3, 4] rfl)
        · skip
          have tc20 := f_ne (k := 0) (by decide) c20
          refine lv_goto (tgt := 196) hx hb dX12_laysMore_23 (by decide) ?_
          exact J196  _ _ _  hH hS (lv_sub hl [0, 1, 2, 3] rfl)
  refine lv_istore_n (lv' := [(3, .int v9), (0, .ref a0), (1, .int x1), (2, .int x2)]) hx hb dX12_laysMore_10 rfl hl (by decide) rfl (fun ls hl => ?_)
  exact J11 _ v9 _ _ _ rfl (by omega) (by omega) hH hS (lv_sub hl [0, 1, 2, 3] rfl)
set_option maxHeartbeats 4000000 in
set_option maxRecDepth 100000 in
theorem s_M_laysWhose (l : Launch) (D : va_G) (cs : CS) (kf : KF) (T : TF) (O : List Nat) (X : va_W) (a0 hg mq : Nat) (x1 : Int32) (x2 : Int32) (t_a0 : T a0 = some (22, hg, mq)) (b_hg : hg < 90) (l_x1 : 0 ≤ x1.toInt) (u_x1 : x1.toInt ≤ 4) (hO : okO T O [0, 1, 8, 9, 22]) : TK l D cs kf yX12_laysWhose cX12_laysWhose 6 (some (.int)) { frames := 5, cells := 0, slots := 0, locals := 119 } [.ref a0, .int x1, .int x2] T O X (Ti D cs (fun r u => u = (T, O, X) ∧ -1 ≤ r.toInt ∧ r.toInt ≤ 13)) := by
  refine tk_of (by decide) (Nat.le_of_ble_eq_true rfl) (fun p e s m below meth c ls A H locs hx hb hr hml hown hts hlocks hnm hkb hH hS hA hOX hks hE hl => ?_)
  have hown : s.vm.findClass RX12 = some m.cls := hown
  have hl : lv_has ls 6 [(0, .ref a0), (1, .int x1), (2, .int x2)] := hl
  refine lv_aload_n hx hb dX12_laysWhose_0 rfl (lv_at hl 0 rfl) ?_
  refine lv_iload_n hx hb dX12_laysWhose_1 rfl (lv_at hl 1 rfl) ?_
  refine tk_v hH hS hA (tr_V (n := 1) (As := [.int x1]) hx hb hml hown hts hkb hH hOX hks hE hS hA (s_M_laysGuide l D cs kf T O X a0 hg mq x1 t_a0 b_hg (by omega) (by omega) (hO.sub (by decide))) kw_1502 kw_1504 ks_71 kw_13 kw_1505 (by decide +kernel) ⟨Nat.le_of_ble_eq_true rfl, Nat.le_of_ble_eq_true rfl⟩ (HT.recv (ci := 12) hkb hH t_a0 (hO.no t_a0 (by decide)) rfl) rfl rfl hl.1 (Nat.le_of_ble_eq_true rfl) dX12_laysWhose_2 ⟨Nat.le_of_ble_eq_true rfl, Nat.le_of_ble_eq_true rfl⟩) (fun u H locs hz9 hH hS => ?_)
  have hz9 : u = (T, O, X) := hz9
  subst hz9
  have hH : HT D cs A T O X H := hH
  refine W.widen (k := 0) (n := 0) (Nat.le_of_ble_eq_true rfl) (Nat.le_of_ble_eq_true rfl) ?_
  refine lv_iload_n hx hb dX12_laysWhose_5 rfl (lv_at hl 2 rfl) ?_
  refine lv_aload_n hx hb dX12_laysWhose_6 rfl (lv_at hl 0 rfl) ?_
  refine tk_i hH hS hA (tr_V (n := 0) (As := []) hx hb hml hown hts hkb hH hOX hks hE hS hA (s_M_thereSet l D cs kf T O X a0 hg mq t_a0 b_hg (hO.sub (by decide))) kw_1724 kw_1726 ks_99 kw_13 kw_1727 (by decide +kernel) ⟨Nat.le_of_ble_eq_true rfl, Nat.le_of_ble_eq_true rfl⟩ (HT.recv (ci := 12) hkb hH t_a0 (hO.no t_a0 (by decide)) rfl) rfl rfl hl.1 (Nat.le_of_ble_eq_true rfl) dX12_laysWhose_7 ⟨Nat.le_of_ble_eq_true rfl, Nat.le_of_ble_eq_true rfl⟩) (fun v7 u H locs hz9 hH hS => ?_)
  obtain ⟨rfl, l_v7, u_v7⟩ := hz9
  have hH : HT D cs A T O X H := hH
  refine W.widen (k := 0) (n := 0) (Nat.le_of_ble_eq_true rfl) (Nat.le_of_ble_eq_true rfl) ?_
  refine lv_aload_n hx hb dX12_laysWhose_10 rfl (lv_at hl 0 rfl) ?_
  refine tk_i hH hS hA (tr_V (n := 0) (As := []) hx hb hml hown hts hkb hH hOX hks hE hS hA (s_M_ends l D cs kf T O X a0 hg mq t_a0 b_hg (hO.sub (by decide))) kw_1536 kw_1538 ks_78 kw_13 kw_1539 (by decide +kernel) ⟨Nat.le_of_ble_eq_true rfl, Nat.le_of_ble_eq_true rfl⟩ (HT.recv (ci := 12) hkb hH t_a0 (hO.no t_a0 (by decide)) rfl) rfl rfl hl.1 (Nat.le_of_ble_eq_true rfl) dX12_laysWhose_11 ⟨Nat.le_of_ble_eq_true rfl, Nat.le_of_ble_eq_true rfl⟩) (fun v11 u H locs hz9 hH hS => ?_)
  obtain ⟨rfl, l_v11, u_v11⟩ := hz9
  have hH : HT D cs A T O X H := hH
  refine W.widen (k := 0) (n := 0) (Nat.le_of_ble_eq_true rfl) (Nat.le_of_ble_eq_true rfl) ?_
  refine lv_iand hx hb dX12_laysWhose_14 ?_
  refine lv_topi (fun v14 ev14 => ?_)
  have tv14 : 0 ≤ v14.toInt ∧ v14.toInt ≤ v7.toInt := by rw [ev14]; exact and_l (by omega)
  have ttv14 : 0 ≤ v14.toInt ∧ v14.toInt ≤ v11.toInt := by rw [ev14]; exact and_r (by omega)
  refine lv_ior hx hb dX12_laysWhose_15 ?_
  refine lv_topi (fun v15 ev15 => ?_)
  refine lv_istore_n (lv' := [(3, .int v15), (0, .ref a0), (1, .int x1), (2, .int x2)]) hx hb dX12_laysWhose_16 rfl hl (by decide) rfl (fun ls hl => ?_)
  refine lv_aload_n hx hb dX12_laysWhose_17 rfl (lv_at hl 1 rfl) ?_
  refine lv_iload_n hx hb dX12_laysWhose_18 rfl (lv_at hl 0 rfl) ?_
  refine lv_iload_n hx hb dX12_laysWhose_19 rfl (lv_at hl 3 rfl) ?_
  refine tk_v hH hS hA (tr_V (n := 2) (As := [.int v15, .int x2]) hx hb hml hown hts hkb hH hOX hks hE hS hA (s_M_laysMore l D cs kf T O X a0 hg mq v15 x2 t_a0 b_hg (hO.sub (by decide))) kw_1732 kw_1734 ks_101 kw_13 kw_1735 (by decide +kernel) ⟨Nat.le_of_ble_eq_true rfl, Nat.le_of_ble_eq_true rfl⟩ (HT.recv (ci := 12) hkb hH t_a0 (hO.no t_a0 (by decide)) rfl) rfl rfl hl.1 (Nat.le_of_ble_eq_true rfl) dX12_laysWhose_20 ⟨Nat.le_of_ble_eq_true rfl, Nat.le_of_ble_eq_true rfl⟩) (fun u H locs hz9 hH hS => ?_)
  have hz9 : u = (T, O, X) := hz9
  subst hz9
  have hH : HT D cs A T O X H := hH
  refine W.widen (k := 0) (n := 0) (Nat.le_of_ble_eq_true rfl) (Nat.le_of_ble_eq_true rfl) ?_
  refine lv_iconst (v := (-1)) hx hb dX12_laysWhose_23 (by decide) ?_
  refine lv_istore (lv' := [(4, .int (-1)), (3, .int v15), (0, .ref a0), (1, .int x1), (2, .int x2)]) hx hb dX12_laysWhose_24 hl (by decide) rfl (fun ls hl => ?_)
  refine lv_iconst (v := 0) hx hb dX12_laysWhose_26 (by decide) ?_
  have J29 : ∀ (n : Nat) (p29_5 : Int32) (p29_4 : Int32) (H : Heap) (locs : List Loc) (ls : Array Slot), (14 - p29_5.toInt).toNat = n → (0 ≤ p29_5.toInt) → (p29_5.toInt ≤ 14) → (-1 ≤ p29_4.toInt) → (p29_4.toInt ≤ 13) → HT D cs A T O X H → va_S A s.heap H locs → lv_has ls 6 [(5, .int p29_5), (4, .int p29_4), (3, .int v15), (0, .ref a0)] → W p l e { frames := 5, cells := 0, slots := 0, locals := 119 } s m [.ref a0, .int x1, .int x2].toArray below meth c H locs 0 0 (MQ below (Ti D cs (fun r u => u = (T, O, X) ∧ -1 ≤ r.toInt ∧ r.toInt ≤ 13) A) [.ref a0, .int x1, .int x2].toArray s 0 0 A) (F0 m 29 ls []) := by
    intro n
    induction n using Nat.strongRecOn with
    | _ n ih29 =>
      intro p29_5 p29_4 H locs ls hm29 l_p29_5 u_p29_5 l_p29_4 u_p29_4 hH hS hl
      refine lv_iload hx hb dX12_laysWhose_29 (lv_at hl 0 rfl) ?_
      refine lv_aload_n hx hb dX12_laysWhose_31 rfl (lv_at hl 3 rfl) ?_
      refine t_get (ci := 12) (lst := ft12 hg mq) (C := RX12) (F := TX12) (N := 36) hx hb hts uX12 hown hkb hH t_a0 (hO.no t_a0 (by decide)) (fun _ h9 => h9) rfl rfl 1 (by decide) rfl kw_1224 (fun _ h9 => h9) dX12_laysWhose_32 (fun v9 h9 => ?_)
      obtain ⟨v32, rfl, t_v32⟩ := h9
      refine lv_iconst (v := 1) hx hb dX12_laysWhose_35 (by decide) ?_
      refine t_ild8 hx hb hkb hH t_v32 (hO.no t_v32 (by decide)) (by decide) (by decide) (by decide) dX12_laysWhose_36 (fun v36 h9 h8 => ?_)
      have q9 := (h8 rfl).1 rfl
      subst q9
      have eH9 : (nI (hg / 6)).toInt = (((hg / 6) : Nat) : Int) := nI_toInt (by omega)
      refine lv_icmp_ge (tgt := 111) hx hb dX12_laysWhose_37 (by decide) (fun c37 => ?_) (fun c37 => ?_)
      · skip
        have fuc37 := full_i p29_5
        have fvc37 := full_i (nI (hg / 6))
        have tc37 := g_le c37
        refine lv_iload hx hb dX12_laysWhose_111 (lv_at hl 1 rfl) ?_
        exact te_i hx hb hr hlocks hH hS (⟨rfl, by omega, by omega⟩) dX12_laysWhose_113
      · skip
        have fuc37 := full_i p29_5
        have fvc37 := full_i (nI (hg / 6))
        have tc37 := g_nle c37
        refine lv_iload_n hx hb dX12_laysWhose_40 rfl (lv_at hl 2 rfl) ?_
        refine lv_aload_n hx hb dX12_laysWhose_41 rfl (lv_at hl 3 rfl) ?_
        refine t_get (ci := 12) (lst := ft12 hg mq) (C := RX12) (F := TX12) (N := 36) hx hb hts uX12 hown hkb hH t_a0 (hO.no t_a0 (by decide)) (fun _ h9 => h9) rfl rfl 1 (by decide) rfl kw_1224 (fun _ h9 => h9) dX12_laysWhose_42 (fun v9 h9 => ?_)
        obtain ⟨v42, rfl, t_v42⟩ := h9
        refine lv_iconst (v := 4) hx hb dX12_laysWhose_45 (by decide) ?_
        refine t_ild8 hx hb hkb hH t_v42 (hO.no t_v42 (by decide)) (by decide) (by decide) (by decide) dX12_laysWhose_46 (fun v46 h9 h8 => ?_)
        have tv46 : 0 ≤ v46.toInt ∧ v46.toInt ≤ 16383 := h9.2.2.1 (by decide)
        refine lv_iand hx hb dX12_laysWhose_47 ?_
        refine lv_topi (fun v47 ev47 => ?_)
        have tv47 : 0 ≤ v47.toInt ∧ v47.toInt ≤ v46.toInt := by rw [ev47]; exact and_r (by omega)
        refine lv_i2l hx hb dX12_laysWhose_48 rfl ?_
        refine lv_iload hx hb dX12_laysWhose_49 (lv_at hl 0 rfl) ?_
        refine tk_i hH hS hA (tr_S (n := 2) (As := [.long v47.toInt64, .int p29_5]) hx hb hml hown hts hkb hH hOX hks hE hS hA (s_M_isIn2 l D cs kf T O X v47.toInt64 p29_5  (hO.sub (by decide))) kw_1440 kw_1441 kw_13 kw_1442 (by decide +kernel) ⟨Nat.le_of_ble_eq_true rfl, Nat.le_of_ble_eq_true rfl⟩ rfl rfl hl.1 (Nat.le_of_ble_eq_true rfl) dX12_laysWhose_51 ⟨Nat.le_of_ble_eq_true rfl, Nat.le_of_ble_eq_true rfl⟩) (fun v51 u H locs hz9 hH hS => ?_)
        obtain ⟨rfl, l_v51, u_v51, x_v510⟩ := hz9
        have hH : HT D cs A T O X H := hH
        refine W.widen (k := 0) (n := 0) (Nat.le_of_ble_eq_true rfl) (Nat.le_of_ble_eq_true rfl) ?_
        have J105 : ∀ (p105_4 : Int32) (H : Heap) (locs : List Loc) (ls : Array Slot), (-1 ≤ p105_4.toInt) → (p105_4.toInt ≤ 13) → HT D cs A T O X H → va_S A s.heap H locs → lv_has ls 6 [(5, .int p29_5), (4, .int p105_4), (3, .int v15), (0, .ref a0)] → W p l e { frames := 5, cells := 0, slots := 0, locals := 119 } s m [.ref a0, .int x1, .int x2].toArray below meth c H locs 0 0 (MQ below (Ti D cs (fun r u => u = (T, O, X) ∧ -1 ≤ r.toInt ∧ r.toInt ≤ 13) A) [.ref a0, .int x1, .int x2].toArray s 0 0 A) (F0 m 105 ls []) := by
          intro p105_4 H locs ls l_p105_4 u_p105_4 hH hS hl
          obtain ⟨v105, ev105⟩ : ∃ y : Int32, y = p29_5 + 1 := ⟨_, rfl⟩
          have tv105 : v105.toInt = p29_5.toInt + (1) := by rw [ev105]; exact add_i rfl (by decide) (by omega) (by omega)
          refine lv_iinc (v := v105) (lv' := [(5, .int v105), (4, .int p105_4), (3, .int v15), (0, .ref a0)]) hx hb dX12_laysWhose_105 hl (k := 0) rfl (by rw [ev105]; rfl) (by decide) rfl (fun ls hl => ?_)
          refine lv_goto (tgt := 29) hx hb dX12_laysWhose_108 (by decide) ?_
          exact ih29 _ (by omega) v105 p105_4 _ _ _ rfl (by omega) (by omega) (by omega) (by omega) hH hS (lv_sub hl [0, 1, 2, 3] rfl)
        refine lv_if_eq (tgt := 105) hx hb dX12_laysWhose_54 (by decide) (fun c54 => ?_) (fun c54 => ?_)
        · skip
          have tc54 := f_eq (k := 0) (by decide) c54
          exact J105 p29_4 _ _ _ (by omega) (by omega) hH hS (lv_sub hl [0, 1, 2, 3] rfl)
        · skip
          have tc54 := f_ne (k := 0) (by decide) c54
          refine lv_aload_n hx hb dX12_laysWhose_57 rfl (lv_at hl 3 rfl) ?_
          refine lv_iconst (v := 1) hx hb dX12_laysWhose_58 (by decide) ?_
          refine lv_iload hx hb dX12_laysWhose_59 (lv_at hl 0 rfl) ?_
          refine lv_ishl hx hb dX12_laysWhose_61 ?_
          refine lv_topi (fun v61 ev61 => ?_)
          have tv61 : 1 ≤ v61.toInt ∧ v61.toInt ≤ 8192 := by rw [ev61]; exact shl_b 13 (by decide) (by omega) (by omega)
          refine lv_iload hx hb dX12_laysWhose_62 (lv_at hl 0 rfl) ?_
          refine tk_i hH hS hA (tr_V (n := 2) (As := [.int v61, .int p29_5]) hx hb hml hown hts hkb hH hOX hks hE hS hA (s_M_moreBy l D cs kf T O X a0 hg mq v61 p29_5 t_a0 b_hg (by omega) (by omega) (by omega) (by omega) (hO.sub (by decide))) kw_1736 kw_1738 ks_102 kw_13 kw_1739 (by decide +kernel) ⟨Nat.le_of_ble_eq_true rfl, Nat.le_of_ble_eq_true rfl⟩ (HT.recv (ci := 12) hkb hH t_a0 (hO.no t_a0 (by decide)) rfl) rfl rfl hl.1 (Nat.le_of_ble_eq_true rfl) dX12_laysWhose_64 ⟨Nat.le_of_ble_eq_true rfl, Nat.le_of_ble_eq_true rfl⟩) (fun v64 u H locs hz9 hH hS => ?_)
          have hz9 : u = (T, O, X) := hz9
          subst hz9
          have hH : HT D cs A T O X H := hH
          refine W.widen (k := 0) (n := 0) (Nat.le_of_ble_eq_true rfl) (Nat.le_of_ble_eq_true rfl) ?_
          refine lv_bipush (v := 99) hx hb dX12_laysWhose_67 (by decide) ?_
          refine lv_icmp_ge (tgt := 105) hx hb dX12_laysWhose_69 (by decide) (fun c69 => ?_) (fun c69 => ?_)
          · skip
            have tc69 := f_ge (k := 99) (by decide) c69
            exact J105 p29_4 _ _ _ (by omega) (by omega) hH hS (lv_sub hl [0, 1, 2, 3] rfl)
          · skip
            have tc69 := f_nge (k := 99) (by decide) c69
            refine lv_iload hx hb dX12_laysWhose_72 (lv_at hl 1 rfl) ?_
            refine lv_iconst (v := (-1)) hx hb dX12_laysWhose_74 (by decide) ?_
            have J101 : ∀  (H : Heap) (locs : List Loc) (ls : Array Slot), HT D cs A T O X H → va_S A s.heap H locs → lv_has ls 6 [(5, .int p29_5), (3, .int v15), (0, .ref a0)] → W p l e { frames := 5, cells := 0, slots := 0, locals := 119 } s m [.ref a0, .int x1, .int x2].toArray below meth c H locs 0 0 (MQ below (Ti D cs (fun r u => u = (T, O, X) ∧ -1 ≤ r.toInt ∧ r.toInt ≤ 13) A) [.ref a0, .int x1, .int x2].toArray s 0 0 A) (F0 m 101 ls []) := by
              intro  H locs ls  hH hS hl
              refine lv_iload hx hb dX12_laysWhose_101 (lv_at hl 0 rfl) ?_
              refine lv_istore (lv' := [(4, .int p29_5), (5, .int p29_5), (3, .int v15), (0, .ref a0)]) hx hb dX12_laysWhose_103 hl (by decide) rfl (fun ls hl => ?_)
              exact J105 p29_5 _ _ _ (by omega) (by omega) hH hS (lv_sub hl [1, 0, 2, 3] rfl)
            refine lv_icmp_eq (tgt := 101) hx hb dX12_laysWhose_75 (by decide) (fun c75 => ?_) (fun c75 => ?_)
            · skip
              have tc75 := f_eq (k := -1) (by decide) c75
              exact J101  _ _ _  hH hS (lv_sub hl [0, 2, 3] rfl)
            · skip
              have tc75 := f_ne (k := -1) (by decide) c75
              refine lv_aload_n hx hb dX12_laysWhose_78 rfl (lv_at hl 3 rfl) ?_
              refine lv_iconst (v := 1) hx hb dX12_laysWhose_79 (by decide) ?_
              refine lv_iload hx hb dX12_laysWhose_80 (lv_at hl 0 rfl) ?_
              refine lv_ishl hx hb dX12_laysWhose_82 ?_
              refine lv_topi (fun v82 ev82 => ?_)
              have tv82 : 1 ≤ v82.toInt ∧ v82.toInt ≤ 8192 := by rw [ev82]; exact shl_b 13 (by decide) (by omega) (by omega)
              refine lv_iload hx hb dX12_laysWhose_83 (lv_at hl 0 rfl) ?_
              refine tk_i hH hS hA (tr_V (n := 2) (As := [.int v82, .int p29_5]) hx hb hml hown hts hkb hH hOX hks hE hS hA (s_M_moreBy l D cs kf T O X a0 hg mq v82 p29_5 t_a0 b_hg (by omega) (by omega) (by omega) (by omega) (hO.sub (by decide))) kw_1736 kw_1738 ks_102 kw_13 kw_1739 (by decide +kernel) ⟨Nat.le_of_ble_eq_true rfl, Nat.le_of_ble_eq_true rfl⟩ (HT.recv (ci := 12) hkb hH t_a0 (hO.no t_a0 (by decide)) rfl) rfl rfl hl.1 (Nat.le_of_ble_eq_true rfl) dX12_laysWhose_85 ⟨Nat.le_of_ble_eq_true rfl, Nat.le_of_ble_eq_true rfl⟩) (fun v85 u H locs hz9 hH hS => ?_)
              have hz9 : u = (T, O, X) := hz9
              subst hz9
              have hH : HT D cs A T O X H := hH
              refine W.widen (k := 0) (n := 0) (Nat.le_of_ble_eq_true rfl) (Nat.le_of_ble_eq_true rfl) ?_
              refine lv_aload_n hx hb dX12_laysWhose_88 rfl (lv_at hl 3 rfl) ?_
              refine lv_iconst (v := 1) hx hb dX12_laysWhose_89 (by decide) ?_
              refine lv_iload hx hb dX12_laysWhose_90 (lv_at hl 1 rfl) ?_
              refine lv_ishl hx hb dX12_laysWhose_92 ?_
              refine lv_topi (fun v92 ev92 => ?_)
              have tv92 : 1 ≤ v92.toInt ∧ v92.toInt ≤ 8192 := by rw [ev92]; exact shl_b 13 (by decide) (by omega) (by omega)
              refine lv_iload hx hb dX12_laysWhose_93 (lv_at hl 1 rfl) ?_
              refine tk_i hH hS hA (tr_V (n := 2) (As := [.int v92, .int p29_4]) hx hb hml hown hts hkb hH hOX hks hE hS hA (s_M_moreBy l D cs kf T O X a0 hg mq v92 p29_4 t_a0 b_hg (by omega) (by omega) (by omega) (by omega) (hO.sub (by decide))) kw_1736 kw_1738 ks_102 kw_13 kw_1739 (by decide +kernel) ⟨Nat.le_of_ble_eq_true rfl, Nat.le_of_ble_eq_true rfl⟩ (HT.recv (ci := 12) hkb hH t_a0 (hO.no t_a0 (by decide)) rfl) rfl rfl hl.1 (Nat.le_of_ble_eq_true rfl) dX12_laysWhose_95 ⟨Nat.le_of_ble_eq_true rfl, Nat.le_of_ble_eq_true rfl⟩) (fun v95 u H locs hz9 hH hS => ?_)
              have hz9 : u = (T, O, X) := hz9
              subst hz9
              have hH : HT D cs A T O X H := hH
              refine W.widen (k := 0) (n := 0) (Nat.le_of_ble_eq_true rfl) (Nat.le_of_ble_eq_true rfl) ?_
              refine lv_icmp_ge (tgt := 105) hx hb dX12_laysWhose_98 (by decide) (fun c98 => ?_) (fun c98 => ?_)
              · skip
                have fuc98 := full_i v85
                have fvc98 := full_i v95
                have tc98 := g_le c98
                exact J105 p29_4 _ _ _ (by omega) (by omega) hH hS (lv_sub hl [0, 1, 2, 3] rfl)
              · skip
                have fuc98 := full_i v85
                have fvc98 := full_i v95
                have tc98 := g_nle c98
                exact J101  _ _ _  hH hS (lv_sub hl [0, 2, 3] rfl)
  refine lv_istore (lv' := [(5, .int 0), (4, .int (-1)), (3, .int v15), (0, .ref a0), (1, .int x1), (2, .int x2)]) hx hb dX12_laysWhose_27 hl (by decide) rfl (fun ls hl => ?_)
  exact J29 _ 0 (-1) _ _ _ rfl (by decide) (by decide) (by decide) (by decide) hH hS (lv_sub hl [0, 1, 2, 3] rfl)
set_option maxHeartbeats 4000000 in
set_option maxRecDepth 100000 in
theorem s_M_whose (l : Launch) (D : va_G) (cs : CS) (kf : KF) (T : TF) (O : List Nat) (X : va_W) (a0 hg mq : Nat) (x1 : Int32) (t_a0 : T a0 = some (22, hg, mq)) (b_hg : hg < 90) (hO : okO T O [0, 1, 8, 9, 22]) : TK l D cs kf yX12_whose cX12_whose 4 (some (.int)) { frames := 6, cells := 0, slots := 0, locals := 144 } [.ref a0, .int x1] T O X (Ti D cs (fun r u => u = (T, O, X) ∧ -3 ≤ r.toInt ∧ r.toInt ≤ 16383)) := by
  refine tk_of (by decide) (Nat.le_of_ble_eq_true rfl) (fun p e s m below meth c ls A H locs hx hb hr hml hown hts hlocks hnm hkb hH hS hA hOX hks hE hl => ?_)
  have hown : s.vm.findClass RX12 = some m.cls := hown
  have hl : lv_has ls 4 [(0, .ref a0), (1, .int x1)] := hl
  refine lv_aload_n hx hb dX12_whose_0 rfl (lv_at hl 0 rfl) ?_
  refine lv_iconst (v := 0) hx hb dX12_whose_1 (by decide) ?_
  refine t_put (ci := 12) (lst := ft12 hg mq) (v := .int 0) (ty := tyX12 0) (C := RX12) (F := TX12) (N := 36) hx hb hts uX12 tyX12 tyX12_ok nmX12 hown hkb hH hS t_a0 (hO.no t_a0 (by decide)) (fun _ => Iff.rfl) rfl rfl 0 (by decide) rfl (⟨_, rfl⟩) kw_1223 (fun _ h9 => h9) rfl (tyX12_ok 0 (by decide)) rfl rfl dX12_whose_2 (fun H locs hH hS => ?_)
  refine lv_aload_n hx hb dX12_whose_5 rfl (lv_at hl 0 rfl) ?_
  refine lv_iload_n hx hb dX12_whose_6 rfl (lv_at hl 1 rfl) ?_
  refine tk_i hH hS hA (tr_V (n := 1) (As := [.int x1]) hx hb hml hown hts hkb hH hOX hks hE hS hA (s_M_isSetOf l D cs kf T O X a0 hg mq x1 t_a0 b_hg (hO.sub (by decide))) kw_1720 kw_1722 ks_98 kw_13 kw_1723 (by decide +kernel) ⟨Nat.le_of_ble_eq_true rfl, Nat.le_of_ble_eq_true rfl⟩ (HT.recv (ci := 12) hkb hH t_a0 (hO.no t_a0 (by decide)) rfl) rfl rfl hl.1 (Nat.le_of_ble_eq_true rfl) dX12_whose_7 ⟨Nat.le_of_ble_eq_true rfl, Nat.le_of_ble_eq_true rfl⟩) (fun v7 u H locs hz9 hH hS => ?_)
  obtain ⟨rfl, l_v7, u_v7⟩ := hz9
  have hH : HT D cs A T O X H := hH
  refine W.widen (k := 0) (n := 0) (Nat.le_of_ble_eq_true rfl) (Nat.le_of_ble_eq_true rfl) ?_
  refine lv_if_ne (tgt := 16) hx hb dX12_whose_10 (by decide) (fun c10 => ?_) (fun c10 => ?_)
  · skip
    have tc10 := f_ne (k := 0) (by decide) c10
    refine lv_iconst (v := 0) hx hb dX12_whose_16 (by decide) ?_
    refine lv_istore_n (lv' := [(2, .int 0), (0, .ref a0), (1, .int x1)]) hx hb dX12_whose_17 rfl hl (by decide) rfl (fun ls hl => ?_)
    refine lv_iconst (v := 0) hx hb dX12_whose_18 (by decide) ?_
    have J20 : ∀ (n : Nat) (p20_3 : Int32) (p20_2 : Int32) (H : Heap) (locs : List Loc) (ls : Array Slot), (5 - p20_3.toInt).toNat = n → (0 ≤ p20_3.toInt) → (p20_3.toInt ≤ 5) → (0 ≤ p20_2.toInt) → (p20_2.toInt ≤ 16383) → HT D cs A T O X H → va_S A s.heap H locs → lv_has ls 4 [(3, .int p20_3), (2, .int p20_2), (0, .ref a0), (1, .int x1)] → W p l e { frames := 6, cells := 0, slots := 0, locals := 144 } s m [.ref a0, .int x1].toArray below meth c H locs 0 0 (MQ below (Ti D cs (fun r u => u = (T, O, X) ∧ -3 ≤ r.toInt ∧ r.toInt ≤ 16383) A) [.ref a0, .int x1].toArray s 0 0 A) (F0 m 20 ls []) := by
      intro n
      induction n using Nat.strongRecOn with
      | _ n ih20 =>
        intro p20_3 p20_2 H locs ls hm20 l_p20_3 u_p20_3 l_p20_2 u_p20_2 hH hS hl
        refine lv_iload_n hx hb dX12_whose_20 rfl (lv_at hl 0 rfl) ?_
        refine lv_aload_n hx hb dX12_whose_21 rfl (lv_at hl 2 rfl) ?_
        refine t_get (ci := 12) (lst := ft12 hg mq) (C := RX12) (F := TX12) (N := 36) hx hb hts uX12 hown hkb hH t_a0 (hO.no t_a0 (by decide)) (fun _ h9 => h9) rfl rfl 1 (by decide) rfl kw_1224 (fun _ h9 => h9) dX12_whose_22 (fun v9 h9 => ?_)
        obtain ⟨v22, rfl, t_v22⟩ := h9
        refine lv_iconst (v := 2) hx hb dX12_whose_25 (by decide) ?_
        refine t_ild8 hx hb hkb hH t_v22 (hO.no t_v22 (by decide)) (by decide) (by decide) (by decide) dX12_whose_26 (fun v26 h9 h8 => ?_)
        have q9 := (h8 rfl).2 rfl
        subst q9
        have eG9 : (nI (hg % 6)).toInt = (((hg % 6) : Nat) : Int) := nI_toInt (by omega)
        refine lv_icmp_ge (tgt := 56) hx hb dX12_whose_27 (by decide) (fun c27 => ?_) (fun c27 => ?_)
        · skip
          have fuc27 := full_i p20_3
          have fvc27 := full_i (nI (hg % 6))
          have tc27 := g_le c27
          refine lv_iload_n hx hb dX12_whose_56 rfl (lv_at hl 1 rfl) ?_
          exact te_i hx hb hr hlocks hH hS (⟨rfl, by omega, by omega⟩) dX12_whose_57
        · skip
          have fuc27 := full_i p20_3
          have fvc27 := full_i (nI (hg % 6))
          have tc27 := g_nle c27
          refine lv_iload_n hx hb dX12_whose_30 rfl (lv_at hl 1 rfl) ?_
          refine lv_aload_n hx hb dX12_whose_31 rfl (lv_at hl 2 rfl) ?_
          refine lv_iload_n hx hb dX12_whose_32 rfl (lv_at hl 0 rfl) ?_
          refine lv_iload_n hx hb dX12_whose_33 rfl (lv_at hl 3 rfl) ?_
          refine tk_i hH hS hA (tr_V (n := 2) (As := [.int p20_3, .int x1]) hx hb hml hown hts hkb hH hOX hks hE hS hA (s_M_laysWhose l D cs kf T O X a0 hg mq p20_3 x1 t_a0 b_hg (by omega) (by omega) (hO.sub (by decide))) kw_1728 kw_1730 ks_100 kw_13 kw_1731 (by decide +kernel) ⟨Nat.le_of_ble_eq_true rfl, Nat.le_of_ble_eq_true rfl⟩ (HT.recv (ci := 12) hkb hH t_a0 (hO.no t_a0 (by decide)) rfl) rfl rfl hl.1 (Nat.le_of_ble_eq_true rfl) dX12_whose_34 ⟨Nat.le_of_ble_eq_true rfl, Nat.le_of_ble_eq_true rfl⟩) (fun v34 u H locs hz9 hH hS => ?_)
          obtain ⟨rfl, l_v34, u_v34⟩ := hz9
          have hH : HT D cs A T O X H := hH
          refine W.widen (k := 0) (n := 0) (Nat.le_of_ble_eq_true rfl) (Nat.le_of_ble_eq_true rfl) ?_
          refine lv_iconst (v := (-1)) hx hb dX12_whose_37 (by decide) ?_
          have J48 : ∀ (k48_0 : Int32) (H : Heap) (locs : List Loc) (ls : Array Slot), (0 ≤ k48_0.toInt) → (k48_0.toInt ≤ 16) → HT D cs A T O X H → va_S A s.heap H locs → lv_has ls 4 [(3, .int p20_3), (0, .ref a0), (1, .int x1)] → W p l e { frames := 6, cells := 0, slots := 0, locals := 144 } s m [.ref a0, .int x1].toArray below meth c H locs 0 0 (MQ below (Ti D cs (fun r u => u = (T, O, X) ∧ -3 ≤ r.toInt ∧ r.toInt ≤ 16383) A) [.ref a0, .int x1].toArray s 0 0 A) (F0 m 48 ls [.int k48_0, .int p20_2]) := by
            intro k48_0 H locs ls l_k48_0 u_k48_0 hH hS hl
            refine lv_ior hx hb dX12_whose_48 ?_
            refine lv_topi (fun v48 ev48 => ?_)
            have tv48 : 0 ≤ v48.toInt ∧ v48.toInt < 16384 := by rw [ev48]; exact or_b 14 (by decide) (by omega) (by omega) (by omega) (by omega)
            refine lv_istore_n (lv' := [(2, .int v48), (3, .int p20_3), (0, .ref a0), (1, .int x1)]) hx hb dX12_whose_49 rfl hl (by decide) rfl (fun ls hl => ?_)
            obtain ⟨v50, ev50⟩ : ∃ y : Int32, y = p20_3 + 1 := ⟨_, rfl⟩
            have tv50 : v50.toInt = p20_3.toInt + (1) := by rw [ev50]; exact add_i rfl (by decide) (by omega) (by omega)
            refine lv_iinc (v := v50) (lv' := [(3, .int v50), (2, .int v48), (0, .ref a0), (1, .int x1)]) hx hb dX12_whose_50 hl (k := 1) rfl (by rw [ev50]; rfl) (by decide) rfl (fun ls hl => ?_)
            refine lv_goto (tgt := 20) hx hb dX12_whose_53 (by decide) ?_
            exact ih20 _ (by omega) v50 v48 _ _ _ rfl (by omega) (by omega) (by omega) (by omega) hH hS (lv_sub hl [0, 1, 2, 3] rfl)
          refine lv_icmp_ne (tgt := 45) hx hb dX12_whose_38 (by decide) (fun c38 => ?_) (fun c38 => ?_)
          · skip
            have tc38 := f_ne (k := -1) (by decide) c38
            refine lv_iconst (v := 1) hx hb dX12_whose_45 (by decide) ?_
            refine lv_iload_n hx hb dX12_whose_46 rfl (lv_at hl 0 rfl) ?_
            refine lv_ishl hx hb dX12_whose_47 ?_
            refine lv_topi (fun v47 ev47 => ?_)
            have tv47 : 1 ≤ v47.toInt ∧ v47.toInt ≤ 16 := by rw [ev47]; exact shl_b 4 (by decide) (by omega) (by omega)
            exact J48 v47 _ _ _ (by omega) (by omega) hH hS (lv_sub hl [0, 2, 3] rfl)
          · skip
            have tc38 := f_eq (k := -1) (by decide) c38
            refine lv_iconst (v := 0) hx hb dX12_whose_41 (by decide) ?_
            refine lv_goto (tgt := 48) hx hb dX12_whose_42 (by decide) ?_
            exact J48 0 _ _ _ (by decide) (by decide) hH hS (lv_sub hl [0, 2, 3] rfl)
    refine lv_istore_n (lv' := [(3, .int 0), (2, .int 0), (0, .ref a0), (1, .int x1)]) hx hb dX12_whose_19 rfl hl (by decide) rfl (fun ls hl => ?_)
    exact J20 _ 0 0 _ _ _ rfl (by decide) (by decide) (by decide) (by decide) hH hS (lv_sub hl [0, 1, 2, 3] rfl)
  · skip
    have tc10 := f_eq (k := 0) (by decide) c10
    refine lv_bipush (v := (-3)) hx hb dX12_whose_13 (by decide) ?_
    exact te_i hx hb hr hlocks hH hS (⟨rfl, by decide, by decide⟩) dX12_whose_15
/-! what the reference writes into more: from each set and hold a shortest way on -/
def WN (H x : Nat) (o g : Nat → Int32) (s h : Nat) (v : Int) (n : Nat) : Prop := v = 0 ∨ v = 99 ∨ (v < 99 ∧ ∃ k : Nat, k < n ∧ k < H ∧ (o h).toBitVec.getLsbD k = true ∧ x.testBit k = true ∧ s.testBit k = false ∧ 0 ≤ (g (14 * (s ||| 2 ^ k) + k)).toInt ∧ (g (14 * (s ||| 2 ^ k) + k)).toInt + 1 = v)
def WG (H x : Nat) (o g : Nat → Int32) (s h : Nat) : Prop := WN H x o g s h (g (14 * s + h)).toInt H
def WS (H x : Nat) (o g : Nat → Int32) (n : Int) : Prop := ∀ s : Nat, n < s → s < 2 ^ H → (∀ i, s.testBit i = true → x.testBit i = true) → ∀ h : Nat, h < H → s.testBit h = true → WG H x o g s h
def WH (H x : Nat) (o g : Nat → Int32) (s n : Nat) : Prop := ∀ h : Nat, h < n → h < H → s.testBit h = true → WG H x o g s h
theorem or_gt {s k : Nat} (h : s.testBit k = false) : s < s ||| 2 ^ k := by
  have h1 : s ≤ s ||| 2 ^ k := Nat.left_le_or
  have h2 : (s ||| 2 ^ k).testBit k = true := by rw [Nat.testBit_or, Nat.testBit_two_pow_self, Bool.or_true]
  have h3 : s ≠ s ||| 2 ^ k := fun q => by
    rw [← q, h] at h2
    exact absurd h2 (by decide)
  omega
theorem WN.le {H x s h n m : Nat} {o g : Nat → Int32} {v : Int} (hi : WN H x o g s h v n) (hn : n ≤ m) : WN H x o g s h v m := by
  rcases hi with q | q | ⟨q, k, k1, k2⟩
  · exact Or.inl q
  · exact Or.inr (Or.inl q)
  · exact Or.inr (Or.inr ⟨q, k, by omega, k2⟩)
theorem WN.cap {H x s h n : Nat} {o g : Nat → Int32} {v : Int} (hi : WN H x o g s h v n) : WN H x o g s h v H := by
  rcases hi with q | q | ⟨q, k, _, k2⟩
  · exact Or.inl q
  · exact Or.inr (Or.inl q)
  · exact Or.inr (Or.inr ⟨q, k, k2.1, k2⟩)
theorem WN.b {H x s h n : Nat} {o g : Nat → Int32} {v : Int} (hi : WN H x o g s h v n) : 0 ≤ v ∧ v ≤ 99 := by
  rcases hi with q | q | ⟨q, k, _, _, _, _, _, k1, k2⟩ <;> omega
theorem WN.fr {H x s h n a b : Nat} {o g F : Nat → Int32} {v : Int} {w : Int32} (hH : H ≤ 14) (hi : WN H x o g s h v n) (hb : b < 14) (ha : a ≤ s) (eF : F = upd g (14 * a + b) w) : WN H x o F s h v n := by
  rcases hi with q | q | ⟨q, k, k1, k2, k3, k4, k5, k6, k7⟩
  · exact Or.inl q
  · exact Or.inr (Or.inl q)
  · have hg := or_gt k5
    have e : F (14 * (s ||| 2 ^ k) + k) = g (14 * (s ||| 2 ^ k) + k) := by
      rw [eF]
      exact upd_ne (by omega)
    exact Or.inr (Or.inr ⟨q, k, k1, k2, k3, k4, k5, by rw [e]; exact k6, by rw [e]; exact k7⟩)
theorem WG.fr {H x s h a b : Nat} {o g F : Nat → Int32} {w : Int32} (hH : H ≤ 14) (hi : WG H x o g s h) (hh : h < 14) (hb : b < 14) (ha : a ≤ s) (hne : a ≠ s ∨ b ≠ h) (eF : F = upd g (14 * a + b) w) : WG H x o F s h := by
  have e : F (14 * s + h) = g (14 * s + h) := by
    rw [eF]
    exact upd_ne (by omega)
  show WN H x o F s h (F (14 * s + h)).toInt H
  rw [e]
  exact WN.fr hH hi hb ha eF
theorem WG_put {H x s h : Nat} {o g F : Nat → Int32} {w : Int32} (hH : H ≤ 14) (hh : h < 14) (hi : WN H x o g s h w.toInt H) (eF : F = upd g (14 * s + h) w) : WG H x o F s h := by
  have e : F (14 * s + h) = w := by
    rw [eF]
    exact upd_eq
  show WN H x o F s h (F (14 * s + h)).toInt H
  rw [e]
  exact WN.fr hH hi hh (Nat.le_refl _) eF
theorem WS_put {H x a b : Nat} {o g F : Nat → Int32} {w : Int32} (hH : H ≤ 14) (hi : WS H x o g a) (hb : b < 14) (eF : F = upd g (14 * a + b) w) : WS H x o F a := fun s h1 h2 h3 h h4 h5 =>
  WG.fr hH (hi s h1 h2 h3 h h4 h5) (by omega) hb (by omega) (Or.inl (by omega)) eF
theorem WH_put {H x a b : Nat} {o g F : Nat → Int32} {w : Int32} (hH : H ≤ 14) (hi : WH H x o g a b) (hb : b < 14) (hw : WN H x o g a b w.toInt H) (eF : F = upd g (14 * a + b) w) : WH H x o F a (b + 1) := fun h h1 h2 h3 => by
  by_cases q : h = b
  · subst q
    exact WG_put hH hb hw eF
  · exact WG.fr hH (hi h (by omega) h2 h3) (by omega) hb (Nat.le_refl _) (Or.inr (fun z => q z.symm)) eF
theorem WH_skip {H x a b : Nat} {o g : Nat → Int32} (hi : WH H x o g a b) (hb : a.testBit b = false) : WH H x o g a (b + 1) := fun h h1 h2 h3 => by
  by_cases q : h = b
  · rw [q, hb] at h3
    exact absurd h3 (by decide)
  · exact hi h (by omega) h2 h3
theorem WH_0 {H x a : Nat} {o g : Nat → Int32} : WH H x o g a 0 := fun h h1 => absurd h1 (Nat.not_lt_zero h)
theorem WS_next {H x a b : Nat} {o g : Nat → Int32} {n : Int} (hi : WS H x o g a) (hh : WH H x o g a b) (hb : H ≤ b) (hn : n = (a : Int) - 1) : WS H x o g n := fun s h1 h2 h3 h h4 h5 => by
  by_cases q : s = a
  · subst q
    exact hh h (by omega) h4 h5
  · exact hi s (by omega) h2 h3 h h4 h5
theorem WS_skip {H x a : Nat} {o g : Nat → Int32} {n : Int} (hi : WS H x o g a) (hx : ¬ ∀ i, a.testBit i = true → x.testBit i = true) (hn : n = (a : Int) - 1) : WS H x o g n := fun s h1 h2 h3 h h4 h5 => by
  by_cases q : s = a
  · subst q
    exact absurd h3 hx
  · exact hi s (by omega) h2 h3 h h4 h5
theorem WS_0 {H x : Nat} {o g : Nat → Int32} {n : Int} (hn : n = (2 : Int) ^ H - 1) : WS H x o g n := fun s h1 h2 => by
  have e : ((2 ^ H : Nat) : Int) = (2 : Int) ^ H := by norm_cast
  omega
theorem WN_new {H x s h n k : Nat} {o g : Nat → Int32} {v w : Int} (hi : WN H x o g s h v n) (hk : k < H) (hn : k < n) (h1 : (o h).toBitVec.getLsbD k = true) (h2 : x.testBit k = true) (h3 : s.testBit k = false) (h4 : 0 ≤ (g (14 * (s ||| 2 ^ k) + k)).toInt) (h5 : w = (g (14 * (s ||| 2 ^ k) + k)).toInt + 1) (h6 : w < v) : WN H x o g s h w n := by
  have := hi.b
  exact Or.inr (Or.inr ⟨by omega, k, hn, hk, h1, h2, h3, h4, h5.symm⟩)
/-- the next cell of a set that is on the way is in its bounds -/
theorem WS_at {H x s k : Nat} {o g : Nat → Int32} {n : Int} (hi : WS H x o g n) (hn : n ≤ s) (hs : s < 2 ^ H) (hk : k < H) (hx : ∀ i, s.testBit i = true → x.testBit i = true) (h2 : x.testBit k = true) (h3 : s.testBit k = false) : 0 ≤ (g (14 * (s ||| 2 ^ k) + k)).toInt ∧ (g (14 * (s ||| 2 ^ k) + k)).toInt ≤ 99 := by
  have hg := or_gt h3
  have hl : s ||| 2 ^ k < 2 ^ H := Nat.or_lt_two_pow hs (Nat.pow_lt_pow_right (by decide) hk)
  have hb : (s ||| 2 ^ k).testBit k = true := by rw [Nat.testBit_or, Nat.testBit_two_pow_self, Bool.or_true]
  refine WN.b (hi (s ||| 2 ^ k) (by omega) hl (fun i q => ?_) k hk hb)
  rw [Nat.testBit_or, Bool.or_eq_true] at q
  rcases q with q | q
  · exact hx i q
  · rw [Nat.testBit_two_pow] at q
    rw [← of_decide_eq_true q]
    exact h2
theorem tb {a : Int32} (h : 0 ≤ a.toInt) (k : Nat) : a.toInt.toNat.testBit k = a.toBitVec.getLsbD k := by
  obtain ⟨h1, h2⟩ := nn_i h
  show _ = a.toBitVec.toNat.testBit k
  rw [show a.toInt.toNat = a.toBitVec.toNat by omega]
theorem m1_tab : ∀ k, k < 32 → (-1 : Int32).toBitVec.getLsbD k = true := by decide +kernel
theorem an_bit {a s v w : Int32} (ha : 0 ≤ a.toInt) (hs : 0 ≤ s.toInt) (hv : 0 ≤ v.toInt) (e1 : w = s ^^^ (-1)) (e2 : v = a &&& w) (k : Nat) : v.toInt.toNat.testBit k = (a.toInt.toNat.testBit k && !s.toInt.toNat.testBit k) := by
  rw [tb hv, tb ha, tb hs, e2, e1, Int32.toBitVec_and, Int32.toBitVec_xor, BitVec.getLsbD_and, BitVec.getLsbD_xor]
  by_cases q : k < 32
  · rw [m1_tab k q, Bool.xor_true]
  · rw [BitVec.getLsbD_of_ge a.toBitVec k (by omega)]
    simp
theorem sub_bits {s x v w : Int32} (hs : 0 ≤ s.toInt) (hx : 0 ≤ x.toInt) (e1 : w = x ^^^ (-1)) (e2 : v = s &&& w) (h : v.toInt = 0) : ∀ i, s.toInt.toNat.testBit i = true → x.toInt.toNat.testBit i = true := fun i hi => by
  have hb := an_bit hs hx (by omega) e1 e2 i
  rw [h, hi, Bool.true_and] at hb
  have hz : (0 : Int).toNat.testBit i = false := Nat.zero_testBit i
  rw [hz] at hb
  cases q : x.toInt.toNat.testBit i
  · rw [q] at hb
    exact absurd hb (by decide)
  · rfl
theorem sub_no {s x v w : Int32} (hs : 0 ≤ s.toInt) (hx : 0 ≤ x.toInt) (hv : 0 ≤ v.toInt) (e1 : w = x ^^^ (-1)) (e2 : v = s &&& w) (h : v.toInt ≠ 0) : ¬ ∀ i, s.toInt.toNat.testBit i = true → x.toInt.toNat.testBit i = true := fun hc => by
  have hz : v.toInt.toNat = 0 := Nat.eq_of_testBit_eq (fun i => by
    rw [an_bit hs hx hv e1 e2 i, Nat.zero_testBit]
    cases q : s.toInt.toNat.testBit i
    · rfl
    · rw [hc i q]
      rfl)
  omega
theorem or_n {a b : Int32} (ha : 0 ≤ a.toInt) (hb : 0 ≤ b.toInt) (hc : 0 ≤ (a ||| b).toInt) : (a ||| b).toInt.toNat = a.toInt.toNat ||| b.toInt.toNat := by
  obtain ⟨h1, h2⟩ := nn_i ha
  obtain ⟨h3, h4⟩ := nn_i hb
  obtain ⟨h5, h6⟩ := nn_i hc
  have e : (a ||| b).toBitVec.toNat = a.toBitVec.toNat ||| b.toBitVec.toNat := by rw [Int32.toBitVec_or, BitVec.toNat_or]
  rw [show (a ||| b).toInt.toNat = (a ||| b).toBitVec.toNat by omega, e, show a.toInt.toNat = a.toBitVec.toNat by omega, show b.toInt.toNat = b.toBitVec.toNat by omega]
/-! the same, by the places of laysMore -/
def L11 (hg : Nat) (x : Int32) (o g : Nat → Int32) (p : Int32) : Prop := p.toInt < (2 : Int) ^ (hg / 6) ∧ WS (hg / 6) x.toInt.toNat o g p.toInt
def L96 (hg : Nat) (x : Int32) (o g : Nat → Int32) (p : Int32) : Prop := p.toInt < (2 : Int) ^ (hg / 6) ∧ WS (hg / 6) x.toInt.toNat o g (p.toInt - 1)
def L29 (hg : Nat) (x : Int32) (o g : Nat → Int32) (p : Int32) (n : Nat) : Prop := p.toInt.toNat < 2 ^ (hg / 6) ∧ (∀ i, p.toInt.toNat.testBit i = true → x.toInt.toNat.testBit i = true) ∧ WS (hg / 6) x.toInt.toNat o g (p.toInt.toNat : Nat) ∧ WH (hg / 6) x.toInt.toNat o g p.toInt.toNat n
def L102 (hg : Nat) (x : Int32) (o g : Nat → Int32) (p h v : Int32) (n : Nat) : Prop := WN (hg / 6) x.toInt.toNat o g p.toInt.toNat h.toInt.toNat v.toInt n
def L140 (hg : Nat) (x : Int32) (o g : Nat → Int32) (p h k v : Int32) : Prop := k.toInt.toNat < hg / 6 ∧ (o h.toInt.toNat).toBitVec.getLsbD k.toInt.toNat = true ∧ x.toInt.toNat.testBit k.toInt.toNat = true ∧ p.toInt.toNat.testBit k.toInt.toNat = false ∧ v = g (14 * (p.toInt.toNat ||| 2 ^ k.toInt.toNat) + k.toInt.toNat) ∧ 0 ≤ v.toInt ∧ v.toInt ≤ 99
theorem L11_0 {hg : Nat} {x v7 v9 : Int32} {o g : Nat → Int32} (h7 : v7.toInt = (2 : Int) ^ (hg / 6)) (h9 : v9.toInt = v7.toInt - 1) : L11 hg x o g v9 := ⟨by omega, WS_0 (by omega)⟩
theorem L11_n {hg : Nat} {x p q : Int32} {o g : Nat → Int32} (hi : L96 hg x o g p) (e : q.toInt = p.toInt + (-1)) : L11 hg x o g q := by
  refine ⟨by have := hi.1; omega, ?_⟩
  rw [show q.toInt = p.toInt - 1 by omega]
  exact hi.2
theorem L96_s {hg : Nat} {x p v w : Int32} {o g : Nat → Int32} (hi : L11 hg x o g p) (h0 : 0 ≤ p.toInt) (hx : 0 ≤ x.toInt) (e1 : w = x ^^^ (-1)) (e2 : v = p &&& w) (hv : 0 ≤ v.toInt) (hc : v.toInt ≠ 0) : L96 hg x o g p := by
  refine ⟨hi.1, WS_skip (a := p.toInt.toNat) ?_ (sub_no h0 hx hv e1 e2 hc) (by omega)⟩
  rw [Int.toNat_of_nonneg h0]
  exact hi.2
theorem L29_0 {hg n : Nat} {x p v w : Int32} {o g : Nat → Int32} (hi : L11 hg x o g p) (h0 : 0 ≤ p.toInt) (hx : 0 ≤ x.toInt) (e1 : w = x ^^^ (-1)) (e2 : v = p &&& w) (hc : v.toInt = 0) (hn : n = 0) : L29 hg x o g p n := by
  subst hn
  refine ⟨?_, sub_bits h0 hx e1 e2 hc, ?_, WH_0⟩
  · have h1 := hi.1
    have e : ((2 ^ (hg / 6) : Nat) : Int) = (2 : Int) ^ (hg / 6) := by norm_cast
    omega
  · rw [Int.toNat_of_nonneg h0]
    exact hi.2
theorem L96_n {hg n : Nat} {x p : Int32} {o g : Nat → Int32} (hi : L29 hg x o g p n) (h0 : 0 ≤ p.toInt) (hn : hg / 6 ≤ n) : L96 hg x o g p := by
  refine ⟨?_, WS_next hi.2.2.1 hi.2.2.2 hn (by omega)⟩
  have h1 := hi.1
  have e : ((2 ^ (hg / 6) : Nat) : Int) = (2 : Int) ^ (hg / 6) := by norm_cast
  omega
theorem L29_s {hg n : Nat} {x p b v : Int32} {o g : Nat → Int32} (hi : L29 hg x o g p n) (h0 : 0 ≤ p.toInt) (hb : 0 ≤ b.toInt) (hb1 : b.toInt ≤ 31) (hv : v = inF p.toInt64 b) (hc : v.toInt = 0) (hn : n = b.toInt.toNat) : L29 hg x o g p (n + 1) := by
  refine ⟨hi.1, hi.2.1, hi.2.2.1, WH_skip hi.2.2.2 ?_⟩
  rw [hn]
  exact Bool.eq_false_iff.mpr (fun q => inF_z hv hc ((inF_bit h0 hb hb1).mpr q))
theorem L29_e {hg n : Nat} {x p b : Int32} {o g : Nat → Int32} (hi : L29 hg x o g p (n + 1)) (e : b.toInt.toNat = n + 1) : L29 hg x o g p b.toInt.toNat := by
  rw [e]
  exact hi
theorem L102_0 {hg n : Nat} {x p h v : Int32} {o g : Nat → Int32} (hv : v.toInt = 0 ∨ v.toInt = 99) : L102 hg x o g p h v n := hv.elim Or.inl (fun q => Or.inr (Or.inl q))
theorem L102_s {hg n : Nat} {x p h v : Int32} {o g : Nat → Int32} (hi : L102 hg x o g p h v n) : L102 hg x o g p h v (n + 1) := WN.le hi (Nat.le_succ n)
theorem L102_e {hg n : Nat} {x p h v b : Int32} {o g : Nat → Int32} (hi : L102 hg x o g p h v (n + 1)) (e : b.toInt.toNat = n + 1) : L102 hg x o g p h v b.toInt.toNat := by
  rw [e]
  exact hi
theorem sh_n {k v : Int32} (h0 : 0 ≤ k.toInt) (h1 : k.toInt ≤ 30) (e : v = (1 : Int32) <<< (k &&& 31)) : v.toInt = (2 : Int) ^ k.toInt.toNat := by
  have t := sh_tab k.toInt.toNat (by omega)
  rw [← is_nI h0] at t
  rw [e]
  exact t
theorem L140_of {hg n : Nat} {x p h k a b c d u v i1 i2 q : Int32} {o g : Nat → Int32} (hi : L29 hg x o g p n) (h0 : 0 ≤ p.toInt) (hp : p.toInt ≤ 16383) (hx : 0 ≤ x.toInt) (ea : a = o h.toInt.toNat) (eb : b = a &&& x) (hb : 0 ≤ b.toInt) (ec : c = p ^^^ (-1)) (ed : d = b &&& c) (hd : 0 ≤ d.toInt) (hq : q = inF d.toInt64 k) (hc : q.toInt ≠ 0) (hk : 0 ≤ k.toInt) (hk1 : k.toInt < ((hg / 6 : Nat) : Int)) (hk2 : k.toInt ≤ 13)
    (eu : u = (1 : Int32) <<< (k &&& 31)) (ev : v = p ||| u) (hv : 0 ≤ v.toInt) (e1 : i1.toInt = 14 * v.toInt) (e2 : i2.toInt = i1.toInt + k.toInt) {w : Int32} (ew : w = g i2.toInt.toNat) : L140 hg x o g p h k w := by
  have hu := sh_n hk (by omega) eu
  have hbit : d.toInt.toNat.testBit k.toInt.toNat = true := (inF_bit hd hk (by omega)).mp (inF_nz hq hc)
  rw [an_bit hb h0 hd ec ed, Bool.and_eq_true] at hbit
  have hp0 : p.toInt.toNat.testBit k.toInt.toNat = false := by
    have := hbit.2
    cases q9 : p.toInt.toNat.testBit k.toInt.toNat
    · rfl
    · rw [q9] at this
      exact absurd this (by decide)
  have hb1 := hbit.1
  rw [tb hb, eb, Int32.toBitVec_and, BitVec.getLsbD_and, Bool.and_eq_true] at hb1
  have hx1 : x.toInt.toNat.testBit k.toInt.toNat = true := by
    rw [tb hx]
    exact hb1.2
  have e2k : ((2 ^ k.toInt.toNat : Nat) : Int) = (2 : Int) ^ k.toInt.toNat := by norm_cast
  have hp2 : 0 < 2 ^ k.toInt.toNat := Nat.two_pow_pos _
  have hu0 : 0 ≤ u.toInt := by omega
  have hn : v.toInt.toNat = p.toInt.toNat ||| 2 ^ k.toInt.toNat := by
    rw [ev, or_n h0 hu0 (by rw [← ev]; exact hv), show u.toInt.toNat = 2 ^ k.toInt.toNat by omega]
  have ei : i2.toInt.toNat = 14 * (p.toInt.toNat ||| 2 ^ k.toInt.toNat) + k.toInt.toNat := by
    rw [← hn]
    omega
  have hw := WS_at hi.2.2.1 (Int.le_refl _) hi.1 (show k.toInt.toNat < hg / 6 by omega) hi.2.1 hx1 hp0
  rw [ei] at ew
  rw [← ew] at hw
  exact ⟨by omega, by rw [← ea]; exact hb1.1, hx1, hp0, ew, hw.1, hw.2⟩
theorem L140.b {hg : Nat} {x p h k v : Int32} {o g : Nat → Int32} (hi : L140 hg x o g p h k v) : 0 ≤ v.toInt ∧ v.toInt ≤ 99 := hi.2.2.2.2.2
theorem L140.eq {hg : Nat} {x p h k v w : Int32} {o g : Nat → Int32} (hi : L140 hg x o g p h k v) (hj : L140 hg x o g p h k w) : w.toInt = v.toInt := by rw [hi.2.2.2.2.1, hj.2.2.2.2.1]
theorem L102_n {hg : Nat} {x p h k v w y : Int32} {o g : Nat → Int32} (hi : L102 hg x o g p h y k.toInt.toNat) (hj : L140 hg x o g p h k v) (ew : w.toInt = v.toInt + 1) (hl : w.toInt < y.toInt) : L102 hg x o g p h w (k.toInt.toNat + 1) := by
  obtain ⟨a1, a2, a3, a4, a5, a6, a7⟩ := hj
  exact WN_new (WN.le hi (Nat.le_succ _)) a1 (Nat.lt_succ_self _) a2 a3 a4 (by rw [← a5]; exact a6) (by rw [← a5]; exact ew) hl
theorem nar_tab : ∀ k, k < 100 → vp_nar .byte ((nI k).toInt8.toInt32) = nI k := by decide +kernel
theorem L190_p {hg n m : Nat} {x p h y v i1 i2 : Int32} {o g F : Nat → Int32} (hH : hg / 6 ≤ 14) (hi : L29 hg x o g p n) (h0 : 0 ≤ p.toInt) (hh : 0 ≤ h.toInt) (hh1 : h.toInt ≤ 13) (hn : n = h.toInt.toNat) (hj : L102 hg x o g p h y m) (ev : v = y.toInt8.toInt32) (e1 : i1.toInt = 14 * p.toInt) (e2 : i2.toInt = i1.toInt + h.toInt) (eF : F = upd g i2.toInt.toNat (vp_nar .byte v)) : L29 hg x o F p (n + 1) := by
  have hb := hj.b
  have e : vp_nar .byte v = y := by
    have t := nar_tab y.toInt.toNat (by omega)
    rw [← is_nI hb.1] at t
    rw [ev]
    exact t
  rw [e, show i2.toInt.toNat = 14 * p.toInt.toNat + h.toInt.toNat by omega] at eF
  refine ⟨hi.1, hi.2.1, WS_put hH hi.2.2.1 (show h.toInt.toNat < 14 by omega) eF, ?_⟩
  rw [hn]
  exact WH_put hH (by rw [← hn]; exact hi.2.2.2) (by omega) (WN.cap hj) eF
theorem L11_end {hg : Nat} {x p : Int32} {o g : Nat → Int32} (hi : L11 hg x o g p) (h : p.toInt ≤ 0) : WS (hg / 6) x.toInt.toNat o g 0 := fun s h1 => hi.2 s (by omega)
set_option maxHeartbeats 4000000 in
set_option maxRecDepth 100000 in
theorem s_M_laysMoreX (l : Launch) (D : va_G) (cs : CS) (kf : KF) (T : TF) (O : List Nat) (X : va_W) (a0 hg mq : Nat) (x1 : Int32) (x2 : Int32) (f1 : Nat → Int32) (o0 : Value) (y1 : Nat) (o2 : Value) (o3 : Value) (o4 : Value) (o5 : Value) (o6 : Value) (o7 : Value) (o8 : Value) (o9 : Value) (o10 : Value) (o11 : Value) (o12 : Value) (o13 : Value) (o14 : Value) (y15 : Nat) (y16 : Int32) (y17 : Nat) (o18 : Value) (o19 : Value) (o20 : Value) (o21 : Value) (o22 : Value) (o23 : Value) (o24 : Value) (o25 : Value) (o26 : Value) (o27 : Value) (y28 : Nat) (tl : List Value) (f28 : Nat → Int32) (f17 : Nat → Int32) (t_a0 : T a0 = some (22, hg, mq)) (b_hg : hg < 90) (l_x1 : 0 ≤ x1.toInt) (u_x1 : x1.toInt ≤ 16383) (s_f1 : B8 3906 f1) (g_f1 : f1 1 = nI (hg / 6) ∧ f1 2 = nI (hg % 6)) (t_y1 : T y1 = some (8, 3906, hg)) (t_y15 : T y15 = some (1, 900, 0)) (t_y17 : T y17 = some (9, 14, 1)) (t_y28 : T y28 = some (0, 229376, 0)) (hO : okO T (y1 :: a0 :: y28 :: y17 :: O) []) : TK l D cs kf yX12_laysMore cX12_laysMore 8 none { frames := 1, cells := 0, slots := 0, locals := 22 } [.ref a0, .int x1, .int x2] T (y1 :: a0 :: y28 :: y17 :: O) ((y1, .inl (cs.2.1, 3906, .inl f1)) :: (a0, .inr (12, o0 :: (.ref y1) :: o2 :: o3 :: o4 :: o5 :: o6 :: o7 :: o8 :: o9 :: o10 :: o11 :: o12 :: o13 :: o14 :: (.ref y15) :: (.int y16) :: (.ref y17) :: o18 :: o19 :: o20 :: o21 :: o22 :: o23 :: o24 :: o25 :: o26 :: o27 :: (.ref y28) :: tl)) :: (y28, .inl (cs.1, 229376, .inl f28)) :: (y17, .inl (cs.2.1, 14, .inl f17)) :: X) (Tv D cs (fun u => ∃ (G2 : Nat → Int32), u = (T, y1 :: a0 :: y28 :: y17 :: O, (y1, .inl (cs.2.1, 3906, .inl f1)) :: (a0, .inr (12, o0 :: (.ref y1) :: o2 :: o3 :: o4 :: o5 :: o6 :: o7 :: o8 :: o9 :: o10 :: o11 :: o12 :: o13 :: o14 :: (.ref y15) :: (.int y16) :: (.ref y17) :: o18 :: o19 :: o20 :: o21 :: o22 :: o23 :: o24 :: o25 :: o26 :: o27 :: (.ref y28) :: tl)) :: (y28, .inl (cs.1, 229376, .inl G2)) :: (y17, .inl (cs.2.1, 14, .inl f17)) :: X) ∧ (WS (hg / 6) x1.toInt.toNat f17 G2 0))) := by
  refine tk_of (by decide) (Nat.le_of_ble_eq_true rfl) (fun p e s m below meth c ls A H locs hx hb hr hml hown hts hlocks hnm hkb hH hS hA hOX hks hE hl => ?_)
  have hown : s.vm.findClass RX12 = some m.cls := hown
  have hl : lv_has ls 8 [(0, .ref a0), (1, .int x1), (2, .int x2)] := hl
  have hOXf := hOX
  refine lv_iconst (v := 1) hx hb dX12_laysMore_0 (by decide) ?_
  refine lv_aload_n hx hb dX12_laysMore_1 rfl (lv_at hl 0 rfl) ?_
  refine x_getk (ci := 12) (C := RX12) (F := TX12) (N := 36) (v := .ref y1) hx hb hts uX12 hown hkb hH 1 rfl rfl 1 (by decide) rfl kw_1224 (fun _ h9 => h9) dX12_laysMore_2 ?_
  refine lv_iconst (v := 1) hx hb dX12_laysMore_5 (by decide) ?_
  refine xa_ild hx hb hkb hH 0 rfl (by decide) (by decide) dX12_laysMore_6 ?_
  refine lv_topi (fun v6 ev6 => ?_)
  have tv6 : v6 = f1 1 := by rw [ev6]; rfl
  have bv6 : 0 ≤ v6.toInt ∧ v6.toInt ≤ 14 := by rw [ev6]; exact (s_f1.at (by decide) 1).1 (by decide)
  have hv6 : v6.toInt = ((hg / 6 : Nat) : Int) := by rw [tv6, g_f1.1]; exact nI_toInt (by omega)
  refine lv_ishl hx hb dX12_laysMore_7 ?_
  refine lv_topi (fun v7 ev7 => ?_)
  have tv7 : 1 ≤ v7.toInt ∧ v7.toInt ≤ 16384 := by rw [ev7]; exact shl_b 14 (by decide) (by omega) (by omega)
  refine lv_iconst (v := 1) hx hb dX12_laysMore_8 (by decide) ?_
  refine lv_isub hx hb dX12_laysMore_9 ?_
  refine lv_topi (fun v9 ev9 => ?_)
  have tv9 : v9.toInt = v7.toInt - (1) := by rw [ev9]; exact sub_i rfl (by decide : (1 : Int32).toInt = 1) (by omega) (by omega)
  have J11 : ∀ (n : Nat) (p11_3 : Int32) (g11_2 : Nat → Int32) (H : Heap) (locs : List Loc) (ls : Array Slot), (p11_3.toInt - (0)).toNat = n → (0 ≤ p11_3.toInt) → (p11_3.toInt ≤ 16383) → (L11 hg x1 f17 g11_2 p11_3) → HT D cs A T (y1 :: a0 :: y28 :: y17 :: O) ((y1, .inl (cs.2.1, 3906, .inl f1)) :: (a0, .inr (12, o0 :: (.ref y1) :: o2 :: o3 :: o4 :: o5 :: o6 :: o7 :: o8 :: o9 :: o10 :: o11 :: o12 :: o13 :: o14 :: (.ref y15) :: (.int y16) :: (.ref y17) :: o18 :: o19 :: o20 :: o21 :: o22 :: o23 :: o24 :: o25 :: o26 :: o27 :: (.ref y28) :: tl)) :: (y28, .inl (cs.1, 229376, .inl g11_2)) :: (y17, .inl (cs.2.1, 14, .inl f17)) :: X) H → va_S A s.heap H locs → lv_has ls 8 [(3, .int p11_3), (0, .ref a0), (1, .int x1), (2, .int x2)] → W p l e { frames := 1, cells := 0, slots := 0, locals := 22 } s m [.ref a0, .int x1, .int x2].toArray below meth c H locs 0 0 (MQ below (Tv D cs (fun u => ∃ (G2 : Nat → Int32), u = (T, y1 :: a0 :: y28 :: y17 :: O, (y1, .inl (cs.2.1, 3906, .inl f1)) :: (a0, .inr (12, o0 :: (.ref y1) :: o2 :: o3 :: o4 :: o5 :: o6 :: o7 :: o8 :: o9 :: o10 :: o11 :: o12 :: o13 :: o14 :: (.ref y15) :: (.int y16) :: (.ref y17) :: o18 :: o19 :: o20 :: o21 :: o22 :: o23 :: o24 :: o25 :: o26 :: o27 :: (.ref y28) :: tl)) :: (y28, .inl (cs.1, 229376, .inl G2)) :: (y17, .inl (cs.2.1, 14, .inl f17)) :: X) ∧ (WS (hg / 6) x1.toInt.toNat f17 G2 0)) A) [.ref a0, .int x1, .int x2].toArray s 0 0 A) (F0 m 11 ls []) := by
    intro n
    induction n using Nat.strongRecOn with
    | _ n ih11 =>
      intro p11_3 g11_2 H locs ls hm11 l_p11_3 u_p11_3 i11 hH hS hl
      refine lv_iload_n hx hb dX12_laysMore_11 rfl (lv_at hl 0 rfl) ?_
      refine lv_if_le (tgt := 202) hx hb dX12_laysMore_12 (by decide) (fun c12 => ?_) (fun c12 => ?_)
      · skip
        have tc12 := f_le (k := 0) (by decide) c12
        exact te_v hx hb hr hlocks hH hS (⟨g11_2, rfl, (L11_end i11 (by omega))⟩) dX12_laysMore_202
      · skip
        have tc12 := f_nle (k := 0) (by decide) c12
        refine lv_iload_n hx hb dX12_laysMore_15 rfl (lv_at hl 0 rfl) ?_
        refine lv_iload_n hx hb dX12_laysMore_16 rfl (lv_at hl 2 rfl) ?_
        refine lv_iconst (v := (-1)) hx hb dX12_laysMore_17 (by decide) ?_
        refine lv_ixor hx hb dX12_laysMore_18 ?_
        refine lv_topi (fun v18 ev18 => ?_)
        refine lv_iand hx hb dX12_laysMore_19 ?_
        refine lv_topi (fun v19 ev19 => ?_)
        have tv19 : 0 ≤ v19.toInt ∧ v19.toInt ≤ p11_3.toInt := by rw [ev19]; exact and_l (by omega)
        have J196 : ∀ (g196_2 : Nat → Int32) (H : Heap) (locs : List Loc) (ls : Array Slot), (L96 hg x1 f17 g196_2 p11_3) → HT D cs A T (y1 :: a0 :: y28 :: y17 :: O) ((y1, .inl (cs.2.1, 3906, .inl f1)) :: (a0, .inr (12, o0 :: (.ref y1) :: o2 :: o3 :: o4 :: o5 :: o6 :: o7 :: o8 :: o9 :: o10 :: o11 :: o12 :: o13 :: o14 :: (.ref y15) :: (.int y16) :: (.ref y17) :: o18 :: o19 :: o20 :: o21 :: o22 :: o23 :: o24 :: o25 :: o26 :: o27 :: (.ref y28) :: tl)) :: (y28, .inl (cs.1, 229376, .inl g196_2)) :: (y17, .inl (cs.2.1, 14, .inl f17)) :: X) H → va_S A s.heap H locs → lv_has ls 8 [(3, .int p11_3), (0, .ref a0), (1, .int x1), (2, .int x2)] → W p l e { frames := 1, cells := 0, slots := 0, locals := 22 } s m [.ref a0, .int x1, .int x2].toArray below meth c H locs 0 0 (MQ below (Tv D cs (fun u => ∃ (G2 : Nat → Int32), u = (T, y1 :: a0 :: y28 :: y17 :: O, (y1, .inl (cs.2.1, 3906, .inl f1)) :: (a0, .inr (12, o0 :: (.ref y1) :: o2 :: o3 :: o4 :: o5 :: o6 :: o7 :: o8 :: o9 :: o10 :: o11 :: o12 :: o13 :: o14 :: (.ref y15) :: (.int y16) :: (.ref y17) :: o18 :: o19 :: o20 :: o21 :: o22 :: o23 :: o24 :: o25 :: o26 :: o27 :: (.ref y28) :: tl)) :: (y28, .inl (cs.1, 229376, .inl G2)) :: (y17, .inl (cs.2.1, 14, .inl f17)) :: X) ∧ (WS (hg / 6) x1.toInt.toNat f17 G2 0)) A) [.ref a0, .int x1, .int x2].toArray s 0 0 A) (F0 m 196 ls []) := by
          intro g196_2 H locs ls i196 hH hS hl
          obtain ⟨v196, ev196⟩ : ∃ y : Int32, y = p11_3 + (-1) := ⟨_, rfl⟩
          have tv196 : v196.toInt = p11_3.toInt + (-1) := by rw [ev196]; exact add_i rfl (by decide) (by omega) (by omega)
          refine lv_iinc (v := v196) (lv' := [(3, .int v196), (0, .ref a0), (1, .int x1), (2, .int x2)]) hx hb dX12_laysMore_196 hl (k := 0) rfl (by rw [ev196]; rfl) (by decide) rfl (fun ls hl => ?_)
          refine lv_goto (tgt := 11) hx hb dX12_laysMore_199 (by decide) ?_
          exact ih11 _ (by omega) v196 g196_2 _ _ _ rfl (by omega) (by omega) (by first | exact (L11_n i196 tv196) | exact (L11_0 hv9 tv9)) hH hS (lv_sub hl [0, 1, 2, 3] rfl)
        refine lv_if_eq (tgt := 26) hx hb dX12_laysMore_20 (by decide) (fun c20 => ?_) (fun c20 => ?_)
        · skip
          have tc20 := f_eq (k := 0) (by decide) c20
          refine lv_iconst (v := 0) hx hb dX12_laysMore_26 (by decide) ?_
          have J29 : ∀ (n : Nat) (p29_4 : Int32) (g29_2 : Nat → Int32) (H : Heap) (locs : List Loc) (ls : Array Slot), (14 - p29_4.toInt).toNat = n → (0 ≤ p29_4.toInt) → (p29_4.toInt ≤ 14) → (L29 hg x1 f17 g29_2 p11_3 p29_4.toInt.toNat) → HT D cs A T (y1 :: a0 :: y28 :: y17 :: O) ((y1, .inl (cs.2.1, 3906, .inl f1)) :: (a0, .inr (12, o0 :: (.ref y1) :: o2 :: o3 :: o4 :: o5 :: o6 :: o7 :: o8 :: o9 :: o10 :: o11 :: o12 :: o13 :: o14 :: (.ref y15) :: (.int y16) :: (.ref y17) :: o18 :: o19 :: o20 :: o21 :: o22 :: o23 :: o24 :: o25 :: o26 :: o27 :: (.ref y28) :: tl)) :: (y28, .inl (cs.1, 229376, .inl g29_2)) :: (y17, .inl (cs.2.1, 14, .inl f17)) :: X) H → va_S A s.heap H locs → lv_has ls 8 [(4, .int p29_4), (3, .int p11_3), (0, .ref a0), (1, .int x1), (2, .int x2)] → W p l e { frames := 1, cells := 0, slots := 0, locals := 22 } s m [.ref a0, .int x1, .int x2].toArray below meth c H locs 0 0 (MQ below (Tv D cs (fun u => ∃ (G2 : Nat → Int32), u = (T, y1 :: a0 :: y28 :: y17 :: O, (y1, .inl (cs.2.1, 3906, .inl f1)) :: (a0, .inr (12, o0 :: (.ref y1) :: o2 :: o3 :: o4 :: o5 :: o6 :: o7 :: o8 :: o9 :: o10 :: o11 :: o12 :: o13 :: o14 :: (.ref y15) :: (.int y16) :: (.ref y17) :: o18 :: o19 :: o20 :: o21 :: o22 :: o23 :: o24 :: o25 :: o26 :: o27 :: (.ref y28) :: tl)) :: (y28, .inl (cs.1, 229376, .inl G2)) :: (y17, .inl (cs.2.1, 14, .inl f17)) :: X) ∧ (WS (hg / 6) x1.toInt.toNat f17 G2 0)) A) [.ref a0, .int x1, .int x2].toArray s 0 0 A) (F0 m 29 ls []) := by
            intro n
            induction n using Nat.strongRecOn with
            | _ n ih29 =>
              intro p29_4 g29_2 H locs ls hm29 l_p29_4 u_p29_4 i29 hH hS hl
              refine lv_iload hx hb dX12_laysMore_29 (lv_at hl 0 rfl) ?_
              refine lv_aload_n hx hb dX12_laysMore_31 rfl (lv_at hl 2 rfl) ?_
              refine x_getk (ci := 12) (C := RX12) (F := TX12) (N := 36) (v := .ref y1) hx hb hts uX12 hown hkb hH 1 rfl rfl 1 (by decide) rfl kw_1224 (fun _ h9 => h9) dX12_laysMore_32 ?_
              refine lv_iconst (v := 1) hx hb dX12_laysMore_35 (by decide) ?_
              refine xa_ild hx hb hkb hH 0 rfl (by decide) (by decide) dX12_laysMore_36 ?_
              refine lv_topi (fun v36 ev36 => ?_)
              have tv36 : v36 = f1 1 := by rw [ev36]; rfl
              have bv36 : 0 ≤ v36.toInt ∧ v36.toInt ≤ 14 := by rw [ev36]; exact (s_f1.at (by decide) 1).1 (by decide)
              have hv36 : v36.toInt = ((hg / 6 : Nat) : Int) := by rw [tv36, g_f1.1]; exact nI_toInt (by omega)
              refine lv_icmp_ge (tgt := 196) hx hb dX12_laysMore_37 (by decide) (fun c37 => ?_) (fun c37 => ?_)
              · skip
                have fuc37 := full_i p29_4
                have fvc37 := full_i v36
                have tc37 := g_le c37
                exact J196 g29_2 _ _ _ (by first | (refine L96_n i29 ?_ ?_ <;> omega) | (refine L96_s i11 ?_ ?_ ev18 ev19 ?_ ?_ <;> omega)) hH hS (lv_sub hl [1, 2, 3, 4] rfl)
              · skip
                have fuc37 := full_i p29_4
                have fvc37 := full_i v36
                have tc37 := g_nle c37
                refine lv_iload_n hx hb dX12_laysMore_40 rfl (lv_at hl 1 rfl) ?_
                refine lv_i2l hx hb dX12_laysMore_41 rfl ?_
                refine lv_iload hx hb dX12_laysMore_42 (lv_at hl 0 rfl) ?_
                refine tk_i hH hS hA (tr_S (n := 2) (As := [.long p11_3.toInt64, .int p29_4]) hx hb hml hown hts hkb hH (ox_map hOX rfl) hks hE hS hA (s_M_isIn2 l D cs kf T (y1 :: a0 :: y28 :: y17 :: O) ((y1, .inl (cs.2.1, 3906, .inl f1)) :: (a0, .inr (12, o0 :: (.ref y1) :: o2 :: o3 :: o4 :: o5 :: o6 :: o7 :: o8 :: o9 :: o10 :: o11 :: o12 :: o13 :: o14 :: (.ref y15) :: (.int y16) :: (.ref y17) :: o18 :: o19 :: o20 :: o21 :: o22 :: o23 :: o24 :: o25 :: o26 :: o27 :: (.ref y28) :: tl)) :: (y28, .inl (cs.1, 229376, .inl g29_2)) :: (y17, .inl (cs.2.1, 14, .inl f17)) :: X) p11_3.toInt64 p29_4  (hO.sub (by decide))) kw_1440 kw_1441 kw_13 kw_1442 (by decide +kernel) ⟨Nat.le_of_ble_eq_true rfl, Nat.le_of_ble_eq_true rfl⟩ rfl rfl hl.1 (Nat.le_of_ble_eq_true rfl) dX12_laysMore_44 ⟨Nat.le_of_ble_eq_true rfl, Nat.le_of_ble_eq_true rfl⟩) (fun v44 u H locs hz9 hH hS => ?_)
                obtain ⟨rfl, l_v44, u_v44, x_v440⟩ := hz9
                have hH : HT D cs A T (y1 :: a0 :: y28 :: y17 :: O) ((y1, .inl (cs.2.1, 3906, .inl f1)) :: (a0, .inr (12, o0 :: (.ref y1) :: o2 :: o3 :: o4 :: o5 :: o6 :: o7 :: o8 :: o9 :: o10 :: o11 :: o12 :: o13 :: o14 :: (.ref y15) :: (.int y16) :: (.ref y17) :: o18 :: o19 :: o20 :: o21 :: o22 :: o23 :: o24 :: o25 :: o26 :: o27 :: (.ref y28) :: tl)) :: (y28, .inl (cs.1, 229376, .inl g29_2)) :: (y17, .inl (cs.2.1, 14, .inl f17)) :: X) H := hH
                refine W.widen (k := 0) (n := 0) (Nat.le_of_ble_eq_true rfl) (Nat.le_of_ble_eq_true rfl) ?_
                have J190 : ∀ (g190_2 : Nat → Int32) (H : Heap) (locs : List Loc) (ls : Array Slot), (L29 hg x1 f17 g190_2 p11_3 (p29_4.toInt.toNat + 1)) → HT D cs A T (y1 :: a0 :: y28 :: y17 :: O) ((y1, .inl (cs.2.1, 3906, .inl f1)) :: (a0, .inr (12, o0 :: (.ref y1) :: o2 :: o3 :: o4 :: o5 :: o6 :: o7 :: o8 :: o9 :: o10 :: o11 :: o12 :: o13 :: o14 :: (.ref y15) :: (.int y16) :: (.ref y17) :: o18 :: o19 :: o20 :: o21 :: o22 :: o23 :: o24 :: o25 :: o26 :: o27 :: (.ref y28) :: tl)) :: (y28, .inl (cs.1, 229376, .inl g190_2)) :: (y17, .inl (cs.2.1, 14, .inl f17)) :: X) H → va_S A s.heap H locs → lv_has ls 8 [(4, .int p29_4), (3, .int p11_3), (0, .ref a0), (1, .int x1), (2, .int x2)] → W p l e { frames := 1, cells := 0, slots := 0, locals := 22 } s m [.ref a0, .int x1, .int x2].toArray below meth c H locs 0 0 (MQ below (Tv D cs (fun u => ∃ (G2 : Nat → Int32), u = (T, y1 :: a0 :: y28 :: y17 :: O, (y1, .inl (cs.2.1, 3906, .inl f1)) :: (a0, .inr (12, o0 :: (.ref y1) :: o2 :: o3 :: o4 :: o5 :: o6 :: o7 :: o8 :: o9 :: o10 :: o11 :: o12 :: o13 :: o14 :: (.ref y15) :: (.int y16) :: (.ref y17) :: o18 :: o19 :: o20 :: o21 :: o22 :: o23 :: o24 :: o25 :: o26 :: o27 :: (.ref y28) :: tl)) :: (y28, .inl (cs.1, 229376, .inl G2)) :: (y17, .inl (cs.2.1, 14, .inl f17)) :: X) ∧ (WS (hg / 6) x1.toInt.toNat f17 G2 0)) A) [.ref a0, .int x1, .int x2].toArray s 0 0 A) (F0 m 190 ls []) := by
                  intro g190_2 H locs ls i190 hH hS hl
                  obtain ⟨v190, ev190⟩ : ∃ y : Int32, y = p29_4 + 1 := ⟨_, rfl⟩
                  have tv190 : v190.toInt = p29_4.toInt + (1) := by rw [ev190]; exact add_i rfl (by decide) (by omega) (by omega)
                  refine lv_iinc (v := v190) (lv' := [(4, .int v190), (3, .int p11_3), (0, .ref a0), (1, .int x1), (2, .int x2)]) hx hb dX12_laysMore_190 hl (k := 0) rfl (by rw [ev190]; rfl) (by decide) rfl (fun ls hl => ?_)
                  refine lv_goto (tgt := 29) hx hb dX12_laysMore_193 (by decide) ?_
                  exact ih29 _ (by omega) v190 g190_2 _ _ _ rfl (by omega) (by omega) (by first | (refine L29_e i190 ?_; omega) | (refine L29_0 i11 ?_ ?_ ev18 ev19 ?_ (by decide) <;> omega)) hH hS (lv_sub hl [0, 1, 2, 3, 4] rfl)
                refine lv_if_ne (tgt := 53) hx hb dX12_laysMore_47 (by decide) (fun c47 => ?_) (fun c47 => ?_)
                · skip
                  have tc47 := f_ne (k := 0) (by decide) c47
                  refine lv_aload_n hx hb dX12_laysMore_53 rfl (lv_at hl 2 rfl) ?_
                  refine x_getk (ci := 12) (C := RX12) (F := TX12) (N := 36) (v := .ref y1) hx hb hts uX12 hown hkb hH 1 rfl rfl 1 (by decide) rfl kw_1224 (fun _ h9 => h9) dX12_laysMore_54 ?_
                  refine lv_iconst (v := 5) hx hb dX12_laysMore_57 (by decide) ?_
                  refine xa_ild hx hb hkb hH 0 rfl (by decide) (by decide) dX12_laysMore_58 ?_
                  refine lv_topi (fun v58 ev58 => ?_)
                  have tv58 : v58 = f1 5 := by rw [ev58]; rfl
                  have bv58 : 0 ≤ v58.toInt ∧ v58.toInt ≤ 16383 := by rw [ev58]; exact (s_f1.at (by decide) 5).2.2.2.1 (by decide)
                  refine lv_i2l hx hb dX12_laysMore_59 rfl ?_
                  refine lv_iload hx hb dX12_laysMore_60 (lv_at hl 0 rfl) ?_
                  refine tk_i hH hS hA (tr_S (n := 2) (As := [.long v58.toInt64, .int p29_4]) hx hb hml hown hts hkb hH (ox_map hOX rfl) hks hE hS hA (s_M_isIn2 l D cs kf T (y1 :: a0 :: y28 :: y17 :: O) ((y1, .inl (cs.2.1, 3906, .inl f1)) :: (a0, .inr (12, o0 :: (.ref y1) :: o2 :: o3 :: o4 :: o5 :: o6 :: o7 :: o8 :: o9 :: o10 :: o11 :: o12 :: o13 :: o14 :: (.ref y15) :: (.int y16) :: (.ref y17) :: o18 :: o19 :: o20 :: o21 :: o22 :: o23 :: o24 :: o25 :: o26 :: o27 :: (.ref y28) :: tl)) :: (y28, .inl (cs.1, 229376, .inl g29_2)) :: (y17, .inl (cs.2.1, 14, .inl f17)) :: X) v58.toInt64 p29_4  (hO.sub (by decide))) kw_1440 kw_1441 kw_13 kw_1442 (by decide +kernel) ⟨Nat.le_of_ble_eq_true rfl, Nat.le_of_ble_eq_true rfl⟩ rfl rfl hl.1 (Nat.le_of_ble_eq_true rfl) dX12_laysMore_62 ⟨Nat.le_of_ble_eq_true rfl, Nat.le_of_ble_eq_true rfl⟩) (fun v62 u H locs hz9 hH hS => ?_)
                  obtain ⟨rfl, l_v62, u_v62, x_v620⟩ := hz9
                  have hH : HT D cs A T (y1 :: a0 :: y28 :: y17 :: O) ((y1, .inl (cs.2.1, 3906, .inl f1)) :: (a0, .inr (12, o0 :: (.ref y1) :: o2 :: o3 :: o4 :: o5 :: o6 :: o7 :: o8 :: o9 :: o10 :: o11 :: o12 :: o13 :: o14 :: (.ref y15) :: (.int y16) :: (.ref y17) :: o18 :: o19 :: o20 :: o21 :: o22 :: o23 :: o24 :: o25 :: o26 :: o27 :: (.ref y28) :: tl)) :: (y28, .inl (cs.1, 229376, .inl g29_2)) :: (y17, .inl (cs.2.1, 14, .inl f17)) :: X) H := hH
                  refine W.widen (k := 0) (n := 0) (Nat.le_of_ble_eq_true rfl) (Nat.le_of_ble_eq_true rfl) ?_
                  have J82 : ∀ (k82_0 : Int32) (H : Heap) (locs : List Loc) (ls : Array Slot), (0 ≤ k82_0.toInt) → (k82_0.toInt ≤ 99) → (k82_0.toInt = 0 ∨ k82_0.toInt = 99) → HT D cs A T (y1 :: a0 :: y28 :: y17 :: O) ((y1, .inl (cs.2.1, 3906, .inl f1)) :: (a0, .inr (12, o0 :: (.ref y1) :: o2 :: o3 :: o4 :: o5 :: o6 :: o7 :: o8 :: o9 :: o10 :: o11 :: o12 :: o13 :: o14 :: (.ref y15) :: (.int y16) :: (.ref y17) :: o18 :: o19 :: o20 :: o21 :: o22 :: o23 :: o24 :: o25 :: o26 :: o27 :: (.ref y28) :: tl)) :: (y28, .inl (cs.1, 229376, .inl g29_2)) :: (y17, .inl (cs.2.1, 14, .inl f17)) :: X) H → va_S A s.heap H locs → lv_has ls 8 [(4, .int p29_4), (3, .int p11_3), (0, .ref a0), (1, .int x1), (2, .int x2)] → W p l e { frames := 1, cells := 0, slots := 0, locals := 22 } s m [.ref a0, .int x1, .int x2].toArray below meth c H locs 0 0 (MQ below (Tv D cs (fun u => ∃ (G2 : Nat → Int32), u = (T, y1 :: a0 :: y28 :: y17 :: O, (y1, .inl (cs.2.1, 3906, .inl f1)) :: (a0, .inr (12, o0 :: (.ref y1) :: o2 :: o3 :: o4 :: o5 :: o6 :: o7 :: o8 :: o9 :: o10 :: o11 :: o12 :: o13 :: o14 :: (.ref y15) :: (.int y16) :: (.ref y17) :: o18 :: o19 :: o20 :: o21 :: o22 :: o23 :: o24 :: o25 :: o26 :: o27 :: (.ref y28) :: tl)) :: (y28, .inl (cs.1, 229376, .inl G2)) :: (y17, .inl (cs.2.1, 14, .inl f17)) :: X) ∧ (WS (hg / 6) x1.toInt.toNat f17 G2 0)) A) [.ref a0, .int x1, .int x2].toArray s 0 0 A) (F0 m 82 ls [.int k82_0]) := by
                    intro k82_0 H locs ls l_k82_0 u_k82_0 i82 hH hS hl
                    refine lv_istore (lv' := [(5, .int k82_0), (4, .int p29_4), (3, .int p11_3), (0, .ref a0), (1, .int x1), (2, .int x2)]) hx hb dX12_laysMore_82 hl (by decide) rfl (fun ls hl => ?_)
                    refine lv_aload_n hx hb dX12_laysMore_84 rfl (lv_at hl 3 rfl) ?_
                    refine x_getk (ci := 12) (C := RX12) (F := TX12) (N := 36) (v := .ref y17) hx hb hts uX12 hown hkb hH 1 rfl rfl 17 (by decide) rfl kw_1240 (fun _ h9 => h9) dX12_laysMore_85 ?_
                    refine lv_iload hx hb dX12_laysMore_88 (lv_at hl 1 rfl) ?_
                    refine xa_ild hx hb hkb hH 3 rfl (by omega) (by omega) dX12_laysMore_90 ?_
                    refine lv_topi (fun v90 ev90 => ?_)
                    have tv90 : v90 = f17 p29_4.toInt.toNat := ev90
                    refine lv_iload_n hx hb dX12_laysMore_91 rfl (lv_at hl 4 rfl) ?_
                    refine lv_iand hx hb dX12_laysMore_92 ?_
                    refine lv_topi (fun v92 ev92 => ?_)
                    have tv92 : 0 ≤ v92.toInt ∧ v92.toInt ≤ x1.toInt := by rw [ev92]; exact and_r (by omega)
                    refine lv_iload_n hx hb dX12_laysMore_93 rfl (lv_at hl 2 rfl) ?_
                    refine lv_iconst (v := (-1)) hx hb dX12_laysMore_94 (by decide) ?_
                    refine lv_ixor hx hb dX12_laysMore_95 ?_
                    refine lv_topi (fun v95 ev95 => ?_)
                    refine lv_iand hx hb dX12_laysMore_96 ?_
                    refine lv_topi (fun v96 ev96 => ?_)
                    have tv96 : 0 ≤ v96.toInt ∧ v96.toInt ≤ v92.toInt := by rw [ev96]; exact and_l (by omega)
                    refine lv_istore (lv' := [(6, .int v96), (5, .int k82_0), (4, .int p29_4), (3, .int p11_3), (0, .ref a0), (1, .int x1), (2, .int x2)]) hx hb dX12_laysMore_97 hl (by decide) rfl (fun ls hl => ?_)
                    refine lv_iconst (v := 0) hx hb dX12_laysMore_99 (by decide) ?_
                    have J102 : ∀ (n : Nat) (p102_7 : Int32) (p102_5 : Int32) (H : Heap) (locs : List Loc) (ls : Array Slot), (14 - p102_7.toInt).toNat = n → (0 ≤ p102_7.toInt) → (p102_7.toInt ≤ 14) → (0 ≤ p102_5.toInt) → (p102_5.toInt ≤ 100) → (L102 hg x1 f17 g29_2 p11_3 p29_4 p102_5 p102_7.toInt.toNat) → HT D cs A T (y1 :: a0 :: y28 :: y17 :: O) ((y1, .inl (cs.2.1, 3906, .inl f1)) :: (a0, .inr (12, o0 :: (.ref y1) :: o2 :: o3 :: o4 :: o5 :: o6 :: o7 :: o8 :: o9 :: o10 :: o11 :: o12 :: o13 :: o14 :: (.ref y15) :: (.int y16) :: (.ref y17) :: o18 :: o19 :: o20 :: o21 :: o22 :: o23 :: o24 :: o25 :: o26 :: o27 :: (.ref y28) :: tl)) :: (y28, .inl (cs.1, 229376, .inl g29_2)) :: (y17, .inl (cs.2.1, 14, .inl f17)) :: X) H → va_S A s.heap H locs → lv_has ls 8 [(7, .int p102_7), (6, .int v96), (5, .int p102_5), (4, .int p29_4), (3, .int p11_3), (0, .ref a0), (1, .int x1), (2, .int x2)] → W p l e { frames := 1, cells := 0, slots := 0, locals := 22 } s m [.ref a0, .int x1, .int x2].toArray below meth c H locs 0 0 (MQ below (Tv D cs (fun u => ∃ (G2 : Nat → Int32), u = (T, y1 :: a0 :: y28 :: y17 :: O, (y1, .inl (cs.2.1, 3906, .inl f1)) :: (a0, .inr (12, o0 :: (.ref y1) :: o2 :: o3 :: o4 :: o5 :: o6 :: o7 :: o8 :: o9 :: o10 :: o11 :: o12 :: o13 :: o14 :: (.ref y15) :: (.int y16) :: (.ref y17) :: o18 :: o19 :: o20 :: o21 :: o22 :: o23 :: o24 :: o25 :: o26 :: o27 :: (.ref y28) :: tl)) :: (y28, .inl (cs.1, 229376, .inl G2)) :: (y17, .inl (cs.2.1, 14, .inl f17)) :: X) ∧ (WS (hg / 6) x1.toInt.toNat f17 G2 0)) A) [.ref a0, .int x1, .int x2].toArray s 0 0 A) (F0 m 102 ls []) := by
                      intro n
                      induction n using Nat.strongRecOn with
                      | _ n ih102 =>
                        intro p102_7 p102_5 H locs ls hm102 l_p102_7 u_p102_7 l_p102_5 u_p102_5 i102 hH hS hl
                        refine lv_iload hx hb dX12_laysMore_102 (lv_at hl 0 rfl) ?_
                        refine lv_aload_n hx hb dX12_laysMore_104 rfl (lv_at hl 5 rfl) ?_
                        refine x_getk (ci := 12) (C := RX12) (F := TX12) (N := 36) (v := .ref y1) hx hb hts uX12 hown hkb hH 1 rfl rfl 1 (by decide) rfl kw_1224 (fun _ h9 => h9) dX12_laysMore_105 ?_
                        refine lv_iconst (v := 1) hx hb dX12_laysMore_108 (by decide) ?_
                        refine xa_ild hx hb hkb hH 0 rfl (by decide) (by decide) dX12_laysMore_109 ?_
                        refine lv_topi (fun v109 ev109 => ?_)
                        have tv109 : v109 = f1 1 := by rw [ev109]; rfl
                        have bv109 : 0 ≤ v109.toInt ∧ v109.toInt ≤ 14 := by rw [ev109]; exact (s_f1.at (by decide) 1).1 (by decide)
                        have hv109 : v109.toInt = ((hg / 6 : Nat) : Int) := by rw [tv109, g_f1.1]; exact nI_toInt (by omega)
                        refine lv_icmp_ge (tgt := 175) hx hb dX12_laysMore_110 (by decide) (fun c110 => ?_) (fun c110 => ?_)
                        · skip
                          have fuc110 := full_i p102_7
                          have fvc110 := full_i v109
                          have tc110 := g_le c110
                          refine lv_aload_n hx hb dX12_laysMore_175 rfl (lv_at hl 5 rfl) ?_
                          refine x_getk (ci := 12) (C := RX12) (F := TX12) (N := 36) (v := .ref y28) hx hb hts uX12 hown hkb hH 1 rfl rfl 28 (by decide) rfl kw_1251 (fun _ h9 => h9) dX12_laysMore_176 ?_
                          refine lv_bipush (v := 14) hx hb dX12_laysMore_179 (by decide) ?_
                          refine lv_iload_n hx hb dX12_laysMore_181 rfl (lv_at hl 4 rfl) ?_
                          refine lv_imul hx hb dX12_laysMore_182 ?_
                          refine lv_topi (fun v182 ev182 => ?_)
                          have tv182 : v182.toInt = (14) * p11_3.toInt := by rw [ev182]; exact mul_i (by decide : (14 : Int32).toInt = 14) rfl (by omega) (by omega)
                          refine lv_iload hx hb dX12_laysMore_183 (lv_at hl 3 rfl) ?_
                          refine lv_iadd hx hb dX12_laysMore_185 ?_
                          refine lv_topi (fun v185 ev185 => ?_)
                          have tv185 : v185.toInt = v182.toInt + p29_4.toInt := by rw [ev185]; exact add_i rfl rfl (by omega) (by omega)
                          refine lv_iload hx hb dX12_laysMore_186 (lv_at hl 2 rfl) ?_
                          refine lv_i2b hx hb dX12_laysMore_188 rfl ?_
                          refine lv_topi (fun v188 ev188 => ?_)
                          refine xa_bst hx hb hkb hH hS 2 rfl (by omega) (by omega) dX12_laysMore_189 (fun H locs hH hS => ?_)
                          have hH : HT D cs A T (y1 :: a0 :: y28 :: y17 :: O) ((y1, .inl (cs.2.1, 3906, .inl f1)) :: (a0, .inr (12, o0 :: (.ref y1) :: o2 :: o3 :: o4 :: o5 :: o6 :: o7 :: o8 :: o9 :: o10 :: o11 :: o12 :: o13 :: o14 :: (.ref y15) :: (.int y16) :: (.ref y17) :: o18 :: o19 :: o20 :: o21 :: o22 :: o23 :: o24 :: o25 :: o26 :: o27 :: (.ref y28) :: tl)) :: (y28, .inl (cs.1, 229376, .inl (upd g29_2 (v185.toInt.toNat) (vp_nar .byte v188)))) :: (y17, .inl (cs.2.1, 14, .inl f17)) :: X) H := hH
                          obtain ⟨F189, eF189⟩ : ∃ f9, f9 = upd g29_2 (v185.toInt.toNat) (vp_nar .byte v188) := ⟨_, rfl⟩
                          have hH : HT D cs A T (y1 :: a0 :: y28 :: y17 :: O) ((y1, .inl (cs.2.1, 3906, .inl f1)) :: (a0, .inr (12, o0 :: (.ref y1) :: o2 :: o3 :: o4 :: o5 :: o6 :: o7 :: o8 :: o9 :: o10 :: o11 :: o12 :: o13 :: o14 :: (.ref y15) :: (.int y16) :: (.ref y17) :: o18 :: o19 :: o20 :: o21 :: o22 :: o23 :: o24 :: o25 :: o26 :: o27 :: (.ref y28) :: tl)) :: (y28, .inl (cs.1, 229376, .inl F189)) :: (y17, .inl (cs.2.1, 14, .inl f17)) :: X) H := eF189 ▸ hH
                          exact J190 F189 _ _ _ (by first | (refine L190_p (by omega) i29 ?_ ?_ ?_ rfl i102 ev188 tv182 tv185 eF189 <;> omega) | (refine L29_s i29 ?_ ?_ ?_ x_v440 ?_ rfl <;> omega)) hH hS (lv_sub hl [3, 4, 5, 6, 7] rfl)
                        · skip
                          have fuc110 := full_i p102_7
                          have fvc110 := full_i v109
                          have tc110 := g_nle c110
                          refine lv_iload hx hb dX12_laysMore_113 (lv_at hl 1 rfl) ?_
                          refine lv_i2l hx hb dX12_laysMore_115 rfl ?_
                          refine lv_iload hx hb dX12_laysMore_116 (lv_at hl 0 rfl) ?_
                          refine tk_i hH hS hA (tr_S (n := 2) (As := [.long v96.toInt64, .int p102_7]) hx hb hml hown hts hkb hH (ox_map hOX rfl) hks hE hS hA (s_M_isIn2 l D cs kf T (y1 :: a0 :: y28 :: y17 :: O) ((y1, .inl (cs.2.1, 3906, .inl f1)) :: (a0, .inr (12, o0 :: (.ref y1) :: o2 :: o3 :: o4 :: o5 :: o6 :: o7 :: o8 :: o9 :: o10 :: o11 :: o12 :: o13 :: o14 :: (.ref y15) :: (.int y16) :: (.ref y17) :: o18 :: o19 :: o20 :: o21 :: o22 :: o23 :: o24 :: o25 :: o26 :: o27 :: (.ref y28) :: tl)) :: (y28, .inl (cs.1, 229376, .inl g29_2)) :: (y17, .inl (cs.2.1, 14, .inl f17)) :: X) v96.toInt64 p102_7  (hO.sub (by decide))) kw_1440 kw_1441 kw_13 kw_1442 (by decide +kernel) ⟨Nat.le_of_ble_eq_true rfl, Nat.le_of_ble_eq_true rfl⟩ rfl rfl hl.1 (Nat.le_of_ble_eq_true rfl) dX12_laysMore_118 ⟨Nat.le_of_ble_eq_true rfl, Nat.le_of_ble_eq_true rfl⟩) (fun v118 u H locs hz9 hH hS => ?_)
                          obtain ⟨rfl, l_v118, u_v118, x_v1180⟩ := hz9
                          have hH : HT D cs A T (y1 :: a0 :: y28 :: y17 :: O) ((y1, .inl (cs.2.1, 3906, .inl f1)) :: (a0, .inr (12, o0 :: (.ref y1) :: o2 :: o3 :: o4 :: o5 :: o6 :: o7 :: o8 :: o9 :: o10 :: o11 :: o12 :: o13 :: o14 :: (.ref y15) :: (.int y16) :: (.ref y17) :: o18 :: o19 :: o20 :: o21 :: o22 :: o23 :: o24 :: o25 :: o26 :: o27 :: (.ref y28) :: tl)) :: (y28, .inl (cs.1, 229376, .inl g29_2)) :: (y17, .inl (cs.2.1, 14, .inl f17)) :: X) H := hH
                          refine W.widen (k := 0) (n := 0) (Nat.le_of_ble_eq_true rfl) (Nat.le_of_ble_eq_true rfl) ?_
                          have J169 : ∀ (p169_5 : Int32) (H : Heap) (locs : List Loc) (ls : Array Slot), (0 ≤ p169_5.toInt) → (p169_5.toInt ≤ 100) → (L102 hg x1 f17 g29_2 p11_3 p29_4 p169_5 (p102_7.toInt.toNat + 1)) → HT D cs A T (y1 :: a0 :: y28 :: y17 :: O) ((y1, .inl (cs.2.1, 3906, .inl f1)) :: (a0, .inr (12, o0 :: (.ref y1) :: o2 :: o3 :: o4 :: o5 :: o6 :: o7 :: o8 :: o9 :: o10 :: o11 :: o12 :: o13 :: o14 :: (.ref y15) :: (.int y16) :: (.ref y17) :: o18 :: o19 :: o20 :: o21 :: o22 :: o23 :: o24 :: o25 :: o26 :: o27 :: (.ref y28) :: tl)) :: (y28, .inl (cs.1, 229376, .inl g29_2)) :: (y17, .inl (cs.2.1, 14, .inl f17)) :: X) H → va_S A s.heap H locs → lv_has ls 8 [(7, .int p102_7), (6, .int v96), (5, .int p169_5), (4, .int p29_4), (3, .int p11_3), (0, .ref a0), (1, .int x1), (2, .int x2)] → W p l e { frames := 1, cells := 0, slots := 0, locals := 22 } s m [.ref a0, .int x1, .int x2].toArray below meth c H locs 0 0 (MQ below (Tv D cs (fun u => ∃ (G2 : Nat → Int32), u = (T, y1 :: a0 :: y28 :: y17 :: O, (y1, .inl (cs.2.1, 3906, .inl f1)) :: (a0, .inr (12, o0 :: (.ref y1) :: o2 :: o3 :: o4 :: o5 :: o6 :: o7 :: o8 :: o9 :: o10 :: o11 :: o12 :: o13 :: o14 :: (.ref y15) :: (.int y16) :: (.ref y17) :: o18 :: o19 :: o20 :: o21 :: o22 :: o23 :: o24 :: o25 :: o26 :: o27 :: (.ref y28) :: tl)) :: (y28, .inl (cs.1, 229376, .inl G2)) :: (y17, .inl (cs.2.1, 14, .inl f17)) :: X) ∧ (WS (hg / 6) x1.toInt.toNat f17 G2 0)) A) [.ref a0, .int x1, .int x2].toArray s 0 0 A) (F0 m 169 ls []) := by
                            intro p169_5 H locs ls l_p169_5 u_p169_5 i169 hH hS hl
                            obtain ⟨v169, ev169⟩ : ∃ y : Int32, y = p102_7 + 1 := ⟨_, rfl⟩
                            have tv169 : v169.toInt = p102_7.toInt + (1) := by rw [ev169]; exact add_i rfl (by decide) (by omega) (by omega)
                            refine lv_iinc (v := v169) (lv' := [(7, .int v169), (6, .int v96), (5, .int p169_5), (4, .int p29_4), (3, .int p11_3), (0, .ref a0), (1, .int x1), (2, .int x2)]) hx hb dX12_laysMore_169 hl (k := 0) rfl (by rw [ev169]; rfl) (by decide) rfl (fun ls hl => ?_)
                            refine lv_goto (tgt := 102) hx hb dX12_laysMore_172 (by decide) ?_
                            exact ih102 _ (by omega) v169 p169_5 _ _ _ rfl (by omega) (by omega) (by omega) (by omega) (by first | (refine L102_e i169 ?_; omega) | exact (L102_0 i82)) hH hS (lv_sub hl [0, 1, 2, 3, 4, 5, 6, 7] rfl)
                          refine lv_if_eq (tgt := 169) hx hb dX12_laysMore_121 (by decide) (fun c121 => ?_) (fun c121 => ?_)
                          · skip
                            have tc121 := f_eq (k := 0) (by decide) c121
                            exact J169 p102_5 _ _ _ (by omega) (by omega) (by first | exact (L102_s i102) | (refine L102_n i102 qv164 tv166 ?_; omega)) hH hS (lv_sub hl [0, 1, 2, 3, 4, 5, 6, 7] rfl)
                          · skip
                            have tc121 := f_ne (k := 0) (by decide) c121
                            refine lv_aload_n hx hb dX12_laysMore_124 rfl (lv_at hl 5 rfl) ?_
                            refine x_getk (ci := 12) (C := RX12) (F := TX12) (N := 36) (v := .ref y28) hx hb hts uX12 hown hkb hH 1 rfl rfl 28 (by decide) rfl kw_1251 (fun _ h9 => h9) dX12_laysMore_125 ?_
                            refine lv_bipush (v := 14) hx hb dX12_laysMore_128 (by decide) ?_
                            refine lv_iload_n hx hb dX12_laysMore_130 rfl (lv_at hl 4 rfl) ?_
                            refine lv_iconst (v := 1) hx hb dX12_laysMore_131 (by decide) ?_
                            refine lv_iload hx hb dX12_laysMore_132 (lv_at hl 0 rfl) ?_
                            refine lv_ishl hx hb dX12_laysMore_134 ?_
                            refine lv_topi (fun v134 ev134 => ?_)
                            have tv134 : 1 ≤ v134.toInt ∧ v134.toInt ≤ 8192 := by rw [ev134]; exact shl_b 13 (by decide) (by omega) (by omega)
                            refine lv_ior hx hb dX12_laysMore_135 ?_
                            refine lv_topi (fun v135 ev135 => ?_)
                            have tv135 : 0 ≤ v135.toInt ∧ v135.toInt < 16384 := by rw [ev135]; exact or_b 14 (by decide) (by omega) (by omega) (by omega) (by omega)
                            refine lv_imul hx hb dX12_laysMore_136 ?_
                            refine lv_topi (fun v136 ev136 => ?_)
                            have tv136 : v136.toInt = (14) * v135.toInt := by rw [ev136]; exact mul_i (by decide : (14 : Int32).toInt = 14) rfl (by omega) (by omega)
                            refine lv_iload hx hb dX12_laysMore_137 (lv_at hl 0 rfl) ?_
                            refine lv_iadd hx hb dX12_laysMore_139 ?_
                            refine lv_topi (fun v139 ev139 => ?_)
                            have tv139 : v139.toInt = v136.toInt + p102_7.toInt := by rw [ev139]; exact add_i rfl rfl (by omega) (by omega)
                            refine xa_bld hx hb hkb hH 2 rfl (by omega) (by omega) dX12_laysMore_140 ?_
                            refine lv_topi (fun v140 ev140 => ?_)
                            have tv140 : v140 = g29_2 v139.toInt.toNat := ev140
                            have qv140 := L140_of i29 (by omega) (by omega) (by omega) tv90 ev92 (by omega) ev95 ev96 (by omega) x_v1180 tc121 (by omega) (by omega) (by omega) ev134 ev135 (by omega) tv136 tv139 tv140
                            have bv140 := qv140.b
                            refine lv_iconst (v := 1) hx hb dX12_laysMore_141 (by decide) ?_
                            refine lv_iadd hx hb dX12_laysMore_142 ?_
                            refine lv_topi (fun v142 ev142 => ?_)
                            have tv142 : v142.toInt = v140.toInt + (1) := by rw [ev142]; exact add_i rfl (by decide : (1 : Int32).toInt = 1) (by omega) (by omega)
                            refine lv_iload hx hb dX12_laysMore_143 (lv_at hl 2 rfl) ?_
                            refine lv_icmp_ge (tgt := 169) hx hb dX12_laysMore_145 (by decide) (fun c145 => ?_) (fun c145 => ?_)
                            · skip
                              have fuc145 := full_i v142
                              have fvc145 := full_i p102_5
                              have tc145 := g_le c145
                              exact J169 p102_5 _ _ _ (by omega) (by omega) (by first | exact (L102_s i102) | (refine L102_n i102 qv164 tv166 ?_; omega)) hH hS (lv_sub hl [0, 1, 2, 3, 4, 5, 6, 7] rfl)
                            · skip
                              have fuc145 := full_i v142
                              have fvc145 := full_i p102_5
                              have tc145 := g_nle c145
                              refine lv_aload_n hx hb dX12_laysMore_148 rfl (lv_at hl 5 rfl) ?_
                              refine x_getk (ci := 12) (C := RX12) (F := TX12) (N := 36) (v := .ref y28) hx hb hts uX12 hown hkb hH 1 rfl rfl 28 (by decide) rfl kw_1251 (fun _ h9 => h9) dX12_laysMore_149 ?_
                              refine lv_bipush (v := 14) hx hb dX12_laysMore_152 (by decide) ?_
                              refine lv_iload_n hx hb dX12_laysMore_154 rfl (lv_at hl 4 rfl) ?_
                              refine lv_iconst (v := 1) hx hb dX12_laysMore_155 (by decide) ?_
                              refine lv_iload hx hb dX12_laysMore_156 (lv_at hl 0 rfl) ?_
                              refine lv_ishl hx hb dX12_laysMore_158 ?_
                              refine lv_topi (fun v158 ev158 => ?_)
                              have tv158 : 1 ≤ v158.toInt ∧ v158.toInt ≤ 8192 := by rw [ev158]; exact shl_b 13 (by decide) (by omega) (by omega)
                              refine lv_ior hx hb dX12_laysMore_159 ?_
                              refine lv_topi (fun v159 ev159 => ?_)
                              have tv159 : 0 ≤ v159.toInt ∧ v159.toInt < 16384 := by rw [ev159]; exact or_b 14 (by decide) (by omega) (by omega) (by omega) (by omega)
                              refine lv_imul hx hb dX12_laysMore_160 ?_
                              refine lv_topi (fun v160 ev160 => ?_)
                              have tv160 : v160.toInt = (14) * v159.toInt := by rw [ev160]; exact mul_i (by decide : (14 : Int32).toInt = 14) rfl (by omega) (by omega)
                              refine lv_iload hx hb dX12_laysMore_161 (lv_at hl 0 rfl) ?_
                              refine lv_iadd hx hb dX12_laysMore_163 ?_
                              refine lv_topi (fun v163 ev163 => ?_)
                              have tv163 : v163.toInt = v160.toInt + p102_7.toInt := by rw [ev163]; exact add_i rfl rfl (by omega) (by omega)
                              refine xa_bld hx hb hkb hH 2 rfl (by omega) (by omega) dX12_laysMore_164 ?_
                              refine lv_topi (fun v164 ev164 => ?_)
                              have tv164 : v164 = g29_2 v163.toInt.toNat := ev164
                              have qv164 := L140_of i29 (by omega) (by omega) (by omega) tv90 ev92 (by omega) ev95 ev96 (by omega) x_v1180 tc121 (by omega) (by omega) (by omega) ev158 ev159 (by omega) tv160 tv163 tv164
                              have bv164 := qv164.b
                              have qe9 := qv140.eq qv164
                              refine lv_iconst (v := 1) hx hb dX12_laysMore_165 (by decide) ?_
                              refine lv_iadd hx hb dX12_laysMore_166 ?_
                              refine lv_topi (fun v166 ev166 => ?_)
                              have tv166 : v166.toInt = v164.toInt + (1) := by rw [ev166]; exact add_i rfl (by decide : (1 : Int32).toInt = 1) (by omega) (by omega)
                              refine lv_istore (lv' := [(5, .int v166), (7, .int p102_7), (6, .int v96), (4, .int p29_4), (3, .int p11_3), (0, .ref a0), (1, .int x1), (2, .int x2)]) hx hb dX12_laysMore_167 hl (by decide) rfl (fun ls hl => ?_)
                              exact J169 v166 _ _ _ (by omega) (by omega) (by first | exact (L102_s i102) | (refine L102_n i102 qv164 tv166 ?_; omega)) hH hS (lv_sub hl [1, 2, 0, 3, 4, 5, 6, 7] rfl)
                    refine lv_istore (lv' := [(7, .int 0), (6, .int v96), (5, .int k82_0), (4, .int p29_4), (3, .int p11_3), (0, .ref a0), (1, .int x1), (2, .int x2)]) hx hb dX12_laysMore_100 hl (by decide) rfl (fun ls hl => ?_)
                    have z_0 : (0 : Int32).toInt = 0 := by decide
                    exact J102 _ 0 k82_0 _ _ _ rfl (by decide) (by decide) (by omega) (by omega) (by first | (refine L102_e i169 ?_; omega) | exact (L102_0 i82)) hH hS (lv_sub hl [0, 1, 2, 3, 4, 5, 6, 7] rfl)
                  have J80 : ∀  (H : Heap) (locs : List Loc) (ls : Array Slot), HT D cs A T (y1 :: a0 :: y28 :: y17 :: O) ((y1, .inl (cs.2.1, 3906, .inl f1)) :: (a0, .inr (12, o0 :: (.ref y1) :: o2 :: o3 :: o4 :: o5 :: o6 :: o7 :: o8 :: o9 :: o10 :: o11 :: o12 :: o13 :: o14 :: (.ref y15) :: (.int y16) :: (.ref y17) :: o18 :: o19 :: o20 :: o21 :: o22 :: o23 :: o24 :: o25 :: o26 :: o27 :: (.ref y28) :: tl)) :: (y28, .inl (cs.1, 229376, .inl g29_2)) :: (y17, .inl (cs.2.1, 14, .inl f17)) :: X) H → va_S A s.heap H locs → lv_has ls 8 [(4, .int p29_4), (3, .int p11_3), (0, .ref a0), (1, .int x1), (2, .int x2)] → W p l e { frames := 1, cells := 0, slots := 0, locals := 22 } s m [.ref a0, .int x1, .int x2].toArray below meth c H locs 0 0 (MQ below (Tv D cs (fun u => ∃ (G2 : Nat → Int32), u = (T, y1 :: a0 :: y28 :: y17 :: O, (y1, .inl (cs.2.1, 3906, .inl f1)) :: (a0, .inr (12, o0 :: (.ref y1) :: o2 :: o3 :: o4 :: o5 :: o6 :: o7 :: o8 :: o9 :: o10 :: o11 :: o12 :: o13 :: o14 :: (.ref y15) :: (.int y16) :: (.ref y17) :: o18 :: o19 :: o20 :: o21 :: o22 :: o23 :: o24 :: o25 :: o26 :: o27 :: (.ref y28) :: tl)) :: (y28, .inl (cs.1, 229376, .inl G2)) :: (y17, .inl (cs.2.1, 14, .inl f17)) :: X) ∧ (WS (hg / 6) x1.toInt.toNat f17 G2 0)) A) [.ref a0, .int x1, .int x2].toArray s 0 0 A) (F0 m 80 ls []) := by
                    intro  H locs ls  hH hS hl
                    refine lv_bipush (v := 99) hx hb dX12_laysMore_80 (by decide) ?_
                    have z_99 : (99 : Int32).toInt = 99 := by decide
                    exact J82 99 _ _ _ (by decide) (by decide) (by decide) hH hS (lv_sub hl [0, 1, 2, 3, 4] rfl)
                  refine lv_if_eq (tgt := 80) hx hb dX12_laysMore_65 (by decide) (fun c65 => ?_) (fun c65 => ?_)
                  · skip
                    have tc65 := f_eq (k := 0) (by decide) c65
                    exact J80  _ _ _  hH hS (lv_sub hl [0, 1, 2, 3, 4] rfl)
                  · skip
                    have tc65 := f_ne (k := 0) (by decide) c65
                    refine lv_iload_n hx hb dX12_laysMore_68 rfl (lv_at hl 4 rfl) ?_
                    refine lv_iload_n hx hb dX12_laysMore_69 rfl (lv_at hl 1 rfl) ?_
                    refine lv_iconst (v := (-1)) hx hb dX12_laysMore_70 (by decide) ?_
                    refine lv_ixor hx hb dX12_laysMore_71 ?_
                    refine lv_topi (fun v71 ev71 => ?_)
                    refine lv_iand hx hb dX12_laysMore_72 ?_
                    refine lv_topi (fun v72 ev72 => ?_)
                    refine lv_if_ne (tgt := 80) hx hb dX12_laysMore_73 (by decide) (fun c73 => ?_) (fun c73 => ?_)
                    · skip
                      have tc73 := f_ne (k := 0) (by decide) c73
                      exact J80  _ _ _  hH hS (lv_sub hl [0, 1, 2, 3, 4] rfl)
                    · skip
                      have tc73 := f_eq (k := 0) (by decide) c73
                      refine lv_iconst (v := 0) hx hb dX12_laysMore_76 (by decide) ?_
                      refine lv_goto (tgt := 82) hx hb dX12_laysMore_77 (by decide) ?_
                      have z_0 : (0 : Int32).toInt = 0 := by decide
                      exact J82 0 _ _ _ (by decide) (by decide) (by decide) hH hS (lv_sub hl [0, 1, 2, 3, 4] rfl)
                · skip
                  have tc47 := f_eq (k := 0) (by decide) c47
                  refine lv_goto (tgt := 190) hx hb dX12_laysMore_50 (by decide) ?_
                  exact J190 g29_2 _ _ _ (by first | (refine L190_p (by omega) i29 ?_ ?_ ?_ rfl i102 ev188 tv182 tv185 eF189 <;> omega) | (refine L29_s i29 ?_ ?_ ?_ x_v440 ?_ rfl <;> omega)) hH hS (lv_sub hl [0, 1, 2, 3, 4] rfl)
          refine lv_istore (lv' := [(4, .int 0), (3, .int p11_3), (0, .ref a0), (1, .int x1), (2, .int x2)]) hx hb dX12_laysMore_27 hl (by decide) rfl (fun ls hl => ?_)
          have z_0 : (0 : Int32).toInt = 0 := by decide
          exact J29 _ 0 g11_2 _ _ _ rfl (by decide) (by decide) (by first | (refine L29_e i190 ?_; omega) | (refine L29_0 i11 ?_ ?_ ev18 ev19 ?_ (by decide) <;> omega)) hH hS (lv_sub hl [0, 1, 2, 3, 4] rfl)
        · skip
          have tc20 := f_ne (k := 0) (by decide) c20
          refine lv_goto (tgt := 196) hx hb dX12_laysMore_23 (by decide) ?_
          exact J196 g11_2 _ _ _ (by first | (refine L96_n i29 ?_ ?_ <;> omega) | (refine L96_s i11 ?_ ?_ ev18 ev19 ?_ ?_ <;> omega)) hH hS (lv_sub hl [0, 1, 2, 3] rfl)
  have hv9 : v7.toInt = (2 : Int) ^ (hg / 6) := by rw [ev7, tv6, g_f1.1]; exact sh_tab _ (by omega)
  refine lv_istore_n (lv' := [(3, .int v9), (0, .ref a0), (1, .int x1), (2, .int x2)]) hx hb dX12_laysMore_10 rfl hl (by decide) rfl (fun ls hl => ?_)
  exact J11 _ v9 f28 _ _ _ rfl (by omega) (by omega) (by first | exact (L11_n i196 tv196) | exact (L11_0 hv9 tv9)) hH hS (lv_sub hl [0, 1, 2, 3] rfl)
/-! the reference's order -/
theorem sub_lim {x v u w : Int32} (e1 : u = w ^^^ (-1)) (e2 : v = x &&& u) (h : v.toInt = 0) (h0 : 0 ≤ w.toInt) : 0 ≤ x.toInt ∧ x.toInt ≤ w.toInt := by
  have hv : v = 0 := Int32.toInt_inj.mp (by rw [h]; decide)
  have e : x = x &&& w := by
    apply Int32.toBitVec_inj.mp
    apply BitVec.eq_of_getLsbD_eq
    intro i hi
    have hz : v.toBitVec.getLsbD i = false := by rw [hv]; exact BitVec.getLsbD_zero
    rw [e2, e1, Int32.toBitVec_and, Int32.toBitVec_xor, BitVec.getLsbD_and, BitVec.getLsbD_xor, m1_tab i hi, Bool.xor_true] at hz
    rw [Int32.toBitVec_and, BitVec.getLsbD_and]
    cases q1 : x.toBitVec.getLsbD i
    · rfl
    · rw [q1] at hz
      cases q2 : w.toBitVec.getLsbD i
      · rw [q2] at hz
        exact absurd hz (by decide)
      · rfl
  rw [e]
  exact and_r h0
def thF (f : Nat → Int32) (h : Int32) : Int32 := if (inF (f 87).toInt64 h).toInt = 0 ∧ (f (35 + h.toInt.toNat)).toInt ≤ (f 88).toInt then 1 else 0
theorem thF_1 {f : Nat → Int32} {h a r b c i : Int32} (ea : a = f 87) (er : r = inF a.toInt64 h) (hr : r.toInt = 0) (eb : b = f 88) (ei : i.toInt = 35 + h.toInt) (h0 : 0 ≤ h.toInt) (ec : c = f i.toInt.toNat) (hc : c.toInt ≤ b.toInt) : (1 : Int32) = thF f h := by
  have q1 : (inF (f 87).toInt64 h).toInt = 0 := by rw [← ea, ← er]; exact hr
  have q2 : (f (35 + h.toInt.toNat)).toInt ≤ (f 88).toInt := by rw [show 35 + h.toInt.toNat = i.toInt.toNat by omega, ← ec, ← eb]; exact hc
  unfold thF
  rw [if_pos ⟨q1, q2⟩]
theorem thF_0 {f : Nat → Int32} {h a r : Int32} (ea : a = f 87) (er : r = inF a.toInt64 h) (hr : r.toInt ≠ 0) : (0 : Int32) = thF f h := by
  unfold thF
  rw [if_neg (fun q => hr (by rw [er, ea]; exact q.1))]
theorem thF_0c {f : Nat → Int32} {h b c i : Int32} (eb : b = f 88) (ei : i.toInt = 35 + h.toInt) (h0 : 0 ≤ h.toInt) (ec : c = f i.toInt.toNat) (hc : b.toInt < c.toInt) : (0 : Int32) = thF f h := by
  unfold thF
  rw [if_neg (fun q => by have q2 := q.2; rw [show 35 + h.toInt.toNat = i.toInt.toNat by omega, ← ec, ← eb] at q2; omega)]
def thS (f : Nat → Int32) : Nat → Int32
  | 0 => 0
  | n + 1 => thS f n ||| (if (thF f (nI n)).toInt = 0 then 0 else (1 : Int32) <<< (nI n &&& 31))
theorem thS_n {f : Nat → Int32} {p h r b v w : Int32} (hi : p = thS f h.toInt.toNat) (h0 : 0 ≤ h.toInt) (er : r = thF f h) (hb : (r.toInt = 0 ∧ b = 0) ∨ (r.toInt ≠ 0 ∧ b = (1 : Int32) <<< (h &&& 31))) (ev : v = p ||| b) (ew : w.toInt = h.toInt + 1) : v = thS f w.toInt.toNat := by
  rw [show w.toInt.toNat = h.toInt.toNat + 1 by omega, ev, hi]
  show _ = thS f h.toInt.toNat ||| (if (thF f (nI h.toInt.toNat)).toInt = 0 then 0 else (1 : Int32) <<< (nI h.toInt.toNat &&& 31))
  rw [← is_nI h0, ← er]
  rcases hb with ⟨q1, q2⟩ | ⟨q1, q2⟩
  · rw [if_pos q1, q2]
  · rw [if_neg q1, q2]
theorem c1_put {f : Nat → Int32} {k : Nat} {x : Int32} (h : ∀ j, cp 1 (f j)) (h0 : 0 ≤ x.toInt) (h1 : x.toInt ≤ 16383) : ∀ j, cp 1 (upd f k x j) := fun j => by
  by_cases q : j = k
  · rw [q, upd_eq]
    exact ⟨h0, h1⟩
  · rw [upd_ne q]
    exact h j
/-- a hold from which a climb by all of a set begins -/
def LQ (hg : Nat) (s : Int32) (g : Nat → Int32) (b : Int32) : Prop := b.toInt = -1 ∨ (0 ≤ b.toInt ∧ b.toInt < ((hg / 6 : Nat) : Int) ∧ s.toInt.toNat.testBit b.toInt.toNat = true ∧ (g (14 * 2 ^ b.toInt.toNat + b.toInt.toNat)).toInt < 99)
theorem LQ_0 {hg : Nat} {s : Int32} {g : Nat → Int32} : LQ hg s g (-1) := Or.inl (by decide)
theorem sh_nn {k v : Int32} (h0 : 0 ≤ k.toInt) (h1 : k.toInt ≤ 30) (e : v = (1 : Int32) <<< (k &&& 31)) : v.toInt.toNat = 2 ^ k.toInt.toNat := by
  have h := sh_n h0 h1 e
  have hp2 : 0 < 2 ^ k.toInt.toNat := Nat.two_pow_pos _
  have e2 : ((2 ^ k.toInt.toNat : Nat) : Int) = (2 : Int) ^ k.toInt.toNat := by norm_cast
  omega
theorem LQ_n {hg : Nat} {s a b q u w h : Int32} {g : Nat → Int32} (hs : 0 ≤ s.toInt) (eb : b = s &&& a) (hb : 0 ≤ b.toInt) (eq : q = inF b.toInt64 h) (hq : q.toInt ≠ 0) (h0 : 0 ≤ h.toInt) (h1 : h.toInt < ((hg / 6 : Nat) : Int)) (h2 : h.toInt ≤ 13) (eu : u = (1 : Int32) <<< (h &&& 31)) (ew : w = g (14 * u.toInt.toNat + h.toInt.toNat)) (hw : w.toInt < 99) : LQ hg s g h := by
  have hbit := (inF_bit hb h0 (by omega)).mp (inF_nz eq hq)
  rw [tb hb, eb, Int32.toBitVec_and, BitVec.getLsbD_and, Bool.and_eq_true] at hbit
  refine Or.inr ⟨h0, h1, ?_, ?_⟩
  · rw [tb hs]
    exact hbit.1
  · rw [← sh_nn h0 (by omega) eu, ← ew]
    exact hw
/-- on the way: where the order is, what it has taken, how many are left -/
def LOx (hg : Nat) (x : Int32) (g : Nat → Int32) (h s : Int32) (n : Int) : Prop := h.toInt < ((hg / 6 : Nat) : Int) ∧ s.toInt.toNat < 2 ^ (hg / 6) ∧ (∀ i, s.toInt.toNat.testBit i = true → x.toInt.toNat.testBit i = true) ∧ s.toInt.toNat.testBit h.toInt.toNat = true ∧ (g (14 * s.toInt.toNat + h.toInt.toNat)).toInt = n ∧ n < 99
def LPx (hg : Nat) (x : Int32) (o g : Nat → Int32) (h s : Int32) (l : Int) (n : Nat) : Prop := ∃ k : Nat, n ≤ k ∧ k < hg / 6 ∧ (o h.toInt.toNat).toBitVec.getLsbD k = true ∧ x.toInt.toNat.testBit k = true ∧ s.toInt.toNat.testBit k = false ∧ (g (14 * (s.toInt.toNat ||| 2 ^ k) + k)).toInt = l
theorem LOx_0 {hg : Nat} {x h u : Int32} {g : Nat → Int32} {v : Int32} (hi : LQ hg x g h) (hn : h.toInt ≠ -1) (h2 : h.toInt ≤ 13) (eu : u = (1 : Int32) <<< (h &&& 31)) (ev : v = g (14 * u.toInt.toNat + h.toInt.toNat)) : LOx hg x g h u v.toInt := by
  rcases hi with q | ⟨q0, q1, q2, q3⟩
  · exact absurd q hn
  · have e := sh_nn q0 (by omega) eu
    refine ⟨q1, ?_, fun i hi => ?_, ?_, by rw [ev], ?_⟩
    · rw [e]
      exact Nat.pow_lt_pow_right (by decide) (by omega)
    · rw [e, Nat.testBit_two_pow] at hi
      rw [← of_decide_eq_true hi]
      exact q2
    · rw [e]
      exact Nat.testBit_two_pow_self
    · rw [ev, e]
      exact q3
theorem LPx_0 {hg : Nat} {x h s v w : Int32} {o g : Nat → Int32} {n : Int} (hw : WS (hg / 6) x.toInt.toNat o g 0) (hi : LOx hg x g h s n) (h0 : 0 ≤ h.toInt) (hn : 0 < n) (ev : v.toInt = n) (ew : w.toInt = v.toInt - 1) {m : Nat} (hm : m = 0) : LPx hg x o g h s w.toInt m := by
  obtain ⟨a1, a2, a3, a4, a5, a6⟩ := hi
  have hs : (0 : Int) < (s.toInt.toNat : Nat) := by
    have : s.toInt.toNat ≠ 0 := fun q => by
      rw [q, Nat.zero_testBit] at a4
      exact absurd a4 (by decide)
    omega
  rcases hw s.toInt.toNat hs a2 a3 h.toInt.toNat (by omega) a4 with q | q | ⟨q, k, k1, k2, k3, k4, k5, k6, k7⟩
  · omega
  · omega
  · exact ⟨k, by omega, k2, k3, k4, k5, by omega⟩
theorem LPx.lt {hg m : Nat} {x h s : Int32} {o g : Nat → Int32} {l : Int} (hi : LPx hg x o g h s l m) : m < hg / 6 := by
  obtain ⟨k, h1, h2, _⟩ := hi
  omega
/-- what the step asks of a hold -/
theorem LPx_bits {x h s a b c d k : Int32} {o : Nat → Int32} (ea : a = o h.toInt.toNat) (eb : b = a &&& x) (hb : 0 ≤ b.toInt) (hx : 0 ≤ x.toInt) (ec : c = s ^^^ (-1)) (hs : 0 ≤ s.toInt) (ed : d = b &&& c) (hd : 0 ≤ d.toInt) (hk : 0 ≤ k.toInt) (hk1 : k.toInt ≤ 31) : inF d.toInt64 k = 1 ↔ ((o h.toInt.toNat).toBitVec.getLsbD k.toInt.toNat = true ∧ x.toInt.toNat.testBit k.toInt.toNat = true ∧ s.toInt.toNat.testBit k.toInt.toNat = false) := by
  rw [inF_bit hd hk hk1, an_bit hb hs hd ec ed, Bool.and_eq_true, tb hb, eb, Int32.toBitVec_and, BitVec.getLsbD_and, Bool.and_eq_true, ea, tb hx]
  constructor
  · rintro ⟨⟨q1, q2⟩, q3⟩
    refine ⟨q1, q2, ?_⟩
    cases q4 : s.toInt.toNat.testBit k.toInt.toNat
    · rfl
    · rw [q4] at q3
      exact absurd q3 (by decide)
  · rintro ⟨q1, q2, q3⟩
    exact ⟨⟨q1, q2⟩, by rw [q3]; rfl⟩
theorem LPx_no {hg : Nat} {x h s q k : Int32} {d : Int64} {o g : Nat → Int32} {l : Int} (hi : LPx hg x o g h s l k.toInt.toNat) (hbits : inF d k = 1 ↔ ((o h.toInt.toNat).toBitVec.getLsbD k.toInt.toNat = true ∧ x.toInt.toNat.testBit k.toInt.toNat = true ∧ s.toInt.toNat.testBit k.toInt.toNat = false)) (eq : q = inF d k) (hq : q.toInt = 0) : LPx hg x o g h s l (k.toInt.toNat + 1) := by
  obtain ⟨j, h1, h2, h3, h4, h5, h6⟩ := hi
  refine ⟨j, ?_, h2, h3, h4, h5, h6⟩
  by_cases z : j = k.toInt.toNat
  · subst z
    exact absurd (hbits.mpr ⟨h3, h4, h5⟩) (inF_z eq hq)
  · omega
theorem LPx_ne {hg : Nat} {x h s k u v w : Int32} {o g : Nat → Int32} {l : Int} (hi : LPx hg x o g h s l k.toInt.toNat) (hs : 0 ≤ s.toInt) (hk : 0 ≤ k.toInt) (hk1 : k.toInt ≤ 30) (eu : u = (1 : Int32) <<< (k &&& 31)) (ev : v = s ||| u) (hv : 0 ≤ v.toInt) (hu : 0 ≤ u.toInt) (ew : w = g (14 * v.toInt.toNat + k.toInt.toNat)) (hw : w.toInt ≠ l) : LPx hg x o g h s l (k.toInt.toNat + 1) := by
  obtain ⟨j, h1, h2, h3, h4, h5, h6⟩ := hi
  refine ⟨j, ?_, h2, h3, h4, h5, h6⟩
  by_cases z : j = k.toInt.toNat
  · subst z
    rw [ev, or_n hs hu (by rw [← ev]; exact hv), sh_nn hk hk1 eu] at ew
    rw [← ew] at h6
    exact absurd h6 hw
  · omega
theorem LPx_e {hg n : Nat} {x h s b : Int32} {o g : Nat → Int32} {l : Int} (hi : LPx hg x o g h s l (n + 1)) (e : b.toInt.toNat = n + 1) : LPx hg x o g h s l b.toInt.toNat := by
  rw [e]
  exact hi
theorem LOx_n {hg : Nat} {x h s q k u v w u2 v2 : Int32} {d : Int64} {o g : Nat → Int32} {n l : Int} (hi : LOx hg x g h s n) (hp : LPx hg x o g h s l k.toInt.toNat) (hbits : inF d k = 1 ↔ ((o h.toInt.toNat).toBitVec.getLsbD k.toInt.toNat = true ∧ x.toInt.toNat.testBit k.toInt.toNat = true ∧ s.toInt.toNat.testBit k.toInt.toNat = false)) (eq : q = inF d k) (hq : q.toInt ≠ 0) (hs : 0 ≤ s.toInt) (hk : 0 ≤ k.toInt) (hk1 : k.toInt ≤ 30) (eu : u = (1 : Int32) <<< (k &&& 31)) (ev : v = s ||| u) (hv : 0 ≤ v.toInt) (hu : 0 ≤ u.toInt) (ew : w = g (14 * v.toInt.toNat + k.toInt.toNat)) (hw : w.toInt = l) (eu2 : u2 = (1 : Int32) <<< (k &&& 31)) (ev2 : v2 = s ||| u2) {n2 : Int} (hl : n2 = l) (hl2 : n2 < 99) : LOx hg x g k v2 n2 := by
  have e0 : v2 = v := by rw [ev2, ev, eu2, eu]
  subst e0
  obtain ⟨b1, b2, b3⟩ := hbits.mp (inF_nz eq hq)
  have hlt := hp.lt
  have e : v2.toInt.toNat = s.toInt.toNat ||| 2 ^ k.toInt.toNat := by rw [ev, or_n hs hu (by rw [← ev]; exact hv), sh_nn hk hk1 eu]
  refine ⟨by omega, ?_, fun i hj => ?_, ?_, ?_, hl2⟩
  · rw [e]
    exact Nat.or_lt_two_pow hi.2.1 (Nat.pow_lt_pow_right (by decide) hlt)
  · rw [e, Nat.testBit_or, Bool.or_eq_true] at hj
    rcases hj with hj | hj
    · exact hi.2.2.1 i hj
    · rw [Nat.testBit_two_pow] at hj
      rw [← of_decide_eq_true hj]
      exact b2
  · rw [e, Nat.testBit_or, Nat.testBit_two_pow_self, Bool.or_true]
  · rw [← ew, hw, hl]
theorem LOx.b {hg : Nat} {x h s : Int32} {o g : Nat → Int32} {n : Int} (hw : WS (hg / 6) x.toInt.toNat o g 0) (hi : LOx hg x g h s n) (h0 : 0 ≤ h.toInt) : 0 ≤ n ∧ n < 99 := by
  obtain ⟨a1, a2, a3, a4, a5, a6⟩ := hi
  have hs : (0 : Int) < (s.toInt.toNat : Nat) := by
    have : s.toInt.toNat ≠ 0 := fun q => by
      rw [q, Nat.zero_testBit] at a4
      exact absurd a4 (by decide)
    omega
  have hb := WN.b (hw s.toInt.toNat hs a2 a3 h.toInt.toNat (by omega) a4)
  omega
set_option maxHeartbeats 4000000 in
set_option maxRecDepth 100000 in
theorem s_M_isThereF (l : Launch) (D : va_G) (cs : CS) (kf : KF) (T : TF) (O : List Nat) (X : va_W) (a0 hg mq : Nat) (x1 : Int32) (f1 : Nat → Int32) (o0 : Value) (y1 : Nat) (o2 : Value) (o3 : Value) (o4 : Value) (o5 : Value) (o6 : Value) (o7 : Value) (o8 : Value) (o9 : Value) (o10 : Value) (o11 : Value) (o12 : Value) (o13 : Value) (o14 : Value) (y15 : Nat) (y16 : Int32) (tl : List Value) (t_a0 : T a0 = some (22, hg, mq)) (b_hg : hg < 90) (l_x1 : 0 ≤ x1.toInt) (u_x1 : x1.toInt ≤ 13) (s_f1 : B8 3906 f1) (g_f1 : f1 1 = nI (hg / 6) ∧ f1 2 = nI (hg % 6)) (t_y1 : T y1 = some (8, 3906, hg)) (t_y15 : T y15 = some (1, 900, 0)) (hO : okO T (y1 :: a0 :: O) []) : TK l D cs kf yX12_isThere cX12_isThere 2 (some (.boolean)) { frames := 1, cells := 0, slots := 0, locals := 22 } [.ref a0, .int x1] T (y1 :: a0 :: O) ((y1, .inl (cs.2.1, 3906, .inl f1)) :: (a0, .inr (12, o0 :: (.ref y1) :: o2 :: o3 :: o4 :: o5 :: o6 :: o7 :: o8 :: o9 :: o10 :: o11 :: o12 :: o13 :: o14 :: (.ref y15) :: (.int y16) :: tl)) :: X) (Ti D cs (fun r u => u = (T, y1 :: a0 :: O, (y1, .inl (cs.2.1, 3906, .inl f1)) :: (a0, .inr (12, o0 :: (.ref y1) :: o2 :: o3 :: o4 :: o5 :: o6 :: o7 :: o8 :: o9 :: o10 :: o11 :: o12 :: o13 :: o14 :: (.ref y15) :: (.int y16) :: tl)) :: X) ∧ 0 ≤ r.toInt ∧ r.toInt ≤ 1 ∧ (r = thF f1 x1))) := by
  refine tk_of (by decide) (Nat.le_of_ble_eq_true rfl) (fun p e s m below meth c ls A H locs hx hb hr hml hown hts hlocks hnm hkb hH hS hA hOX hks hE hl => ?_)
  have hown : s.vm.findClass RX12 = some m.cls := hown
  have hl : lv_has ls 2 [(0, .ref a0), (1, .int x1)] := hl
  have hOXf := hOX
  refine lv_aload_n hx hb dX12_isThere_0 rfl (lv_at hl 0 rfl) ?_
  refine x_getk (ci := 12) (C := RX12) (F := TX12) (N := 36) (v := .ref y1) hx hb hts uX12 hown hkb hH 1 rfl rfl 1 (by decide) rfl kw_1224 (fun _ h9 => h9) dX12_isThere_1 ?_
  refine lv_bipush (v := 87) hx hb dX12_isThere_4 (by decide) ?_
  refine xa_ild hx hb hkb hH 0 rfl (by decide) (by decide) dX12_isThere_6 ?_
  refine lv_topi (fun v6 ev6 => ?_)
  have tv6 : v6 = f1 87 := by rw [ev6]; rfl
  refine lv_i2l hx hb dX12_isThere_7 rfl ?_
  refine lv_iload_n hx hb dX12_isThere_8 rfl (lv_at hl 1 rfl) ?_
  refine tk_i hH hS hA (tr_S (n := 2) (As := [.long v6.toInt64, .int x1]) hx hb hml hown hts hkb hH (ox_map hOX rfl) hks hE hS hA (s_M_isIn2 l D cs kf T (y1 :: a0 :: O) ((y1, .inl (cs.2.1, 3906, .inl f1)) :: (a0, .inr (12, o0 :: (.ref y1) :: o2 :: o3 :: o4 :: o5 :: o6 :: o7 :: o8 :: o9 :: o10 :: o11 :: o12 :: o13 :: o14 :: (.ref y15) :: (.int y16) :: tl)) :: X) v6.toInt64 x1  (hO.sub (by decide))) kw_1440 kw_1441 kw_13 kw_1442 (by decide +kernel) ⟨Nat.le_of_ble_eq_true rfl, Nat.le_of_ble_eq_true rfl⟩ rfl rfl hl.1 (Nat.le_of_ble_eq_true rfl) dX12_isThere_9 ⟨Nat.le_of_ble_eq_true rfl, Nat.le_of_ble_eq_true rfl⟩) (fun v9 u H locs hz9 hH hS => ?_)
  obtain ⟨rfl, l_v9, u_v9, x_v90⟩ := hz9
  have hH : HT D cs A T (y1 :: a0 :: O) ((y1, .inl (cs.2.1, 3906, .inl f1)) :: (a0, .inr (12, o0 :: (.ref y1) :: o2 :: o3 :: o4 :: o5 :: o6 :: o7 :: o8 :: o9 :: o10 :: o11 :: o12 :: o13 :: o14 :: (.ref y15) :: (.int y16) :: tl)) :: X) H := hH
  refine W.widen (k := 0) (n := 0) (Nat.le_of_ble_eq_true rfl) (Nat.le_of_ble_eq_true rfl) ?_
  refine lv_if_ne (tgt := 38) hx hb dX12_isThere_12 (by decide) (fun c12 => ?_) (fun c12 => ?_)
  · skip
    have tc12 := f_ne (k := 0) (by decide) c12
    refine lv_iconst (v := 0) hx hb dX12_isThere_38 (by decide) ?_
    have z9_0 : (0 : Int32).toInt = 0 := by decide
    exact te_z hx hb hr hlocks (by rfl) hH hS (⟨rfl, by decide, by decide, (by first | (refine thF_0 tv6 x_v90 ?_; omega) | (refine thF_0c tv21 tv29 ?_ tv30 ?_ <;> omega))⟩) dX12_isThere_39
  · skip
    have tc12 := f_eq (k := 0) (by decide) c12
    refine lv_aload_n hx hb dX12_isThere_15 rfl (lv_at hl 0 rfl) ?_
    refine x_getk (ci := 12) (C := RX12) (F := TX12) (N := 36) (v := .ref y1) hx hb hts uX12 hown hkb hH 1 rfl rfl 1 (by decide) rfl kw_1224 (fun _ h9 => h9) dX12_isThere_16 ?_
    refine lv_bipush (v := 88) hx hb dX12_isThere_19 (by decide) ?_
    refine xa_ild hx hb hkb hH 0 rfl (by decide) (by decide) dX12_isThere_21 ?_
    refine lv_topi (fun v21 ev21 => ?_)
    have tv21 : v21 = f1 88 := by rw [ev21]; rfl
    refine lv_aload_n hx hb dX12_isThere_22 rfl (lv_at hl 0 rfl) ?_
    refine x_getk (ci := 12) (C := RX12) (F := TX12) (N := 36) (v := .ref y1) hx hb hts uX12 hown hkb hH 1 rfl rfl 1 (by decide) rfl kw_1224 (fun _ h9 => h9) dX12_isThere_23 ?_
    refine lv_bipush (v := 35) hx hb dX12_isThere_26 (by decide) ?_
    refine lv_iload_n hx hb dX12_isThere_28 rfl (lv_at hl 1 rfl) ?_
    refine lv_iadd hx hb dX12_isThere_29 ?_
    refine lv_topi (fun v29 ev29 => ?_)
    have tv29 : v29.toInt = (35) + x1.toInt := by rw [ev29]; exact add_i (by decide : (35 : Int32).toInt = 35) rfl (by omega) (by omega)
    refine xa_ild hx hb hkb hH 0 rfl (by omega) (by omega) dX12_isThere_30 ?_
    refine lv_topi (fun v30 ev30 => ?_)
    have tv30 : v30 = f1 v29.toInt.toNat := ev30
    refine lv_icmp_lt (tgt := 38) hx hb dX12_isThere_31 (by decide) (fun c31 => ?_) (fun c31 => ?_)
    · skip
      have fuc31 := full_i v21
      have fvc31 := full_i v30
      have tc31 := g_lt c31
      refine lv_iconst (v := 0) hx hb dX12_isThere_38 (by decide) ?_
      have z9_0 : (0 : Int32).toInt = 0 := by decide
      exact te_z hx hb hr hlocks (by rfl) hH hS (⟨rfl, by decide, by decide, (by first | (refine thF_0 tv6 x_v90 ?_; omega) | (refine thF_0c tv21 tv29 ?_ tv30 ?_ <;> omega))⟩) dX12_isThere_39
    · skip
      have fuc31 := full_i v21
      have fvc31 := full_i v30
      have tc31 := g_nlt c31
      refine lv_iconst (v := 1) hx hb dX12_isThere_34 (by decide) ?_
      refine lv_goto (tgt := 39) hx hb dX12_isThere_35 (by decide) ?_
      have z9_1 : (1 : Int32).toInt = 1 := by decide
      exact te_z hx hb hr hlocks (by rfl) hH hS (⟨rfl, by decide, by decide, (by first | (refine thF_1 tv6 x_v90 ?_ tv21 tv29 ?_ tv30 ?_ <;> omega))⟩) dX12_isThere_39
set_option maxHeartbeats 4000000 in
set_option maxRecDepth 100000 in
theorem s_M_endsF (l : Launch) (D : va_G) (cs : CS) (kf : KF) (T : TF) (O : List Nat) (X : va_W) (a0 hg mq : Nat) (f1 : Nat → Int32) (o0 : Value) (y1 : Nat) (o2 : Value) (o3 : Value) (o4 : Value) (o5 : Value) (o6 : Value) (o7 : Value) (o8 : Value) (o9 : Value) (o10 : Value) (o11 : Value) (o12 : Value) (o13 : Value) (o14 : Value) (y15 : Nat) (y16 : Int32) (tl : List Value) (t_a0 : T a0 = some (22, hg, mq)) (b_hg : hg < 90) (s_f1 : B8 3906 f1) (g_f1 : f1 1 = nI (hg / 6) ∧ f1 2 = nI (hg % 6)) (t_y1 : T y1 = some (8, 3906, hg)) (t_y15 : T y15 = some (1, 900, 0)) (hO : okO T (y1 :: a0 :: O) []) : TK l D cs kf yX12_ends cX12_ends 1 (some (.int)) { frames := 0, cells := 0, slots := 0, locals := 0 } [.ref a0] T (y1 :: a0 :: O) ((y1, .inl (cs.2.1, 3906, .inl f1)) :: (a0, .inr (12, o0 :: (.ref y1) :: o2 :: o3 :: o4 :: o5 :: o6 :: o7 :: o8 :: o9 :: o10 :: o11 :: o12 :: o13 :: o14 :: (.ref y15) :: (.int y16) :: tl)) :: X) (Ti D cs (fun r u => u = (T, y1 :: a0 :: O, (y1, .inl (cs.2.1, 3906, .inl f1)) :: (a0, .inr (12, o0 :: (.ref y1) :: o2 :: o3 :: o4 :: o5 :: o6 :: o7 :: o8 :: o9 :: o10 :: o11 :: o12 :: o13 :: o14 :: (.ref y15) :: (.int y16) :: tl)) :: X) ∧ 0 ≤ r.toInt ∧ r.toInt ≤ 16383 ∧ (r = f1 4 ||| f1 5))) := by
  refine tk_of (by decide) (Nat.le_of_ble_eq_true rfl) (fun p e s m below meth c ls A H locs hx hb hr hml hown hts hlocks hnm hkb hH hS hA hOX hks hE hl => ?_)
  have hown : s.vm.findClass RX12 = some m.cls := hown
  have hl : lv_has ls 1 [(0, .ref a0)] := hl
  have hOXf := hOX
  refine lv_aload_n hx hb dX12_ends_0 rfl (lv_at hl 0 rfl) ?_
  refine x_getk (ci := 12) (C := RX12) (F := TX12) (N := 36) (v := .ref y1) hx hb hts uX12 hown hkb hH 1 rfl rfl 1 (by decide) rfl kw_1224 (fun _ h9 => h9) dX12_ends_1 ?_
  refine lv_iconst (v := 4) hx hb dX12_ends_4 (by decide) ?_
  refine xa_ild hx hb hkb hH 0 rfl (by decide) (by decide) dX12_ends_5 ?_
  refine lv_topi (fun v5 ev5 => ?_)
  have tv5 : v5 = f1 4 := by rw [ev5]; rfl
  have bv5 : 0 ≤ v5.toInt ∧ v5.toInt ≤ 16383 := by rw [ev5]; exact (s_f1.at (by decide) 4).2.2.1 (by decide)
  refine lv_aload_n hx hb dX12_ends_6 rfl (lv_at hl 0 rfl) ?_
  refine x_getk (ci := 12) (C := RX12) (F := TX12) (N := 36) (v := .ref y1) hx hb hts uX12 hown hkb hH 1 rfl rfl 1 (by decide) rfl kw_1224 (fun _ h9 => h9) dX12_ends_7 ?_
  refine lv_iconst (v := 5) hx hb dX12_ends_10 (by decide) ?_
  refine xa_ild hx hb hkb hH 0 rfl (by decide) (by decide) dX12_ends_11 ?_
  refine lv_topi (fun v11 ev11 => ?_)
  have tv11 : v11 = f1 5 := by rw [ev11]; rfl
  have bv11 : 0 ≤ v11.toInt ∧ v11.toInt ≤ 16383 := by rw [ev11]; exact (s_f1.at (by decide) 5).2.2.2.1 (by decide)
  refine lv_ior hx hb dX12_ends_12 ?_
  refine lv_topi (fun v12 ev12 => ?_)
  have tv12 : 0 ≤ v12.toInt ∧ v12.toInt < 16384 := by rw [ev12]; exact or_b 14 (by decide) (by omega) (by omega) (by omega) (by omega)
  exact te_i hx hb hr hlocks hH hS (⟨rfl, by omega, by omega, (by rw [ev12, tv5, tv11])⟩) dX12_ends_13
set_option maxHeartbeats 4000000 in
set_option maxRecDepth 100000 in
theorem s_M_thereSetF (l : Launch) (D : va_G) (cs : CS) (kf : KF) (T : TF) (O : List Nat) (X : va_W) (a0 hg mq : Nat) (f1 : Nat → Int32) (o0 : Value) (y1 : Nat) (o2 : Value) (o3 : Value) (o4 : Value) (o5 : Value) (o6 : Value) (o7 : Value) (o8 : Value) (o9 : Value) (o10 : Value) (o11 : Value) (o12 : Value) (o13 : Value) (o14 : Value) (y15 : Nat) (y16 : Int32) (tl : List Value) (t_a0 : T a0 = some (22, hg, mq)) (b_hg : hg < 90) (s_f1 : B8 3906 f1) (g_f1 : f1 1 = nI (hg / 6) ∧ f1 2 = nI (hg % 6)) (t_y1 : T y1 = some (8, 3906, hg)) (t_y15 : T y15 = some (1, 900, 0)) (hO : okO T (y1 :: a0 :: O) []) : TK l D cs kf yX12_thereSet cX12_thereSet 3 (some (.int)) { frames := 2, cells := 0, slots := 0, locals := 43 } [.ref a0] T (y1 :: a0 :: O) ((y1, .inl (cs.2.1, 3906, .inl f1)) :: (a0, .inr (12, o0 :: (.ref y1) :: o2 :: o3 :: o4 :: o5 :: o6 :: o7 :: o8 :: o9 :: o10 :: o11 :: o12 :: o13 :: o14 :: (.ref y15) :: (.int y16) :: tl)) :: X) (Ti D cs (fun r u => u = (T, y1 :: a0 :: O, (y1, .inl (cs.2.1, 3906, .inl f1)) :: (a0, .inr (12, o0 :: (.ref y1) :: o2 :: o3 :: o4 :: o5 :: o6 :: o7 :: o8 :: o9 :: o10 :: o11 :: o12 :: o13 :: o14 :: (.ref y15) :: (.int y16) :: tl)) :: X) ∧ 0 ≤ r.toInt ∧ r.toInt ≤ 16383 ∧ (r = thS f1 (hg / 6)))) := by
  refine tk_of (by decide) (Nat.le_of_ble_eq_true rfl) (fun p e s m below meth c ls A H locs hx hb hr hml hown hts hlocks hnm hkb hH hS hA hOX hks hE hl => ?_)
  have hown : s.vm.findClass RX12 = some m.cls := hown
  have hl : lv_has ls 3 [(0, .ref a0)] := hl
  have hOXf := hOX
  refine lv_iconst (v := 0) hx hb dX12_thereSet_0 (by decide) ?_
  refine lv_istore_n (lv' := [(1, .int 0), (0, .ref a0)]) hx hb dX12_thereSet_1 rfl hl (by decide) rfl (fun ls hl => ?_)
  refine lv_iconst (v := 0) hx hb dX12_thereSet_2 (by decide) ?_
  have J4 : ∀ (n : Nat) (p4_2 : Int32) (p4_1 : Int32) (H : Heap) (locs : List Loc) (ls : Array Slot), (14 - p4_2.toInt).toNat = n → (0 ≤ p4_2.toInt) → (p4_2.toInt ≤ 14) → (0 ≤ p4_1.toInt) → (p4_1.toInt ≤ 16383) → (p4_1 = thS f1 p4_2.toInt.toNat) → (p4_2.toInt ≤ ((hg / 6 : Nat) : Int)) → HT D cs A T (y1 :: a0 :: O) ((y1, .inl (cs.2.1, 3906, .inl f1)) :: (a0, .inr (12, o0 :: (.ref y1) :: o2 :: o3 :: o4 :: o5 :: o6 :: o7 :: o8 :: o9 :: o10 :: o11 :: o12 :: o13 :: o14 :: (.ref y15) :: (.int y16) :: tl)) :: X) H → va_S A s.heap H locs → lv_has ls 3 [(2, .int p4_2), (1, .int p4_1), (0, .ref a0)] → W p l e { frames := 2, cells := 0, slots := 0, locals := 43 } s m [.ref a0].toArray below meth c H locs 0 0 (MQ below (Ti D cs (fun r u => u = (T, y1 :: a0 :: O, (y1, .inl (cs.2.1, 3906, .inl f1)) :: (a0, .inr (12, o0 :: (.ref y1) :: o2 :: o3 :: o4 :: o5 :: o6 :: o7 :: o8 :: o9 :: o10 :: o11 :: o12 :: o13 :: o14 :: (.ref y15) :: (.int y16) :: tl)) :: X) ∧ 0 ≤ r.toInt ∧ r.toInt ≤ 16383 ∧ (r = thS f1 (hg / 6))) A) [.ref a0].toArray s 0 0 A) (F0 m 4 ls []) := by
    intro n
    induction n using Nat.strongRecOn with
    | _ n ih4 =>
      intro p4_2 p4_1 H locs ls hm4 l_p4_2 u_p4_2 l_p4_1 u_p4_1 i4 j4 hH hS hl
      refine lv_iload_n hx hb dX12_thereSet_4 rfl (lv_at hl 0 rfl) ?_
      refine lv_aload_n hx hb dX12_thereSet_5 rfl (lv_at hl 2 rfl) ?_
      refine x_getk (ci := 12) (C := RX12) (F := TX12) (N := 36) (v := .ref y1) hx hb hts uX12 hown hkb hH 1 rfl rfl 1 (by decide) rfl kw_1224 (fun _ h9 => h9) dX12_thereSet_6 ?_
      refine lv_iconst (v := 1) hx hb dX12_thereSet_9 (by decide) ?_
      refine xa_ild hx hb hkb hH 0 rfl (by decide) (by decide) dX12_thereSet_10 ?_
      refine lv_topi (fun v10 ev10 => ?_)
      have tv10 : v10 = f1 1 := by rw [ev10]; rfl
      have bv10 : 0 ≤ v10.toInt ∧ v10.toInt ≤ 14 := by rw [ev10]; exact (s_f1.at (by decide) 1).1 (by decide)
      have hv10 : v10.toInt = ((hg / 6 : Nat) : Int) := by rw [tv10, g_f1.1]; exact nI_toInt (by omega)
      refine lv_icmp_ge (tgt := 38) hx hb dX12_thereSet_11 (by decide) (fun c11 => ?_) (fun c11 => ?_)
      · skip
        have fuc11 := full_i p4_2
        have fvc11 := full_i v10
        have tc11 := g_le c11
        refine lv_iload_n hx hb dX12_thereSet_38 rfl (lv_at hl 1 rfl) ?_
        exact te_i hx hb hr hlocks hH hS (⟨rfl, by omega, by omega, (by rw [i4, show p4_2.toInt.toNat = hg / 6 by omega])⟩) dX12_thereSet_39
      · skip
        have fuc11 := full_i p4_2
        have fvc11 := full_i v10
        have tc11 := g_nle c11
        refine lv_iload_n hx hb dX12_thereSet_14 rfl (lv_at hl 1 rfl) ?_
        refine lv_aload_n hx hb dX12_thereSet_15 rfl (lv_at hl 2 rfl) ?_
        refine lv_iload_n hx hb dX12_thereSet_16 rfl (lv_at hl 0 rfl) ?_
        refine tk_i hH hS hA (tr_V (n := 1) (As := [.int p4_2]) hx hb hml hown hts hkb hH (ox_map hOX rfl) hks hE hS hA (s_M_isThereF l D cs kf T O X a0 hg mq p4_2 f1 o0 y1 o2 o3 o4 o5 o6 o7 o8 o9 o10 o11 o12 o13 o14 y15 y16 tl t_a0 b_hg (by omega) (by omega) s_f1 g_f1 t_y1 t_y15 (hO.sub (by decide))) kw_1458 kw_1460 ks_65 kw_13 kw_1461 (by decide +kernel) ⟨Nat.le_of_ble_eq_true rfl, Nat.le_of_ble_eq_true rfl⟩ (x_recv (ci := 12) hkb hH 1 rfl rfl) rfl rfl hl.1 (Nat.le_of_ble_eq_true rfl) dX12_thereSet_17 ⟨Nat.le_of_ble_eq_true rfl, Nat.le_of_ble_eq_true rfl⟩) (fun v17 u H locs hz9 hH hS => ?_)
        obtain ⟨rfl, l_v17, u_v17, x_v170⟩ := hz9
        have hH : HT D cs A T (y1 :: a0 :: O) ((y1, .inl (cs.2.1, 3906, .inl f1)) :: (a0, .inr (12, o0 :: (.ref y1) :: o2 :: o3 :: o4 :: o5 :: o6 :: o7 :: o8 :: o9 :: o10 :: o11 :: o12 :: o13 :: o14 :: (.ref y15) :: (.int y16) :: tl)) :: X) H := hH
        refine W.widen (k := 0) (n := 0) (Nat.le_of_ble_eq_true rfl) (Nat.le_of_ble_eq_true rfl) ?_
        refine lv_if_eq (tgt := 29) hx hb dX12_thereSet_20 (by decide) (fun c20 => ?_) (fun c20 => ?_)
        · skip
          have tc20 := f_eq (k := 0) (by decide) c20
          refine lv_iconst (v := 0) hx hb dX12_thereSet_29 (by decide) ?_
          refine lv_ior hx hb dX12_thereSet_30 ?_
          refine lv_topi (fun v30 ev30 => ?_)
          have tv30 : 0 ≤ v30.toInt ∧ v30.toInt < 16384 := by rw [ev30]; exact or_b 14 (by decide) (by omega) (by decide) (by omega) (by decide)
          refine lv_istore_n (lv' := [(1, .int v30), (2, .int p4_2), (0, .ref a0)]) hx hb dX12_thereSet_31 rfl hl (by decide) rfl (fun ls hl => ?_)
          obtain ⟨v32, ev32⟩ : ∃ y : Int32, y = p4_2 + 1 := ⟨_, rfl⟩
          have tv32 : v32.toInt = p4_2.toInt + (1) := by rw [ev32]; exact add_i rfl (by decide) (by omega) (by omega)
          refine lv_iinc (v := v32) (lv' := [(2, .int v32), (1, .int v30), (0, .ref a0)]) hx hb dX12_thereSet_32 hl (k := 1) rfl (by rw [ev32]; rfl) (by decide) rfl (fun ls hl => ?_)
          refine lv_goto (tgt := 4) hx hb dX12_thereSet_35 (by decide) ?_
          exact ih4 _ (by omega) v32 v30 _ _ _ rfl (by omega) (by omega) (by omega) (by omega) (by first | (refine thS_n i4 ?_ x_v170 (Or.inr ⟨?_, ev25⟩) ev30 tv32 <;> omega) | (refine thS_n i4 ?_ x_v170 (Or.inl ⟨?_, rfl⟩) ev30 tv32 <;> omega) | (rw [show ((0 : Int32).toInt.toNat) = 0 by decide]; rfl)) (by omega) hH hS (lv_sub hl [0, 1, 2] rfl)
        · skip
          have tc20 := f_ne (k := 0) (by decide) c20
          refine lv_iconst (v := 1) hx hb dX12_thereSet_23 (by decide) ?_
          refine lv_iload_n hx hb dX12_thereSet_24 rfl (lv_at hl 0 rfl) ?_
          refine lv_ishl hx hb dX12_thereSet_25 ?_
          refine lv_topi (fun v25 ev25 => ?_)
          have tv25 : 1 ≤ v25.toInt ∧ v25.toInt ≤ 8192 := by rw [ev25]; exact shl_b 13 (by decide) (by omega) (by omega)
          refine lv_goto (tgt := 30) hx hb dX12_thereSet_26 (by decide) ?_
          refine lv_ior hx hb dX12_thereSet_30 ?_
          refine lv_topi (fun v30 ev30 => ?_)
          have tv30 : 0 ≤ v30.toInt ∧ v30.toInt < 16384 := by rw [ev30]; exact or_b 14 (by decide) (by omega) (by omega) (by omega) (by omega)
          refine lv_istore_n (lv' := [(1, .int v30), (2, .int p4_2), (0, .ref a0)]) hx hb dX12_thereSet_31 rfl hl (by decide) rfl (fun ls hl => ?_)
          obtain ⟨v32, ev32⟩ : ∃ y : Int32, y = p4_2 + 1 := ⟨_, rfl⟩
          have tv32 : v32.toInt = p4_2.toInt + (1) := by rw [ev32]; exact add_i rfl (by decide) (by omega) (by omega)
          refine lv_iinc (v := v32) (lv' := [(2, .int v32), (1, .int v30), (0, .ref a0)]) hx hb dX12_thereSet_32 hl (k := 1) rfl (by rw [ev32]; rfl) (by decide) rfl (fun ls hl => ?_)
          refine lv_goto (tgt := 4) hx hb dX12_thereSet_35 (by decide) ?_
          exact ih4 _ (by omega) v32 v30 _ _ _ rfl (by omega) (by omega) (by omega) (by omega) (by first | (refine thS_n i4 ?_ x_v170 (Or.inr ⟨?_, ev25⟩) ev30 tv32 <;> omega) | (refine thS_n i4 ?_ x_v170 (Or.inl ⟨?_, rfl⟩) ev30 tv32 <;> omega) | (rw [show ((0 : Int32).toInt.toNat) = 0 by decide]; rfl)) (by omega) hH hS (lv_sub hl [0, 1, 2] rfl)
  refine lv_istore_n (lv' := [(2, .int 0), (1, .int 0), (0, .ref a0)]) hx hb dX12_thereSet_3 rfl hl (by decide) rfl (fun ls hl => ?_)
  have z_0 : (0 : Int32).toInt = 0 := by decide
  exact J4 _ 0 0 _ _ _ rfl (by decide) (by decide) (by decide) (by decide) (by first | (refine thS_n i4 ?_ x_v170 (Or.inr ⟨?_, ev25⟩) ev30 tv32 <;> omega) | (refine thS_n i4 ?_ x_v170 (Or.inl ⟨?_, rfl⟩) ev30 tv32 <;> omega) | (rw [show ((0 : Int32).toInt.toNat) = 0 by decide]; rfl)) (by omega) hH hS (lv_sub hl [0, 1, 2] rfl)
set_option maxHeartbeats 4000000 in
set_option maxRecDepth 100000 in
theorem s_M_isSetOfX (l : Launch) (D : va_G) (cs : CS) (kf : KF) (T : TF) (O : List Nat) (X : va_W) (a0 hg mq : Nat) (x1 : Int32) (f1 : Nat → Int32) (o0 : Value) (y1 : Nat) (o2 : Value) (o3 : Value) (o4 : Value) (o5 : Value) (o6 : Value) (o7 : Value) (o8 : Value) (o9 : Value) (o10 : Value) (o11 : Value) (o12 : Value) (o13 : Value) (o14 : Value) (y15 : Nat) (y16 : Int32) (tl : List Value) (t_a0 : T a0 = some (22, hg, mq)) (b_hg : hg < 90) (s_f1 : B8 3906 f1) (g_f1 : f1 1 = nI (hg / 6) ∧ f1 2 = nI (hg % 6)) (t_y1 : T y1 = some (8, 3906, hg)) (t_y15 : T y15 = some (1, 900, 0)) (hO : okO T (y1 :: a0 :: O) []) : TK l D cs kf yX12_isSetOf cX12_isSetOf 2 (some (.boolean)) { frames := 3, cells := 0, slots := 0, locals := 65 } [.ref a0, .int x1] T (y1 :: a0 :: O) ((y1, .inl (cs.2.1, 3906, .inl f1)) :: (a0, .inr (12, o0 :: (.ref y1) :: o2 :: o3 :: o4 :: o5 :: o6 :: o7 :: o8 :: o9 :: o10 :: o11 :: o12 :: o13 :: o14 :: (.ref y15) :: (.int y16) :: tl)) :: X) (Ti D cs (fun r u => u = (T, y1 :: a0 :: O, (y1, .inl (cs.2.1, 3906, .inl f1)) :: (a0, .inr (12, o0 :: (.ref y1) :: o2 :: o3 :: o4 :: o5 :: o6 :: o7 :: o8 :: o9 :: o10 :: o11 :: o12 :: o13 :: o14 :: (.ref y15) :: (.int y16) :: tl)) :: X) ∧ 0 ≤ r.toInt ∧ r.toInt ≤ 1 ∧ (r.toInt = 0 ∨ (0 ≤ x1.toInt ∧ x1.toInt ≤ 16383)))) := by
  refine tk_of (by decide) (Nat.le_of_ble_eq_true rfl) (fun p e s m below meth c ls A H locs hx hb hr hml hown hts hlocks hnm hkb hH hS hA hOX hks hE hl => ?_)
  have hown : s.vm.findClass RX12 = some m.cls := hown
  have hl : lv_has ls 2 [(0, .ref a0), (1, .int x1)] := hl
  have hOXf := hOX
  refine lv_iload_n hx hb dX12_isSetOf_0 rfl (lv_at hl 1 rfl) ?_
  refine lv_aload_n hx hb dX12_isSetOf_1 rfl (lv_at hl 0 rfl) ?_
  refine tk_i hH hS hA (tr_V (n := 0) (As := []) hx hb hml hown hts hkb hH (ox_map hOX rfl) hks hE hS hA (s_M_thereSetF l D cs kf T O X a0 hg mq f1 o0 y1 o2 o3 o4 o5 o6 o7 o8 o9 o10 o11 o12 o13 o14 y15 y16 tl t_a0 b_hg s_f1 g_f1 t_y1 t_y15 (hO.sub (by decide))) kw_1724 kw_1726 ks_99 kw_13 kw_1727 (by decide +kernel) ⟨Nat.le_of_ble_eq_true rfl, Nat.le_of_ble_eq_true rfl⟩ (x_recv (ci := 12) hkb hH 1 rfl rfl) rfl rfl hl.1 (Nat.le_of_ble_eq_true rfl) dX12_isSetOf_2 ⟨Nat.le_of_ble_eq_true rfl, Nat.le_of_ble_eq_true rfl⟩) (fun v2 u H locs hz9 hH hS => ?_)
  obtain ⟨rfl, l_v2, u_v2, x_v20⟩ := hz9
  have hH : HT D cs A T (y1 :: a0 :: O) ((y1, .inl (cs.2.1, 3906, .inl f1)) :: (a0, .inr (12, o0 :: (.ref y1) :: o2 :: o3 :: o4 :: o5 :: o6 :: o7 :: o8 :: o9 :: o10 :: o11 :: o12 :: o13 :: o14 :: (.ref y15) :: (.int y16) :: tl)) :: X) H := hH
  refine W.widen (k := 0) (n := 0) (Nat.le_of_ble_eq_true rfl) (Nat.le_of_ble_eq_true rfl) ?_
  refine lv_aload_n hx hb dX12_isSetOf_5 rfl (lv_at hl 0 rfl) ?_
  refine tk_i hH hS hA (tr_V (n := 0) (As := []) hx hb hml hown hts hkb hH (ox_map hOX rfl) hks hE hS hA (s_M_endsF l D cs kf T O X a0 hg mq f1 o0 y1 o2 o3 o4 o5 o6 o7 o8 o9 o10 o11 o12 o13 o14 y15 y16 tl t_a0 b_hg s_f1 g_f1 t_y1 t_y15 (hO.sub (by decide))) kw_1536 kw_1538 ks_78 kw_13 kw_1539 (by decide +kernel) ⟨Nat.le_of_ble_eq_true rfl, Nat.le_of_ble_eq_true rfl⟩ (x_recv (ci := 12) hkb hH 1 rfl rfl) rfl rfl hl.1 (Nat.le_of_ble_eq_true rfl) dX12_isSetOf_6 ⟨Nat.le_of_ble_eq_true rfl, Nat.le_of_ble_eq_true rfl⟩) (fun v6 u H locs hz9 hH hS => ?_)
  obtain ⟨rfl, l_v6, u_v6, x_v60⟩ := hz9
  have hH : HT D cs A T (y1 :: a0 :: O) ((y1, .inl (cs.2.1, 3906, .inl f1)) :: (a0, .inr (12, o0 :: (.ref y1) :: o2 :: o3 :: o4 :: o5 :: o6 :: o7 :: o8 :: o9 :: o10 :: o11 :: o12 :: o13 :: o14 :: (.ref y15) :: (.int y16) :: tl)) :: X) H := hH
  refine W.widen (k := 0) (n := 0) (Nat.le_of_ble_eq_true rfl) (Nat.le_of_ble_eq_true rfl) ?_
  refine lv_iconst (v := (-1)) hx hb dX12_isSetOf_9 (by decide) ?_
  refine lv_ixor hx hb dX12_isSetOf_10 ?_
  refine lv_topi (fun v10 ev10 => ?_)
  refine lv_iand hx hb dX12_isSetOf_11 ?_
  refine lv_topi (fun v11 ev11 => ?_)
  have tv11 : 0 ≤ v11.toInt ∧ v11.toInt ≤ v2.toInt := by rw [ev11]; exact and_l (by omega)
  refine lv_iconst (v := (-1)) hx hb dX12_isSetOf_12 (by decide) ?_
  refine lv_ixor hx hb dX12_isSetOf_13 ?_
  refine lv_topi (fun v13 ev13 => ?_)
  refine lv_iand hx hb dX12_isSetOf_14 ?_
  refine lv_topi (fun v14 ev14 => ?_)
  refine lv_if_ne (tgt := 22) hx hb dX12_isSetOf_15 (by decide) (fun c15 => ?_) (fun c15 => ?_)
  · skip
    have tc15 := f_ne (k := 0) (by decide) c15
    refine lv_iconst (v := 0) hx hb dX12_isSetOf_22 (by decide) ?_
    have z9_0 : (0 : Int32).toInt = 0 := by decide
    exact te_z hx hb hr hlocks (by rfl) hH hS (⟨rfl, by decide, by decide, (Or.inl (by decide))⟩) dX12_isSetOf_23
  · skip
    have tc15 := f_eq (k := 0) (by decide) c15
    refine lv_iconst (v := 1) hx hb dX12_isSetOf_18 (by decide) ?_
    refine lv_goto (tgt := 23) hx hb dX12_isSetOf_19 (by decide) ?_
    have z9_1 : (1 : Int32).toInt = 1 := by decide
    exact te_z hx hb hr hlocks (by rfl) hH hS (⟨rfl, by decide, by decide, (Or.inr (by have q9 := sub_lim ev13 ev14 (by omega) (by omega); omega))⟩) dX12_isSetOf_23
set_option maxHeartbeats 4000000 in
set_option maxRecDepth 100000 in
theorem s_M_moreByX (l : Launch) (D : va_G) (cs : CS) (kf : KF) (T : TF) (O : List Nat) (X : va_W) (a0 hg mq : Nat) (x1 : Int32) (x2 : Int32) (f1 : Nat → Int32) (o0 : Value) (y1 : Nat) (o2 : Value) (o3 : Value) (o4 : Value) (o5 : Value) (o6 : Value) (o7 : Value) (o8 : Value) (o9 : Value) (o10 : Value) (o11 : Value) (o12 : Value) (o13 : Value) (o14 : Value) (y15 : Nat) (y16 : Int32) (y17 : Nat) (o18 : Value) (o19 : Value) (o20 : Value) (o21 : Value) (o22 : Value) (o23 : Value) (o24 : Value) (o25 : Value) (o26 : Value) (o27 : Value) (y28 : Nat) (tl : List Value) (f28 : Nat → Int32) (f17 : Nat → Int32) (t_a0 : T a0 = some (22, hg, mq)) (b_hg : hg < 90) (l_x1 : 0 ≤ x1.toInt) (u_x1 : x1.toInt ≤ 16383) (l_x2 : 0 ≤ x2.toInt) (u_x2 : x2.toInt ≤ 13) (s_f1 : B8 3906 f1) (g_f1 : f1 1 = nI (hg / 6) ∧ f1 2 = nI (hg % 6)) (t_y1 : T y1 = some (8, 3906, hg)) (t_y15 : T y15 = some (1, 900, 0)) (t_y17 : T y17 = some (9, 14, 1)) (t_y28 : T y28 = some (0, 229376, 0)) (hO : okO T (y1 :: a0 :: y28 :: y17 :: O) []) : TK l D cs kf yX12_moreBy cX12_moreBy 3 (some (.int)) { frames := 0, cells := 0, slots := 0, locals := 0 } [.ref a0, .int x1, .int x2] T (y1 :: a0 :: y28 :: y17 :: O) ((y1, .inl (cs.2.1, 3906, .inl f1)) :: (a0, .inr (12, o0 :: (.ref y1) :: o2 :: o3 :: o4 :: o5 :: o6 :: o7 :: o8 :: o9 :: o10 :: o11 :: o12 :: o13 :: o14 :: (.ref y15) :: (.int y16) :: (.ref y17) :: o18 :: o19 :: o20 :: o21 :: o22 :: o23 :: o24 :: o25 :: o26 :: o27 :: (.ref y28) :: tl)) :: (y28, .inl (cs.1, 229376, .inl f28)) :: (y17, .inl (cs.2.1, 14, .inl f17)) :: X) (Ti D cs (fun r u => u = (T, y1 :: a0 :: y28 :: y17 :: O, (y1, .inl (cs.2.1, 3906, .inl f1)) :: (a0, .inr (12, o0 :: (.ref y1) :: o2 :: o3 :: o4 :: o5 :: o6 :: o7 :: o8 :: o9 :: o10 :: o11 :: o12 :: o13 :: o14 :: (.ref y15) :: (.int y16) :: (.ref y17) :: o18 :: o19 :: o20 :: o21 :: o22 :: o23 :: o24 :: o25 :: o26 :: o27 :: (.ref y28) :: tl)) :: (y28, .inl (cs.1, 229376, .inl f28)) :: (y17, .inl (cs.2.1, 14, .inl f17)) :: X) ∧ (r = f28 (14 * x1.toInt.toNat + x2.toInt.toNat)))) := by
  refine tk_of (by decide) (Nat.le_of_ble_eq_true rfl) (fun p e s m below meth c ls A H locs hx hb hr hml hown hts hlocks hnm hkb hH hS hA hOX hks hE hl => ?_)
  have hown : s.vm.findClass RX12 = some m.cls := hown
  have hl : lv_has ls 3 [(0, .ref a0), (1, .int x1), (2, .int x2)] := hl
  have hOXf := hOX
  refine lv_aload_n hx hb dX12_moreBy_0 rfl (lv_at hl 0 rfl) ?_
  refine x_getk (ci := 12) (C := RX12) (F := TX12) (N := 36) (v := .ref y28) hx hb hts uX12 hown hkb hH 1 rfl rfl 28 (by decide) rfl kw_1251 (fun _ h9 => h9) dX12_moreBy_1 ?_
  refine lv_bipush (v := 14) hx hb dX12_moreBy_4 (by decide) ?_
  refine lv_iload_n hx hb dX12_moreBy_6 rfl (lv_at hl 1 rfl) ?_
  refine lv_imul hx hb dX12_moreBy_7 ?_
  refine lv_topi (fun v7 ev7 => ?_)
  have tv7 : v7.toInt = (14) * x1.toInt := by rw [ev7]; exact mul_i (by decide : (14 : Int32).toInt = 14) rfl (by omega) (by omega)
  refine lv_iload_n hx hb dX12_moreBy_8 rfl (lv_at hl 2 rfl) ?_
  refine lv_iadd hx hb dX12_moreBy_9 ?_
  refine lv_topi (fun v9 ev9 => ?_)
  have tv9 : v9.toInt = v7.toInt + x2.toInt := by rw [ev9]; exact add_i rfl rfl (by omega) (by omega)
  refine xa_bld hx hb hkb hH 2 rfl (by omega) (by omega) dX12_moreBy_10 ?_
  refine lv_topi (fun v10 ev10 => ?_)
  have tv10 : v10 = f28 v9.toInt.toNat := ev10
  exact te_i hx hb hr hlocks hH hS (⟨rfl, (by rw [tv10, show v9.toInt.toNat = 14 * x1.toInt.toNat + x2.toInt.toNat by omega])⟩) dX12_moreBy_11
set_option maxHeartbeats 4000000 in
set_option maxRecDepth 100000 in
theorem s_M_laysStepsX (l : Launch) (D : va_G) (cs : CS) (kf : KF) (T : TF) (O : List Nat) (X : va_W) (a0 hg mq : Nat) (x1 : Int32) (x2 : Int32) (f1 : Nat → Int32) (o0 : Value) (y1 : Nat) (o2 : Value) (o3 : Value) (o4 : Value) (o5 : Value) (o6 : Value) (o7 : Value) (o8 : Value) (o9 : Value) (o10 : Value) (o11 : Value) (o12 : Value) (o13 : Value) (o14 : Value) (y15 : Nat) (y16 : Int32) (y17 : Nat) (o18 : Value) (o19 : Value) (o20 : Value) (o21 : Value) (o22 : Value) (o23 : Value) (o24 : Value) (o25 : Value) (o26 : Value) (o27 : Value) (y28 : Nat) (tl : List Value) (f28 : Nat → Int32) (f17 : Nat → Int32) (t_a0 : T a0 = some (22, hg, mq)) (b_hg : hg < 90) (l_x1 : 0 ≤ x1.toInt) (u_x1 : x1.toInt ≤ 4) (s_f1 : B8 3906 f1) (g_f1 : f1 1 = nI (hg / 6) ∧ f1 2 = nI (hg % 6)) (t_y1 : T y1 = some (8, 3906, hg)) (t_y15 : T y15 = some (1, 900, 0)) (t_y17 : T y17 = some (9, 14, 1)) (t_y28 : T y28 = some (0, 229376, 0)) (c_f17 : ∀ j, cp 1 (f17 j)) (hO : okO T (y1 :: a0 :: y28 :: y17 :: O) [1]) : TK l D cs kf yX12_laysSteps cX12_laysSteps 5 none { frames := 3, cells := 0, slots := 0, locals := 74 } [.ref a0, .int x1, .int x2] T (y1 :: a0 :: y28 :: y17 :: O) ((y1, .inl (cs.2.1, 3906, .inl f1)) :: (a0, .inr (12, o0 :: (.ref y1) :: o2 :: o3 :: o4 :: o5 :: o6 :: o7 :: o8 :: o9 :: o10 :: o11 :: o12 :: o13 :: o14 :: (.ref y15) :: (.int y16) :: (.ref y17) :: o18 :: o19 :: o20 :: o21 :: o22 :: o23 :: o24 :: o25 :: o26 :: o27 :: (.ref y28) :: tl)) :: (y28, .inl (cs.1, 229376, .inl f28)) :: (y17, .inl (cs.2.1, 14, .inl f17)) :: X) (Tv D cs (fun u => ∃ (n1_16 : Int32) (G3 : Nat → Int32), u = (T, y1 :: a0 :: y28 :: y17 :: O, (y1, .inl (cs.2.1, 3906, .inl f1)) :: (a0, .inr (12, o0 :: (.ref y1) :: o2 :: o3 :: o4 :: o5 :: o6 :: o7 :: o8 :: o9 :: o10 :: o11 :: o12 :: o13 :: o14 :: (.ref y15) :: (.int n1_16) :: (.ref y17) :: o18 :: o19 :: o20 :: o21 :: o22 :: o23 :: o24 :: o25 :: o26 :: o27 :: (.ref y28) :: tl)) :: (y28, .inl (cs.1, 229376, .inl f28)) :: (y17, .inl (cs.2.1, 14, .inl G3)) :: X) ∧ (∀ j, cp 1 (G3 j)))) := by
  refine tk_of (by decide) (Nat.le_of_ble_eq_true rfl) (fun p e s m below meth c ls A H locs hx hb hr hml hown hts hlocks hnm hkb hH hS hA hOX hks hE hl => ?_)
  have hown : s.vm.findClass RX12 = some m.cls := hown
  have hl : lv_has ls 5 [(0, .ref a0), (1, .int x1), (2, .int x2)] := hl
  have hOXf := hOX
  refine lv_aload_n hx hb dX12_laysSteps_0 rfl (lv_at hl 0 rfl) ?_
  refine lv_iload_n hx hb dX12_laysSteps_1 rfl (lv_at hl 2 rfl) ?_
  refine x_putk (ci := 12) (v := .int x2) (ty := tyX12 16) (C := RX12) (F := TX12) (N := 36) hx hb hts uX12 tyX12 tyX12_ok nmX12 hown hkb hH hS 1 rfl rfl 16 (by decide) kw_1239 (fun _ h9 => h9) rfl (tyX12_ok 16 (by decide)) rfl rfl (by show 16 < tl.length + 29; omega) dX12_laysSteps_2 (fun H locs hH hS => ?_)
  have hH : HT D cs A T (y1 :: a0 :: y28 :: y17 :: O) ((y1, .inl (cs.2.1, 3906, .inl f1)) :: (a0, .inr (12, o0 :: (.ref y1) :: o2 :: o3 :: o4 :: o5 :: o6 :: o7 :: o8 :: o9 :: o10 :: o11 :: o12 :: o13 :: o14 :: (.ref y15) :: (.int x2) :: (.ref y17) :: o18 :: o19 :: o20 :: o21 :: o22 :: o23 :: o24 :: o25 :: o26 :: o27 :: (.ref y28) :: tl)) :: (y28, .inl (cs.1, 229376, .inl f28)) :: (y17, .inl (cs.2.1, 14, .inl f17)) :: X) H := hH
  refine lv_iconst (v := 0) hx hb dX12_laysSteps_5 (by decide) ?_
  have J7 : ∀ (n : Nat) (p7_3 : Int32) (g7_3 : Nat → Int32) (H : Heap) (locs : List Loc) (ls : Array Slot), (14 - p7_3.toInt).toNat = n → (0 ≤ p7_3.toInt) → (p7_3.toInt ≤ 14) → (∀ j, cp 1 (g7_3 j)) → HT D cs A T (y1 :: a0 :: y28 :: y17 :: O) ((y1, .inl (cs.2.1, 3906, .inl f1)) :: (a0, .inr (12, o0 :: (.ref y1) :: o2 :: o3 :: o4 :: o5 :: o6 :: o7 :: o8 :: o9 :: o10 :: o11 :: o12 :: o13 :: o14 :: (.ref y15) :: (.int x2) :: (.ref y17) :: o18 :: o19 :: o20 :: o21 :: o22 :: o23 :: o24 :: o25 :: o26 :: o27 :: (.ref y28) :: tl)) :: (y28, .inl (cs.1, 229376, .inl f28)) :: (y17, .inl (cs.2.1, 14, .inl g7_3)) :: X) H → va_S A s.heap H locs → lv_has ls 5 [(3, .int p7_3), (0, .ref a0), (1, .int x1)] → W p l e { frames := 3, cells := 0, slots := 0, locals := 74 } s m [.ref a0, .int x1, .int x2].toArray below meth c H locs 0 0 (MQ below (Tv D cs (fun u => ∃ (n1_16 : Int32) (G3 : Nat → Int32), u = (T, y1 :: a0 :: y28 :: y17 :: O, (y1, .inl (cs.2.1, 3906, .inl f1)) :: (a0, .inr (12, o0 :: (.ref y1) :: o2 :: o3 :: o4 :: o5 :: o6 :: o7 :: o8 :: o9 :: o10 :: o11 :: o12 :: o13 :: o14 :: (.ref y15) :: (.int n1_16) :: (.ref y17) :: o18 :: o19 :: o20 :: o21 :: o22 :: o23 :: o24 :: o25 :: o26 :: o27 :: (.ref y28) :: tl)) :: (y28, .inl (cs.1, 229376, .inl f28)) :: (y17, .inl (cs.2.1, 14, .inl G3)) :: X) ∧ (∀ j, cp 1 (G3 j))) A) [.ref a0, .int x1, .int x2].toArray s 0 0 A) (F0 m 7 ls []) := by
    intro n
    induction n using Nat.strongRecOn with
    | _ n ih7 =>
      intro p7_3 g7_3 H locs ls hm7 l_p7_3 u_p7_3 c7 hH hS hl
      refine lv_iload_n hx hb dX12_laysSteps_7 rfl (lv_at hl 0 rfl) ?_
      refine lv_aload_n hx hb dX12_laysSteps_8 rfl (lv_at hl 1 rfl) ?_
      refine x_getk (ci := 12) (C := RX12) (F := TX12) (N := 36) (v := .ref y1) hx hb hts uX12 hown hkb hH 1 rfl rfl 1 (by decide) rfl kw_1224 (fun _ h9 => h9) dX12_laysSteps_9 ?_
      refine lv_iconst (v := 1) hx hb dX12_laysSteps_12 (by decide) ?_
      refine xa_ild hx hb hkb hH 0 rfl (by decide) (by decide) dX12_laysSteps_13 ?_
      refine lv_topi (fun v13 ev13 => ?_)
      have tv13 : v13 = f1 1 := by rw [ev13]; rfl
      have bv13 : 0 ≤ v13.toInt ∧ v13.toInt ≤ 14 := by rw [ev13]; exact (s_f1.at (by decide) 1).1 (by decide)
      have hv13 : v13.toInt = ((hg / 6 : Nat) : Int) := by rw [tv13, g_f1.1]; exact nI_toInt (by omega)
      refine lv_icmp_ge (tgt := 94) hx hb dX12_laysSteps_14 (by decide) (fun c14 => ?_) (fun c14 => ?_)
      · skip
        have fuc14 := full_i p7_3
        have fvc14 := full_i v13
        have tc14 := g_le c14
        exact te_v hx hb hr hlocks hH hS (⟨x2, g7_3, rfl, c7⟩) dX12_laysSteps_94
      · skip
        have fuc14 := full_i p7_3
        have fvc14 := full_i v13
        have tc14 := g_nle c14
        refine lv_aload_n hx hb dX12_laysSteps_17 rfl (lv_at hl 1 rfl) ?_
        refine x_getk (ci := 12) (C := RX12) (F := TX12) (N := 36) (v := .ref y17) hx hb hts uX12 hown hkb hH 1 rfl rfl 17 (by decide) rfl kw_1240 (fun _ h9 => h9) dX12_laysSteps_18 ?_
        refine lv_iload_n hx hb dX12_laysSteps_21 rfl (lv_at hl 0 rfl) ?_
        refine lv_iconst (v := 0) hx hb dX12_laysSteps_22 (by decide) ?_
        refine xa_ist hx hb hkb hH hS 3 rfl (by omega) (by omega) dX12_laysSteps_23 (fun H locs hH hS => ?_)
        have hH : HT D cs A T (y1 :: a0 :: y28 :: y17 :: O) ((y1, .inl (cs.2.1, 3906, .inl f1)) :: (a0, .inr (12, o0 :: (.ref y1) :: o2 :: o3 :: o4 :: o5 :: o6 :: o7 :: o8 :: o9 :: o10 :: o11 :: o12 :: o13 :: o14 :: (.ref y15) :: (.int x2) :: (.ref y17) :: o18 :: o19 :: o20 :: o21 :: o22 :: o23 :: o24 :: o25 :: o26 :: o27 :: (.ref y28) :: tl)) :: (y28, .inl (cs.1, 229376, .inl f28)) :: (y17, .inl (cs.2.1, 14, .inl (upd g7_3 (p7_3.toInt.toNat) (0 : Int32)))) :: X) H := hH
        obtain ⟨F23, eF23⟩ : ∃ f9, f9 = upd g7_3 (p7_3.toInt.toNat) (0 : Int32) := ⟨_, rfl⟩
        have hH : HT D cs A T (y1 :: a0 :: y28 :: y17 :: O) ((y1, .inl (cs.2.1, 3906, .inl f1)) :: (a0, .inr (12, o0 :: (.ref y1) :: o2 :: o3 :: o4 :: o5 :: o6 :: o7 :: o8 :: o9 :: o10 :: o11 :: o12 :: o13 :: o14 :: (.ref y15) :: (.int x2) :: (.ref y17) :: o18 :: o19 :: o20 :: o21 :: o22 :: o23 :: o24 :: o25 :: o26 :: o27 :: (.ref y28) :: tl)) :: (y28, .inl (cs.1, 229376, .inl f28)) :: (y17, .inl (cs.2.1, 14, .inl F23)) :: X) H := eF23 ▸ hH
        refine lv_iconst (v := 0) hx hb dX12_laysSteps_24 (by decide) ?_
        have J27 : ∀ (n : Nat) (p27_4 : Int32) (g27_3 : Nat → Int32) (H : Heap) (locs : List Loc) (ls : Array Slot), (14 - p27_4.toInt).toNat = n → (0 ≤ p27_4.toInt) → (p27_4.toInt ≤ 14) → (∀ j, cp 1 (g27_3 j)) → HT D cs A T (y1 :: a0 :: y28 :: y17 :: O) ((y1, .inl (cs.2.1, 3906, .inl f1)) :: (a0, .inr (12, o0 :: (.ref y1) :: o2 :: o3 :: o4 :: o5 :: o6 :: o7 :: o8 :: o9 :: o10 :: o11 :: o12 :: o13 :: o14 :: (.ref y15) :: (.int x2) :: (.ref y17) :: o18 :: o19 :: o20 :: o21 :: o22 :: o23 :: o24 :: o25 :: o26 :: o27 :: (.ref y28) :: tl)) :: (y28, .inl (cs.1, 229376, .inl f28)) :: (y17, .inl (cs.2.1, 14, .inl g27_3)) :: X) H → va_S A s.heap H locs → lv_has ls 5 [(4, .int p27_4), (3, .int p7_3), (0, .ref a0), (1, .int x1)] → W p l e { frames := 3, cells := 0, slots := 0, locals := 74 } s m [.ref a0, .int x1, .int x2].toArray below meth c H locs 0 0 (MQ below (Tv D cs (fun u => ∃ (n1_16 : Int32) (G3 : Nat → Int32), u = (T, y1 :: a0 :: y28 :: y17 :: O, (y1, .inl (cs.2.1, 3906, .inl f1)) :: (a0, .inr (12, o0 :: (.ref y1) :: o2 :: o3 :: o4 :: o5 :: o6 :: o7 :: o8 :: o9 :: o10 :: o11 :: o12 :: o13 :: o14 :: (.ref y15) :: (.int n1_16) :: (.ref y17) :: o18 :: o19 :: o20 :: o21 :: o22 :: o23 :: o24 :: o25 :: o26 :: o27 :: (.ref y28) :: tl)) :: (y28, .inl (cs.1, 229376, .inl f28)) :: (y17, .inl (cs.2.1, 14, .inl G3)) :: X) ∧ (∀ j, cp 1 (G3 j))) A) [.ref a0, .int x1, .int x2].toArray s 0 0 A) (F0 m 27 ls []) := by
          intro n
          induction n using Nat.strongRecOn with
          | _ n ih27 =>
            intro p27_4 g27_3 H locs ls hm27 l_p27_4 u_p27_4 c27 hH hS hl
            refine lv_iload hx hb dX12_laysSteps_27 (lv_at hl 0 rfl) ?_
            refine lv_aload_n hx hb dX12_laysSteps_29 rfl (lv_at hl 2 rfl) ?_
            refine x_getk (ci := 12) (C := RX12) (F := TX12) (N := 36) (v := .ref y1) hx hb hts uX12 hown hkb hH 1 rfl rfl 1 (by decide) rfl kw_1224 (fun _ h9 => h9) dX12_laysSteps_30 ?_
            refine lv_iconst (v := 1) hx hb dX12_laysSteps_33 (by decide) ?_
            refine xa_ild hx hb hkb hH 0 rfl (by decide) (by decide) dX12_laysSteps_34 ?_
            refine lv_topi (fun v34 ev34 => ?_)
            have tv34 : v34 = f1 1 := by rw [ev34]; rfl
            have bv34 : 0 ≤ v34.toInt ∧ v34.toInt ≤ 14 := by rw [ev34]; exact (s_f1.at (by decide) 1).1 (by decide)
            have hv34 : v34.toInt = ((hg / 6 : Nat) : Int) := by rw [tv34, g_f1.1]; exact nI_toInt (by omega)
            have J88 : ∀  (H : Heap) (locs : List Loc) (ls : Array Slot), HT D cs A T (y1 :: a0 :: y28 :: y17 :: O) ((y1, .inl (cs.2.1, 3906, .inl f1)) :: (a0, .inr (12, o0 :: (.ref y1) :: o2 :: o3 :: o4 :: o5 :: o6 :: o7 :: o8 :: o9 :: o10 :: o11 :: o12 :: o13 :: o14 :: (.ref y15) :: (.int x2) :: (.ref y17) :: o18 :: o19 :: o20 :: o21 :: o22 :: o23 :: o24 :: o25 :: o26 :: o27 :: (.ref y28) :: tl)) :: (y28, .inl (cs.1, 229376, .inl f28)) :: (y17, .inl (cs.2.1, 14, .inl g27_3)) :: X) H → va_S A s.heap H locs → lv_has ls 5 [(3, .int p7_3), (0, .ref a0), (1, .int x1)] → W p l e { frames := 3, cells := 0, slots := 0, locals := 74 } s m [.ref a0, .int x1, .int x2].toArray below meth c H locs 0 0 (MQ below (Tv D cs (fun u => ∃ (n1_16 : Int32) (G3 : Nat → Int32), u = (T, y1 :: a0 :: y28 :: y17 :: O, (y1, .inl (cs.2.1, 3906, .inl f1)) :: (a0, .inr (12, o0 :: (.ref y1) :: o2 :: o3 :: o4 :: o5 :: o6 :: o7 :: o8 :: o9 :: o10 :: o11 :: o12 :: o13 :: o14 :: (.ref y15) :: (.int n1_16) :: (.ref y17) :: o18 :: o19 :: o20 :: o21 :: o22 :: o23 :: o24 :: o25 :: o26 :: o27 :: (.ref y28) :: tl)) :: (y28, .inl (cs.1, 229376, .inl f28)) :: (y17, .inl (cs.2.1, 14, .inl G3)) :: X) ∧ (∀ j, cp 1 (G3 j))) A) [.ref a0, .int x1, .int x2].toArray s 0 0 A) (F0 m 88 ls []) := by
              intro  H locs ls  hH hS hl
              obtain ⟨v88, ev88⟩ : ∃ y : Int32, y = p7_3 + 1 := ⟨_, rfl⟩
              have tv88 : v88.toInt = p7_3.toInt + (1) := by rw [ev88]; exact add_i rfl (by decide) (by omega) (by omega)
              refine lv_iinc (v := v88) (lv' := [(3, .int v88), (0, .ref a0), (1, .int x1)]) hx hb dX12_laysSteps_88 hl (k := 0) rfl (by rw [ev88]; rfl) (by decide) rfl (fun ls hl => ?_)
              refine lv_goto (tgt := 7) hx hb dX12_laysSteps_91 (by decide) ?_
              exact ih7 _ (by omega) v88 g27_3 _ _ _ rfl (by omega) (by omega) (by first | exact c_f17 | exact c7 | exact c27 | exact c82 | (rw [eF23]; refine c1_put c7 ?_ ?_ <;> decide) | (rw [eF81]; refine c1_put c27 ?_ ?_ <;> omega)) hH hS (lv_sub hl [0, 1, 2] rfl)
            refine lv_icmp_ge (tgt := 88) hx hb dX12_laysSteps_35 (by decide) (fun c35 => ?_) (fun c35 => ?_)
            · skip
              have fuc35 := full_i p27_4
              have fvc35 := full_i v34
              have tc35 := g_le c35
              exact J88  _ _ _  hH hS (lv_sub hl [1, 2, 3] rfl)
            · skip
              have fuc35 := full_i p27_4
              have fvc35 := full_i v34
              have tc35 := g_nle c35
              refine lv_aload_n hx hb dX12_laysSteps_38 rfl (lv_at hl 2 rfl) ?_
              refine x_getk (ci := 12) (C := RX12) (F := TX12) (N := 36) (v := .ref y1) hx hb hts uX12 hown hkb hH 1 rfl rfl 1 (by decide) rfl kw_1224 (fun _ h9 => h9) dX12_laysSteps_39 ?_
              refine lv_iconst (v := 5) hx hb dX12_laysSteps_42 (by decide) ?_
              refine xa_ild hx hb hkb hH 0 rfl (by decide) (by decide) dX12_laysSteps_43 ?_
              refine lv_topi (fun v43 ev43 => ?_)
              have tv43 : v43 = f1 5 := by rw [ev43]; rfl
              have bv43 : 0 ≤ v43.toInt ∧ v43.toInt ≤ 16383 := by rw [ev43]; exact (s_f1.at (by decide) 5).2.2.2.1 (by decide)
              refine lv_i2l hx hb dX12_laysSteps_44 rfl ?_
              refine lv_iload_n hx hb dX12_laysSteps_45 rfl (lv_at hl 1 rfl) ?_
              refine tk_i hH hS hA (tr_S (n := 2) (As := [.long v43.toInt64, .int p7_3]) hx hb hml hown hts hkb hH (ox_map hOX rfl) hks hE hS hA (s_M_isIn2 l D cs kf T (y1 :: a0 :: y28 :: y17 :: O) ((y1, .inl (cs.2.1, 3906, .inl f1)) :: (a0, .inr (12, o0 :: (.ref y1) :: o2 :: o3 :: o4 :: o5 :: o6 :: o7 :: o8 :: o9 :: o10 :: o11 :: o12 :: o13 :: o14 :: (.ref y15) :: (.int x2) :: (.ref y17) :: o18 :: o19 :: o20 :: o21 :: o22 :: o23 :: o24 :: o25 :: o26 :: o27 :: (.ref y28) :: tl)) :: (y28, .inl (cs.1, 229376, .inl f28)) :: (y17, .inl (cs.2.1, 14, .inl g27_3)) :: X) v43.toInt64 p7_3  (hO.sub (by decide))) kw_1440 kw_1441 kw_13 kw_1442 (by decide +kernel) ⟨Nat.le_of_ble_eq_true rfl, Nat.le_of_ble_eq_true rfl⟩ rfl rfl hl.1 (Nat.le_of_ble_eq_true rfl) dX12_laysSteps_46 ⟨Nat.le_of_ble_eq_true rfl, Nat.le_of_ble_eq_true rfl⟩) (fun v46 u H locs hz9 hH hS => ?_)
              obtain ⟨rfl, l_v46, u_v46, x_v460⟩ := hz9
              have hH : HT D cs A T (y1 :: a0 :: y28 :: y17 :: O) ((y1, .inl (cs.2.1, 3906, .inl f1)) :: (a0, .inr (12, o0 :: (.ref y1) :: o2 :: o3 :: o4 :: o5 :: o6 :: o7 :: o8 :: o9 :: o10 :: o11 :: o12 :: o13 :: o14 :: (.ref y15) :: (.int x2) :: (.ref y17) :: o18 :: o19 :: o20 :: o21 :: o22 :: o23 :: o24 :: o25 :: o26 :: o27 :: (.ref y28) :: tl)) :: (y28, .inl (cs.1, 229376, .inl f28)) :: (y17, .inl (cs.2.1, 14, .inl g27_3)) :: X) H := hH
              refine W.widen (k := 0) (n := 0) (Nat.le_of_ble_eq_true rfl) (Nat.le_of_ble_eq_true rfl) ?_
              refine lv_if_ne (tgt := 88) hx hb dX12_laysSteps_49 (by decide) (fun c49 => ?_) (fun c49 => ?_)
              · skip
                have tc49 := f_ne (k := 0) (by decide) c49
                exact J88  _ _ _  hH hS (lv_sub hl [1, 2, 3] rfl)
              · skip
                have tc49 := f_eq (k := 0) (by decide) c49
                refine lv_iload hx hb dX12_laysSteps_52 (lv_at hl 0 rfl) ?_
                refine lv_iload_n hx hb dX12_laysSteps_54 rfl (lv_at hl 1 rfl) ?_
                have J82 : ∀ (g82_3 : Nat → Int32) (H : Heap) (locs : List Loc) (ls : Array Slot), (∀ j, cp 1 (g82_3 j)) → HT D cs A T (y1 :: a0 :: y28 :: y17 :: O) ((y1, .inl (cs.2.1, 3906, .inl f1)) :: (a0, .inr (12, o0 :: (.ref y1) :: o2 :: o3 :: o4 :: o5 :: o6 :: o7 :: o8 :: o9 :: o10 :: o11 :: o12 :: o13 :: o14 :: (.ref y15) :: (.int x2) :: (.ref y17) :: o18 :: o19 :: o20 :: o21 :: o22 :: o23 :: o24 :: o25 :: o26 :: o27 :: (.ref y28) :: tl)) :: (y28, .inl (cs.1, 229376, .inl f28)) :: (y17, .inl (cs.2.1, 14, .inl g82_3)) :: X) H → va_S A s.heap H locs → lv_has ls 5 [(4, .int p27_4), (3, .int p7_3), (0, .ref a0), (1, .int x1)] → W p l e { frames := 3, cells := 0, slots := 0, locals := 74 } s m [.ref a0, .int x1, .int x2].toArray below meth c H locs 0 0 (MQ below (Tv D cs (fun u => ∃ (n1_16 : Int32) (G3 : Nat → Int32), u = (T, y1 :: a0 :: y28 :: y17 :: O, (y1, .inl (cs.2.1, 3906, .inl f1)) :: (a0, .inr (12, o0 :: (.ref y1) :: o2 :: o3 :: o4 :: o5 :: o6 :: o7 :: o8 :: o9 :: o10 :: o11 :: o12 :: o13 :: o14 :: (.ref y15) :: (.int n1_16) :: (.ref y17) :: o18 :: o19 :: o20 :: o21 :: o22 :: o23 :: o24 :: o25 :: o26 :: o27 :: (.ref y28) :: tl)) :: (y28, .inl (cs.1, 229376, .inl f28)) :: (y17, .inl (cs.2.1, 14, .inl G3)) :: X) ∧ (∀ j, cp 1 (G3 j))) A) [.ref a0, .int x1, .int x2].toArray s 0 0 A) (F0 m 82 ls []) := by
                  intro g82_3 H locs ls c82 hH hS hl
                  obtain ⟨v82, ev82⟩ : ∃ y : Int32, y = p27_4 + 1 := ⟨_, rfl⟩
                  have tv82 : v82.toInt = p27_4.toInt + (1) := by rw [ev82]; exact add_i rfl (by decide) (by omega) (by omega)
                  refine lv_iinc (v := v82) (lv' := [(4, .int v82), (3, .int p7_3), (0, .ref a0), (1, .int x1)]) hx hb dX12_laysSteps_82 hl (k := 0) rfl (by rw [ev82]; rfl) (by decide) rfl (fun ls hl => ?_)
                  refine lv_goto (tgt := 27) hx hb dX12_laysSteps_85 (by decide) ?_
                  exact ih27 _ (by omega) v82 g82_3 _ _ _ rfl (by omega) (by omega) (by first | exact c_f17 | exact c7 | exact c27 | exact c82 | (rw [eF23]; refine c1_put c7 ?_ ?_ <;> decide) | (rw [eF81]; refine c1_put c27 ?_ ?_ <;> omega)) hH hS (lv_sub hl [0, 1, 2, 3] rfl)
                refine lv_icmp_eq (tgt := 82) hx hb dX12_laysSteps_55 (by decide) (fun c55 => ?_) (fun c55 => ?_)
                · skip
                  have fuc55 := full_i p27_4
                  have fvc55 := full_i p7_3
                  have tc55 := g_eq c55
                  exact J82 g27_3 _ _ _ (by first | exact c_f17 | exact c7 | exact c27 | exact c82 | (rw [eF23]; refine c1_put c7 ?_ ?_ <;> decide) | (rw [eF81]; refine c1_put c27 ?_ ?_ <;> omega)) hH hS (lv_sub hl [0, 1, 2, 3] rfl)
                · skip
                  have fuc55 := full_i p27_4
                  have fvc55 := full_i p7_3
                  have tc55 := g_ne c55
                  refine lv_aload_n hx hb dX12_laysSteps_58 rfl (lv_at hl 2 rfl) ?_
                  refine lv_iload_n hx hb dX12_laysSteps_59 rfl (lv_at hl 3 rfl) ?_
                  refine lv_iload_n hx hb dX12_laysSteps_60 rfl (lv_at hl 1 rfl) ?_
                  refine lv_iload hx hb dX12_laysSteps_61 (lv_at hl 0 rfl) ?_
                  refine tk_i hH hS hA (tr_V (n := 3) (As := [.int x1, .int p7_3, .int p27_4]) hx hb hml hown hts hkb hH (ox_map hOX rfl) hks hE hS hA (s_M_mayStepX l D cs kf T (y28 :: y17 :: O) ((y28, .inl (cs.1, 229376, .inl f28)) :: (y17, .inl (cs.2.1, 14, .inl g27_3)) :: X) a0 hg mq x1 p7_3 p27_4 f1 o0 y1 o2 o3 o4 o5 o6 o7 o8 o9 o10 o11 o12 o13 o14 y15 x2 ((.ref y17) :: o18 :: o19 :: o20 :: o21 :: o22 :: o23 :: o24 :: o25 :: o26 :: o27 :: (.ref y28) :: tl) t_a0 b_hg (by omega) (by omega) (by omega) (by omega) (by omega) (by omega) s_f1 g_f1 t_y1 t_y15 (hO.sub (by decide))) kw_1482 kw_1484 ks_69 kw_13 kw_1485 (by decide +kernel) ⟨Nat.le_of_ble_eq_true rfl, Nat.le_of_ble_eq_true rfl⟩ (x_recv (ci := 12) hkb hH 1 rfl rfl) rfl rfl hl.1 (Nat.le_of_ble_eq_true rfl) dX12_laysSteps_63 ⟨Nat.le_of_ble_eq_true rfl, Nat.le_of_ble_eq_true rfl⟩) (fun v63 u H locs hz9 hH hS => ?_)
                  obtain ⟨rfl, l_v63, u_v63⟩ := hz9
                  have hH : HT D cs A T (y1 :: a0 :: y28 :: y17 :: O) ((y1, .inl (cs.2.1, 3906, .inl f1)) :: (a0, .inr (12, o0 :: (.ref y1) :: o2 :: o3 :: o4 :: o5 :: o6 :: o7 :: o8 :: o9 :: o10 :: o11 :: o12 :: o13 :: o14 :: (.ref y15) :: (.int x2) :: (.ref y17) :: o18 :: o19 :: o20 :: o21 :: o22 :: o23 :: o24 :: o25 :: o26 :: o27 :: (.ref y28) :: tl)) :: (y28, .inl (cs.1, 229376, .inl f28)) :: (y17, .inl (cs.2.1, 14, .inl g27_3)) :: X) H := hH
                  refine W.widen (k := 0) (n := 0) (Nat.le_of_ble_eq_true rfl) (Nat.le_of_ble_eq_true rfl) ?_
                  refine lv_if_eq (tgt := 82) hx hb dX12_laysSteps_66 (by decide) (fun c66 => ?_) (fun c66 => ?_)
                  · skip
                    have tc66 := f_eq (k := 0) (by decide) c66
                    exact J82 g27_3 _ _ _ (by first | exact c_f17 | exact c7 | exact c27 | exact c82 | (rw [eF23]; refine c1_put c7 ?_ ?_ <;> decide) | (rw [eF81]; refine c1_put c27 ?_ ?_ <;> omega)) hH hS (lv_sub hl [0, 1, 2, 3] rfl)
                  · skip
                    have tc66 := f_ne (k := 0) (by decide) c66
                    refine lv_aload_n hx hb dX12_laysSteps_69 rfl (lv_at hl 2 rfl) ?_
                    refine x_getk (ci := 12) (C := RX12) (F := TX12) (N := 36) (v := .ref y17) hx hb hts uX12 hown hkb hH 1 rfl rfl 17 (by decide) rfl kw_1240 (fun _ h9 => h9) dX12_laysSteps_70 ?_
                    refine lv_iload_n hx hb dX12_laysSteps_73 rfl (lv_at hl 1 rfl) ?_
                    refine lv_dup2_11 hx hb dX12_laysSteps_74 rfl rfl ?_
                    refine xa_ild hx hb hkb hH 3 rfl (by omega) (by omega) dX12_laysSteps_75 ?_
                    refine lv_topi (fun v75 ev75 => ?_)
                    have tv75 : v75 = g27_3 p7_3.toInt.toNat := ev75
                    have b75 : 0 ≤ v75.toInt ∧ v75.toInt ≤ 16383 := by rw [tv75]; exact c27 _
                    refine lv_iconst (v := 1) hx hb dX12_laysSteps_76 (by decide) ?_
                    refine lv_iload hx hb dX12_laysSteps_77 (lv_at hl 0 rfl) ?_
                    refine lv_ishl hx hb dX12_laysSteps_79 ?_
                    refine lv_topi (fun v79 ev79 => ?_)
                    have tv79 : 1 ≤ v79.toInt ∧ v79.toInt ≤ 8192 := by rw [ev79]; exact shl_b 13 (by decide) (by omega) (by omega)
                    refine lv_ior hx hb dX12_laysSteps_80 ?_
                    refine lv_topi (fun v80 ev80 => ?_)
                    have tv80 : 0 ≤ v80.toInt ∧ v80.toInt < 16384 := by rw [ev80]; exact or_b 14 (by decide) (by omega) (by omega) (by omega) (by omega)
                    refine xa_ist hx hb hkb hH hS 3 rfl (by omega) (by omega) dX12_laysSteps_81 (fun H locs hH hS => ?_)
                    have hH : HT D cs A T (y1 :: a0 :: y28 :: y17 :: O) ((y1, .inl (cs.2.1, 3906, .inl f1)) :: (a0, .inr (12, o0 :: (.ref y1) :: o2 :: o3 :: o4 :: o5 :: o6 :: o7 :: o8 :: o9 :: o10 :: o11 :: o12 :: o13 :: o14 :: (.ref y15) :: (.int x2) :: (.ref y17) :: o18 :: o19 :: o20 :: o21 :: o22 :: o23 :: o24 :: o25 :: o26 :: o27 :: (.ref y28) :: tl)) :: (y28, .inl (cs.1, 229376, .inl f28)) :: (y17, .inl (cs.2.1, 14, .inl (upd g27_3 (p7_3.toInt.toNat) v80))) :: X) H := hH
                    obtain ⟨F81, eF81⟩ : ∃ f9, f9 = upd g27_3 (p7_3.toInt.toNat) v80 := ⟨_, rfl⟩
                    have hH : HT D cs A T (y1 :: a0 :: y28 :: y17 :: O) ((y1, .inl (cs.2.1, 3906, .inl f1)) :: (a0, .inr (12, o0 :: (.ref y1) :: o2 :: o3 :: o4 :: o5 :: o6 :: o7 :: o8 :: o9 :: o10 :: o11 :: o12 :: o13 :: o14 :: (.ref y15) :: (.int x2) :: (.ref y17) :: o18 :: o19 :: o20 :: o21 :: o22 :: o23 :: o24 :: o25 :: o26 :: o27 :: (.ref y28) :: tl)) :: (y28, .inl (cs.1, 229376, .inl f28)) :: (y17, .inl (cs.2.1, 14, .inl F81)) :: X) H := eF81 ▸ hH
                    exact J82 F81 _ _ _ (by first | exact c_f17 | exact c7 | exact c27 | exact c82 | (rw [eF23]; refine c1_put c7 ?_ ?_ <;> decide) | (rw [eF81]; refine c1_put c27 ?_ ?_ <;> omega)) hH hS (lv_sub hl [0, 1, 2, 3] rfl)
        refine lv_istore (lv' := [(4, .int 0), (3, .int p7_3), (0, .ref a0), (1, .int x1)]) hx hb dX12_laysSteps_25 hl (by decide) rfl (fun ls hl => ?_)
        have z_0 : (0 : Int32).toInt = 0 := by decide
        exact J27 _ 0 F23 _ _ _ rfl (by decide) (by decide) (by first | exact c_f17 | exact c7 | exact c27 | exact c82 | (rw [eF23]; refine c1_put c7 ?_ ?_ <;> decide) | (rw [eF81]; refine c1_put c27 ?_ ?_ <;> omega)) hH hS (lv_sub hl [0, 1, 2, 3] rfl)
  refine lv_istore_n (lv' := [(3, .int 0), (0, .ref a0), (1, .int x1), (2, .int x2)]) hx hb dX12_laysSteps_6 rfl hl (by decide) rfl (fun ls hl => ?_)
  have z_0 : (0 : Int32).toInt = 0 := by decide
  exact J7 _ 0 f17 _ _ _ rfl (by decide) (by decide) (by first | exact c_f17 | exact c7 | exact c27 | exact c82 | (rw [eF23]; refine c1_put c7 ?_ ?_ <;> decide) | (rw [eF81]; refine c1_put c27 ?_ ?_ <;> omega)) hH hS (lv_sub hl [0, 1, 2] rfl)
set_option maxHeartbeats 4000000 in
set_option maxRecDepth 100000 in
theorem s_M_laysGuideX (l : Launch) (D : va_G) (cs : CS) (kf : KF) (T : TF) (O : List Nat) (X : va_W) (a0 hg mq : Nat) (x1 : Int32) (f1 : Nat → Int32) (o0 : Value) (y1 : Nat) (o2 : Value) (o3 : Value) (o4 : Value) (o5 : Value) (o6 : Value) (o7 : Value) (o8 : Value) (o9 : Value) (o10 : Value) (o11 : Value) (o12 : Value) (o13 : Value) (o14 : Value) (y15 : Nat) (y16 : Int32) (y17 : Nat) (o18 : Value) (o19 : Value) (o20 : Value) (o21 : Value) (o22 : Value) (o23 : Value) (o24 : Value) (o25 : Value) (o26 : Value) (o27 : Value) (y28 : Nat) (tl : List Value) (f28 : Nat → Int32) (f17 : Nat → Int32) (t_a0 : T a0 = some (22, hg, mq)) (b_hg : hg < 90) (l_x1 : 0 ≤ x1.toInt) (u_x1 : x1.toInt ≤ 4) (s_f1 : B8 3906 f1) (g_f1 : f1 1 = nI (hg / 6) ∧ f1 2 = nI (hg % 6)) (t_y1 : T y1 = some (8, 3906, hg)) (t_y15 : T y15 = some (1, 900, 0)) (t_y17 : T y17 = some (9, 14, 1)) (t_y28 : T y28 = some (0, 229376, 0)) (c_f17 : ∀ j, cp 1 (f17 j)) (hO : okO T (y1 :: a0 :: y28 :: y17 :: O) [1]) : TK l D cs kf yX12_laysGuide cX12_laysGuide 2 none { frames := 4, cells := 0, slots := 0, locals := 98 } [.ref a0, .int x1] T (y1 :: a0 :: y28 :: y17 :: O) ((y1, .inl (cs.2.1, 3906, .inl f1)) :: (a0, .inr (12, o0 :: (.ref y1) :: o2 :: o3 :: o4 :: o5 :: o6 :: o7 :: o8 :: o9 :: o10 :: o11 :: o12 :: o13 :: o14 :: (.ref y15) :: (.int y16) :: (.ref y17) :: o18 :: o19 :: o20 :: o21 :: o22 :: o23 :: o24 :: o25 :: o26 :: o27 :: (.ref y28) :: tl)) :: (y28, .inl (cs.1, 229376, .inl f28)) :: (y17, .inl (cs.2.1, 14, .inl f17)) :: X) (Tv D cs (fun u => ∃ (n1_16 : Int32) (G3 : Nat → Int32), u = (T, y1 :: a0 :: y28 :: y17 :: O, (y1, .inl (cs.2.1, 3906, .inl f1)) :: (a0, .inr (12, o0 :: (.ref y1) :: o2 :: o3 :: o4 :: o5 :: o6 :: o7 :: o8 :: o9 :: o10 :: o11 :: o12 :: o13 :: o14 :: (.ref y15) :: (.int n1_16) :: (.ref y17) :: o18 :: o19 :: o20 :: o21 :: o22 :: o23 :: o24 :: o25 :: o26 :: o27 :: (.ref y28) :: tl)) :: (y28, .inl (cs.1, 229376, .inl f28)) :: (y17, .inl (cs.2.1, 14, .inl G3)) :: X) ∧ (∀ j, cp 1 (G3 j)))) := by
  refine tk_of (by decide) (Nat.le_of_ble_eq_true rfl) (fun p e s m below meth c ls A H locs hx hb hr hml hown hts hlocks hnm hkb hH hS hA hOX hks hE hl => ?_)
  have hown : s.vm.findClass RX12 = some m.cls := hown
  have hl : lv_has ls 2 [(0, .ref a0), (1, .int x1)] := hl
  have hOXf := hOX
  refine lv_aload_n hx hb dX12_laysGuide_0 rfl (lv_at hl 0 rfl) ?_
  refine lv_iload_n hx hb dX12_laysGuide_1 rfl (lv_at hl 1 rfl) ?_
  refine lv_aload_n hx hb dX12_laysGuide_2 rfl (lv_at hl 0 rfl) ?_
  refine x_getk (ci := 12) (C := RX12) (F := TX12) (N := 36) (v := .ref y1) hx hb hts uX12 hown hkb hH 1 rfl rfl 1 (by decide) rfl kw_1224 (fun _ h9 => h9) dX12_laysGuide_3 ?_
  refine lv_bipush (v := 49) hx hb dX12_laysGuide_6 (by decide) ?_
  refine lv_iload_n hx hb dX12_laysGuide_8 rfl (lv_at hl 1 rfl) ?_
  refine lv_iadd hx hb dX12_laysGuide_9 ?_
  refine lv_topi (fun v9 ev9 => ?_)
  have tv9 : v9.toInt = (49) + x1.toInt := by rw [ev9]; exact add_i (by decide : (49 : Int32).toInt = 49) rfl (by omega) (by omega)
  refine xa_ild hx hb hkb hH 0 rfl (by omega) (by omega) dX12_laysGuide_10 ?_
  refine lv_topi (fun v10 ev10 => ?_)
  have tv10 : v10 = f1 v9.toInt.toNat := ev10
  refine tk_v hH hS hA (tr_V (n := 2) (As := [.int x1, .int v10]) hx hb hml hown hts hkb hH (ox_map hOX rfl) hks hE hS hA (s_M_laysStepsX l D cs kf T O X a0 hg mq x1 v10 f1 o0 y1 o2 o3 o4 o5 o6 o7 o8 o9 o10 o11 o12 o13 o14 y15 y16 y17 o18 o19 o20 o21 o22 o23 o24 o25 o26 o27 y28 tl f28 f17 t_a0 b_hg (by omega) (by omega) s_f1 g_f1 t_y1 t_y15 t_y17 t_y28 c_f17 (hO.sub (by decide))) kw_1506 kw_1508 ks_72 kw_13 kw_1509 (by decide +kernel) ⟨Nat.le_of_ble_eq_true rfl, Nat.le_of_ble_eq_true rfl⟩ (x_recv (ci := 12) hkb hH 1 rfl rfl) rfl rfl hl.1 (Nat.le_of_ble_eq_true rfl) dX12_laysGuide_11 ⟨Nat.le_of_ble_eq_true rfl, Nat.le_of_ble_eq_true rfl⟩) (fun u H locs hz9 hH hS => ?_)
  obtain ⟨n11_1_16, F11_3, rfl, x_v110⟩ := hz9
  have c_F11_3 := x_v110
  have hH : HT D cs A T (y1 :: a0 :: y28 :: y17 :: O) ((y1, .inl (cs.2.1, 3906, .inl f1)) :: (a0, .inr (12, o0 :: (.ref y1) :: o2 :: o3 :: o4 :: o5 :: o6 :: o7 :: o8 :: o9 :: o10 :: o11 :: o12 :: o13 :: o14 :: (.ref y15) :: (.int n11_1_16) :: (.ref y17) :: o18 :: o19 :: o20 :: o21 :: o22 :: o23 :: o24 :: o25 :: o26 :: o27 :: (.ref y28) :: tl)) :: (y28, .inl (cs.1, 229376, .inl f28)) :: (y17, .inl (cs.2.1, 14, .inl F11_3)) :: X) H := hH
  refine W.widen (k := 0) (n := 0) (Nat.le_of_ble_eq_true rfl) (Nat.le_of_ble_eq_true rfl) ?_
  exact te_v hx hb hr hlocks hH hS (⟨n11_1_16, F11_3, rfl, x_v110⟩) dX12_laysGuide_14
set_option maxHeartbeats 4000000 in
set_option maxRecDepth 100000 in
theorem s_M_laysWhoseX (l : Launch) (D : va_G) (cs : CS) (kf : KF) (T : TF) (O : List Nat) (X : va_W) (a0 hg mq : Nat) (x1 : Int32) (x2 : Int32) (f1 : Nat → Int32) (o0 : Value) (y1 : Nat) (o2 : Value) (o3 : Value) (o4 : Value) (o5 : Value) (o6 : Value) (o7 : Value) (o8 : Value) (o9 : Value) (o10 : Value) (o11 : Value) (o12 : Value) (o13 : Value) (o14 : Value) (y15 : Nat) (y16 : Int32) (y17 : Nat) (o18 : Value) (o19 : Value) (o20 : Value) (o21 : Value) (o22 : Value) (o23 : Value) (o24 : Value) (o25 : Value) (o26 : Value) (o27 : Value) (y28 : Nat) (tl : List Value) (f28 : Nat → Int32) (f17 : Nat → Int32) (t_a0 : T a0 = some (22, hg, mq)) (b_hg : hg < 90) (l_x1 : 0 ≤ x1.toInt) (u_x1 : x1.toInt ≤ 4) (l_x2 : 0 ≤ x2.toInt) (u_x2 : x2.toInt ≤ 16383) (s_f1 : B8 3906 f1) (g_f1 : f1 1 = nI (hg / 6) ∧ f1 2 = nI (hg % 6)) (t_y1 : T y1 = some (8, 3906, hg)) (t_y15 : T y15 = some (1, 900, 0)) (t_y17 : T y17 = some (9, 14, 1)) (t_y28 : T y28 = some (0, 229376, 0)) (c_f17 : ∀ j, cp 1 (f17 j)) (hO : okO T (y1 :: a0 :: y28 :: y17 :: O) [1]) : TK l D cs kf yX12_laysWhose cX12_laysWhose 6 (some (.int)) { frames := 5, cells := 0, slots := 0, locals := 119 } [.ref a0, .int x1, .int x2] T (y1 :: a0 :: y28 :: y17 :: O) ((y1, .inl (cs.2.1, 3906, .inl f1)) :: (a0, .inr (12, o0 :: (.ref y1) :: o2 :: o3 :: o4 :: o5 :: o6 :: o7 :: o8 :: o9 :: o10 :: o11 :: o12 :: o13 :: o14 :: (.ref y15) :: (.int y16) :: (.ref y17) :: o18 :: o19 :: o20 :: o21 :: o22 :: o23 :: o24 :: o25 :: o26 :: o27 :: (.ref y28) :: tl)) :: (y28, .inl (cs.1, 229376, .inl f28)) :: (y17, .inl (cs.2.1, 14, .inl f17)) :: X) (Ti D cs (fun r u => ∃ (n1_16 : Int32) (G2 : Nat → Int32) (G3 : Nat → Int32), u = (T, y1 :: a0 :: y28 :: y17 :: O, (y1, .inl (cs.2.1, 3906, .inl f1)) :: (a0, .inr (12, o0 :: (.ref y1) :: o2 :: o3 :: o4 :: o5 :: o6 :: o7 :: o8 :: o9 :: o10 :: o11 :: o12 :: o13 :: o14 :: (.ref y15) :: (.int n1_16) :: (.ref y17) :: o18 :: o19 :: o20 :: o21 :: o22 :: o23 :: o24 :: o25 :: o26 :: o27 :: (.ref y28) :: tl)) :: (y28, .inl (cs.1, 229376, .inl G2)) :: (y17, .inl (cs.2.1, 14, .inl G3)) :: X) ∧ -1 ≤ r.toInt ∧ r.toInt ≤ 13 ∧ (LQ hg (x2 ||| (thS f1 (hg / 6) &&& (f1 4 ||| f1 5))) G2 r) ∧ (WS (hg / 6) (x2 ||| (thS f1 (hg / 6) &&& (f1 4 ||| f1 5))).toInt.toNat G3 G2 0) ∧ (∀ j, cp 1 (G3 j)))) := by
  refine tk_of (by decide) (Nat.le_of_ble_eq_true rfl) (fun p e s m below meth c ls A H locs hx hb hr hml hown hts hlocks hnm hkb hH hS hA hOX hks hE hl => ?_)
  have hown : s.vm.findClass RX12 = some m.cls := hown
  have hl : lv_has ls 6 [(0, .ref a0), (1, .int x1), (2, .int x2)] := hl
  have hOXf := hOX
  refine lv_aload_n hx hb dX12_laysWhose_0 rfl (lv_at hl 0 rfl) ?_
  refine lv_iload_n hx hb dX12_laysWhose_1 rfl (lv_at hl 1 rfl) ?_
  refine tk_v hH hS hA (tr_V (n := 1) (As := [.int x1]) hx hb hml hown hts hkb hH (ox_map hOX rfl) hks hE hS hA (s_M_laysGuideX l D cs kf T O X a0 hg mq x1 f1 o0 y1 o2 o3 o4 o5 o6 o7 o8 o9 o10 o11 o12 o13 o14 y15 y16 y17 o18 o19 o20 o21 o22 o23 o24 o25 o26 o27 y28 tl f28 f17 t_a0 b_hg (by omega) (by omega) s_f1 g_f1 t_y1 t_y15 t_y17 t_y28 c_f17 (hO.sub (by decide))) kw_1502 kw_1504 ks_71 kw_13 kw_1505 (by decide +kernel) ⟨Nat.le_of_ble_eq_true rfl, Nat.le_of_ble_eq_true rfl⟩ (x_recv (ci := 12) hkb hH 1 rfl rfl) rfl rfl hl.1 (Nat.le_of_ble_eq_true rfl) dX12_laysWhose_2 ⟨Nat.le_of_ble_eq_true rfl, Nat.le_of_ble_eq_true rfl⟩) (fun u H locs hz9 hH hS => ?_)
  obtain ⟨n2_1_16, F2_3, rfl, x_v20⟩ := hz9
  have c_F2_3 := x_v20
  have hH : HT D cs A T (y1 :: a0 :: y28 :: y17 :: O) ((y1, .inl (cs.2.1, 3906, .inl f1)) :: (a0, .inr (12, o0 :: (.ref y1) :: o2 :: o3 :: o4 :: o5 :: o6 :: o7 :: o8 :: o9 :: o10 :: o11 :: o12 :: o13 :: o14 :: (.ref y15) :: (.int n2_1_16) :: (.ref y17) :: o18 :: o19 :: o20 :: o21 :: o22 :: o23 :: o24 :: o25 :: o26 :: o27 :: (.ref y28) :: tl)) :: (y28, .inl (cs.1, 229376, .inl f28)) :: (y17, .inl (cs.2.1, 14, .inl F2_3)) :: X) H := hH
  refine W.widen (k := 0) (n := 0) (Nat.le_of_ble_eq_true rfl) (Nat.le_of_ble_eq_true rfl) ?_
  refine lv_iload_n hx hb dX12_laysWhose_5 rfl (lv_at hl 2 rfl) ?_
  refine lv_aload_n hx hb dX12_laysWhose_6 rfl (lv_at hl 0 rfl) ?_
  refine tk_i hH hS hA (tr_V (n := 0) (As := []) hx hb hml hown hts hkb hH (ox_map hOX rfl) hks hE hS hA (s_M_thereSetF l D cs kf T (y28 :: y17 :: O) ((y28, .inl (cs.1, 229376, .inl f28)) :: (y17, .inl (cs.2.1, 14, .inl F2_3)) :: X) a0 hg mq f1 o0 y1 o2 o3 o4 o5 o6 o7 o8 o9 o10 o11 o12 o13 o14 y15 n2_1_16 ((.ref y17) :: o18 :: o19 :: o20 :: o21 :: o22 :: o23 :: o24 :: o25 :: o26 :: o27 :: (.ref y28) :: tl) t_a0 b_hg s_f1 g_f1 t_y1 t_y15 (hO.sub (by decide))) kw_1724 kw_1726 ks_99 kw_13 kw_1727 (by decide +kernel) ⟨Nat.le_of_ble_eq_true rfl, Nat.le_of_ble_eq_true rfl⟩ (x_recv (ci := 12) hkb hH 1 rfl rfl) rfl rfl hl.1 (Nat.le_of_ble_eq_true rfl) dX12_laysWhose_7 ⟨Nat.le_of_ble_eq_true rfl, Nat.le_of_ble_eq_true rfl⟩) (fun v7 u H locs hz9 hH hS => ?_)
  obtain ⟨rfl, l_v7, u_v7, x_v70⟩ := hz9
  have hH : HT D cs A T (y1 :: a0 :: y28 :: y17 :: O) ((y1, .inl (cs.2.1, 3906, .inl f1)) :: (a0, .inr (12, o0 :: (.ref y1) :: o2 :: o3 :: o4 :: o5 :: o6 :: o7 :: o8 :: o9 :: o10 :: o11 :: o12 :: o13 :: o14 :: (.ref y15) :: (.int n2_1_16) :: (.ref y17) :: o18 :: o19 :: o20 :: o21 :: o22 :: o23 :: o24 :: o25 :: o26 :: o27 :: (.ref y28) :: tl)) :: (y28, .inl (cs.1, 229376, .inl f28)) :: (y17, .inl (cs.2.1, 14, .inl F2_3)) :: X) H := hH
  refine W.widen (k := 0) (n := 0) (Nat.le_of_ble_eq_true rfl) (Nat.le_of_ble_eq_true rfl) ?_
  refine lv_aload_n hx hb dX12_laysWhose_10 rfl (lv_at hl 0 rfl) ?_
  refine tk_i hH hS hA (tr_V (n := 0) (As := []) hx hb hml hown hts hkb hH (ox_map hOX rfl) hks hE hS hA (s_M_endsF l D cs kf T (y28 :: y17 :: O) ((y28, .inl (cs.1, 229376, .inl f28)) :: (y17, .inl (cs.2.1, 14, .inl F2_3)) :: X) a0 hg mq f1 o0 y1 o2 o3 o4 o5 o6 o7 o8 o9 o10 o11 o12 o13 o14 y15 n2_1_16 ((.ref y17) :: o18 :: o19 :: o20 :: o21 :: o22 :: o23 :: o24 :: o25 :: o26 :: o27 :: (.ref y28) :: tl) t_a0 b_hg s_f1 g_f1 t_y1 t_y15 (hO.sub (by decide))) kw_1536 kw_1538 ks_78 kw_13 kw_1539 (by decide +kernel) ⟨Nat.le_of_ble_eq_true rfl, Nat.le_of_ble_eq_true rfl⟩ (x_recv (ci := 12) hkb hH 1 rfl rfl) rfl rfl hl.1 (Nat.le_of_ble_eq_true rfl) dX12_laysWhose_11 ⟨Nat.le_of_ble_eq_true rfl, Nat.le_of_ble_eq_true rfl⟩) (fun v11 u H locs hz9 hH hS => ?_)
  obtain ⟨rfl, l_v11, u_v11, x_v110⟩ := hz9
  have hH : HT D cs A T (y1 :: a0 :: y28 :: y17 :: O) ((y1, .inl (cs.2.1, 3906, .inl f1)) :: (a0, .inr (12, o0 :: (.ref y1) :: o2 :: o3 :: o4 :: o5 :: o6 :: o7 :: o8 :: o9 :: o10 :: o11 :: o12 :: o13 :: o14 :: (.ref y15) :: (.int n2_1_16) :: (.ref y17) :: o18 :: o19 :: o20 :: o21 :: o22 :: o23 :: o24 :: o25 :: o26 :: o27 :: (.ref y28) :: tl)) :: (y28, .inl (cs.1, 229376, .inl f28)) :: (y17, .inl (cs.2.1, 14, .inl F2_3)) :: X) H := hH
  refine W.widen (k := 0) (n := 0) (Nat.le_of_ble_eq_true rfl) (Nat.le_of_ble_eq_true rfl) ?_
  refine lv_iand hx hb dX12_laysWhose_14 ?_
  refine lv_topi (fun v14 ev14 => ?_)
  have tv14 : 0 ≤ v14.toInt ∧ v14.toInt ≤ v7.toInt := by rw [ev14]; exact and_l (by omega)
  have ttv14 : 0 ≤ v14.toInt ∧ v14.toInt ≤ v11.toInt := by rw [ev14]; exact and_r (by omega)
  refine lv_ior hx hb dX12_laysWhose_15 ?_
  refine lv_topi (fun v15 ev15 => ?_)
  have tv15 : 0 ≤ v15.toInt ∧ v15.toInt < 16384 := by rw [ev15]; exact or_b 14 (by decide) (by omega) (by omega) (by omega) (by omega)
  have h15 : v15 = (x2 ||| (thS f1 (hg / 6) &&& (f1 4 ||| f1 5))) := by rw [ev15, ev14, x_v70, x_v110]
  refine lv_istore_n (lv' := [(3, .int v15), (0, .ref a0), (1, .int x1), (2, .int x2)]) hx hb dX12_laysWhose_16 rfl hl (by decide) rfl (fun ls hl => ?_)
  refine lv_aload_n hx hb dX12_laysWhose_17 rfl (lv_at hl 1 rfl) ?_
  refine lv_iload_n hx hb dX12_laysWhose_18 rfl (lv_at hl 0 rfl) ?_
  refine lv_iload_n hx hb dX12_laysWhose_19 rfl (lv_at hl 3 rfl) ?_
  refine tk_v hH hS hA (tr_V (n := 2) (As := [.int v15, .int x2]) hx hb hml hown hts hkb hH (ox_map hOX rfl) hks hE hS hA (s_M_laysMoreX l D cs kf T O X a0 hg mq v15 x2 f1 o0 y1 o2 o3 o4 o5 o6 o7 o8 o9 o10 o11 o12 o13 o14 y15 n2_1_16 y17 o18 o19 o20 o21 o22 o23 o24 o25 o26 o27 y28 tl f28 F2_3 t_a0 b_hg (by omega) (by omega) s_f1 g_f1 t_y1 t_y15 t_y17 t_y28 (hO.sub (by decide))) kw_1732 kw_1734 ks_101 kw_13 kw_1735 (by decide +kernel) ⟨Nat.le_of_ble_eq_true rfl, Nat.le_of_ble_eq_true rfl⟩ (x_recv (ci := 12) hkb hH 1 rfl rfl) rfl rfl hl.1 (Nat.le_of_ble_eq_true rfl) dX12_laysWhose_20 ⟨Nat.le_of_ble_eq_true rfl, Nat.le_of_ble_eq_true rfl⟩) (fun u H locs hz9 hH hS => ?_)
  obtain ⟨F20_2, rfl, x_v200⟩ := hz9
  have hH : HT D cs A T (y1 :: a0 :: y28 :: y17 :: O) ((y1, .inl (cs.2.1, 3906, .inl f1)) :: (a0, .inr (12, o0 :: (.ref y1) :: o2 :: o3 :: o4 :: o5 :: o6 :: o7 :: o8 :: o9 :: o10 :: o11 :: o12 :: o13 :: o14 :: (.ref y15) :: (.int n2_1_16) :: (.ref y17) :: o18 :: o19 :: o20 :: o21 :: o22 :: o23 :: o24 :: o25 :: o26 :: o27 :: (.ref y28) :: tl)) :: (y28, .inl (cs.1, 229376, .inl F20_2)) :: (y17, .inl (cs.2.1, 14, .inl F2_3)) :: X) H := hH
  refine W.widen (k := 0) (n := 0) (Nat.le_of_ble_eq_true rfl) (Nat.le_of_ble_eq_true rfl) ?_
  refine lv_iconst (v := (-1)) hx hb dX12_laysWhose_23 (by decide) ?_
  refine lv_istore (lv' := [(4, .int (-1)), (3, .int v15), (0, .ref a0), (1, .int x1), (2, .int x2)]) hx hb dX12_laysWhose_24 hl (by decide) rfl (fun ls hl => ?_)
  refine lv_iconst (v := 0) hx hb dX12_laysWhose_26 (by decide) ?_
  have J29 : ∀ (n : Nat) (p29_5 : Int32) (p29_4 : Int32) (H : Heap) (locs : List Loc) (ls : Array Slot), (14 - p29_5.toInt).toNat = n → (0 ≤ p29_5.toInt) → (p29_5.toInt ≤ 14) → (-1 ≤ p29_4.toInt) → (p29_4.toInt ≤ 13) → (LQ hg v15 F20_2 p29_4) → HT D cs A T (y1 :: a0 :: y28 :: y17 :: O) ((y1, .inl (cs.2.1, 3906, .inl f1)) :: (a0, .inr (12, o0 :: (.ref y1) :: o2 :: o3 :: o4 :: o5 :: o6 :: o7 :: o8 :: o9 :: o10 :: o11 :: o12 :: o13 :: o14 :: (.ref y15) :: (.int n2_1_16) :: (.ref y17) :: o18 :: o19 :: o20 :: o21 :: o22 :: o23 :: o24 :: o25 :: o26 :: o27 :: (.ref y28) :: tl)) :: (y28, .inl (cs.1, 229376, .inl F20_2)) :: (y17, .inl (cs.2.1, 14, .inl F2_3)) :: X) H → va_S A s.heap H locs → lv_has ls 6 [(5, .int p29_5), (4, .int p29_4), (3, .int v15), (0, .ref a0)] → W p l e { frames := 5, cells := 0, slots := 0, locals := 119 } s m [.ref a0, .int x1, .int x2].toArray below meth c H locs 0 0 (MQ below (Ti D cs (fun r u => ∃ (n1_16 : Int32) (G2 : Nat → Int32) (G3 : Nat → Int32), u = (T, y1 :: a0 :: y28 :: y17 :: O, (y1, .inl (cs.2.1, 3906, .inl f1)) :: (a0, .inr (12, o0 :: (.ref y1) :: o2 :: o3 :: o4 :: o5 :: o6 :: o7 :: o8 :: o9 :: o10 :: o11 :: o12 :: o13 :: o14 :: (.ref y15) :: (.int n1_16) :: (.ref y17) :: o18 :: o19 :: o20 :: o21 :: o22 :: o23 :: o24 :: o25 :: o26 :: o27 :: (.ref y28) :: tl)) :: (y28, .inl (cs.1, 229376, .inl G2)) :: (y17, .inl (cs.2.1, 14, .inl G3)) :: X) ∧ -1 ≤ r.toInt ∧ r.toInt ≤ 13 ∧ (LQ hg (x2 ||| (thS f1 (hg / 6) &&& (f1 4 ||| f1 5))) G2 r) ∧ (WS (hg / 6) (x2 ||| (thS f1 (hg / 6) &&& (f1 4 ||| f1 5))).toInt.toNat G3 G2 0) ∧ (∀ j, cp 1 (G3 j))) A) [.ref a0, .int x1, .int x2].toArray s 0 0 A) (F0 m 29 ls []) := by
    intro n
    induction n using Nat.strongRecOn with
    | _ n ih29 =>
      intro p29_5 p29_4 H locs ls hm29 l_p29_5 u_p29_5 l_p29_4 u_p29_4 i29 hH hS hl
      refine lv_iload hx hb dX12_laysWhose_29 (lv_at hl 0 rfl) ?_
      refine lv_aload_n hx hb dX12_laysWhose_31 rfl (lv_at hl 3 rfl) ?_
      refine x_getk (ci := 12) (C := RX12) (F := TX12) (N := 36) (v := .ref y1) hx hb hts uX12 hown hkb hH 1 rfl rfl 1 (by decide) rfl kw_1224 (fun _ h9 => h9) dX12_laysWhose_32 ?_
      refine lv_iconst (v := 1) hx hb dX12_laysWhose_35 (by decide) ?_
      refine xa_ild hx hb hkb hH 0 rfl (by decide) (by decide) dX12_laysWhose_36 ?_
      refine lv_topi (fun v36 ev36 => ?_)
      have tv36 : v36 = f1 1 := by rw [ev36]; rfl
      have bv36 : 0 ≤ v36.toInt ∧ v36.toInt ≤ 14 := by rw [ev36]; exact (s_f1.at (by decide) 1).1 (by decide)
      have hv36 : v36.toInt = ((hg / 6 : Nat) : Int) := by rw [tv36, g_f1.1]; exact nI_toInt (by omega)
      refine lv_icmp_ge (tgt := 111) hx hb dX12_laysWhose_37 (by decide) (fun c37 => ?_) (fun c37 => ?_)
      · skip
        have fuc37 := full_i p29_5
        have fvc37 := full_i v36
        have tc37 := g_le c37
        refine lv_iload hx hb dX12_laysWhose_111 (lv_at hl 1 rfl) ?_
        exact te_i hx hb hr hlocks hH hS (⟨n2_1_16, F20_2, F2_3, rfl, by omega, by omega, (by rw [← h15]; exact i29), (by rw [← h15]; exact x_v200), c_F2_3⟩) dX12_laysWhose_113
      · skip
        have fuc37 := full_i p29_5
        have fvc37 := full_i v36
        have tc37 := g_nle c37
        refine lv_iload_n hx hb dX12_laysWhose_40 rfl (lv_at hl 2 rfl) ?_
        refine lv_aload_n hx hb dX12_laysWhose_41 rfl (lv_at hl 3 rfl) ?_
        refine x_getk (ci := 12) (C := RX12) (F := TX12) (N := 36) (v := .ref y1) hx hb hts uX12 hown hkb hH 1 rfl rfl 1 (by decide) rfl kw_1224 (fun _ h9 => h9) dX12_laysWhose_42 ?_
        refine lv_iconst (v := 4) hx hb dX12_laysWhose_45 (by decide) ?_
        refine xa_ild hx hb hkb hH 0 rfl (by decide) (by decide) dX12_laysWhose_46 ?_
        refine lv_topi (fun v46 ev46 => ?_)
        have tv46 : v46 = f1 4 := by rw [ev46]; rfl
        have bv46 : 0 ≤ v46.toInt ∧ v46.toInt ≤ 16383 := by rw [ev46]; exact (s_f1.at (by decide) 4).2.2.1 (by decide)
        refine lv_iand hx hb dX12_laysWhose_47 ?_
        refine lv_topi (fun v47 ev47 => ?_)
        have tv47 : 0 ≤ v47.toInt ∧ v47.toInt ≤ v15.toInt := by rw [ev47]; exact and_l (by omega)
        have ttv47 : 0 ≤ v47.toInt ∧ v47.toInt ≤ v46.toInt := by rw [ev47]; exact and_r (by omega)
        refine lv_i2l hx hb dX12_laysWhose_48 rfl ?_
        refine lv_iload hx hb dX12_laysWhose_49 (lv_at hl 0 rfl) ?_
        refine tk_i hH hS hA (tr_S (n := 2) (As := [.long v47.toInt64, .int p29_5]) hx hb hml hown hts hkb hH (ox_map hOX rfl) hks hE hS hA (s_M_isIn2 l D cs kf T (y1 :: a0 :: y28 :: y17 :: O) ((y1, .inl (cs.2.1, 3906, .inl f1)) :: (a0, .inr (12, o0 :: (.ref y1) :: o2 :: o3 :: o4 :: o5 :: o6 :: o7 :: o8 :: o9 :: o10 :: o11 :: o12 :: o13 :: o14 :: (.ref y15) :: (.int n2_1_16) :: (.ref y17) :: o18 :: o19 :: o20 :: o21 :: o22 :: o23 :: o24 :: o25 :: o26 :: o27 :: (.ref y28) :: tl)) :: (y28, .inl (cs.1, 229376, .inl F20_2)) :: (y17, .inl (cs.2.1, 14, .inl F2_3)) :: X) v47.toInt64 p29_5  (hO.sub (by decide))) kw_1440 kw_1441 kw_13 kw_1442 (by decide +kernel) ⟨Nat.le_of_ble_eq_true rfl, Nat.le_of_ble_eq_true rfl⟩ rfl rfl hl.1 (Nat.le_of_ble_eq_true rfl) dX12_laysWhose_51 ⟨Nat.le_of_ble_eq_true rfl, Nat.le_of_ble_eq_true rfl⟩) (fun v51 u H locs hz9 hH hS => ?_)
        obtain ⟨rfl, l_v51, u_v51, x_v510⟩ := hz9
        have hH : HT D cs A T (y1 :: a0 :: y28 :: y17 :: O) ((y1, .inl (cs.2.1, 3906, .inl f1)) :: (a0, .inr (12, o0 :: (.ref y1) :: o2 :: o3 :: o4 :: o5 :: o6 :: o7 :: o8 :: o9 :: o10 :: o11 :: o12 :: o13 :: o14 :: (.ref y15) :: (.int n2_1_16) :: (.ref y17) :: o18 :: o19 :: o20 :: o21 :: o22 :: o23 :: o24 :: o25 :: o26 :: o27 :: (.ref y28) :: tl)) :: (y28, .inl (cs.1, 229376, .inl F20_2)) :: (y17, .inl (cs.2.1, 14, .inl F2_3)) :: X) H := hH
        refine W.widen (k := 0) (n := 0) (Nat.le_of_ble_eq_true rfl) (Nat.le_of_ble_eq_true rfl) ?_
        have J105 : ∀ (p105_4 : Int32) (H : Heap) (locs : List Loc) (ls : Array Slot), (-1 ≤ p105_4.toInt) → (p105_4.toInt ≤ 13) → (LQ hg v15 F20_2 p105_4) → HT D cs A T (y1 :: a0 :: y28 :: y17 :: O) ((y1, .inl (cs.2.1, 3906, .inl f1)) :: (a0, .inr (12, o0 :: (.ref y1) :: o2 :: o3 :: o4 :: o5 :: o6 :: o7 :: o8 :: o9 :: o10 :: o11 :: o12 :: o13 :: o14 :: (.ref y15) :: (.int n2_1_16) :: (.ref y17) :: o18 :: o19 :: o20 :: o21 :: o22 :: o23 :: o24 :: o25 :: o26 :: o27 :: (.ref y28) :: tl)) :: (y28, .inl (cs.1, 229376, .inl F20_2)) :: (y17, .inl (cs.2.1, 14, .inl F2_3)) :: X) H → va_S A s.heap H locs → lv_has ls 6 [(5, .int p29_5), (4, .int p105_4), (3, .int v15), (0, .ref a0)] → W p l e { frames := 5, cells := 0, slots := 0, locals := 119 } s m [.ref a0, .int x1, .int x2].toArray below meth c H locs 0 0 (MQ below (Ti D cs (fun r u => ∃ (n1_16 : Int32) (G2 : Nat → Int32) (G3 : Nat → Int32), u = (T, y1 :: a0 :: y28 :: y17 :: O, (y1, .inl (cs.2.1, 3906, .inl f1)) :: (a0, .inr (12, o0 :: (.ref y1) :: o2 :: o3 :: o4 :: o5 :: o6 :: o7 :: o8 :: o9 :: o10 :: o11 :: o12 :: o13 :: o14 :: (.ref y15) :: (.int n1_16) :: (.ref y17) :: o18 :: o19 :: o20 :: o21 :: o22 :: o23 :: o24 :: o25 :: o26 :: o27 :: (.ref y28) :: tl)) :: (y28, .inl (cs.1, 229376, .inl G2)) :: (y17, .inl (cs.2.1, 14, .inl G3)) :: X) ∧ -1 ≤ r.toInt ∧ r.toInt ≤ 13 ∧ (LQ hg (x2 ||| (thS f1 (hg / 6) &&& (f1 4 ||| f1 5))) G2 r) ∧ (WS (hg / 6) (x2 ||| (thS f1 (hg / 6) &&& (f1 4 ||| f1 5))).toInt.toNat G3 G2 0) ∧ (∀ j, cp 1 (G3 j))) A) [.ref a0, .int x1, .int x2].toArray s 0 0 A) (F0 m 105 ls []) := by
          intro p105_4 H locs ls l_p105_4 u_p105_4 i105 hH hS hl
          obtain ⟨v105, ev105⟩ : ∃ y : Int32, y = p29_5 + 1 := ⟨_, rfl⟩
          have tv105 : v105.toInt = p29_5.toInt + (1) := by rw [ev105]; exact add_i rfl (by decide) (by omega) (by omega)
          refine lv_iinc (v := v105) (lv' := [(5, .int v105), (4, .int p105_4), (3, .int v15), (0, .ref a0)]) hx hb dX12_laysWhose_105 hl (k := 0) rfl (by rw [ev105]; rfl) (by decide) rfl (fun ls hl => ?_)
          refine lv_goto (tgt := 29) hx hb dX12_laysWhose_108 (by decide) ?_
          exact ih29 _ (by omega) v105 p105_4 _ _ _ rfl (by omega) (by omega) (by omega) (by omega) (by first | exact i29 | exact i105 | (refine LQ_n ?_ ev47 ?_ x_v510 ?_ ?_ ?_ ?_ ev61 x_v640 ?_ <;> omega) | exact LQ_0) hH hS (lv_sub hl [0, 1, 2, 3] rfl)
        refine lv_if_eq (tgt := 105) hx hb dX12_laysWhose_54 (by decide) (fun c54 => ?_) (fun c54 => ?_)
        · skip
          have tc54 := f_eq (k := 0) (by decide) c54
          exact J105 p29_4 _ _ _ (by omega) (by omega) (by first | exact i29 | exact i105 | (refine LQ_n ?_ ev47 ?_ x_v510 ?_ ?_ ?_ ?_ ev61 x_v640 ?_ <;> omega) | exact LQ_0) hH hS (lv_sub hl [0, 1, 2, 3] rfl)
        · skip
          have tc54 := f_ne (k := 0) (by decide) c54
          refine lv_aload_n hx hb dX12_laysWhose_57 rfl (lv_at hl 3 rfl) ?_
          refine lv_iconst (v := 1) hx hb dX12_laysWhose_58 (by decide) ?_
          refine lv_iload hx hb dX12_laysWhose_59 (lv_at hl 0 rfl) ?_
          refine lv_ishl hx hb dX12_laysWhose_61 ?_
          refine lv_topi (fun v61 ev61 => ?_)
          have tv61 : 1 ≤ v61.toInt ∧ v61.toInt ≤ 8192 := by rw [ev61]; exact shl_b 13 (by decide) (by omega) (by omega)
          refine lv_iload hx hb dX12_laysWhose_62 (lv_at hl 0 rfl) ?_
          refine tk_i hH hS hA (tr_V (n := 2) (As := [.int v61, .int p29_5]) hx hb hml hown hts hkb hH (ox_map hOX rfl) hks hE hS hA (s_M_moreByX l D cs kf T O X a0 hg mq v61 p29_5 f1 o0 y1 o2 o3 o4 o5 o6 o7 o8 o9 o10 o11 o12 o13 o14 y15 n2_1_16 y17 o18 o19 o20 o21 o22 o23 o24 o25 o26 o27 y28 tl F20_2 F2_3 t_a0 b_hg (by omega) (by omega) (by omega) (by omega) s_f1 g_f1 t_y1 t_y15 t_y17 t_y28 (hO.sub (by decide))) kw_1736 kw_1738 ks_102 kw_13 kw_1739 (by decide +kernel) ⟨Nat.le_of_ble_eq_true rfl, Nat.le_of_ble_eq_true rfl⟩ (x_recv (ci := 12) hkb hH 1 rfl rfl) rfl rfl hl.1 (Nat.le_of_ble_eq_true rfl) dX12_laysWhose_64 ⟨Nat.le_of_ble_eq_true rfl, Nat.le_of_ble_eq_true rfl⟩) (fun v64 u H locs hz9 hH hS => ?_)
          obtain ⟨rfl, x_v640⟩ := hz9
          have hH : HT D cs A T (y1 :: a0 :: y28 :: y17 :: O) ((y1, .inl (cs.2.1, 3906, .inl f1)) :: (a0, .inr (12, o0 :: (.ref y1) :: o2 :: o3 :: o4 :: o5 :: o6 :: o7 :: o8 :: o9 :: o10 :: o11 :: o12 :: o13 :: o14 :: (.ref y15) :: (.int n2_1_16) :: (.ref y17) :: o18 :: o19 :: o20 :: o21 :: o22 :: o23 :: o24 :: o25 :: o26 :: o27 :: (.ref y28) :: tl)) :: (y28, .inl (cs.1, 229376, .inl F20_2)) :: (y17, .inl (cs.2.1, 14, .inl F2_3)) :: X) H := hH
          refine W.widen (k := 0) (n := 0) (Nat.le_of_ble_eq_true rfl) (Nat.le_of_ble_eq_true rfl) ?_
          refine lv_bipush (v := 99) hx hb dX12_laysWhose_67 (by decide) ?_
          refine lv_icmp_ge (tgt := 105) hx hb dX12_laysWhose_69 (by decide) (fun c69 => ?_) (fun c69 => ?_)
          · skip
            have tc69 := f_ge (k := 99) (by decide) c69
            exact J105 p29_4 _ _ _ (by omega) (by omega) (by first | exact i29 | exact i105 | (refine LQ_n ?_ ev47 ?_ x_v510 ?_ ?_ ?_ ?_ ev61 x_v640 ?_ <;> omega) | exact LQ_0) hH hS (lv_sub hl [0, 1, 2, 3] rfl)
          · skip
            have tc69 := f_nge (k := 99) (by decide) c69
            refine lv_iload hx hb dX12_laysWhose_72 (lv_at hl 1 rfl) ?_
            refine lv_iconst (v := (-1)) hx hb dX12_laysWhose_74 (by decide) ?_
            have J101 : ∀  (H : Heap) (locs : List Loc) (ls : Array Slot), HT D cs A T (y1 :: a0 :: y28 :: y17 :: O) ((y1, .inl (cs.2.1, 3906, .inl f1)) :: (a0, .inr (12, o0 :: (.ref y1) :: o2 :: o3 :: o4 :: o5 :: o6 :: o7 :: o8 :: o9 :: o10 :: o11 :: o12 :: o13 :: o14 :: (.ref y15) :: (.int n2_1_16) :: (.ref y17) :: o18 :: o19 :: o20 :: o21 :: o22 :: o23 :: o24 :: o25 :: o26 :: o27 :: (.ref y28) :: tl)) :: (y28, .inl (cs.1, 229376, .inl F20_2)) :: (y17, .inl (cs.2.1, 14, .inl F2_3)) :: X) H → va_S A s.heap H locs → lv_has ls 6 [(5, .int p29_5), (3, .int v15), (0, .ref a0)] → W p l e { frames := 5, cells := 0, slots := 0, locals := 119 } s m [.ref a0, .int x1, .int x2].toArray below meth c H locs 0 0 (MQ below (Ti D cs (fun r u => ∃ (n1_16 : Int32) (G2 : Nat → Int32) (G3 : Nat → Int32), u = (T, y1 :: a0 :: y28 :: y17 :: O, (y1, .inl (cs.2.1, 3906, .inl f1)) :: (a0, .inr (12, o0 :: (.ref y1) :: o2 :: o3 :: o4 :: o5 :: o6 :: o7 :: o8 :: o9 :: o10 :: o11 :: o12 :: o13 :: o14 :: (.ref y15) :: (.int n1_16) :: (.ref y17) :: o18 :: o19 :: o20 :: o21 :: o22 :: o23 :: o24 :: o25 :: o26 :: o27 :: (.ref y28) :: tl)) :: (y28, .inl (cs.1, 229376, .inl G2)) :: (y17, .inl (cs.2.1, 14, .inl G3)) :: X) ∧ -1 ≤ r.toInt ∧ r.toInt ≤ 13 ∧ (LQ hg (x2 ||| (thS f1 (hg / 6) &&& (f1 4 ||| f1 5))) G2 r) ∧ (WS (hg / 6) (x2 ||| (thS f1 (hg / 6) &&& (f1 4 ||| f1 5))).toInt.toNat G3 G2 0) ∧ (∀ j, cp 1 (G3 j))) A) [.ref a0, .int x1, .int x2].toArray s 0 0 A) (F0 m 101 ls []) := by
              intro  H locs ls  hH hS hl
              refine lv_iload hx hb dX12_laysWhose_101 (lv_at hl 0 rfl) ?_
              refine lv_istore (lv' := [(4, .int p29_5), (5, .int p29_5), (3, .int v15), (0, .ref a0)]) hx hb dX12_laysWhose_103 hl (by decide) rfl (fun ls hl => ?_)
              exact J105 p29_5 _ _ _ (by omega) (by omega) (by first | exact i29 | exact i105 | (refine LQ_n ?_ ev47 ?_ x_v510 ?_ ?_ ?_ ?_ ev61 x_v640 ?_ <;> omega) | exact LQ_0) hH hS (lv_sub hl [1, 0, 2, 3] rfl)
            refine lv_icmp_eq (tgt := 101) hx hb dX12_laysWhose_75 (by decide) (fun c75 => ?_) (fun c75 => ?_)
            · skip
              have tc75 := f_eq (k := -1) (by decide) c75
              exact J101  _ _ _  hH hS (lv_sub hl [0, 2, 3] rfl)
            · skip
              have tc75 := f_ne (k := -1) (by decide) c75
              refine lv_aload_n hx hb dX12_laysWhose_78 rfl (lv_at hl 3 rfl) ?_
              refine lv_iconst (v := 1) hx hb dX12_laysWhose_79 (by decide) ?_
              refine lv_iload hx hb dX12_laysWhose_80 (lv_at hl 0 rfl) ?_
              refine lv_ishl hx hb dX12_laysWhose_82 ?_
              refine lv_topi (fun v82 ev82 => ?_)
              have tv82 : 1 ≤ v82.toInt ∧ v82.toInt ≤ 8192 := by rw [ev82]; exact shl_b 13 (by decide) (by omega) (by omega)
              refine lv_iload hx hb dX12_laysWhose_83 (lv_at hl 0 rfl) ?_
              refine tk_i hH hS hA (tr_V (n := 2) (As := [.int v82, .int p29_5]) hx hb hml hown hts hkb hH (ox_map hOX rfl) hks hE hS hA (s_M_moreByX l D cs kf T O X a0 hg mq v82 p29_5 f1 o0 y1 o2 o3 o4 o5 o6 o7 o8 o9 o10 o11 o12 o13 o14 y15 n2_1_16 y17 o18 o19 o20 o21 o22 o23 o24 o25 o26 o27 y28 tl F20_2 F2_3 t_a0 b_hg (by omega) (by omega) (by omega) (by omega) s_f1 g_f1 t_y1 t_y15 t_y17 t_y28 (hO.sub (by decide))) kw_1736 kw_1738 ks_102 kw_13 kw_1739 (by decide +kernel) ⟨Nat.le_of_ble_eq_true rfl, Nat.le_of_ble_eq_true rfl⟩ (x_recv (ci := 12) hkb hH 1 rfl rfl) rfl rfl hl.1 (Nat.le_of_ble_eq_true rfl) dX12_laysWhose_85 ⟨Nat.le_of_ble_eq_true rfl, Nat.le_of_ble_eq_true rfl⟩) (fun v85 u H locs hz9 hH hS => ?_)
              obtain ⟨rfl, x_v850⟩ := hz9
              have hH : HT D cs A T (y1 :: a0 :: y28 :: y17 :: O) ((y1, .inl (cs.2.1, 3906, .inl f1)) :: (a0, .inr (12, o0 :: (.ref y1) :: o2 :: o3 :: o4 :: o5 :: o6 :: o7 :: o8 :: o9 :: o10 :: o11 :: o12 :: o13 :: o14 :: (.ref y15) :: (.int n2_1_16) :: (.ref y17) :: o18 :: o19 :: o20 :: o21 :: o22 :: o23 :: o24 :: o25 :: o26 :: o27 :: (.ref y28) :: tl)) :: (y28, .inl (cs.1, 229376, .inl F20_2)) :: (y17, .inl (cs.2.1, 14, .inl F2_3)) :: X) H := hH
              refine W.widen (k := 0) (n := 0) (Nat.le_of_ble_eq_true rfl) (Nat.le_of_ble_eq_true rfl) ?_
              refine lv_aload_n hx hb dX12_laysWhose_88 rfl (lv_at hl 3 rfl) ?_
              refine lv_iconst (v := 1) hx hb dX12_laysWhose_89 (by decide) ?_
              refine lv_iload hx hb dX12_laysWhose_90 (lv_at hl 1 rfl) ?_
              refine lv_ishl hx hb dX12_laysWhose_92 ?_
              refine lv_topi (fun v92 ev92 => ?_)
              have tv92 : 1 ≤ v92.toInt ∧ v92.toInt ≤ 8192 := by rw [ev92]; exact shl_b 13 (by decide) (by omega) (by omega)
              refine lv_iload hx hb dX12_laysWhose_93 (lv_at hl 1 rfl) ?_
              refine tk_i hH hS hA (tr_V (n := 2) (As := [.int v92, .int p29_4]) hx hb hml hown hts hkb hH (ox_map hOX rfl) hks hE hS hA (s_M_moreByX l D cs kf T O X a0 hg mq v92 p29_4 f1 o0 y1 o2 o3 o4 o5 o6 o7 o8 o9 o10 o11 o12 o13 o14 y15 n2_1_16 y17 o18 o19 o20 o21 o22 o23 o24 o25 o26 o27 y28 tl F20_2 F2_3 t_a0 b_hg (by omega) (by omega) (by omega) (by omega) s_f1 g_f1 t_y1 t_y15 t_y17 t_y28 (hO.sub (by decide))) kw_1736 kw_1738 ks_102 kw_13 kw_1739 (by decide +kernel) ⟨Nat.le_of_ble_eq_true rfl, Nat.le_of_ble_eq_true rfl⟩ (x_recv (ci := 12) hkb hH 1 rfl rfl) rfl rfl hl.1 (Nat.le_of_ble_eq_true rfl) dX12_laysWhose_95 ⟨Nat.le_of_ble_eq_true rfl, Nat.le_of_ble_eq_true rfl⟩) (fun v95 u H locs hz9 hH hS => ?_)
              obtain ⟨rfl, x_v950⟩ := hz9
              have hH : HT D cs A T (y1 :: a0 :: y28 :: y17 :: O) ((y1, .inl (cs.2.1, 3906, .inl f1)) :: (a0, .inr (12, o0 :: (.ref y1) :: o2 :: o3 :: o4 :: o5 :: o6 :: o7 :: o8 :: o9 :: o10 :: o11 :: o12 :: o13 :: o14 :: (.ref y15) :: (.int n2_1_16) :: (.ref y17) :: o18 :: o19 :: o20 :: o21 :: o22 :: o23 :: o24 :: o25 :: o26 :: o27 :: (.ref y28) :: tl)) :: (y28, .inl (cs.1, 229376, .inl F20_2)) :: (y17, .inl (cs.2.1, 14, .inl F2_3)) :: X) H := hH
              refine W.widen (k := 0) (n := 0) (Nat.le_of_ble_eq_true rfl) (Nat.le_of_ble_eq_true rfl) ?_
              refine lv_icmp_ge (tgt := 105) hx hb dX12_laysWhose_98 (by decide) (fun c98 => ?_) (fun c98 => ?_)
              · skip
                have fuc98 := full_i v85
                have fvc98 := full_i v95
                have tc98 := g_le c98
                exact J105 p29_4 _ _ _ (by omega) (by omega) (by first | exact i29 | exact i105 | (refine LQ_n ?_ ev47 ?_ x_v510 ?_ ?_ ?_ ?_ ev61 x_v640 ?_ <;> omega) | exact LQ_0) hH hS (lv_sub hl [0, 1, 2, 3] rfl)
              · skip
                have fuc98 := full_i v85
                have fvc98 := full_i v95
                have tc98 := g_nle c98
                exact J101  _ _ _  hH hS (lv_sub hl [0, 2, 3] rfl)
  refine lv_istore (lv' := [(5, .int 0), (4, .int (-1)), (3, .int v15), (0, .ref a0), (1, .int x1), (2, .int x2)]) hx hb dX12_laysWhose_27 hl (by decide) rfl (fun ls hl => ?_)
  have z_m1 : ((-1) : Int32).toInt = -1 := by decide
  have z_0 : (0 : Int32).toInt = 0 := by decide
  exact J29 _ 0 (-1) _ _ _ rfl (by decide) (by decide) (by decide) (by decide) (by first | exact i29 | exact i105 | (refine LQ_n ?_ ev47 ?_ x_v510 ?_ ?_ ?_ ?_ ev61 x_v640 ?_ <;> omega) | exact LQ_0) hH hS (lv_sub hl [0, 1, 2, 3] rfl)
theorem dX12_order_0 : decode cX12_order 0 = .ok (.aload_n 0, 1) := by decide +kernel
theorem dX12_order_1 : decode cX12_order 1 = .ok (.iconst 0, 1) := by decide +kernel
theorem dX12_order_2 : decode cX12_order 2 = .ok (.putfield 1, 3) := by decide +kernel
theorem dX12_order_5 : decode cX12_order 5 = .ok (.aload_n 0, 1) := by decide +kernel
theorem dX12_order_6 : decode cX12_order 6 = .ok (.iload_n 1, 1) := by decide +kernel
theorem dX12_order_7 : decode cX12_order 7 = .ok (.i2l, 1) := by decide +kernel
theorem dX12_order_8 : decode cX12_order 8 = .ok (.invokevirtual 222, 3) := by decide +kernel
theorem dX12_order_11 : decode cX12_order 11 = .ok (.ifCond .eq 21, 3) := by decide +kernel
theorem dX12_order_14 : decode cX12_order 14 = .ok (.iload_n 3, 1) := by decide +kernel
theorem dX12_order_15 : decode cX12_order 15 = .ok (.ifCond .eq 20, 3) := by decide +kernel
theorem dX12_order_18 : decode cX12_order 18 = .ok (.iload_n 3, 1) := by decide +kernel
theorem dX12_order_19 : decode cX12_order 19 = .ok (.i2l, 1) := by decide +kernel
theorem dX12_order_20 : decode cX12_order 20 = .ok (.ldc2_w 318, 3) := by decide +kernel
theorem dX12_order_23 : decode cX12_order 23 = .ok (.ldc2_w 332, 3) := by decide +kernel
theorem dX12_order_26 : decode cX12_order 26 = .ok (.invokestatic 144, 3) := by decide +kernel
theorem dX12_order_29 : decode cX12_order 29 = .ok (.ifCond .ne 6, 3) := by decide +kernel
theorem dX12_order_32 : decode cX12_order 32 = .ok (.bipush (-2), 2) := by decide +kernel
theorem dX12_order_34 : decode cX12_order 34 = .ok (.ireturn, 1) := by decide +kernel
theorem dX12_order_35 : decode cX12_order 35 = .ok (.aload_n 0, 1) := by decide +kernel
theorem dX12_order_36 : decode cX12_order 36 = .ok (.iload_n 2, 1) := by decide +kernel
theorem dX12_order_37 : decode cX12_order 37 = .ok (.invokevirtual 381, 3) := by decide +kernel
theorem dX12_order_40 : decode cX12_order 40 = .ok (.ifCond .ne 6, 3) := by decide +kernel
theorem dX12_order_43 : decode cX12_order 43 = .ok (.bipush (-3), 2) := by decide +kernel
theorem dX12_order_45 : decode cX12_order 45 = .ok (.ireturn, 1) := by decide +kernel
theorem dX12_order_46 : decode cX12_order 46 = .ok (.aload_n 0, 1) := by decide +kernel
theorem dX12_order_47 : decode cX12_order 47 = .ok (.iload_n 1, 1) := by decide +kernel
theorem dX12_order_48 : decode cX12_order 48 = .ok (.iload_n 2, 1) := by decide +kernel
theorem dX12_order_49 : decode cX12_order 49 = .ok (.invokevirtual 384, 3) := by decide +kernel
theorem dX12_order_52 : decode cX12_order 52 = .ok (.istore 4, 2) := by decide +kernel
theorem dX12_order_54 : decode cX12_order 54 = .ok (.iload 4, 2) := by decide +kernel
theorem dX12_order_56 : decode cX12_order 56 = .ok (.iconst (-1), 1) := by decide +kernel
theorem dX12_order_57 : decode cX12_order 57 = .ok (.if_icmp .ne 5, 3) := by decide +kernel
theorem dX12_order_60 : decode cX12_order 60 = .ok (.iconst (-1), 1) := by decide +kernel
theorem dX12_order_61 : decode cX12_order 61 = .ok (.ireturn, 1) := by decide +kernel
theorem dX12_order_62 : decode cX12_order 62 = .ok (.iload_n 2, 1) := by decide +kernel
theorem dX12_order_63 : decode cX12_order 63 = .ok (.aload_n 0, 1) := by decide +kernel
theorem dX12_order_64 : decode cX12_order 64 = .ok (.invokevirtual 372, 3) := by decide +kernel
theorem dX12_order_67 : decode cX12_order 67 = .ok (.aload_n 0, 1) := by decide +kernel
theorem dX12_order_68 : decode cX12_order 68 = .ok (.invokevirtual 272, 3) := by decide +kernel
theorem dX12_order_71 : decode cX12_order 71 = .ok (.iand, 1) := by decide +kernel
theorem dX12_order_72 : decode cX12_order 72 = .ok (.ior, 1) := by decide +kernel
theorem dX12_order_73 : decode cX12_order 73 = .ok (.istore 5, 2) := by decide +kernel
theorem dX12_order_75 : decode cX12_order 75 = .ok (.iconst 1, 1) := by decide +kernel
theorem dX12_order_76 : decode cX12_order 76 = .ok (.iload 4, 2) := by decide +kernel
theorem dX12_order_78 : decode cX12_order 78 = .ok (.ishl, 1) := by decide +kernel
theorem dX12_order_79 : decode cX12_order 79 = .ok (.istore 6, 2) := by decide +kernel
theorem dX12_order_81 : decode cX12_order 81 = .ok (.aload_n 0, 1) := by decide +kernel
theorem dX12_order_82 : decode cX12_order 82 = .ok (.iload 6, 2) := by decide +kernel
theorem dX12_order_84 : decode cX12_order 84 = .ok (.iload 4, 2) := by decide +kernel
theorem dX12_order_86 : decode cX12_order 86 = .ok (.invokevirtual 378, 3) := by decide +kernel
theorem dX12_order_89 : decode cX12_order 89 = .ok (.iconst 1, 1) := by decide +kernel
theorem dX12_order_90 : decode cX12_order 90 = .ok (.iadd, 1) := by decide +kernel
theorem dX12_order_91 : decode cX12_order 91 = .ok (.istore 7, 2) := by decide +kernel
theorem dX12_order_93 : decode cX12_order 93 = .ok (.iload_n 3, 1) := by decide +kernel
theorem dX12_order_94 : decode cX12_order 94 = .ok (.ifCond .ne 6, 3) := by decide +kernel
theorem dX12_order_97 : decode cX12_order 97 = .ok (.iload 7, 2) := by decide +kernel
theorem dX12_order_99 : decode cX12_order 99 = .ok (.ireturn, 1) := by decide +kernel
theorem dX12_order_100 : decode cX12_order 100 = .ok (.iload_n 3, 1) := by decide +kernel
theorem dX12_order_101 : decode cX12_order 101 = .ok (.bipush 10, 2) := by decide +kernel
theorem dX12_order_103 : decode cX12_order 103 = .ok (.isub, 1) := by decide +kernel
theorem dX12_order_104 : decode cX12_order 104 = .ok (.iload 7, 2) := by decide +kernel
theorem dX12_order_106 : decode cX12_order 106 = .ok (.if_icmp .lt 5, 3) := by decide +kernel
theorem dX12_order_109 : decode cX12_order 109 = .ok (.iconst (-1), 1) := by decide +kernel
theorem dX12_order_110 : decode cX12_order 110 = .ok (.ireturn, 1) := by decide +kernel
theorem dX12_order_111 : decode cX12_order 111 = .ok (.iconst 0, 1) := by decide +kernel
theorem dX12_order_112 : decode cX12_order 112 = .ok (.istore 8, 2) := by decide +kernel
theorem dX12_order_114 : decode cX12_order 114 = .ok (.iload 8, 2) := by decide +kernel
theorem dX12_order_116 : decode cX12_order 116 = .ok (.iload_n 3, 1) := by decide +kernel
theorem dX12_order_117 : decode cX12_order 117 = .ok (.bipush 10, 2) := by decide +kernel
theorem dX12_order_119 : decode cX12_order 119 = .ok (.isub, 1) := by decide +kernel
theorem dX12_order_120 : decode cX12_order 120 = .ok (.if_icmp .ge 85, 3) := by decide +kernel
theorem dX12_order_123 : decode cX12_order 123 = .ok (.aload_n 0, 1) := by decide +kernel
theorem dX12_order_124 : decode cX12_order 124 = .ok (.iload 6, 2) := by decide +kernel
theorem dX12_order_126 : decode cX12_order 126 = .ok (.iload 4, 2) := by decide +kernel
theorem dX12_order_128 : decode cX12_order 128 = .ok (.invokevirtual 378, 3) := by decide +kernel
theorem dX12_order_131 : decode cX12_order 131 = .ok (.iconst 1, 1) := by decide +kernel
theorem dX12_order_132 : decode cX12_order 132 = .ok (.isub, 1) := by decide +kernel
theorem dX12_order_133 : decode cX12_order 133 = .ok (.istore 9, 2) := by decide +kernel
theorem dX12_order_135 : decode cX12_order 135 = .ok (.iconst 0, 1) := by decide +kernel
theorem dX12_order_136 : decode cX12_order 136 = .ok (.istore 10, 2) := by decide +kernel
theorem dX12_order_138 : decode cX12_order 138 = .ok (.aload_n 0, 1) := by decide +kernel
theorem dX12_order_139 : decode cX12_order 139 = .ok (.getfield 33, 3) := by decide +kernel
theorem dX12_order_142 : decode cX12_order 142 = .ok (.iload 4, 2) := by decide +kernel
theorem dX12_order_144 : decode cX12_order 144 = .ok (.iaload, 1) := by decide +kernel
theorem dX12_order_145 : decode cX12_order 145 = .ok (.iload 5, 2) := by decide +kernel
theorem dX12_order_147 : decode cX12_order 147 = .ok (.iand, 1) := by decide +kernel
theorem dX12_order_148 : decode cX12_order 148 = .ok (.iload 6, 2) := by decide +kernel
theorem dX12_order_150 : decode cX12_order 150 = .ok (.iconst (-1), 1) := by decide +kernel
theorem dX12_order_151 : decode cX12_order 151 = .ok (.ixor, 1) := by decide +kernel
theorem dX12_order_152 : decode cX12_order 152 = .ok (.iand, 1) := by decide +kernel
theorem dX12_order_153 : decode cX12_order 153 = .ok (.i2l, 1) := by decide +kernel
theorem dX12_order_154 : decode cX12_order 154 = .ok (.iload 10, 2) := by decide +kernel
theorem dX12_order_156 : decode cX12_order 156 = .ok (.invokestatic 186, 3) := by decide +kernel
theorem dX12_order_159 : decode cX12_order 159 = .ok (.ifCond .eq 21, 3) := by decide +kernel
theorem dX12_order_162 : decode cX12_order 162 = .ok (.aload_n 0, 1) := by decide +kernel
theorem dX12_order_163 : decode cX12_order 163 = .ok (.iload 6, 2) := by decide +kernel
theorem dX12_order_165 : decode cX12_order 165 = .ok (.iconst 1, 1) := by decide +kernel
theorem dX12_order_166 : decode cX12_order 166 = .ok (.iload 10, 2) := by decide +kernel
theorem dX12_order_168 : decode cX12_order 168 = .ok (.ishl, 1) := by decide +kernel
theorem dX12_order_169 : decode cX12_order 169 = .ok (.ior, 1) := by decide +kernel
theorem dX12_order_170 : decode cX12_order 170 = .ok (.iload 10, 2) := by decide +kernel
theorem dX12_order_172 : decode cX12_order 172 = .ok (.invokevirtual 378, 3) := by decide +kernel
theorem dX12_order_175 : decode cX12_order 175 = .ok (.iload 9, 2) := by decide +kernel
theorem dX12_order_177 : decode cX12_order 177 = .ok (.if_icmp .eq 9, 3) := by decide +kernel
theorem dX12_order_180 : decode cX12_order 180 = .ok (.iinc 10 1, 3) := by decide +kernel
theorem dX12_order_183 : decode cX12_order 183 = .ok (.goto (-45), 3) := by decide +kernel
theorem dX12_order_186 : decode cX12_order 186 = .ok (.iload 10, 2) := by decide +kernel
theorem dX12_order_188 : decode cX12_order 188 = .ok (.istore 4, 2) := by decide +kernel
theorem dX12_order_190 : decode cX12_order 190 = .ok (.iload 6, 2) := by decide +kernel
theorem dX12_order_192 : decode cX12_order 192 = .ok (.iconst 1, 1) := by decide +kernel
theorem dX12_order_193 : decode cX12_order 193 = .ok (.iload 10, 2) := by decide +kernel
theorem dX12_order_195 : decode cX12_order 195 = .ok (.ishl, 1) := by decide +kernel
theorem dX12_order_196 : decode cX12_order 196 = .ok (.ior, 1) := by decide +kernel
theorem dX12_order_197 : decode cX12_order 197 = .ok (.istore 6, 2) := by decide +kernel
theorem dX12_order_199 : decode cX12_order 199 = .ok (.iinc 8 1, 3) := by decide +kernel
theorem dX12_order_202 : decode cX12_order 202 = .ok (.goto (-88), 3) := by decide +kernel
theorem dX12_order_205 : decode cX12_order 205 = .ok (.iload 4, 2) := by decide +kernel
theorem dX12_order_207 : decode cX12_order 207 = .ok (.ireturn, 1) := by decide +kernel
