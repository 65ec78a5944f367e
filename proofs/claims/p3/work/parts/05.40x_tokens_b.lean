set_option maxHeartbeats 4000000 in
set_option maxRecDepth 100000 in
theorem s_Tok_isWord (l : Launch) (D : va_G) (cs : CS) (kf : KF) (T : TF) (O : List Nat) (X : va_W) (a0 : Nat) (a1 : Nat) (y0 : Nat) (y1 : Int32) (y2 : Int32) (y3 : Int32) (y4 : Int32) (y5 : Int32) (y6 : Int32) (y7 : Int32) (ft : Nat → Int32) (t : Tp) (tn : Nat) (kk : Nat) (t_a0 : T a0 = some (17, 0, 0)) (t_a1 : a1 < 21) (t_y0 : T y0 = some (0, 900, 0)) (l_y1 : 0 ≤ y1.toInt) (u_y1 : y1.toInt ≤ 900) (l_y2 : 0 ≤ y2.toInt) (u_y2 : y2.toInt ≤ 900) (l_y3 : 0 ≤ y3.toInt) (u_y3 : y3.toInt ≤ 900) (hn : y1.toInt = (tn : Int)) (htb : TB ft t) (hto : TSS t tn y2 y3 y4 y5) (hk : kst.getD kk 0 = a1) (hkk : kk < 19) (hO : okO T (a0 :: y0 :: O) []) : TK l D cs kf yX7_isWord cX7_isWord 3 (some (.boolean)) { frames := 4, cells := 0, slots := 0, locals := 85 } [.ref a0, .ref (kf.1 a1)] T (a0 :: y0 :: O) ((a0, .inr (7, [.ref y0, .int y1, .int y2, .int y3, .int y4, .int y5, .int y6, .int y7])) :: (y0, .inl (cs.1, 900, .inl ft)) :: X) (Ti D cs (fun r u => u = (T, a0 :: y0 :: O, (a0, .inr (7, [.ref y0, .int y1, .int y2, .int y3, .int y4, .int y5, .int y6, .int y7])) :: (y0, .inl (cs.1, 900, .inl ft)) :: X) ∧ 0 ≤ r.toInt ∧ r.toInt ≤ 1 ∧ (r.toInt = 0 ∨ kd t tn y2.toInt.toNat = kk) ∧ (r.toInt ≠ 0 ∨ kd t tn y2.toInt.toNat ≠ kk))) := by
  refine tk_of (by decide) (Nat.le_of_ble_eq_true rfl) (fun p e s m below meth c ls A H locs hx hb hr hml hown hts hlocks hnm hkb hH hS hA hOX hks hE hl => ?_)
  have hown : s.vm.findClass RX7 = some m.cls := hown
  have hl : lv_has ls 3 [(0, .ref a0), (1, .ref (kf.1 a1))] := hl
  have hOXf := hOX
  have hb9 := hto.b
  refine lv_aload_n hx hb dX7_isWord_0 rfl (lv_at hl 0 rfl) ?_
  refine x_getk (ci := 7) (C := RX7) (F := TX7) (N := 8) (v := .int y4) hx hb hts uX7 hown hkb hH 0 rfl rfl 4 (by decide) rfl kw_48 (fun _ h9 => h9) dX7_isWord_1 ?_
  refine lv_iconst (v := 1) hx hb dX7_isWord_4 (by decide) ?_
  refine lv_icmp_ne (tgt := 24) hx hb dX7_isWord_5 (by decide) (fun c5 => ?_) (fun c5 => ?_)
  · skip
    have tc5 := f_ne (k := 1) (by decide) c5
    refine lv_iconst (v := 0) hx hb dX7_isWord_24 (by decide) ?_
    have z9_0 : (0 : Int32).toInt = 0 := by decide
    exact te_z hx hb hr hlocks (by rfl) hH hS (⟨rfl, by decide, by decide, Or.inl (by decide), (by first | (refine Or.inr (isW_k hto ?_ hkk); omega) | (refine Or.inr (isW_l hto ?_ hk hkk ?_) <;> omega) | (refine Or.inr (isW_c htb hto ?_ hk hkk ?_ ?_ tv46 ?_ x_v490 tc52) <;> omega))⟩) dX7_isWord_25
  · skip
    have tc5 := f_eq (k := 1) (by decide) c5
    refine lv_aload_n hx hb dX7_isWord_8 rfl (lv_at hl 0 rfl) ?_
    refine x_getk (ci := 7) (C := RX7) (F := TX7) (N := 8) (v := .int y3) hx hb hts uX7 hown hkb hH 0 rfl rfl 3 (by decide) rfl kw_47 (fun _ h9 => h9) dX7_isWord_9 ?_
    refine lv_aload_n hx hb dX7_isWord_12 rfl (lv_at hl 0 rfl) ?_
    refine x_getk (ci := 7) (C := RX7) (F := TX7) (N := 8) (v := .int y2) hx hb hts uX7 hown hkb hH 0 rfl rfl 2 (by decide) rfl kw_46 (fun _ h9 => h9) dX7_isWord_13 ?_
    refine lv_isub hx hb dX7_isWord_16 ?_
    refine lv_topi (fun v16 ev16 => ?_)
    have tv16 : v16.toInt = y3.toInt - y2.toInt := by rw [ev16]; exact sub_i rfl rfl (by omega) (by omega)
    refine lv_aload_n hx hb dX7_isWord_17 rfl (lv_at hl 1 rfl) ?_
    refine tk_i hH hS hA (tr_V (n := 0) (As := []) hx hb hml hown hts hkb hH (ox_map hOX rfl) hks hE hS hA (s_length l D cs kf T (a0 :: y0 :: O) ((a0, .inr (7, [.ref y0, .int y1, .int y2, .int y3, .int y4, .int y5, .int y6, .int y7])) :: (y0, .inl (cs.1, 900, .inl ft)) :: X) a1 t_a1 (hO.sub (by decide))) kw_554 kw_478 kw_479 kw_14 kw_480 (by decide +kernel) ⟨Nat.le_of_ble_eq_true rfl, Nat.le_of_ble_eq_true rfl⟩ (vk_recv hE.1 t_a1 hS) rfl rfl hl.1 (Nat.le_of_ble_eq_true rfl) dX7_isWord_18 ⟨Nat.le_of_ble_eq_true rfl, Nat.le_of_ble_eq_true rfl⟩) (fun v18 u H locs hz9 hH hS => ?_)
    obtain ⟨rfl, l_v18, u_v18, x_v180⟩ := hz9
    have hH : HT D cs A T (a0 :: y0 :: O) ((a0, .inr (7, [.ref y0, .int y1, .int y2, .int y3, .int y4, .int y5, .int y6, .int y7])) :: (y0, .inl (cs.1, 900, .inl ft)) :: X) H := hH
    refine W.widen (k := 0) (n := 0) (Nat.le_of_ble_eq_true rfl) (Nat.le_of_ble_eq_true rfl) ?_
    refine lv_icmp_eq (tgt := 26) hx hb dX7_isWord_21 (by decide) (fun c21 => ?_) (fun c21 => ?_)
    · skip
      have fuc21 := full_i v16
      have fvc21 := full_i v18
      have tc21 := g_eq c21
      refine lv_iconst (v := 0) hx hb dX7_isWord_26 (by decide) ?_
      have J28 : ∀ (n : Nat) (p28_2 : Int32) (H : Heap) (locs : List Loc) (ls : Array Slot), (99 - p28_2.toInt).toNat = n → (0 ≤ p28_2.toInt) → (p28_2.toInt ≤ 99) → (WI a1 t y2.toInt.toNat p28_2.toInt.toNat) → HT D cs A T (a0 :: y0 :: O) ((a0, .inr (7, [.ref y0, .int y1, .int y2, .int y3, .int y4, .int y5, .int y6, .int y7])) :: (y0, .inl (cs.1, 900, .inl ft)) :: X) H → va_S A s.heap H locs → lv_has ls 3 [(2, .int p28_2), (0, .ref a0), (1, .ref (kf.1 a1))] → W p l e { frames := 4, cells := 0, slots := 0, locals := 85 } s m [.ref a0, .ref (kf.1 a1)].toArray below meth c H locs 0 0 (MQ below (Ti D cs (fun r u => u = (T, a0 :: y0 :: O, (a0, .inr (7, [.ref y0, .int y1, .int y2, .int y3, .int y4, .int y5, .int y6, .int y7])) :: (y0, .inl (cs.1, 900, .inl ft)) :: X) ∧ 0 ≤ r.toInt ∧ r.toInt ≤ 1 ∧ (r.toInt = 0 ∨ kd t tn y2.toInt.toNat = kk) ∧ (r.toInt ≠ 0 ∨ kd t tn y2.toInt.toNat ≠ kk)) A) [.ref a0, .ref (kf.1 a1)].toArray s 0 0 A) (F0 m 28 ls []) := by
        intro n
        induction n using Nat.strongRecOn with
        | _ n ih28 =>
          intro p28_2 H locs ls hm28 l_p28_2 u_p28_2 i28 hH hS hl
          refine lv_iload_n hx hb dX7_isWord_28 rfl (lv_at hl 0 rfl) ?_
          refine lv_aload_n hx hb dX7_isWord_29 rfl (lv_at hl 2 rfl) ?_
          refine tk_i hH hS hA (tr_V (n := 0) (As := []) hx hb hml hown hts hkb hH (ox_map hOX rfl) hks hE hS hA (s_length l D cs kf T (a0 :: y0 :: O) ((a0, .inr (7, [.ref y0, .int y1, .int y2, .int y3, .int y4, .int y5, .int y6, .int y7])) :: (y0, .inl (cs.1, 900, .inl ft)) :: X) a1 t_a1 (hO.sub (by decide))) kw_554 kw_478 kw_479 kw_14 kw_480 (by decide +kernel) ⟨Nat.le_of_ble_eq_true rfl, Nat.le_of_ble_eq_true rfl⟩ (vk_recv hE.1 t_a1 hS) rfl rfl hl.1 (Nat.le_of_ble_eq_true rfl) dX7_isWord_30 ⟨Nat.le_of_ble_eq_true rfl, Nat.le_of_ble_eq_true rfl⟩) (fun v30 u H locs hz9 hH hS => ?_)
          obtain ⟨rfl, l_v30, u_v30, x_v300⟩ := hz9
          have hH : HT D cs A T (a0 :: y0 :: O) ((a0, .inr (7, [.ref y0, .int y1, .int y2, .int y3, .int y4, .int y5, .int y6, .int y7])) :: (y0, .inl (cs.1, 900, .inl ft)) :: X) H := hH
          refine W.widen (k := 0) (n := 0) (Nat.le_of_ble_eq_true rfl) (Nat.le_of_ble_eq_true rfl) ?_
          refine lv_icmp_ge (tgt := 63) hx hb dX7_isWord_33 (by decide) (fun c33 => ?_) (fun c33 => ?_)
          · skip
            have fuc33 := full_i p28_2
            have fvc33 := full_i v30
            have tc33 := g_le c33
            refine lv_iconst (v := 1) hx hb dX7_isWord_63 (by decide) ?_
            have z9_1 : (1 : Int32).toInt = 1 := by decide
            exact te_z hx hb hr hlocks (by rfl) hH hS (⟨rfl, by decide, by decide, Or.inr (isW_1 hto (by omega) hk hkk (by omega) i28 (by omega)), Or.inl (by decide)⟩) dX7_isWord_64
          · skip
            have fuc33 := full_i p28_2
            have fvc33 := full_i v30
            have tc33 := g_nle c33
            refine lv_aload_n hx hb dX7_isWord_36 rfl (lv_at hl 1 rfl) ?_
            refine x_getk (ci := 7) (C := RX7) (F := TX7) (N := 8) (v := .ref y0) hx hb hts uX7 hown hkb hH 0 rfl rfl 0 (by decide) rfl kw_44 (fun _ h9 => h9) dX7_isWord_37 ?_
            refine lv_aload_n hx hb dX7_isWord_40 rfl (lv_at hl 1 rfl) ?_
            refine x_getk (ci := 7) (C := RX7) (F := TX7) (N := 8) (v := .int y2) hx hb hts uX7 hown hkb hH 0 rfl rfl 2 (by decide) rfl kw_46 (fun _ h9 => h9) dX7_isWord_41 ?_
            refine lv_iload_n hx hb dX7_isWord_44 rfl (lv_at hl 0 rfl) ?_
            refine lv_iadd hx hb dX7_isWord_45 ?_
            refine lv_topi (fun v45 ev45 => ?_)
            have tv45 : v45.toInt = y2.toInt + p28_2.toInt := by rw [ev45]; exact add_i rfl rfl (by omega) (by omega)
            refine xa_bld hx hb hkb hH 1 rfl (by omega) (by omega) dX7_isWord_46 ?_
            refine lv_topi (fun v46 ev46 => ?_)
            have tv46 : v46 = ft v45.toInt.toNat := ev46
            refine lv_aload_n hx hb dX7_isWord_47 rfl (lv_at hl 2 rfl) ?_
            refine lv_iload_n hx hb dX7_isWord_48 rfl (lv_at hl 0 rfl) ?_
            refine tk_i hH hS hA (tr_V (n := 1) (As := [.int p28_2]) hx hb hml hown hts hkb hH (ox_map hOX rfl) hks hE hS hA (s_charAt2 l D cs kf T (a0 :: y0 :: O) ((a0, .inr (7, [.ref y0, .int y1, .int y2, .int y3, .int y4, .int y5, .int y6, .int y7])) :: (y0, .inl (cs.1, 900, .inl ft)) :: X) a1 p28_2 t_a1 (by omega) (by omega) (hO.sub (by decide))) kw_555 kw_556 kw_557 kw_14 kw_558 (by decide +kernel) ⟨Nat.le_of_ble_eq_true rfl, Nat.le_of_ble_eq_true rfl⟩ (vk_recv hE.1 t_a1 hS) rfl rfl hl.1 (Nat.le_of_ble_eq_true rfl) dX7_isWord_49 ⟨Nat.le_of_ble_eq_true rfl, Nat.le_of_ble_eq_true rfl⟩) (fun v49 u H locs hz9 hH hS => ?_)
            obtain ⟨rfl, l_v49, u_v49, x_v490⟩ := hz9
            have hH : HT D cs A T (a0 :: y0 :: O) ((a0, .inr (7, [.ref y0, .int y1, .int y2, .int y3, .int y4, .int y5, .int y6, .int y7])) :: (y0, .inl (cs.1, 900, .inl ft)) :: X) H := hH
            refine W.widen (k := 0) (n := 0) (Nat.le_of_ble_eq_true rfl) (Nat.le_of_ble_eq_true rfl) ?_
            refine lv_icmp_eq (tgt := 57) hx hb dX7_isWord_52 (by decide) (fun c52 => ?_) (fun c52 => ?_)
            · skip
              have fuc52 := full_i v46
              have fvc52 := full_i v49
              have tc52 := g_eq c52
              obtain ⟨v57, ev57⟩ : ∃ y : Int32, y = p28_2 + 1 := ⟨_, rfl⟩
              have tv57 : v57.toInt = p28_2.toInt + (1) := by rw [ev57]; exact add_i rfl (by decide) (by omega) (by omega)
              refine lv_iinc (v := v57) (lv' := [(2, .int v57), (0, .ref a0), (1, .ref (kf.1 a1))]) hx hb dX7_isWord_57 hl (k := 0) rfl (by rw [ev57]; rfl) (by decide) rfl (fun ls hl => ?_)
              refine lv_goto (tgt := 28) hx hb dX7_isWord_60 (by decide) ?_
              exact ih28 _ (by omega) v57 _ _ _ rfl (by omega) (by omega) (by first | (refine WI_0 ?_; decide) | (refine WI_s htb i28 ?_ tv46 ?_ x_v490 tc52 tv57 <;> omega)) hH hS (lv_sub hl [0, 1, 2] rfl)
            · skip
              have fuc52 := full_i v46
              have fvc52 := full_i v49
              have tc52 := g_ne c52
              refine lv_iconst (v := 0) hx hb dX7_isWord_55 (by decide) ?_
              have z9_0 : (0 : Int32).toInt = 0 := by decide
              exact te_z hx hb hr hlocks (by rfl) hH hS (⟨rfl, by decide, by decide, Or.inl (by decide), (by first | (refine Or.inr (isW_k hto ?_ hkk); omega) | (refine Or.inr (isW_l hto ?_ hk hkk ?_) <;> omega) | (refine Or.inr (isW_c htb hto ?_ hk hkk ?_ ?_ tv46 ?_ x_v490 tc52) <;> omega))⟩) dX7_isWord_56
      refine lv_istore_n (lv' := [(2, .int 0), (0, .ref a0), (1, .ref (kf.1 a1))]) hx hb dX7_isWord_27 rfl hl (by decide) rfl (fun ls hl => ?_)
      have z_0 : (0 : Int32).toInt = 0 := by decide
      exact J28 _ 0 _ _ _ rfl (by decide) (by decide) (by first | (refine WI_0 ?_; decide) | (refine WI_s htb i28 ?_ tv46 ?_ x_v490 tc52 tv57 <;> omega)) hH hS (lv_sub hl [0, 1, 2] rfl)
    · skip
      have fuc21 := full_i v16
      have fvc21 := full_i v18
      have tc21 := g_ne c21
      refine lv_iconst (v := 0) hx hb dX7_isWord_24 (by decide) ?_
      have z9_0 : (0 : Int32).toInt = 0 := by decide
      exact te_z hx hb hr hlocks (by rfl) hH hS (⟨rfl, by decide, by decide, Or.inl (by decide), (by first | (refine Or.inr (isW_k hto ?_ hkk); omega) | (refine Or.inr (isW_l hto ?_ hk hkk ?_) <;> omega) | (refine Or.inr (isW_c htb hto ?_ hk hkk ?_ ?_ tv46 ?_ x_v490 tc52) <;> omega))⟩) dX7_isWord_25
set_option maxHeartbeats 4000000 in
set_option maxRecDepth 100000 in
theorem s_Tok_isSign (l : Launch) (D : va_G) (cs : CS) (kf : KF) (T : TF) (O : List Nat) (X : va_W) (a0 : Nat) (x1 : Int32) (y0 : Nat) (y1 : Int32) (y2 : Int32) (y3 : Int32) (y4 : Int32) (y5 : Int32) (y6 : Int32) (y7 : Int32) (ft : Nat → Int32) (t : Tp) (tn : Nat) (kk : Nat) (t_a0 : T a0 = some (17, 0, 0)) (t_y0 : T y0 = some (0, 900, 0)) (l_y1 : 0 ≤ y1.toInt) (u_y1 : y1.toInt ≤ 900) (l_y2 : 0 ≤ y2.toInt) (u_y2 : y2.toInt ≤ 900) (l_y3 : 0 ≤ y3.toInt) (u_y3 : y3.toInt ≤ 900) (hn : y1.toInt = (tn : Int)) (htb : TB ft t) (hto : TSS t tn y2 y3 y4 y5) (hk : sgk x1.toInt = kk) (h30 : 30 ≤ kk) (hO : okO T (a0 :: y0 :: O) []) : TK l D cs kf yX7_isSign cX7_isSign 2 (some (.boolean)) { frames := 0, cells := 0, slots := 0, locals := 0 } [.ref a0, .int x1] T (a0 :: y0 :: O) ((a0, .inr (7, [.ref y0, .int y1, .int y2, .int y3, .int y4, .int y5, .int y6, .int y7])) :: (y0, .inl (cs.1, 900, .inl ft)) :: X) (Ti D cs (fun r u => u = (T, a0 :: y0 :: O, (a0, .inr (7, [.ref y0, .int y1, .int y2, .int y3, .int y4, .int y5, .int y6, .int y7])) :: (y0, .inl (cs.1, 900, .inl ft)) :: X) ∧ 0 ≤ r.toInt ∧ r.toInt ≤ 1 ∧ (r.toInt = 0 ∨ kd t tn y2.toInt.toNat = kk) ∧ (r.toInt ≠ 0 ∨ kd t tn y2.toInt.toNat ≠ kk))) := by
  refine tk_of (by decide) (Nat.le_of_ble_eq_true rfl) (fun p e s m below meth c ls A H locs hx hb hr hml hown hts hlocks hnm hkb hH hS hA hOX hks hE hl => ?_)
  have hown : s.vm.findClass RX7 = some m.cls := hown
  have hl : lv_has ls 2 [(0, .ref a0), (1, .int x1)] := hl
  have hOXf := hOX
  refine lv_aload_n hx hb dX7_isSign_0 rfl (lv_at hl 0 rfl) ?_
  refine x_getk (ci := 7) (C := RX7) (F := TX7) (N := 8) (v := .int y4) hx hb hts uX7 hown hkb hH 0 rfl rfl 4 (by decide) rfl kw_48 (fun _ h9 => h9) dX7_isSign_1 ?_
  refine lv_iconst (v := 3) hx hb dX7_isSign_4 (by decide) ?_
  refine lv_icmp_ne (tgt := 20) hx hb dX7_isSign_5 (by decide) (fun c5 => ?_) (fun c5 => ?_)
  · skip
    have tc5 := f_ne (k := 3) (by decide) c5
    refine lv_iconst (v := 0) hx hb dX7_isSign_20 (by decide) ?_
    have z9_0 : (0 : Int32).toInt = 0 := by decide
    exact te_z hx hb hr hlocks (by rfl) hH hS (⟨rfl, by decide, by decide, Or.inl (by decide), (by first | (refine Or.inr (isS_k hto h30 ?_); omega) | (refine Or.inr (isS_v hto hk h30 ?_ ?_) <;> omega))⟩) dX7_isSign_21
  · skip
    have tc5 := f_eq (k := 3) (by decide) c5
    refine lv_aload_n hx hb dX7_isSign_8 rfl (lv_at hl 0 rfl) ?_
    refine x_getk (ci := 7) (C := RX7) (F := TX7) (N := 8) (v := .int y5) hx hb hts uX7 hown hkb hH 0 rfl rfl 5 (by decide) rfl kw_51 (fun _ h9 => h9) dX7_isSign_9 ?_
    refine lv_iload_n hx hb dX7_isSign_12 rfl (lv_at hl 1 rfl) ?_
    refine lv_icmp_ne (tgt := 20) hx hb dX7_isSign_13 (by decide) (fun c13 => ?_) (fun c13 => ?_)
    · skip
      have fuc13 := full_i y5
      have fvc13 := full_i x1
      have tc13 := g_ne c13
      refine lv_iconst (v := 0) hx hb dX7_isSign_20 (by decide) ?_
      have z9_0 : (0 : Int32).toInt = 0 := by decide
      exact te_z hx hb hr hlocks (by rfl) hH hS (⟨rfl, by decide, by decide, Or.inl (by decide), (by first | (refine Or.inr (isS_k hto h30 ?_); omega) | (refine Or.inr (isS_v hto hk h30 ?_ ?_) <;> omega))⟩) dX7_isSign_21
    · skip
      have fuc13 := full_i y5
      have fvc13 := full_i x1
      have tc13 := g_eq c13
      refine lv_iconst (v := 1) hx hb dX7_isSign_16 (by decide) ?_
      refine lv_goto (tgt := 21) hx hb dX7_isSign_17 (by decide) ?_
      have z9_1 : (1 : Int32).toInt = 1 := by decide
      exact te_z hx hb hr hlocks (by rfl) hH hS (⟨rfl, by decide, by decide, Or.inr (isS_1 hto hk (by omega) (by omega)), Or.inl (by decide)⟩) dX7_isSign_21
set_option maxHeartbeats 4000000 in
set_option maxRecDepth 100000 in
theorem s_Tok_refuse (l : Launch) (D : va_G) (cs : CS) (kf : KF) (T : TF) (O : List Nat) (X : va_W) (a0 : Nat) (x1 : Int32) (y0 : Nat) (y1 : Int32) (y2 : Int32) (y3 : Int32) (y4 : Int32) (y5 : Int32) (y6 : Int32) (y7 : Int32) (ft : Nat → Int32) (t : Tp) (tn : Nat) (t_a0 : T a0 = some (17, 0, 0)) (t_y0 : T y0 = some (0, 900, 0)) (l_y1 : 0 ≤ y1.toInt) (u_y1 : y1.toInt ≤ 900) (l_y2 : 0 ≤ y2.toInt) (u_y2 : y2.toInt ≤ 900) (l_y3 : 0 ≤ y3.toInt) (u_y3 : y3.toInt ≤ 900) (hn : y1.toInt = (tn : Int)) (htb : TB ft t) (hto : TSS t tn y2 y3 y4 y5) (hO : okO T (a0 :: y0 :: O) []) : TK l D cs kf yX7_refuse cX7_refuse 2 (some (.boolean)) { frames := 0, cells := 0, slots := 0, locals := 0 } [.ref a0, .int x1] T (a0 :: y0 :: O) ((a0, .inr (7, [.ref y0, .int y1, .int y2, .int y3, .int y4, .int y5, .int y6, .int y7])) :: (y0, .inl (cs.1, 900, .inl ft)) :: X) (Ti D cs (fun r u => ∃ (n0_6 : Int32) (n0_7 : Int32), u = (T, a0 :: y0 :: O, (a0, .inr (7, [.ref y0, .int y1, .int y2, .int y3, .int y4, .int y5, .int n0_6, .int n0_7])) :: (y0, .inl (cs.1, 900, .inl ft)) :: X) ∧ 0 ≤ r.toInt ∧ r.toInt ≤ 0 ∧ (n0_6.toInt = fwf (kd t tn y2.toInt.toNat) x1.toInt) ∧ (n0_7.toInt = y2.toInt))) := by
  refine tk_of (by decide) (Nat.le_of_ble_eq_true rfl) (fun p e s m below meth c ls A H locs hx hb hr hml hown hts hlocks hnm hkb hH hS hA hOX hks hE hl => ?_)
  have hown : s.vm.findClass RX7 = some m.cls := hown
  have hl : lv_has ls 2 [(0, .ref a0), (1, .int x1)] := hl
  have hOXf := hOX
  refine lv_aload_n hx hb dX7_refuse_0 rfl (lv_at hl 0 rfl) ?_
  refine lv_aload_n hx hb dX7_refuse_1 rfl (lv_at hl 0 rfl) ?_
  refine x_getk (ci := 7) (C := RX7) (F := TX7) (N := 8) (v := .int y4) hx hb hts uX7 hown hkb hH 0 rfl rfl 4 (by decide) rfl kw_48 (fun _ h9 => h9) dX7_refuse_2 ?_
  refine lv_iconst (v := 4) hx hb dX7_refuse_5 (by decide) ?_
  refine lv_icmp_ne (tgt := 13) hx hb dX7_refuse_6 (by decide) (fun c6 => ?_) (fun c6 => ?_)
  · skip
    have tc6 := f_ne (k := 4) (by decide) c6
    refine lv_iload_n hx hb dX7_refuse_13 rfl (lv_at hl 1 rfl) ?_
    refine x_putk (ci := 7) (v := .int x1) (ty := tyX7 6) (C := RX7) (F := TX7) (N := 8) hx hb hts uX7 tyX7 tyX7_ok nmX7 hown hkb hH hS 0 rfl rfl 6 (by decide) kw_54 (fun _ h9 => h9) rfl (tyX7_ok 6 (by decide)) rfl rfl (Nat.le_of_ble_eq_true rfl) dX7_refuse_14 (fun H locs hH hS => ?_)
    have hH : HT D cs A T (a0 :: y0 :: O) ((a0, .inr (7, [.ref y0, .int y1, .int y2, .int y3, .int y4, .int y5, .int x1, .int y7])) :: (y0, .inl (cs.1, 900, .inl ft)) :: X) H := hH
    refine lv_aload_n hx hb dX7_refuse_17 rfl (lv_at hl 0 rfl) ?_
    refine lv_aload_n hx hb dX7_refuse_18 rfl (lv_at hl 0 rfl) ?_
    refine x_getk (ci := 7) (C := RX7) (F := TX7) (N := 8) (v := .int y2) hx hb hts uX7 hown hkb hH 0 rfl rfl 2 (by decide) rfl kw_46 (fun _ h9 => h9) dX7_refuse_19 ?_
    refine x_putk (ci := 7) (v := .int y2) (ty := tyX7 7) (C := RX7) (F := TX7) (N := 8) hx hb hts uX7 tyX7 tyX7_ok nmX7 hown hkb hH hS 0 rfl rfl 7 (by decide) kw_56 (fun _ h9 => h9) rfl (tyX7_ok 7 (by decide)) rfl rfl (Nat.le_of_ble_eq_true rfl) dX7_refuse_22 (fun H locs hH hS => ?_)
    have hH : HT D cs A T (a0 :: y0 :: O) ((a0, .inr (7, [.ref y0, .int y1, .int y2, .int y3, .int y4, .int y5, .int x1, .int y2])) :: (y0, .inl (cs.1, 900, .inl ft)) :: X) H := hH
    refine lv_iconst (v := 0) hx hb dX7_refuse_25 (by decide) ?_
    have z9_0 : (0 : Int32).toInt = 0 := by decide
    exact te_z hx hb hr hlocks (by rfl) hH hS (⟨x1, y2, rfl, by decide, by decide, refuse_2 hto (by omega), rfl⟩) dX7_refuse_26
  · skip
    have tc6 := f_eq (k := 4) (by decide) c6
    refine lv_iconst (v := 1) hx hb dX7_refuse_9 (by decide) ?_
    refine lv_goto (tgt := 14) hx hb dX7_refuse_10 (by decide) ?_
    refine x_putk (ci := 7) (v := .int 1) (ty := tyX7 6) (C := RX7) (F := TX7) (N := 8) hx hb hts uX7 tyX7 tyX7_ok nmX7 hown hkb hH hS 0 rfl rfl 6 (by decide) kw_54 (fun _ h9 => h9) rfl (tyX7_ok 6 (by decide)) rfl rfl (Nat.le_of_ble_eq_true rfl) dX7_refuse_14 (fun H locs hH hS => ?_)
    have hH : HT D cs A T (a0 :: y0 :: O) ((a0, .inr (7, [.ref y0, .int y1, .int y2, .int y3, .int y4, .int y5, .int 1, .int y7])) :: (y0, .inl (cs.1, 900, .inl ft)) :: X) H := hH
    refine lv_aload_n hx hb dX7_refuse_17 rfl (lv_at hl 0 rfl) ?_
    refine lv_aload_n hx hb dX7_refuse_18 rfl (lv_at hl 0 rfl) ?_
    refine x_getk (ci := 7) (C := RX7) (F := TX7) (N := 8) (v := .int y2) hx hb hts uX7 hown hkb hH 0 rfl rfl 2 (by decide) rfl kw_46 (fun _ h9 => h9) dX7_refuse_19 ?_
    refine x_putk (ci := 7) (v := .int y2) (ty := tyX7 7) (C := RX7) (F := TX7) (N := 8) hx hb hts uX7 tyX7 tyX7_ok nmX7 hown hkb hH hS 0 rfl rfl 7 (by decide) kw_56 (fun _ h9 => h9) rfl (tyX7_ok 7 (by decide)) rfl rfl (Nat.le_of_ble_eq_true rfl) dX7_refuse_22 (fun H locs hH hS => ?_)
    have hH : HT D cs A T (a0 :: y0 :: O) ((a0, .inr (7, [.ref y0, .int y1, .int y2, .int y3, .int y4, .int y5, .int 1, .int y2])) :: (y0, .inl (cs.1, 900, .inl ft)) :: X) H := hH
    refine lv_iconst (v := 0) hx hb dX7_refuse_25 (by decide) ?_
    have z9_1 : (1 : Int32).toInt = 1 := by decide
    have z9_0 : (0 : Int32).toInt = 0 := by decide
    have z9_1 : (1 : Int32).toInt = 1 := by decide
    exact te_z hx hb hr hlocks (by rfl) hH hS (⟨(1 : Int32), y2, rfl, by decide, by decide, refuse_1 hto (by omega) (by decide), rfl⟩) dX7_refuse_26
set_option maxHeartbeats 4000000 in
set_option maxRecDepth 100000 in
theorem s_Tok_takeWord (l : Launch) (D : va_G) (cs : CS) (kf : KF) (T : TF) (O : List Nat) (X : va_W) (a0 : Nat) (a1 : Nat) (y0 : Nat) (y1 : Int32) (y2 : Int32) (y3 : Int32) (y4 : Int32) (y5 : Int32) (y6 : Int32) (y7 : Int32) (ft : Nat → Int32) (t : Tp) (tn : Nat) (kk : Nat) (t_a0 : T a0 = some (17, 0, 0)) (t_a1 : a1 < 21) (t_y0 : T y0 = some (0, 900, 0)) (l_y1 : 0 ≤ y1.toInt) (u_y1 : y1.toInt ≤ 900) (l_y2 : 0 ≤ y2.toInt) (u_y2 : y2.toInt ≤ 900) (l_y3 : 0 ≤ y3.toInt) (u_y3 : y3.toInt ≤ 900) (hn : y1.toInt = (tn : Int)) (htb : TB ft t) (hto : TSS t tn y2 y3 y4 y5) (hk : kst.getD kk 0 = a1) (hkk : kk < 19) (hO : okO T (a0 :: y0 :: O) []) : TK l D cs kf yX7_takeWord cX7_takeWord 2 (some (.boolean)) { frames := 5, cells := 0, slots := 0, locals := 111 } [.ref a0, .ref (kf.1 a1)] T (a0 :: y0 :: O) ((a0, .inr (7, [.ref y0, .int y1, .int y2, .int y3, .int y4, .int y5, .int y6, .int y7])) :: (y0, .inl (cs.1, 900, .inl ft)) :: X) (Ti D cs (fun r u => ∃ (n0_2 : Int32) (n0_3 : Int32) (n0_4 : Int32) (n0_5 : Int32) (n0_6 : Int32) (n0_7 : Int32), u = (T, a0 :: y0 :: O, (a0, .inr (7, [.ref y0, .int y1, .int n0_2, .int n0_3, .int n0_4, .int n0_5, .int n0_6, .int n0_7])) :: (y0, .inl (cs.1, 900, .inl ft)) :: X) ∧ 0 ≤ r.toInt ∧ r.toInt ≤ 1 ∧ (r.toInt = 0 ∨ (TSS t tn n0_2 n0_3 n0_4 n0_5 ∧ n0_2.toInt.toNat = nx t tn y2.toInt.toNat ∧ kd t tn y2.toInt.toNat = kk ∧ n0_6.toInt = y6.toInt ∧ n0_7.toInt = y7.toInt)) ∧ (r.toInt ≠ 0 ∨ (kd t tn y2.toInt.toNat ≠ kk ∧ n0_6.toInt = fwf (kd t tn y2.toInt.toNat) 2 ∧ n0_7.toInt = y2.toInt)) ∧ (y2.toInt ≤ n0_2.toInt ∧ n0_2.toInt ≤ n0_3.toInt ∧ n0_3.toInt ≤ y1.toInt))) := by
  refine tk_of (by decide) (Nat.le_of_ble_eq_true rfl) (fun p e s m below meth c ls A H locs hx hb hr hml hown hts hlocks hnm hkb hH hS hA hOX hks hE hl => ?_)
  have hown : s.vm.findClass RX7 = some m.cls := hown
  have hl : lv_has ls 2 [(0, .ref a0), (1, .ref (kf.1 a1))] := hl
  have hOXf := hOX
  refine lv_aload_n hx hb dX7_takeWord_0 rfl (lv_at hl 0 rfl) ?_
  refine lv_aload_n hx hb dX7_takeWord_1 rfl (lv_at hl 1 rfl) ?_
  refine tk_i hH hS hA (tr_V (n := 1) (As := [.ref (kf.1 a1)]) hx hb hml hown hts hkb hH (ox_map hOX rfl) hks hE hS hA (s_Tok_isWord l D cs kf T O X a0 a1 y0 y1 y2 y3 y4 y5 y6 y7 ft t tn kk t_a0 t_a1 t_y0 (by omega) (by omega) (by omega) (by omega) (by omega) (by omega) (by omega) htb hto hk hkk (hO.sub (by decide))) kw_607 kw_551 kw_552 kw_3 kw_553 (by decide +kernel) ⟨Nat.le_of_ble_eq_true rfl, Nat.le_of_ble_eq_true rfl⟩ (x_recv (ci := 7) hkb hH 0 rfl rfl) rfl rfl hl.1 (Nat.le_of_ble_eq_true rfl) dX7_takeWord_2 ⟨Nat.le_of_ble_eq_true rfl, Nat.le_of_ble_eq_true rfl⟩) (fun v2 u H locs hz9 hH hS => ?_)
  obtain ⟨rfl, l_v2, u_v2, x_v20, x_v21⟩ := hz9
  have hH : HT D cs A T (a0 :: y0 :: O) ((a0, .inr (7, [.ref y0, .int y1, .int y2, .int y3, .int y4, .int y5, .int y6, .int y7])) :: (y0, .inl (cs.1, 900, .inl ft)) :: X) H := hH
  refine W.widen (k := 0) (n := 0) (Nat.le_of_ble_eq_true rfl) (Nat.le_of_ble_eq_true rfl) ?_
  refine lv_if_ne (tgt := 14) hx hb dX7_takeWord_5 (by decide) (fun c5 => ?_) (fun c5 => ?_)
  · skip
    have tc5 := f_ne (k := 0) (by decide) c5
    replace x_v20 := x_v20.resolve_left tc5
    clear x_v21
    refine lv_aload_n hx hb dX7_takeWord_14 rfl (lv_at hl 0 rfl) ?_
    refine tk_v hH hS hA (tr_V (n := 0) (As := []) hx hb hml hown hts hkb hH (ox_map hOX rfl) hks hE hS hA (s_Tok_go l D cs kf T O X a0 y0 y1 y2 y3 y4 y5 y6 y7 ft t tn t_a0 t_y0 (by omega) (by omega) (by omega) (by omega) (by omega) (by omega) (by omega) htb (by have q9 := (hto).b; omega) (hO.sub (by decide))) kw_452 kw_453 kw_454 kw_3 kw_455 (by decide +kernel) ⟨Nat.le_of_ble_eq_true rfl, Nat.le_of_ble_eq_true rfl⟩ (x_recv (ci := 7) hkb hH 0 rfl rfl) rfl rfl hl.1 (Nat.le_of_ble_eq_true rfl) dX7_takeWord_15 ⟨Nat.le_of_ble_eq_true rfl, Nat.le_of_ble_eq_true rfl⟩) (fun u H locs hz9 hH hS => ?_)
    obtain ⟨n15_0_2, n15_0_3, n15_0_4, n15_0_5, rfl, x_v150, x_v151, x_v152⟩ := hz9
    have px15 := TSS.nx hto x_v151
    have hH : HT D cs A T (a0 :: y0 :: O) ((a0, .inr (7, [.ref y0, .int y1, .int n15_0_2, .int n15_0_3, .int n15_0_4, .int n15_0_5, .int y6, .int y7])) :: (y0, .inl (cs.1, 900, .inl ft)) :: X) H := hH
    refine W.widen (k := 0) (n := 0) (Nat.le_of_ble_eq_true rfl) (Nat.le_of_ble_eq_true rfl) ?_
    refine lv_iconst (v := 1) hx hb dX7_takeWord_18 (by decide) ?_
    have z9_1 : (1 : Int32).toInt = 1 := by decide
    exact te_z hx hb hr hlocks (by rfl) hH hS (⟨n15_0_2, n15_0_3, n15_0_4, n15_0_5, y6, y7, rfl, by decide, by decide, Or.inr ⟨x_v150, px15, x_v20, rfl, rfl⟩, Or.inl (by decide), (by have q9 := hto.b; omega)⟩) dX7_takeWord_19
  · skip
    have tc5 := f_eq (k := 0) (by decide) c5
    clear x_v20
    replace x_v21 := x_v21.resolve_left (fun q9 => q9 tc5)
    refine lv_aload_n hx hb dX7_takeWord_8 rfl (lv_at hl 0 rfl) ?_
    refine lv_iconst (v := 2) hx hb dX7_takeWord_9 (by decide) ?_
    have z9_2 : (2 : Int32).toInt = 2 := by decide
    refine tk_i hH hS hA (tr_V (n := 1) (As := [.int 2]) hx hb hml hown hts hkb hH (ox_map hOX rfl) hks hE hS hA (s_Tok_refuse l D cs kf T O X a0 (2) y0 y1 y2 y3 y4 y5 y6 y7 ft t tn t_a0 t_y0 (by omega) (by omega) (by omega) (by omega) (by omega) (by omega) (by omega) htb hto (hO.sub (by decide))) kw_588 kw_580 kw_581 kw_3 kw_582 (by decide +kernel) ⟨Nat.le_of_ble_eq_true rfl, Nat.le_of_ble_eq_true rfl⟩ (x_recv (ci := 7) hkb hH 0 rfl rfl) rfl rfl hl.1 (Nat.le_of_ble_eq_true rfl) dX7_takeWord_10 ⟨Nat.le_of_ble_eq_true rfl, Nat.le_of_ble_eq_true rfl⟩) (fun v10 u H locs hz9 hH hS => ?_)
    obtain ⟨n10_0_6, n10_0_7, rfl, l_v10, u_v10, x_v100, x_v101⟩ := hz9
    have hH : HT D cs A T (a0 :: y0 :: O) ((a0, .inr (7, [.ref y0, .int y1, .int y2, .int y3, .int y4, .int y5, .int n10_0_6, .int n10_0_7])) :: (y0, .inl (cs.1, 900, .inl ft)) :: X) H := hH
    refine W.widen (k := 0) (n := 0) (Nat.le_of_ble_eq_true rfl) (Nat.le_of_ble_eq_true rfl) ?_
    exact te_z hx hb hr hlocks (nar01 (by omega) (by omega)) hH hS (⟨y2, y3, y4, y5, n10_0_6, n10_0_7, rfl, by omega, by omega, Or.inl (by omega), Or.inr ⟨x_v21, x_v100, x_v101⟩, (by have q9 := hto.b; omega)⟩) dX7_takeWord_13
set_option maxHeartbeats 4000000 in
set_option maxRecDepth 100000 in
theorem s_Tok_takeSign (l : Launch) (D : va_G) (cs : CS) (kf : KF) (T : TF) (O : List Nat) (X : va_W) (a0 : Nat) (x1 : Int32) (y0 : Nat) (y1 : Int32) (y2 : Int32) (y3 : Int32) (y4 : Int32) (y5 : Int32) (y6 : Int32) (y7 : Int32) (ft : Nat → Int32) (t : Tp) (tn : Nat) (kk : Nat) (t_a0 : T a0 = some (17, 0, 0)) (t_y0 : T y0 = some (0, 900, 0)) (l_y1 : 0 ≤ y1.toInt) (u_y1 : y1.toInt ≤ 900) (l_y2 : 0 ≤ y2.toInt) (u_y2 : y2.toInt ≤ 900) (l_y3 : 0 ≤ y3.toInt) (u_y3 : y3.toInt ≤ 900) (hn : y1.toInt = (tn : Int)) (htb : TB ft t) (hto : TSS t tn y2 y3 y4 y5) (hk : sgk x1.toInt = kk) (h30 : 30 ≤ kk) (hO : okO T (a0 :: y0 :: O) []) : TK l D cs kf yX7_takeSign cX7_takeSign 2 (some (.boolean)) { frames := 5, cells := 0, slots := 0, locals := 111 } [.ref a0, .int x1] T (a0 :: y0 :: O) ((a0, .inr (7, [.ref y0, .int y1, .int y2, .int y3, .int y4, .int y5, .int y6, .int y7])) :: (y0, .inl (cs.1, 900, .inl ft)) :: X) (Ti D cs (fun r u => ∃ (n0_2 : Int32) (n0_3 : Int32) (n0_4 : Int32) (n0_5 : Int32) (n0_6 : Int32) (n0_7 : Int32), u = (T, a0 :: y0 :: O, (a0, .inr (7, [.ref y0, .int y1, .int n0_2, .int n0_3, .int n0_4, .int n0_5, .int n0_6, .int n0_7])) :: (y0, .inl (cs.1, 900, .inl ft)) :: X) ∧ 0 ≤ r.toInt ∧ r.toInt ≤ 1 ∧ (r.toInt = 0 ∨ (TSS t tn n0_2 n0_3 n0_4 n0_5 ∧ n0_2.toInt.toNat = nx t tn y2.toInt.toNat ∧ kd t tn y2.toInt.toNat = kk ∧ n0_6.toInt = y6.toInt ∧ n0_7.toInt = y7.toInt)) ∧ (r.toInt ≠ 0 ∨ (kd t tn y2.toInt.toNat ≠ kk ∧ n0_6.toInt = fwf (kd t tn y2.toInt.toNat) 2 ∧ n0_7.toInt = y2.toInt)) ∧ (y2.toInt ≤ n0_2.toInt ∧ n0_2.toInt ≤ n0_3.toInt ∧ n0_3.toInt ≤ y1.toInt))) := by
  refine tk_of (by decide) (Nat.le_of_ble_eq_true rfl) (fun p e s m below meth c ls A H locs hx hb hr hml hown hts hlocks hnm hkb hH hS hA hOX hks hE hl => ?_)
  have hown : s.vm.findClass RX7 = some m.cls := hown
  have hl : lv_has ls 2 [(0, .ref a0), (1, .int x1)] := hl
  have hOXf := hOX
  refine lv_aload_n hx hb dX7_takeSign_0 rfl (lv_at hl 0 rfl) ?_
  refine lv_iload_n hx hb dX7_takeSign_1 rfl (lv_at hl 1 rfl) ?_
  refine tk_i hH hS hA (tr_V (n := 1) (As := [.int x1]) hx hb hml hown hts hkb hH (ox_map hOX rfl) hks hE hS hA (s_Tok_isSign l D cs kf T O X a0 x1 y0 y1 y2 y3 y4 y5 y6 y7 ft t tn kk t_a0 t_y0 (by omega) (by omega) (by omega) (by omega) (by omega) (by omega) (by omega) htb hto hk h30 (hO.sub (by decide))) kw_614 kw_615 kw_616 kw_3 kw_617 (by decide +kernel) ⟨Nat.le_of_ble_eq_true rfl, Nat.le_of_ble_eq_true rfl⟩ (x_recv (ci := 7) hkb hH 0 rfl rfl) rfl rfl hl.1 (Nat.le_of_ble_eq_true rfl) dX7_takeSign_2 ⟨Nat.le_of_ble_eq_true rfl, Nat.le_of_ble_eq_true rfl⟩) (fun v2 u H locs hz9 hH hS => ?_)
  obtain ⟨rfl, l_v2, u_v2, x_v20, x_v21⟩ := hz9
  have hH : HT D cs A T (a0 :: y0 :: O) ((a0, .inr (7, [.ref y0, .int y1, .int y2, .int y3, .int y4, .int y5, .int y6, .int y7])) :: (y0, .inl (cs.1, 900, .inl ft)) :: X) H := hH
  refine W.widen (k := 0) (n := 0) (Nat.le_of_ble_eq_true rfl) (Nat.le_of_ble_eq_true rfl) ?_
  refine lv_if_ne (tgt := 14) hx hb dX7_takeSign_5 (by decide) (fun c5 => ?_) (fun c5 => ?_)
  · skip
    have tc5 := f_ne (k := 0) (by decide) c5
    replace x_v20 := x_v20.resolve_left tc5
    clear x_v21
    refine lv_aload_n hx hb dX7_takeSign_14 rfl (lv_at hl 0 rfl) ?_
    refine tk_v hH hS hA (tr_V (n := 0) (As := []) hx hb hml hown hts hkb hH (ox_map hOX rfl) hks hE hS hA (s_Tok_go l D cs kf T O X a0 y0 y1 y2 y3 y4 y5 y6 y7 ft t tn t_a0 t_y0 (by omega) (by omega) (by omega) (by omega) (by omega) (by omega) (by omega) htb (by have q9 := (hto).b; omega) (hO.sub (by decide))) kw_452 kw_453 kw_454 kw_3 kw_455 (by decide +kernel) ⟨Nat.le_of_ble_eq_true rfl, Nat.le_of_ble_eq_true rfl⟩ (x_recv (ci := 7) hkb hH 0 rfl rfl) rfl rfl hl.1 (Nat.le_of_ble_eq_true rfl) dX7_takeSign_15 ⟨Nat.le_of_ble_eq_true rfl, Nat.le_of_ble_eq_true rfl⟩) (fun u H locs hz9 hH hS => ?_)
    obtain ⟨n15_0_2, n15_0_3, n15_0_4, n15_0_5, rfl, x_v150, x_v151, x_v152⟩ := hz9
    have px15 := TSS.nx hto x_v151
    have hH : HT D cs A T (a0 :: y0 :: O) ((a0, .inr (7, [.ref y0, .int y1, .int n15_0_2, .int n15_0_3, .int n15_0_4, .int n15_0_5, .int y6, .int y7])) :: (y0, .inl (cs.1, 900, .inl ft)) :: X) H := hH
    refine W.widen (k := 0) (n := 0) (Nat.le_of_ble_eq_true rfl) (Nat.le_of_ble_eq_true rfl) ?_
    refine lv_iconst (v := 1) hx hb dX7_takeSign_18 (by decide) ?_
    have z9_1 : (1 : Int32).toInt = 1 := by decide
    exact te_z hx hb hr hlocks (by rfl) hH hS (⟨n15_0_2, n15_0_3, n15_0_4, n15_0_5, y6, y7, rfl, by decide, by decide, Or.inr ⟨x_v150, px15, x_v20, rfl, rfl⟩, Or.inl (by decide), (by have q9 := hto.b; omega)⟩) dX7_takeSign_19
  · skip
    have tc5 := f_eq (k := 0) (by decide) c5
    clear x_v20
    replace x_v21 := x_v21.resolve_left (fun q9 => q9 tc5)
    refine lv_aload_n hx hb dX7_takeSign_8 rfl (lv_at hl 0 rfl) ?_
    refine lv_iconst (v := 2) hx hb dX7_takeSign_9 (by decide) ?_
    have z9_2 : (2 : Int32).toInt = 2 := by decide
    refine tk_i hH hS hA (tr_V (n := 1) (As := [.int 2]) hx hb hml hown hts hkb hH (ox_map hOX rfl) hks hE hS hA (s_Tok_refuse l D cs kf T O X a0 (2) y0 y1 y2 y3 y4 y5 y6 y7 ft t tn t_a0 t_y0 (by omega) (by omega) (by omega) (by omega) (by omega) (by omega) (by omega) htb hto (hO.sub (by decide))) kw_588 kw_580 kw_581 kw_3 kw_582 (by decide +kernel) ⟨Nat.le_of_ble_eq_true rfl, Nat.le_of_ble_eq_true rfl⟩ (x_recv (ci := 7) hkb hH 0 rfl rfl) rfl rfl hl.1 (Nat.le_of_ble_eq_true rfl) dX7_takeSign_10 ⟨Nat.le_of_ble_eq_true rfl, Nat.le_of_ble_eq_true rfl⟩) (fun v10 u H locs hz9 hH hS => ?_)
    obtain ⟨n10_0_6, n10_0_7, rfl, l_v10, u_v10, x_v100, x_v101⟩ := hz9
    have hH : HT D cs A T (a0 :: y0 :: O) ((a0, .inr (7, [.ref y0, .int y1, .int y2, .int y3, .int y4, .int y5, .int n10_0_6, .int n10_0_7])) :: (y0, .inl (cs.1, 900, .inl ft)) :: X) H := hH
    refine W.widen (k := 0) (n := 0) (Nat.le_of_ble_eq_true rfl) (Nat.le_of_ble_eq_true rfl) ?_
    exact te_z hx hb hr hlocks (nar01 (by omega) (by omega)) hH hS (⟨y2, y3, y4, y5, n10_0_6, n10_0_7, rfl, by omega, by omega, Or.inl (by omega), Or.inr ⟨x_v21, x_v100, x_v101⟩, (by have q9 := hto.b; omega)⟩) dX7_takeSign_13
set_option maxHeartbeats 4000000 in
set_option maxRecDepth 100000 in
theorem s_Tok_takeNumber (l : Launch) (D : va_G) (cs : CS) (kf : KF) (T : TF) (O : List Nat) (X : va_W) (a0 : Nat) (x1 : Int32) (y0 : Nat) (y1 : Int32) (y2 : Int32) (y3 : Int32) (y4 : Int32) (y5 : Int32) (y6 : Int32) (y7 : Int32) (ft : Nat → Int32) (t : Tp) (tn : Nat) (t_a0 : T a0 = some (17, 0, 0)) (l_x1 : -1 ≤ x1.toInt) (u_x1 : x1.toInt ≤ 999) (t_y0 : T y0 = some (0, 900, 0)) (l_y1 : 0 ≤ y1.toInt) (u_y1 : y1.toInt ≤ 900) (l_y2 : 0 ≤ y2.toInt) (u_y2 : y2.toInt ≤ 900) (l_y3 : 0 ≤ y3.toInt) (u_y3 : y3.toInt ≤ 900) (hn : y1.toInt = (tn : Int)) (htb : TB ft t) (hto : TSS t tn y2 y3 y4 y5) (hO : okO T (a0 :: y0 :: O) []) : TK l D cs kf yX7_takeNumber cX7_takeNumber 3 (some (.int)) { frames := 5, cells := 0, slots := 0, locals := 111 } [.ref a0, .int x1] T (a0 :: y0 :: O) ((a0, .inr (7, [.ref y0, .int y1, .int y2, .int y3, .int y4, .int y5, .int y6, .int y7])) :: (y0, .inl (cs.1, 900, .inl ft)) :: X) (Ti D cs (fun r u => ∃ (n0_2 : Int32) (n0_3 : Int32) (n0_4 : Int32) (n0_5 : Int32) (n0_6 : Int32) (n0_7 : Int32), u = (T, a0 :: y0 :: O, (a0, .inr (7, [.ref y0, .int y1, .int n0_2, .int n0_3, .int n0_4, .int n0_5, .int n0_6, .int n0_7])) :: (y0, .inl (cs.1, 900, .inl ft)) :: X) ∧ -1 ≤ r.toInt ∧ r.toInt ≤ 999 ∧ (r.toInt = -1 ∨ (TSS t tn n0_2 n0_3 n0_4 n0_5 ∧ n0_2.toInt.toNat = nx t tn y2.toInt.toNat ∧ kd t tn y2.toInt.toNat = 21 ∧ r.toInt = nv t tn y2.toInt.toNat ∧ r.toInt ≤ x1.toInt ∧ n0_6.toInt = y6.toInt ∧ n0_7.toInt = y7.toInt)) ∧ (r.toInt ≠ -1 ∨ ((kd t tn y2.toInt.toNat ≠ 21 ∨ (kd t tn y2.toInt.toNat = 21 ∧ ¬ nv t tn y2.toInt.toNat ≤ x1.toInt)) ∧ n0_6.toInt = fwf (kd t tn y2.toInt.toNat) (if kd t tn y2.toInt.toNat = 21 then 3 else 2) ∧ n0_7.toInt = y2.toInt)) ∧ (y2.toInt ≤ n0_2.toInt ∧ n0_2.toInt ≤ n0_3.toInt ∧ n0_3.toInt ≤ y1.toInt) ∧ (r.toInt = -1 ∨ 0 ≤ r.toInt))) := by
  refine tk_of (by decide) (Nat.le_of_ble_eq_true rfl) (fun p e s m below meth c ls A H locs hx hb hr hml hown hts hlocks hnm hkb hH hS hA hOX hks hE hl => ?_)
  have hown : s.vm.findClass RX7 = some m.cls := hown
  have hl : lv_has ls 3 [(0, .ref a0), (1, .int x1)] := hl
  have hOXf := hOX
  have hc9 := hto.cs
  refine lv_aload_n hx hb dX7_takeNumber_0 rfl (lv_at hl 0 rfl) ?_
  refine x_getk (ci := 7) (C := RX7) (F := TX7) (N := 8) (v := .int y4) hx hb hts uX7 hown hkb hH 0 rfl rfl 4 (by decide) rfl kw_48 (fun _ h9 => h9) dX7_takeNumber_1 ?_
  refine lv_iconst (v := 2) hx hb dX7_takeNumber_4 (by decide) ?_
  refine lv_icmp_ne (tgt := 16) hx hb dX7_takeNumber_5 (by decide) (fun c5 => ?_) (fun c5 => ?_)
  · skip
    have tc5 := f_ne (k := 2) (by decide) c5
    refine lv_aload_n hx hb dX7_takeNumber_16 rfl (lv_at hl 0 rfl) ?_
    refine lv_aload_n hx hb dX7_takeNumber_17 rfl (lv_at hl 0 rfl) ?_
    refine x_getk (ci := 7) (C := RX7) (F := TX7) (N := 8) (v := .int y4) hx hb hts uX7 hown hkb hH 0 rfl rfl 4 (by decide) rfl kw_48 (fun _ h9 => h9) dX7_takeNumber_18 ?_
    refine lv_iconst (v := 2) hx hb dX7_takeNumber_21 (by decide) ?_
    refine lv_icmp_ne (tgt := 29) hx hb dX7_takeNumber_22 (by decide) (fun c22 => ?_) (fun c22 => ?_)
    · skip
      have tc22 := f_ne (k := 2) (by decide) c22
      refine lv_iconst (v := 2) hx hb dX7_takeNumber_29 (by decide) ?_
      have z9_2 : (2 : Int32).toInt = 2 := by decide
      refine tk_i hH hS hA (tr_V (n := 1) (As := [.int 2]) hx hb hml hown hts hkb hH (ox_map hOX rfl) hks hE hS hA (s_Tok_refuse l D cs kf T O X a0 (2) y0 y1 y2 y3 y4 y5 y6 y7 ft t tn t_a0 t_y0 (by omega) (by omega) (by omega) (by omega) (by omega) (by omega) (by omega) htb hto (hO.sub (by decide))) kw_588 kw_580 kw_581 kw_3 kw_582 (by decide +kernel) ⟨Nat.le_of_ble_eq_true rfl, Nat.le_of_ble_eq_true rfl⟩ (x_recv (ci := 7) hkb hH 0 rfl rfl) rfl rfl hl.1 (Nat.le_of_ble_eq_true rfl) dX7_takeNumber_30 ⟨Nat.le_of_ble_eq_true rfl, Nat.le_of_ble_eq_true rfl⟩) (fun v30 u H locs hz9 hH hS => ?_)
      obtain ⟨n30_0_6, n30_0_7, rfl, l_v30, u_v30, x_v300, x_v301⟩ := hz9
      have hH : HT D cs A T (a0 :: y0 :: O) ((a0, .inr (7, [.ref y0, .int y1, .int y2, .int y3, .int y4, .int y5, .int n30_0_6, .int n30_0_7])) :: (y0, .inl (cs.1, 900, .inl ft)) :: X) H := hH
      refine W.widen (k := 0) (n := 0) (Nat.le_of_ble_eq_true rfl) (Nat.le_of_ble_eq_true rfl) ?_
      refine lv_pop hx hb dX7_takeNumber_33 rfl ?_
      refine lv_iconst (v := (-1)) hx hb dX7_takeNumber_34 (by decide) ?_
      have z9_m1 : ((-1) : Int32).toInt = -1 := by decide
      exact te_i hx hb hr hlocks hH hS (⟨y2, y3, y4, y5, n30_0_6, n30_0_7, rfl, by decide, by decide, Or.inl (by decide), (Or.inr ⟨by omega, by rw [x_v300]; first | (rw [if_pos (by omega)]; rfl) | (rw [if_neg (by omega)]; rfl), x_v301⟩), (by have q9 := hto.b; omega), Or.inl (by decide)⟩) dX7_takeNumber_35
    · skip
      have tc22 := f_eq (k := 2) (by decide) c22
      refine lv_iconst (v := 3) hx hb dX7_takeNumber_25 (by decide) ?_
      refine lv_goto (tgt := 30) hx hb dX7_takeNumber_26 (by decide) ?_
      have z9_3 : (3 : Int32).toInt = 3 := by decide
      refine tk_i hH hS hA (tr_V (n := 1) (As := [.int 3]) hx hb hml hown hts hkb hH (ox_map hOX rfl) hks hE hS hA (s_Tok_refuse l D cs kf T O X a0 (3) y0 y1 y2 y3 y4 y5 y6 y7 ft t tn t_a0 t_y0 (by omega) (by omega) (by omega) (by omega) (by omega) (by omega) (by omega) htb hto (hO.sub (by decide))) kw_588 kw_580 kw_581 kw_3 kw_582 (by decide +kernel) ⟨Nat.le_of_ble_eq_true rfl, Nat.le_of_ble_eq_true rfl⟩ (x_recv (ci := 7) hkb hH 0 rfl rfl) rfl rfl hl.1 (Nat.le_of_ble_eq_true rfl) dX7_takeNumber_30 ⟨Nat.le_of_ble_eq_true rfl, Nat.le_of_ble_eq_true rfl⟩) (fun v30 u H locs hz9 hH hS => ?_)
      obtain ⟨n30_0_6, n30_0_7, rfl, l_v30, u_v30, x_v300, x_v301⟩ := hz9
      have hH : HT D cs A T (a0 :: y0 :: O) ((a0, .inr (7, [.ref y0, .int y1, .int y2, .int y3, .int y4, .int y5, .int n30_0_6, .int n30_0_7])) :: (y0, .inl (cs.1, 900, .inl ft)) :: X) H := hH
      refine W.widen (k := 0) (n := 0) (Nat.le_of_ble_eq_true rfl) (Nat.le_of_ble_eq_true rfl) ?_
      refine lv_pop hx hb dX7_takeNumber_33 rfl ?_
      refine lv_iconst (v := (-1)) hx hb dX7_takeNumber_34 (by decide) ?_
      have z9_m1 : ((-1) : Int32).toInt = -1 := by decide
      exact te_i hx hb hr hlocks hH hS (⟨y2, y3, y4, y5, n30_0_6, n30_0_7, rfl, by decide, by decide, Or.inl (by decide), (Or.inr ⟨by omega, by rw [x_v300]; first | (rw [if_pos (by omega)]; rfl) | (rw [if_neg (by omega)]; rfl), x_v301⟩), (by have q9 := hto.b; omega), Or.inl (by decide)⟩) dX7_takeNumber_35
  · skip
    have tc5 := f_eq (k := 2) (by decide) c5
    refine lv_aload_n hx hb dX7_takeNumber_8 rfl (lv_at hl 0 rfl) ?_
    refine x_getk (ci := 7) (C := RX7) (F := TX7) (N := 8) (v := .int y5) hx hb hts uX7 hown hkb hH 0 rfl rfl 5 (by decide) rfl kw_51 (fun _ h9 => h9) dX7_takeNumber_9 ?_
    refine lv_iload_n hx hb dX7_takeNumber_12 rfl (lv_at hl 1 rfl) ?_
    refine lv_icmp_le (tgt := 36) hx hb dX7_takeNumber_13 (by decide) (fun c13 => ?_) (fun c13 => ?_)
    · skip
      have fuc13 := full_i y5
      have fvc13 := full_i x1
      have tc13 := g_le c13
      refine lv_aload_n hx hb dX7_takeNumber_36 rfl (lv_at hl 0 rfl) ?_
      refine x_getk (ci := 7) (C := RX7) (F := TX7) (N := 8) (v := .int y5) hx hb hts uX7 hown hkb hH 0 rfl rfl 5 (by decide) rfl kw_51 (fun _ h9 => h9) dX7_takeNumber_37 ?_
      refine lv_istore_n (lv' := [(2, .int y5), (0, .ref a0), (1, .int x1)]) hx hb dX7_takeNumber_40 rfl hl (by decide) rfl (fun ls hl => ?_)
      have q7 := nv_21 (t := t) (n := tn) (s := y2.toInt.toNat) (by omega)
      refine lv_aload_n hx hb dX7_takeNumber_41 rfl (lv_at hl 1 rfl) ?_
      refine tk_v hH hS hA (tr_V (n := 0) (As := []) hx hb hml hown hts hkb hH (ox_map hOX rfl) hks hE hS hA (s_Tok_go l D cs kf T O X a0 y0 y1 y2 y3 y4 y5 y6 y7 ft t tn t_a0 t_y0 (by omega) (by omega) (by omega) (by omega) (by omega) (by omega) (by omega) htb (by have q9 := (hto).b; omega) (hO.sub (by decide))) kw_452 kw_453 kw_454 kw_3 kw_455 (by decide +kernel) ⟨Nat.le_of_ble_eq_true rfl, Nat.le_of_ble_eq_true rfl⟩ (x_recv (ci := 7) hkb hH 0 rfl rfl) rfl rfl hl.1 (Nat.le_of_ble_eq_true rfl) dX7_takeNumber_42 ⟨Nat.le_of_ble_eq_true rfl, Nat.le_of_ble_eq_true rfl⟩) (fun u H locs hz9 hH hS => ?_)
      obtain ⟨n42_0_2, n42_0_3, n42_0_4, n42_0_5, rfl, x_v420, x_v421, x_v422⟩ := hz9
      have px42 := TSS.nx hto x_v421
      have hH : HT D cs A T (a0 :: y0 :: O) ((a0, .inr (7, [.ref y0, .int y1, .int n42_0_2, .int n42_0_3, .int n42_0_4, .int n42_0_5, .int y6, .int y7])) :: (y0, .inl (cs.1, 900, .inl ft)) :: X) H := hH
      refine W.widen (k := 0) (n := 0) (Nat.le_of_ble_eq_true rfl) (Nat.le_of_ble_eq_true rfl) ?_
      refine lv_iload_n hx hb dX7_takeNumber_45 rfl (lv_at hl 0 rfl) ?_
      exact te_i hx hb hr hlocks hH hS (⟨n42_0_2, n42_0_3, n42_0_4, n42_0_5, y6, y7, rfl, by omega, by omega, (Or.inr ⟨x_v420, px42, by omega, by omega, by omega, rfl, rfl⟩), (Or.inl (by have q9 := nv_21 (t := t) (n := tn) (s := y2.toInt.toNat) (by omega); omega)), (by have q9 := hto.b; omega), (Or.inr (by have q9 := nv_21 (t := t) (n := tn) (s := y2.toInt.toNat) (by omega); omega))⟩) dX7_takeNumber_46
    · skip
      have fuc13 := full_i y5
      have fvc13 := full_i x1
      have tc13 := g_nle c13
      refine lv_aload_n hx hb dX7_takeNumber_16 rfl (lv_at hl 0 rfl) ?_
      refine lv_aload_n hx hb dX7_takeNumber_17 rfl (lv_at hl 0 rfl) ?_
      refine x_getk (ci := 7) (C := RX7) (F := TX7) (N := 8) (v := .int y4) hx hb hts uX7 hown hkb hH 0 rfl rfl 4 (by decide) rfl kw_48 (fun _ h9 => h9) dX7_takeNumber_18 ?_
      refine lv_iconst (v := 2) hx hb dX7_takeNumber_21 (by decide) ?_
      refine lv_icmp_ne (tgt := 29) hx hb dX7_takeNumber_22 (by decide) (fun c22 => ?_) (fun c22 => ?_)
      · skip
        have tc22 := f_ne (k := 2) (by decide) c22
        exfalso; omega
      · skip
        have tc22 := f_eq (k := 2) (by decide) c22
        refine lv_iconst (v := 3) hx hb dX7_takeNumber_25 (by decide) ?_
        refine lv_goto (tgt := 30) hx hb dX7_takeNumber_26 (by decide) ?_
        have z9_3 : (3 : Int32).toInt = 3 := by decide
        refine tk_i hH hS hA (tr_V (n := 1) (As := [.int 3]) hx hb hml hown hts hkb hH (ox_map hOX rfl) hks hE hS hA (s_Tok_refuse l D cs kf T O X a0 (3) y0 y1 y2 y3 y4 y5 y6 y7 ft t tn t_a0 t_y0 (by omega) (by omega) (by omega) (by omega) (by omega) (by omega) (by omega) htb hto (hO.sub (by decide))) kw_588 kw_580 kw_581 kw_3 kw_582 (by decide +kernel) ⟨Nat.le_of_ble_eq_true rfl, Nat.le_of_ble_eq_true rfl⟩ (x_recv (ci := 7) hkb hH 0 rfl rfl) rfl rfl hl.1 (Nat.le_of_ble_eq_true rfl) dX7_takeNumber_30 ⟨Nat.le_of_ble_eq_true rfl, Nat.le_of_ble_eq_true rfl⟩) (fun v30 u H locs hz9 hH hS => ?_)
        obtain ⟨n30_0_6, n30_0_7, rfl, l_v30, u_v30, x_v300, x_v301⟩ := hz9
        have hH : HT D cs A T (a0 :: y0 :: O) ((a0, .inr (7, [.ref y0, .int y1, .int y2, .int y3, .int y4, .int y5, .int n30_0_6, .int n30_0_7])) :: (y0, .inl (cs.1, 900, .inl ft)) :: X) H := hH
        refine W.widen (k := 0) (n := 0) (Nat.le_of_ble_eq_true rfl) (Nat.le_of_ble_eq_true rfl) ?_
        refine lv_pop hx hb dX7_takeNumber_33 rfl ?_
        refine lv_iconst (v := (-1)) hx hb dX7_takeNumber_34 (by decide) ?_
        have z9_m1 : ((-1) : Int32).toInt = -1 := by decide
        exact te_i hx hb hr hlocks hH hS (⟨y2, y3, y4, y5, n30_0_6, n30_0_7, rfl, by decide, by decide, Or.inl (by decide), (Or.inr ⟨by omega, by rw [x_v300]; first | (rw [if_pos (by omega)]; rfl) | (rw [if_neg (by omega)]; rfl), x_v301⟩), (by have q9 := hto.b; omega), Or.inl (by decide)⟩) dX7_takeNumber_35
theorem dX3_aimSkip_0 : decode cX3_aimSkip 0 = .ok (.iload_n 1, 1) := by decide +kernel
theorem dX3_aimSkip_1 : decode cX3_aimSkip 1 = .ok (.ifCond .lt 32, 3) := by decide +kernel
theorem dX3_aimSkip_4 : decode cX3_aimSkip 4 = .ok (.iload_n 1, 1) := by decide +kernel
theorem dX3_aimSkip_5 : decode cX3_aimSkip 5 = .ok (.sipush 900, 3) := by decide +kernel
theorem dX3_aimSkip_8 : decode cX3_aimSkip 8 = .ok (.if_icmp .ge 25, 3) := by decide +kernel
theorem dX3_aimSkip_11 : decode cX3_aimSkip 11 = .ok (.aload_n 0, 1) := by decide +kernel
theorem dX3_aimSkip_12 : decode cX3_aimSkip 12 = .ok (.getfield 9, 3) := by decide +kernel
theorem dX3_aimSkip_15 : decode cX3_aimSkip 15 = .ok (.iload_n 1, 1) := by decide +kernel
theorem dX3_aimSkip_16 : decode cX3_aimSkip 16 = .ok (.aload_n 0, 1) := by decide +kernel
theorem dX3_aimSkip_17 : decode cX3_aimSkip 17 = .ok (.getfield 9, 3) := by decide +kernel
theorem dX3_aimSkip_20 : decode cX3_aimSkip 20 = .ok (.iload_n 1, 1) := by decide +kernel
theorem dX3_aimSkip_21 : decode cX3_aimSkip 21 = .ok (.iaload, 1) := by decide +kernel
theorem dX3_aimSkip_22 : decode cX3_aimSkip 22 = .ok (.bipush 15, 2) := by decide +kernel
theorem dX3_aimSkip_24 : decode cX3_aimSkip 24 = .ok (.iand, 1) := by decide +kernel
theorem dX3_aimSkip_25 : decode cX3_aimSkip 25 = .ok (.aload_n 0, 1) := by decide +kernel
theorem dX3_aimSkip_26 : decode cX3_aimSkip 26 = .ok (.getfield 15, 3) := by decide +kernel
theorem dX3_aimSkip_29 : decode cX3_aimSkip 29 = .ok (.iconst 4, 1) := by decide +kernel
theorem dX3_aimSkip_30 : decode cX3_aimSkip 30 = .ok (.ishl, 1) := by decide +kernel
theorem dX3_aimSkip_31 : decode cX3_aimSkip 31 = .ok (.ior, 1) := by decide +kernel
theorem dX3_aimSkip_32 : decode cX3_aimSkip 32 = .ok (.iastore, 1) := by decide +kernel
theorem dX3_aimSkip_33 : decode cX3_aimSkip 33 = .ok (.return_, 1) := by decide +kernel
theorem dX3_enter_0 : decode cX3_enter 0 = .ok (.iload_n 1, 1) := by decide +kernel
theorem dX3_enter_1 : decode cX3_enter 1 = .ok (.bipush 6, 2) := by decide +kernel
theorem dX3_enter_3 : decode cX3_enter 3 = .ok (.if_icmp .lt 12, 3) := by decide +kernel
theorem dX3_enter_6 : decode cX3_enter 6 = .ok (.aload_n 0, 1) := by decide +kernel
theorem dX3_enter_7 : decode cX3_enter 7 = .ok (.getfield 19, 3) := by decide +kernel
theorem dX3_enter_10 : decode cX3_enter 10 = .ok (.iconst 4, 1) := by decide +kernel
theorem dX3_enter_11 : decode cX3_enter 11 = .ok (.invokevirtual 80, 3) := by decide +kernel
theorem dX3_enter_14 : decode cX3_enter 14 = .ok (.ireturn, 1) := by decide +kernel
theorem dX3_enter_15 : decode cX3_enter 15 = .ok (.aload_n 0, 1) := by decide +kernel
theorem dX3_enter_16 : decode cX3_enter 16 = .ok (.getfield 19, 3) := by decide +kernel
theorem dX3_enter_19 : decode cX3_enter 19 = .ok (.invokevirtual 49, 3) := by decide +kernel
theorem dX3_enter_22 : decode cX3_enter 22 = .ok (.iconst 1, 1) := by decide +kernel
theorem dX3_enter_23 : decode cX3_enter 23 = .ok (.ireturn, 1) := by decide +kernel
theorem dX3_factHere_0 : decode cX3_factHere 0 = .ok (.aload_n 0, 1) := by decide +kernel
theorem dX3_factHere_1 : decode cX3_factHere 1 = .ok (.getfield 19, 3) := by decide +kernel
theorem dX3_factHere_4 : decode cX3_factHere 4 = .ok (.ldc 99, 2) := by decide +kernel
theorem dX3_factHere_6 : decode cX3_factHere 6 = .ok (.invokevirtual 43, 3) := by decide +kernel
theorem dX3_factHere_9 : decode cX3_factHere 9 = .ok (.ifCond .eq 5, 3) := by decide +kernel
theorem dX3_factHere_12 : decode cX3_factHere 12 = .ok (.iconst 0, 1) := by decide +kernel
theorem dX3_factHere_13 : decode cX3_factHere 13 = .ok (.ireturn, 1) := by decide +kernel
theorem dX3_factHere_14 : decode cX3_factHere 14 = .ok (.aload_n 0, 1) := by decide +kernel
theorem dX3_factHere_15 : decode cX3_factHere 15 = .ok (.getfield 19, 3) := by decide +kernel
theorem dX3_factHere_18 : decode cX3_factHere 18 = .ok (.ldc 101, 2) := by decide +kernel
theorem dX3_factHere_20 : decode cX3_factHere 20 = .ok (.invokevirtual 43, 3) := by decide +kernel
theorem dX3_factHere_23 : decode cX3_factHere 23 = .ok (.ifCond .eq 5, 3) := by decide +kernel
theorem dX3_factHere_26 : decode cX3_factHere 26 = .ok (.iconst 1, 1) := by decide +kernel
theorem dX3_factHere_27 : decode cX3_factHere 27 = .ok (.ireturn, 1) := by decide +kernel
theorem dX3_factHere_28 : decode cX3_factHere 28 = .ok (.aload_n 0, 1) := by decide +kernel
theorem dX3_factHere_29 : decode cX3_factHere 29 = .ok (.getfield 19, 3) := by decide +kernel
theorem dX3_factHere_32 : decode cX3_factHere 32 = .ok (.ldc 103, 2) := by decide +kernel
theorem dX3_factHere_34 : decode cX3_factHere 34 = .ok (.invokevirtual 43, 3) := by decide +kernel
theorem dX3_factHere_37 : decode cX3_factHere 37 = .ok (.ifCond .eq 5, 3) := by decide +kernel
theorem dX3_factHere_40 : decode cX3_factHere 40 = .ok (.iconst 2, 1) := by decide +kernel
theorem dX3_factHere_41 : decode cX3_factHere 41 = .ok (.ireturn, 1) := by decide +kernel
theorem dX3_factHere_42 : decode cX3_factHere 42 = .ok (.aload_n 0, 1) := by decide +kernel
theorem dX3_factHere_43 : decode cX3_factHere 43 = .ok (.getfield 19, 3) := by decide +kernel
theorem dX3_factHere_46 : decode cX3_factHere 46 = .ok (.ldc 105, 2) := by decide +kernel
theorem dX3_factHere_48 : decode cX3_factHere 48 = .ok (.invokevirtual 43, 3) := by decide +kernel
theorem dX3_factHere_51 : decode cX3_factHere 51 = .ok (.ifCond .eq 5, 3) := by decide +kernel
theorem dX3_factHere_54 : decode cX3_factHere 54 = .ok (.iconst 3, 1) := by decide +kernel
theorem dX3_factHere_55 : decode cX3_factHere 55 = .ok (.ireturn, 1) := by decide +kernel
theorem dX3_factHere_56 : decode cX3_factHere 56 = .ok (.aload_n 0, 1) := by decide +kernel
theorem dX3_factHere_57 : decode cX3_factHere 57 = .ok (.getfield 19, 3) := by decide +kernel
theorem dX3_factHere_60 : decode cX3_factHere 60 = .ok (.ldc 107, 2) := by decide +kernel
theorem dX3_factHere_62 : decode cX3_factHere 62 = .ok (.invokevirtual 43, 3) := by decide +kernel
theorem dX3_factHere_65 : decode cX3_factHere 65 = .ok (.ifCond .eq 5, 3) := by decide +kernel
theorem dX3_factHere_68 : decode cX3_factHere 68 = .ok (.iconst 4, 1) := by decide +kernel
theorem dX3_factHere_69 : decode cX3_factHere 69 = .ok (.ireturn, 1) := by decide +kernel
theorem dX3_factHere_70 : decode cX3_factHere 70 = .ok (.aload_n 0, 1) := by decide +kernel
theorem dX3_factHere_71 : decode cX3_factHere 71 = .ok (.getfield 19, 3) := by decide +kernel
theorem dX3_factHere_74 : decode cX3_factHere 74 = .ok (.ldc 109, 2) := by decide +kernel
theorem dX3_factHere_76 : decode cX3_factHere 76 = .ok (.invokevirtual 43, 3) := by decide +kernel
theorem dX3_factHere_79 : decode cX3_factHere 79 = .ok (.ifCond .eq 5, 3) := by decide +kernel
theorem dX3_factHere_82 : decode cX3_factHere 82 = .ok (.iconst 5, 1) := by decide +kernel
theorem dX3_factHere_83 : decode cX3_factHere 83 = .ok (.ireturn, 1) := by decide +kernel
theorem dX3_factHere_84 : decode cX3_factHere 84 = .ok (.aload_n 0, 1) := by decide +kernel
theorem dX3_factHere_85 : decode cX3_factHere 85 = .ok (.getfield 19, 3) := by decide +kernel
theorem dX3_factHere_88 : decode cX3_factHere 88 = .ok (.ldc 111, 2) := by decide +kernel
theorem dX3_factHere_90 : decode cX3_factHere 90 = .ok (.invokevirtual 43, 3) := by decide +kernel
theorem dX3_factHere_93 : decode cX3_factHere 93 = .ok (.ifCond .eq 8, 3) := by decide +kernel
theorem dX3_factHere_96 : decode cX3_factHere 96 = .ok (.bipush 6, 2) := by decide +kernel
theorem dX3_factHere_98 : decode cX3_factHere 98 = .ok (.goto 4, 3) := by decide +kernel
theorem dX3_factHere_101 : decode cX3_factHere 101 = .ok (.iconst (-1), 1) := by decide +kernel
theorem dX3_factHere_102 : decode cX3_factHere 102 = .ok (.ireturn, 1) := by decide +kernel
theorem dX3_put_0 : decode cX3_put 0 = .ok (.aload_n 0, 1) := by decide +kernel
theorem dX3_put_1 : decode cX3_put 1 = .ok (.getfield 15, 3) := by decide +kernel
theorem dX3_put_4 : decode cX3_put 4 = .ok (.sipush 900, 3) := by decide +kernel
theorem dX3_put_7 : decode cX3_put 7 = .ok (.if_icmp .ge 27, 3) := by decide +kernel
theorem dX3_put_10 : decode cX3_put 10 = .ok (.aload_n 0, 1) := by decide +kernel
theorem dX3_put_11 : decode cX3_put 11 = .ok (.getfield 9, 3) := by decide +kernel
theorem dX3_put_14 : decode cX3_put 14 = .ok (.aload_n 0, 1) := by decide +kernel
theorem dX3_put_15 : decode cX3_put 15 = .ok (.getfield 15, 3) := by decide +kernel
theorem dX3_put_18 : decode cX3_put 18 = .ok (.iload_n 1, 1) := by decide +kernel
theorem dX3_put_19 : decode cX3_put 19 = .ok (.iload_n 2, 1) := by decide +kernel
theorem dX3_put_20 : decode cX3_put 20 = .ok (.iconst 4, 1) := by decide +kernel
theorem dX3_put_21 : decode cX3_put 21 = .ok (.ishl, 1) := by decide +kernel
theorem dX3_put_22 : decode cX3_put 22 = .ok (.ior, 1) := by decide +kernel
theorem dX3_put_23 : decode cX3_put 23 = .ok (.iastore, 1) := by decide +kernel
theorem dX3_put_24 : decode cX3_put 24 = .ok (.aload_n 0, 1) := by decide +kernel
theorem dX3_put_25 : decode cX3_put 25 = .ok (.dup, 1) := by decide +kernel
theorem dX3_put_26 : decode cX3_put 26 = .ok (.getfield 15, 3) := by decide +kernel
theorem dX3_put_29 : decode cX3_put 29 = .ok (.iconst 1, 1) := by decide +kernel
theorem dX3_put_30 : decode cX3_put 30 = .ok (.iadd, 1) := by decide +kernel
theorem dX3_put_31 : decode cX3_put 31 = .ok (.putfield 15, 3) := by decide +kernel
theorem dX3_put_34 : decode cX3_put 34 = .ok (.return_, 1) := by decide +kernel
theorem dX3_readAtom_0 : decode cX3_readAtom 0 = .ok (.aload_n 0, 1) := by decide +kernel
theorem dX3_readAtom_1 : decode cX3_readAtom 1 = .ok (.getfield 19, 3) := by decide +kernel
theorem dX3_readAtom_4 : decode cX3_readAtom 4 = .ok (.bipush 40, 2) := by decide +kernel
theorem dX3_readAtom_6 : decode cX3_readAtom 6 = .ok (.invokevirtual 70, 3) := by decide +kernel
theorem dX3_readAtom_9 : decode cX3_readAtom 9 = .ok (.ifCond .eq 39, 3) := by decide +kernel
theorem dX3_readAtom_12 : decode cX3_readAtom 12 = .ok (.aload_n 0, 1) := by decide +kernel
theorem dX3_readAtom_13 : decode cX3_readAtom 13 = .ok (.iload_n 1, 1) := by decide +kernel
theorem dX3_readAtom_14 : decode cX3_readAtom 14 = .ok (.invokevirtual 67, 3) := by decide +kernel
theorem dX3_readAtom_17 : decode cX3_readAtom 17 = .ok (.ifCond .eq 29, 3) := by decide +kernel
theorem dX3_readAtom_46 : decode cX3_readAtom 46 = .ok (.iconst 0, 1) := by decide +kernel
theorem dX3_readAtom_47 : decode cX3_readAtom 47 = .ok (.ireturn, 1) := by decide +kernel
theorem dX3_readAtom_48 : decode cX3_readAtom 48 = .ok (.aload_n 0, 1) := by decide +kernel
theorem dX3_readAtom_49 : decode cX3_readAtom 49 = .ok (.getfield 19, 3) := by decide +kernel
theorem dX3_readAtom_52 : decode cX3_readAtom 52 = .ok (.getfield 89, 3) := by decide +kernel
theorem dX3_readAtom_55 : decode cX3_readAtom 55 = .ok (.iconst 2, 1) := by decide +kernel
theorem dX3_readAtom_56 : decode cX3_readAtom 56 = .ok (.if_icmp .ne 24, 3) := by decide +kernel
theorem dX3_readAtom_59 : decode cX3_readAtom 59 = .ok (.aload_n 0, 1) := by decide +kernel
theorem dX3_readAtom_60 : decode cX3_readAtom 60 = .ok (.iconst 0, 1) := by decide +kernel
theorem dX3_readAtom_61 : decode cX3_readAtom 61 = .ok (.aload_n 0, 1) := by decide +kernel
theorem dX3_readAtom_62 : decode cX3_readAtom 62 = .ok (.getfield 19, 3) := by decide +kernel
theorem dX3_readAtom_65 : decode cX3_readAtom 65 = .ok (.getfield 92, 3) := by decide +kernel
theorem dX3_readAtom_68 : decode cX3_readAtom 68 = .ok (.invokevirtual 52, 3) := by decide +kernel
theorem dX3_readAtom_71 : decode cX3_readAtom 71 = .ok (.aload_n 0, 1) := by decide +kernel
theorem dX3_readAtom_72 : decode cX3_readAtom 72 = .ok (.getfield 19, 3) := by decide +kernel
theorem dX3_readAtom_75 : decode cX3_readAtom 75 = .ok (.invokevirtual 49, 3) := by decide +kernel
theorem dX3_readAtom_78 : decode cX3_readAtom 78 = .ok (.iconst 1, 1) := by decide +kernel
theorem dX3_readAtom_79 : decode cX3_readAtom 79 = .ok (.ireturn, 1) := by decide +kernel
theorem dX3_readAtom_80 : decode cX3_readAtom 80 = .ok (.aload_n 0, 1) := by decide +kernel
theorem dX3_readAtom_81 : decode cX3_readAtom 81 = .ok (.invokevirtual 95, 3) := by decide +kernel
theorem dX3_readAtom_84 : decode cX3_readAtom 84 = .ok (.istore_n 2, 1) := by decide +kernel
theorem dX3_readAtom_85 : decode cX3_readAtom 85 = .ok (.iload_n 2, 1) := by decide +kernel
theorem dX3_readAtom_86 : decode cX3_readAtom 86 = .ok (.iconst (-1), 1) := by decide +kernel
theorem dX3_readAtom_87 : decode cX3_readAtom 87 = .ok (.if_icmp .ne 12, 3) := by decide +kernel
theorem dX3_readAtom_90 : decode cX3_readAtom 90 = .ok (.aload_n 0, 1) := by decide +kernel
theorem dX3_readAtom_91 : decode cX3_readAtom 91 = .ok (.getfield 19, 3) := by decide +kernel
theorem dX3_readAtom_94 : decode cX3_readAtom 94 = .ok (.iconst 2, 1) := by decide +kernel
theorem dX3_readAtom_95 : decode cX3_readAtom 95 = .ok (.invokevirtual 80, 3) := by decide +kernel
theorem dX3_readAtom_98 : decode cX3_readAtom 98 = .ok (.ireturn, 1) := by decide +kernel
theorem dX3_readAtom_99 : decode cX3_readAtom 99 = .ok (.aload_n 0, 1) := by decide +kernel
theorem dX3_readAtom_100 : decode cX3_readAtom 100 = .ok (.iconst 1, 1) := by decide +kernel
theorem dX3_readAtom_101 : decode cX3_readAtom 101 = .ok (.iload_n 2, 1) := by decide +kernel
theorem dX3_readAtom_102 : decode cX3_readAtom 102 = .ok (.invokevirtual 52, 3) := by decide +kernel
theorem dX3_readAtom_105 : decode cX3_readAtom 105 = .ok (.aload_n 0, 1) := by decide +kernel
theorem dX3_readAtom_106 : decode cX3_readAtom 106 = .ok (.getfield 19, 3) := by decide +kernel
theorem dX3_readAtom_109 : decode cX3_readAtom 109 = .ok (.invokevirtual 49, 3) := by decide +kernel
theorem dX3_readAtom_112 : decode cX3_readAtom 112 = .ok (.iconst 1, 1) := by decide +kernel
theorem dX3_readAtom_113 : decode cX3_readAtom 113 = .ok (.ireturn, 1) := by decide +kernel
theorem dX3_readBoth_0 : decode cX3_readBoth 0 = .ok (.aload_n 0, 1) := by decide +kernel
theorem dX3_readBoth_1 : decode cX3_readBoth 1 = .ok (.iload_n 1, 1) := by decide +kernel
theorem dX3_readBoth_2 : decode cX3_readBoth 2 = .ok (.invokevirtual 60, 3) := by decide +kernel
theorem dX3_readBoth_5 : decode cX3_readBoth 5 = .ok (.istore_n 2, 1) := by decide +kernel
theorem dX3_readBoth_6 : decode cX3_readBoth 6 = .ok (.iconst 0, 1) := by decide +kernel
theorem dX3_readBoth_7 : decode cX3_readBoth 7 = .ok (.istore_n 3, 1) := by decide +kernel
theorem dX3_readBoth_8 : decode cX3_readBoth 8 = .ok (.iload_n 3, 1) := by decide +kernel
theorem dX3_readBoth_9 : decode cX3_readBoth 9 = .ok (.sipush 900, 3) := by decide +kernel
theorem dX3_readBoth_12 : decode cX3_readBoth 12 = .ok (.if_icmp .ge 56, 3) := by decide +kernel
theorem dX3_readBoth_15 : decode cX3_readBoth 15 = .ok (.iload_n 2, 1) := by decide +kernel
theorem dX3_readBoth_16 : decode cX3_readBoth 16 = .ok (.ifCond .eq 52, 3) := by decide +kernel
theorem dX3_readBoth_19 : decode cX3_readBoth 19 = .ok (.aload_n 0, 1) := by decide +kernel
theorem dX3_readBoth_20 : decode cX3_readBoth 20 = .ok (.getfield 19, 3) := by decide +kernel
theorem dX3_readBoth_23 : decode cX3_readBoth 23 = .ok (.ldc 63, 2) := by decide +kernel
theorem dX3_readBoth_25 : decode cX3_readBoth 25 = .ok (.invokevirtual 43, 3) := by decide +kernel
theorem dX3_readBoth_28 : decode cX3_readBoth 28 = .ok (.ifCond .eq 40, 3) := by decide +kernel
theorem dX3_readBoth_31 : decode cX3_readBoth 31 = .ok (.aload_n 0, 1) := by decide +kernel
theorem dX3_readBoth_32 : decode cX3_readBoth 32 = .ok (.getfield 19, 3) := by decide +kernel
theorem dX3_readBoth_35 : decode cX3_readBoth 35 = .ok (.invokevirtual 49, 3) := by decide +kernel
theorem dX3_readBoth_38 : decode cX3_readBoth 38 = .ok (.aload_n 0, 1) := by decide +kernel
theorem dX3_readBoth_39 : decode cX3_readBoth 39 = .ok (.getfield 15, 3) := by decide +kernel
theorem dX3_readBoth_42 : decode cX3_readBoth 42 = .ok (.istore 4, 2) := by decide +kernel
theorem dX3_readBoth_44 : decode cX3_readBoth 44 = .ok (.aload_n 0, 1) := by decide +kernel
theorem dX3_readBoth_45 : decode cX3_readBoth 45 = .ok (.iconst 3, 1) := by decide +kernel
theorem dX3_readBoth_46 : decode cX3_readBoth 46 = .ok (.iconst 0, 1) := by decide +kernel
theorem dX3_readBoth_47 : decode cX3_readBoth 47 = .ok (.invokevirtual 52, 3) := by decide +kernel
theorem dX3_readBoth_50 : decode cX3_readBoth 50 = .ok (.aload_n 0, 1) := by decide +kernel
theorem dX3_readBoth_51 : decode cX3_readBoth 51 = .ok (.iload_n 1, 1) := by decide +kernel
theorem dX3_readBoth_52 : decode cX3_readBoth 52 = .ok (.invokevirtual 60, 3) := by decide +kernel
theorem dX3_readBoth_55 : decode cX3_readBoth 55 = .ok (.istore_n 2, 1) := by decide +kernel
theorem dX3_readBoth_56 : decode cX3_readBoth 56 = .ok (.aload_n 0, 1) := by decide +kernel
theorem dX3_readBoth_57 : decode cX3_readBoth 57 = .ok (.iload 4, 2) := by decide +kernel
theorem dX3_readBoth_59 : decode cX3_readBoth 59 = .ok (.invokevirtual 56, 3) := by decide +kernel
theorem dX3_readBoth_62 : decode cX3_readBoth 62 = .ok (.iinc 3 1, 3) := by decide +kernel
theorem dX3_readBoth_65 : decode cX3_readBoth 65 = .ok (.goto (-57), 3) := by decide +kernel
theorem dX3_readBoth_68 : decode cX3_readBoth 68 = .ok (.iload_n 2, 1) := by decide +kernel
theorem dX3_readBoth_69 : decode cX3_readBoth 69 = .ok (.ireturn, 1) := by decide +kernel
theorem dX3_readSum_0 : decode cX3_readSum 0 = .ok (.aload_n 0, 1) := by decide +kernel
theorem dX3_readSum_1 : decode cX3_readSum 1 = .ok (.iload_n 1, 1) := by decide +kernel
theorem dX3_readSum_2 : decode cX3_readSum 2 = .ok (.invokevirtual 83, 3) := by decide +kernel
theorem dX3_readSum_5 : decode cX3_readSum 5 = .ok (.istore_n 2, 1) := by decide +kernel
theorem dX3_readSum_6 : decode cX3_readSum 6 = .ok (.iconst 0, 1) := by decide +kernel
theorem dX3_readSum_7 : decode cX3_readSum 7 = .ok (.istore_n 3, 1) := by decide +kernel
theorem dX3_readSum_8 : decode cX3_readSum 8 = .ok (.iload_n 3, 1) := by decide +kernel
theorem dX3_readSum_9 : decode cX3_readSum 9 = .ok (.sipush 900, 3) := by decide +kernel
theorem dX3_readSum_12 : decode cX3_readSum 12 = .ok (.if_icmp .ge 77, 3) := by decide +kernel
theorem dX3_readSum_15 : decode cX3_readSum 15 = .ok (.iload_n 2, 1) := by decide +kernel
theorem dX3_readSum_16 : decode cX3_readSum 16 = .ok (.ifCond .eq 73, 3) := by decide +kernel
theorem dX3_readSum_19 : decode cX3_readSum 19 = .ok (.aload_n 0, 1) := by decide +kernel
theorem dX3_readSum_20 : decode cX3_readSum 20 = .ok (.getfield 19, 3) := by decide +kernel
theorem dX3_readSum_23 : decode cX3_readSum 23 = .ok (.bipush 43, 2) := by decide +kernel
theorem dX3_readSum_25 : decode cX3_readSum 25 = .ok (.invokevirtual 70, 3) := by decide +kernel
theorem dX3_readSum_28 : decode cX3_readSum 28 = .ok (.ifCond .ne 15, 3) := by decide +kernel
theorem dX3_readSum_31 : decode cX3_readSum 31 = .ok (.aload_n 0, 1) := by decide +kernel
theorem dX3_readSum_32 : decode cX3_readSum 32 = .ok (.getfield 19, 3) := by decide +kernel
theorem dX3_readSum_35 : decode cX3_readSum 35 = .ok (.bipush 45, 2) := by decide +kernel
theorem dX3_readSum_37 : decode cX3_readSum 37 = .ok (.invokevirtual 70, 3) := by decide +kernel
theorem dX3_readSum_40 : decode cX3_readSum 40 = .ok (.ifCond .eq 49, 3) := by decide +kernel
theorem dX3_readSum_43 : decode cX3_readSum 43 = .ok (.aload_n 0, 1) := by decide +kernel
theorem dX3_readSum_44 : decode cX3_readSum 44 = .ok (.getfield 19, 3) := by decide +kernel
theorem dX3_readSum_47 : decode cX3_readSum 47 = .ok (.bipush 43, 2) := by decide +kernel
theorem dX3_readSum_49 : decode cX3_readSum 49 = .ok (.invokevirtual 70, 3) := by decide +kernel
theorem dX3_readSum_52 : decode cX3_readSum 52 = .ok (.ifCond .eq 7, 3) := by decide +kernel
theorem dX3_readSum_55 : decode cX3_readSum 55 = .ok (.iconst 5, 1) := by decide +kernel
theorem dX3_readSum_56 : decode cX3_readSum 56 = .ok (.goto 5, 3) := by decide +kernel
theorem dX3_readSum_59 : decode cX3_readSum 59 = .ok (.bipush 6, 2) := by decide +kernel
theorem dX3_readSum_61 : decode cX3_readSum 61 = .ok (.istore 4, 2) := by decide +kernel
theorem dX3_readSum_63 : decode cX3_readSum 63 = .ok (.aload_n 0, 1) := by decide +kernel
theorem dX3_readSum_64 : decode cX3_readSum 64 = .ok (.getfield 19, 3) := by decide +kernel
theorem dX3_readSum_67 : decode cX3_readSum 67 = .ok (.invokevirtual 49, 3) := by decide +kernel
theorem dX3_readSum_70 : decode cX3_readSum 70 = .ok (.aload_n 0, 1) := by decide +kernel
theorem dX3_readSum_71 : decode cX3_readSum 71 = .ok (.iload_n 1, 1) := by decide +kernel
theorem dX3_readSum_72 : decode cX3_readSum 72 = .ok (.invokevirtual 83, 3) := by decide +kernel
theorem dX3_readSum_75 : decode cX3_readSum 75 = .ok (.istore_n 2, 1) := by decide +kernel
theorem dX3_readSum_76 : decode cX3_readSum 76 = .ok (.aload_n 0, 1) := by decide +kernel
theorem dX3_readSum_77 : decode cX3_readSum 77 = .ok (.iload 4, 2) := by decide +kernel
theorem dX3_readSum_79 : decode cX3_readSum 79 = .ok (.iconst 0, 1) := by decide +kernel
theorem dX3_readSum_80 : decode cX3_readSum 80 = .ok (.invokevirtual 52, 3) := by decide +kernel
theorem dX3_readSum_83 : decode cX3_readSum 83 = .ok (.iinc 3 1, 3) := by decide +kernel
theorem dX3_readSum_86 : decode cX3_readSum 86 = .ok (.goto (-78), 3) := by decide +kernel
theorem dX3_readSum_89 : decode cX3_readSum 89 = .ok (.iload_n 2, 1) := by decide +kernel
theorem dX3_readSum_90 : decode cX3_readSum 90 = .ok (.ireturn, 1) := by decide +kernel
theorem dX3_readTerm_0 : decode cX3_readTerm 0 = .ok (.aload_n 0, 1) := by decide +kernel
theorem dX3_readTerm_1 : decode cX3_readTerm 1 = .ok (.iload_n 1, 1) := by decide +kernel
theorem dX3_readTerm_2 : decode cX3_readTerm 2 = .ok (.invokevirtual 86, 3) := by decide +kernel
theorem dX3_readTerm_5 : decode cX3_readTerm 5 = .ok (.istore_n 2, 1) := by decide +kernel
theorem dX3_readTerm_6 : decode cX3_readTerm 6 = .ok (.iconst 0, 1) := by decide +kernel
theorem dX3_readTerm_7 : decode cX3_readTerm 7 = .ok (.istore_n 3, 1) := by decide +kernel
theorem dX3_readTerm_8 : decode cX3_readTerm 8 = .ok (.iload_n 3, 1) := by decide +kernel
theorem dX3_readTerm_9 : decode cX3_readTerm 9 = .ok (.sipush 900, 3) := by decide +kernel
theorem dX3_readTerm_12 : decode cX3_readTerm 12 = .ok (.if_icmp .ge 45, 3) := by decide +kernel
theorem dX3_readTerm_15 : decode cX3_readTerm 15 = .ok (.iload_n 2, 1) := by decide +kernel
theorem dX3_readTerm_16 : decode cX3_readTerm 16 = .ok (.ifCond .eq 41, 3) := by decide +kernel
theorem dX3_readTerm_19 : decode cX3_readTerm 19 = .ok (.aload_n 0, 1) := by decide +kernel
theorem dX3_readTerm_20 : decode cX3_readTerm 20 = .ok (.getfield 19, 3) := by decide +kernel
theorem dX3_readTerm_23 : decode cX3_readTerm 23 = .ok (.bipush 42, 2) := by decide +kernel
theorem dX3_readTerm_25 : decode cX3_readTerm 25 = .ok (.invokevirtual 70, 3) := by decide +kernel
theorem dX3_readTerm_28 : decode cX3_readTerm 28 = .ok (.ifCond .eq 29, 3) := by decide +kernel
theorem dX3_readTerm_31 : decode cX3_readTerm 31 = .ok (.aload_n 0, 1) := by decide +kernel
theorem dX3_readTerm_32 : decode cX3_readTerm 32 = .ok (.getfield 19, 3) := by decide +kernel
theorem dX3_readTerm_35 : decode cX3_readTerm 35 = .ok (.invokevirtual 49, 3) := by decide +kernel
theorem dX3_readTerm_38 : decode cX3_readTerm 38 = .ok (.aload_n 0, 1) := by decide +kernel
theorem dX3_readTerm_39 : decode cX3_readTerm 39 = .ok (.iload_n 1, 1) := by decide +kernel
theorem dX3_readTerm_40 : decode cX3_readTerm 40 = .ok (.invokevirtual 86, 3) := by decide +kernel
theorem dX3_readTerm_43 : decode cX3_readTerm 43 = .ok (.istore_n 2, 1) := by decide +kernel
theorem dX3_readTerm_44 : decode cX3_readTerm 44 = .ok (.aload_n 0, 1) := by decide +kernel
theorem dX3_readTerm_45 : decode cX3_readTerm 45 = .ok (.bipush 7, 2) := by decide +kernel
theorem dX3_readTerm_47 : decode cX3_readTerm 47 = .ok (.iconst 0, 1) := by decide +kernel
theorem dX3_readTerm_48 : decode cX3_readTerm 48 = .ok (.invokevirtual 52, 3) := by decide +kernel
theorem dX3_readTerm_51 : decode cX3_readTerm 51 = .ok (.iinc 3 1, 3) := by decide +kernel
theorem dX3_readTerm_54 : decode cX3_readTerm 54 = .ok (.goto (-46), 3) := by decide +kernel
theorem dX3_readTerm_57 : decode cX3_readTerm 57 = .ok (.iload_n 2, 1) := by decide +kernel
theorem dX3_readTerm_58 : decode cX3_readTerm 58 = .ok (.ireturn, 1) := by decide +kernel
theorem dX3_readTruth_0 : decode cX3_readTruth 0 = .ok (.aload_n 0, 1) := by decide +kernel
theorem dX3_readTruth_1 : decode cX3_readTruth 1 = .ok (.iload_n 1, 1) := by decide +kernel
theorem dX3_readTruth_2 : decode cX3_readTruth 2 = .ok (.invokevirtual 38, 3) := by decide +kernel
theorem dX3_readTruth_5 : decode cX3_readTruth 5 = .ok (.istore_n 2, 1) := by decide +kernel
theorem dX3_readTruth_6 : decode cX3_readTruth 6 = .ok (.iconst 0, 1) := by decide +kernel
theorem dX3_readTruth_7 : decode cX3_readTruth 7 = .ok (.istore_n 3, 1) := by decide +kernel
theorem dX3_readTruth_8 : decode cX3_readTruth 8 = .ok (.iload_n 3, 1) := by decide +kernel
theorem dX3_readTruth_9 : decode cX3_readTruth 9 = .ok (.sipush 900, 3) := by decide +kernel
theorem dX3_readTruth_12 : decode cX3_readTruth 12 = .ok (.if_icmp .ge 56, 3) := by decide +kernel
theorem dX3_readTruth_15 : decode cX3_readTruth 15 = .ok (.iload_n 2, 1) := by decide +kernel
theorem dX3_readTruth_16 : decode cX3_readTruth 16 = .ok (.ifCond .eq 52, 3) := by decide +kernel
theorem dX3_readTruth_19 : decode cX3_readTruth 19 = .ok (.aload_n 0, 1) := by decide +kernel
theorem dX3_readTruth_20 : decode cX3_readTruth 20 = .ok (.getfield 19, 3) := by decide +kernel
theorem dX3_readTruth_23 : decode cX3_readTruth 23 = .ok (.ldc 41, 2) := by decide +kernel
theorem dX3_readTruth_25 : decode cX3_readTruth 25 = .ok (.invokevirtual 43, 3) := by decide +kernel
theorem dX3_readTruth_28 : decode cX3_readTruth 28 = .ok (.ifCond .eq 40, 3) := by decide +kernel
theorem dX3_readTruth_31 : decode cX3_readTruth 31 = .ok (.aload_n 0, 1) := by decide +kernel
theorem dX3_readTruth_32 : decode cX3_readTruth 32 = .ok (.getfield 19, 3) := by decide +kernel
theorem dX3_readTruth_35 : decode cX3_readTruth 35 = .ok (.invokevirtual 49, 3) := by decide +kernel
theorem dX3_readTruth_38 : decode cX3_readTruth 38 = .ok (.aload_n 0, 1) := by decide +kernel
theorem dX3_readTruth_39 : decode cX3_readTruth 39 = .ok (.getfield 15, 3) := by decide +kernel
theorem dX3_readTruth_42 : decode cX3_readTruth 42 = .ok (.istore 4, 2) := by decide +kernel
theorem dX3_readTruth_44 : decode cX3_readTruth 44 = .ok (.aload_n 0, 1) := by decide +kernel
theorem dX3_readTruth_45 : decode cX3_readTruth 45 = .ok (.iconst 4, 1) := by decide +kernel
theorem dX3_readTruth_46 : decode cX3_readTruth 46 = .ok (.iconst 0, 1) := by decide +kernel
theorem dX3_readTruth_47 : decode cX3_readTruth 47 = .ok (.invokevirtual 52, 3) := by decide +kernel
theorem dX3_readTruth_50 : decode cX3_readTruth 50 = .ok (.aload_n 0, 1) := by decide +kernel
theorem dX3_readTruth_51 : decode cX3_readTruth 51 = .ok (.iload_n 1, 1) := by decide +kernel
theorem dX3_readTruth_52 : decode cX3_readTruth 52 = .ok (.invokevirtual 38, 3) := by decide +kernel
theorem dX3_readTruth_55 : decode cX3_readTruth 55 = .ok (.istore_n 2, 1) := by decide +kernel
theorem dX3_readTruth_56 : decode cX3_readTruth 56 = .ok (.aload_n 0, 1) := by decide +kernel
theorem dX3_readTruth_57 : decode cX3_readTruth 57 = .ok (.iload 4, 2) := by decide +kernel
theorem dX3_readTruth_59 : decode cX3_readTruth 59 = .ok (.invokevirtual 56, 3) := by decide +kernel
theorem dX3_readTruth_62 : decode cX3_readTruth 62 = .ok (.iinc 3 1, 3) := by decide +kernel
theorem dX3_readTruth_65 : decode cX3_readTruth 65 = .ok (.goto (-57), 3) := by decide +kernel
theorem dX3_readTruth_68 : decode cX3_readTruth 68 = .ok (.iload_n 2, 1) := by decide +kernel
theorem dX3_readTruth_69 : decode cX3_readTruth 69 = .ok (.ireturn, 1) := by decide +kernel
theorem dX3_readUnit_0 : decode cX3_readUnit 0 = .ok (.aload_n 0, 1) := by decide +kernel
theorem dX3_readUnit_1 : decode cX3_readUnit 1 = .ok (.getfield 19, 3) := by decide +kernel
theorem dX3_readUnit_4 : decode cX3_readUnit 4 = .ok (.ldc 65, 2) := by decide +kernel
theorem dX3_readUnit_6 : decode cX3_readUnit 6 = .ok (.invokevirtual 43, 3) := by decide +kernel
theorem dX3_readUnit_9 : decode cX3_readUnit 9 = .ok (.ifCond .eq 31, 3) := by decide +kernel
theorem dX3_readUnit_12 : decode cX3_readUnit 12 = .ok (.aload_n 0, 1) := by decide +kernel
theorem dX3_readUnit_13 : decode cX3_readUnit 13 = .ok (.iload_n 1, 1) := by decide +kernel
theorem dX3_readUnit_14 : decode cX3_readUnit 14 = .ok (.invokevirtual 67, 3) := by decide +kernel
theorem dX3_readUnit_17 : decode cX3_readUnit 17 = .ok (.ifCond .eq 13, 3) := by decide +kernel
theorem dX3_readUnit_30 : decode cX3_readUnit 30 = .ok (.iconst 0, 1) := by decide +kernel
theorem dX3_readUnit_31 : decode cX3_readUnit 31 = .ok (.ireturn, 1) := by decide +kernel
theorem dX3_readUnit_40 : decode cX3_readUnit 40 = .ok (.aload_n 0, 1) := by decide +kernel
theorem dX3_readUnit_41 : decode cX3_readUnit 41 = .ok (.getfield 19, 3) := by decide +kernel
theorem dX3_readUnit_44 : decode cX3_readUnit 44 = .ok (.bipush 91, 2) := by decide +kernel
theorem dX3_readUnit_46 : decode cX3_readUnit 46 = .ok (.invokevirtual 70, 3) := by decide +kernel
theorem dX3_readUnit_49 : decode cX3_readUnit 49 = .ok (.ifCond .eq 39, 3) := by decide +kernel
theorem dX3_readUnit_52 : decode cX3_readUnit 52 = .ok (.aload_n 0, 1) := by decide +kernel
theorem dX3_readUnit_53 : decode cX3_readUnit 53 = .ok (.iload_n 1, 1) := by decide +kernel
theorem dX3_readUnit_54 : decode cX3_readUnit 54 = .ok (.invokevirtual 67, 3) := by decide +kernel
theorem dX3_readUnit_57 : decode cX3_readUnit 57 = .ok (.ifCond .eq 29, 3) := by decide +kernel
theorem dX3_readUnit_86 : decode cX3_readUnit 86 = .ok (.iconst 0, 1) := by decide +kernel
theorem dX3_readUnit_87 : decode cX3_readUnit 87 = .ok (.ireturn, 1) := by decide +kernel
theorem dX3_readUnit_88 : decode cX3_readUnit 88 = .ok (.aload_n 0, 1) := by decide +kernel
theorem dX3_readUnit_89 : decode cX3_readUnit 89 = .ok (.iload_n 1, 1) := by decide +kernel
theorem dX3_readUnit_90 : decode cX3_readUnit 90 = .ok (.invokevirtual 77, 3) := by decide +kernel
theorem dX3_readUnit_93 : decode cX3_readUnit 93 = .ok (.ifCond .ne 5, 3) := by decide +kernel
theorem dX3_readUnit_96 : decode cX3_readUnit 96 = .ok (.iconst 0, 1) := by decide +kernel
theorem dX3_readUnit_97 : decode cX3_readUnit 97 = .ok (.ireturn, 1) := by decide +kernel
theorem dX3_readUnit_98 : decode cX3_readUnit 98 = .ok (.aload_n 0, 1) := by decide +kernel
theorem dX3_readUnit_99 : decode cX3_readUnit 99 = .ok (.getfield 19, 3) := by decide +kernel
theorem dX3_readUnit_102 : decode cX3_readUnit 102 = .ok (.bipush 61, 2) := by decide +kernel
theorem dX3_readUnit_104 : decode cX3_readUnit 104 = .ok (.invokevirtual 70, 3) := by decide +kernel
theorem dX3_readUnit_107 : decode cX3_readUnit 107 = .ok (.ifCond .eq 8, 3) := by decide +kernel
theorem dX3_readUnit_110 : decode cX3_readUnit 110 = .ok (.bipush 8, 2) := by decide +kernel
theorem dX3_readUnit_112 : decode cX3_readUnit 112 = .ok (.goto 22, 3) := by decide +kernel
theorem dX3_readUnit_115 : decode cX3_readUnit 115 = .ok (.aload_n 0, 1) := by decide +kernel
theorem dX3_readUnit_116 : decode cX3_readUnit 116 = .ok (.getfield 19, 3) := by decide +kernel
theorem dX3_readUnit_119 : decode cX3_readUnit 119 = .ok (.bipush 60, 2) := by decide +kernel
theorem dX3_readUnit_121 : decode cX3_readUnit 121 = .ok (.invokevirtual 70, 3) := by decide +kernel
theorem dX3_readUnit_124 : decode cX3_readUnit 124 = .ok (.ifCond .eq 8, 3) := by decide +kernel
theorem dX3_readUnit_127 : decode cX3_readUnit 127 = .ok (.bipush 9, 2) := by decide +kernel
theorem dX3_readUnit_129 : decode cX3_readUnit 129 = .ok (.goto 5, 3) := by decide +kernel
theorem dX3_readUnit_132 : decode cX3_readUnit 132 = .ok (.bipush 10, 2) := by decide +kernel
theorem dX3_readUnit_134 : decode cX3_readUnit 134 = .ok (.istore_n 2, 1) := by decide +kernel
theorem dX3_readUnit_135 : decode cX3_readUnit 135 = .ok (.iload_n 2, 1) := by decide +kernel
theorem dX3_readUnit_136 : decode cX3_readUnit 136 = .ok (.bipush 10, 2) := by decide +kernel
theorem dX3_readUnit_138 : decode cX3_readUnit 138 = .ok (.if_icmp .ne 24, 3) := by decide +kernel
theorem dX3_readUnit_141 : decode cX3_readUnit 141 = .ok (.aload_n 0, 1) := by decide +kernel
theorem dX3_readUnit_142 : decode cX3_readUnit 142 = .ok (.getfield 19, 3) := by decide +kernel
theorem dX3_readUnit_145 : decode cX3_readUnit 145 = .ok (.bipush 62, 2) := by decide +kernel
theorem dX3_readUnit_147 : decode cX3_readUnit 147 = .ok (.invokevirtual 70, 3) := by decide +kernel
theorem dX3_readUnit_150 : decode cX3_readUnit 150 = .ok (.ifCond .ne 12, 3) := by decide +kernel
theorem dX3_readUnit_153 : decode cX3_readUnit 153 = .ok (.aload_n 0, 1) := by decide +kernel
theorem dX3_readUnit_154 : decode cX3_readUnit 154 = .ok (.getfield 19, 3) := by decide +kernel
theorem dX3_readUnit_157 : decode cX3_readUnit 157 = .ok (.iconst 2, 1) := by decide +kernel
theorem dX3_readUnit_158 : decode cX3_readUnit 158 = .ok (.invokevirtual 80, 3) := by decide +kernel
theorem dX3_readUnit_161 : decode cX3_readUnit 161 = .ok (.ireturn, 1) := by decide +kernel
theorem dX3_readUnit_162 : decode cX3_readUnit 162 = .ok (.aload_n 0, 1) := by decide +kernel
theorem dX3_readUnit_163 : decode cX3_readUnit 163 = .ok (.getfield 19, 3) := by decide +kernel
theorem dX3_readUnit_166 : decode cX3_readUnit 166 = .ok (.invokevirtual 49, 3) := by decide +kernel
theorem dX3_readUnit_169 : decode cX3_readUnit 169 = .ok (.aload_n 0, 1) := by decide +kernel
theorem dX3_readUnit_170 : decode cX3_readUnit 170 = .ok (.iload_n 1, 1) := by decide +kernel
theorem dX3_readUnit_171 : decode cX3_readUnit 171 = .ok (.invokevirtual 77, 3) := by decide +kernel
theorem dX3_readUnit_174 : decode cX3_readUnit 174 = .ok (.ifCond .ne 5, 3) := by decide +kernel
theorem dX3_readUnit_177 : decode cX3_readUnit 177 = .ok (.iconst 0, 1) := by decide +kernel
theorem dX3_readUnit_178 : decode cX3_readUnit 178 = .ok (.ireturn, 1) := by decide +kernel
theorem dX3_readUnit_179 : decode cX3_readUnit 179 = .ok (.aload_n 0, 1) := by decide +kernel
theorem dX3_readUnit_180 : decode cX3_readUnit 180 = .ok (.iload_n 2, 1) := by decide +kernel
theorem dX3_readUnit_181 : decode cX3_readUnit 181 = .ok (.iconst 0, 1) := by decide +kernel
theorem dX3_readUnit_182 : decode cX3_readUnit 182 = .ok (.invokevirtual 52, 3) := by decide +kernel
theorem dX3_readUnit_185 : decode cX3_readUnit 185 = .ok (.iconst 1, 1) := by decide +kernel
theorem dX3_readUnit_186 : decode cX3_readUnit 186 = .ok (.ireturn, 1) := by decide +kernel
theorem kw_4 : Cond.initialized "FootholdWall$LawReader" ∈ gw := gw_of (tb_of 4 (by decide +kernel)) (by decide +kernel)
theorem kw_50 : Cond.fieldLink "FootholdWall$LawReader" 89 "FootholdWall$Tokens" "kind" "I" ∈ gw := gw_of (tb_of 50 (by decide +kernel)) (by decide +kernel)
theorem kw_53 : Cond.fieldLink "FootholdWall$LawReader" 92 "FootholdWall$Tokens" "value" "I" ∈ gw := gw_of (tb_of 53 (by decide +kernel)) (by decide +kernel)
theorem kw_82 : Cond.fieldLink "FootholdWall$LawReader" 19 "FootholdWall$LawReader" "tokens" "LFootholdWall$Tokens;" ∈ gw := gw_of (tb_of 82 (by decide +kernel)) (by decide +kernel)
theorem kw_83 : Cond.fieldLink "FootholdWall$LawReader" 9 "FootholdWall$LawReader" "code" "[I" ∈ gw := gw_of (tb_of 83 (by decide +kernel)) (by decide +kernel)
theorem kw_84 : Cond.fieldLink "FootholdWall$LawReader" 15 "FootholdWall$LawReader" "length" "I" ∈ gw := gw_of (tb_of 84 (by decide +kernel)) (by decide +kernel)
theorem kw_626 : Cond.methodLink "FootholdWall$LawReader" 38 yX3_readBoth ∈ gw := gw_of (tb_of 626 (by decide +kernel)) (by decide +kernel)
theorem kw_628 : Cond.instanceMethod yX3_readBoth ∈ gw := gw_of (tb_of 628 (by decide +kernel)) (by decide +kernel)
theorem kw_629 : Cond.code yX3_readBoth cX3_readBoth 5 (some (.boolean)) ∈ gw := gw_of (tb_of 629 (by decide +kernel)) (by decide +kernel)
theorem kw_630 : Cond.methodLink "FootholdWall$LawReader" 60 yX3_readUnit ∈ gw := gw_of (tb_of 630 (by decide +kernel)) (by decide +kernel)
theorem kw_632 : Cond.instanceMethod yX3_readUnit ∈ gw := gw_of (tb_of 632 (by decide +kernel)) (by decide +kernel)
theorem kw_633 : Cond.code yX3_readUnit cX3_readUnit 3 (some (.boolean)) ∈ gw := gw_of (tb_of 633 (by decide +kernel)) (by decide +kernel)
theorem kw_635 : Cond.methodLink "FootholdWall$LawReader" 43 yX7_isWord ∈ gw := gw_of (tb_of 635 (by decide +kernel)) (by decide +kernel)
theorem kw_636 : Cond.methodLink "FootholdWall$LawReader" 67 yX3_enter ∈ gw := gw_of (tb_of 636 (by decide +kernel)) (by decide +kernel)
theorem kw_638 : Cond.instanceMethod yX3_enter ∈ gw := gw_of (tb_of 638 (by decide +kernel)) (by decide +kernel)
theorem kw_639 : Cond.code yX3_enter cX3_enter 2 (some (.boolean)) ∈ gw := gw_of (tb_of 639 (by decide +kernel)) (by decide +kernel)
theorem kw_640 : Cond.methodLink "FootholdWall$LawReader" 80 yX7_refuse ∈ gw := gw_of (tb_of 640 (by decide +kernel)) (by decide +kernel)
theorem kw_641 : Cond.methodLink "FootholdWall$LawReader" 49 yX7_go ∈ gw := gw_of (tb_of 641 (by decide +kernel)) (by decide +kernel)
theorem kw_642 : Cond.methodLink "FootholdWall$LawReader" 52 yX3_put ∈ gw := gw_of (tb_of 642 (by decide +kernel)) (by decide +kernel)
theorem kw_644 : Cond.instanceMethod yX3_put ∈ gw := gw_of (tb_of 644 (by decide +kernel)) (by decide +kernel)
theorem kw_645 : Cond.code yX3_put cX3_put 3 none ∈ gw := gw_of (tb_of 645 (by decide +kernel)) (by decide +kernel)
theorem kw_646 : Cond.methodLink "FootholdWall$LawReader" 70 yX7_isSign ∈ gw := gw_of (tb_of 646 (by decide +kernel)) (by decide +kernel)
theorem kw_648 : Cond.methodLink "FootholdWall$LawReader" 77 yX3_readSum ∈ gw := gw_of (tb_of 648 (by decide +kernel)) (by decide +kernel)
theorem kw_650 : Cond.instanceMethod yX3_readSum ∈ gw := gw_of (tb_of 650 (by decide +kernel)) (by decide +kernel)
theorem kw_651 : Cond.code yX3_readSum cX3_readSum 5 (some (.boolean)) ∈ gw := gw_of (tb_of 651 (by decide +kernel)) (by decide +kernel)
theorem kw_652 : Cond.methodLink "FootholdWall$LawReader" 83 yX3_readTerm ∈ gw := gw_of (tb_of 652 (by decide +kernel)) (by decide +kernel)
theorem kw_654 : Cond.instanceMethod yX3_readTerm ∈ gw := gw_of (tb_of 654 (by decide +kernel)) (by decide +kernel)
theorem kw_655 : Cond.code yX3_readTerm cX3_readTerm 4 (some (.boolean)) ∈ gw := gw_of (tb_of 655 (by decide +kernel)) (by decide +kernel)
theorem kw_656 : Cond.methodLink "FootholdWall$LawReader" 86 yX3_readAtom ∈ gw := gw_of (tb_of 656 (by decide +kernel)) (by decide +kernel)
theorem kw_658 : Cond.instanceMethod yX3_readAtom ∈ gw := gw_of (tb_of 658 (by decide +kernel)) (by decide +kernel)
theorem kw_659 : Cond.code yX3_readAtom cX3_readAtom 3 (some (.boolean)) ∈ gw := gw_of (tb_of 659 (by decide +kernel)) (by decide +kernel)
theorem kw_660 : Cond.methodLink "FootholdWall$LawReader" 95 yX3_factHere ∈ gw := gw_of (tb_of 660 (by decide +kernel)) (by decide +kernel)
theorem kw_662 : Cond.instanceMethod yX3_factHere ∈ gw := gw_of (tb_of 662 (by decide +kernel)) (by decide +kernel)
theorem kw_663 : Cond.code yX3_factHere cX3_factHere 1 (some (.int)) ∈ gw := gw_of (tb_of 663 (by decide +kernel)) (by decide +kernel)
theorem kw_672 : Cond.methodLink "FootholdWall$LawReader" 56 yX3_aimSkip ∈ gw := gw_of (tb_of 672 (by decide +kernel)) (by decide +kernel)
theorem kw_674 : Cond.instanceMethod yX3_aimSkip ∈ gw := gw_of (tb_of 674 (by decide +kernel)) (by decide +kernel)
theorem kw_675 : Cond.code yX3_aimSkip cX3_aimSkip 2 none ∈ gw := gw_of (tb_of 675 (by decide +kernel)) (by decide +kernel)
theorem ks_6 : Cond.selects RX3 yX3_readBoth yX3_readBoth ∈ gw := gw_of (pv_of 6 (by decide +kernel)) (by decide +kernel)
theorem ks_7 : Cond.selects RX3 yX3_readUnit yX3_readUnit ∈ gw := gw_of (pv_of 7 (by decide +kernel)) (by decide +kernel)
theorem ks_8 : Cond.selects RX3 yX3_enter yX3_enter ∈ gw := gw_of (pv_of 8 (by decide +kernel)) (by decide +kernel)
theorem ks_9 : Cond.selects RX3 yX3_put yX3_put ∈ gw := gw_of (pv_of 9 (by decide +kernel)) (by decide +kernel)
theorem ks_10 : Cond.selects RX3 yX3_readSum yX3_readSum ∈ gw := gw_of (pv_of 10 (by decide +kernel)) (by decide +kernel)
theorem ks_11 : Cond.selects RX3 yX3_readTerm yX3_readTerm ∈ gw := gw_of (pv_of 11 (by decide +kernel)) (by decide +kernel)
theorem ks_12 : Cond.selects RX3 yX3_readAtom yX3_readAtom ∈ gw := gw_of (pv_of 12 (by decide +kernel)) (by decide +kernel)
theorem ks_13 : Cond.selects RX3 yX3_factHere yX3_factHere ∈ gw := gw_of (pv_of 13 (by decide +kernel)) (by decide +kernel)
theorem ks_14 : Cond.selects RX3 yX3_aimSkip yX3_aimSkip ∈ gw := gw_of (pv_of 14 (by decide +kernel)) (by decide +kernel)
set_option maxHeartbeats 4000000 in
set_option maxRecDepth 100000 in
theorem s_LR_put (l : Launch) (D : va_G) (cs : CS) (kf : KF) (T : TF) (O : List Nat) (X : va_W) (a0 : Nat) (x1 : Int32) (x2 : Int32) (t_a0 : T a0 = some (13, 0, 0)) (hO : okO T O [1, 13]) : TK l D cs kf yX3_put cX3_put 3 none { frames := 0, cells := 0, slots := 0, locals := 0 } [.ref a0, .int x1, .int x2] T O X (Tv D cs (fun u => u = (T, O, X))) := by
  refine tk_of (by decide) (Nat.le_of_ble_eq_true rfl) (fun p e s m below meth c ls A H locs hx hb hr hml hown hts hlocks hnm hkb hH hS hA hOX hks hE hl => ?_)
  have hown : s.vm.findClass RX3 = some m.cls := hown
  have hl : lv_has ls 3 [(0, .ref a0), (1, .int x1), (2, .int x2)] := hl
  have hO0 := hO
  obtain ⟨fs9, ho9, hH⟩ := hH.take t_a0 (hO0.no t_a0 (by decide))
  have hp0 : okL T (ft3 0 0) fs9 := ho9
  clear ho9
  obtain ⟨v9, fs9, rfl, h9, hp1⟩ := okL_i hp0
  obtain ⟨q0_0, rfl, t_q0_0⟩ := h9
  obtain ⟨v9, fs9, rfl, h9, hp2⟩ := okL_i hp1
  obtain ⟨q0_1, rfl, t_q0_1⟩ := h9
  obtain ⟨v9, fs9, rfl, h9, hp3⟩ := okL_i hp2
  obtain ⟨q0_2, rfl, l_q0_2, u_q0_2⟩ := h9
  have hpz := okL_z hp3
  subst hpz
  have hH : HT D cs A T (a0 :: O) ((a0, .inr (3, [.ref q0_0, .ref q0_1, .int q0_2])) :: X) H := hH
  have hO : okO T (a0 :: O) [1] := okO.cons (hO0.sub (by decide)) t_a0 (by decide)
  refine lv_aload_n hx hb dX3_put_0 rfl (lv_at hl 0 rfl) ?_
  refine x_get (ci := 3) (C := RX3) (F := TX3) (N := 3) (v := .int q0_2) hx hb hts uX3 hown hkb hH rfl 2 (by decide) rfl kw_84 (fun _ h9 => h9) dX3_put_1 ?_
  refine lv_sipush (v := 900) hx hb dX3_put_4 (by decide) ?_
  have J34 : ∀ (f34_2 : Int32) (H : Heap) (locs : List Loc) (ls : Array Slot), (1 ≤ f34_2.toInt) → (f34_2.toInt ≤ 900) → HT D cs A T (a0 :: O) ((a0, .inr (3, [.ref q0_0, .ref q0_1, .int f34_2])) :: X) H → va_S A s.heap H locs → lv_has ls 3 [] → W p l e { frames := 0, cells := 0, slots := 0, locals := 0 } s m [.ref a0, .int x1, .int x2].toArray below meth c H locs 0 0 (MQ below (Tv D cs (fun u => u = (T, O, X)) A) [.ref a0, .int x1, .int x2].toArray s 0 0 A) (F0 m 34 ls []) := by
    intro f34_2 H locs ls l_f34_2 u_f34_2 hH hS hl
    have hH : HT D cs A T O X H := HT.lay (ci := 3) hH t_a0 (okL_c (⟨_, rfl, t_q0_0⟩) (okL_c (⟨_, rfl, t_q0_1⟩) (okL_c (⟨_, rfl, by omega, by omega⟩) (okL_n))))
    have hO := hO0
    exact te_v hx hb hr hlocks hH hS rfl dX3_put_34
  refine lv_icmp_ge (tgt := 34) hx hb dX3_put_7 (by decide) (fun c7 => ?_) (fun c7 => ?_)
  · skip
    have tc7 := f_ge (k := 900) (by decide) c7
    exact J34 q0_2 _ _ _ (by omega) (by omega) hH hS (lv_sub hl [] rfl)
  · skip
    have tc7 := f_nge (k := 900) (by decide) c7
    refine lv_aload_n hx hb dX3_put_10 rfl (lv_at hl 0 rfl) ?_
    refine x_get (ci := 3) (C := RX3) (F := TX3) (N := 3) (v := .ref q0_1) hx hb hts uX3 hown hkb hH rfl 1 (by decide) rfl kw_83 (fun _ h9 => h9) dX3_put_11 ?_
    refine lv_aload_n hx hb dX3_put_14 rfl (lv_at hl 0 rfl) ?_
    refine x_get (ci := 3) (C := RX3) (F := TX3) (N := 3) (v := .int q0_2) hx hb hts uX3 hown hkb hH rfl 2 (by decide) rfl kw_84 (fun _ h9 => h9) dX3_put_15 ?_
    refine lv_iload_n hx hb dX3_put_18 rfl (lv_at hl 1 rfl) ?_
    refine lv_iload_n hx hb dX3_put_19 rfl (lv_at hl 2 rfl) ?_
    refine lv_iconst (v := 4) hx hb dX3_put_20 (by decide) ?_
    refine lv_ishl hx hb dX3_put_21 ?_
    refine lv_topi (fun v21 ev21 => ?_)
    refine lv_ior hx hb dX3_put_22 ?_
    refine lv_topi (fun v22 ev22 => ?_)
    refine t_ist hx hb hkb hH hS t_q0_1 (hO.no t_q0_1 (by decide)) (by omega) (by omega) (cp_0 _) dX3_put_23 (fun H locs hH hS => ?_)
    refine lv_aload_n hx hb dX3_put_24 rfl (lv_at hl 0 rfl) ?_
    refine lv_dup hx hb dX3_put_25 rfl ?_
    refine x_get (ci := 3) (C := RX3) (F := TX3) (N := 3) (v := .int q0_2) hx hb hts uX3 hown hkb hH rfl 2 (by decide) rfl kw_84 (fun _ h9 => h9) dX3_put_26 ?_
    refine lv_iconst (v := 1) hx hb dX3_put_29 (by decide) ?_
    refine lv_iadd hx hb dX3_put_30 ?_
    refine lv_topi (fun v30 ev30 => ?_)
    have tv30 : v30.toInt = q0_2.toInt + (1) := by rw [ev30]; exact add_i rfl (by decide : (1 : Int32).toInt = 1) (by omega) (by omega)
    refine x_put (ci := 3) (v := .int v30) (ty := tyX3 2) (C := RX3) (F := TX3) (N := 3) hx hb hts uX3 tyX3 tyX3_ok nmX3 hown hkb hH hS rfl 2 (by decide) kw_84 (fun _ h9 => h9) rfl (tyX3_ok 2 (by decide)) rfl rfl (Nat.le_of_ble_eq_true rfl) dX3_put_31 (fun H locs hH hS => ?_)
    have hH : HT D cs A T (a0 :: O) ((a0, .inr (3, [.ref q0_0, .ref q0_1, .int v30])) :: X) H := hH
    exact J34 v30 _ _ _ (by omega) (by omega) hH hS (lv_sub hl [] rfl)
set_option maxHeartbeats 4000000 in
set_option maxRecDepth 100000 in
theorem s_LR_aimSkip (l : Launch) (D : va_G) (cs : CS) (kf : KF) (T : TF) (O : List Nat) (X : va_W) (a0 : Nat) (x1 : Int32) (t_a0 : T a0 = some (13, 0, 0)) (hO : okO T O [1, 13]) : TK l D cs kf yX3_aimSkip cX3_aimSkip 2 none { frames := 0, cells := 0, slots := 0, locals := 0 } [.ref a0, .int x1] T O X (Tv D cs (fun u => u = (T, O, X))) := by
  refine tk_of (by decide) (Nat.le_of_ble_eq_true rfl) (fun p e s m below meth c ls A H locs hx hb hr hml hown hts hlocks hnm hkb hH hS hA hOX hks hE hl => ?_)
  have hown : s.vm.findClass RX3 = some m.cls := hown
  have hl : lv_has ls 2 [(0, .ref a0), (1, .int x1)] := hl
  have hO0 := hO
  obtain ⟨fs9, ho9, hH⟩ := hH.take t_a0 (hO0.no t_a0 (by decide))
  have hp0 : okL T (ft3 0 0) fs9 := ho9
  clear ho9
  obtain ⟨v9, fs9, rfl, h9, hp1⟩ := okL_i hp0
  obtain ⟨q0_0, rfl, t_q0_0⟩ := h9
  obtain ⟨v9, fs9, rfl, h9, hp2⟩ := okL_i hp1
  obtain ⟨q0_1, rfl, t_q0_1⟩ := h9
  obtain ⟨v9, fs9, rfl, h9, hp3⟩ := okL_i hp2
  obtain ⟨q0_2, rfl, l_q0_2, u_q0_2⟩ := h9
  have hpz := okL_z hp3
  subst hpz
  have hH : HT D cs A T (a0 :: O) ((a0, .inr (3, [.ref q0_0, .ref q0_1, .int q0_2])) :: X) H := hH
  have hO : okO T (a0 :: O) [1] := okO.cons (hO0.sub (by decide)) t_a0 (by decide)
  refine lv_iload_n hx hb dX3_aimSkip_0 rfl (lv_at hl 1 rfl) ?_
  have J33 : ∀  (H : Heap) (locs : List Loc) (ls : Array Slot), HT D cs A T (a0 :: O) ((a0, .inr (3, [.ref q0_0, .ref q0_1, .int q0_2])) :: X) H → va_S A s.heap H locs → lv_has ls 2 [] → W p l e { frames := 0, cells := 0, slots := 0, locals := 0 } s m [.ref a0, .int x1].toArray below meth c H locs 0 0 (MQ below (Tv D cs (fun u => u = (T, O, X)) A) [.ref a0, .int x1].toArray s 0 0 A) (F0 m 33 ls []) := by
    intro  H locs ls  hH hS hl
    have hH : HT D cs A T O X H := HT.lay (ci := 3) hH t_a0 (okL_c (⟨_, rfl, t_q0_0⟩) (okL_c (⟨_, rfl, t_q0_1⟩) (okL_c (⟨_, rfl, by omega, by omega⟩) (okL_n))))
    have hO := hO0
    exact te_v hx hb hr hlocks hH hS rfl dX3_aimSkip_33
  refine lv_if_lt (tgt := 33) hx hb dX3_aimSkip_1 (by decide) (fun c1 => ?_) (fun c1 => ?_)
  · skip
    have tc1 := f_lt (k := 0) (by decide) c1
    exact J33  _ _ _  hH hS (lv_sub hl [] rfl)
  · skip
    have tc1 := f_nlt (k := 0) (by decide) c1
    refine lv_iload_n hx hb dX3_aimSkip_4 rfl (lv_at hl 1 rfl) ?_
    refine lv_sipush (v := 900) hx hb dX3_aimSkip_5 (by decide) ?_
    refine lv_icmp_ge (tgt := 33) hx hb dX3_aimSkip_8 (by decide) (fun c8 => ?_) (fun c8 => ?_)
    · skip
      have tc8 := f_ge (k := 900) (by decide) c8
      exact J33  _ _ _  hH hS (lv_sub hl [] rfl)
    · skip
      have tc8 := f_nge (k := 900) (by decide) c8
      refine lv_aload_n hx hb dX3_aimSkip_11 rfl (lv_at hl 0 rfl) ?_
      refine x_get (ci := 3) (C := RX3) (F := TX3) (N := 3) (v := .ref q0_1) hx hb hts uX3 hown hkb hH rfl 1 (by decide) rfl kw_83 (fun _ h9 => h9) dX3_aimSkip_12 ?_
      refine lv_iload_n hx hb dX3_aimSkip_15 rfl (lv_at hl 1 rfl) ?_
      refine lv_aload_n hx hb dX3_aimSkip_16 rfl (lv_at hl 0 rfl) ?_
      refine x_get (ci := 3) (C := RX3) (F := TX3) (N := 3) (v := .ref q0_1) hx hb hts uX3 hown hkb hH rfl 1 (by decide) rfl kw_83 (fun _ h9 => h9) dX3_aimSkip_17 ?_
      refine lv_iload_n hx hb dX3_aimSkip_20 rfl (lv_at hl 1 rfl) ?_
      refine t_ild hx hb hkb hH t_q0_1 (hO.no t_q0_1 (by decide)) (by omega) (by omega) dX3_aimSkip_21 (fun v21 h9 => ?_)
      refine lv_bipush (v := 15) hx hb dX3_aimSkip_22 (by decide) ?_
      refine lv_iand hx hb dX3_aimSkip_24 ?_
      refine lv_topi (fun v24 ev24 => ?_)
      have tv24 : 0 ≤ v24.toInt ∧ v24.toInt ≤ 15 := by rw [ev24]; exact and_r (by decide)
      refine lv_aload_n hx hb dX3_aimSkip_25 rfl (lv_at hl 0 rfl) ?_
      refine x_get (ci := 3) (C := RX3) (F := TX3) (N := 3) (v := .int q0_2) hx hb hts uX3 hown hkb hH rfl 2 (by decide) rfl kw_84 (fun _ h9 => h9) dX3_aimSkip_26 ?_
      refine lv_iconst (v := 4) hx hb dX3_aimSkip_29 (by decide) ?_
      refine lv_ishl hx hb dX3_aimSkip_30 ?_
      refine lv_topi (fun v30 ev30 => ?_)
      refine lv_ior hx hb dX3_aimSkip_31 ?_
      refine lv_topi (fun v31 ev31 => ?_)
      refine t_ist hx hb hkb hH hS t_q0_1 (hO.no t_q0_1 (by decide)) (by omega) (by omega) (cp_0 _) dX3_aimSkip_32 (fun H locs hH hS => ?_)
      exact J33  _ _ _  hH hS (lv_sub hl [] rfl)
set_option maxHeartbeats 4000000 in
set_option maxRecDepth 100000 in
theorem s_LR_factHere (l : Launch) (D : va_G) (cs : CS) (kf : KF) (T : TF) (O : List Nat) (X : va_W) (a0 : Nat) (y0 : Nat) (y1 : Int32) (y2 : Int32) (y3 : Int32) (y4 : Int32) (y5 : Int32) (y6 : Int32) (y7 : Int32) (ft : Nat → Int32) (t : Tp) (tn : Nat) (tk : Nat) (t_a0 : T a0 = some (13, 0, 0)) (t_y0 : T y0 = some (0, 900, 0)) (l_y1 : 0 ≤ y1.toInt) (u_y1 : y1.toInt ≤ 900) (l_y2 : 0 ≤ y2.toInt) (u_y2 : y2.toInt ≤ 900) (l_y3 : 0 ≤ y3.toInt) (u_y3 : y3.toInt ≤ 900) (hn : y1.toInt = (tn : Int)) (htb : TB ft t) (hto : TSS t tn y2 y3 y4 y5) (t_tk : T tk = some (17, 0, 0)) (hU7 : ∀ (b : Nat) (q : Nat), T b = some (17, 0, q) → b = tk) (hO : okO T (tk :: y0 :: O) [13]) : TK l D cs kf yX3_factHere cX3_factHere 1 (some (.int)) { frames := 5, cells := 0, slots := 0, locals := 107 } [.ref a0] T (tk :: y0 :: O) ((tk, .inr (7, [.ref y0, .int y1, .int y2, .int y3, .int y4, .int y5, .int y6, .int y7])) :: (y0, .inl (cs.1, 900, .inl ft)) :: X) (Ti D cs (fun r u => u = (T, tk :: y0 :: O, (tk, .inr (7, [.ref y0, .int y1, .int y2, .int y3, .int y4, .int y5, .int y6, .int y7])) :: (y0, .inl (cs.1, 900, .inl ft)) :: X) ∧ -1 ≤ r.toInt ∧ r.toInt ≤ 6 ∧ (r.toInt = -1 ∨ (16 ≤ kd t tn y2.toInt.toNat ∧ kd t tn y2.toInt.toNat ≤ 18) ∨ kd t tn y2.toInt.toNat = 2 ∨ kd t tn y2.toInt.toNat = 3 ∨ kd t tn y2.toInt.toNat = 11 ∨ kd t tn y2.toInt.toNat = 8) ∧ (r.toInt ≠ -1 ∨ ¬ ((16 ≤ kd t tn y2.toInt.toNat ∧ kd t tn y2.toInt.toNat ≤ 18) ∨ kd t tn y2.toInt.toNat = 2 ∨ kd t tn y2.toInt.toNat = 3 ∨ kd t tn y2.toInt.toNat = 11 ∨ kd t tn y2.toInt.toNat = 8)))) := by
  refine tk_of (by decide) (Nat.le_of_ble_eq_true rfl) (fun p e s m below meth c ls A H locs hx hb hr hml hown hts hlocks hnm hkb hH hS hA hOX hks hE hl => ?_)
  have hown : s.vm.findClass RX3 = some m.cls := hown
  have hl : lv_has ls 1 [(0, .ref a0)] := hl
  have hOXf := hOX
  have hb9 := hto.b
  have hc9 := hto.cs
  refine lv_aload_n hx hb dX3_factHere_0 rfl (lv_at hl 0 rfl) ?_
  refine t_get (ci := 3) (lst := ft3 0 0) (C := RX3) (F := TX3) (N := 3) hx hb hts uX3 hown hkb hH t_a0 (hO.no t_a0 (by decide)) (fun _ h9 => h9) rfl rfl 0 (by decide) rfl kw_82 (fun _ h9 => h9) dX3_factHere_1 (fun v9 h9 => ?_)
  obtain ⟨v1, rfl, t_v1⟩ := h9
  have e9 := (hU7 _ _ t_v1).symm
  subst e9
  refine va_ldcS (q := kf.1 11) hx hb hown (hks ("FootholdWall$LawReader", 99, "dx", 11) (by decide +kernel)) dX3_factHere_4 ?_
  refine tk_i hH hS hA (tr_V (n := 1) (As := [.ref (kf.1 11)]) hx hb hml hown hts hkb hH (ox_map hOX rfl) hks hE hS hA (s_Tok_isWord l D cs kf T O X tk 11 y0 y1 y2 y3 y4 y5 y6 y7 ft t tn 16 t_tk (by decide) t_y0 (by omega) (by omega) (by omega) (by omega) (by omega) (by omega) (by omega) htb hto (by decide) (by decide) (hO.sub (by decide))) kw_635 kw_551 kw_552 kw_3 kw_553 (by decide +kernel) ⟨Nat.le_of_ble_eq_true rfl, Nat.le_of_ble_eq_true rfl⟩ (x_recv (ci := 7) hkb hH 0 rfl rfl) rfl rfl hl.1 (Nat.le_of_ble_eq_true rfl) dX3_factHere_6 ⟨Nat.le_of_ble_eq_true rfl, Nat.le_of_ble_eq_true rfl⟩) (fun v6 u H locs hz9 hH hS => ?_)
  obtain ⟨rfl, l_v6, u_v6, x_v60, x_v61⟩ := hz9
  have hH : HT D cs A T (tk :: y0 :: O) ((tk, .inr (7, [.ref y0, .int y1, .int y2, .int y3, .int y4, .int y5, .int y6, .int y7])) :: (y0, .inl (cs.1, 900, .inl ft)) :: X) H := hH
  refine W.widen (k := 0) (n := 0) (Nat.le_of_ble_eq_true rfl) (Nat.le_of_ble_eq_true rfl) ?_
  refine lv_if_eq (tgt := 14) hx hb dX3_factHere_9 (by decide) (fun c9 => ?_) (fun c9 => ?_)
  · skip
    have tc9 := f_eq (k := 0) (by decide) c9
    clear x_v60
    replace x_v61 := x_v61.resolve_left (fun q9 => q9 tc9)
    refine lv_aload_n hx hb dX3_factHere_14 rfl (lv_at hl 0 rfl) ?_
    refine t_get (ci := 3) (lst := ft3 0 0) (C := RX3) (F := TX3) (N := 3) hx hb hts uX3 hown hkb hH t_a0 (hO.no t_a0 (by decide)) (fun _ h9 => h9) rfl rfl 0 (by decide) rfl kw_82 (fun _ h9 => h9) dX3_factHere_15 (fun v9 h9 => ?_)
    obtain ⟨v15, rfl, t_v15⟩ := h9
    have e9 := (hU7 _ _ t_v15).symm
    subst e9
    refine va_ldcS (q := kf.1 12) hx hb hown (hks ("FootholdWall$LawReader", 101, "up", 12) (by decide +kernel)) dX3_factHere_18 ?_
    refine tk_i hH hS hA (tr_V (n := 1) (As := [.ref (kf.1 12)]) hx hb hml hown hts hkb hH (ox_map hOX rfl) hks hE hS hA (s_Tok_isWord l D cs kf T O X tk 12 y0 y1 y2 y3 y4 y5 y6 y7 ft t tn 17 t_tk (by decide) t_y0 (by omega) (by omega) (by omega) (by omega) (by omega) (by omega) (by omega) htb hto (by decide) (by decide) (hO.sub (by decide))) kw_635 kw_551 kw_552 kw_3 kw_553 (by decide +kernel) ⟨Nat.le_of_ble_eq_true rfl, Nat.le_of_ble_eq_true rfl⟩ (x_recv (ci := 7) hkb hH 0 rfl rfl) rfl rfl hl.1 (Nat.le_of_ble_eq_true rfl) dX3_factHere_20 ⟨Nat.le_of_ble_eq_true rfl, Nat.le_of_ble_eq_true rfl⟩) (fun v20 u H locs hz9 hH hS => ?_)
    obtain ⟨rfl, l_v20, u_v20, x_v200, x_v201⟩ := hz9
    have hH : HT D cs A T (tk :: y0 :: O) ((tk, .inr (7, [.ref y0, .int y1, .int y2, .int y3, .int y4, .int y5, .int y6, .int y7])) :: (y0, .inl (cs.1, 900, .inl ft)) :: X) H := hH
    refine W.widen (k := 0) (n := 0) (Nat.le_of_ble_eq_true rfl) (Nat.le_of_ble_eq_true rfl) ?_
    refine lv_if_eq (tgt := 28) hx hb dX3_factHere_23 (by decide) (fun c23 => ?_) (fun c23 => ?_)
    · skip
      have tc23 := f_eq (k := 0) (by decide) c23
      clear x_v200
      replace x_v201 := x_v201.resolve_left (fun q9 => q9 tc23)
      refine lv_aload_n hx hb dX3_factHere_28 rfl (lv_at hl 0 rfl) ?_
      refine t_get (ci := 3) (lst := ft3 0 0) (C := RX3) (F := TX3) (N := 3) hx hb hts uX3 hown hkb hH t_a0 (hO.no t_a0 (by decide)) (fun _ h9 => h9) rfl rfl 0 (by decide) rfl kw_82 (fun _ h9 => h9) dX3_factHere_29 (fun v9 h9 => ?_)
      obtain ⟨v29, rfl, t_v29⟩ := h9
      have e9 := (hU7 _ _ t_v29).symm
      subst e9
      refine va_ldcS (q := kf.1 13) hx hb hown (hks ("FootholdWall$LawReader", 103, "far", 13) (by decide +kernel)) dX3_factHere_32 ?_
      refine tk_i hH hS hA (tr_V (n := 1) (As := [.ref (kf.1 13)]) hx hb hml hown hts hkb hH (ox_map hOX rfl) hks hE hS hA (s_Tok_isWord l D cs kf T O X tk 13 y0 y1 y2 y3 y4 y5 y6 y7 ft t tn 18 t_tk (by decide) t_y0 (by omega) (by omega) (by omega) (by omega) (by omega) (by omega) (by omega) htb hto (by decide) (by decide) (hO.sub (by decide))) kw_635 kw_551 kw_552 kw_3 kw_553 (by decide +kernel) ⟨Nat.le_of_ble_eq_true rfl, Nat.le_of_ble_eq_true rfl⟩ (x_recv (ci := 7) hkb hH 0 rfl rfl) rfl rfl hl.1 (Nat.le_of_ble_eq_true rfl) dX3_factHere_34 ⟨Nat.le_of_ble_eq_true rfl, Nat.le_of_ble_eq_true rfl⟩) (fun v34 u H locs hz9 hH hS => ?_)
      obtain ⟨rfl, l_v34, u_v34, x_v340, x_v341⟩ := hz9
      have hH : HT D cs A T (tk :: y0 :: O) ((tk, .inr (7, [.ref y0, .int y1, .int y2, .int y3, .int y4, .int y5, .int y6, .int y7])) :: (y0, .inl (cs.1, 900, .inl ft)) :: X) H := hH
      refine W.widen (k := 0) (n := 0) (Nat.le_of_ble_eq_true rfl) (Nat.le_of_ble_eq_true rfl) ?_
      refine lv_if_eq (tgt := 42) hx hb dX3_factHere_37 (by decide) (fun c37 => ?_) (fun c37 => ?_)
      · skip
        have tc37 := f_eq (k := 0) (by decide) c37
        clear x_v340
        replace x_v341 := x_v341.resolve_left (fun q9 => q9 tc37)
        refine lv_aload_n hx hb dX3_factHere_42 rfl (lv_at hl 0 rfl) ?_
        refine t_get (ci := 3) (lst := ft3 0 0) (C := RX3) (F := TX3) (N := 3) hx hb hts uX3 hown hkb hH t_a0 (hO.no t_a0 (by decide)) (fun _ h9 => h9) rfl rfl 0 (by decide) rfl kw_82 (fun _ h9 => h9) dX3_factHere_43 (fun v9 h9 => ?_)
        obtain ⟨v43, rfl, t_v43⟩ := h9
        have e9 := (hU7 _ _ t_v43).symm
        subst e9
        refine va_ldcS (q := kf.1 7) hx hb hown (hks ("FootholdWall$LawReader", 105, "leg", 7) (by decide +kernel)) dX3_factHere_46 ?_
        refine tk_i hH hS hA (tr_V (n := 1) (As := [.ref (kf.1 7)]) hx hb hml hown hts hkb hH (ox_map hOX rfl) hks hE hS hA (s_Tok_isWord l D cs kf T O X tk 7 y0 y1 y2 y3 y4 y5 y6 y7 ft t tn 2 t_tk (by decide) t_y0 (by omega) (by omega) (by omega) (by omega) (by omega) (by omega) (by omega) htb hto (by decide) (by decide) (hO.sub (by decide))) kw_635 kw_551 kw_552 kw_3 kw_553 (by decide +kernel) ⟨Nat.le_of_ble_eq_true rfl, Nat.le_of_ble_eq_true rfl⟩ (x_recv (ci := 7) hkb hH 0 rfl rfl) rfl rfl hl.1 (Nat.le_of_ble_eq_true rfl) dX3_factHere_48 ⟨Nat.le_of_ble_eq_true rfl, Nat.le_of_ble_eq_true rfl⟩) (fun v48 u H locs hz9 hH hS => ?_)
        obtain ⟨rfl, l_v48, u_v48, x_v480, x_v481⟩ := hz9
        have hH : HT D cs A T (tk :: y0 :: O) ((tk, .inr (7, [.ref y0, .int y1, .int y2, .int y3, .int y4, .int y5, .int y6, .int y7])) :: (y0, .inl (cs.1, 900, .inl ft)) :: X) H := hH
        refine W.widen (k := 0) (n := 0) (Nat.le_of_ble_eq_true rfl) (Nat.le_of_ble_eq_true rfl) ?_
        refine lv_if_eq (tgt := 56) hx hb dX3_factHere_51 (by decide) (fun c51 => ?_) (fun c51 => ?_)
        · skip
          have tc51 := f_eq (k := 0) (by decide) c51
          clear x_v480
          replace x_v481 := x_v481.resolve_left (fun q9 => q9 tc51)
          refine lv_aload_n hx hb dX3_factHere_56 rfl (lv_at hl 0 rfl) ?_
          refine t_get (ci := 3) (lst := ft3 0 0) (C := RX3) (F := TX3) (N := 3) hx hb hts uX3 hown hkb hH t_a0 (hO.no t_a0 (by decide)) (fun _ h9 => h9) rfl rfl 0 (by decide) rfl kw_82 (fun _ h9 => h9) dX3_factHere_57 (fun v9 h9 => ?_)
          obtain ⟨v57, rfl, t_v57⟩ := h9
          have e9 := (hU7 _ _ t_v57).symm
          subst e9
          refine va_ldcS (q := kf.1 8) hx hb hown (hks ("FootholdWall$LawReader", 107, "weight", 8) (by decide +kernel)) dX3_factHere_60 ?_
          refine tk_i hH hS hA (tr_V (n := 1) (As := [.ref (kf.1 8)]) hx hb hml hown hts hkb hH (ox_map hOX rfl) hks hE hS hA (s_Tok_isWord l D cs kf T O X tk 8 y0 y1 y2 y3 y4 y5 y6 y7 ft t tn 3 t_tk (by decide) t_y0 (by omega) (by omega) (by omega) (by omega) (by omega) (by omega) (by omega) htb hto (by decide) (by decide) (hO.sub (by decide))) kw_635 kw_551 kw_552 kw_3 kw_553 (by decide +kernel) ⟨Nat.le_of_ble_eq_true rfl, Nat.le_of_ble_eq_true rfl⟩ (x_recv (ci := 7) hkb hH 0 rfl rfl) rfl rfl hl.1 (Nat.le_of_ble_eq_true rfl) dX3_factHere_62 ⟨Nat.le_of_ble_eq_true rfl, Nat.le_of_ble_eq_true rfl⟩) (fun v62 u H locs hz9 hH hS => ?_)
          obtain ⟨rfl, l_v62, u_v62, x_v620, x_v621⟩ := hz9
          have hH : HT D cs A T (tk :: y0 :: O) ((tk, .inr (7, [.ref y0, .int y1, .int y2, .int y3, .int y4, .int y5, .int y6, .int y7])) :: (y0, .inl (cs.1, 900, .inl ft)) :: X) H := hH
          refine W.widen (k := 0) (n := 0) (Nat.le_of_ble_eq_true rfl) (Nat.le_of_ble_eq_true rfl) ?_
          refine lv_if_eq (tgt := 70) hx hb dX3_factHere_65 (by decide) (fun c65 => ?_) (fun c65 => ?_)
          · skip
            have tc65 := f_eq (k := 0) (by decide) c65
            clear x_v620
            replace x_v621 := x_v621.resolve_left (fun q9 => q9 tc65)
            refine lv_aload_n hx hb dX3_factHere_70 rfl (lv_at hl 0 rfl) ?_
            refine t_get (ci := 3) (lst := ft3 0 0) (C := RX3) (F := TX3) (N := 3) hx hb hts uX3 hown hkb hH t_a0 (hO.no t_a0 (by decide)) (fun _ h9 => h9) rfl rfl 0 (by decide) rfl kw_82 (fun _ h9 => h9) dX3_factHere_71 (fun v9 h9 => ?_)
            obtain ⟨v71, rfl, t_v71⟩ := h9
            have e9 := (hU7 _ _ t_v71).symm
            subst e9
            refine va_ldcS (q := kf.1 5) hx hb hown (hks ("FootholdWall$LawReader", 109, "wide", 5) (by decide +kernel)) dX3_factHere_74 ?_
            refine tk_i hH hS hA (tr_V (n := 1) (As := [.ref (kf.1 5)]) hx hb hml hown hts hkb hH (ox_map hOX rfl) hks hE hS hA (s_Tok_isWord l D cs kf T O X tk 5 y0 y1 y2 y3 y4 y5 y6 y7 ft t tn 11 t_tk (by decide) t_y0 (by omega) (by omega) (by omega) (by omega) (by omega) (by omega) (by omega) htb hto (by decide) (by decide) (hO.sub (by decide))) kw_635 kw_551 kw_552 kw_3 kw_553 (by decide +kernel) ⟨Nat.le_of_ble_eq_true rfl, Nat.le_of_ble_eq_true rfl⟩ (x_recv (ci := 7) hkb hH 0 rfl rfl) rfl rfl hl.1 (Nat.le_of_ble_eq_true rfl) dX3_factHere_76 ⟨Nat.le_of_ble_eq_true rfl, Nat.le_of_ble_eq_true rfl⟩) (fun v76 u H locs hz9 hH hS => ?_)
            obtain ⟨rfl, l_v76, u_v76, x_v760, x_v761⟩ := hz9
            have hH : HT D cs A T (tk :: y0 :: O) ((tk, .inr (7, [.ref y0, .int y1, .int y2, .int y3, .int y4, .int y5, .int y6, .int y7])) :: (y0, .inl (cs.1, 900, .inl ft)) :: X) H := hH
            refine W.widen (k := 0) (n := 0) (Nat.le_of_ble_eq_true rfl) (Nat.le_of_ble_eq_true rfl) ?_
            refine lv_if_eq (tgt := 84) hx hb dX3_factHere_79 (by decide) (fun c79 => ?_) (fun c79 => ?_)
            · skip
              have tc79 := f_eq (k := 0) (by decide) c79
              clear x_v760
              replace x_v761 := x_v761.resolve_left (fun q9 => q9 tc79)
              refine lv_aload_n hx hb dX3_factHere_84 rfl (lv_at hl 0 rfl) ?_
              refine t_get (ci := 3) (lst := ft3 0 0) (C := RX3) (F := TX3) (N := 3) hx hb hts uX3 hown hkb hH t_a0 (hO.no t_a0 (by decide)) (fun _ h9 => h9) rfl rfl 0 (by decide) rfl kw_82 (fun _ h9 => h9) dX3_factHere_85 (fun v9 h9 => ?_)
              obtain ⟨v85, rfl, t_v85⟩ := h9
              have e9 := (hU7 _ _ t_v85).symm
              subst e9
              refine va_ldcS (q := kf.1 14) hx hb hown (hks ("FootholdWall$LawReader", 111, "day", 14) (by decide +kernel)) dX3_factHere_88 ?_
              refine tk_i hH hS hA (tr_V (n := 1) (As := [.ref (kf.1 14)]) hx hb hml hown hts hkb hH (ox_map hOX rfl) hks hE hS hA (s_Tok_isWord l D cs kf T O X tk 14 y0 y1 y2 y3 y4 y5 y6 y7 ft t tn 8 t_tk (by decide) t_y0 (by omega) (by omega) (by omega) (by omega) (by omega) (by omega) (by omega) htb hto (by decide) (by decide) (hO.sub (by decide))) kw_635 kw_551 kw_552 kw_3 kw_553 (by decide +kernel) ⟨Nat.le_of_ble_eq_true rfl, Nat.le_of_ble_eq_true rfl⟩ (x_recv (ci := 7) hkb hH 0 rfl rfl) rfl rfl hl.1 (Nat.le_of_ble_eq_true rfl) dX3_factHere_90 ⟨Nat.le_of_ble_eq_true rfl, Nat.le_of_ble_eq_true rfl⟩) (fun v90 u H locs hz9 hH hS => ?_)
              obtain ⟨rfl, l_v90, u_v90, x_v900, x_v901⟩ := hz9
              have hH : HT D cs A T (tk :: y0 :: O) ((tk, .inr (7, [.ref y0, .int y1, .int y2, .int y3, .int y4, .int y5, .int y6, .int y7])) :: (y0, .inl (cs.1, 900, .inl ft)) :: X) H := hH
              refine W.widen (k := 0) (n := 0) (Nat.le_of_ble_eq_true rfl) (Nat.le_of_ble_eq_true rfl) ?_
              refine lv_if_eq (tgt := 101) hx hb dX3_factHere_93 (by decide) (fun c93 => ?_) (fun c93 => ?_)
              · skip
                have tc93 := f_eq (k := 0) (by decide) c93
                clear x_v900
                replace x_v901 := x_v901.resolve_left (fun q9 => q9 tc93)
                refine lv_iconst (v := (-1)) hx hb dX3_factHere_101 (by decide) ?_
                have z9_m1 : ((-1) : Int32).toInt = -1 := by decide
                exact te_i hx hb hr hlocks hH hS (⟨rfl, by decide, by decide, Or.inl (by decide), (Or.inr (by omega))⟩) dX3_factHere_102
              · skip
                have tc93 := f_ne (k := 0) (by decide) c93
                replace x_v900 := x_v900.resolve_left tc93
                clear x_v901
                refine lv_bipush (v := 6) hx hb dX3_factHere_96 (by decide) ?_
                refine lv_goto (tgt := 102) hx hb dX3_factHere_98 (by decide) ?_
                have z9_6 : (6 : Int32).toInt = 6 := by decide
                exact te_i hx hb hr hlocks hH hS (⟨rfl, by decide, by decide, (Or.inr (by omega)), Or.inl (by decide)⟩) dX3_factHere_102
            · skip
              have tc79 := f_ne (k := 0) (by decide) c79
              replace x_v760 := x_v760.resolve_left tc79
              clear x_v761
              refine lv_iconst (v := 5) hx hb dX3_factHere_82 (by decide) ?_
              have z9_5 : (5 : Int32).toInt = 5 := by decide
              exact te_i hx hb hr hlocks hH hS (⟨rfl, by decide, by decide, (Or.inr (by omega)), Or.inl (by decide)⟩) dX3_factHere_83
          · skip
            have tc65 := f_ne (k := 0) (by decide) c65
            replace x_v620 := x_v620.resolve_left tc65
            clear x_v621
            refine lv_iconst (v := 4) hx hb dX3_factHere_68 (by decide) ?_
            have z9_4 : (4 : Int32).toInt = 4 := by decide
            exact te_i hx hb hr hlocks hH hS (⟨rfl, by decide, by decide, (Or.inr (by omega)), Or.inl (by decide)⟩) dX3_factHere_69
        · skip
          have tc51 := f_ne (k := 0) (by decide) c51
          replace x_v480 := x_v480.resolve_left tc51
          clear x_v481
          refine lv_iconst (v := 3) hx hb dX3_factHere_54 (by decide) ?_
          have z9_3 : (3 : Int32).toInt = 3 := by decide
          exact te_i hx hb hr hlocks hH hS (⟨rfl, by decide, by decide, (Or.inr (by omega)), Or.inl (by decide)⟩) dX3_factHere_55
      · skip
        have tc37 := f_ne (k := 0) (by decide) c37
        replace x_v340 := x_v340.resolve_left tc37
        clear x_v341
        refine lv_iconst (v := 2) hx hb dX3_factHere_40 (by decide) ?_
        have z9_2 : (2 : Int32).toInt = 2 := by decide
        exact te_i hx hb hr hlocks hH hS (⟨rfl, by decide, by decide, (Or.inr (by omega)), Or.inl (by decide)⟩) dX3_factHere_41
    · skip
      have tc23 := f_ne (k := 0) (by decide) c23
      replace x_v200 := x_v200.resolve_left tc23
      clear x_v201
      refine lv_iconst (v := 1) hx hb dX3_factHere_26 (by decide) ?_
      have z9_1 : (1 : Int32).toInt = 1 := by decide
      exact te_i hx hb hr hlocks hH hS (⟨rfl, by decide, by decide, (Or.inr (by omega)), Or.inl (by decide)⟩) dX3_factHere_27
  · skip
    have tc9 := f_ne (k := 0) (by decide) c9
    replace x_v60 := x_v60.resolve_left tc9
    clear x_v61
    refine lv_iconst (v := 0) hx hb dX3_factHere_12 (by decide) ?_
    have z9_0 : (0 : Int32).toInt = 0 := by decide
    exact te_i hx hb hr hlocks hH hS (⟨rfl, by decide, by decide, (Or.inr (by omega)), Or.inl (by decide)⟩) dX3_factHere_13
set_option maxHeartbeats 4000000 in
set_option maxRecDepth 100000 in
theorem s_LR_enter0 (l : Launch) (D : va_G) (cs : CS) (kf : KF) (T : TF) (O : List Nat) (X : va_W) (a0 : Nat) (x1 : Int32) (y0 : Nat) (y1 : Int32) (y2 : Int32) (y3 : Int32) (y4 : Int32) (y5 : Int32) (y6 : Int32) (y7 : Int32) (ft : Nat → Int32) (t : Tp) (tn : Nat) (tk : Nat) (t_a0 : T a0 = some (13, 0, 0)) (l_x1 : 0 ≤ x1.toInt) (u_x1 : x1.toInt ≤ 0) (t_y0 : T y0 = some (0, 900, 0)) (l_y1 : 0 ≤ y1.toInt) (u_y1 : y1.toInt ≤ 900) (l_y2 : 0 ≤ y2.toInt) (u_y2 : y2.toInt ≤ 900) (l_y3 : 0 ≤ y3.toInt) (u_y3 : y3.toInt ≤ 900) (hn : y1.toInt = (tn : Int)) (htb : TB ft t) (hto : TSS t tn y2 y3 y4 y5) (t_tk : T tk = some (17, 0, 0)) (hU7 : ∀ (b : Nat) (q : Nat), T b = some (17, 0, q) → b = tk) (hO : okO T (tk :: y0 :: O) [13]) : TK l D cs kf yX3_enter cX3_enter 2 (some (.boolean)) { frames := 5, cells := 0, slots := 0, locals := 111 } [.ref a0, .int x1] T (tk :: y0 :: O) ((tk, .inr (7, [.ref y0, .int y1, .int y2, .int y3, .int y4, .int y5, .int y6, .int y7])) :: (y0, .inl (cs.1, 900, .inl ft)) :: X) (Ti D cs (fun r u => ∃ (n0_2 : Int32) (n0_3 : Int32) (n0_4 : Int32) (n0_5 : Int32), u = (T, tk :: y0 :: O, (tk, .inr (7, [.ref y0, .int y1, .int n0_2, .int n0_3, .int n0_4, .int n0_5, .int y6, .int y7])) :: (y0, .inl (cs.1, 900, .inl ft)) :: X) ∧ 1 ≤ r.toInt ∧ r.toInt ≤ 1 ∧ (TSS t tn n0_2 n0_3 n0_4 n0_5) ∧ (n0_2.toInt.toNat = nx t tn y2.toInt.toNat) ∧ (y2.toInt ≤ n0_2.toInt ∧ n0_2.toInt ≤ n0_3.toInt ∧ n0_3.toInt ≤ y1.toInt))) := by
  refine tk_of (by decide) (Nat.le_of_ble_eq_true rfl) (fun p e s m below meth c ls A H locs hx hb hr hml hown hts hlocks hnm hkb hH hS hA hOX hks hE hl => ?_)
  have hown : s.vm.findClass RX3 = some m.cls := hown
  have hl : lv_has ls 2 [(0, .ref a0), (1, .int x1)] := hl
  have hOXf := hOX
  have hb9 := hto.b
  have hc9 := hto.cs
  refine lv_iload_n hx hb dX3_enter_0 rfl (lv_at hl 1 rfl) ?_
  refine lv_bipush (v := 6) hx hb dX3_enter_1 (by decide) ?_
  refine lv_icmp_lt (tgt := 15) hx hb dX3_enter_3 (by decide) (fun c3 => ?_) (fun c3 => ?_)
  · skip
    have tc3 := f_lt (k := 6) (by decide) c3
    refine lv_aload_n hx hb dX3_enter_15 rfl (lv_at hl 0 rfl) ?_
    refine t_get (ci := 3) (lst := ft3 0 0) (C := RX3) (F := TX3) (N := 3) hx hb hts uX3 hown hkb hH t_a0 (hO.no t_a0 (by decide)) (fun _ h9 => h9) rfl rfl 0 (by decide) rfl kw_82 (fun _ h9 => h9) dX3_enter_16 (fun v9 h9 => ?_)
    obtain ⟨v16, rfl, t_v16⟩ := h9
    have e9 := (hU7 _ _ t_v16).symm
    subst e9
    refine tk_v hH hS hA (tr_V (n := 0) (As := []) hx hb hml hown hts hkb hH (ox_map hOX rfl) hks hE hS hA (s_Tok_go l D cs kf T O X tk y0 y1 y2 y3 y4 y5 y6 y7 ft t tn t_tk t_y0 (by omega) (by omega) (by omega) (by omega) (by omega) (by omega) (by omega) htb (by have q9 := (hto).b; omega) (hO.sub (by decide))) kw_641 kw_453 kw_454 kw_3 kw_455 (by decide +kernel) ⟨Nat.le_of_ble_eq_true rfl, Nat.le_of_ble_eq_true rfl⟩ (x_recv (ci := 7) hkb hH 0 rfl rfl) rfl rfl hl.1 (Nat.le_of_ble_eq_true rfl) dX3_enter_19 ⟨Nat.le_of_ble_eq_true rfl, Nat.le_of_ble_eq_true rfl⟩) (fun u H locs hz9 hH hS => ?_)
    obtain ⟨n19_0_2, n19_0_3, n19_0_4, n19_0_5, rfl, x_v190, x_v191, x_v192⟩ := hz9
    have px19 := TSS.nx hto x_v191
    have hH : HT D cs A T (tk :: y0 :: O) ((tk, .inr (7, [.ref y0, .int y1, .int n19_0_2, .int n19_0_3, .int n19_0_4, .int n19_0_5, .int y6, .int y7])) :: (y0, .inl (cs.1, 900, .inl ft)) :: X) H := hH
    refine W.widen (k := 0) (n := 0) (Nat.le_of_ble_eq_true rfl) (Nat.le_of_ble_eq_true rfl) ?_
    refine lv_iconst (v := 1) hx hb dX3_enter_22 (by decide) ?_
    have z9_1 : (1 : Int32).toInt = 1 := by decide
    exact te_z hx hb hr hlocks (by rfl) hH hS (⟨n19_0_2, n19_0_3, n19_0_4, n19_0_5, rfl, by decide, by decide, x_v190, px19, (by omega)⟩) dX3_enter_23
  · skip
    have tc3 := f_nlt (k := 6) (by decide) c3
    exfalso; omega
set_option maxHeartbeats 4000000 in
set_option maxRecDepth 100000 in
theorem s_LR_enter1 (l : Launch) (D : va_G) (cs : CS) (kf : KF) (T : TF) (O : List Nat) (X : va_W) (a0 : Nat) (x1 : Int32) (y0 : Nat) (y1 : Int32) (y2 : Int32) (y3 : Int32) (y4 : Int32) (y5 : Int32) (y6 : Int32) (y7 : Int32) (ft : Nat → Int32) (t : Tp) (tn : Nat) (tk : Nat) (t_a0 : T a0 = some (13, 0, 0)) (l_x1 : 1 ≤ x1.toInt) (u_x1 : x1.toInt ≤ 1) (t_y0 : T y0 = some (0, 900, 0)) (l_y1 : 0 ≤ y1.toInt) (u_y1 : y1.toInt ≤ 900) (l_y2 : 0 ≤ y2.toInt) (u_y2 : y2.toInt ≤ 900) (l_y3 : 0 ≤ y3.toInt) (u_y3 : y3.toInt ≤ 900) (hn : y1.toInt = (tn : Int)) (htb : TB ft t) (hto : TSS t tn y2 y3 y4 y5) (t_tk : T tk = some (17, 0, 0)) (hU7 : ∀ (b : Nat) (q : Nat), T b = some (17, 0, q) → b = tk) (hO : okO T (tk :: y0 :: O) [13]) : TK l D cs kf yX3_enter cX3_enter 2 (some (.boolean)) { frames := 5, cells := 0, slots := 0, locals := 111 } [.ref a0, .int x1] T (tk :: y0 :: O) ((tk, .inr (7, [.ref y0, .int y1, .int y2, .int y3, .int y4, .int y5, .int y6, .int y7])) :: (y0, .inl (cs.1, 900, .inl ft)) :: X) (Ti D cs (fun r u => ∃ (n0_2 : Int32) (n0_3 : Int32) (n0_4 : Int32) (n0_5 : Int32), u = (T, tk :: y0 :: O, (tk, .inr (7, [.ref y0, .int y1, .int n0_2, .int n0_3, .int n0_4, .int n0_5, .int y6, .int y7])) :: (y0, .inl (cs.1, 900, .inl ft)) :: X) ∧ 1 ≤ r.toInt ∧ r.toInt ≤ 1 ∧ (TSS t tn n0_2 n0_3 n0_4 n0_5) ∧ (n0_2.toInt.toNat = nx t tn y2.toInt.toNat) ∧ (y2.toInt ≤ n0_2.toInt ∧ n0_2.toInt ≤ n0_3.toInt ∧ n0_3.toInt ≤ y1.toInt))) := by
  refine tk_of (by decide) (Nat.le_of_ble_eq_true rfl) (fun p e s m below meth c ls A H locs hx hb hr hml hown hts hlocks hnm hkb hH hS hA hOX hks hE hl => ?_)
  have hown : s.vm.findClass RX3 = some m.cls := hown
  have hl : lv_has ls 2 [(0, .ref a0), (1, .int x1)] := hl
  have hOXf := hOX
  have hb9 := hto.b
  have hc9 := hto.cs
  refine lv_iload_n hx hb dX3_enter_0 rfl (lv_at hl 1 rfl) ?_
  refine lv_bipush (v := 6) hx hb dX3_enter_1 (by decide) ?_
  refine lv_icmp_lt (tgt := 15) hx hb dX3_enter_3 (by decide) (fun c3 => ?_) (fun c3 => ?_)
  · skip
    have tc3 := f_lt (k := 6) (by decide) c3
    refine lv_aload_n hx hb dX3_enter_15 rfl (lv_at hl 0 rfl) ?_
    refine t_get (ci := 3) (lst := ft3 0 0) (C := RX3) (F := TX3) (N := 3) hx hb hts uX3 hown hkb hH t_a0 (hO.no t_a0 (by decide)) (fun _ h9 => h9) rfl rfl 0 (by decide) rfl kw_82 (fun _ h9 => h9) dX3_enter_16 (fun v9 h9 => ?_)
    obtain ⟨v16, rfl, t_v16⟩ := h9
    have e9 := (hU7 _ _ t_v16).symm
    subst e9
    refine tk_v hH hS hA (tr_V (n := 0) (As := []) hx hb hml hown hts hkb hH (ox_map hOX rfl) hks hE hS hA (s_Tok_go l D cs kf T O X tk y0 y1 y2 y3 y4 y5 y6 y7 ft t tn t_tk t_y0 (by omega) (by omega) (by omega) (by omega) (by omega) (by omega) (by omega) htb (by have q9 := (hto).b; omega) (hO.sub (by decide))) kw_641 kw_453 kw_454 kw_3 kw_455 (by decide +kernel) ⟨Nat.le_of_ble_eq_true rfl, Nat.le_of_ble_eq_true rfl⟩ (x_recv (ci := 7) hkb hH 0 rfl rfl) rfl rfl hl.1 (Nat.le_of_ble_eq_true rfl) dX3_enter_19 ⟨Nat.le_of_ble_eq_true rfl, Nat.le_of_ble_eq_true rfl⟩) (fun u H locs hz9 hH hS => ?_)
    obtain ⟨n19_0_2, n19_0_3, n19_0_4, n19_0_5, rfl, x_v190, x_v191, x_v192⟩ := hz9
    have px19 := TSS.nx hto x_v191
    have hH : HT D cs A T (tk :: y0 :: O) ((tk, .inr (7, [.ref y0, .int y1, .int n19_0_2, .int n19_0_3, .int n19_0_4, .int n19_0_5, .int y6, .int y7])) :: (y0, .inl (cs.1, 900, .inl ft)) :: X) H := hH
    refine W.widen (k := 0) (n := 0) (Nat.le_of_ble_eq_true rfl) (Nat.le_of_ble_eq_true rfl) ?_
    refine lv_iconst (v := 1) hx hb dX3_enter_22 (by decide) ?_
    have z9_1 : (1 : Int32).toInt = 1 := by decide
    exact te_z hx hb hr hlocks (by rfl) hH hS (⟨n19_0_2, n19_0_3, n19_0_4, n19_0_5, rfl, by decide, by decide, x_v190, px19, (by omega)⟩) dX3_enter_23
  · skip
    have tc3 := f_nlt (k := 6) (by decide) c3
    exfalso; omega
set_option maxHeartbeats 4000000 in
set_option maxRecDepth 100000 in
theorem s_LR_enter2 (l : Launch) (D : va_G) (cs : CS) (kf : KF) (T : TF) (O : List Nat) (X : va_W) (a0 : Nat) (x1 : Int32) (y0 : Nat) (y1 : Int32) (y2 : Int32) (y3 : Int32) (y4 : Int32) (y5 : Int32) (y6 : Int32) (y7 : Int32) (ft : Nat → Int32) (t : Tp) (tn : Nat) (tk : Nat) (t_a0 : T a0 = some (13, 0, 0)) (l_x1 : 2 ≤ x1.toInt) (u_x1 : x1.toInt ≤ 2) (t_y0 : T y0 = some (0, 900, 0)) (l_y1 : 0 ≤ y1.toInt) (u_y1 : y1.toInt ≤ 900) (l_y2 : 0 ≤ y2.toInt) (u_y2 : y2.toInt ≤ 900) (l_y3 : 0 ≤ y3.toInt) (u_y3 : y3.toInt ≤ 900) (hn : y1.toInt = (tn : Int)) (htb : TB ft t) (hto : TSS t tn y2 y3 y4 y5) (t_tk : T tk = some (17, 0, 0)) (hU7 : ∀ (b : Nat) (q : Nat), T b = some (17, 0, q) → b = tk) (hO : okO T (tk :: y0 :: O) [13]) : TK l D cs kf yX3_enter cX3_enter 2 (some (.boolean)) { frames := 5, cells := 0, slots := 0, locals := 111 } [.ref a0, .int x1] T (tk :: y0 :: O) ((tk, .inr (7, [.ref y0, .int y1, .int y2, .int y3, .int y4, .int y5, .int y6, .int y7])) :: (y0, .inl (cs.1, 900, .inl ft)) :: X) (Ti D cs (fun r u => ∃ (n0_2 : Int32) (n0_3 : Int32) (n0_4 : Int32) (n0_5 : Int32), u = (T, tk :: y0 :: O, (tk, .inr (7, [.ref y0, .int y1, .int n0_2, .int n0_3, .int n0_4, .int n0_5, .int y6, .int y7])) :: (y0, .inl (cs.1, 900, .inl ft)) :: X) ∧ 1 ≤ r.toInt ∧ r.toInt ≤ 1 ∧ (TSS t tn n0_2 n0_3 n0_4 n0_5) ∧ (n0_2.toInt.toNat = nx t tn y2.toInt.toNat) ∧ (y2.toInt ≤ n0_2.toInt ∧ n0_2.toInt ≤ n0_3.toInt ∧ n0_3.toInt ≤ y1.toInt))) := by
  refine tk_of (by decide) (Nat.le_of_ble_eq_true rfl) (fun p e s m below meth c ls A H locs hx hb hr hml hown hts hlocks hnm hkb hH hS hA hOX hks hE hl => ?_)
  have hown : s.vm.findClass RX3 = some m.cls := hown
  have hl : lv_has ls 2 [(0, .ref a0), (1, .int x1)] := hl
  have hOXf := hOX
  have hb9 := hto.b
  have hc9 := hto.cs
  refine lv_iload_n hx hb dX3_enter_0 rfl (lv_at hl 1 rfl) ?_
  refine lv_bipush (v := 6) hx hb dX3_enter_1 (by decide) ?_
  refine lv_icmp_lt (tgt := 15) hx hb dX3_enter_3 (by decide) (fun c3 => ?_) (fun c3 => ?_)
  · skip
    have tc3 := f_lt (k := 6) (by decide) c3
    refine lv_aload_n hx hb dX3_enter_15 rfl (lv_at hl 0 rfl) ?_
    refine t_get (ci := 3) (lst := ft3 0 0) (C := RX3) (F := TX3) (N := 3) hx hb hts uX3 hown hkb hH t_a0 (hO.no t_a0 (by decide)) (fun _ h9 => h9) rfl rfl 0 (by decide) rfl kw_82 (fun _ h9 => h9) dX3_enter_16 (fun v9 h9 => ?_)
    obtain ⟨v16, rfl, t_v16⟩ := h9
    have e9 := (hU7 _ _ t_v16).symm
    subst e9
    refine tk_v hH hS hA (tr_V (n := 0) (As := []) hx hb hml hown hts hkb hH (ox_map hOX rfl) hks hE hS hA (s_Tok_go l D cs kf T O X tk y0 y1 y2 y3 y4 y5 y6 y7 ft t tn t_tk t_y0 (by omega) (by omega) (by omega) (by omega) (by omega) (by omega) (by omega) htb (by have q9 := (hto).b; omega) (hO.sub (by decide))) kw_641 kw_453 kw_454 kw_3 kw_455 (by decide +kernel) ⟨Nat.le_of_ble_eq_true rfl, Nat.le_of_ble_eq_true rfl⟩ (x_recv (ci := 7) hkb hH 0 rfl rfl) rfl rfl hl.1 (Nat.le_of_ble_eq_true rfl) dX3_enter_19 ⟨Nat.le_of_ble_eq_true rfl, Nat.le_of_ble_eq_true rfl⟩) (fun u H locs hz9 hH hS => ?_)
    obtain ⟨n19_0_2, n19_0_3, n19_0_4, n19_0_5, rfl, x_v190, x_v191, x_v192⟩ := hz9
    have px19 := TSS.nx hto x_v191
    have hH : HT D cs A T (tk :: y0 :: O) ((tk, .inr (7, [.ref y0, .int y1, .int n19_0_2, .int n19_0_3, .int n19_0_4, .int n19_0_5, .int y6, .int y7])) :: (y0, .inl (cs.1, 900, .inl ft)) :: X) H := hH
    refine W.widen (k := 0) (n := 0) (Nat.le_of_ble_eq_true rfl) (Nat.le_of_ble_eq_true rfl) ?_
    refine lv_iconst (v := 1) hx hb dX3_enter_22 (by decide) ?_
    have z9_1 : (1 : Int32).toInt = 1 := by decide
    exact te_z hx hb hr hlocks (by rfl) hH hS (⟨n19_0_2, n19_0_3, n19_0_4, n19_0_5, rfl, by decide, by decide, x_v190, px19, (by omega)⟩) dX3_enter_23
  · skip
    have tc3 := f_nlt (k := 6) (by decide) c3
    exfalso; omega
set_option maxHeartbeats 4000000 in
set_option maxRecDepth 100000 in
theorem s_LR_enter3 (l : Launch) (D : va_G) (cs : CS) (kf : KF) (T : TF) (O : List Nat) (X : va_W) (a0 : Nat) (x1 : Int32) (y0 : Nat) (y1 : Int32) (y2 : Int32) (y3 : Int32) (y4 : Int32) (y5 : Int32) (y6 : Int32) (y7 : Int32) (ft : Nat → Int32) (t : Tp) (tn : Nat) (tk : Nat) (t_a0 : T a0 = some (13, 0, 0)) (l_x1 : 3 ≤ x1.toInt) (u_x1 : x1.toInt ≤ 3) (t_y0 : T y0 = some (0, 900, 0)) (l_y1 : 0 ≤ y1.toInt) (u_y1 : y1.toInt ≤ 900) (l_y2 : 0 ≤ y2.toInt) (u_y2 : y2.toInt ≤ 900) (l_y3 : 0 ≤ y3.toInt) (u_y3 : y3.toInt ≤ 900) (hn : y1.toInt = (tn : Int)) (htb : TB ft t) (hto : TSS t tn y2 y3 y4 y5) (t_tk : T tk = some (17, 0, 0)) (hU7 : ∀ (b : Nat) (q : Nat), T b = some (17, 0, q) → b = tk) (hO : okO T (tk :: y0 :: O) [13]) : TK l D cs kf yX3_enter cX3_enter 2 (some (.boolean)) { frames := 5, cells := 0, slots := 0, locals := 111 } [.ref a0, .int x1] T (tk :: y0 :: O) ((tk, .inr (7, [.ref y0, .int y1, .int y2, .int y3, .int y4, .int y5, .int y6, .int y7])) :: (y0, .inl (cs.1, 900, .inl ft)) :: X) (Ti D cs (fun r u => ∃ (n0_2 : Int32) (n0_3 : Int32) (n0_4 : Int32) (n0_5 : Int32), u = (T, tk :: y0 :: O, (tk, .inr (7, [.ref y0, .int y1, .int n0_2, .int n0_3, .int n0_4, .int n0_5, .int y6, .int y7])) :: (y0, .inl (cs.1, 900, .inl ft)) :: X) ∧ 1 ≤ r.toInt ∧ r.toInt ≤ 1 ∧ (TSS t tn n0_2 n0_3 n0_4 n0_5) ∧ (n0_2.toInt.toNat = nx t tn y2.toInt.toNat) ∧ (y2.toInt ≤ n0_2.toInt ∧ n0_2.toInt ≤ n0_3.toInt ∧ n0_3.toInt ≤ y1.toInt))) := by
  refine tk_of (by decide) (Nat.le_of_ble_eq_true rfl) (fun p e s m below meth c ls A H locs hx hb hr hml hown hts hlocks hnm hkb hH hS hA hOX hks hE hl => ?_)
  have hown : s.vm.findClass RX3 = some m.cls := hown
  have hl : lv_has ls 2 [(0, .ref a0), (1, .int x1)] := hl
  have hOXf := hOX
  have hb9 := hto.b
  have hc9 := hto.cs
  refine lv_iload_n hx hb dX3_enter_0 rfl (lv_at hl 1 rfl) ?_
  refine lv_bipush (v := 6) hx hb dX3_enter_1 (by decide) ?_
  refine lv_icmp_lt (tgt := 15) hx hb dX3_enter_3 (by decide) (fun c3 => ?_) (fun c3 => ?_)
  · skip
    have tc3 := f_lt (k := 6) (by decide) c3
    refine lv_aload_n hx hb dX3_enter_15 rfl (lv_at hl 0 rfl) ?_
    refine t_get (ci := 3) (lst := ft3 0 0) (C := RX3) (F := TX3) (N := 3) hx hb hts uX3 hown hkb hH t_a0 (hO.no t_a0 (by decide)) (fun _ h9 => h9) rfl rfl 0 (by decide) rfl kw_82 (fun _ h9 => h9) dX3_enter_16 (fun v9 h9 => ?_)
    obtain ⟨v16, rfl, t_v16⟩ := h9
    have e9 := (hU7 _ _ t_v16).symm
    subst e9
    refine tk_v hH hS hA (tr_V (n := 0) (As := []) hx hb hml hown hts hkb hH (ox_map hOX rfl) hks hE hS hA (s_Tok_go l D cs kf T O X tk y0 y1 y2 y3 y4 y5 y6 y7 ft t tn t_tk t_y0 (by omega) (by omega) (by omega) (by omega) (by omega) (by omega) (by omega) htb (by have q9 := (hto).b; omega) (hO.sub (by decide))) kw_641 kw_453 kw_454 kw_3 kw_455 (by decide +kernel) ⟨Nat.le_of_ble_eq_true rfl, Nat.le_of_ble_eq_true rfl⟩ (x_recv (ci := 7) hkb hH 0 rfl rfl) rfl rfl hl.1 (Nat.le_of_ble_eq_true rfl) dX3_enter_19 ⟨Nat.le_of_ble_eq_true rfl, Nat.le_of_ble_eq_true rfl⟩) (fun u H locs hz9 hH hS => ?_)
    obtain ⟨n19_0_2, n19_0_3, n19_0_4, n19_0_5, rfl, x_v190, x_v191, x_v192⟩ := hz9
    have px19 := TSS.nx hto x_v191
    have hH : HT D cs A T (tk :: y0 :: O) ((tk, .inr (7, [.ref y0, .int y1, .int n19_0_2, .int n19_0_3, .int n19_0_4, .int n19_0_5, .int y6, .int y7])) :: (y0, .inl (cs.1, 900, .inl ft)) :: X) H := hH
    refine W.widen (k := 0) (n := 0) (Nat.le_of_ble_eq_true rfl) (Nat.le_of_ble_eq_true rfl) ?_
    refine lv_iconst (v := 1) hx hb dX3_enter_22 (by decide) ?_
    have z9_1 : (1 : Int32).toInt = 1 := by decide
    exact te_z hx hb hr hlocks (by rfl) hH hS (⟨n19_0_2, n19_0_3, n19_0_4, n19_0_5, rfl, by decide, by decide, x_v190, px19, (by omega)⟩) dX3_enter_23
  · skip
    have tc3 := f_nlt (k := 6) (by decide) c3
    exfalso; omega
set_option maxHeartbeats 4000000 in
set_option maxRecDepth 100000 in
theorem s_LR_enter4 (l : Launch) (D : va_G) (cs : CS) (kf : KF) (T : TF) (O : List Nat) (X : va_W) (a0 : Nat) (x1 : Int32) (y0 : Nat) (y1 : Int32) (y2 : Int32) (y3 : Int32) (y4 : Int32) (y5 : Int32) (y6 : Int32) (y7 : Int32) (ft : Nat → Int32) (t : Tp) (tn : Nat) (tk : Nat) (t_a0 : T a0 = some (13, 0, 0)) (l_x1 : 4 ≤ x1.toInt) (u_x1 : x1.toInt ≤ 4) (t_y0 : T y0 = some (0, 900, 0)) (l_y1 : 0 ≤ y1.toInt) (u_y1 : y1.toInt ≤ 900) (l_y2 : 0 ≤ y2.toInt) (u_y2 : y2.toInt ≤ 900) (l_y3 : 0 ≤ y3.toInt) (u_y3 : y3.toInt ≤ 900) (hn : y1.toInt = (tn : Int)) (htb : TB ft t) (hto : TSS t tn y2 y3 y4 y5) (t_tk : T tk = some (17, 0, 0)) (hU7 : ∀ (b : Nat) (q : Nat), T b = some (17, 0, q) → b = tk) (hO : okO T (tk :: y0 :: O) [13]) : TK l D cs kf yX3_enter cX3_enter 2 (some (.boolean)) { frames := 5, cells := 0, slots := 0, locals := 111 } [.ref a0, .int x1] T (tk :: y0 :: O) ((tk, .inr (7, [.ref y0, .int y1, .int y2, .int y3, .int y4, .int y5, .int y6, .int y7])) :: (y0, .inl (cs.1, 900, .inl ft)) :: X) (Ti D cs (fun r u => ∃ (n0_2 : Int32) (n0_3 : Int32) (n0_4 : Int32) (n0_5 : Int32), u = (T, tk :: y0 :: O, (tk, .inr (7, [.ref y0, .int y1, .int n0_2, .int n0_3, .int n0_4, .int n0_5, .int y6, .int y7])) :: (y0, .inl (cs.1, 900, .inl ft)) :: X) ∧ 1 ≤ r.toInt ∧ r.toInt ≤ 1 ∧ (TSS t tn n0_2 n0_3 n0_4 n0_5) ∧ (n0_2.toInt.toNat = nx t tn y2.toInt.toNat) ∧ (y2.toInt ≤ n0_2.toInt ∧ n0_2.toInt ≤ n0_3.toInt ∧ n0_3.toInt ≤ y1.toInt))) := by
  refine tk_of (by decide) (Nat.le_of_ble_eq_true rfl) (fun p e s m below meth c ls A H locs hx hb hr hml hown hts hlocks hnm hkb hH hS hA hOX hks hE hl => ?_)
  have hown : s.vm.findClass RX3 = some m.cls := hown
  have hl : lv_has ls 2 [(0, .ref a0), (1, .int x1)] := hl
  have hOXf := hOX
  have hb9 := hto.b
  have hc9 := hto.cs
  refine lv_iload_n hx hb dX3_enter_0 rfl (lv_at hl 1 rfl) ?_
  refine lv_bipush (v := 6) hx hb dX3_enter_1 (by decide) ?_
  refine lv_icmp_lt (tgt := 15) hx hb dX3_enter_3 (by decide) (fun c3 => ?_) (fun c3 => ?_)
  · skip
    have tc3 := f_lt (k := 6) (by decide) c3
    refine lv_aload_n hx hb dX3_enter_15 rfl (lv_at hl 0 rfl) ?_
    refine t_get (ci := 3) (lst := ft3 0 0) (C := RX3) (F := TX3) (N := 3) hx hb hts uX3 hown hkb hH t_a0 (hO.no t_a0 (by decide)) (fun _ h9 => h9) rfl rfl 0 (by decide) rfl kw_82 (fun _ h9 => h9) dX3_enter_16 (fun v9 h9 => ?_)
    obtain ⟨v16, rfl, t_v16⟩ := h9
    have e9 := (hU7 _ _ t_v16).symm
    subst e9
    refine tk_v hH hS hA (tr_V (n := 0) (As := []) hx hb hml hown hts hkb hH (ox_map hOX rfl) hks hE hS hA (s_Tok_go l D cs kf T O X tk y0 y1 y2 y3 y4 y5 y6 y7 ft t tn t_tk t_y0 (by omega) (by omega) (by omega) (by omega) (by omega) (by omega) (by omega) htb (by have q9 := (hto).b; omega) (hO.sub (by decide))) kw_641 kw_453 kw_454 kw_3 kw_455 (by decide +kernel) ⟨Nat.le_of_ble_eq_true rfl, Nat.le_of_ble_eq_true rfl⟩ (x_recv (ci := 7) hkb hH 0 rfl rfl) rfl rfl hl.1 (Nat.le_of_ble_eq_true rfl) dX3_enter_19 ⟨Nat.le_of_ble_eq_true rfl, Nat.le_of_ble_eq_true rfl⟩) (fun u H locs hz9 hH hS => ?_)
    obtain ⟨n19_0_2, n19_0_3, n19_0_4, n19_0_5, rfl, x_v190, x_v191, x_v192⟩ := hz9
    have px19 := TSS.nx hto x_v191
    have hH : HT D cs A T (tk :: y0 :: O) ((tk, .inr (7, [.ref y0, .int y1, .int n19_0_2, .int n19_0_3, .int n19_0_4, .int n19_0_5, .int y6, .int y7])) :: (y0, .inl (cs.1, 900, .inl ft)) :: X) H := hH
    refine W.widen (k := 0) (n := 0) (Nat.le_of_ble_eq_true rfl) (Nat.le_of_ble_eq_true rfl) ?_
    refine lv_iconst (v := 1) hx hb dX3_enter_22 (by decide) ?_
    have z9_1 : (1 : Int32).toInt = 1 := by decide
    exact te_z hx hb hr hlocks (by rfl) hH hS (⟨n19_0_2, n19_0_3, n19_0_4, n19_0_5, rfl, by decide, by decide, x_v190, px19, (by omega)⟩) dX3_enter_23
  · skip
    have tc3 := f_nlt (k := 6) (by decide) c3
    exfalso; omega
set_option maxHeartbeats 4000000 in
set_option maxRecDepth 100000 in
theorem s_LR_enter5 (l : Launch) (D : va_G) (cs : CS) (kf : KF) (T : TF) (O : List Nat) (X : va_W) (a0 : Nat) (x1 : Int32) (y0 : Nat) (y1 : Int32) (y2 : Int32) (y3 : Int32) (y4 : Int32) (y5 : Int32) (y6 : Int32) (y7 : Int32) (ft : Nat → Int32) (t : Tp) (tn : Nat) (tk : Nat) (t_a0 : T a0 = some (13, 0, 0)) (l_x1 : 5 ≤ x1.toInt) (u_x1 : x1.toInt ≤ 5) (t_y0 : T y0 = some (0, 900, 0)) (l_y1 : 0 ≤ y1.toInt) (u_y1 : y1.toInt ≤ 900) (l_y2 : 0 ≤ y2.toInt) (u_y2 : y2.toInt ≤ 900) (l_y3 : 0 ≤ y3.toInt) (u_y3 : y3.toInt ≤ 900) (hn : y1.toInt = (tn : Int)) (htb : TB ft t) (hto : TSS t tn y2 y3 y4 y5) (t_tk : T tk = some (17, 0, 0)) (hU7 : ∀ (b : Nat) (q : Nat), T b = some (17, 0, q) → b = tk) (hO : okO T (tk :: y0 :: O) [13]) : TK l D cs kf yX3_enter cX3_enter 2 (some (.boolean)) { frames := 5, cells := 0, slots := 0, locals := 111 } [.ref a0, .int x1] T (tk :: y0 :: O) ((tk, .inr (7, [.ref y0, .int y1, .int y2, .int y3, .int y4, .int y5, .int y6, .int y7])) :: (y0, .inl (cs.1, 900, .inl ft)) :: X) (Ti D cs (fun r u => ∃ (n0_2 : Int32) (n0_3 : Int32) (n0_4 : Int32) (n0_5 : Int32), u = (T, tk :: y0 :: O, (tk, .inr (7, [.ref y0, .int y1, .int n0_2, .int n0_3, .int n0_4, .int n0_5, .int y6, .int y7])) :: (y0, .inl (cs.1, 900, .inl ft)) :: X) ∧ 1 ≤ r.toInt ∧ r.toInt ≤ 1 ∧ (TSS t tn n0_2 n0_3 n0_4 n0_5) ∧ (n0_2.toInt.toNat = nx t tn y2.toInt.toNat) ∧ (y2.toInt ≤ n0_2.toInt ∧ n0_2.toInt ≤ n0_3.toInt ∧ n0_3.toInt ≤ y1.toInt))) := by
  refine tk_of (by decide) (Nat.le_of_ble_eq_true rfl) (fun p e s m below meth c ls A H locs hx hb hr hml hown hts hlocks hnm hkb hH hS hA hOX hks hE hl => ?_)
  have hown : s.vm.findClass RX3 = some m.cls := hown
  have hl : lv_has ls 2 [(0, .ref a0), (1, .int x1)] := hl
  have hOXf := hOX
  have hb9 := hto.b
  have hc9 := hto.cs
  refine lv_iload_n hx hb dX3_enter_0 rfl (lv_at hl 1 rfl) ?_
  refine lv_bipush (v := 6) hx hb dX3_enter_1 (by decide) ?_
  refine lv_icmp_lt (tgt := 15) hx hb dX3_enter_3 (by decide) (fun c3 => ?_) (fun c3 => ?_)
  · skip
    have tc3 := f_lt (k := 6) (by decide) c3
    refine lv_aload_n hx hb dX3_enter_15 rfl (lv_at hl 0 rfl) ?_
    refine t_get (ci := 3) (lst := ft3 0 0) (C := RX3) (F := TX3) (N := 3) hx hb hts uX3 hown hkb hH t_a0 (hO.no t_a0 (by decide)) (fun _ h9 => h9) rfl rfl 0 (by decide) rfl kw_82 (fun _ h9 => h9) dX3_enter_16 (fun v9 h9 => ?_)
    obtain ⟨v16, rfl, t_v16⟩ := h9
    have e9 := (hU7 _ _ t_v16).symm
    subst e9
    refine tk_v hH hS hA (tr_V (n := 0) (As := []) hx hb hml hown hts hkb hH (ox_map hOX rfl) hks hE hS hA (s_Tok_go l D cs kf T O X tk y0 y1 y2 y3 y4 y5 y6 y7 ft t tn t_tk t_y0 (by omega) (by omega) (by omega) (by omega) (by omega) (by omega) (by omega) htb (by have q9 := (hto).b; omega) (hO.sub (by decide))) kw_641 kw_453 kw_454 kw_3 kw_455 (by decide +kernel) ⟨Nat.le_of_ble_eq_true rfl, Nat.le_of_ble_eq_true rfl⟩ (x_recv (ci := 7) hkb hH 0 rfl rfl) rfl rfl hl.1 (Nat.le_of_ble_eq_true rfl) dX3_enter_19 ⟨Nat.le_of_ble_eq_true rfl, Nat.le_of_ble_eq_true rfl⟩) (fun u H locs hz9 hH hS => ?_)
    obtain ⟨n19_0_2, n19_0_3, n19_0_4, n19_0_5, rfl, x_v190, x_v191, x_v192⟩ := hz9
    have px19 := TSS.nx hto x_v191
    have hH : HT D cs A T (tk :: y0 :: O) ((tk, .inr (7, [.ref y0, .int y1, .int n19_0_2, .int n19_0_3, .int n19_0_4, .int n19_0_5, .int y6, .int y7])) :: (y0, .inl (cs.1, 900, .inl ft)) :: X) H := hH
    refine W.widen (k := 0) (n := 0) (Nat.le_of_ble_eq_true rfl) (Nat.le_of_ble_eq_true rfl) ?_
    refine lv_iconst (v := 1) hx hb dX3_enter_22 (by decide) ?_
    have z9_1 : (1 : Int32).toInt = 1 := by decide
    exact te_z hx hb hr hlocks (by rfl) hH hS (⟨n19_0_2, n19_0_3, n19_0_4, n19_0_5, rfl, by decide, by decide, x_v190, px19, (by omega)⟩) dX3_enter_23
  · skip
    have tc3 := f_nlt (k := 6) (by decide) c3
    exfalso; omega
set_option maxHeartbeats 4000000 in
set_option maxRecDepth 100000 in
theorem s_LR_enter6 (l : Launch) (D : va_G) (cs : CS) (kf : KF) (T : TF) (O : List Nat) (X : va_W) (a0 : Nat) (x1 : Int32) (y0 : Nat) (y1 : Int32) (y2 : Int32) (y3 : Int32) (y4 : Int32) (y5 : Int32) (y6 : Int32) (y7 : Int32) (ft : Nat → Int32) (t : Tp) (tn : Nat) (tk : Nat) (t_a0 : T a0 = some (13, 0, 0)) (l_x1 : 6 ≤ x1.toInt) (u_x1 : x1.toInt ≤ 6) (t_y0 : T y0 = some (0, 900, 0)) (l_y1 : 0 ≤ y1.toInt) (u_y1 : y1.toInt ≤ 900) (l_y2 : 0 ≤ y2.toInt) (u_y2 : y2.toInt ≤ 900) (l_y3 : 0 ≤ y3.toInt) (u_y3 : y3.toInt ≤ 900) (hn : y1.toInt = (tn : Int)) (htb : TB ft t) (hto : TSS t tn y2 y3 y4 y5) (t_tk : T tk = some (17, 0, 0)) (hU7 : ∀ (b : Nat) (q : Nat), T b = some (17, 0, q) → b = tk) (hO : okO T (tk :: y0 :: O) [13]) : TK l D cs kf yX3_enter cX3_enter 2 (some (.boolean)) { frames := 1, cells := 0, slots := 0, locals := 21 } [.ref a0, .int x1] T (tk :: y0 :: O) ((tk, .inr (7, [.ref y0, .int y1, .int y2, .int y3, .int y4, .int y5, .int y6, .int y7])) :: (y0, .inl (cs.1, 900, .inl ft)) :: X) (Ti D cs (fun r u => ∃ (n0_6 : Int32) (n0_7 : Int32), u = (T, tk :: y0 :: O, (tk, .inr (7, [.ref y0, .int y1, .int y2, .int y3, .int y4, .int y5, .int n0_6, .int n0_7])) :: (y0, .inl (cs.1, 900, .inl ft)) :: X) ∧ 0 ≤ r.toInt ∧ r.toInt ≤ 0 ∧ (n0_6.toInt = fwf (kd t tn y2.toInt.toNat) 4) ∧ (n0_7.toInt = y2.toInt))) := by
  refine tk_of (by decide) (Nat.le_of_ble_eq_true rfl) (fun p e s m below meth c ls A H locs hx hb hr hml hown hts hlocks hnm hkb hH hS hA hOX hks hE hl => ?_)
  have hown : s.vm.findClass RX3 = some m.cls := hown
  have hl : lv_has ls 2 [(0, .ref a0), (1, .int x1)] := hl
  have hOXf := hOX
  have hb9 := hto.b
  have hc9 := hto.cs
  refine lv_iload_n hx hb dX3_enter_0 rfl (lv_at hl 1 rfl) ?_
  refine lv_bipush (v := 6) hx hb dX3_enter_1 (by decide) ?_
  refine lv_icmp_lt (tgt := 15) hx hb dX3_enter_3 (by decide) (fun c3 => ?_) (fun c3 => ?_)
  · skip
    have tc3 := f_lt (k := 6) (by decide) c3
    exfalso; omega
  · skip
    have tc3 := f_nlt (k := 6) (by decide) c3
    refine lv_aload_n hx hb dX3_enter_6 rfl (lv_at hl 0 rfl) ?_
    refine t_get (ci := 3) (lst := ft3 0 0) (C := RX3) (F := TX3) (N := 3) hx hb hts uX3 hown hkb hH t_a0 (hO.no t_a0 (by decide)) (fun _ h9 => h9) rfl rfl 0 (by decide) rfl kw_82 (fun _ h9 => h9) dX3_enter_7 (fun v9 h9 => ?_)
    obtain ⟨v7, rfl, t_v7⟩ := h9
    have e9 := (hU7 _ _ t_v7).symm
    subst e9
    refine lv_iconst (v := 4) hx hb dX3_enter_10 (by decide) ?_
    have z9_4 : (4 : Int32).toInt = 4 := by decide
    refine tk_i hH hS hA (tr_V (n := 1) (As := [.int 4]) hx hb hml hown hts hkb hH (ox_map hOX rfl) hks hE hS hA (s_Tok_refuse l D cs kf T O X tk (4) y0 y1 y2 y3 y4 y5 y6 y7 ft t tn t_tk t_y0 (by omega) (by omega) (by omega) (by omega) (by omega) (by omega) (by omega) htb hto (hO.sub (by decide))) kw_640 kw_580 kw_581 kw_3 kw_582 (by decide +kernel) ⟨Nat.le_of_ble_eq_true rfl, Nat.le_of_ble_eq_true rfl⟩ (x_recv (ci := 7) hkb hH 0 rfl rfl) rfl rfl hl.1 (Nat.le_of_ble_eq_true rfl) dX3_enter_11 ⟨Nat.le_of_ble_eq_true rfl, Nat.le_of_ble_eq_true rfl⟩) (fun v11 u H locs hz9 hH hS => ?_)
    obtain ⟨n11_0_6, n11_0_7, rfl, l_v11, u_v11, x_v110, x_v111⟩ := hz9
    have hH : HT D cs A T (tk :: y0 :: O) ((tk, .inr (7, [.ref y0, .int y1, .int y2, .int y3, .int y4, .int y5, .int n11_0_6, .int n11_0_7])) :: (y0, .inl (cs.1, 900, .inl ft)) :: X) H := hH
    refine W.widen (k := 0) (n := 0) (Nat.le_of_ble_eq_true rfl) (Nat.le_of_ble_eq_true rfl) ?_
    exact te_z hx hb hr hlocks (nar01 (by omega) (by omega)) hH hS (⟨n11_0_6, n11_0_7, rfl, by omega, by omega, x_v110, x_v111⟩) dX3_enter_14
set_option maxHeartbeats 4000000 in
set_option maxRecDepth 100000 in
theorem s_LR_readAtom6 (l : Launch) (D : va_G) (cs : CS) (kf : KF) (T : TF) (O : List Nat) (X : va_W) (a0 : Nat) (x1 : Int32) (y0 : Nat) (y1 : Int32) (y2 : Int32) (y3 : Int32) (y4 : Int32) (y5 : Int32) (y6 : Int32) (y7 : Int32) (ft : Nat → Int32) (t : Tp) (tn : Nat) (tk : Nat) (t_a0 : T a0 = some (13, 0, 0)) (l_x1 : 6 ≤ x1.toInt) (u_x1 : x1.toInt ≤ 6) (t_y0 : T y0 = some (0, 900, 0)) (l_y1 : 0 ≤ y1.toInt) (u_y1 : y1.toInt ≤ 900) (l_y2 : 0 ≤ y2.toInt) (u_y2 : y2.toInt ≤ 900) (l_y3 : 0 ≤ y3.toInt) (u_y3 : y3.toInt ≤ 900) (hn : y1.toInt = (tn : Int)) (htb : TB ft t) (hto : TSS t tn y2 y3 y4 y5) (t_tk : T tk = some (17, 0, 0)) (hU7 : ∀ (b : Nat) (q : Nat), T b = some (17, 0, q) → b = tk) (hz : y6.toInt = 0) (hO : okO T (tk :: y0 :: O) [1, 13]) : TK l D cs kf yX3_readAtom cX3_readAtom 3 (some (.boolean)) { frames := 6, cells := 0, slots := 0, locals := 127 } [.ref a0, .int x1] T (tk :: y0 :: O) ((tk, .inr (7, [.ref y0, .int y1, .int y2, .int y3, .int y4, .int y5, .int y6, .int y7])) :: (y0, .inl (cs.1, 900, .inl ft)) :: X) (Ti D cs (fun r u => ∃ (n0_2 : Int32) (n0_3 : Int32) (n0_4 : Int32) (n0_5 : Int32) (n0_6 : Int32) (n0_7 : Int32), u = (T, tk :: y0 :: O, (tk, .inr (7, [.ref y0, .int y1, .int n0_2, .int n0_3, .int n0_4, .int n0_5, .int n0_6, .int n0_7])) :: (y0, .inl (cs.1, 900, .inl ft)) :: X) ∧ 0 ≤ r.toInt ∧ r.toInt ≤ 1 ∧ (r.toInt = 0 ∨ (TSS t tn n0_2 n0_3 n0_4 n0_5 ∧ n0_6.toInt = 0 ∧ n0_7.toInt = y7.toInt ∧ GL t tn [(0, 6)] [] y2 n0_2)) ∧ (r.toInt ≠ 0 ∨ BL t tn [(0, 6)] y2 n0_6 n0_7) ∧ (y2.toInt ≤ n0_2.toInt ∧ n0_2.toInt ≤ n0_3.toInt ∧ n0_3.toInt ≤ y1.toInt))) := by
  refine tk_of (by decide) (Nat.le_of_ble_eq_true rfl) (fun p e s m below meth c ls A H locs hx hb hr hml hown hts hlocks hnm hkb hH hS hA hOX hks hE hl => ?_)
  have hown : s.vm.findClass RX3 = some m.cls := hown
  have hl : lv_has ls 3 [(0, .ref a0), (1, .int x1)] := hl
  have hOXf := hOX
  have hb9 := hto.b
  have hc9 := hto.cs
  refine lv_aload_n hx hb dX3_readAtom_0 rfl (lv_at hl 0 rfl) ?_
  refine t_get (ci := 3) (lst := ft3 0 0) (C := RX3) (F := TX3) (N := 3) hx hb hts uX3 hown hkb hH t_a0 (hO.no t_a0 (by decide)) (fun _ h9 => h9) rfl rfl 0 (by decide) rfl kw_82 (fun _ h9 => h9) dX3_readAtom_1 (fun v9 h9 => ?_)
  obtain ⟨v1, rfl, t_v1⟩ := h9
  have e9 := (hU7 _ _ t_v1).symm
  subst e9
  refine lv_bipush (v := 40) hx hb dX3_readAtom_4 (by decide) ?_
  have z9_40 : (40 : Int32).toInt = 40 := by decide
  refine tk_i hH hS hA (tr_V (n := 1) (As := [.int 40]) hx hb hml hown hts hkb hH (ox_map hOX rfl) hks hE hS hA (s_Tok_isSign l D cs kf T O X tk (40) y0 y1 y2 y3 y4 y5 y6 y7 ft t tn 35 t_tk t_y0 (by omega) (by omega) (by omega) (by omega) (by omega) (by omega) (by omega) htb hto (by decide) (by decide) (hO.sub (by decide))) kw_646 kw_615 kw_616 kw_3 kw_617 (by decide +kernel) ⟨Nat.le_of_ble_eq_true rfl, Nat.le_of_ble_eq_true rfl⟩ (x_recv (ci := 7) hkb hH 0 rfl rfl) rfl rfl hl.1 (Nat.le_of_ble_eq_true rfl) dX3_readAtom_6 ⟨Nat.le_of_ble_eq_true rfl, Nat.le_of_ble_eq_true rfl⟩) (fun v6 u H locs hz9 hH hS => ?_)
  obtain ⟨rfl, l_v6, u_v6, x_v60, x_v61⟩ := hz9
  have hH : HT D cs A T (tk :: y0 :: O) ((tk, .inr (7, [.ref y0, .int y1, .int y2, .int y3, .int y4, .int y5, .int y6, .int y7])) :: (y0, .inl (cs.1, 900, .inl ft)) :: X) H := hH
  refine W.widen (k := 0) (n := 0) (Nat.le_of_ble_eq_true rfl) (Nat.le_of_ble_eq_true rfl) ?_
  refine lv_if_eq (tgt := 48) hx hb dX3_readAtom_9 (by decide) (fun c9 => ?_) (fun c9 => ?_)
  · skip
    have tc9 := f_eq (k := 0) (by decide) c9
    clear x_v60
    replace x_v61 := x_v61.resolve_left (fun q9 => q9 tc9)
    refine lv_aload_n hx hb dX3_readAtom_48 rfl (lv_at hl 0 rfl) ?_
    refine t_get (ci := 3) (lst := ft3 0 0) (C := RX3) (F := TX3) (N := 3) hx hb hts uX3 hown hkb hH t_a0 (hO.no t_a0 (by decide)) (fun _ h9 => h9) rfl rfl 0 (by decide) rfl kw_82 (fun _ h9 => h9) dX3_readAtom_49 (fun v9 h9 => ?_)
    obtain ⟨v49, rfl, t_v49⟩ := h9
    have e9 := (hU7 _ _ t_v49).symm
    subst e9
    refine x_getk (ci := 7) (C := RX7) (F := TX7) (N := 8) (v := .int y4) hx hb hts uX7 hown hkb hH 0 rfl rfl 4 (by decide) rfl kw_50 (fun _ h9 => h9) dX3_readAtom_52 ?_
    refine lv_iconst (v := 2) hx hb dX3_readAtom_55 (by decide) ?_
    refine lv_icmp_ne (tgt := 80) hx hb dX3_readAtom_56 (by decide) (fun c56 => ?_) (fun c56 => ?_)
    · skip
      have tc56 := f_ne (k := 2) (by decide) c56
      refine lv_aload_n hx hb dX3_readAtom_80 rfl (lv_at hl 0 rfl) ?_
      refine tk_i hH hS hA (tr_V (n := 0) (As := []) hx hb hml hown hts hkb hH (ox_map hOX rfl) hks hE hS hA (s_LR_factHere l D cs kf T O X a0 y0 y1 y2 y3 y4 y5 y6 y7 ft t tn tk t_a0 t_y0 (by omega) (by omega) (by omega) (by omega) (by omega) (by omega) (by omega) htb hto t_tk hU7 (hO.sub (by decide))) kw_660 kw_662 ks_13 kw_4 kw_663 (by decide +kernel) ⟨Nat.le_of_ble_eq_true rfl, Nat.le_of_ble_eq_true rfl⟩ (HT.recv (ci := 3) hkb hH t_a0 (hO.no t_a0 (by decide)) rfl) rfl rfl hl.1 (Nat.le_of_ble_eq_true rfl) dX3_readAtom_81 ⟨Nat.le_of_ble_eq_true rfl, Nat.le_of_ble_eq_true rfl⟩) (fun v81 u H locs hz9 hH hS => ?_)
      obtain ⟨rfl, l_v81, u_v81, x_v810, x_v811⟩ := hz9
      have hH : HT D cs A T (tk :: y0 :: O) ((tk, .inr (7, [.ref y0, .int y1, .int y2, .int y3, .int y4, .int y5, .int y6, .int y7])) :: (y0, .inl (cs.1, 900, .inl ft)) :: X) H := hH
      refine W.widen (k := 0) (n := 0) (Nat.le_of_ble_eq_true rfl) (Nat.le_of_ble_eq_true rfl) ?_
      refine lv_istore_n (lv' := [(2, .int v81), (0, .ref a0), (1, .int x1)]) hx hb dX3_readAtom_84 rfl hl (by decide) rfl (fun ls hl => ?_)
      refine lv_iload_n hx hb dX3_readAtom_85 rfl (lv_at hl 0 rfl) ?_
      refine lv_iconst (v := (-1)) hx hb dX3_readAtom_86 (by decide) ?_
      refine lv_icmp_ne (tgt := 99) hx hb dX3_readAtom_87 (by decide) (fun c87 => ?_) (fun c87 => ?_)
      · skip
        have tc87 := f_ne (k := -1) (by decide) c87
        replace x_v810 := x_v810.resolve_left tc87
        clear x_v811
        refine lv_aload_n hx hb dX3_readAtom_99 rfl (lv_at hl 1 rfl) ?_
        refine lv_iconst (v := 1) hx hb dX3_readAtom_100 (by decide) ?_
        refine lv_iload_n hx hb dX3_readAtom_101 rfl (lv_at hl 0 rfl) ?_
        refine tk_v hH hS hA (tr_V (n := 2) (As := [.int 1, .int v81]) hx hb hml hown hts hkb hH (ox_map hOX rfl) hks hE hS hA (s_LR_put l D cs kf T (tk :: y0 :: O) ((tk, .inr (7, [.ref y0, .int y1, .int y2, .int y3, .int y4, .int y5, .int y6, .int y7])) :: (y0, .inl (cs.1, 900, .inl ft)) :: X) a0 (1) v81 t_a0 (hO.sub (by decide))) kw_642 kw_644 ks_9 kw_4 kw_645 (by decide +kernel) ⟨Nat.le_of_ble_eq_true rfl, Nat.le_of_ble_eq_true rfl⟩ (HT.recv (ci := 3) hkb hH t_a0 (hO.no t_a0 (by decide)) rfl) rfl rfl hl.1 (Nat.le_of_ble_eq_true rfl) dX3_readAtom_102 ⟨Nat.le_of_ble_eq_true rfl, Nat.le_of_ble_eq_true rfl⟩) (fun u H locs hz9 hH hS => ?_)
        have hz9 : u = (T, tk :: y0 :: O, (tk, .inr (7, [.ref y0, .int y1, .int y2, .int y3, .int y4, .int y5, .int y6, .int y7])) :: (y0, .inl (cs.1, 900, .inl ft)) :: X) := hz9
        subst hz9
        have hH : HT D cs A T (tk :: y0 :: O) ((tk, .inr (7, [.ref y0, .int y1, .int y2, .int y3, .int y4, .int y5, .int y6, .int y7])) :: (y0, .inl (cs.1, 900, .inl ft)) :: X) H := hH
        refine W.widen (k := 0) (n := 0) (Nat.le_of_ble_eq_true rfl) (Nat.le_of_ble_eq_true rfl) ?_
        refine lv_aload_n hx hb dX3_readAtom_105 rfl (lv_at hl 1 rfl) ?_
        refine t_get (ci := 3) (lst := ft3 0 0) (C := RX3) (F := TX3) (N := 3) hx hb hts uX3 hown hkb hH t_a0 (hO.no t_a0 (by decide)) (fun _ h9 => h9) rfl rfl 0 (by decide) rfl kw_82 (fun _ h9 => h9) dX3_readAtom_106 (fun v9 h9 => ?_)
        obtain ⟨v106, rfl, t_v106⟩ := h9
        have e9 := (hU7 _ _ t_v106).symm
        subst e9
        refine tk_v hH hS hA (tr_V (n := 0) (As := []) hx hb hml hown hts hkb hH (ox_map hOX rfl) hks hE hS hA (s_Tok_go l D cs kf T O X tk y0 y1 y2 y3 y4 y5 y6 y7 ft t tn t_tk t_y0 (by omega) (by omega) (by omega) (by omega) (by omega) (by omega) (by omega) htb (by have q9 := (hto).b; omega) (hO.sub (by decide))) kw_641 kw_453 kw_454 kw_3 kw_455 (by decide +kernel) ⟨Nat.le_of_ble_eq_true rfl, Nat.le_of_ble_eq_true rfl⟩ (x_recv (ci := 7) hkb hH 0 rfl rfl) rfl rfl hl.1 (Nat.le_of_ble_eq_true rfl) dX3_readAtom_109 ⟨Nat.le_of_ble_eq_true rfl, Nat.le_of_ble_eq_true rfl⟩) (fun u H locs hz9 hH hS => ?_)
        obtain ⟨n109_0_2, n109_0_3, n109_0_4, n109_0_5, rfl, x_v1090, x_v1091, x_v1092⟩ := hz9
        have px109 := TSS.nx hto x_v1091
        have hH : HT D cs A T (tk :: y0 :: O) ((tk, .inr (7, [.ref y0, .int y1, .int n109_0_2, .int n109_0_3, .int n109_0_4, .int n109_0_5, .int y6, .int y7])) :: (y0, .inl (cs.1, 900, .inl ft)) :: X) H := hH
        refine W.widen (k := 0) (n := 0) (Nat.le_of_ble_eq_true rfl) (Nat.le_of_ble_eq_true rfl) ?_
        refine lv_iconst (v := 1) hx hb dX3_readAtom_112 (by decide) ?_
        have z9_1 : (1 : Int32).toInt = 1 := by decide
        exact te_z hx hb hr hlocks (by rfl) hH hS (⟨n109_0_2, n109_0_3, n109_0_4, n109_0_5, y6, y7, rfl, by decide, by decide, (Or.inr ⟨x_v1090, by omega, by omega, (by first | (refine g30.tr (GL_nx (fun _ _ => st_xY x_v360.2.2.1) x_v360.2.1)) | (refine GL_nx (fun _ _ => st_aV ?_) px75; omega) | (refine GL_nx (fun _ _ => st_aV ?_) px109; omega))⟩), Or.inl (by decide), (by omega)⟩) dX3_readAtom_113
      · skip
        have tc87 := f_eq (k := -1) (by decide) c87
        clear x_v810
        replace x_v811 := x_v811.resolve_left (fun q9 => q9 tc87)
        refine lv_aload_n hx hb dX3_readAtom_90 rfl (lv_at hl 1 rfl) ?_
        refine t_get (ci := 3) (lst := ft3 0 0) (C := RX3) (F := TX3) (N := 3) hx hb hts uX3 hown hkb hH t_a0 (hO.no t_a0 (by decide)) (fun _ h9 => h9) rfl rfl 0 (by decide) rfl kw_82 (fun _ h9 => h9) dX3_readAtom_91 (fun v9 h9 => ?_)
        obtain ⟨v91, rfl, t_v91⟩ := h9
        have e9 := (hU7 _ _ t_v91).symm
        subst e9
        refine lv_iconst (v := 2) hx hb dX3_readAtom_94 (by decide) ?_
        have z9_2 : (2 : Int32).toInt = 2 := by decide
        refine tk_i hH hS hA (tr_V (n := 1) (As := [.int 2]) hx hb hml hown hts hkb hH (ox_map hOX rfl) hks hE hS hA (s_Tok_refuse l D cs kf T O X tk (2) y0 y1 y2 y3 y4 y5 y6 y7 ft t tn t_tk t_y0 (by omega) (by omega) (by omega) (by omega) (by omega) (by omega) (by omega) htb hto (hO.sub (by decide))) kw_640 kw_580 kw_581 kw_3 kw_582 (by decide +kernel) ⟨Nat.le_of_ble_eq_true rfl, Nat.le_of_ble_eq_true rfl⟩ (x_recv (ci := 7) hkb hH 0 rfl rfl) rfl rfl hl.1 (Nat.le_of_ble_eq_true rfl) dX3_readAtom_95 ⟨Nat.le_of_ble_eq_true rfl, Nat.le_of_ble_eq_true rfl⟩) (fun v95 u H locs hz9 hH hS => ?_)
        obtain ⟨n95_0_6, n95_0_7, rfl, l_v95, u_v95, x_v950, x_v951⟩ := hz9
        have hH : HT D cs A T (tk :: y0 :: O) ((tk, .inr (7, [.ref y0, .int y1, .int y2, .int y3, .int y4, .int y5, .int n95_0_6, .int n95_0_7])) :: (y0, .inl (cs.1, 900, .inl ft)) :: X) H := hH
        refine W.widen (k := 0) (n := 0) (Nat.le_of_ble_eq_true rfl) (Nat.le_of_ble_eq_true rfl) ?_
        exact te_z hx hb hr hlocks (nar01 (by omega) (by omega)) hH hS (⟨y2, y3, y4, y5, n95_0_6, n95_0_7, rfl, by omega, by omega, (Or.inl (by omega)), (Or.inr (by first | (refine BL_f (fun _ _ => st_aD ?_) x_v140 (by decide) x_v141 ?_ <;> omega) | (refine g20.bd (BL.cons x_v241)) | (refine g30.bd (BL_f (fun _ _ => st_xN x_v361.1) x_v361.2.1 (by decide) x_v361.2.2 ?_); omega) | (refine BL_f (fun _ _ => st_aN ?_ ?_) x_v950 (by decide) x_v951 ?_ <;> omega))), (by omega)⟩) dX3_readAtom_98
    · skip
      have tc56 := f_eq (k := 2) (by decide) c56
      refine lv_aload_n hx hb dX3_readAtom_59 rfl (lv_at hl 0 rfl) ?_
      refine lv_iconst (v := 0) hx hb dX3_readAtom_60 (by decide) ?_
      refine lv_aload_n hx hb dX3_readAtom_61 rfl (lv_at hl 0 rfl) ?_
      refine t_get (ci := 3) (lst := ft3 0 0) (C := RX3) (F := TX3) (N := 3) hx hb hts uX3 hown hkb hH t_a0 (hO.no t_a0 (by decide)) (fun _ h9 => h9) rfl rfl 0 (by decide) rfl kw_82 (fun _ h9 => h9) dX3_readAtom_62 (fun v9 h9 => ?_)
      obtain ⟨v62, rfl, t_v62⟩ := h9
      have e9 := (hU7 _ _ t_v62).symm
      subst e9
      refine x_getk (ci := 7) (C := RX7) (F := TX7) (N := 8) (v := .int y5) hx hb hts uX7 hown hkb hH 0 rfl rfl 5 (by decide) rfl kw_53 (fun _ h9 => h9) dX3_readAtom_65 ?_
      refine tk_v hH hS hA (tr_V (n := 2) (As := [.int 0, .int y5]) hx hb hml hown hts hkb hH (ox_map hOX rfl) hks hE hS hA (s_LR_put l D cs kf T (tk :: y0 :: O) ((tk, .inr (7, [.ref y0, .int y1, .int y2, .int y3, .int y4, .int y5, .int y6, .int y7])) :: (y0, .inl (cs.1, 900, .inl ft)) :: X) a0 (0) y5 t_a0 (hO.sub (by decide))) kw_642 kw_644 ks_9 kw_4 kw_645 (by decide +kernel) ⟨Nat.le_of_ble_eq_true rfl, Nat.le_of_ble_eq_true rfl⟩ (HT.recv (ci := 3) hkb hH t_a0 (hO.no t_a0 (by decide)) rfl) rfl rfl hl.1 (Nat.le_of_ble_eq_true rfl) dX3_readAtom_68 ⟨Nat.le_of_ble_eq_true rfl, Nat.le_of_ble_eq_true rfl⟩) (fun u H locs hz9 hH hS => ?_)
      have hz9 : u = (T, tk :: y0 :: O, (tk, .inr (7, [.ref y0, .int y1, .int y2, .int y3, .int y4, .int y5, .int y6, .int y7])) :: (y0, .inl (cs.1, 900, .inl ft)) :: X) := hz9
      subst hz9
      have hH : HT D cs A T (tk :: y0 :: O) ((tk, .inr (7, [.ref y0, .int y1, .int y2, .int y3, .int y4, .int y5, .int y6, .int y7])) :: (y0, .inl (cs.1, 900, .inl ft)) :: X) H := hH
      refine W.widen (k := 0) (n := 0) (Nat.le_of_ble_eq_true rfl) (Nat.le_of_ble_eq_true rfl) ?_
      refine lv_aload_n hx hb dX3_readAtom_71 rfl (lv_at hl 0 rfl) ?_
      refine t_get (ci := 3) (lst := ft3 0 0) (C := RX3) (F := TX3) (N := 3) hx hb hts uX3 hown hkb hH t_a0 (hO.no t_a0 (by decide)) (fun _ h9 => h9) rfl rfl 0 (by decide) rfl kw_82 (fun _ h9 => h9) dX3_readAtom_72 (fun v9 h9 => ?_)
      obtain ⟨v72, rfl, t_v72⟩ := h9
      have e9 := (hU7 _ _ t_v72).symm
      subst e9
      refine tk_v hH hS hA (tr_V (n := 0) (As := []) hx hb hml hown hts hkb hH (ox_map hOX rfl) hks hE hS hA (s_Tok_go l D cs kf T O X tk y0 y1 y2 y3 y4 y5 y6 y7 ft t tn t_tk t_y0 (by omega) (by omega) (by omega) (by omega) (by omega) (by omega) (by omega) htb (by have q9 := (hto).b; omega) (hO.sub (by decide))) kw_641 kw_453 kw_454 kw_3 kw_455 (by decide +kernel) ⟨Nat.le_of_ble_eq_true rfl, Nat.le_of_ble_eq_true rfl⟩ (x_recv (ci := 7) hkb hH 0 rfl rfl) rfl rfl hl.1 (Nat.le_of_ble_eq_true rfl) dX3_readAtom_75 ⟨Nat.le_of_ble_eq_true rfl, Nat.le_of_ble_eq_true rfl⟩) (fun u H locs hz9 hH hS => ?_)
      obtain ⟨n75_0_2, n75_0_3, n75_0_4, n75_0_5, rfl, x_v750, x_v751, x_v752⟩ := hz9
      have px75 := TSS.nx hto x_v751
      have hH : HT D cs A T (tk :: y0 :: O) ((tk, .inr (7, [.ref y0, .int y1, .int n75_0_2, .int n75_0_3, .int n75_0_4, .int n75_0_5, .int y6, .int y7])) :: (y0, .inl (cs.1, 900, .inl ft)) :: X) H := hH
      refine W.widen (k := 0) (n := 0) (Nat.le_of_ble_eq_true rfl) (Nat.le_of_ble_eq_true rfl) ?_
      refine lv_iconst (v := 1) hx hb dX3_readAtom_78 (by decide) ?_
      have z9_1 : (1 : Int32).toInt = 1 := by decide
      exact te_z hx hb hr hlocks (by rfl) hH hS (⟨n75_0_2, n75_0_3, n75_0_4, n75_0_5, y6, y7, rfl, by decide, by decide, (Or.inr ⟨x_v750, by omega, by omega, (by first | (refine g30.tr (GL_nx (fun _ _ => st_xY x_v360.2.2.1) x_v360.2.1)) | (refine GL_nx (fun _ _ => st_aV ?_) px75; omega) | (refine GL_nx (fun _ _ => st_aV ?_) px109; omega))⟩), Or.inl (by decide), (by omega)⟩) dX3_readAtom_79
  · skip
    have tc9 := f_ne (k := 0) (by decide) c9
    replace x_v60 := x_v60.resolve_left tc9
    clear x_v61
    refine lv_aload_n hx hb dX3_readAtom_12 rfl (lv_at hl 0 rfl) ?_
    refine lv_iload_n hx hb dX3_readAtom_13 rfl (lv_at hl 1 rfl) ?_
    refine tk_i hH hS hA (tr_V (n := 1) (As := [.int x1]) hx hb hml hown hts hkb hH (ox_map hOX rfl) hks hE hS hA (s_LR_enter6 l D cs kf T O X a0 x1 y0 y1 y2 y3 y4 y5 y6 y7 ft t tn tk t_a0 (by omega) (by omega) t_y0 (by omega) (by omega) (by omega) (by omega) (by omega) (by omega) (by omega) htb hto t_tk hU7 (hO.sub (by decide))) kw_636 kw_638 ks_8 kw_4 kw_639 (by decide +kernel) ⟨Nat.le_of_ble_eq_true rfl, Nat.le_of_ble_eq_true rfl⟩ (HT.recv (ci := 3) hkb hH t_a0 (hO.no t_a0 (by decide)) rfl) rfl rfl hl.1 (Nat.le_of_ble_eq_true rfl) dX3_readAtom_14 ⟨Nat.le_of_ble_eq_true rfl, Nat.le_of_ble_eq_true rfl⟩) (fun v14 u H locs hz9 hH hS => ?_)
    obtain ⟨n14_0_6, n14_0_7, rfl, l_v14, u_v14, x_v140, x_v141⟩ := hz9
    have hH : HT D cs A T (tk :: y0 :: O) ((tk, .inr (7, [.ref y0, .int y1, .int y2, .int y3, .int y4, .int y5, .int n14_0_6, .int n14_0_7])) :: (y0, .inl (cs.1, 900, .inl ft)) :: X) H := hH
    refine W.widen (k := 0) (n := 0) (Nat.le_of_ble_eq_true rfl) (Nat.le_of_ble_eq_true rfl) ?_
    refine lv_if_eq (tgt := 46) hx hb dX3_readAtom_17 (by decide) (fun c17 => ?_) (fun c17 => ?_)
    · skip
      have tc17 := f_eq (k := 0) (by decide) c17
      refine lv_iconst (v := 0) hx hb dX3_readAtom_46 (by decide) ?_
      have z9_0 : (0 : Int32).toInt = 0 := by decide
      exact te_z hx hb hr hlocks (by rfl) hH hS (⟨y2, y3, y4, y5, n14_0_6, n14_0_7, rfl, by decide, by decide, Or.inl (by decide), (Or.inr (by first | (refine BL_f (fun _ _ => st_aD ?_) x_v140 (by decide) x_v141 ?_ <;> omega) | (refine g20.bd (BL.cons x_v241)) | (refine g30.bd (BL_f (fun _ _ => st_xN x_v361.1) x_v361.2.1 (by decide) x_v361.2.2 ?_); omega) | (refine BL_f (fun _ _ => st_aN ?_ ?_) x_v950 (by decide) x_v951 ?_ <;> omega))), (by omega)⟩) dX3_readAtom_47
    · skip
      have tc17 := f_ne (k := 0) (by decide) c17
      exfalso; omega
set_option maxHeartbeats 4000000 in
set_option maxRecDepth 100000 in
theorem s_LR_readTerm6 (l : Launch) (D : va_G) (cs : CS) (kf : KF) (T : TF) (O : List Nat) (X : va_W) (a0 : Nat) (x1 : Int32) (y0 : Nat) (y1 : Int32) (y2 : Int32) (y3 : Int32) (y4 : Int32) (y5 : Int32) (y6 : Int32) (y7 : Int32) (ft : Nat → Int32) (t : Tp) (tn : Nat) (tk : Nat) (t_a0 : T a0 = some (13, 0, 0)) (l_x1 : 6 ≤ x1.toInt) (u_x1 : x1.toInt ≤ 6) (t_y0 : T y0 = some (0, 900, 0)) (l_y1 : 0 ≤ y1.toInt) (u_y1 : y1.toInt ≤ 900) (l_y2 : 0 ≤ y2.toInt) (u_y2 : y2.toInt ≤ 900) (l_y3 : 0 ≤ y3.toInt) (u_y3 : y3.toInt ≤ 900) (hn : y1.toInt = (tn : Int)) (htb : TB ft t) (hto : TSS t tn y2 y3 y4 y5) (t_tk : T tk = some (17, 0, 0)) (hU7 : ∀ (b : Nat) (q : Nat), T b = some (17, 0, q) → b = tk) (hz : y6.toInt = 0) (hO : okO T (tk :: y0 :: O) [1, 13]) : TK l D cs kf yX3_readTerm cX3_readTerm 4 (some (.boolean)) { frames := 7, cells := 0, slots := 0, locals := 149 } [.ref a0, .int x1] T (tk :: y0 :: O) ((tk, .inr (7, [.ref y0, .int y1, .int y2, .int y3, .int y4, .int y5, .int y6, .int y7])) :: (y0, .inl (cs.1, 900, .inl ft)) :: X) (Ti D cs (fun r u => ∃ (n0_2 : Int32) (n0_3 : Int32) (n0_4 : Int32) (n0_5 : Int32) (n0_6 : Int32) (n0_7 : Int32), u = (T, tk :: y0 :: O, (tk, .inr (7, [.ref y0, .int y1, .int n0_2, .int n0_3, .int n0_4, .int n0_5, .int n0_6, .int n0_7])) :: (y0, .inl (cs.1, 900, .inl ft)) :: X) ∧ 0 ≤ r.toInt ∧ r.toInt ≤ 1 ∧ (r.toInt = 0 ∨ (TSS t tn n0_2 n0_3 n0_4 n0_5 ∧ n0_6.toInt = 0 ∧ n0_7.toInt = y7.toInt ∧ GL t tn [(1, 6)] [] y2 n0_2)) ∧ (r.toInt ≠ 0 ∨ BL t tn [(1, 6)] y2 n0_6 n0_7) ∧ (y2.toInt ≤ n0_2.toInt ∧ n0_2.toInt ≤ n0_3.toInt ∧ n0_3.toInt ≤ y1.toInt))) := by
  refine tk_of (by decide) (Nat.le_of_ble_eq_true rfl) (fun p e s m below meth c ls A H locs hx hb hr hml hown hts hlocks hnm hkb hH hS hA hOX hks hE hl => ?_)
  have hown : s.vm.findClass RX3 = some m.cls := hown
  have hl : lv_has ls 4 [(0, .ref a0), (1, .int x1)] := hl
  have hOXf := hOX
  have hb9 := hto.b
  have hc9 := hto.cs
  refine lv_aload_n hx hb dX3_readTerm_0 rfl (lv_at hl 0 rfl) ?_
  refine lv_iload_n hx hb dX3_readTerm_1 rfl (lv_at hl 1 rfl) ?_
  refine tk_i hH hS hA (tr_V (n := 1) (As := [.int x1]) hx hb hml hown hts hkb hH (ox_map hOX rfl) hks hE hS hA (s_LR_readAtom6 l D cs kf T O X a0 x1 y0 y1 y2 y3 y4 y5 y6 y7 ft t tn tk t_a0 (by omega) (by omega) t_y0 (by omega) (by omega) (by omega) (by omega) (by omega) (by omega) (by omega) htb hto t_tk hU7 (by omega) (hO.sub (by decide))) kw_656 kw_658 ks_12 kw_4 kw_659 (by decide +kernel) ⟨Nat.le_of_ble_eq_true rfl, Nat.le_of_ble_eq_true rfl⟩ (HT.recv (ci := 3) hkb hH t_a0 (hO.no t_a0 (by decide)) rfl) rfl rfl hl.1 (Nat.le_of_ble_eq_true rfl) dX3_readTerm_2 ⟨Nat.le_of_ble_eq_true rfl, Nat.le_of_ble_eq_true rfl⟩) (fun v2 u H locs hz9 hH hS => ?_)
  obtain ⟨n2_0_2, n2_0_3, n2_0_4, n2_0_5, n2_0_6, n2_0_7, rfl, l_v2, u_v2, x_v20, x_v21, x_v22⟩ := hz9
  have hH : HT D cs A T (tk :: y0 :: O) ((tk, .inr (7, [.ref y0, .int y1, .int n2_0_2, .int n2_0_3, .int n2_0_4, .int n2_0_5, .int n2_0_6, .int n2_0_7])) :: (y0, .inl (cs.1, 900, .inl ft)) :: X) H := hH
  refine W.widen (k := 0) (n := 0) (Nat.le_of_ble_eq_true rfl) (Nat.le_of_ble_eq_true rfl) ?_
  refine lv_istore_n (lv' := [(2, .int v2), (0, .ref a0), (1, .int x1)]) hx hb dX3_readTerm_5 rfl hl (by decide) rfl (fun ls hl => ?_)
  refine lv_iconst (v := 0) hx hb dX3_readTerm_6 (by decide) ?_
  have J8 : ∀ (n : Nat) (p8_3 : Int32) (p8_2 : Int32) (f8_102 : Int32) (f8_103 : Int32) (f8_104 : Int32) (f8_105 : Int32) (f8_106 : Int32) (f8_107 : Int32) (H : Heap) (locs : List Loc) (ls : Array Slot), (900 - p8_3.toInt).toNat = n → (0 ≤ p8_3.toInt) → (p8_3.toInt ≤ 900) → (0 ≤ p8_2.toInt) → (p8_2.toInt ≤ 1) → (0 ≤ f8_102.toInt) → (f8_102.toInt ≤ 900) → (0 ≤ f8_103.toInt) → (f8_103.toInt ≤ 900) → (LTI t tn [(1, 6)] [(2, 6)] y2 p8_2 f8_102 f8_103 f8_104 f8_105 f8_106 f8_107 y7) → (y2.toInt ≤ f8_102.toInt ∧ f8_102.toInt ≤ f8_103.toInt ∧ f8_103.toInt ≤ y1.toInt) → (p8_2.toInt = 0 ∨ p8_3.toInt ≤ f8_102.toInt) → HT D cs A T (tk :: y0 :: O) ((tk, .inr (7, [.ref y0, .int y1, .int f8_102, .int f8_103, .int f8_104, .int f8_105, .int f8_106, .int f8_107])) :: (y0, .inl (cs.1, 900, .inl ft)) :: X) H → va_S A s.heap H locs → lv_has ls 4 [(3, .int p8_3), (2, .int p8_2), (0, .ref a0), (1, .int x1)] → W p l e { frames := 7, cells := 0, slots := 0, locals := 149 } s m [.ref a0, .int x1].toArray below meth c H locs 0 0 (MQ below (Ti D cs (fun r u => ∃ (n0_2 : Int32) (n0_3 : Int32) (n0_4 : Int32) (n0_5 : Int32) (n0_6 : Int32) (n0_7 : Int32), u = (T, tk :: y0 :: O, (tk, .inr (7, [.ref y0, .int y1, .int n0_2, .int n0_3, .int n0_4, .int n0_5, .int n0_6, .int n0_7])) :: (y0, .inl (cs.1, 900, .inl ft)) :: X) ∧ 0 ≤ r.toInt ∧ r.toInt ≤ 1 ∧ (r.toInt = 0 ∨ (TSS t tn n0_2 n0_3 n0_4 n0_5 ∧ n0_6.toInt = 0 ∧ n0_7.toInt = y7.toInt ∧ GL t tn [(1, 6)] [] y2 n0_2)) ∧ (r.toInt ≠ 0 ∨ BL t tn [(1, 6)] y2 n0_6 n0_7) ∧ (y2.toInt ≤ n0_2.toInt ∧ n0_2.toInt ≤ n0_3.toInt ∧ n0_3.toInt ≤ y1.toInt)) A) [.ref a0, .int x1].toArray s 0 0 A) (F0 m 8 ls []) := by
    intro n
    induction n using Nat.strongRecOn with
    | _ n ih8 =>
      intro p8_3 p8_2 f8_102 f8_103 f8_104 f8_105 f8_106 f8_107 H locs ls hm8 l_p8_3 u_p8_3 l_p8_2 u_p8_2 l_f8_102 u_f8_102 l_f8_103 u_f8_103 i8t i8n i8c hH hS hl
      refine lv_iload_n hx hb dX3_readTerm_8 rfl (lv_at hl 0 rfl) ?_
      refine lv_sipush (v := 900) hx hb dX3_readTerm_9 (by decide) ?_
      refine lv_icmp_ge (tgt := 57) hx hb dX3_readTerm_12 (by decide) (fun c12 => ?_) (fun c12 => ?_)
      · skip
        have tc12 := f_ge (k := 900) (by decide) c12
        have hk9 : p8_2.toInt = 0 ∨ GL t tn [(2, 6)] [] f8_102 f8_102 := by first | (refine Or.inl ?_; omega) | exact Or.inr (fun _ _ => st_tN x_v251) | (by_cases q9 : p8_2.toInt = 0; exact Or.inl q9; refine Or.inr (fun _ _ => st_tN ?_); have q8 := LTI.ok i8t q9; have q7 := q8.1.b; rw [kd_end (by omega)]; decide)
        have hz9 := LTI.en i8t hk9
        refine lv_iload_n hx hb dX3_readTerm_57 rfl (lv_at hl 1 rfl) ?_
        exact te_z hx hb hr hlocks (nar01 (by omega) (by omega)) hH hS (⟨f8_102, f8_103, f8_104, f8_105, f8_106, f8_107, rfl, by omega, by omega, hz9.1, hz9.2, (by omega)⟩) dX3_readTerm_58
      · skip
        have tc12 := f_nge (k := 900) (by decide) c12
        refine lv_iload_n hx hb dX3_readTerm_15 rfl (lv_at hl 1 rfl) ?_
        refine lv_if_eq (tgt := 57) hx hb dX3_readTerm_16 (by decide) (fun c16 => ?_) (fun c16 => ?_)
        · skip
          have tc16 := f_eq (k := 0) (by decide) c16
          have hk9 : p8_2.toInt = 0 ∨ GL t tn [(2, 6)] [] f8_102 f8_102 := by first | (refine Or.inl ?_; omega) | exact Or.inr (fun _ _ => st_tN x_v251) | (by_cases q9 : p8_2.toInt = 0; exact Or.inl q9; refine Or.inr (fun _ _ => st_tN ?_); have q8 := LTI.ok i8t q9; have q7 := q8.1.b; rw [kd_end (by omega)]; decide)
          have hz9 := LTI.en i8t hk9
          refine lv_iload_n hx hb dX3_readTerm_57 rfl (lv_at hl 1 rfl) ?_
          exact te_z hx hb hr hlocks (nar01 (by omega) (by omega)) hH hS (⟨f8_102, f8_103, f8_104, f8_105, f8_106, f8_107, rfl, by omega, by omega, hz9.1, hz9.2, (by omega)⟩) dX3_readTerm_58
        · skip
          have tc16 := f_ne (k := 0) (by decide) c16
          have h19 := LTI.ok i8t (by omega)
          have hb19 := h19.1.b
          have hc19 := h19.1.cs
          refine lv_aload_n hx hb dX3_readTerm_19 rfl (lv_at hl 2 rfl) ?_
          refine t_get (ci := 3) (lst := ft3 0 0) (C := RX3) (F := TX3) (N := 3) hx hb hts uX3 hown hkb hH t_a0 (hO.no t_a0 (by decide)) (fun _ h9 => h9) rfl rfl 0 (by decide) rfl kw_82 (fun _ h9 => h9) dX3_readTerm_20 (fun v9 h9 => ?_)
          obtain ⟨v20, rfl, t_v20⟩ := h9
          have e9 := (hU7 _ _ t_v20).symm
          subst e9
          refine lv_bipush (v := 42) hx hb dX3_readTerm_23 (by decide) ?_
          have z9_42 : (42 : Int32).toInt = 42 := by decide
          refine tk_i hH hS hA (tr_V (n := 1) (As := [.int 42]) hx hb hml hown hts hkb hH (ox_map hOX rfl) hks hE hS hA (s_Tok_isSign l D cs kf T O X tk (42) y0 y1 f8_102 f8_103 f8_104 f8_105 f8_106 f8_107 ft t tn 34 t_tk t_y0 (by omega) (by omega) (by omega) (by omega) (by omega) (by omega) (by omega) htb h19.1 (by decide) (by decide) (hO.sub (by decide))) kw_646 kw_615 kw_616 kw_3 kw_617 (by decide +kernel) ⟨Nat.le_of_ble_eq_true rfl, Nat.le_of_ble_eq_true rfl⟩ (x_recv (ci := 7) hkb hH 0 rfl rfl) rfl rfl hl.1 (Nat.le_of_ble_eq_true rfl) dX3_readTerm_25 ⟨Nat.le_of_ble_eq_true rfl, Nat.le_of_ble_eq_true rfl⟩) (fun v25 u H locs hz9 hH hS => ?_)
          obtain ⟨rfl, l_v25, u_v25, x_v250, x_v251⟩ := hz9
          have hH : HT D cs A T (tk :: y0 :: O) ((tk, .inr (7, [.ref y0, .int y1, .int f8_102, .int f8_103, .int f8_104, .int f8_105, .int f8_106, .int f8_107])) :: (y0, .inl (cs.1, 900, .inl ft)) :: X) H := hH
          refine W.widen (k := 0) (n := 0) (Nat.le_of_ble_eq_true rfl) (Nat.le_of_ble_eq_true rfl) ?_
          refine lv_if_eq (tgt := 57) hx hb dX3_readTerm_28 (by decide) (fun c28 => ?_) (fun c28 => ?_)
          · skip
            have tc28 := f_eq (k := 0) (by decide) c28
            clear x_v250
            replace x_v251 := x_v251.resolve_left (fun q9 => q9 tc28)
            have hk9 : p8_2.toInt = 0 ∨ GL t tn [(2, 6)] [] f8_102 f8_102 := by first | (refine Or.inl ?_; omega) | exact Or.inr (fun _ _ => st_tN x_v251) | (by_cases q9 : p8_2.toInt = 0; exact Or.inl q9; refine Or.inr (fun _ _ => st_tN ?_); have q8 := LTI.ok i8t q9; have q7 := q8.1.b; rw [kd_end (by omega)]; decide)
            have hz9 := LTI.en i8t hk9
            refine lv_iload_n hx hb dX3_readTerm_57 rfl (lv_at hl 1 rfl) ?_
            exact te_z hx hb hr hlocks (nar01 (by omega) (by omega)) hH hS (⟨f8_102, f8_103, f8_104, f8_105, f8_106, f8_107, rfl, by omega, by omega, hz9.1, hz9.2, (by omega)⟩) dX3_readTerm_58
          · skip
            have tc28 := f_ne (k := 0) (by decide) c28
            replace x_v250 := x_v250.resolve_left tc28
            clear x_v251
            refine lv_aload_n hx hb dX3_readTerm_31 rfl (lv_at hl 2 rfl) ?_
            refine t_get (ci := 3) (lst := ft3 0 0) (C := RX3) (F := TX3) (N := 3) hx hb hts uX3 hown hkb hH t_a0 (hO.no t_a0 (by decide)) (fun _ h9 => h9) rfl rfl 0 (by decide) rfl kw_82 (fun _ h9 => h9) dX3_readTerm_32 (fun v9 h9 => ?_)
            obtain ⟨v32, rfl, t_v32⟩ := h9
            have e9 := (hU7 _ _ t_v32).symm
            subst e9
            have hl9 := h19.1.lt (by omega)
            refine tk_v hH hS hA (tr_V (n := 0) (As := []) hx hb hml hown hts hkb hH (ox_map hOX rfl) hks hE hS hA (s_Tok_go l D cs kf T O X tk y0 y1 f8_102 f8_103 f8_104 f8_105 f8_106 f8_107 ft t tn t_tk t_y0 (by omega) (by omega) (by omega) (by omega) (by omega) (by omega) (by omega) htb (by have q9 := (h19.1).b; omega) (hO.sub (by decide))) kw_641 kw_453 kw_454 kw_3 kw_455 (by decide +kernel) ⟨Nat.le_of_ble_eq_true rfl, Nat.le_of_ble_eq_true rfl⟩ (x_recv (ci := 7) hkb hH 0 rfl rfl) rfl rfl hl.1 (Nat.le_of_ble_eq_true rfl) dX3_readTerm_35 ⟨Nat.le_of_ble_eq_true rfl, Nat.le_of_ble_eq_true rfl⟩) (fun u H locs hz9 hH hS => ?_)
            obtain ⟨n35_0_2, n35_0_3, n35_0_4, n35_0_5, rfl, x_v350, x_v351, x_v352⟩ := hz9
            have px35 := TSS.nx h19.1 x_v351
            have hH : HT D cs A T (tk :: y0 :: O) ((tk, .inr (7, [.ref y0, .int y1, .int n35_0_2, .int n35_0_3, .int n35_0_4, .int n35_0_5, .int f8_106, .int f8_107])) :: (y0, .inl (cs.1, 900, .inl ft)) :: X) H := hH
            refine W.widen (k := 0) (n := 0) (Nat.le_of_ble_eq_true rfl) (Nat.le_of_ble_eq_true rfl) ?_
            refine lv_aload_n hx hb dX3_readTerm_38 rfl (lv_at hl 2 rfl) ?_
            refine lv_iload_n hx hb dX3_readTerm_39 rfl (lv_at hl 3 rfl) ?_
            refine tk_i hH hS hA (tr_V (n := 1) (As := [.int x1]) hx hb hml hown hts hkb hH (ox_map hOX rfl) hks hE hS hA (s_LR_readAtom6 l D cs kf T O X a0 x1 y0 y1 n35_0_2 n35_0_3 n35_0_4 n35_0_5 f8_106 f8_107 ft t tn tk t_a0 (by omega) (by omega) t_y0 (by omega) (by omega) (by omega) (by omega) (by omega) (by omega) (by omega) htb x_v350 t_tk hU7 (by omega) (hO.sub (by decide))) kw_656 kw_658 ks_12 kw_4 kw_659 (by decide +kernel) ⟨Nat.le_of_ble_eq_true rfl, Nat.le_of_ble_eq_true rfl⟩ (HT.recv (ci := 3) hkb hH t_a0 (hO.no t_a0 (by decide)) rfl) rfl rfl hl.1 (Nat.le_of_ble_eq_true rfl) dX3_readTerm_40 ⟨Nat.le_of_ble_eq_true rfl, Nat.le_of_ble_eq_true rfl⟩) (fun v40 u H locs hz9 hH hS => ?_)
            obtain ⟨n40_0_2, n40_0_3, n40_0_4, n40_0_5, n40_0_6, n40_0_7, rfl, l_v40, u_v40, x_v400, x_v401, x_v402⟩ := hz9
            have hH : HT D cs A T (tk :: y0 :: O) ((tk, .inr (7, [.ref y0, .int y1, .int n40_0_2, .int n40_0_3, .int n40_0_4, .int n40_0_5, .int n40_0_6, .int n40_0_7])) :: (y0, .inl (cs.1, 900, .inl ft)) :: X) H := hH
            refine W.widen (k := 0) (n := 0) (Nat.le_of_ble_eq_true rfl) (Nat.le_of_ble_eq_true rfl) ?_
            refine lv_istore_n (lv' := [(2, .int v40), (3, .int p8_3), (0, .ref a0), (1, .int x1)]) hx hb dX3_readTerm_43 rfl hl (by decide) rfl (fun ls hl => ?_)
            refine lv_aload_n hx hb dX3_readTerm_44 rfl (lv_at hl 2 rfl) ?_
            refine lv_bipush (v := 7) hx hb dX3_readTerm_45 (by decide) ?_
            refine lv_iconst (v := 0) hx hb dX3_readTerm_47 (by decide) ?_
            refine tk_v hH hS hA (tr_V (n := 2) (As := [.int 7, .int 0]) hx hb hml hown hts hkb hH (ox_map hOX rfl) hks hE hS hA (s_LR_put l D cs kf T (tk :: y0 :: O) ((tk, .inr (7, [.ref y0, .int y1, .int n40_0_2, .int n40_0_3, .int n40_0_4, .int n40_0_5, .int n40_0_6, .int n40_0_7])) :: (y0, .inl (cs.1, 900, .inl ft)) :: X) a0 (7) (0) t_a0 (hO.sub (by decide))) kw_642 kw_644 ks_9 kw_4 kw_645 (by decide +kernel) ⟨Nat.le_of_ble_eq_true rfl, Nat.le_of_ble_eq_true rfl⟩ (HT.recv (ci := 3) hkb hH t_a0 (hO.no t_a0 (by decide)) rfl) rfl rfl hl.1 (Nat.le_of_ble_eq_true rfl) dX3_readTerm_48 ⟨Nat.le_of_ble_eq_true rfl, Nat.le_of_ble_eq_true rfl⟩) (fun u H locs hz9 hH hS => ?_)
            have hz9 : u = (T, tk :: y0 :: O, (tk, .inr (7, [.ref y0, .int y1, .int n40_0_2, .int n40_0_3, .int n40_0_4, .int n40_0_5, .int n40_0_6, .int n40_0_7])) :: (y0, .inl (cs.1, 900, .inl ft)) :: X) := hz9
            subst hz9
            have hH : HT D cs A T (tk :: y0 :: O) ((tk, .inr (7, [.ref y0, .int y1, .int n40_0_2, .int n40_0_3, .int n40_0_4, .int n40_0_5, .int n40_0_6, .int n40_0_7])) :: (y0, .inl (cs.1, 900, .inl ft)) :: X) H := hH
            refine W.widen (k := 0) (n := 0) (Nat.le_of_ble_eq_true rfl) (Nat.le_of_ble_eq_true rfl) ?_
            obtain ⟨v51, ev51⟩ : ∃ y : Int32, y = p8_3 + 1 := ⟨_, rfl⟩
            have tv51 : v51.toInt = p8_3.toInt + (1) := by rw [ev51]; exact add_i rfl (by decide) (by omega) (by omega)
            refine lv_iinc (v := v51) (lv' := [(3, .int v51), (2, .int v40), (0, .ref a0), (1, .int x1)]) hx hb dX3_readTerm_51 hl (k := 1) rfl (by rw [ev51]; rfl) (by decide) rfl (fun ls hl => ?_)
            refine lv_goto (tgt := 8) hx hb dX3_readTerm_54 (by decide) ?_
            exact ih8 _ (by omega) v51 v40 n40_0_2 n40_0_3 n40_0_4 n40_0_5 n40_0_6 n40_0_7 _ _ _ rfl (by omega) (by omega) (by omega) (by omega) (by omega) (by omega) (by omega) (by omega) (by first | (refine LTI.st (fun _ _ => st_t) x_v20 x_v21 l_v2 u_v2 rfl) | (refine LTI.st (h19.2.2.2.tr (GL_nx (fun _ _ => st_tY x_v250) px35)) x_v400 x_v401 l_v40 u_v40 ?_; omega)) (by omega) (by omega) hH hS (lv_sub hl [0, 1, 2, 3] rfl)
  refine lv_istore_n (lv' := [(3, .int 0), (2, .int v2), (0, .ref a0), (1, .int x1)]) hx hb dX3_readTerm_7 rfl hl (by decide) rfl (fun ls hl => ?_)
  have z_0 : (0 : Int32).toInt = 0 := by decide
  exact J8 _ 0 v2 n2_0_2 n2_0_3 n2_0_4 n2_0_5 n2_0_6 n2_0_7 _ _ _ rfl (by decide) (by decide) (by omega) (by omega) (by omega) (by omega) (by omega) (by omega) (by first | (refine LTI.st (fun _ _ => st_t) x_v20 x_v21 l_v2 u_v2 rfl) | (refine LTI.st (h19.2.2.2.tr (GL_nx (fun _ _ => st_tY x_v250) px35)) x_v400 x_v401 l_v40 u_v40 ?_; omega)) (by omega) (by omega) hH hS (lv_sub hl [0, 1, 2, 3] rfl)
set_option maxHeartbeats 4000000 in
set_option maxRecDepth 100000 in
theorem s_LR_readSum6 (l : Launch) (D : va_G) (cs : CS) (kf : KF) (T : TF) (O : List Nat) (X : va_W) (a0 : Nat) (x1 : Int32) (y0 : Nat) (y1 : Int32) (y2 : Int32) (y3 : Int32) (y4 : Int32) (y5 : Int32) (y6 : Int32) (y7 : Int32) (ft : Nat → Int32) (t : Tp) (tn : Nat) (tk : Nat) (t_a0 : T a0 = some (13, 0, 0)) (l_x1 : 6 ≤ x1.toInt) (u_x1 : x1.toInt ≤ 6) (t_y0 : T y0 = some (0, 900, 0)) (l_y1 : 0 ≤ y1.toInt) (u_y1 : y1.toInt ≤ 900) (l_y2 : 0 ≤ y2.toInt) (u_y2 : y2.toInt ≤ 900) (l_y3 : 0 ≤ y3.toInt) (u_y3 : y3.toInt ≤ 900) (hn : y1.toInt = (tn : Int)) (htb : TB ft t) (hto : TSS t tn y2 y3 y4 y5) (t_tk : T tk = some (17, 0, 0)) (hU7 : ∀ (b : Nat) (q : Nat), T b = some (17, 0, q) → b = tk) (hz : y6.toInt = 0) (hO : okO T (tk :: y0 :: O) [1, 13]) : TK l D cs kf yX3_readSum cX3_readSum 5 (some (.boolean)) { frames := 8, cells := 0, slots := 0, locals := 172 } [.ref a0, .int x1] T (tk :: y0 :: O) ((tk, .inr (7, [.ref y0, .int y1, .int y2, .int y3, .int y4, .int y5, .int y6, .int y7])) :: (y0, .inl (cs.1, 900, .inl ft)) :: X) (Ti D cs (fun r u => ∃ (n0_2 : Int32) (n0_3 : Int32) (n0_4 : Int32) (n0_5 : Int32) (n0_6 : Int32) (n0_7 : Int32), u = (T, tk :: y0 :: O, (tk, .inr (7, [.ref y0, .int y1, .int n0_2, .int n0_3, .int n0_4, .int n0_5, .int n0_6, .int n0_7])) :: (y0, .inl (cs.1, 900, .inl ft)) :: X) ∧ 0 ≤ r.toInt ∧ r.toInt ≤ 1 ∧ (r.toInt = 0 ∨ (TSS t tn n0_2 n0_3 n0_4 n0_5 ∧ n0_6.toInt = 0 ∧ n0_7.toInt = y7.toInt ∧ GL t tn [(3, 6)] [] y2 n0_2)) ∧ (r.toInt ≠ 0 ∨ BL t tn [(3, 6)] y2 n0_6 n0_7) ∧ (y2.toInt ≤ n0_2.toInt ∧ n0_2.toInt ≤ n0_3.toInt ∧ n0_3.toInt ≤ y1.toInt))) := by
  refine tk_of (by decide) (Nat.le_of_ble_eq_true rfl) (fun p e s m below meth c ls A H locs hx hb hr hml hown hts hlocks hnm hkb hH hS hA hOX hks hE hl => ?_)
  have hown : s.vm.findClass RX3 = some m.cls := hown
  have hl : lv_has ls 5 [(0, .ref a0), (1, .int x1)] := hl
  have hOXf := hOX
  have hb9 := hto.b
  have hc9 := hto.cs
  refine lv_aload_n hx hb dX3_readSum_0 rfl (lv_at hl 0 rfl) ?_
  refine lv_iload_n hx hb dX3_readSum_1 rfl (lv_at hl 1 rfl) ?_
  refine tk_i hH hS hA (tr_V (n := 1) (As := [.int x1]) hx hb hml hown hts hkb hH (ox_map hOX rfl) hks hE hS hA (s_LR_readTerm6 l D cs kf T O X a0 x1 y0 y1 y2 y3 y4 y5 y6 y7 ft t tn tk t_a0 (by omega) (by omega) t_y0 (by omega) (by omega) (by omega) (by omega) (by omega) (by omega) (by omega) htb hto t_tk hU7 (by omega) (hO.sub (by decide))) kw_652 kw_654 ks_11 kw_4 kw_655 (by decide +kernel) ⟨Nat.le_of_ble_eq_true rfl, Nat.le_of_ble_eq_true rfl⟩ (HT.recv (ci := 3) hkb hH t_a0 (hO.no t_a0 (by decide)) rfl) rfl rfl hl.1 (Nat.le_of_ble_eq_true rfl) dX3_readSum_2 ⟨Nat.le_of_ble_eq_true rfl, Nat.le_of_ble_eq_true rfl⟩) (fun v2 u H locs hz9 hH hS => ?_)
  obtain ⟨n2_0_2, n2_0_3, n2_0_4, n2_0_5, n2_0_6, n2_0_7, rfl, l_v2, u_v2, x_v20, x_v21, x_v22⟩ := hz9
  have hH : HT D cs A T (tk :: y0 :: O) ((tk, .inr (7, [.ref y0, .int y1, .int n2_0_2, .int n2_0_3, .int n2_0_4, .int n2_0_5, .int n2_0_6, .int n2_0_7])) :: (y0, .inl (cs.1, 900, .inl ft)) :: X) H := hH
  refine W.widen (k := 0) (n := 0) (Nat.le_of_ble_eq_true rfl) (Nat.le_of_ble_eq_true rfl) ?_
  refine lv_istore_n (lv' := [(2, .int v2), (0, .ref a0), (1, .int x1)]) hx hb dX3_readSum_5 rfl hl (by decide) rfl (fun ls hl => ?_)
  refine lv_iconst (v := 0) hx hb dX3_readSum_6 (by decide) ?_
  have J8 : ∀ (n : Nat) (p8_3 : Int32) (p8_2 : Int32) (f8_102 : Int32) (f8_103 : Int32) (f8_104 : Int32) (f8_105 : Int32) (f8_106 : Int32) (f8_107 : Int32) (H : Heap) (locs : List Loc) (ls : Array Slot), (900 - p8_3.toInt).toNat = n → (0 ≤ p8_3.toInt) → (p8_3.toInt ≤ 900) → (0 ≤ p8_2.toInt) → (p8_2.toInt ≤ 1) → (0 ≤ f8_102.toInt) → (f8_102.toInt ≤ 900) → (0 ≤ f8_103.toInt) → (f8_103.toInt ≤ 900) → (LTI t tn [(3, 6)] [(4, 6)] y2 p8_2 f8_102 f8_103 f8_104 f8_105 f8_106 f8_107 y7) → (y2.toInt ≤ f8_102.toInt ∧ f8_102.toInt ≤ f8_103.toInt ∧ f8_103.toInt ≤ y1.toInt) → (p8_2.toInt = 0 ∨ p8_3.toInt ≤ f8_102.toInt) → HT D cs A T (tk :: y0 :: O) ((tk, .inr (7, [.ref y0, .int y1, .int f8_102, .int f8_103, .int f8_104, .int f8_105, .int f8_106, .int f8_107])) :: (y0, .inl (cs.1, 900, .inl ft)) :: X) H → va_S A s.heap H locs → lv_has ls 5 [(3, .int p8_3), (2, .int p8_2), (0, .ref a0), (1, .int x1)] → W p l e { frames := 8, cells := 0, slots := 0, locals := 172 } s m [.ref a0, .int x1].toArray below meth c H locs 0 0 (MQ below (Ti D cs (fun r u => ∃ (n0_2 : Int32) (n0_3 : Int32) (n0_4 : Int32) (n0_5 : Int32) (n0_6 : Int32) (n0_7 : Int32), u = (T, tk :: y0 :: O, (tk, .inr (7, [.ref y0, .int y1, .int n0_2, .int n0_3, .int n0_4, .int n0_5, .int n0_6, .int n0_7])) :: (y0, .inl (cs.1, 900, .inl ft)) :: X) ∧ 0 ≤ r.toInt ∧ r.toInt ≤ 1 ∧ (r.toInt = 0 ∨ (TSS t tn n0_2 n0_3 n0_4 n0_5 ∧ n0_6.toInt = 0 ∧ n0_7.toInt = y7.toInt ∧ GL t tn [(3, 6)] [] y2 n0_2)) ∧ (r.toInt ≠ 0 ∨ BL t tn [(3, 6)] y2 n0_6 n0_7) ∧ (y2.toInt ≤ n0_2.toInt ∧ n0_2.toInt ≤ n0_3.toInt ∧ n0_3.toInt ≤ y1.toInt)) A) [.ref a0, .int x1].toArray s 0 0 A) (F0 m 8 ls []) := by
    intro n
    induction n using Nat.strongRecOn with
    | _ n ih8 =>
      intro p8_3 p8_2 f8_102 f8_103 f8_104 f8_105 f8_106 f8_107 H locs ls hm8 l_p8_3 u_p8_3 l_p8_2 u_p8_2 l_f8_102 u_f8_102 l_f8_103 u_f8_103 i8t i8n i8c hH hS hl
      refine lv_iload_n hx hb dX3_readSum_8 rfl (lv_at hl 0 rfl) ?_
      refine lv_sipush (v := 900) hx hb dX3_readSum_9 (by decide) ?_
      refine lv_icmp_ge (tgt := 89) hx hb dX3_readSum_12 (by decide) (fun c12 => ?_) (fun c12 => ?_)
      · skip
        have tc12 := f_ge (k := 900) (by decide) c12
        have hk9 : p8_2.toInt = 0 ∨ GL t tn [(4, 6)] [] f8_102 f8_102 := by first | (refine Or.inl ?_; omega) | exact Or.inr (fun _ _ => st_sN (by omega)) | (by_cases q9 : p8_2.toInt = 0; exact Or.inl q9; refine Or.inr (fun _ _ => st_sN ?_); have q8 := LTI.ok i8t q9; have q7 := q8.1.b; rw [kd_end (by omega)]; decide)
        have hz9 := LTI.en i8t hk9
        refine lv_iload_n hx hb dX3_readSum_89 rfl (lv_at hl 1 rfl) ?_
        exact te_z hx hb hr hlocks (nar01 (by omega) (by omega)) hH hS (⟨f8_102, f8_103, f8_104, f8_105, f8_106, f8_107, rfl, by omega, by omega, hz9.1, hz9.2, (by omega)⟩) dX3_readSum_90
      · skip
        have tc12 := f_nge (k := 900) (by decide) c12
        refine lv_iload_n hx hb dX3_readSum_15 rfl (lv_at hl 1 rfl) ?_
        refine lv_if_eq (tgt := 89) hx hb dX3_readSum_16 (by decide) (fun c16 => ?_) (fun c16 => ?_)
        · skip
          have tc16 := f_eq (k := 0) (by decide) c16
          have hk9 : p8_2.toInt = 0 ∨ GL t tn [(4, 6)] [] f8_102 f8_102 := by first | (refine Or.inl ?_; omega) | exact Or.inr (fun _ _ => st_sN (by omega)) | (by_cases q9 : p8_2.toInt = 0; exact Or.inl q9; refine Or.inr (fun _ _ => st_sN ?_); have q8 := LTI.ok i8t q9; have q7 := q8.1.b; rw [kd_end (by omega)]; decide)
          have hz9 := LTI.en i8t hk9
          refine lv_iload_n hx hb dX3_readSum_89 rfl (lv_at hl 1 rfl) ?_
          exact te_z hx hb hr hlocks (nar01 (by omega) (by omega)) hH hS (⟨f8_102, f8_103, f8_104, f8_105, f8_106, f8_107, rfl, by omega, by omega, hz9.1, hz9.2, (by omega)⟩) dX3_readSum_90
        · skip
          have tc16 := f_ne (k := 0) (by decide) c16
          have h19 := LTI.ok i8t (by omega)
          have hb19 := h19.1.b
          have hc19 := h19.1.cs
          refine lv_aload_n hx hb dX3_readSum_19 rfl (lv_at hl 2 rfl) ?_
          refine t_get (ci := 3) (lst := ft3 0 0) (C := RX3) (F := TX3) (N := 3) hx hb hts uX3 hown hkb hH t_a0 (hO.no t_a0 (by decide)) (fun _ h9 => h9) rfl rfl 0 (by decide) rfl kw_82 (fun _ h9 => h9) dX3_readSum_20 (fun v9 h9 => ?_)
          obtain ⟨v20, rfl, t_v20⟩ := h9
          have e9 := (hU7 _ _ t_v20).symm
          subst e9
          refine lv_bipush (v := 43) hx hb dX3_readSum_23 (by decide) ?_
          have z9_43 : (43 : Int32).toInt = 43 := by decide
          refine tk_i hH hS hA (tr_V (n := 1) (As := [.int 43]) hx hb hml hown hts hkb hH (ox_map hOX rfl) hks hE hS hA (s_Tok_isSign l D cs kf T O X tk (43) y0 y1 f8_102 f8_103 f8_104 f8_105 f8_106 f8_107 ft t tn 32 t_tk t_y0 (by omega) (by omega) (by omega) (by omega) (by omega) (by omega) (by omega) htb h19.1 (by decide) (by decide) (hO.sub (by decide))) kw_646 kw_615 kw_616 kw_3 kw_617 (by decide +kernel) ⟨Nat.le_of_ble_eq_true rfl, Nat.le_of_ble_eq_true rfl⟩ (x_recv (ci := 7) hkb hH 0 rfl rfl) rfl rfl hl.1 (Nat.le_of_ble_eq_true rfl) dX3_readSum_25 ⟨Nat.le_of_ble_eq_true rfl, Nat.le_of_ble_eq_true rfl⟩) (fun v25 u H locs hz9 hH hS => ?_)
          obtain ⟨rfl, l_v25, u_v25, x_v250, x_v251⟩ := hz9
          have hH : HT D cs A T (tk :: y0 :: O) ((tk, .inr (7, [.ref y0, .int y1, .int f8_102, .int f8_103, .int f8_104, .int f8_105, .int f8_106, .int f8_107])) :: (y0, .inl (cs.1, 900, .inl ft)) :: X) H := hH
          refine W.widen (k := 0) (n := 0) (Nat.le_of_ble_eq_true rfl) (Nat.le_of_ble_eq_true rfl) ?_
          refine lv_if_ne (tgt := 43) hx hb dX3_readSum_28 (by decide) (fun c28 => ?_) (fun c28 => ?_)
          · skip
            have tc28 := f_ne (k := 0) (by decide) c28
            replace x_v250 := x_v250.resolve_left tc28
            clear x_v251
            refine lv_aload_n hx hb dX3_readSum_43 rfl (lv_at hl 2 rfl) ?_
            refine t_get (ci := 3) (lst := ft3 0 0) (C := RX3) (F := TX3) (N := 3) hx hb hts uX3 hown hkb hH t_a0 (hO.no t_a0 (by decide)) (fun _ h9 => h9) rfl rfl 0 (by decide) rfl kw_82 (fun _ h9 => h9) dX3_readSum_44 (fun v9 h9 => ?_)
            obtain ⟨v44, rfl, t_v44⟩ := h9
            have e9 := (hU7 _ _ t_v44).symm
            subst e9
            refine lv_bipush (v := 43) hx hb dX3_readSum_47 (by decide) ?_
            have z9_43 : (43 : Int32).toInt = 43 := by decide
            refine tk_i hH hS hA (tr_V (n := 1) (As := [.int 43]) hx hb hml hown hts hkb hH (ox_map hOX rfl) hks hE hS hA (s_Tok_isSign l D cs kf T O X tk (43) y0 y1 f8_102 f8_103 f8_104 f8_105 f8_106 f8_107 ft t tn 32 t_tk t_y0 (by omega) (by omega) (by omega) (by omega) (by omega) (by omega) (by omega) htb h19.1 (by decide) (by decide) (hO.sub (by decide))) kw_646 kw_615 kw_616 kw_3 kw_617 (by decide +kernel) ⟨Nat.le_of_ble_eq_true rfl, Nat.le_of_ble_eq_true rfl⟩ (x_recv (ci := 7) hkb hH 0 rfl rfl) rfl rfl hl.1 (Nat.le_of_ble_eq_true rfl) dX3_readSum_49 ⟨Nat.le_of_ble_eq_true rfl, Nat.le_of_ble_eq_true rfl⟩) (fun v49 u H locs hz9 hH hS => ?_)
            obtain ⟨rfl, l_v49, u_v49, x_v490, x_v491⟩ := hz9
            have hH : HT D cs A T (tk :: y0 :: O) ((tk, .inr (7, [.ref y0, .int y1, .int f8_102, .int f8_103, .int f8_104, .int f8_105, .int f8_106, .int f8_107])) :: (y0, .inl (cs.1, 900, .inl ft)) :: X) H := hH
            refine W.widen (k := 0) (n := 0) (Nat.le_of_ble_eq_true rfl) (Nat.le_of_ble_eq_true rfl) ?_
            refine lv_if_eq (tgt := 59) hx hb dX3_readSum_52 (by decide) (fun c52 => ?_) (fun c52 => ?_)
            · skip
              have tc52 := f_eq (k := 0) (by decide) c52
              clear x_v490
              replace x_v491 := x_v491.resolve_left (fun q9 => q9 tc52)
              refine lv_bipush (v := 6) hx hb dX3_readSum_59 (by decide) ?_
              refine lv_istore (lv' := [(4, .int 6), (3, .int p8_3), (2, .int p8_2), (0, .ref a0), (1, .int x1)]) hx hb dX3_readSum_61 hl (by decide) rfl (fun ls hl => ?_)
              refine lv_aload_n hx hb dX3_readSum_63 rfl (lv_at hl 3 rfl) ?_
              refine t_get (ci := 3) (lst := ft3 0 0) (C := RX3) (F := TX3) (N := 3) hx hb hts uX3 hown hkb hH t_a0 (hO.no t_a0 (by decide)) (fun _ h9 => h9) rfl rfl 0 (by decide) rfl kw_82 (fun _ h9 => h9) dX3_readSum_64 (fun v9 h9 => ?_)
              obtain ⟨v64, rfl, t_v64⟩ := h9
              have e9 := (hU7 _ _ t_v64).symm
              subst e9
              have hl9 := h19.1.lt (by omega)
              refine tk_v hH hS hA (tr_V (n := 0) (As := []) hx hb hml hown hts hkb hH (ox_map hOX rfl) hks hE hS hA (s_Tok_go l D cs kf T O X tk y0 y1 f8_102 f8_103 f8_104 f8_105 f8_106 f8_107 ft t tn t_tk t_y0 (by omega) (by omega) (by omega) (by omega) (by omega) (by omega) (by omega) htb (by have q9 := (h19.1).b; omega) (hO.sub (by decide))) kw_641 kw_453 kw_454 kw_3 kw_455 (by decide +kernel) ⟨Nat.le_of_ble_eq_true rfl, Nat.le_of_ble_eq_true rfl⟩ (x_recv (ci := 7) hkb hH 0 rfl rfl) rfl rfl hl.1 (Nat.le_of_ble_eq_true rfl) dX3_readSum_67 ⟨Nat.le_of_ble_eq_true rfl, Nat.le_of_ble_eq_true rfl⟩) (fun u H locs hz9 hH hS => ?_)
              obtain ⟨n67_0_2, n67_0_3, n67_0_4, n67_0_5, rfl, x_v670, x_v671, x_v672⟩ := hz9
              have px67 := TSS.nx h19.1 x_v671
              have hH : HT D cs A T (tk :: y0 :: O) ((tk, .inr (7, [.ref y0, .int y1, .int n67_0_2, .int n67_0_3, .int n67_0_4, .int n67_0_5, .int f8_106, .int f8_107])) :: (y0, .inl (cs.1, 900, .inl ft)) :: X) H := hH
              refine W.widen (k := 0) (n := 0) (Nat.le_of_ble_eq_true rfl) (Nat.le_of_ble_eq_true rfl) ?_
              refine lv_aload_n hx hb dX3_readSum_70 rfl (lv_at hl 3 rfl) ?_
              refine lv_iload_n hx hb dX3_readSum_71 rfl (lv_at hl 4 rfl) ?_
              refine tk_i hH hS hA (tr_V (n := 1) (As := [.int x1]) hx hb hml hown hts hkb hH (ox_map hOX rfl) hks hE hS hA (s_LR_readTerm6 l D cs kf T O X a0 x1 y0 y1 n67_0_2 n67_0_3 n67_0_4 n67_0_5 f8_106 f8_107 ft t tn tk t_a0 (by omega) (by omega) t_y0 (by omega) (by omega) (by omega) (by omega) (by omega) (by omega) (by omega) htb x_v670 t_tk hU7 (by omega) (hO.sub (by decide))) kw_652 kw_654 ks_11 kw_4 kw_655 (by decide +kernel) ⟨Nat.le_of_ble_eq_true rfl, Nat.le_of_ble_eq_true rfl⟩ (HT.recv (ci := 3) hkb hH t_a0 (hO.no t_a0 (by decide)) rfl) rfl rfl hl.1 (Nat.le_of_ble_eq_true rfl) dX3_readSum_72 ⟨Nat.le_of_ble_eq_true rfl, Nat.le_of_ble_eq_true rfl⟩) (fun v72 u H locs hz9 hH hS => ?_)
              obtain ⟨n72_0_2, n72_0_3, n72_0_4, n72_0_5, n72_0_6, n72_0_7, rfl, l_v72, u_v72, x_v720, x_v721, x_v722⟩ := hz9
              have hH : HT D cs A T (tk :: y0 :: O) ((tk, .inr (7, [.ref y0, .int y1, .int n72_0_2, .int n72_0_3, .int n72_0_4, .int n72_0_5, .int n72_0_6, .int n72_0_7])) :: (y0, .inl (cs.1, 900, .inl ft)) :: X) H := hH
              refine W.widen (k := 0) (n := 0) (Nat.le_of_ble_eq_true rfl) (Nat.le_of_ble_eq_true rfl) ?_
              refine lv_istore_n (lv' := [(2, .int v72), (4, .int 6), (3, .int p8_3), (0, .ref a0), (1, .int x1)]) hx hb dX3_readSum_75 rfl hl (by decide) rfl (fun ls hl => ?_)
              refine lv_aload_n hx hb dX3_readSum_76 rfl (lv_at hl 3 rfl) ?_
              refine lv_iload hx hb dX3_readSum_77 (lv_at hl 1 rfl) ?_
              refine lv_iconst (v := 0) hx hb dX3_readSum_79 (by decide) ?_
              refine tk_v hH hS hA (tr_V (n := 2) (As := [.int 6, .int 0]) hx hb hml hown hts hkb hH (ox_map hOX rfl) hks hE hS hA (s_LR_put l D cs kf T (tk :: y0 :: O) ((tk, .inr (7, [.ref y0, .int y1, .int n72_0_2, .int n72_0_3, .int n72_0_4, .int n72_0_5, .int n72_0_6, .int n72_0_7])) :: (y0, .inl (cs.1, 900, .inl ft)) :: X) a0 (6) (0) t_a0 (hO.sub (by decide))) kw_642 kw_644 ks_9 kw_4 kw_645 (by decide +kernel) ⟨Nat.le_of_ble_eq_true rfl, Nat.le_of_ble_eq_true rfl⟩ (HT.recv (ci := 3) hkb hH t_a0 (hO.no t_a0 (by decide)) rfl) rfl rfl hl.1 (Nat.le_of_ble_eq_true rfl) dX3_readSum_80 ⟨Nat.le_of_ble_eq_true rfl, Nat.le_of_ble_eq_true rfl⟩) (fun u H locs hz9 hH hS => ?_)
              have hz9 : u = (T, tk :: y0 :: O, (tk, .inr (7, [.ref y0, .int y1, .int n72_0_2, .int n72_0_3, .int n72_0_4, .int n72_0_5, .int n72_0_6, .int n72_0_7])) :: (y0, .inl (cs.1, 900, .inl ft)) :: X) := hz9
              subst hz9
              have hH : HT D cs A T (tk :: y0 :: O) ((tk, .inr (7, [.ref y0, .int y1, .int n72_0_2, .int n72_0_3, .int n72_0_4, .int n72_0_5, .int n72_0_6, .int n72_0_7])) :: (y0, .inl (cs.1, 900, .inl ft)) :: X) H := hH
              refine W.widen (k := 0) (n := 0) (Nat.le_of_ble_eq_true rfl) (Nat.le_of_ble_eq_true rfl) ?_
              obtain ⟨v83, ev83⟩ : ∃ y : Int32, y = p8_3 + 1 := ⟨_, rfl⟩
              have tv83 : v83.toInt = p8_3.toInt + (1) := by rw [ev83]; exact add_i rfl (by decide) (by omega) (by omega)
              refine lv_iinc (v := v83) (lv' := [(3, .int v83), (2, .int v72), (4, .int 6), (0, .ref a0), (1, .int x1)]) hx hb dX3_readSum_83 hl (k := 2) rfl (by rw [ev83]; rfl) (by decide) rfl (fun ls hl => ?_)
              refine lv_goto (tgt := 8) hx hb dX3_readSum_86 (by decide) ?_
              exact ih8 _ (by omega) v83 v72 n72_0_2 n72_0_3 n72_0_4 n72_0_5 n72_0_6 n72_0_7 _ _ _ rfl (by omega) (by omega) (by omega) (by omega) (by omega) (by omega) (by omega) (by omega) (by first | (refine LTI.st (fun _ _ => st_s) x_v20 x_v21 l_v2 u_v2 rfl) | (refine LTI.st (h19.2.2.2.tr (GL_nx (fun _ _ => st_sY (Or.inl x_v250)) px67)) x_v720 x_v721 l_v72 u_v72 ?_; omega) | (refine LTI.st (h19.2.2.2.tr (GL_nx (fun _ _ => st_sY (Or.inr x_v370)) px67)) x_v720 x_v721 l_v72 u_v72 ?_; omega)) (by omega) (by omega) hH hS (lv_sub hl [0, 1, 3, 4] rfl)
            · skip
              have tc52 := f_ne (k := 0) (by decide) c52
              replace x_v490 := x_v490.resolve_left tc52
              clear x_v491
              refine lv_iconst (v := 5) hx hb dX3_readSum_55 (by decide) ?_
              refine lv_goto (tgt := 61) hx hb dX3_readSum_56 (by decide) ?_
              refine lv_istore (lv' := [(4, .int 5), (3, .int p8_3), (2, .int p8_2), (0, .ref a0), (1, .int x1)]) hx hb dX3_readSum_61 hl (by decide) rfl (fun ls hl => ?_)
              refine lv_aload_n hx hb dX3_readSum_63 rfl (lv_at hl 3 rfl) ?_
              refine t_get (ci := 3) (lst := ft3 0 0) (C := RX3) (F := TX3) (N := 3) hx hb hts uX3 hown hkb hH t_a0 (hO.no t_a0 (by decide)) (fun _ h9 => h9) rfl rfl 0 (by decide) rfl kw_82 (fun _ h9 => h9) dX3_readSum_64 (fun v9 h9 => ?_)
              obtain ⟨v64, rfl, t_v64⟩ := h9
              have e9 := (hU7 _ _ t_v64).symm
              subst e9
              have hl9 := h19.1.lt (by omega)
              refine tk_v hH hS hA (tr_V (n := 0) (As := []) hx hb hml hown hts hkb hH (ox_map hOX rfl) hks hE hS hA (s_Tok_go l D cs kf T O X tk y0 y1 f8_102 f8_103 f8_104 f8_105 f8_106 f8_107 ft t tn t_tk t_y0 (by omega) (by omega) (by omega) (by omega) (by omega) (by omega) (by omega) htb (by have q9 := (h19.1).b; omega) (hO.sub (by decide))) kw_641 kw_453 kw_454 kw_3 kw_455 (by decide +kernel) ⟨Nat.le_of_ble_eq_true rfl, Nat.le_of_ble_eq_true rfl⟩ (x_recv (ci := 7) hkb hH 0 rfl rfl) rfl rfl hl.1 (Nat.le_of_ble_eq_true rfl) dX3_readSum_67 ⟨Nat.le_of_ble_eq_true rfl, Nat.le_of_ble_eq_true rfl⟩) (fun u H locs hz9 hH hS => ?_)
              obtain ⟨n67_0_2, n67_0_3, n67_0_4, n67_0_5, rfl, x_v670, x_v671, x_v672⟩ := hz9
              have px67 := TSS.nx h19.1 x_v671
              have hH : HT D cs A T (tk :: y0 :: O) ((tk, .inr (7, [.ref y0, .int y1, .int n67_0_2, .int n67_0_3, .int n67_0_4, .int n67_0_5, .int f8_106, .int f8_107])) :: (y0, .inl (cs.1, 900, .inl ft)) :: X) H := hH
              refine W.widen (k := 0) (n := 0) (Nat.le_of_ble_eq_true rfl) (Nat.le_of_ble_eq_true rfl) ?_
              refine lv_aload_n hx hb dX3_readSum_70 rfl (lv_at hl 3 rfl) ?_
              refine lv_iload_n hx hb dX3_readSum_71 rfl (lv_at hl 4 rfl) ?_
              refine tk_i hH hS hA (tr_V (n := 1) (As := [.int x1]) hx hb hml hown hts hkb hH (ox_map hOX rfl) hks hE hS hA (s_LR_readTerm6 l D cs kf T O X a0 x1 y0 y1 n67_0_2 n67_0_3 n67_0_4 n67_0_5 f8_106 f8_107 ft t tn tk t_a0 (by omega) (by omega) t_y0 (by omega) (by omega) (by omega) (by omega) (by omega) (by omega) (by omega) htb x_v670 t_tk hU7 (by omega) (hO.sub (by decide))) kw_652 kw_654 ks_11 kw_4 kw_655 (by decide +kernel) ⟨Nat.le_of_ble_eq_true rfl, Nat.le_of_ble_eq_true rfl⟩ (HT.recv (ci := 3) hkb hH t_a0 (hO.no t_a0 (by decide)) rfl) rfl rfl hl.1 (Nat.le_of_ble_eq_true rfl) dX3_readSum_72 ⟨Nat.le_of_ble_eq_true rfl, Nat.le_of_ble_eq_true rfl⟩) (fun v72 u H locs hz9 hH hS => ?_)
              obtain ⟨n72_0_2, n72_0_3, n72_0_4, n72_0_5, n72_0_6, n72_0_7, rfl, l_v72, u_v72, x_v720, x_v721, x_v722⟩ := hz9
              have hH : HT D cs A T (tk :: y0 :: O) ((tk, .inr (7, [.ref y0, .int y1, .int n72_0_2, .int n72_0_3, .int n72_0_4, .int n72_0_5, .int n72_0_6, .int n72_0_7])) :: (y0, .inl (cs.1, 900, .inl ft)) :: X) H := hH
              refine W.widen (k := 0) (n := 0) (Nat.le_of_ble_eq_true rfl) (Nat.le_of_ble_eq_true rfl) ?_
              refine lv_istore_n (lv' := [(2, .int v72), (4, .int 5), (3, .int p8_3), (0, .ref a0), (1, .int x1)]) hx hb dX3_readSum_75 rfl hl (by decide) rfl (fun ls hl => ?_)
              refine lv_aload_n hx hb dX3_readSum_76 rfl (lv_at hl 3 rfl) ?_
              refine lv_iload hx hb dX3_readSum_77 (lv_at hl 1 rfl) ?_
              refine lv_iconst (v := 0) hx hb dX3_readSum_79 (by decide) ?_
              refine tk_v hH hS hA (tr_V (n := 2) (As := [.int 5, .int 0]) hx hb hml hown hts hkb hH (ox_map hOX rfl) hks hE hS hA (s_LR_put l D cs kf T (tk :: y0 :: O) ((tk, .inr (7, [.ref y0, .int y1, .int n72_0_2, .int n72_0_3, .int n72_0_4, .int n72_0_5, .int n72_0_6, .int n72_0_7])) :: (y0, .inl (cs.1, 900, .inl ft)) :: X) a0 (5) (0) t_a0 (hO.sub (by decide))) kw_642 kw_644 ks_9 kw_4 kw_645 (by decide +kernel) ⟨Nat.le_of_ble_eq_true rfl, Nat.le_of_ble_eq_true rfl⟩ (HT.recv (ci := 3) hkb hH t_a0 (hO.no t_a0 (by decide)) rfl) rfl rfl hl.1 (Nat.le_of_ble_eq_true rfl) dX3_readSum_80 ⟨Nat.le_of_ble_eq_true rfl, Nat.le_of_ble_eq_true rfl⟩) (fun u H locs hz9 hH hS => ?_)
              have hz9 : u = (T, tk :: y0 :: O, (tk, .inr (7, [.ref y0, .int y1, .int n72_0_2, .int n72_0_3, .int n72_0_4, .int n72_0_5, .int n72_0_6, .int n72_0_7])) :: (y0, .inl (cs.1, 900, .inl ft)) :: X) := hz9
              subst hz9
              have hH : HT D cs A T (tk :: y0 :: O) ((tk, .inr (7, [.ref y0, .int y1, .int n72_0_2, .int n72_0_3, .int n72_0_4, .int n72_0_5, .int n72_0_6, .int n72_0_7])) :: (y0, .inl (cs.1, 900, .inl ft)) :: X) H := hH
              refine W.widen (k := 0) (n := 0) (Nat.le_of_ble_eq_true rfl) (Nat.le_of_ble_eq_true rfl) ?_
              obtain ⟨v83, ev83⟩ : ∃ y : Int32, y = p8_3 + 1 := ⟨_, rfl⟩
              have tv83 : v83.toInt = p8_3.toInt + (1) := by rw [ev83]; exact add_i rfl (by decide) (by omega) (by omega)
              refine lv_iinc (v := v83) (lv' := [(3, .int v83), (2, .int v72), (4, .int 5), (0, .ref a0), (1, .int x1)]) hx hb dX3_readSum_83 hl (k := 2) rfl (by rw [ev83]; rfl) (by decide) rfl (fun ls hl => ?_)
              refine lv_goto (tgt := 8) hx hb dX3_readSum_86 (by decide) ?_
              exact ih8 _ (by omega) v83 v72 n72_0_2 n72_0_3 n72_0_4 n72_0_5 n72_0_6 n72_0_7 _ _ _ rfl (by omega) (by omega) (by omega) (by omega) (by omega) (by omega) (by omega) (by omega) (by first | (refine LTI.st (fun _ _ => st_s) x_v20 x_v21 l_v2 u_v2 rfl) | (refine LTI.st (h19.2.2.2.tr (GL_nx (fun _ _ => st_sY (Or.inl x_v250)) px67)) x_v720 x_v721 l_v72 u_v72 ?_; omega) | (refine LTI.st (h19.2.2.2.tr (GL_nx (fun _ _ => st_sY (Or.inr x_v370)) px67)) x_v720 x_v721 l_v72 u_v72 ?_; omega)) (by omega) (by omega) hH hS (lv_sub hl [0, 1, 3, 4] rfl)
          · skip
            have tc28 := f_eq (k := 0) (by decide) c28
            clear x_v250
            replace x_v251 := x_v251.resolve_left (fun q9 => q9 tc28)
            refine lv_aload_n hx hb dX3_readSum_31 rfl (lv_at hl 2 rfl) ?_
            refine t_get (ci := 3) (lst := ft3 0 0) (C := RX3) (F := TX3) (N := 3) hx hb hts uX3 hown hkb hH t_a0 (hO.no t_a0 (by decide)) (fun _ h9 => h9) rfl rfl 0 (by decide) rfl kw_82 (fun _ h9 => h9) dX3_readSum_32 (fun v9 h9 => ?_)
            obtain ⟨v32, rfl, t_v32⟩ := h9
            have e9 := (hU7 _ _ t_v32).symm
            subst e9
            refine lv_bipush (v := 45) hx hb dX3_readSum_35 (by decide) ?_
            have z9_45 : (45 : Int32).toInt = 45 := by decide
            refine tk_i hH hS hA (tr_V (n := 1) (As := [.int 45]) hx hb hml hown hts hkb hH (ox_map hOX rfl) hks hE hS hA (s_Tok_isSign l D cs kf T O X tk (45) y0 y1 f8_102 f8_103 f8_104 f8_105 f8_106 f8_107 ft t tn 33 t_tk t_y0 (by omega) (by omega) (by omega) (by omega) (by omega) (by omega) (by omega) htb h19.1 (by decide) (by decide) (hO.sub (by decide))) kw_646 kw_615 kw_616 kw_3 kw_617 (by decide +kernel) ⟨Nat.le_of_ble_eq_true rfl, Nat.le_of_ble_eq_true rfl⟩ (x_recv (ci := 7) hkb hH 0 rfl rfl) rfl rfl hl.1 (Nat.le_of_ble_eq_true rfl) dX3_readSum_37 ⟨Nat.le_of_ble_eq_true rfl, Nat.le_of_ble_eq_true rfl⟩) (fun v37 u H locs hz9 hH hS => ?_)
            obtain ⟨rfl, l_v37, u_v37, x_v370, x_v371⟩ := hz9
            have hH : HT D cs A T (tk :: y0 :: O) ((tk, .inr (7, [.ref y0, .int y1, .int f8_102, .int f8_103, .int f8_104, .int f8_105, .int f8_106, .int f8_107])) :: (y0, .inl (cs.1, 900, .inl ft)) :: X) H := hH
            refine W.widen (k := 0) (n := 0) (Nat.le_of_ble_eq_true rfl) (Nat.le_of_ble_eq_true rfl) ?_
            refine lv_if_eq (tgt := 89) hx hb dX3_readSum_40 (by decide) (fun c40 => ?_) (fun c40 => ?_)
            · skip
              have tc40 := f_eq (k := 0) (by decide) c40
              clear x_v370
              replace x_v371 := x_v371.resolve_left (fun q9 => q9 tc40)
              have hk9 : p8_2.toInt = 0 ∨ GL t tn [(4, 6)] [] f8_102 f8_102 := by first | (refine Or.inl ?_; omega) | exact Or.inr (fun _ _ => st_sN (by omega)) | (by_cases q9 : p8_2.toInt = 0; exact Or.inl q9; refine Or.inr (fun _ _ => st_sN ?_); have q8 := LTI.ok i8t q9; have q7 := q8.1.b; rw [kd_end (by omega)]; decide)
              have hz9 := LTI.en i8t hk9
              refine lv_iload_n hx hb dX3_readSum_89 rfl (lv_at hl 1 rfl) ?_
              exact te_z hx hb hr hlocks (nar01 (by omega) (by omega)) hH hS (⟨f8_102, f8_103, f8_104, f8_105, f8_106, f8_107, rfl, by omega, by omega, hz9.1, hz9.2, (by omega)⟩) dX3_readSum_90
            · skip
              have tc40 := f_ne (k := 0) (by decide) c40
              replace x_v370 := x_v370.resolve_left tc40
              clear x_v371
              refine lv_aload_n hx hb dX3_readSum_43 rfl (lv_at hl 2 rfl) ?_
              refine t_get (ci := 3) (lst := ft3 0 0) (C := RX3) (F := TX3) (N := 3) hx hb hts uX3 hown hkb hH t_a0 (hO.no t_a0 (by decide)) (fun _ h9 => h9) rfl rfl 0 (by decide) rfl kw_82 (fun _ h9 => h9) dX3_readSum_44 (fun v9 h9 => ?_)
              obtain ⟨v44, rfl, t_v44⟩ := h9
              have e9 := (hU7 _ _ t_v44).symm
              subst e9
              refine lv_bipush (v := 43) hx hb dX3_readSum_47 (by decide) ?_
              have z9_43 : (43 : Int32).toInt = 43 := by decide
              refine tk_i hH hS hA (tr_V (n := 1) (As := [.int 43]) hx hb hml hown hts hkb hH (ox_map hOX rfl) hks hE hS hA (s_Tok_isSign l D cs kf T O X tk (43) y0 y1 f8_102 f8_103 f8_104 f8_105 f8_106 f8_107 ft t tn 32 t_tk t_y0 (by omega) (by omega) (by omega) (by omega) (by omega) (by omega) (by omega) htb h19.1 (by decide) (by decide) (hO.sub (by decide))) kw_646 kw_615 kw_616 kw_3 kw_617 (by decide +kernel) ⟨Nat.le_of_ble_eq_true rfl, Nat.le_of_ble_eq_true rfl⟩ (x_recv (ci := 7) hkb hH 0 rfl rfl) rfl rfl hl.1 (Nat.le_of_ble_eq_true rfl) dX3_readSum_49 ⟨Nat.le_of_ble_eq_true rfl, Nat.le_of_ble_eq_true rfl⟩) (fun v49 u H locs hz9 hH hS => ?_)
              obtain ⟨rfl, l_v49, u_v49, x_v490, x_v491⟩ := hz9
              have hH : HT D cs A T (tk :: y0 :: O) ((tk, .inr (7, [.ref y0, .int y1, .int f8_102, .int f8_103, .int f8_104, .int f8_105, .int f8_106, .int f8_107])) :: (y0, .inl (cs.1, 900, .inl ft)) :: X) H := hH
              refine W.widen (k := 0) (n := 0) (Nat.le_of_ble_eq_true rfl) (Nat.le_of_ble_eq_true rfl) ?_
              refine lv_if_eq (tgt := 59) hx hb dX3_readSum_52 (by decide) (fun c52 => ?_) (fun c52 => ?_)
              · skip
                have tc52 := f_eq (k := 0) (by decide) c52
                clear x_v490
                replace x_v491 := x_v491.resolve_left (fun q9 => q9 tc52)
                refine lv_bipush (v := 6) hx hb dX3_readSum_59 (by decide) ?_
                refine lv_istore (lv' := [(4, .int 6), (3, .int p8_3), (2, .int p8_2), (0, .ref a0), (1, .int x1)]) hx hb dX3_readSum_61 hl (by decide) rfl (fun ls hl => ?_)
                refine lv_aload_n hx hb dX3_readSum_63 rfl (lv_at hl 3 rfl) ?_
                refine t_get (ci := 3) (lst := ft3 0 0) (C := RX3) (F := TX3) (N := 3) hx hb hts uX3 hown hkb hH t_a0 (hO.no t_a0 (by decide)) (fun _ h9 => h9) rfl rfl 0 (by decide) rfl kw_82 (fun _ h9 => h9) dX3_readSum_64 (fun v9 h9 => ?_)
                obtain ⟨v64, rfl, t_v64⟩ := h9
                have e9 := (hU7 _ _ t_v64).symm
                subst e9
                have hl9 := h19.1.lt (by omega)
                refine tk_v hH hS hA (tr_V (n := 0) (As := []) hx hb hml hown hts hkb hH (ox_map hOX rfl) hks hE hS hA (s_Tok_go l D cs kf T O X tk y0 y1 f8_102 f8_103 f8_104 f8_105 f8_106 f8_107 ft t tn t_tk t_y0 (by omega) (by omega) (by omega) (by omega) (by omega) (by omega) (by omega) htb (by have q9 := (h19.1).b; omega) (hO.sub (by decide))) kw_641 kw_453 kw_454 kw_3 kw_455 (by decide +kernel) ⟨Nat.le_of_ble_eq_true rfl, Nat.le_of_ble_eq_true rfl⟩ (x_recv (ci := 7) hkb hH 0 rfl rfl) rfl rfl hl.1 (Nat.le_of_ble_eq_true rfl) dX3_readSum_67 ⟨Nat.le_of_ble_eq_true rfl, Nat.le_of_ble_eq_true rfl⟩) (fun u H locs hz9 hH hS => ?_)
                obtain ⟨n67_0_2, n67_0_3, n67_0_4, n67_0_5, rfl, x_v670, x_v671, x_v672⟩ := hz9
                have px67 := TSS.nx h19.1 x_v671
                have hH : HT D cs A T (tk :: y0 :: O) ((tk, .inr (7, [.ref y0, .int y1, .int n67_0_2, .int n67_0_3, .int n67_0_4, .int n67_0_5, .int f8_106, .int f8_107])) :: (y0, .inl (cs.1, 900, .inl ft)) :: X) H := hH
                refine W.widen (k := 0) (n := 0) (Nat.le_of_ble_eq_true rfl) (Nat.le_of_ble_eq_true rfl) ?_
                refine lv_aload_n hx hb dX3_readSum_70 rfl (lv_at hl 3 rfl) ?_
                refine lv_iload_n hx hb dX3_readSum_71 rfl (lv_at hl 4 rfl) ?_
                refine tk_i hH hS hA (tr_V (n := 1) (As := [.int x1]) hx hb hml hown hts hkb hH (ox_map hOX rfl) hks hE hS hA (s_LR_readTerm6 l D cs kf T O X a0 x1 y0 y1 n67_0_2 n67_0_3 n67_0_4 n67_0_5 f8_106 f8_107 ft t tn tk t_a0 (by omega) (by omega) t_y0 (by omega) (by omega) (by omega) (by omega) (by omega) (by omega) (by omega) htb x_v670 t_tk hU7 (by omega) (hO.sub (by decide))) kw_652 kw_654 ks_11 kw_4 kw_655 (by decide +kernel) ⟨Nat.le_of_ble_eq_true rfl, Nat.le_of_ble_eq_true rfl⟩ (HT.recv (ci := 3) hkb hH t_a0 (hO.no t_a0 (by decide)) rfl) rfl rfl hl.1 (Nat.le_of_ble_eq_true rfl) dX3_readSum_72 ⟨Nat.le_of_ble_eq_true rfl, Nat.le_of_ble_eq_true rfl⟩) (fun v72 u H locs hz9 hH hS => ?_)
                obtain ⟨n72_0_2, n72_0_3, n72_0_4, n72_0_5, n72_0_6, n72_0_7, rfl, l_v72, u_v72, x_v720, x_v721, x_v722⟩ := hz9
                have hH : HT D cs A T (tk :: y0 :: O) ((tk, .inr (7, [.ref y0, .int y1, .int n72_0_2, .int n72_0_3, .int n72_0_4, .int n72_0_5, .int n72_0_6, .int n72_0_7])) :: (y0, .inl (cs.1, 900, .inl ft)) :: X) H := hH
                refine W.widen (k := 0) (n := 0) (Nat.le_of_ble_eq_true rfl) (Nat.le_of_ble_eq_true rfl) ?_
                refine lv_istore_n (lv' := [(2, .int v72), (4, .int 6), (3, .int p8_3), (0, .ref a0), (1, .int x1)]) hx hb dX3_readSum_75 rfl hl (by decide) rfl (fun ls hl => ?_)
                refine lv_aload_n hx hb dX3_readSum_76 rfl (lv_at hl 3 rfl) ?_
                refine lv_iload hx hb dX3_readSum_77 (lv_at hl 1 rfl) ?_
                refine lv_iconst (v := 0) hx hb dX3_readSum_79 (by decide) ?_
                refine tk_v hH hS hA (tr_V (n := 2) (As := [.int 6, .int 0]) hx hb hml hown hts hkb hH (ox_map hOX rfl) hks hE hS hA (s_LR_put l D cs kf T (tk :: y0 :: O) ((tk, .inr (7, [.ref y0, .int y1, .int n72_0_2, .int n72_0_3, .int n72_0_4, .int n72_0_5, .int n72_0_6, .int n72_0_7])) :: (y0, .inl (cs.1, 900, .inl ft)) :: X) a0 (6) (0) t_a0 (hO.sub (by decide))) kw_642 kw_644 ks_9 kw_4 kw_645 (by decide +kernel) ⟨Nat.le_of_ble_eq_true rfl, Nat.le_of_ble_eq_true rfl⟩ (HT.recv (ci := 3) hkb hH t_a0 (hO.no t_a0 (by decide)) rfl) rfl rfl hl.1 (Nat.le_of_ble_eq_true rfl) dX3_readSum_80 ⟨Nat.le_of_ble_eq_true rfl, Nat.le_of_ble_eq_true rfl⟩) (fun u H locs hz9 hH hS => ?_)
                have hz9 : u = (T, tk :: y0 :: O, (tk, .inr (7, [.ref y0, .int y1, .int n72_0_2, .int n72_0_3, .int n72_0_4, .int n72_0_5, .int n72_0_6, .int n72_0_7])) :: (y0, .inl (cs.1, 900, .inl ft)) :: X) := hz9
                subst hz9
                have hH : HT D cs A T (tk :: y0 :: O) ((tk, .inr (7, [.ref y0, .int y1, .int n72_0_2, .int n72_0_3, .int n72_0_4, .int n72_0_5, .int n72_0_6, .int n72_0_7])) :: (y0, .inl (cs.1, 900, .inl ft)) :: X) H := hH
                refine W.widen (k := 0) (n := 0) (Nat.le_of_ble_eq_true rfl) (Nat.le_of_ble_eq_true rfl) ?_
                obtain ⟨v83, ev83⟩ : ∃ y : Int32, y = p8_3 + 1 := ⟨_, rfl⟩
                have tv83 : v83.toInt = p8_3.toInt + (1) := by rw [ev83]; exact add_i rfl (by decide) (by omega) (by omega)
                refine lv_iinc (v := v83) (lv' := [(3, .int v83), (2, .int v72), (4, .int 6), (0, .ref a0), (1, .int x1)]) hx hb dX3_readSum_83 hl (k := 2) rfl (by rw [ev83]; rfl) (by decide) rfl (fun ls hl => ?_)
                refine lv_goto (tgt := 8) hx hb dX3_readSum_86 (by decide) ?_
                exact ih8 _ (by omega) v83 v72 n72_0_2 n72_0_3 n72_0_4 n72_0_5 n72_0_6 n72_0_7 _ _ _ rfl (by omega) (by omega) (by omega) (by omega) (by omega) (by omega) (by omega) (by omega) (by first | (refine LTI.st (fun _ _ => st_s) x_v20 x_v21 l_v2 u_v2 rfl) | (refine LTI.st (h19.2.2.2.tr (GL_nx (fun _ _ => st_sY (Or.inl x_v250)) px67)) x_v720 x_v721 l_v72 u_v72 ?_; omega) | (refine LTI.st (h19.2.2.2.tr (GL_nx (fun _ _ => st_sY (Or.inr x_v370)) px67)) x_v720 x_v721 l_v72 u_v72 ?_; omega)) (by omega) (by omega) hH hS (lv_sub hl [0, 1, 3, 4] rfl)
              · skip
                have tc52 := f_ne (k := 0) (by decide) c52
                replace x_v490 := x_v490.resolve_left tc52
                clear x_v491
                refine lv_iconst (v := 5) hx hb dX3_readSum_55 (by decide) ?_
                refine lv_goto (tgt := 61) hx hb dX3_readSum_56 (by decide) ?_
                refine lv_istore (lv' := [(4, .int 5), (3, .int p8_3), (2, .int p8_2), (0, .ref a0), (1, .int x1)]) hx hb dX3_readSum_61 hl (by decide) rfl (fun ls hl => ?_)
                refine lv_aload_n hx hb dX3_readSum_63 rfl (lv_at hl 3 rfl) ?_
                refine t_get (ci := 3) (lst := ft3 0 0) (C := RX3) (F := TX3) (N := 3) hx hb hts uX3 hown hkb hH t_a0 (hO.no t_a0 (by decide)) (fun _ h9 => h9) rfl rfl 0 (by decide) rfl kw_82 (fun _ h9 => h9) dX3_readSum_64 (fun v9 h9 => ?_)
                obtain ⟨v64, rfl, t_v64⟩ := h9
                have e9 := (hU7 _ _ t_v64).symm
                subst e9
                have hl9 := h19.1.lt (by omega)
                refine tk_v hH hS hA (tr_V (n := 0) (As := []) hx hb hml hown hts hkb hH (ox_map hOX rfl) hks hE hS hA (s_Tok_go l D cs kf T O X tk y0 y1 f8_102 f8_103 f8_104 f8_105 f8_106 f8_107 ft t tn t_tk t_y0 (by omega) (by omega) (by omega) (by omega) (by omega) (by omega) (by omega) htb (by have q9 := (h19.1).b; omega) (hO.sub (by decide))) kw_641 kw_453 kw_454 kw_3 kw_455 (by decide +kernel) ⟨Nat.le_of_ble_eq_true rfl, Nat.le_of_ble_eq_true rfl⟩ (x_recv (ci := 7) hkb hH 0 rfl rfl) rfl rfl hl.1 (Nat.le_of_ble_eq_true rfl) dX3_readSum_67 ⟨Nat.le_of_ble_eq_true rfl, Nat.le_of_ble_eq_true rfl⟩) (fun u H locs hz9 hH hS => ?_)
                obtain ⟨n67_0_2, n67_0_3, n67_0_4, n67_0_5, rfl, x_v670, x_v671, x_v672⟩ := hz9
                have px67 := TSS.nx h19.1 x_v671
                have hH : HT D cs A T (tk :: y0 :: O) ((tk, .inr (7, [.ref y0, .int y1, .int n67_0_2, .int n67_0_3, .int n67_0_4, .int n67_0_5, .int f8_106, .int f8_107])) :: (y0, .inl (cs.1, 900, .inl ft)) :: X) H := hH
                refine W.widen (k := 0) (n := 0) (Nat.le_of_ble_eq_true rfl) (Nat.le_of_ble_eq_true rfl) ?_
                refine lv_aload_n hx hb dX3_readSum_70 rfl (lv_at hl 3 rfl) ?_
                refine lv_iload_n hx hb dX3_readSum_71 rfl (lv_at hl 4 rfl) ?_
                refine tk_i hH hS hA (tr_V (n := 1) (As := [.int x1]) hx hb hml hown hts hkb hH (ox_map hOX rfl) hks hE hS hA (s_LR_readTerm6 l D cs kf T O X a0 x1 y0 y1 n67_0_2 n67_0_3 n67_0_4 n67_0_5 f8_106 f8_107 ft t tn tk t_a0 (by omega) (by omega) t_y0 (by omega) (by omega) (by omega) (by omega) (by omega) (by omega) (by omega) htb x_v670 t_tk hU7 (by omega) (hO.sub (by decide))) kw_652 kw_654 ks_11 kw_4 kw_655 (by decide +kernel) ⟨Nat.le_of_ble_eq_true rfl, Nat.le_of_ble_eq_true rfl⟩ (HT.recv (ci := 3) hkb hH t_a0 (hO.no t_a0 (by decide)) rfl) rfl rfl hl.1 (Nat.le_of_ble_eq_true rfl) dX3_readSum_72 ⟨Nat.le_of_ble_eq_true rfl, Nat.le_of_ble_eq_true rfl⟩) (fun v72 u H locs hz9 hH hS => ?_)
                obtain ⟨n72_0_2, n72_0_3, n72_0_4, n72_0_5, n72_0_6, n72_0_7, rfl, l_v72, u_v72, x_v720, x_v721, x_v722⟩ := hz9
                have hH : HT D cs A T (tk :: y0 :: O) ((tk, .inr (7, [.ref y0, .int y1, .int n72_0_2, .int n72_0_3, .int n72_0_4, .int n72_0_5, .int n72_0_6, .int n72_0_7])) :: (y0, .inl (cs.1, 900, .inl ft)) :: X) H := hH
                refine W.widen (k := 0) (n := 0) (Nat.le_of_ble_eq_true rfl) (Nat.le_of_ble_eq_true rfl) ?_
                refine lv_istore_n (lv' := [(2, .int v72), (4, .int 5), (3, .int p8_3), (0, .ref a0), (1, .int x1)]) hx hb dX3_readSum_75 rfl hl (by decide) rfl (fun ls hl => ?_)
                refine lv_aload_n hx hb dX3_readSum_76 rfl (lv_at hl 3 rfl) ?_
                refine lv_iload hx hb dX3_readSum_77 (lv_at hl 1 rfl) ?_
                refine lv_iconst (v := 0) hx hb dX3_readSum_79 (by decide) ?_
                refine tk_v hH hS hA (tr_V (n := 2) (As := [.int 5, .int 0]) hx hb hml hown hts hkb hH (ox_map hOX rfl) hks hE hS hA (s_LR_put l D cs kf T (tk :: y0 :: O) ((tk, .inr (7, [.ref y0, .int y1, .int n72_0_2, .int n72_0_3, .int n72_0_4, .int n72_0_5, .int n72_0_6, .int n72_0_7])) :: (y0, .inl (cs.1, 900, .inl ft)) :: X) a0 (5) (0) t_a0 (hO.sub (by decide))) kw_642 kw_644 ks_9 kw_4 kw_645 (by decide +kernel) ⟨Nat.le_of_ble_eq_true rfl, Nat.le_of_ble_eq_true rfl⟩ (HT.recv (ci := 3) hkb hH t_a0 (hO.no t_a0 (by decide)) rfl) rfl rfl hl.1 (Nat.le_of_ble_eq_true rfl) dX3_readSum_80 ⟨Nat.le_of_ble_eq_true rfl, Nat.le_of_ble_eq_true rfl⟩) (fun u H locs hz9 hH hS => ?_)
                have hz9 : u = (T, tk :: y0 :: O, (tk, .inr (7, [.ref y0, .int y1, .int n72_0_2, .int n72_0_3, .int n72_0_4, .int n72_0_5, .int n72_0_6, .int n72_0_7])) :: (y0, .inl (cs.1, 900, .inl ft)) :: X) := hz9
                subst hz9
                have hH : HT D cs A T (tk :: y0 :: O) ((tk, .inr (7, [.ref y0, .int y1, .int n72_0_2, .int n72_0_3, .int n72_0_4, .int n72_0_5, .int n72_0_6, .int n72_0_7])) :: (y0, .inl (cs.1, 900, .inl ft)) :: X) H := hH
                refine W.widen (k := 0) (n := 0) (Nat.le_of_ble_eq_true rfl) (Nat.le_of_ble_eq_true rfl) ?_
                obtain ⟨v83, ev83⟩ : ∃ y : Int32, y = p8_3 + 1 := ⟨_, rfl⟩
                have tv83 : v83.toInt = p8_3.toInt + (1) := by rw [ev83]; exact add_i rfl (by decide) (by omega) (by omega)
                refine lv_iinc (v := v83) (lv' := [(3, .int v83), (2, .int v72), (4, .int 5), (0, .ref a0), (1, .int x1)]) hx hb dX3_readSum_83 hl (k := 2) rfl (by rw [ev83]; rfl) (by decide) rfl (fun ls hl => ?_)
                refine lv_goto (tgt := 8) hx hb dX3_readSum_86 (by decide) ?_
                exact ih8 _ (by omega) v83 v72 n72_0_2 n72_0_3 n72_0_4 n72_0_5 n72_0_6 n72_0_7 _ _ _ rfl (by omega) (by omega) (by omega) (by omega) (by omega) (by omega) (by omega) (by omega) (by first | (refine LTI.st (fun _ _ => st_s) x_v20 x_v21 l_v2 u_v2 rfl) | (refine LTI.st (h19.2.2.2.tr (GL_nx (fun _ _ => st_sY (Or.inl x_v250)) px67)) x_v720 x_v721 l_v72 u_v72 ?_; omega) | (refine LTI.st (h19.2.2.2.tr (GL_nx (fun _ _ => st_sY (Or.inr x_v370)) px67)) x_v720 x_v721 l_v72 u_v72 ?_; omega)) (by omega) (by omega) hH hS (lv_sub hl [0, 1, 3, 4] rfl)
  refine lv_istore_n (lv' := [(3, .int 0), (2, .int v2), (0, .ref a0), (1, .int x1)]) hx hb dX3_readSum_7 rfl hl (by decide) rfl (fun ls hl => ?_)
  have z_0 : (0 : Int32).toInt = 0 := by decide
  exact J8 _ 0 v2 n2_0_2 n2_0_3 n2_0_4 n2_0_5 n2_0_6 n2_0_7 _ _ _ rfl (by decide) (by decide) (by omega) (by omega) (by omega) (by omega) (by omega) (by omega) (by first | (refine LTI.st (fun _ _ => st_s) x_v20 x_v21 l_v2 u_v2 rfl) | (refine LTI.st (h19.2.2.2.tr (GL_nx (fun _ _ => st_sY (Or.inl x_v250)) px67)) x_v720 x_v721 l_v72 u_v72 ?_; omega) | (refine LTI.st (h19.2.2.2.tr (GL_nx (fun _ _ => st_sY (Or.inr x_v370)) px67)) x_v720 x_v721 l_v72 u_v72 ?_; omega)) (by omega) (by omega) hH hS (lv_sub hl [0, 1, 2, 3] rfl)
set_option maxHeartbeats 4000000 in
set_option maxRecDepth 100000 in
theorem s_LR_readUnit6 (l : Launch) (D : va_G) (cs : CS) (kf : KF) (T : TF) (O : List Nat) (X : va_W) (a0 : Nat) (x1 : Int32) (y0 : Nat) (y1 : Int32) (y2 : Int32) (y3 : Int32) (y4 : Int32) (y5 : Int32) (y6 : Int32) (y7 : Int32) (ft : Nat → Int32) (t : Tp) (tn : Nat) (tk : Nat) (t_a0 : T a0 = some (13, 0, 0)) (l_x1 : 6 ≤ x1.toInt) (u_x1 : x1.toInt ≤ 6) (t_y0 : T y0 = some (0, 900, 0)) (l_y1 : 0 ≤ y1.toInt) (u_y1 : y1.toInt ≤ 900) (l_y2 : 0 ≤ y2.toInt) (u_y2 : y2.toInt ≤ 900) (l_y3 : 0 ≤ y3.toInt) (u_y3 : y3.toInt ≤ 900) (hn : y1.toInt = (tn : Int)) (htb : TB ft t) (hto : TSS t tn y2 y3 y4 y5) (t_tk : T tk = some (17, 0, 0)) (hU7 : ∀ (b : Nat) (q : Nat), T b = some (17, 0, q) → b = tk) (hz : y6.toInt = 0) (hO : okO T (tk :: y0 :: O) [1, 13]) : TK l D cs kf yX3_readUnit cX3_readUnit 3 (some (.boolean)) { frames := 9, cells := 0, slots := 0, locals := 196 } [.ref a0, .int x1] T (tk :: y0 :: O) ((tk, .inr (7, [.ref y0, .int y1, .int y2, .int y3, .int y4, .int y5, .int y6, .int y7])) :: (y0, .inl (cs.1, 900, .inl ft)) :: X) (Ti D cs (fun r u => ∃ (n0_2 : Int32) (n0_3 : Int32) (n0_4 : Int32) (n0_5 : Int32) (n0_6 : Int32) (n0_7 : Int32), u = (T, tk :: y0 :: O, (tk, .inr (7, [.ref y0, .int y1, .int n0_2, .int n0_3, .int n0_4, .int n0_5, .int n0_6, .int n0_7])) :: (y0, .inl (cs.1, 900, .inl ft)) :: X) ∧ 0 ≤ r.toInt ∧ r.toInt ≤ 1 ∧ (r.toInt = 0 ∨ (TSS t tn n0_2 n0_3 n0_4 n0_5 ∧ n0_6.toInt = 0 ∧ n0_7.toInt = y7.toInt ∧ GL t tn [(5, 6)] [] y2 n0_2)) ∧ (r.toInt ≠ 0 ∨ BL t tn [(5, 6)] y2 n0_6 n0_7) ∧ (y2.toInt ≤ n0_2.toInt ∧ n0_2.toInt ≤ n0_3.toInt ∧ n0_3.toInt ≤ y1.toInt))) := by
  refine tk_of (by decide) (Nat.le_of_ble_eq_true rfl) (fun p e s m below meth c ls A H locs hx hb hr hml hown hts hlocks hnm hkb hH hS hA hOX hks hE hl => ?_)
  have hown : s.vm.findClass RX3 = some m.cls := hown
  have hl : lv_has ls 3 [(0, .ref a0), (1, .int x1)] := hl
  have hOXf := hOX
  have hb9 := hto.b
  have hc9 := hto.cs
  refine lv_aload_n hx hb dX3_readUnit_0 rfl (lv_at hl 0 rfl) ?_
  refine t_get (ci := 3) (lst := ft3 0 0) (C := RX3) (F := TX3) (N := 3) hx hb hts uX3 hown hkb hH t_a0 (hO.no t_a0 (by decide)) (fun _ h9 => h9) rfl rfl 0 (by decide) rfl kw_82 (fun _ h9 => h9) dX3_readUnit_1 (fun v9 h9 => ?_)
  obtain ⟨v1, rfl, t_v1⟩ := h9
  have e9 := (hU7 _ _ t_v1).symm
  subst e9
  refine va_ldcS (q := kf.1 10) hx hb hown (hks ("FootholdWall$LawReader", 65, "not", 10) (by decide +kernel)) dX3_readUnit_4 ?_
  refine tk_i hH hS hA (tr_V (n := 1) (As := [.ref (kf.1 10)]) hx hb hml hown hts hkb hH (ox_map hOX rfl) hks hE hS hA (s_Tok_isWord l D cs kf T O X tk 10 y0 y1 y2 y3 y4 y5 y6 y7 ft t tn 15 t_tk (by decide) t_y0 (by omega) (by omega) (by omega) (by omega) (by omega) (by omega) (by omega) htb hto (by decide) (by decide) (hO.sub (by decide))) kw_635 kw_551 kw_552 kw_3 kw_553 (by decide +kernel) ⟨Nat.le_of_ble_eq_true rfl, Nat.le_of_ble_eq_true rfl⟩ (x_recv (ci := 7) hkb hH 0 rfl rfl) rfl rfl hl.1 (Nat.le_of_ble_eq_true rfl) dX3_readUnit_6 ⟨Nat.le_of_ble_eq_true rfl, Nat.le_of_ble_eq_true rfl⟩) (fun v6 u H locs hz9 hH hS => ?_)
  obtain ⟨rfl, l_v6, u_v6, x_v60, x_v61⟩ := hz9
  have hH : HT D cs A T (tk :: y0 :: O) ((tk, .inr (7, [.ref y0, .int y1, .int y2, .int y3, .int y4, .int y5, .int y6, .int y7])) :: (y0, .inl (cs.1, 900, .inl ft)) :: X) H := hH
  refine W.widen (k := 0) (n := 0) (Nat.le_of_ble_eq_true rfl) (Nat.le_of_ble_eq_true rfl) ?_
  refine lv_if_eq (tgt := 40) hx hb dX3_readUnit_9 (by decide) (fun c9 => ?_) (fun c9 => ?_)
  · skip
    have tc9 := f_eq (k := 0) (by decide) c9
    clear x_v60
    replace x_v61 := x_v61.resolve_left (fun q9 => q9 tc9)
    refine lv_aload_n hx hb dX3_readUnit_40 rfl (lv_at hl 0 rfl) ?_
    refine t_get (ci := 3) (lst := ft3 0 0) (C := RX3) (F := TX3) (N := 3) hx hb hts uX3 hown hkb hH t_a0 (hO.no t_a0 (by decide)) (fun _ h9 => h9) rfl rfl 0 (by decide) rfl kw_82 (fun _ h9 => h9) dX3_readUnit_41 (fun v9 h9 => ?_)
    obtain ⟨v41, rfl, t_v41⟩ := h9
    have e9 := (hU7 _ _ t_v41).symm
    subst e9
    refine lv_bipush (v := 91) hx hb dX3_readUnit_44 (by decide) ?_
    have z9_91 : (91 : Int32).toInt = 91 := by decide
    refine tk_i hH hS hA (tr_V (n := 1) (As := [.int 91]) hx hb hml hown hts hkb hH (ox_map hOX rfl) hks hE hS hA (s_Tok_isSign l D cs kf T O X tk (91) y0 y1 y2 y3 y4 y5 y6 y7 ft t tn 37 t_tk t_y0 (by omega) (by omega) (by omega) (by omega) (by omega) (by omega) (by omega) htb hto (by decide) (by decide) (hO.sub (by decide))) kw_646 kw_615 kw_616 kw_3 kw_617 (by decide +kernel) ⟨Nat.le_of_ble_eq_true rfl, Nat.le_of_ble_eq_true rfl⟩ (x_recv (ci := 7) hkb hH 0 rfl rfl) rfl rfl hl.1 (Nat.le_of_ble_eq_true rfl) dX3_readUnit_46 ⟨Nat.le_of_ble_eq_true rfl, Nat.le_of_ble_eq_true rfl⟩) (fun v46 u H locs hz9 hH hS => ?_)
    obtain ⟨rfl, l_v46, u_v46, x_v460, x_v461⟩ := hz9
    have hH : HT D cs A T (tk :: y0 :: O) ((tk, .inr (7, [.ref y0, .int y1, .int y2, .int y3, .int y4, .int y5, .int y6, .int y7])) :: (y0, .inl (cs.1, 900, .inl ft)) :: X) H := hH
    refine W.widen (k := 0) (n := 0) (Nat.le_of_ble_eq_true rfl) (Nat.le_of_ble_eq_true rfl) ?_
    refine lv_if_eq (tgt := 88) hx hb dX3_readUnit_49 (by decide) (fun c49 => ?_) (fun c49 => ?_)
    · skip
      have tc49 := f_eq (k := 0) (by decide) c49
      clear x_v460
      replace x_v461 := x_v461.resolve_left (fun q9 => q9 tc49)
      have g88 : GL t tn [(5, 6)] [(3, 6), (21, 6)] y2 y2 := fun _ _ => st_uS (by omega) (by omega)
      refine lv_aload_n hx hb dX3_readUnit_88 rfl (lv_at hl 0 rfl) ?_
      refine lv_iload_n hx hb dX3_readUnit_89 rfl (lv_at hl 1 rfl) ?_
      refine tk_i hH hS hA (tr_V (n := 1) (As := [.int x1]) hx hb hml hown hts hkb hH (ox_map hOX rfl) hks hE hS hA (s_LR_readSum6 l D cs kf T O X a0 x1 y0 y1 y2 y3 y4 y5 y6 y7 ft t tn tk t_a0 (by omega) (by omega) t_y0 (by omega) (by omega) (by omega) (by omega) (by omega) (by omega) (by omega) htb hto t_tk hU7 (by omega) (hO.sub (by decide))) kw_648 kw_650 ks_10 kw_4 kw_651 (by decide +kernel) ⟨Nat.le_of_ble_eq_true rfl, Nat.le_of_ble_eq_true rfl⟩ (HT.recv (ci := 3) hkb hH t_a0 (hO.no t_a0 (by decide)) rfl) rfl rfl hl.1 (Nat.le_of_ble_eq_true rfl) dX3_readUnit_90 ⟨Nat.le_of_ble_eq_true rfl, Nat.le_of_ble_eq_true rfl⟩) (fun v90 u H locs hz9 hH hS => ?_)
      obtain ⟨n90_0_2, n90_0_3, n90_0_4, n90_0_5, n90_0_6, n90_0_7, rfl, l_v90, u_v90, x_v900, x_v901, x_v902⟩ := hz9
      have hH : HT D cs A T (tk :: y0 :: O) ((tk, .inr (7, [.ref y0, .int y1, .int n90_0_2, .int n90_0_3, .int n90_0_4, .int n90_0_5, .int n90_0_6, .int n90_0_7])) :: (y0, .inl (cs.1, 900, .inl ft)) :: X) H := hH
      refine W.widen (k := 0) (n := 0) (Nat.le_of_ble_eq_true rfl) (Nat.le_of_ble_eq_true rfl) ?_
      refine lv_if_ne (tgt := 98) hx hb dX3_readUnit_93 (by decide) (fun c93 => ?_) (fun c93 => ?_)
      · skip
        have tc93 := f_ne (k := 0) (by decide) c93
        replace x_v900 := x_v900.resolve_left tc93
        clear x_v901
        have g98 := g88.tr (GL.cons x_v900.2.2.2)
        have hc98 := x_v900.1.cs
        refine lv_aload_n hx hb dX3_readUnit_98 rfl (lv_at hl 0 rfl) ?_
        refine t_get (ci := 3) (lst := ft3 0 0) (C := RX3) (F := TX3) (N := 3) hx hb hts uX3 hown hkb hH t_a0 (hO.no t_a0 (by decide)) (fun _ h9 => h9) rfl rfl 0 (by decide) rfl kw_82 (fun _ h9 => h9) dX3_readUnit_99 (fun v9 h9 => ?_)
        obtain ⟨v99, rfl, t_v99⟩ := h9
        have e9 := (hU7 _ _ t_v99).symm
        subst e9
        refine lv_bipush (v := 61) hx hb dX3_readUnit_102 (by decide) ?_
        have z9_61 : (61 : Int32).toInt = 61 := by decide
        refine tk_i hH hS hA (tr_V (n := 1) (As := [.int 61]) hx hb hml hown hts hkb hH (ox_map hOX rfl) hks hE hS hA (s_Tok_isSign l D cs kf T O X tk (61) y0 y1 n90_0_2 n90_0_3 n90_0_4 n90_0_5 n90_0_6 n90_0_7 ft t tn 39 t_tk t_y0 (by omega) (by omega) (by omega) (by omega) (by omega) (by omega) (by omega) htb x_v900.1 (by decide) (by decide) (hO.sub (by decide))) kw_646 kw_615 kw_616 kw_3 kw_617 (by decide +kernel) ⟨Nat.le_of_ble_eq_true rfl, Nat.le_of_ble_eq_true rfl⟩ (x_recv (ci := 7) hkb hH 0 rfl rfl) rfl rfl hl.1 (Nat.le_of_ble_eq_true rfl) dX3_readUnit_104 ⟨Nat.le_of_ble_eq_true rfl, Nat.le_of_ble_eq_true rfl⟩) (fun v104 u H locs hz9 hH hS => ?_)
        obtain ⟨rfl, l_v104, u_v104, x_v1040, x_v1041⟩ := hz9
        have hH : HT D cs A T (tk :: y0 :: O) ((tk, .inr (7, [.ref y0, .int y1, .int n90_0_2, .int n90_0_3, .int n90_0_4, .int n90_0_5, .int n90_0_6, .int n90_0_7])) :: (y0, .inl (cs.1, 900, .inl ft)) :: X) H := hH
        refine W.widen (k := 0) (n := 0) (Nat.le_of_ble_eq_true rfl) (Nat.le_of_ble_eq_true rfl) ?_
        refine lv_if_eq (tgt := 115) hx hb dX3_readUnit_107 (by decide) (fun c107 => ?_) (fun c107 => ?_)
        · skip
          have tc107 := f_eq (k := 0) (by decide) c107
          clear x_v1040
          replace x_v1041 := x_v1041.resolve_left (fun q9 => q9 tc107)
          refine lv_aload_n hx hb dX3_readUnit_115 rfl (lv_at hl 0 rfl) ?_
          refine t_get (ci := 3) (lst := ft3 0 0) (C := RX3) (F := TX3) (N := 3) hx hb hts uX3 hown hkb hH t_a0 (hO.no t_a0 (by decide)) (fun _ h9 => h9) rfl rfl 0 (by decide) rfl kw_82 (fun _ h9 => h9) dX3_readUnit_116 (fun v9 h9 => ?_)
          obtain ⟨v116, rfl, t_v116⟩ := h9
          have e9 := (hU7 _ _ t_v116).symm
          subst e9
          refine lv_bipush (v := 60) hx hb dX3_readUnit_119 (by decide) ?_
          have z9_60 : (60 : Int32).toInt = 60 := by decide
          refine tk_i hH hS hA (tr_V (n := 1) (As := [.int 60]) hx hb hml hown hts hkb hH (ox_map hOX rfl) hks hE hS hA (s_Tok_isSign l D cs kf T O X tk (60) y0 y1 n90_0_2 n90_0_3 n90_0_4 n90_0_5 n90_0_6 n90_0_7 ft t tn 40 t_tk t_y0 (by omega) (by omega) (by omega) (by omega) (by omega) (by omega) (by omega) htb x_v900.1 (by decide) (by decide) (hO.sub (by decide))) kw_646 kw_615 kw_616 kw_3 kw_617 (by decide +kernel) ⟨Nat.le_of_ble_eq_true rfl, Nat.le_of_ble_eq_true rfl⟩ (x_recv (ci := 7) hkb hH 0 rfl rfl) rfl rfl hl.1 (Nat.le_of_ble_eq_true rfl) dX3_readUnit_121 ⟨Nat.le_of_ble_eq_true rfl, Nat.le_of_ble_eq_true rfl⟩) (fun v121 u H locs hz9 hH hS => ?_)
          obtain ⟨rfl, l_v121, u_v121, x_v1210, x_v1211⟩ := hz9
          have hH : HT D cs A T (tk :: y0 :: O) ((tk, .inr (7, [.ref y0, .int y1, .int n90_0_2, .int n90_0_3, .int n90_0_4, .int n90_0_5, .int n90_0_6, .int n90_0_7])) :: (y0, .inl (cs.1, 900, .inl ft)) :: X) H := hH
          refine W.widen (k := 0) (n := 0) (Nat.le_of_ble_eq_true rfl) (Nat.le_of_ble_eq_true rfl) ?_
          refine lv_if_eq (tgt := 132) hx hb dX3_readUnit_124 (by decide) (fun c124 => ?_) (fun c124 => ?_)
          · skip
            have tc124 := f_eq (k := 0) (by decide) c124
            clear x_v1210
            replace x_v1211 := x_v1211.resolve_left (fun q9 => q9 tc124)
            refine lv_bipush (v := 10) hx hb dX3_readUnit_132 (by decide) ?_
            refine lv_istore_n (lv' := [(2, .int 10), (0, .ref a0), (1, .int x1)]) hx hb dX3_readUnit_134 rfl hl (by decide) rfl (fun ls hl => ?_)
            refine lv_iload_n hx hb dX3_readUnit_135 rfl (lv_at hl 0 rfl) ?_
            refine lv_bipush (v := 10) hx hb dX3_readUnit_136 (by decide) ?_
            refine lv_icmp_ne (tgt := 162) hx hb dX3_readUnit_138 (by decide) (fun c138 => absurd c138 (by decide)) (fun _ => ?_)
            refine lv_aload_n hx hb dX3_readUnit_141 rfl (lv_at hl 1 rfl) ?_
            refine t_get (ci := 3) (lst := ft3 0 0) (C := RX3) (F := TX3) (N := 3) hx hb hts uX3 hown hkb hH t_a0 (hO.no t_a0 (by decide)) (fun _ h9 => h9) rfl rfl 0 (by decide) rfl kw_82 (fun _ h9 => h9) dX3_readUnit_142 (fun v9 h9 => ?_)
            obtain ⟨v142, rfl, t_v142⟩ := h9
            have e9 := (hU7 _ _ t_v142).symm
            subst e9
            refine lv_bipush (v := 62) hx hb dX3_readUnit_145 (by decide) ?_
            have z9_62 : (62 : Int32).toInt = 62 := by decide
            refine tk_i hH hS hA (tr_V (n := 1) (As := [.int 62]) hx hb hml hown hts hkb hH (ox_map hOX rfl) hks hE hS hA (s_Tok_isSign l D cs kf T O X tk (62) y0 y1 n90_0_2 n90_0_3 n90_0_4 n90_0_5 n90_0_6 n90_0_7 ft t tn 41 t_tk t_y0 (by omega) (by omega) (by omega) (by omega) (by omega) (by omega) (by omega) htb x_v900.1 (by decide) (by decide) (hO.sub (by decide))) kw_646 kw_615 kw_616 kw_3 kw_617 (by decide +kernel) ⟨Nat.le_of_ble_eq_true rfl, Nat.le_of_ble_eq_true rfl⟩ (x_recv (ci := 7) hkb hH 0 rfl rfl) rfl rfl hl.1 (Nat.le_of_ble_eq_true rfl) dX3_readUnit_147 ⟨Nat.le_of_ble_eq_true rfl, Nat.le_of_ble_eq_true rfl⟩) (fun v147 u H locs hz9 hH hS => ?_)
            obtain ⟨rfl, l_v147, u_v147, x_v1470, x_v1471⟩ := hz9
            have hH : HT D cs A T (tk :: y0 :: O) ((tk, .inr (7, [.ref y0, .int y1, .int n90_0_2, .int n90_0_3, .int n90_0_4, .int n90_0_5, .int n90_0_6, .int n90_0_7])) :: (y0, .inl (cs.1, 900, .inl ft)) :: X) H := hH
            refine W.widen (k := 0) (n := 0) (Nat.le_of_ble_eq_true rfl) (Nat.le_of_ble_eq_true rfl) ?_
            refine lv_if_ne (tgt := 162) hx hb dX3_readUnit_150 (by decide) (fun c150 => ?_) (fun c150 => ?_)
            · skip
              have tc150 := f_ne (k := 0) (by decide) c150
              replace x_v1470 := x_v1470.resolve_left tc150
              clear x_v1471
              refine lv_aload_n hx hb dX3_readUnit_162 rfl (lv_at hl 1 rfl) ?_
              refine t_get (ci := 3) (lst := ft3 0 0) (C := RX3) (F := TX3) (N := 3) hx hb hts uX3 hown hkb hH t_a0 (hO.no t_a0 (by decide)) (fun _ h9 => h9) rfl rfl 0 (by decide) rfl kw_82 (fun _ h9 => h9) dX3_readUnit_163 (fun v9 h9 => ?_)
              obtain ⟨v163, rfl, t_v163⟩ := h9
              have e9 := (hU7 _ _ t_v163).symm
              subst e9
              refine tk_v hH hS hA (tr_V (n := 0) (As := []) hx hb hml hown hts hkb hH (ox_map hOX rfl) hks hE hS hA (s_Tok_go l D cs kf T O X tk y0 y1 n90_0_2 n90_0_3 n90_0_4 n90_0_5 n90_0_6 n90_0_7 ft t tn t_tk t_y0 (by omega) (by omega) (by omega) (by omega) (by omega) (by omega) (by omega) htb (by have q9 := (x_v900.1).b; omega) (hO.sub (by decide))) kw_641 kw_453 kw_454 kw_3 kw_455 (by decide +kernel) ⟨Nat.le_of_ble_eq_true rfl, Nat.le_of_ble_eq_true rfl⟩ (x_recv (ci := 7) hkb hH 0 rfl rfl) rfl rfl hl.1 (Nat.le_of_ble_eq_true rfl) dX3_readUnit_166 ⟨Nat.le_of_ble_eq_true rfl, Nat.le_of_ble_eq_true rfl⟩) (fun u H locs hz9 hH hS => ?_)
              obtain ⟨n166_0_2, n166_0_3, n166_0_4, n166_0_5, rfl, x_v1660, x_v1661, x_v1662⟩ := hz9
              have px166 := TSS.nx x_v900.1 x_v1661
              have hH : HT D cs A T (tk :: y0 :: O) ((tk, .inr (7, [.ref y0, .int y1, .int n166_0_2, .int n166_0_3, .int n166_0_4, .int n166_0_5, .int n90_0_6, .int n90_0_7])) :: (y0, .inl (cs.1, 900, .inl ft)) :: X) H := hH
              refine W.widen (k := 0) (n := 0) (Nat.le_of_ble_eq_true rfl) (Nat.le_of_ble_eq_true rfl) ?_
              have g169 : GL t tn [(5, 6)] [(3, 6)] y2 n166_0_2 := g98.tr (GL_nx (fun _ _ => st_cY (by omega)) px166)
              refine lv_aload_n hx hb dX3_readUnit_169 rfl (lv_at hl 1 rfl) ?_
              refine lv_iload_n hx hb dX3_readUnit_170 rfl (lv_at hl 2 rfl) ?_
              refine tk_i hH hS hA (tr_V (n := 1) (As := [.int x1]) hx hb hml hown hts hkb hH (ox_map hOX rfl) hks hE hS hA (s_LR_readSum6 l D cs kf T O X a0 x1 y0 y1 n166_0_2 n166_0_3 n166_0_4 n166_0_5 n90_0_6 n90_0_7 ft t tn tk t_a0 (by omega) (by omega) t_y0 (by omega) (by omega) (by omega) (by omega) (by omega) (by omega) (by omega) htb x_v1660 t_tk hU7 (by omega) (hO.sub (by decide))) kw_648 kw_650 ks_10 kw_4 kw_651 (by decide +kernel) ⟨Nat.le_of_ble_eq_true rfl, Nat.le_of_ble_eq_true rfl⟩ (HT.recv (ci := 3) hkb hH t_a0 (hO.no t_a0 (by decide)) rfl) rfl rfl hl.1 (Nat.le_of_ble_eq_true rfl) dX3_readUnit_171 ⟨Nat.le_of_ble_eq_true rfl, Nat.le_of_ble_eq_true rfl⟩) (fun v171 u H locs hz9 hH hS => ?_)
              obtain ⟨n171_0_2, n171_0_3, n171_0_4, n171_0_5, n171_0_6, n171_0_7, rfl, l_v171, u_v171, x_v1710, x_v1711, x_v1712⟩ := hz9
              have hH : HT D cs A T (tk :: y0 :: O) ((tk, .inr (7, [.ref y0, .int y1, .int n171_0_2, .int n171_0_3, .int n171_0_4, .int n171_0_5, .int n171_0_6, .int n171_0_7])) :: (y0, .inl (cs.1, 900, .inl ft)) :: X) H := hH
              refine W.widen (k := 0) (n := 0) (Nat.le_of_ble_eq_true rfl) (Nat.le_of_ble_eq_true rfl) ?_
              refine lv_if_ne (tgt := 179) hx hb dX3_readUnit_174 (by decide) (fun c174 => ?_) (fun c174 => ?_)
              · skip
                have tc174 := f_ne (k := 0) (by decide) c174
                replace x_v1710 := x_v1710.resolve_left tc174
                clear x_v1711
                refine lv_aload_n hx hb dX3_readUnit_179 rfl (lv_at hl 1 rfl) ?_
                refine lv_iload_n hx hb dX3_readUnit_180 rfl (lv_at hl 0 rfl) ?_
                refine lv_iconst (v := 0) hx hb dX3_readUnit_181 (by decide) ?_
                refine tk_v hH hS hA (tr_V (n := 2) (As := [.int 10, .int 0]) hx hb hml hown hts hkb hH (ox_map hOX rfl) hks hE hS hA (s_LR_put l D cs kf T (tk :: y0 :: O) ((tk, .inr (7, [.ref y0, .int y1, .int n171_0_2, .int n171_0_3, .int n171_0_4, .int n171_0_5, .int n171_0_6, .int n171_0_7])) :: (y0, .inl (cs.1, 900, .inl ft)) :: X) a0 (10) (0) t_a0 (hO.sub (by decide))) kw_642 kw_644 ks_9 kw_4 kw_645 (by decide +kernel) ⟨Nat.le_of_ble_eq_true rfl, Nat.le_of_ble_eq_true rfl⟩ (HT.recv (ci := 3) hkb hH t_a0 (hO.no t_a0 (by decide)) rfl) rfl rfl hl.1 (Nat.le_of_ble_eq_true rfl) dX3_readUnit_182 ⟨Nat.le_of_ble_eq_true rfl, Nat.le_of_ble_eq_true rfl⟩) (fun u H locs hz9 hH hS => ?_)
                have hz9 : u = (T, tk :: y0 :: O, (tk, .inr (7, [.ref y0, .int y1, .int n171_0_2, .int n171_0_3, .int n171_0_4, .int n171_0_5, .int n171_0_6, .int n171_0_7])) :: (y0, .inl (cs.1, 900, .inl ft)) :: X) := hz9
                subst hz9
                have hH : HT D cs A T (tk :: y0 :: O) ((tk, .inr (7, [.ref y0, .int y1, .int n171_0_2, .int n171_0_3, .int n171_0_4, .int n171_0_5, .int n171_0_6, .int n171_0_7])) :: (y0, .inl (cs.1, 900, .inl ft)) :: X) H := hH
                refine W.widen (k := 0) (n := 0) (Nat.le_of_ble_eq_true rfl) (Nat.le_of_ble_eq_true rfl) ?_
                refine lv_iconst (v := 1) hx hb dX3_readUnit_185 (by decide) ?_
                have z9_1 : (1 : Int32).toInt = 1 := by decide
                exact te_z hx hb hr hlocks (by rfl) hH hS (⟨n171_0_2, n171_0_3, n171_0_4, n171_0_5, n171_0_6, n171_0_7, rfl, by decide, by decide, (Or.inr ⟨x_v1710.1, by omega, by omega, (by first | (refine g20.tr x_v240.2.2.2) | (refine g70.tr (GL_nx (fun _ _ => st_xY x_v760.2.2.1) x_v760.2.1)) | (refine g169.tr x_v1710.2.2.2))⟩), Or.inl (by decide), (by omega)⟩) dX3_readUnit_186
              · skip
                have tc174 := f_eq (k := 0) (by decide) c174
                clear x_v1710
                replace x_v1711 := x_v1711.resolve_left (fun q9 => q9 tc174)
                refine lv_iconst (v := 0) hx hb dX3_readUnit_177 (by decide) ?_
                have z9_0 : (0 : Int32).toInt = 0 := by decide
                exact te_z hx hb hr hlocks (by rfl) hH hS (⟨n171_0_2, n171_0_3, n171_0_4, n171_0_5, n171_0_6, n171_0_7, rfl, by decide, by decide, Or.inl (by decide), (Or.inr (by first | (refine BL_f (fun _ _ => st_uND ?_) x_v140 (by decide) x_v141 ?_ <;> omega) | (refine g20.bd x_v241) | (refine BL_f (fun _ _ => st_uBD ?_) x_v540 (by decide) x_v541 ?_ <;> omega) | (refine g60.bd (BL.cons x_v641)) | (refine g70.bd (BL_f (fun _ _ => st_xN x_v761.1) x_v761.2.1 (by decide) x_v761.2.2 ?_); omega) | (refine g88.bd (BL.cons x_v901)) | (refine g98.bd (BL_f (fun _ _ => st_cN ?_) x_v1580 (by decide) x_v1581 ?_) <;> omega) | (refine g169.bd x_v1711))), (by omega)⟩) dX3_readUnit_178
            · skip
              have tc150 := f_eq (k := 0) (by decide) c150
              clear x_v1470
              replace x_v1471 := x_v1471.resolve_left (fun q9 => q9 tc150)
              refine lv_aload_n hx hb dX3_readUnit_153 rfl (lv_at hl 1 rfl) ?_
              refine t_get (ci := 3) (lst := ft3 0 0) (C := RX3) (F := TX3) (N := 3) hx hb hts uX3 hown hkb hH t_a0 (hO.no t_a0 (by decide)) (fun _ h9 => h9) rfl rfl 0 (by decide) rfl kw_82 (fun _ h9 => h9) dX3_readUnit_154 (fun v9 h9 => ?_)
              obtain ⟨v154, rfl, t_v154⟩ := h9
              have e9 := (hU7 _ _ t_v154).symm
              subst e9
              refine lv_iconst (v := 2) hx hb dX3_readUnit_157 (by decide) ?_
              have z9_2 : (2 : Int32).toInt = 2 := by decide
              refine tk_i hH hS hA (tr_V (n := 1) (As := [.int 2]) hx hb hml hown hts hkb hH (ox_map hOX rfl) hks hE hS hA (s_Tok_refuse l D cs kf T O X tk (2) y0 y1 n90_0_2 n90_0_3 n90_0_4 n90_0_5 n90_0_6 n90_0_7 ft t tn t_tk t_y0 (by omega) (by omega) (by omega) (by omega) (by omega) (by omega) (by omega) htb x_v900.1 (hO.sub (by decide))) kw_640 kw_580 kw_581 kw_3 kw_582 (by decide +kernel) ⟨Nat.le_of_ble_eq_true rfl, Nat.le_of_ble_eq_true rfl⟩ (x_recv (ci := 7) hkb hH 0 rfl rfl) rfl rfl hl.1 (Nat.le_of_ble_eq_true rfl) dX3_readUnit_158 ⟨Nat.le_of_ble_eq_true rfl, Nat.le_of_ble_eq_true rfl⟩) (fun v158 u H locs hz9 hH hS => ?_)
              obtain ⟨n158_0_6, n158_0_7, rfl, l_v158, u_v158, x_v1580, x_v1581⟩ := hz9
              have hH : HT D cs A T (tk :: y0 :: O) ((tk, .inr (7, [.ref y0, .int y1, .int n90_0_2, .int n90_0_3, .int n90_0_4, .int n90_0_5, .int n158_0_6, .int n158_0_7])) :: (y0, .inl (cs.1, 900, .inl ft)) :: X) H := hH
              refine W.widen (k := 0) (n := 0) (Nat.le_of_ble_eq_true rfl) (Nat.le_of_ble_eq_true rfl) ?_
              exact te_z hx hb hr hlocks (nar01 (by omega) (by omega)) hH hS (⟨n90_0_2, n90_0_3, n90_0_4, n90_0_5, n158_0_6, n158_0_7, rfl, by omega, by omega, (Or.inl (by omega)), (Or.inr (by first | (refine BL_f (fun _ _ => st_uND ?_) x_v140 (by decide) x_v141 ?_ <;> omega) | (refine g20.bd x_v241) | (refine BL_f (fun _ _ => st_uBD ?_) x_v540 (by decide) x_v541 ?_ <;> omega) | (refine g60.bd (BL.cons x_v641)) | (refine g70.bd (BL_f (fun _ _ => st_xN x_v761.1) x_v761.2.1 (by decide) x_v761.2.2 ?_); omega) | (refine g88.bd (BL.cons x_v901)) | (refine g98.bd (BL_f (fun _ _ => st_cN ?_) x_v1580 (by decide) x_v1581 ?_) <;> omega) | (refine g169.bd x_v1711))), (by omega)⟩) dX3_readUnit_161
          · skip
            have tc124 := f_ne (k := 0) (by decide) c124
            replace x_v1210 := x_v1210.resolve_left tc124
            clear x_v1211
            refine lv_bipush (v := 9) hx hb dX3_readUnit_127 (by decide) ?_
            refine lv_goto (tgt := 134) hx hb dX3_readUnit_129 (by decide) ?_
            refine lv_istore_n (lv' := [(2, .int 9), (0, .ref a0), (1, .int x1)]) hx hb dX3_readUnit_134 rfl hl (by decide) rfl (fun ls hl => ?_)
            refine lv_iload_n hx hb dX3_readUnit_135 rfl (lv_at hl 0 rfl) ?_
            refine lv_bipush (v := 10) hx hb dX3_readUnit_136 (by decide) ?_
            refine lv_icmp_ne (tgt := 162) hx hb dX3_readUnit_138 (by decide) (fun _ => ?_) (fun c138 => absurd c138 (by decide))
            refine lv_aload_n hx hb dX3_readUnit_162 rfl (lv_at hl 1 rfl) ?_
            refine t_get (ci := 3) (lst := ft3 0 0) (C := RX3) (F := TX3) (N := 3) hx hb hts uX3 hown hkb hH t_a0 (hO.no t_a0 (by decide)) (fun _ h9 => h9) rfl rfl 0 (by decide) rfl kw_82 (fun _ h9 => h9) dX3_readUnit_163 (fun v9 h9 => ?_)
            obtain ⟨v163, rfl, t_v163⟩ := h9
            have e9 := (hU7 _ _ t_v163).symm
            subst e9
            refine tk_v hH hS hA (tr_V (n := 0) (As := []) hx hb hml hown hts hkb hH (ox_map hOX rfl) hks hE hS hA (s_Tok_go l D cs kf T O X tk y0 y1 n90_0_2 n90_0_3 n90_0_4 n90_0_5 n90_0_6 n90_0_7 ft t tn t_tk t_y0 (by omega) (by omega) (by omega) (by omega) (by omega) (by omega) (by omega) htb (by have q9 := (x_v900.1).b; omega) (hO.sub (by decide))) kw_641 kw_453 kw_454 kw_3 kw_455 (by decide +kernel) ⟨Nat.le_of_ble_eq_true rfl, Nat.le_of_ble_eq_true rfl⟩ (x_recv (ci := 7) hkb hH 0 rfl rfl) rfl rfl hl.1 (Nat.le_of_ble_eq_true rfl) dX3_readUnit_166 ⟨Nat.le_of_ble_eq_true rfl, Nat.le_of_ble_eq_true rfl⟩) (fun u H locs hz9 hH hS => ?_)
            obtain ⟨n166_0_2, n166_0_3, n166_0_4, n166_0_5, rfl, x_v1660, x_v1661, x_v1662⟩ := hz9
            have px166 := TSS.nx x_v900.1 x_v1661
            have hH : HT D cs A T (tk :: y0 :: O) ((tk, .inr (7, [.ref y0, .int y1, .int n166_0_2, .int n166_0_3, .int n166_0_4, .int n166_0_5, .int n90_0_6, .int n90_0_7])) :: (y0, .inl (cs.1, 900, .inl ft)) :: X) H := hH
            refine W.widen (k := 0) (n := 0) (Nat.le_of_ble_eq_true rfl) (Nat.le_of_ble_eq_true rfl) ?_
            have g169 : GL t tn [(5, 6)] [(3, 6)] y2 n166_0_2 := g98.tr (GL_nx (fun _ _ => st_cY (by omega)) px166)
            refine lv_aload_n hx hb dX3_readUnit_169 rfl (lv_at hl 1 rfl) ?_
            refine lv_iload_n hx hb dX3_readUnit_170 rfl (lv_at hl 2 rfl) ?_
            refine tk_i hH hS hA (tr_V (n := 1) (As := [.int x1]) hx hb hml hown hts hkb hH (ox_map hOX rfl) hks hE hS hA (s_LR_readSum6 l D cs kf T O X a0 x1 y0 y1 n166_0_2 n166_0_3 n166_0_4 n166_0_5 n90_0_6 n90_0_7 ft t tn tk t_a0 (by omega) (by omega) t_y0 (by omega) (by omega) (by omega) (by omega) (by omega) (by omega) (by omega) htb x_v1660 t_tk hU7 (by omega) (hO.sub (by decide))) kw_648 kw_650 ks_10 kw_4 kw_651 (by decide +kernel) ⟨Nat.le_of_ble_eq_true rfl, Nat.le_of_ble_eq_true rfl⟩ (HT.recv (ci := 3) hkb hH t_a0 (hO.no t_a0 (by decide)) rfl) rfl rfl hl.1 (Nat.le_of_ble_eq_true rfl) dX3_readUnit_171 ⟨Nat.le_of_ble_eq_true rfl, Nat.le_of_ble_eq_true rfl⟩) (fun v171 u H locs hz9 hH hS => ?_)
            obtain ⟨n171_0_2, n171_0_3, n171_0_4, n171_0_5, n171_0_6, n171_0_7, rfl, l_v171, u_v171, x_v1710, x_v1711, x_v1712⟩ := hz9
            have hH : HT D cs A T (tk :: y0 :: O) ((tk, .inr (7, [.ref y0, .int y1, .int n171_0_2, .int n171_0_3, .int n171_0_4, .int n171_0_5, .int n171_0_6, .int n171_0_7])) :: (y0, .inl (cs.1, 900, .inl ft)) :: X) H := hH
            refine W.widen (k := 0) (n := 0) (Nat.le_of_ble_eq_true rfl) (Nat.le_of_ble_eq_true rfl) ?_
            refine lv_if_ne (tgt := 179) hx hb dX3_readUnit_174 (by decide) (fun c174 => ?_) (fun c174 => ?_)
            · skip
              have tc174 := f_ne (k := 0) (by decide) c174
              replace x_v1710 := x_v1710.resolve_left tc174
              clear x_v1711
              refine lv_aload_n hx hb dX3_readUnit_179 rfl (lv_at hl 1 rfl) ?_
              refine lv_iload_n hx hb dX3_readUnit_180 rfl (lv_at hl 0 rfl) ?_
              refine lv_iconst (v := 0) hx hb dX3_readUnit_181 (by decide) ?_
              refine tk_v hH hS hA (tr_V (n := 2) (As := [.int 9, .int 0]) hx hb hml hown hts hkb hH (ox_map hOX rfl) hks hE hS hA (s_LR_put l D cs kf T (tk :: y0 :: O) ((tk, .inr (7, [.ref y0, .int y1, .int n171_0_2, .int n171_0_3, .int n171_0_4, .int n171_0_5, .int n171_0_6, .int n171_0_7])) :: (y0, .inl (cs.1, 900, .inl ft)) :: X) a0 (9) (0) t_a0 (hO.sub (by decide))) kw_642 kw_644 ks_9 kw_4 kw_645 (by decide +kernel) ⟨Nat.le_of_ble_eq_true rfl, Nat.le_of_ble_eq_true rfl⟩ (HT.recv (ci := 3) hkb hH t_a0 (hO.no t_a0 (by decide)) rfl) rfl rfl hl.1 (Nat.le_of_ble_eq_true rfl) dX3_readUnit_182 ⟨Nat.le_of_ble_eq_true rfl, Nat.le_of_ble_eq_true rfl⟩) (fun u H locs hz9 hH hS => ?_)
              have hz9 : u = (T, tk :: y0 :: O, (tk, .inr (7, [.ref y0, .int y1, .int n171_0_2, .int n171_0_3, .int n171_0_4, .int n171_0_5, .int n171_0_6, .int n171_0_7])) :: (y0, .inl (cs.1, 900, .inl ft)) :: X) := hz9
              subst hz9
              have hH : HT D cs A T (tk :: y0 :: O) ((tk, .inr (7, [.ref y0, .int y1, .int n171_0_2, .int n171_0_3, .int n171_0_4, .int n171_0_5, .int n171_0_6, .int n171_0_7])) :: (y0, .inl (cs.1, 900, .inl ft)) :: X) H := hH
              refine W.widen (k := 0) (n := 0) (Nat.le_of_ble_eq_true rfl) (Nat.le_of_ble_eq_true rfl) ?_
              refine lv_iconst (v := 1) hx hb dX3_readUnit_185 (by decide) ?_
              have z9_1 : (1 : Int32).toInt = 1 := by decide
              exact te_z hx hb hr hlocks (by rfl) hH hS (⟨n171_0_2, n171_0_3, n171_0_4, n171_0_5, n171_0_6, n171_0_7, rfl, by decide, by decide, (Or.inr ⟨x_v1710.1, by omega, by omega, (by first | (refine g20.tr x_v240.2.2.2) | (refine g70.tr (GL_nx (fun _ _ => st_xY x_v760.2.2.1) x_v760.2.1)) | (refine g169.tr x_v1710.2.2.2))⟩), Or.inl (by decide), (by omega)⟩) dX3_readUnit_186
            · skip
              have tc174 := f_eq (k := 0) (by decide) c174
              clear x_v1710
              replace x_v1711 := x_v1711.resolve_left (fun q9 => q9 tc174)
              refine lv_iconst (v := 0) hx hb dX3_readUnit_177 (by decide) ?_
              have z9_0 : (0 : Int32).toInt = 0 := by decide
              exact te_z hx hb hr hlocks (by rfl) hH hS (⟨n171_0_2, n171_0_3, n171_0_4, n171_0_5, n171_0_6, n171_0_7, rfl, by decide, by decide, Or.inl (by decide), (Or.inr (by first | (refine BL_f (fun _ _ => st_uND ?_) x_v140 (by decide) x_v141 ?_ <;> omega) | (refine g20.bd x_v241) | (refine BL_f (fun _ _ => st_uBD ?_) x_v540 (by decide) x_v541 ?_ <;> omega) | (refine g60.bd (BL.cons x_v641)) | (refine g70.bd (BL_f (fun _ _ => st_xN x_v761.1) x_v761.2.1 (by decide) x_v761.2.2 ?_); omega) | (refine g88.bd (BL.cons x_v901)) | (refine g98.bd (BL_f (fun _ _ => st_cN ?_) x_v1580 (by decide) x_v1581 ?_) <;> omega) | (refine g169.bd x_v1711))), (by omega)⟩) dX3_readUnit_178
        · skip
          have tc107 := f_ne (k := 0) (by decide) c107
          replace x_v1040 := x_v1040.resolve_left tc107
          clear x_v1041
          refine lv_bipush (v := 8) hx hb dX3_readUnit_110 (by decide) ?_
          refine lv_goto (tgt := 134) hx hb dX3_readUnit_112 (by decide) ?_
          refine lv_istore_n (lv' := [(2, .int 8), (0, .ref a0), (1, .int x1)]) hx hb dX3_readUnit_134 rfl hl (by decide) rfl (fun ls hl => ?_)
          refine lv_iload_n hx hb dX3_readUnit_135 rfl (lv_at hl 0 rfl) ?_
          refine lv_bipush (v := 10) hx hb dX3_readUnit_136 (by decide) ?_
          refine lv_icmp_ne (tgt := 162) hx hb dX3_readUnit_138 (by decide) (fun _ => ?_) (fun c138 => absurd c138 (by decide))
          refine lv_aload_n hx hb dX3_readUnit_162 rfl (lv_at hl 1 rfl) ?_
          refine t_get (ci := 3) (lst := ft3 0 0) (C := RX3) (F := TX3) (N := 3) hx hb hts uX3 hown hkb hH t_a0 (hO.no t_a0 (by decide)) (fun _ h9 => h9) rfl rfl 0 (by decide) rfl kw_82 (fun _ h9 => h9) dX3_readUnit_163 (fun v9 h9 => ?_)
          obtain ⟨v163, rfl, t_v163⟩ := h9
          have e9 := (hU7 _ _ t_v163).symm
          subst e9
          refine tk_v hH hS hA (tr_V (n := 0) (As := []) hx hb hml hown hts hkb hH (ox_map hOX rfl) hks hE hS hA (s_Tok_go l D cs kf T O X tk y0 y1 n90_0_2 n90_0_3 n90_0_4 n90_0_5 n90_0_6 n90_0_7 ft t tn t_tk t_y0 (by omega) (by omega) (by omega) (by omega) (by omega) (by omega) (by omega) htb (by have q9 := (x_v900.1).b; omega) (hO.sub (by decide))) kw_641 kw_453 kw_454 kw_3 kw_455 (by decide +kernel) ⟨Nat.le_of_ble_eq_true rfl, Nat.le_of_ble_eq_true rfl⟩ (x_recv (ci := 7) hkb hH 0 rfl rfl) rfl rfl hl.1 (Nat.le_of_ble_eq_true rfl) dX3_readUnit_166 ⟨Nat.le_of_ble_eq_true rfl, Nat.le_of_ble_eq_true rfl⟩) (fun u H locs hz9 hH hS => ?_)
          obtain ⟨n166_0_2, n166_0_3, n166_0_4, n166_0_5, rfl, x_v1660, x_v1661, x_v1662⟩ := hz9
          have px166 := TSS.nx x_v900.1 x_v1661
          have hH : HT D cs A T (tk :: y0 :: O) ((tk, .inr (7, [.ref y0, .int y1, .int n166_0_2, .int n166_0_3, .int n166_0_4, .int n166_0_5, .int n90_0_6, .int n90_0_7])) :: (y0, .inl (cs.1, 900, .inl ft)) :: X) H := hH
          refine W.widen (k := 0) (n := 0) (Nat.le_of_ble_eq_true rfl) (Nat.le_of_ble_eq_true rfl) ?_
          have g169 : GL t tn [(5, 6)] [(3, 6)] y2 n166_0_2 := g98.tr (GL_nx (fun _ _ => st_cY (by omega)) px166)
          refine lv_aload_n hx hb dX3_readUnit_169 rfl (lv_at hl 1 rfl) ?_
          refine lv_iload_n hx hb dX3_readUnit_170 rfl (lv_at hl 2 rfl) ?_
          refine tk_i hH hS hA (tr_V (n := 1) (As := [.int x1]) hx hb hml hown hts hkb hH (ox_map hOX rfl) hks hE hS hA (s_LR_readSum6 l D cs kf T O X a0 x1 y0 y1 n166_0_2 n166_0_3 n166_0_4 n166_0_5 n90_0_6 n90_0_7 ft t tn tk t_a0 (by omega) (by omega) t_y0 (by omega) (by omega) (by omega) (by omega) (by omega) (by omega) (by omega) htb x_v1660 t_tk hU7 (by omega) (hO.sub (by decide))) kw_648 kw_650 ks_10 kw_4 kw_651 (by decide +kernel) ⟨Nat.le_of_ble_eq_true rfl, Nat.le_of_ble_eq_true rfl⟩ (HT.recv (ci := 3) hkb hH t_a0 (hO.no t_a0 (by decide)) rfl) rfl rfl hl.1 (Nat.le_of_ble_eq_true rfl) dX3_readUnit_171 ⟨Nat.le_of_ble_eq_true rfl, Nat.le_of_ble_eq_true rfl⟩) (fun v171 u H locs hz9 hH hS => ?_)
          obtain ⟨n171_0_2, n171_0_3, n171_0_4, n171_0_5, n171_0_6, n171_0_7, rfl, l_v171, u_v171, x_v1710, x_v1711, x_v1712⟩ := hz9
          have hH : HT D cs A T (tk :: y0 :: O) ((tk, .inr (7, [.ref y0, .int y1, .int n171_0_2, .int n171_0_3, .int n171_0_4, .int n171_0_5, .int n171_0_6, .int n171_0_7])) :: (y0, .inl (cs.1, 900, .inl ft)) :: X) H := hH
          refine W.widen (k := 0) (n := 0) (Nat.le_of_ble_eq_true rfl) (Nat.le_of_ble_eq_true rfl) ?_
          refine lv_if_ne (tgt := 179) hx hb dX3_readUnit_174 (by decide) (fun c174 => ?_) (fun c174 => ?_)
          · skip
            have tc174 := f_ne (k := 0) (by decide) c174
            replace x_v1710 := x_v1710.resolve_left tc174
            clear x_v1711
            refine lv_aload_n hx hb dX3_readUnit_179 rfl (lv_at hl 1 rfl) ?_
            refine lv_iload_n hx hb dX3_readUnit_180 rfl (lv_at hl 0 rfl) ?_
            refine lv_iconst (v := 0) hx hb dX3_readUnit_181 (by decide) ?_
            refine tk_v hH hS hA (tr_V (n := 2) (As := [.int 8, .int 0]) hx hb hml hown hts hkb hH (ox_map hOX rfl) hks hE hS hA (s_LR_put l D cs kf T (tk :: y0 :: O) ((tk, .inr (7, [.ref y0, .int y1, .int n171_0_2, .int n171_0_3, .int n171_0_4, .int n171_0_5, .int n171_0_6, .int n171_0_7])) :: (y0, .inl (cs.1, 900, .inl ft)) :: X) a0 (8) (0) t_a0 (hO.sub (by decide))) kw_642 kw_644 ks_9 kw_4 kw_645 (by decide +kernel) ⟨Nat.le_of_ble_eq_true rfl, Nat.le_of_ble_eq_true rfl⟩ (HT.recv (ci := 3) hkb hH t_a0 (hO.no t_a0 (by decide)) rfl) rfl rfl hl.1 (Nat.le_of_ble_eq_true rfl) dX3_readUnit_182 ⟨Nat.le_of_ble_eq_true rfl, Nat.le_of_ble_eq_true rfl⟩) (fun u H locs hz9 hH hS => ?_)
            have hz9 : u = (T, tk :: y0 :: O, (tk, .inr (7, [.ref y0, .int y1, .int n171_0_2, .int n171_0_3, .int n171_0_4, .int n171_0_5, .int n171_0_6, .int n171_0_7])) :: (y0, .inl (cs.1, 900, .inl ft)) :: X) := hz9
            subst hz9
            have hH : HT D cs A T (tk :: y0 :: O) ((tk, .inr (7, [.ref y0, .int y1, .int n171_0_2, .int n171_0_3, .int n171_0_4, .int n171_0_5, .int n171_0_6, .int n171_0_7])) :: (y0, .inl (cs.1, 900, .inl ft)) :: X) H := hH
            refine W.widen (k := 0) (n := 0) (Nat.le_of_ble_eq_true rfl) (Nat.le_of_ble_eq_true rfl) ?_
            refine lv_iconst (v := 1) hx hb dX3_readUnit_185 (by decide) ?_
            have z9_1 : (1 : Int32).toInt = 1 := by decide
            exact te_z hx hb hr hlocks (by rfl) hH hS (⟨n171_0_2, n171_0_3, n171_0_4, n171_0_5, n171_0_6, n171_0_7, rfl, by decide, by decide, (Or.inr ⟨x_v1710.1, by omega, by omega, (by first | (refine g20.tr x_v240.2.2.2) | (refine g70.tr (GL_nx (fun _ _ => st_xY x_v760.2.2.1) x_v760.2.1)) | (refine g169.tr x_v1710.2.2.2))⟩), Or.inl (by decide), (by omega)⟩) dX3_readUnit_186
          · skip
            have tc174 := f_eq (k := 0) (by decide) c174
            clear x_v1710
            replace x_v1711 := x_v1711.resolve_left (fun q9 => q9 tc174)
            refine lv_iconst (v := 0) hx hb dX3_readUnit_177 (by decide) ?_
            have z9_0 : (0 : Int32).toInt = 0 := by decide
            exact te_z hx hb hr hlocks (by rfl) hH hS (⟨n171_0_2, n171_0_3, n171_0_4, n171_0_5, n171_0_6, n171_0_7, rfl, by decide, by decide, Or.inl (by decide), (Or.inr (by first | (refine BL_f (fun _ _ => st_uND ?_) x_v140 (by decide) x_v141 ?_ <;> omega) | (refine g20.bd x_v241) | (refine BL_f (fun _ _ => st_uBD ?_) x_v540 (by decide) x_v541 ?_ <;> omega) | (refine g60.bd (BL.cons x_v641)) | (refine g70.bd (BL_f (fun _ _ => st_xN x_v761.1) x_v761.2.1 (by decide) x_v761.2.2 ?_); omega) | (refine g88.bd (BL.cons x_v901)) | (refine g98.bd (BL_f (fun _ _ => st_cN ?_) x_v1580 (by decide) x_v1581 ?_) <;> omega) | (refine g169.bd x_v1711))), (by omega)⟩) dX3_readUnit_178
      · skip
        have tc93 := f_eq (k := 0) (by decide) c93
        clear x_v900
        replace x_v901 := x_v901.resolve_left (fun q9 => q9 tc93)
        refine lv_iconst (v := 0) hx hb dX3_readUnit_96 (by decide) ?_
        have z9_0 : (0 : Int32).toInt = 0 := by decide
        exact te_z hx hb hr hlocks (by rfl) hH hS (⟨n90_0_2, n90_0_3, n90_0_4, n90_0_5, n90_0_6, n90_0_7, rfl, by decide, by decide, Or.inl (by decide), (Or.inr (by first | (refine BL_f (fun _ _ => st_uND ?_) x_v140 (by decide) x_v141 ?_ <;> omega) | (refine g20.bd x_v241) | (refine BL_f (fun _ _ => st_uBD ?_) x_v540 (by decide) x_v541 ?_ <;> omega) | (refine g60.bd (BL.cons x_v641)) | (refine g70.bd (BL_f (fun _ _ => st_xN x_v761.1) x_v761.2.1 (by decide) x_v761.2.2 ?_); omega) | (refine g88.bd (BL.cons x_v901)) | (refine g98.bd (BL_f (fun _ _ => st_cN ?_) x_v1580 (by decide) x_v1581 ?_) <;> omega) | (refine g169.bd x_v1711))), (by omega)⟩) dX3_readUnit_97
    · skip
      have tc49 := f_ne (k := 0) (by decide) c49
      replace x_v460 := x_v460.resolve_left tc49
      clear x_v461
      refine lv_aload_n hx hb dX3_readUnit_52 rfl (lv_at hl 0 rfl) ?_
      refine lv_iload_n hx hb dX3_readUnit_53 rfl (lv_at hl 1 rfl) ?_
      refine tk_i hH hS hA (tr_V (n := 1) (As := [.int x1]) hx hb hml hown hts hkb hH (ox_map hOX rfl) hks hE hS hA (s_LR_enter6 l D cs kf T O X a0 x1 y0 y1 y2 y3 y4 y5 y6 y7 ft t tn tk t_a0 (by omega) (by omega) t_y0 (by omega) (by omega) (by omega) (by omega) (by omega) (by omega) (by omega) htb hto t_tk hU7 (hO.sub (by decide))) kw_636 kw_638 ks_8 kw_4 kw_639 (by decide +kernel) ⟨Nat.le_of_ble_eq_true rfl, Nat.le_of_ble_eq_true rfl⟩ (HT.recv (ci := 3) hkb hH t_a0 (hO.no t_a0 (by decide)) rfl) rfl rfl hl.1 (Nat.le_of_ble_eq_true rfl) dX3_readUnit_54 ⟨Nat.le_of_ble_eq_true rfl, Nat.le_of_ble_eq_true rfl⟩) (fun v54 u H locs hz9 hH hS => ?_)
      obtain ⟨n54_0_6, n54_0_7, rfl, l_v54, u_v54, x_v540, x_v541⟩ := hz9
      have hH : HT D cs A T (tk :: y0 :: O) ((tk, .inr (7, [.ref y0, .int y1, .int y2, .int y3, .int y4, .int y5, .int n54_0_6, .int n54_0_7])) :: (y0, .inl (cs.1, 900, .inl ft)) :: X) H := hH
      refine W.widen (k := 0) (n := 0) (Nat.le_of_ble_eq_true rfl) (Nat.le_of_ble_eq_true rfl) ?_
      refine lv_if_eq (tgt := 86) hx hb dX3_readUnit_57 (by decide) (fun c57 => ?_) (fun c57 => ?_)
      · skip
        have tc57 := f_eq (k := 0) (by decide) c57
        refine lv_iconst (v := 0) hx hb dX3_readUnit_86 (by decide) ?_
        have z9_0 : (0 : Int32).toInt = 0 := by decide
        exact te_z hx hb hr hlocks (by rfl) hH hS (⟨y2, y3, y4, y5, n54_0_6, n54_0_7, rfl, by decide, by decide, Or.inl (by decide), (Or.inr (by first | (refine BL_f (fun _ _ => st_uND ?_) x_v140 (by decide) x_v141 ?_ <;> omega) | (refine g20.bd x_v241) | (refine BL_f (fun _ _ => st_uBD ?_) x_v540 (by decide) x_v541 ?_ <;> omega) | (refine g60.bd (BL.cons x_v641)) | (refine g70.bd (BL_f (fun _ _ => st_xN x_v761.1) x_v761.2.1 (by decide) x_v761.2.2 ?_); omega) | (refine g88.bd (BL.cons x_v901)) | (refine g98.bd (BL_f (fun _ _ => st_cN ?_) x_v1580 (by decide) x_v1581 ?_) <;> omega) | (refine g169.bd x_v1711))), (by omega)⟩) dX3_readUnit_87
      · skip
        have tc57 := f_ne (k := 0) (by decide) c57
        exfalso; omega
  · skip
    have tc9 := f_ne (k := 0) (by decide) c9
    replace x_v60 := x_v60.resolve_left tc9
    clear x_v61
    refine lv_aload_n hx hb dX3_readUnit_12 rfl (lv_at hl 0 rfl) ?_
    refine lv_iload_n hx hb dX3_readUnit_13 rfl (lv_at hl 1 rfl) ?_
    refine tk_i hH hS hA (tr_V (n := 1) (As := [.int x1]) hx hb hml hown hts hkb hH (ox_map hOX rfl) hks hE hS hA (s_LR_enter6 l D cs kf T O X a0 x1 y0 y1 y2 y3 y4 y5 y6 y7 ft t tn tk t_a0 (by omega) (by omega) t_y0 (by omega) (by omega) (by omega) (by omega) (by omega) (by omega) (by omega) htb hto t_tk hU7 (hO.sub (by decide))) kw_636 kw_638 ks_8 kw_4 kw_639 (by decide +kernel) ⟨Nat.le_of_ble_eq_true rfl, Nat.le_of_ble_eq_true rfl⟩ (HT.recv (ci := 3) hkb hH t_a0 (hO.no t_a0 (by decide)) rfl) rfl rfl hl.1 (Nat.le_of_ble_eq_true rfl) dX3_readUnit_14 ⟨Nat.le_of_ble_eq_true rfl, Nat.le_of_ble_eq_true rfl⟩) (fun v14 u H locs hz9 hH hS => ?_)
    obtain ⟨n14_0_6, n14_0_7, rfl, l_v14, u_v14, x_v140, x_v141⟩ := hz9
    have hH : HT D cs A T (tk :: y0 :: O) ((tk, .inr (7, [.ref y0, .int y1, .int y2, .int y3, .int y4, .int y5, .int n14_0_6, .int n14_0_7])) :: (y0, .inl (cs.1, 900, .inl ft)) :: X) H := hH
    refine W.widen (k := 0) (n := 0) (Nat.le_of_ble_eq_true rfl) (Nat.le_of_ble_eq_true rfl) ?_
    refine lv_if_eq (tgt := 30) hx hb dX3_readUnit_17 (by decide) (fun c17 => ?_) (fun c17 => ?_)
    · skip
      have tc17 := f_eq (k := 0) (by decide) c17
      refine lv_iconst (v := 0) hx hb dX3_readUnit_30 (by decide) ?_
      have z9_0 : (0 : Int32).toInt = 0 := by decide
      exact te_z hx hb hr hlocks (by rfl) hH hS (⟨y2, y3, y4, y5, n14_0_6, n14_0_7, rfl, by decide, by decide, Or.inl (by decide), (Or.inr (by first | (refine BL_f (fun _ _ => st_uND ?_) x_v140 (by decide) x_v141 ?_ <;> omega) | (refine g20.bd x_v241) | (refine BL_f (fun _ _ => st_uBD ?_) x_v540 (by decide) x_v541 ?_ <;> omega) | (refine g60.bd (BL.cons x_v641)) | (refine g70.bd (BL_f (fun _ _ => st_xN x_v761.1) x_v761.2.1 (by decide) x_v761.2.2 ?_); omega) | (refine g88.bd (BL.cons x_v901)) | (refine g98.bd (BL_f (fun _ _ => st_cN ?_) x_v1580 (by decide) x_v1581 ?_) <;> omega) | (refine g169.bd x_v1711))), (by omega)⟩) dX3_readUnit_31
    · skip
      have tc17 := f_ne (k := 0) (by decide) c17
      exfalso; omega
set_option maxHeartbeats 4000000 in
set_option maxRecDepth 100000 in
theorem s_LR_readBoth6 (l : Launch) (D : va_G) (cs : CS) (kf : KF) (T : TF) (O : List Nat) (X : va_W) (a0 : Nat) (x1 : Int32) (y0 : Nat) (y1 : Int32) (y2 : Int32) (y3 : Int32) (y4 : Int32) (y5 : Int32) (y6 : Int32) (y7 : Int32) (ft : Nat → Int32) (t : Tp) (tn : Nat) (tk : Nat) (t_a0 : T a0 = some (13, 0, 0)) (l_x1 : 6 ≤ x1.toInt) (u_x1 : x1.toInt ≤ 6) (t_y0 : T y0 = some (0, 900, 0)) (l_y1 : 0 ≤ y1.toInt) (u_y1 : y1.toInt ≤ 900) (l_y2 : 0 ≤ y2.toInt) (u_y2 : y2.toInt ≤ 900) (l_y3 : 0 ≤ y3.toInt) (u_y3 : y3.toInt ≤ 900) (hn : y1.toInt = (tn : Int)) (htb : TB ft t) (hto : TSS t tn y2 y3 y4 y5) (t_tk : T tk = some (17, 0, 0)) (hU7 : ∀ (b : Nat) (q : Nat), T b = some (17, 0, q) → b = tk) (hz : y6.toInt = 0) (hO : okO T (tk :: y0 :: O) [1, 13]) : TK l D cs kf yX3_readBoth cX3_readBoth 5 (some (.boolean)) { frames := 10, cells := 0, slots := 0, locals := 218 } [.ref a0, .int x1] T (tk :: y0 :: O) ((tk, .inr (7, [.ref y0, .int y1, .int y2, .int y3, .int y4, .int y5, .int y6, .int y7])) :: (y0, .inl (cs.1, 900, .inl ft)) :: X) (Ti D cs (fun r u => ∃ (n0_2 : Int32) (n0_3 : Int32) (n0_4 : Int32) (n0_5 : Int32) (n0_6 : Int32) (n0_7 : Int32), u = (T, tk :: y0 :: O, (tk, .inr (7, [.ref y0, .int y1, .int n0_2, .int n0_3, .int n0_4, .int n0_5, .int n0_6, .int n0_7])) :: (y0, .inl (cs.1, 900, .inl ft)) :: X) ∧ 0 ≤ r.toInt ∧ r.toInt ≤ 1 ∧ (r.toInt = 0 ∨ (TSS t tn n0_2 n0_3 n0_4 n0_5 ∧ n0_6.toInt = 0 ∧ n0_7.toInt = y7.toInt ∧ GL t tn [(6, 6)] [] y2 n0_2)) ∧ (r.toInt ≠ 0 ∨ BL t tn [(6, 6)] y2 n0_6 n0_7) ∧ (y2.toInt ≤ n0_2.toInt ∧ n0_2.toInt ≤ n0_3.toInt ∧ n0_3.toInt ≤ y1.toInt))) := by
  refine tk_of (by decide) (Nat.le_of_ble_eq_true rfl) (fun p e s m below meth c ls A H locs hx hb hr hml hown hts hlocks hnm hkb hH hS hA hOX hks hE hl => ?_)
  have hown : s.vm.findClass RX3 = some m.cls := hown
  have hl : lv_has ls 5 [(0, .ref a0), (1, .int x1)] := hl
  have hOXf := hOX
  have hb9 := hto.b
  have hc9 := hto.cs
  refine lv_aload_n hx hb dX3_readBoth_0 rfl (lv_at hl 0 rfl) ?_
  refine lv_iload_n hx hb dX3_readBoth_1 rfl (lv_at hl 1 rfl) ?_
  refine tk_i hH hS hA (tr_V (n := 1) (As := [.int x1]) hx hb hml hown hts hkb hH (ox_map hOX rfl) hks hE hS hA (s_LR_readUnit6 l D cs kf T O X a0 x1 y0 y1 y2 y3 y4 y5 y6 y7 ft t tn tk t_a0 (by omega) (by omega) t_y0 (by omega) (by omega) (by omega) (by omega) (by omega) (by omega) (by omega) htb hto t_tk hU7 (by omega) (hO.sub (by decide))) kw_630 kw_632 ks_7 kw_4 kw_633 (by decide +kernel) ⟨Nat.le_of_ble_eq_true rfl, Nat.le_of_ble_eq_true rfl⟩ (HT.recv (ci := 3) hkb hH t_a0 (hO.no t_a0 (by decide)) rfl) rfl rfl hl.1 (Nat.le_of_ble_eq_true rfl) dX3_readBoth_2 ⟨Nat.le_of_ble_eq_true rfl, Nat.le_of_ble_eq_true rfl⟩) (fun v2 u H locs hz9 hH hS => ?_)
  obtain ⟨n2_0_2, n2_0_3, n2_0_4, n2_0_5, n2_0_6, n2_0_7, rfl, l_v2, u_v2, x_v20, x_v21, x_v22⟩ := hz9
  have hH : HT D cs A T (tk :: y0 :: O) ((tk, .inr (7, [.ref y0, .int y1, .int n2_0_2, .int n2_0_3, .int n2_0_4, .int n2_0_5, .int n2_0_6, .int n2_0_7])) :: (y0, .inl (cs.1, 900, .inl ft)) :: X) H := hH
  refine W.widen (k := 0) (n := 0) (Nat.le_of_ble_eq_true rfl) (Nat.le_of_ble_eq_true rfl) ?_
  refine lv_istore_n (lv' := [(2, .int v2), (0, .ref a0), (1, .int x1)]) hx hb dX3_readBoth_5 rfl hl (by decide) rfl (fun ls hl => ?_)
  refine lv_iconst (v := 0) hx hb dX3_readBoth_6 (by decide) ?_
  have J8 : ∀ (n : Nat) (p8_3 : Int32) (p8_2 : Int32) (f8_102 : Int32) (f8_103 : Int32) (f8_104 : Int32) (f8_105 : Int32) (f8_106 : Int32) (f8_107 : Int32) (H : Heap) (locs : List Loc) (ls : Array Slot), (900 - p8_3.toInt).toNat = n → (0 ≤ p8_3.toInt) → (p8_3.toInt ≤ 900) → (0 ≤ p8_2.toInt) → (p8_2.toInt ≤ 1) → (0 ≤ f8_102.toInt) → (f8_102.toInt ≤ 900) → (0 ≤ f8_103.toInt) → (f8_103.toInt ≤ 900) → (LTI t tn [(6, 6)] [(7, 6)] y2 p8_2 f8_102 f8_103 f8_104 f8_105 f8_106 f8_107 y7) → (y2.toInt ≤ f8_102.toInt ∧ f8_102.toInt ≤ f8_103.toInt ∧ f8_103.toInt ≤ y1.toInt) → (p8_2.toInt = 0 ∨ p8_3.toInt ≤ f8_102.toInt) → HT D cs A T (tk :: y0 :: O) ((tk, .inr (7, [.ref y0, .int y1, .int f8_102, .int f8_103, .int f8_104, .int f8_105, .int f8_106, .int f8_107])) :: (y0, .inl (cs.1, 900, .inl ft)) :: X) H → va_S A s.heap H locs → lv_has ls 5 [(3, .int p8_3), (2, .int p8_2), (0, .ref a0), (1, .int x1)] → W p l e { frames := 10, cells := 0, slots := 0, locals := 218 } s m [.ref a0, .int x1].toArray below meth c H locs 0 0 (MQ below (Ti D cs (fun r u => ∃ (n0_2 : Int32) (n0_3 : Int32) (n0_4 : Int32) (n0_5 : Int32) (n0_6 : Int32) (n0_7 : Int32), u = (T, tk :: y0 :: O, (tk, .inr (7, [.ref y0, .int y1, .int n0_2, .int n0_3, .int n0_4, .int n0_5, .int n0_6, .int n0_7])) :: (y0, .inl (cs.1, 900, .inl ft)) :: X) ∧ 0 ≤ r.toInt ∧ r.toInt ≤ 1 ∧ (r.toInt = 0 ∨ (TSS t tn n0_2 n0_3 n0_4 n0_5 ∧ n0_6.toInt = 0 ∧ n0_7.toInt = y7.toInt ∧ GL t tn [(6, 6)] [] y2 n0_2)) ∧ (r.toInt ≠ 0 ∨ BL t tn [(6, 6)] y2 n0_6 n0_7) ∧ (y2.toInt ≤ n0_2.toInt ∧ n0_2.toInt ≤ n0_3.toInt ∧ n0_3.toInt ≤ y1.toInt)) A) [.ref a0, .int x1].toArray s 0 0 A) (F0 m 8 ls []) := by
    intro n
    induction n using Nat.strongRecOn with
    | _ n ih8 =>
      intro p8_3 p8_2 f8_102 f8_103 f8_104 f8_105 f8_106 f8_107 H locs ls hm8 l_p8_3 u_p8_3 l_p8_2 u_p8_2 l_f8_102 u_f8_102 l_f8_103 u_f8_103 i8t i8n i8c hH hS hl
      refine lv_iload_n hx hb dX3_readBoth_8 rfl (lv_at hl 0 rfl) ?_
      refine lv_sipush (v := 900) hx hb dX3_readBoth_9 (by decide) ?_
      refine lv_icmp_ge (tgt := 68) hx hb dX3_readBoth_12 (by decide) (fun c12 => ?_) (fun c12 => ?_)
      · skip
        have tc12 := f_ge (k := 900) (by decide) c12
        have hk9 : p8_2.toInt = 0 ∨ GL t tn [(7, 6)] [] f8_102 f8_102 := by first | (refine Or.inl ?_; omega) | exact Or.inr (fun _ _ => st_bN x_v251) | (by_cases q9 : p8_2.toInt = 0; exact Or.inl q9; refine Or.inr (fun _ _ => st_bN ?_); have q8 := LTI.ok i8t q9; have q7 := q8.1.b; rw [kd_end (by omega)]; decide)
        have hz9 := LTI.en i8t hk9
        refine lv_iload_n hx hb dX3_readBoth_68 rfl (lv_at hl 1 rfl) ?_
        exact te_z hx hb hr hlocks (nar01 (by omega) (by omega)) hH hS (⟨f8_102, f8_103, f8_104, f8_105, f8_106, f8_107, rfl, by omega, by omega, hz9.1, hz9.2, (by omega)⟩) dX3_readBoth_69
      · skip
        have tc12 := f_nge (k := 900) (by decide) c12
        refine lv_iload_n hx hb dX3_readBoth_15 rfl (lv_at hl 1 rfl) ?_
        refine lv_if_eq (tgt := 68) hx hb dX3_readBoth_16 (by decide) (fun c16 => ?_) (fun c16 => ?_)
        · skip
          have tc16 := f_eq (k := 0) (by decide) c16
          have hk9 : p8_2.toInt = 0 ∨ GL t tn [(7, 6)] [] f8_102 f8_102 := by first | (refine Or.inl ?_; omega) | exact Or.inr (fun _ _ => st_bN x_v251) | (by_cases q9 : p8_2.toInt = 0; exact Or.inl q9; refine Or.inr (fun _ _ => st_bN ?_); have q8 := LTI.ok i8t q9; have q7 := q8.1.b; rw [kd_end (by omega)]; decide)
          have hz9 := LTI.en i8t hk9
          refine lv_iload_n hx hb dX3_readBoth_68 rfl (lv_at hl 1 rfl) ?_
          exact te_z hx hb hr hlocks (nar01 (by omega) (by omega)) hH hS (⟨f8_102, f8_103, f8_104, f8_105, f8_106, f8_107, rfl, by omega, by omega, hz9.1, hz9.2, (by omega)⟩) dX3_readBoth_69
        · skip
          have tc16 := f_ne (k := 0) (by decide) c16
          have h19 := LTI.ok i8t (by omega)
          have hb19 := h19.1.b
          have hc19 := h19.1.cs
          refine lv_aload_n hx hb dX3_readBoth_19 rfl (lv_at hl 2 rfl) ?_
          refine t_get (ci := 3) (lst := ft3 0 0) (C := RX3) (F := TX3) (N := 3) hx hb hts uX3 hown hkb hH t_a0 (hO.no t_a0 (by decide)) (fun _ h9 => h9) rfl rfl 0 (by decide) rfl kw_82 (fun _ h9 => h9) dX3_readBoth_20 (fun v9 h9 => ?_)
          obtain ⟨v20, rfl, t_v20⟩ := h9
          have e9 := (hU7 _ _ t_v20).symm
          subst e9
          refine va_ldcS (q := kf.1 15) hx hb hown (hks ("FootholdWall$LawReader", 63, "and", 15) (by decide +kernel)) dX3_readBoth_23 ?_
          refine tk_i hH hS hA (tr_V (n := 1) (As := [.ref (kf.1 15)]) hx hb hml hown hts hkb hH (ox_map hOX rfl) hks hE hS hA (s_Tok_isWord l D cs kf T O X tk 15 y0 y1 f8_102 f8_103 f8_104 f8_105 f8_106 f8_107 ft t tn 14 t_tk (by decide) t_y0 (by omega) (by omega) (by omega) (by omega) (by omega) (by omega) (by omega) htb h19.1 (by decide) (by decide) (hO.sub (by decide))) kw_635 kw_551 kw_552 kw_3 kw_553 (by decide +kernel) ⟨Nat.le_of_ble_eq_true rfl, Nat.le_of_ble_eq_true rfl⟩ (x_recv (ci := 7) hkb hH 0 rfl rfl) rfl rfl hl.1 (Nat.le_of_ble_eq_true rfl) dX3_readBoth_25 ⟨Nat.le_of_ble_eq_true rfl, Nat.le_of_ble_eq_true rfl⟩) (fun v25 u H locs hz9 hH hS => ?_)
          obtain ⟨rfl, l_v25, u_v25, x_v250, x_v251⟩ := hz9
          have hH : HT D cs A T (tk :: y0 :: O) ((tk, .inr (7, [.ref y0, .int y1, .int f8_102, .int f8_103, .int f8_104, .int f8_105, .int f8_106, .int f8_107])) :: (y0, .inl (cs.1, 900, .inl ft)) :: X) H := hH
          refine W.widen (k := 0) (n := 0) (Nat.le_of_ble_eq_true rfl) (Nat.le_of_ble_eq_true rfl) ?_
          refine lv_if_eq (tgt := 68) hx hb dX3_readBoth_28 (by decide) (fun c28 => ?_) (fun c28 => ?_)
          · skip
            have tc28 := f_eq (k := 0) (by decide) c28
            clear x_v250
            replace x_v251 := x_v251.resolve_left (fun q9 => q9 tc28)
            have hk9 : p8_2.toInt = 0 ∨ GL t tn [(7, 6)] [] f8_102 f8_102 := by first | (refine Or.inl ?_; omega) | exact Or.inr (fun _ _ => st_bN x_v251) | (by_cases q9 : p8_2.toInt = 0; exact Or.inl q9; refine Or.inr (fun _ _ => st_bN ?_); have q8 := LTI.ok i8t q9; have q7 := q8.1.b; rw [kd_end (by omega)]; decide)
            have hz9 := LTI.en i8t hk9
            refine lv_iload_n hx hb dX3_readBoth_68 rfl (lv_at hl 1 rfl) ?_
            exact te_z hx hb hr hlocks (nar01 (by omega) (by omega)) hH hS (⟨f8_102, f8_103, f8_104, f8_105, f8_106, f8_107, rfl, by omega, by omega, hz9.1, hz9.2, (by omega)⟩) dX3_readBoth_69
          · skip
            have tc28 := f_ne (k := 0) (by decide) c28
            replace x_v250 := x_v250.resolve_left tc28
            clear x_v251
            refine lv_aload_n hx hb dX3_readBoth_31 rfl (lv_at hl 2 rfl) ?_
            refine t_get (ci := 3) (lst := ft3 0 0) (C := RX3) (F := TX3) (N := 3) hx hb hts uX3 hown hkb hH t_a0 (hO.no t_a0 (by decide)) (fun _ h9 => h9) rfl rfl 0 (by decide) rfl kw_82 (fun _ h9 => h9) dX3_readBoth_32 (fun v9 h9 => ?_)
            obtain ⟨v32, rfl, t_v32⟩ := h9
            have e9 := (hU7 _ _ t_v32).symm
            subst e9
            have hl9 := h19.1.lt (by omega)
            refine tk_v hH hS hA (tr_V (n := 0) (As := []) hx hb hml hown hts hkb hH (ox_map hOX rfl) hks hE hS hA (s_Tok_go l D cs kf T O X tk y0 y1 f8_102 f8_103 f8_104 f8_105 f8_106 f8_107 ft t tn t_tk t_y0 (by omega) (by omega) (by omega) (by omega) (by omega) (by omega) (by omega) htb (by have q9 := (h19.1).b; omega) (hO.sub (by decide))) kw_641 kw_453 kw_454 kw_3 kw_455 (by decide +kernel) ⟨Nat.le_of_ble_eq_true rfl, Nat.le_of_ble_eq_true rfl⟩ (x_recv (ci := 7) hkb hH 0 rfl rfl) rfl rfl hl.1 (Nat.le_of_ble_eq_true rfl) dX3_readBoth_35 ⟨Nat.le_of_ble_eq_true rfl, Nat.le_of_ble_eq_true rfl⟩) (fun u H locs hz9 hH hS => ?_)
            obtain ⟨n35_0_2, n35_0_3, n35_0_4, n35_0_5, rfl, x_v350, x_v351, x_v352⟩ := hz9
            have px35 := TSS.nx h19.1 x_v351
            have hH : HT D cs A T (tk :: y0 :: O) ((tk, .inr (7, [.ref y0, .int y1, .int n35_0_2, .int n35_0_3, .int n35_0_4, .int n35_0_5, .int f8_106, .int f8_107])) :: (y0, .inl (cs.1, 900, .inl ft)) :: X) H := hH
            refine W.widen (k := 0) (n := 0) (Nat.le_of_ble_eq_true rfl) (Nat.le_of_ble_eq_true rfl) ?_
            refine lv_aload_n hx hb dX3_readBoth_38 rfl (lv_at hl 2 rfl) ?_
            refine t_get (ci := 3) (lst := ft3 0 0) (C := RX3) (F := TX3) (N := 3) hx hb hts uX3 hown hkb hH t_a0 (hO.no t_a0 (by decide)) (fun _ h9 => h9) rfl rfl 2 (by decide) rfl kw_84 (fun _ h9 => h9) dX3_readBoth_39 (fun v9 h9 => ?_)
            obtain ⟨v39, rfl, l_v39, u_v39⟩ := h9
            refine lv_istore (lv' := [(4, .int v39), (3, .int p8_3), (2, .int p8_2), (0, .ref a0), (1, .int x1)]) hx hb dX3_readBoth_42 hl (by decide) rfl (fun ls hl => ?_)
            refine lv_aload_n hx hb dX3_readBoth_44 rfl (lv_at hl 3 rfl) ?_
            refine lv_iconst (v := 3) hx hb dX3_readBoth_45 (by decide) ?_
            refine lv_iconst (v := 0) hx hb dX3_readBoth_46 (by decide) ?_
            refine tk_v hH hS hA (tr_V (n := 2) (As := [.int 3, .int 0]) hx hb hml hown hts hkb hH (ox_map hOX rfl) hks hE hS hA (s_LR_put l D cs kf T (tk :: y0 :: O) ((tk, .inr (7, [.ref y0, .int y1, .int n35_0_2, .int n35_0_3, .int n35_0_4, .int n35_0_5, .int f8_106, .int f8_107])) :: (y0, .inl (cs.1, 900, .inl ft)) :: X) a0 (3) (0) t_a0 (hO.sub (by decide))) kw_642 kw_644 ks_9 kw_4 kw_645 (by decide +kernel) ⟨Nat.le_of_ble_eq_true rfl, Nat.le_of_ble_eq_true rfl⟩ (HT.recv (ci := 3) hkb hH t_a0 (hO.no t_a0 (by decide)) rfl) rfl rfl hl.1 (Nat.le_of_ble_eq_true rfl) dX3_readBoth_47 ⟨Nat.le_of_ble_eq_true rfl, Nat.le_of_ble_eq_true rfl⟩) (fun u H locs hz9 hH hS => ?_)
            have hz9 : u = (T, tk :: y0 :: O, (tk, .inr (7, [.ref y0, .int y1, .int n35_0_2, .int n35_0_3, .int n35_0_4, .int n35_0_5, .int f8_106, .int f8_107])) :: (y0, .inl (cs.1, 900, .inl ft)) :: X) := hz9
            subst hz9
            have hH : HT D cs A T (tk :: y0 :: O) ((tk, .inr (7, [.ref y0, .int y1, .int n35_0_2, .int n35_0_3, .int n35_0_4, .int n35_0_5, .int f8_106, .int f8_107])) :: (y0, .inl (cs.1, 900, .inl ft)) :: X) H := hH
            refine W.widen (k := 0) (n := 0) (Nat.le_of_ble_eq_true rfl) (Nat.le_of_ble_eq_true rfl) ?_
            refine lv_aload_n hx hb dX3_readBoth_50 rfl (lv_at hl 3 rfl) ?_
            refine lv_iload_n hx hb dX3_readBoth_51 rfl (lv_at hl 4 rfl) ?_
            refine tk_i hH hS hA (tr_V (n := 1) (As := [.int x1]) hx hb hml hown hts hkb hH (ox_map hOX rfl) hks hE hS hA (s_LR_readUnit6 l D cs kf T O X a0 x1 y0 y1 n35_0_2 n35_0_3 n35_0_4 n35_0_5 f8_106 f8_107 ft t tn tk t_a0 (by omega) (by omega) t_y0 (by omega) (by omega) (by omega) (by omega) (by omega) (by omega) (by omega) htb x_v350 t_tk hU7 (by omega) (hO.sub (by decide))) kw_630 kw_632 ks_7 kw_4 kw_633 (by decide +kernel) ⟨Nat.le_of_ble_eq_true rfl, Nat.le_of_ble_eq_true rfl⟩ (HT.recv (ci := 3) hkb hH t_a0 (hO.no t_a0 (by decide)) rfl) rfl rfl hl.1 (Nat.le_of_ble_eq_true rfl) dX3_readBoth_52 ⟨Nat.le_of_ble_eq_true rfl, Nat.le_of_ble_eq_true rfl⟩) (fun v52 u H locs hz9 hH hS => ?_)
            obtain ⟨n52_0_2, n52_0_3, n52_0_4, n52_0_5, n52_0_6, n52_0_7, rfl, l_v52, u_v52, x_v520, x_v521, x_v522⟩ := hz9
            have hH : HT D cs A T (tk :: y0 :: O) ((tk, .inr (7, [.ref y0, .int y1, .int n52_0_2, .int n52_0_3, .int n52_0_4, .int n52_0_5, .int n52_0_6, .int n52_0_7])) :: (y0, .inl (cs.1, 900, .inl ft)) :: X) H := hH
            refine W.widen (k := 0) (n := 0) (Nat.le_of_ble_eq_true rfl) (Nat.le_of_ble_eq_true rfl) ?_
            refine lv_istore_n (lv' := [(2, .int v52), (4, .int v39), (3, .int p8_3), (0, .ref a0), (1, .int x1)]) hx hb dX3_readBoth_55 rfl hl (by decide) rfl (fun ls hl => ?_)
            refine lv_aload_n hx hb dX3_readBoth_56 rfl (lv_at hl 3 rfl) ?_
            refine lv_iload hx hb dX3_readBoth_57 (lv_at hl 1 rfl) ?_
            refine tk_v hH hS hA (tr_V (n := 1) (As := [.int v39]) hx hb hml hown hts hkb hH (ox_map hOX rfl) hks hE hS hA (s_LR_aimSkip l D cs kf T (tk :: y0 :: O) ((tk, .inr (7, [.ref y0, .int y1, .int n52_0_2, .int n52_0_3, .int n52_0_4, .int n52_0_5, .int n52_0_6, .int n52_0_7])) :: (y0, .inl (cs.1, 900, .inl ft)) :: X) a0 v39 t_a0 (hO.sub (by decide))) kw_672 kw_674 ks_14 kw_4 kw_675 (by decide +kernel) ⟨Nat.le_of_ble_eq_true rfl, Nat.le_of_ble_eq_true rfl⟩ (HT.recv (ci := 3) hkb hH t_a0 (hO.no t_a0 (by decide)) rfl) rfl rfl hl.1 (Nat.le_of_ble_eq_true rfl) dX3_readBoth_59 ⟨Nat.le_of_ble_eq_true rfl, Nat.le_of_ble_eq_true rfl⟩) (fun u H locs hz9 hH hS => ?_)
            have hz9 : u = (T, tk :: y0 :: O, (tk, .inr (7, [.ref y0, .int y1, .int n52_0_2, .int n52_0_3, .int n52_0_4, .int n52_0_5, .int n52_0_6, .int n52_0_7])) :: (y0, .inl (cs.1, 900, .inl ft)) :: X) := hz9
            subst hz9
            have hH : HT D cs A T (tk :: y0 :: O) ((tk, .inr (7, [.ref y0, .int y1, .int n52_0_2, .int n52_0_3, .int n52_0_4, .int n52_0_5, .int n52_0_6, .int n52_0_7])) :: (y0, .inl (cs.1, 900, .inl ft)) :: X) H := hH
            refine W.widen (k := 0) (n := 0) (Nat.le_of_ble_eq_true rfl) (Nat.le_of_ble_eq_true rfl) ?_
            obtain ⟨v62, ev62⟩ : ∃ y : Int32, y = p8_3 + 1 := ⟨_, rfl⟩
            have tv62 : v62.toInt = p8_3.toInt + (1) := by rw [ev62]; exact add_i rfl (by decide) (by omega) (by omega)
            refine lv_iinc (v := v62) (lv' := [(3, .int v62), (2, .int v52), (4, .int v39), (0, .ref a0), (1, .int x1)]) hx hb dX3_readBoth_62 hl (k := 2) rfl (by rw [ev62]; rfl) (by decide) rfl (fun ls hl => ?_)
            refine lv_goto (tgt := 8) hx hb dX3_readBoth_65 (by decide) ?_
            exact ih8 _ (by omega) v62 v52 n52_0_2 n52_0_3 n52_0_4 n52_0_5 n52_0_6 n52_0_7 _ _ _ rfl (by omega) (by omega) (by omega) (by omega) (by omega) (by omega) (by omega) (by omega) (by first | (refine LTI.st (fun _ _ => st_b) x_v20 x_v21 l_v2 u_v2 rfl) | (refine LTI.st (h19.2.2.2.tr (GL_nx (fun _ _ => st_bY x_v250) px35)) x_v520 x_v521 l_v52 u_v52 ?_; omega)) (by omega) (by omega) hH hS (lv_sub hl [0, 1, 3, 4] rfl)
  refine lv_istore_n (lv' := [(3, .int 0), (2, .int v2), (0, .ref a0), (1, .int x1)]) hx hb dX3_readBoth_7 rfl hl (by decide) rfl (fun ls hl => ?_)
  have z_0 : (0 : Int32).toInt = 0 := by decide
  exact J8 _ 0 v2 n2_0_2 n2_0_3 n2_0_4 n2_0_5 n2_0_6 n2_0_7 _ _ _ rfl (by decide) (by decide) (by omega) (by omega) (by omega) (by omega) (by omega) (by omega) (by first | (refine LTI.st (fun _ _ => st_b) x_v20 x_v21 l_v2 u_v2 rfl) | (refine LTI.st (h19.2.2.2.tr (GL_nx (fun _ _ => st_bY x_v250) px35)) x_v520 x_v521 l_v52 u_v52 ?_; omega)) (by omega) (by omega) hH hS (lv_sub hl [0, 1, 2, 3] rfl)
set_option maxHeartbeats 4000000 in
set_option maxRecDepth 100000 in
theorem s_LR_readTruth6 (l : Launch) (D : va_G) (cs : CS) (kf : KF) (T : TF) (O : List Nat) (X : va_W) (a0 : Nat) (x1 : Int32) (y0 : Nat) (y1 : Int32) (y2 : Int32) (y3 : Int32) (y4 : Int32) (y5 : Int32) (y6 : Int32) (y7 : Int32) (ft : Nat → Int32) (t : Tp) (tn : Nat) (tk : Nat) (t_a0 : T a0 = some (13, 0, 0)) (l_x1 : 6 ≤ x1.toInt) (u_x1 : x1.toInt ≤ 6) (t_y0 : T y0 = some (0, 900, 0)) (l_y1 : 0 ≤ y1.toInt) (u_y1 : y1.toInt ≤ 900) (l_y2 : 0 ≤ y2.toInt) (u_y2 : y2.toInt ≤ 900) (l_y3 : 0 ≤ y3.toInt) (u_y3 : y3.toInt ≤ 900) (hn : y1.toInt = (tn : Int)) (htb : TB ft t) (hto : TSS t tn y2 y3 y4 y5) (t_tk : T tk = some (17, 0, 0)) (hU7 : ∀ (b : Nat) (q : Nat), T b = some (17, 0, q) → b = tk) (hz : y6.toInt = 0) (hO : okO T (tk :: y0 :: O) [1, 13]) : TK l D cs kf yX3_readTruth cX3_readTruth 5 (some (.boolean)) { frames := 11, cells := 0, slots := 0, locals := 242 } [.ref a0, .int x1] T (tk :: y0 :: O) ((tk, .inr (7, [.ref y0, .int y1, .int y2, .int y3, .int y4, .int y5, .int y6, .int y7])) :: (y0, .inl (cs.1, 900, .inl ft)) :: X) (Ti D cs (fun r u => ∃ (n0_2 : Int32) (n0_3 : Int32) (n0_4 : Int32) (n0_5 : Int32) (n0_6 : Int32) (n0_7 : Int32), u = (T, tk :: y0 :: O, (tk, .inr (7, [.ref y0, .int y1, .int n0_2, .int n0_3, .int n0_4, .int n0_5, .int n0_6, .int n0_7])) :: (y0, .inl (cs.1, 900, .inl ft)) :: X) ∧ 0 ≤ r.toInt ∧ r.toInt ≤ 1 ∧ (r.toInt = 0 ∨ (TSS t tn n0_2 n0_3 n0_4 n0_5 ∧ n0_6.toInt = 0 ∧ n0_7.toInt = y7.toInt ∧ GL t tn [(8, 6)] [] y2 n0_2)) ∧ (r.toInt ≠ 0 ∨ BL t tn [(8, 6)] y2 n0_6 n0_7) ∧ (y2.toInt ≤ n0_2.toInt ∧ n0_2.toInt ≤ n0_3.toInt ∧ n0_3.toInt ≤ y1.toInt))) := by
  refine tk_of (by decide) (Nat.le_of_ble_eq_true rfl) (fun p e s m below meth c ls A H locs hx hb hr hml hown hts hlocks hnm hkb hH hS hA hOX hks hE hl => ?_)
  have hown : s.vm.findClass RX3 = some m.cls := hown
  have hl : lv_has ls 5 [(0, .ref a0), (1, .int x1)] := hl
  have hOXf := hOX
  have hb9 := hto.b
  have hc9 := hto.cs
  refine lv_aload_n hx hb dX3_readTruth_0 rfl (lv_at hl 0 rfl) ?_
  refine lv_iload_n hx hb dX3_readTruth_1 rfl (lv_at hl 1 rfl) ?_
  refine tk_i hH hS hA (tr_V (n := 1) (As := [.int x1]) hx hb hml hown hts hkb hH (ox_map hOX rfl) hks hE hS hA (s_LR_readBoth6 l D cs kf T O X a0 x1 y0 y1 y2 y3 y4 y5 y6 y7 ft t tn tk t_a0 (by omega) (by omega) t_y0 (by omega) (by omega) (by omega) (by omega) (by omega) (by omega) (by omega) htb hto t_tk hU7 (by omega) (hO.sub (by decide))) kw_626 kw_628 ks_6 kw_4 kw_629 (by decide +kernel) ⟨Nat.le_of_ble_eq_true rfl, Nat.le_of_ble_eq_true rfl⟩ (HT.recv (ci := 3) hkb hH t_a0 (hO.no t_a0 (by decide)) rfl) rfl rfl hl.1 (Nat.le_of_ble_eq_true rfl) dX3_readTruth_2 ⟨Nat.le_of_ble_eq_true rfl, Nat.le_of_ble_eq_true rfl⟩) (fun v2 u H locs hz9 hH hS => ?_)
  obtain ⟨n2_0_2, n2_0_3, n2_0_4, n2_0_5, n2_0_6, n2_0_7, rfl, l_v2, u_v2, x_v20, x_v21, x_v22⟩ := hz9
  have hH : HT D cs A T (tk :: y0 :: O) ((tk, .inr (7, [.ref y0, .int y1, .int n2_0_2, .int n2_0_3, .int n2_0_4, .int n2_0_5, .int n2_0_6, .int n2_0_7])) :: (y0, .inl (cs.1, 900, .inl ft)) :: X) H := hH
  refine W.widen (k := 0) (n := 0) (Nat.le_of_ble_eq_true rfl) (Nat.le_of_ble_eq_true rfl) ?_
  refine lv_istore_n (lv' := [(2, .int v2), (0, .ref a0), (1, .int x1)]) hx hb dX3_readTruth_5 rfl hl (by decide) rfl (fun ls hl => ?_)
  refine lv_iconst (v := 0) hx hb dX3_readTruth_6 (by decide) ?_
  have J8 : ∀ (n : Nat) (p8_3 : Int32) (p8_2 : Int32) (f8_102 : Int32) (f8_103 : Int32) (f8_104 : Int32) (f8_105 : Int32) (f8_106 : Int32) (f8_107 : Int32) (H : Heap) (locs : List Loc) (ls : Array Slot), (900 - p8_3.toInt).toNat = n → (0 ≤ p8_3.toInt) → (p8_3.toInt ≤ 900) → (0 ≤ p8_2.toInt) → (p8_2.toInt ≤ 1) → (0 ≤ f8_102.toInt) → (f8_102.toInt ≤ 900) → (0 ≤ f8_103.toInt) → (f8_103.toInt ≤ 900) → (LTI t tn [(8, 6)] [(9, 6)] y2 p8_2 f8_102 f8_103 f8_104 f8_105 f8_106 f8_107 y7) → (y2.toInt ≤ f8_102.toInt ∧ f8_102.toInt ≤ f8_103.toInt ∧ f8_103.toInt ≤ y1.toInt) → (p8_2.toInt = 0 ∨ p8_3.toInt ≤ f8_102.toInt) → HT D cs A T (tk :: y0 :: O) ((tk, .inr (7, [.ref y0, .int y1, .int f8_102, .int f8_103, .int f8_104, .int f8_105, .int f8_106, .int f8_107])) :: (y0, .inl (cs.1, 900, .inl ft)) :: X) H → va_S A s.heap H locs → lv_has ls 5 [(3, .int p8_3), (2, .int p8_2), (0, .ref a0), (1, .int x1)] → W p l e { frames := 11, cells := 0, slots := 0, locals := 242 } s m [.ref a0, .int x1].toArray below meth c H locs 0 0 (MQ below (Ti D cs (fun r u => ∃ (n0_2 : Int32) (n0_3 : Int32) (n0_4 : Int32) (n0_5 : Int32) (n0_6 : Int32) (n0_7 : Int32), u = (T, tk :: y0 :: O, (tk, .inr (7, [.ref y0, .int y1, .int n0_2, .int n0_3, .int n0_4, .int n0_5, .int n0_6, .int n0_7])) :: (y0, .inl (cs.1, 900, .inl ft)) :: X) ∧ 0 ≤ r.toInt ∧ r.toInt ≤ 1 ∧ (r.toInt = 0 ∨ (TSS t tn n0_2 n0_3 n0_4 n0_5 ∧ n0_6.toInt = 0 ∧ n0_7.toInt = y7.toInt ∧ GL t tn [(8, 6)] [] y2 n0_2)) ∧ (r.toInt ≠ 0 ∨ BL t tn [(8, 6)] y2 n0_6 n0_7) ∧ (y2.toInt ≤ n0_2.toInt ∧ n0_2.toInt ≤ n0_3.toInt ∧ n0_3.toInt ≤ y1.toInt)) A) [.ref a0, .int x1].toArray s 0 0 A) (F0 m 8 ls []) := by
    intro n
    induction n using Nat.strongRecOn with
    | _ n ih8 =>
      intro p8_3 p8_2 f8_102 f8_103 f8_104 f8_105 f8_106 f8_107 H locs ls hm8 l_p8_3 u_p8_3 l_p8_2 u_p8_2 l_f8_102 u_f8_102 l_f8_103 u_f8_103 i8t i8n i8c hH hS hl
      refine lv_iload_n hx hb dX3_readTruth_8 rfl (lv_at hl 0 rfl) ?_
      refine lv_sipush (v := 900) hx hb dX3_readTruth_9 (by decide) ?_
      refine lv_icmp_ge (tgt := 68) hx hb dX3_readTruth_12 (by decide) (fun c12 => ?_) (fun c12 => ?_)
      · skip
        have tc12 := f_ge (k := 900) (by decide) c12
        have hk9 : p8_2.toInt = 0 ∨ GL t tn [(9, 6)] [] f8_102 f8_102 := by first | (refine Or.inl ?_; omega) | exact Or.inr (fun _ _ => st_rN x_v251) | (by_cases q9 : p8_2.toInt = 0; exact Or.inl q9; refine Or.inr (fun _ _ => st_rN ?_); have q8 := LTI.ok i8t q9; have q7 := q8.1.b; rw [kd_end (by omega)]; decide)
        have hz9 := LTI.en i8t hk9
        refine lv_iload_n hx hb dX3_readTruth_68 rfl (lv_at hl 1 rfl) ?_
        exact te_z hx hb hr hlocks (nar01 (by omega) (by omega)) hH hS (⟨f8_102, f8_103, f8_104, f8_105, f8_106, f8_107, rfl, by omega, by omega, hz9.1, hz9.2, (by omega)⟩) dX3_readTruth_69
      · skip
        have tc12 := f_nge (k := 900) (by decide) c12
        refine lv_iload_n hx hb dX3_readTruth_15 rfl (lv_at hl 1 rfl) ?_
        refine lv_if_eq (tgt := 68) hx hb dX3_readTruth_16 (by decide) (fun c16 => ?_) (fun c16 => ?_)
        · skip
          have tc16 := f_eq (k := 0) (by decide) c16
          have hk9 : p8_2.toInt = 0 ∨ GL t tn [(9, 6)] [] f8_102 f8_102 := by first | (refine Or.inl ?_; omega) | exact Or.inr (fun _ _ => st_rN x_v251) | (by_cases q9 : p8_2.toInt = 0; exact Or.inl q9; refine Or.inr (fun _ _ => st_rN ?_); have q8 := LTI.ok i8t q9; have q7 := q8.1.b; rw [kd_end (by omega)]; decide)
          have hz9 := LTI.en i8t hk9
          refine lv_iload_n hx hb dX3_readTruth_68 rfl (lv_at hl 1 rfl) ?_
          exact te_z hx hb hr hlocks (nar01 (by omega) (by omega)) hH hS (⟨f8_102, f8_103, f8_104, f8_105, f8_106, f8_107, rfl, by omega, by omega, hz9.1, hz9.2, (by omega)⟩) dX3_readTruth_69
        · skip
          have tc16 := f_ne (k := 0) (by decide) c16
          have h19 := LTI.ok i8t (by omega)
          have hb19 := h19.1.b
          have hc19 := h19.1.cs
          refine lv_aload_n hx hb dX3_readTruth_19 rfl (lv_at hl 2 rfl) ?_
          refine t_get (ci := 3) (lst := ft3 0 0) (C := RX3) (F := TX3) (N := 3) hx hb hts uX3 hown hkb hH t_a0 (hO.no t_a0 (by decide)) (fun _ h9 => h9) rfl rfl 0 (by decide) rfl kw_82 (fun _ h9 => h9) dX3_readTruth_20 (fun v9 h9 => ?_)
          obtain ⟨v20, rfl, t_v20⟩ := h9
          have e9 := (hU7 _ _ t_v20).symm
          subst e9
          refine va_ldcS (q := kf.1 16) hx hb hown (hks ("FootholdWall$LawReader", 41, "or", 16) (by decide +kernel)) dX3_readTruth_23 ?_
          refine tk_i hH hS hA (tr_V (n := 1) (As := [.ref (kf.1 16)]) hx hb hml hown hts hkb hH (ox_map hOX rfl) hks hE hS hA (s_Tok_isWord l D cs kf T O X tk 16 y0 y1 f8_102 f8_103 f8_104 f8_105 f8_106 f8_107 ft t tn 13 t_tk (by decide) t_y0 (by omega) (by omega) (by omega) (by omega) (by omega) (by omega) (by omega) htb h19.1 (by decide) (by decide) (hO.sub (by decide))) kw_635 kw_551 kw_552 kw_3 kw_553 (by decide +kernel) ⟨Nat.le_of_ble_eq_true rfl, Nat.le_of_ble_eq_true rfl⟩ (x_recv (ci := 7) hkb hH 0 rfl rfl) rfl rfl hl.1 (Nat.le_of_ble_eq_true rfl) dX3_readTruth_25 ⟨Nat.le_of_ble_eq_true rfl, Nat.le_of_ble_eq_true rfl⟩) (fun v25 u H locs hz9 hH hS => ?_)
          obtain ⟨rfl, l_v25, u_v25, x_v250, x_v251⟩ := hz9
          have hH : HT D cs A T (tk :: y0 :: O) ((tk, .inr (7, [.ref y0, .int y1, .int f8_102, .int f8_103, .int f8_104, .int f8_105, .int f8_106, .int f8_107])) :: (y0, .inl (cs.1, 900, .inl ft)) :: X) H := hH
          refine W.widen (k := 0) (n := 0) (Nat.le_of_ble_eq_true rfl) (Nat.le_of_ble_eq_true rfl) ?_
          refine lv_if_eq (tgt := 68) hx hb dX3_readTruth_28 (by decide) (fun c28 => ?_) (fun c28 => ?_)
          · skip
            have tc28 := f_eq (k := 0) (by decide) c28
            clear x_v250
            replace x_v251 := x_v251.resolve_left (fun q9 => q9 tc28)
            have hk9 : p8_2.toInt = 0 ∨ GL t tn [(9, 6)] [] f8_102 f8_102 := by first | (refine Or.inl ?_; omega) | exact Or.inr (fun _ _ => st_rN x_v251) | (by_cases q9 : p8_2.toInt = 0; exact Or.inl q9; refine Or.inr (fun _ _ => st_rN ?_); have q8 := LTI.ok i8t q9; have q7 := q8.1.b; rw [kd_end (by omega)]; decide)
            have hz9 := LTI.en i8t hk9
            refine lv_iload_n hx hb dX3_readTruth_68 rfl (lv_at hl 1 rfl) ?_
            exact te_z hx hb hr hlocks (nar01 (by omega) (by omega)) hH hS (⟨f8_102, f8_103, f8_104, f8_105, f8_106, f8_107, rfl, by omega, by omega, hz9.1, hz9.2, (by omega)⟩) dX3_readTruth_69
          · skip
            have tc28 := f_ne (k := 0) (by decide) c28
            replace x_v250 := x_v250.resolve_left tc28
            clear x_v251
            refine lv_aload_n hx hb dX3_readTruth_31 rfl (lv_at hl 2 rfl) ?_
            refine t_get (ci := 3) (lst := ft3 0 0) (C := RX3) (F := TX3) (N := 3) hx hb hts uX3 hown hkb hH t_a0 (hO.no t_a0 (by decide)) (fun _ h9 => h9) rfl rfl 0 (by decide) rfl kw_82 (fun _ h9 => h9) dX3_readTruth_32 (fun v9 h9 => ?_)
            obtain ⟨v32, rfl, t_v32⟩ := h9
            have e9 := (hU7 _ _ t_v32).symm
            subst e9
            have hl9 := h19.1.lt (by omega)
            refine tk_v hH hS hA (tr_V (n := 0) (As := []) hx hb hml hown hts hkb hH (ox_map hOX rfl) hks hE hS hA (s_Tok_go l D cs kf T O X tk y0 y1 f8_102 f8_103 f8_104 f8_105 f8_106 f8_107 ft t tn t_tk t_y0 (by omega) (by omega) (by omega) (by omega) (by omega) (by omega) (by omega) htb (by have q9 := (h19.1).b; omega) (hO.sub (by decide))) kw_641 kw_453 kw_454 kw_3 kw_455 (by decide +kernel) ⟨Nat.le_of_ble_eq_true rfl, Nat.le_of_ble_eq_true rfl⟩ (x_recv (ci := 7) hkb hH 0 rfl rfl) rfl rfl hl.1 (Nat.le_of_ble_eq_true rfl) dX3_readTruth_35 ⟨Nat.le_of_ble_eq_true rfl, Nat.le_of_ble_eq_true rfl⟩) (fun u H locs hz9 hH hS => ?_)
            obtain ⟨n35_0_2, n35_0_3, n35_0_4, n35_0_5, rfl, x_v350, x_v351, x_v352⟩ := hz9
            have px35 := TSS.nx h19.1 x_v351
            have hH : HT D cs A T (tk :: y0 :: O) ((tk, .inr (7, [.ref y0, .int y1, .int n35_0_2, .int n35_0_3, .int n35_0_4, .int n35_0_5, .int f8_106, .int f8_107])) :: (y0, .inl (cs.1, 900, .inl ft)) :: X) H := hH
            refine W.widen (k := 0) (n := 0) (Nat.le_of_ble_eq_true rfl) (Nat.le_of_ble_eq_true rfl) ?_
            refine lv_aload_n hx hb dX3_readTruth_38 rfl (lv_at hl 2 rfl) ?_
            refine t_get (ci := 3) (lst := ft3 0 0) (C := RX3) (F := TX3) (N := 3) hx hb hts uX3 hown hkb hH t_a0 (hO.no t_a0 (by decide)) (fun _ h9 => h9) rfl rfl 2 (by decide) rfl kw_84 (fun _ h9 => h9) dX3_readTruth_39 (fun v9 h9 => ?_)
            obtain ⟨v39, rfl, l_v39, u_v39⟩ := h9
            refine lv_istore (lv' := [(4, .int v39), (3, .int p8_3), (2, .int p8_2), (0, .ref a0), (1, .int x1)]) hx hb dX3_readTruth_42 hl (by decide) rfl (fun ls hl => ?_)
            refine lv_aload_n hx hb dX3_readTruth_44 rfl (lv_at hl 3 rfl) ?_
            refine lv_iconst (v := 4) hx hb dX3_readTruth_45 (by decide) ?_
            refine lv_iconst (v := 0) hx hb dX3_readTruth_46 (by decide) ?_
            refine tk_v hH hS hA (tr_V (n := 2) (As := [.int 4, .int 0]) hx hb hml hown hts hkb hH (ox_map hOX rfl) hks hE hS hA (s_LR_put l D cs kf T (tk :: y0 :: O) ((tk, .inr (7, [.ref y0, .int y1, .int n35_0_2, .int n35_0_3, .int n35_0_4, .int n35_0_5, .int f8_106, .int f8_107])) :: (y0, .inl (cs.1, 900, .inl ft)) :: X) a0 (4) (0) t_a0 (hO.sub (by decide))) kw_642 kw_644 ks_9 kw_4 kw_645 (by decide +kernel) ⟨Nat.le_of_ble_eq_true rfl, Nat.le_of_ble_eq_true rfl⟩ (HT.recv (ci := 3) hkb hH t_a0 (hO.no t_a0 (by decide)) rfl) rfl rfl hl.1 (Nat.le_of_ble_eq_true rfl) dX3_readTruth_47 ⟨Nat.le_of_ble_eq_true rfl, Nat.le_of_ble_eq_true rfl⟩) (fun u H locs hz9 hH hS => ?_)
            have hz9 : u = (T, tk :: y0 :: O, (tk, .inr (7, [.ref y0, .int y1, .int n35_0_2, .int n35_0_3, .int n35_0_4, .int n35_0_5, .int f8_106, .int f8_107])) :: (y0, .inl (cs.1, 900, .inl ft)) :: X) := hz9
            subst hz9
            have hH : HT D cs A T (tk :: y0 :: O) ((tk, .inr (7, [.ref y0, .int y1, .int n35_0_2, .int n35_0_3, .int n35_0_4, .int n35_0_5, .int f8_106, .int f8_107])) :: (y0, .inl (cs.1, 900, .inl ft)) :: X) H := hH
            refine W.widen (k := 0) (n := 0) (Nat.le_of_ble_eq_true rfl) (Nat.le_of_ble_eq_true rfl) ?_
            refine lv_aload_n hx hb dX3_readTruth_50 rfl (lv_at hl 3 rfl) ?_
            refine lv_iload_n hx hb dX3_readTruth_51 rfl (lv_at hl 4 rfl) ?_
            refine tk_i hH hS hA (tr_V (n := 1) (As := [.int x1]) hx hb hml hown hts hkb hH (ox_map hOX rfl) hks hE hS hA (s_LR_readBoth6 l D cs kf T O X a0 x1 y0 y1 n35_0_2 n35_0_3 n35_0_4 n35_0_5 f8_106 f8_107 ft t tn tk t_a0 (by omega) (by omega) t_y0 (by omega) (by omega) (by omega) (by omega) (by omega) (by omega) (by omega) htb x_v350 t_tk hU7 (by omega) (hO.sub (by decide))) kw_626 kw_628 ks_6 kw_4 kw_629 (by decide +kernel) ⟨Nat.le_of_ble_eq_true rfl, Nat.le_of_ble_eq_true rfl⟩ (HT.recv (ci := 3) hkb hH t_a0 (hO.no t_a0 (by decide)) rfl) rfl rfl hl.1 (Nat.le_of_ble_eq_true rfl) dX3_readTruth_52 ⟨Nat.le_of_ble_eq_true rfl, Nat.le_of_ble_eq_true rfl⟩) (fun v52 u H locs hz9 hH hS => ?_)
            obtain ⟨n52_0_2, n52_0_3, n52_0_4, n52_0_5, n52_0_6, n52_0_7, rfl, l_v52, u_v52, x_v520, x_v521, x_v522⟩ := hz9
            have hH : HT D cs A T (tk :: y0 :: O) ((tk, .inr (7, [.ref y0, .int y1, .int n52_0_2, .int n52_0_3, .int n52_0_4, .int n52_0_5, .int n52_0_6, .int n52_0_7])) :: (y0, .inl (cs.1, 900, .inl ft)) :: X) H := hH
            refine W.widen (k := 0) (n := 0) (Nat.le_of_ble_eq_true rfl) (Nat.le_of_ble_eq_true rfl) ?_
            refine lv_istore_n (lv' := [(2, .int v52), (4, .int v39), (3, .int p8_3), (0, .ref a0), (1, .int x1)]) hx hb dX3_readTruth_55 rfl hl (by decide) rfl (fun ls hl => ?_)
            refine lv_aload_n hx hb dX3_readTruth_56 rfl (lv_at hl 3 rfl) ?_
            refine lv_iload hx hb dX3_readTruth_57 (lv_at hl 1 rfl) ?_
            refine tk_v hH hS hA (tr_V (n := 1) (As := [.int v39]) hx hb hml hown hts hkb hH (ox_map hOX rfl) hks hE hS hA (s_LR_aimSkip l D cs kf T (tk :: y0 :: O) ((tk, .inr (7, [.ref y0, .int y1, .int n52_0_2, .int n52_0_3, .int n52_0_4, .int n52_0_5, .int n52_0_6, .int n52_0_7])) :: (y0, .inl (cs.1, 900, .inl ft)) :: X) a0 v39 t_a0 (hO.sub (by decide))) kw_672 kw_674 ks_14 kw_4 kw_675 (by decide +kernel) ⟨Nat.le_of_ble_eq_true rfl, Nat.le_of_ble_eq_true rfl⟩ (HT.recv (ci := 3) hkb hH t_a0 (hO.no t_a0 (by decide)) rfl) rfl rfl hl.1 (Nat.le_of_ble_eq_true rfl) dX3_readTruth_59 ⟨Nat.le_of_ble_eq_true rfl, Nat.le_of_ble_eq_true rfl⟩) (fun u H locs hz9 hH hS => ?_)
            have hz9 : u = (T, tk :: y0 :: O, (tk, .inr (7, [.ref y0, .int y1, .int n52_0_2, .int n52_0_3, .int n52_0_4, .int n52_0_5, .int n52_0_6, .int n52_0_7])) :: (y0, .inl (cs.1, 900, .inl ft)) :: X) := hz9
            subst hz9
            have hH : HT D cs A T (tk :: y0 :: O) ((tk, .inr (7, [.ref y0, .int y1, .int n52_0_2, .int n52_0_3, .int n52_0_4, .int n52_0_5, .int n52_0_6, .int n52_0_7])) :: (y0, .inl (cs.1, 900, .inl ft)) :: X) H := hH
            refine W.widen (k := 0) (n := 0) (Nat.le_of_ble_eq_true rfl) (Nat.le_of_ble_eq_true rfl) ?_
            obtain ⟨v62, ev62⟩ : ∃ y : Int32, y = p8_3 + 1 := ⟨_, rfl⟩
            have tv62 : v62.toInt = p8_3.toInt + (1) := by rw [ev62]; exact add_i rfl (by decide) (by omega) (by omega)
            refine lv_iinc (v := v62) (lv' := [(3, .int v62), (2, .int v52), (4, .int v39), (0, .ref a0), (1, .int x1)]) hx hb dX3_readTruth_62 hl (k := 2) rfl (by rw [ev62]; rfl) (by decide) rfl (fun ls hl => ?_)
            refine lv_goto (tgt := 8) hx hb dX3_readTruth_65 (by decide) ?_
            exact ih8 _ (by omega) v62 v52 n52_0_2 n52_0_3 n52_0_4 n52_0_5 n52_0_6 n52_0_7 _ _ _ rfl (by omega) (by omega) (by omega) (by omega) (by omega) (by omega) (by omega) (by omega) (by first | (refine LTI.st (fun _ _ => st_r) x_v20 x_v21 l_v2 u_v2 rfl) | (refine LTI.st (h19.2.2.2.tr (GL_nx (fun _ _ => st_rY x_v250) px35)) x_v520 x_v521 l_v52 u_v52 ?_; omega)) (by omega) (by omega) hH hS (lv_sub hl [0, 1, 3, 4] rfl)
  refine lv_istore_n (lv' := [(3, .int 0), (2, .int v2), (0, .ref a0), (1, .int x1)]) hx hb dX3_readTruth_7 rfl hl (by decide) rfl (fun ls hl => ?_)
  have z_0 : (0 : Int32).toInt = 0 := by decide
  exact J8 _ 0 v2 n2_0_2 n2_0_3 n2_0_4 n2_0_5 n2_0_6 n2_0_7 _ _ _ rfl (by decide) (by decide) (by omega) (by omega) (by omega) (by omega) (by omega) (by omega) (by first | (refine LTI.st (fun _ _ => st_r) x_v20 x_v21 l_v2 u_v2 rfl) | (refine LTI.st (h19.2.2.2.tr (GL_nx (fun _ _ => st_rY x_v250) px35)) x_v520 x_v521 l_v52 u_v52 ?_; omega)) (by omega) (by omega) hH hS (lv_sub hl [0, 1, 2, 3] rfl)
theorem dX3_readAtom_20 : decode cX3_readAtom 20 = .ok (.aload_n 0, 1) := by decide +kernel
theorem dX3_readAtom_21 : decode cX3_readAtom 21 = .ok (.iload_n 1, 1) := by decide +kernel
theorem dX3_readAtom_22 : decode cX3_readAtom 22 = .ok (.iconst 1, 1) := by decide +kernel
theorem dX3_readAtom_23 : decode cX3_readAtom 23 = .ok (.iadd, 1) := by decide +kernel
theorem dX3_readAtom_24 : decode cX3_readAtom 24 = .ok (.invokevirtual 77, 3) := by decide +kernel
theorem dX3_readAtom_27 : decode cX3_readAtom 27 = .ok (.ifCond .eq 19, 3) := by decide +kernel
theorem dX3_readAtom_30 : decode cX3_readAtom 30 = .ok (.aload_n 0, 1) := by decide +kernel
theorem dX3_readAtom_31 : decode cX3_readAtom 31 = .ok (.getfield 19, 3) := by decide +kernel
theorem dX3_readAtom_34 : decode cX3_readAtom 34 = .ok (.bipush 41, 2) := by decide +kernel
theorem dX3_readAtom_36 : decode cX3_readAtom 36 = .ok (.invokevirtual 74, 3) := by decide +kernel
theorem dX3_readAtom_39 : decode cX3_readAtom 39 = .ok (.ifCond .eq 7, 3) := by decide +kernel
theorem dX3_readAtom_42 : decode cX3_readAtom 42 = .ok (.iconst 1, 1) := by decide +kernel
theorem dX3_readAtom_43 : decode cX3_readAtom 43 = .ok (.goto 4, 3) := by decide +kernel
theorem dX3_readUnit_20 : decode cX3_readUnit 20 = .ok (.aload_n 0, 1) := by decide +kernel
theorem dX3_readUnit_21 : decode cX3_readUnit 21 = .ok (.iload_n 1, 1) := by decide +kernel
theorem dX3_readUnit_22 : decode cX3_readUnit 22 = .ok (.iconst 1, 1) := by decide +kernel
theorem dX3_readUnit_23 : decode cX3_readUnit 23 = .ok (.iadd, 1) := by decide +kernel
theorem dX3_readUnit_24 : decode cX3_readUnit 24 = .ok (.invokevirtual 60, 3) := by decide +kernel
theorem dX3_readUnit_27 : decode cX3_readUnit 27 = .ok (.ifCond .ne 5, 3) := by decide +kernel
theorem dX3_readUnit_32 : decode cX3_readUnit 32 = .ok (.aload_n 0, 1) := by decide +kernel
theorem dX3_readUnit_33 : decode cX3_readUnit 33 = .ok (.iconst 2, 1) := by decide +kernel
theorem dX3_readUnit_34 : decode cX3_readUnit 34 = .ok (.iconst 0, 1) := by decide +kernel
theorem dX3_readUnit_35 : decode cX3_readUnit 35 = .ok (.invokevirtual 52, 3) := by decide +kernel
theorem dX3_readUnit_38 : decode cX3_readUnit 38 = .ok (.iconst 1, 1) := by decide +kernel
theorem dX3_readUnit_39 : decode cX3_readUnit 39 = .ok (.ireturn, 1) := by decide +kernel
theorem dX3_readUnit_60 : decode cX3_readUnit 60 = .ok (.aload_n 0, 1) := by decide +kernel
theorem dX3_readUnit_61 : decode cX3_readUnit 61 = .ok (.iload_n 1, 1) := by decide +kernel
theorem dX3_readUnit_62 : decode cX3_readUnit 62 = .ok (.iconst 1, 1) := by decide +kernel
theorem dX3_readUnit_63 : decode cX3_readUnit 63 = .ok (.iadd, 1) := by decide +kernel
theorem dX3_readUnit_64 : decode cX3_readUnit 64 = .ok (.invokevirtual 23, 3) := by decide +kernel
theorem dX3_readUnit_67 : decode cX3_readUnit 67 = .ok (.ifCond .eq 19, 3) := by decide +kernel
theorem dX3_readUnit_70 : decode cX3_readUnit 70 = .ok (.aload_n 0, 1) := by decide +kernel
theorem dX3_readUnit_71 : decode cX3_readUnit 71 = .ok (.getfield 19, 3) := by decide +kernel
theorem dX3_readUnit_74 : decode cX3_readUnit 74 = .ok (.bipush 93, 2) := by decide +kernel
theorem dX3_readUnit_76 : decode cX3_readUnit 76 = .ok (.invokevirtual 74, 3) := by decide +kernel
theorem dX3_readUnit_79 : decode cX3_readUnit 79 = .ok (.ifCond .eq 7, 3) := by decide +kernel
theorem dX3_readUnit_82 : decode cX3_readUnit 82 = .ok (.iconst 1, 1) := by decide +kernel
theorem dX3_readUnit_83 : decode cX3_readUnit 83 = .ok (.goto 4, 3) := by decide +kernel
theorem kw_611 : Cond.instanceMethod yX7_takeSign ∈ gw := gw_of (tb_of 611 (by decide +kernel)) (by decide +kernel)
theorem kw_612 : Cond.selects "FootholdWall$Tokens" yX7_takeSign yX7_takeSign ∈ gw := gw_of (tb_of 612 (by decide +kernel)) (by decide +kernel)
theorem kw_613 : Cond.code yX7_takeSign cX7_takeSign 2 (some (.boolean)) ∈ gw := gw_of (tb_of 613 (by decide +kernel)) (by decide +kernel)
theorem kw_622 : Cond.methodLink "FootholdWall$LawReader" 23 yX3_readTruth ∈ gw := gw_of (tb_of 622 (by decide +kernel)) (by decide +kernel)
theorem kw_624 : Cond.instanceMethod yX3_readTruth ∈ gw := gw_of (tb_of 624 (by decide +kernel)) (by decide +kernel)
theorem kw_625 : Cond.code yX3_readTruth cX3_readTruth 5 (some (.boolean)) ∈ gw := gw_of (tb_of 625 (by decide +kernel)) (by decide +kernel)
theorem kw_647 : Cond.methodLink "FootholdWall$LawReader" 74 yX7_takeSign ∈ gw := gw_of (tb_of 647 (by decide +kernel)) (by decide +kernel)
theorem ks_5 : Cond.selects RX3 yX3_readTruth yX3_readTruth ∈ gw := gw_of (pv_of 5 (by decide +kernel)) (by decide +kernel)
set_option maxHeartbeats 4000000 in
set_option maxRecDepth 100000 in
theorem s_LR_readAtom5 (l : Launch) (D : va_G) (cs : CS) (kf : KF) (T : TF) (O : List Nat) (X : va_W) (a0 : Nat) (x1 : Int32) (y0 : Nat) (y1 : Int32) (y2 : Int32) (y3 : Int32) (y4 : Int32) (y5 : Int32) (y6 : Int32) (y7 : Int32) (ft : Nat → Int32) (t : Tp) (tn : Nat) (tk : Nat) (t_a0 : T a0 = some (13, 0, 0)) (l_x1 : 5 ≤ x1.toInt) (u_x1 : x1.toInt ≤ 5) (t_y0 : T y0 = some (0, 900, 0)) (l_y1 : 0 ≤ y1.toInt) (u_y1 : y1.toInt ≤ 900) (l_y2 : 0 ≤ y2.toInt) (u_y2 : y2.toInt ≤ 900) (l_y3 : 0 ≤ y3.toInt) (u_y3 : y3.toInt ≤ 900) (hn : y1.toInt = (tn : Int)) (htb : TB ft t) (hto : TSS t tn y2 y3 y4 y5) (t_tk : T tk = some (17, 0, 0)) (hU7 : ∀ (b : Nat) (q : Nat), T b = some (17, 0, q) → b = tk) (hz : y6.toInt = 0) (hO : okO T (tk :: y0 :: O) [1, 13]) : TK l D cs kf yX3_readAtom cX3_readAtom 3 (some (.boolean)) { frames := 9, cells := 0, slots := 0, locals := 196 } [.ref a0, .int x1] T (tk :: y0 :: O) ((tk, .inr (7, [.ref y0, .int y1, .int y2, .int y3, .int y4, .int y5, .int y6, .int y7])) :: (y0, .inl (cs.1, 900, .inl ft)) :: X) (Ti D cs (fun r u => ∃ (n0_2 : Int32) (n0_3 : Int32) (n0_4 : Int32) (n0_5 : Int32) (n0_6 : Int32) (n0_7 : Int32), u = (T, tk :: y0 :: O, (tk, .inr (7, [.ref y0, .int y1, .int n0_2, .int n0_3, .int n0_4, .int n0_5, .int n0_6, .int n0_7])) :: (y0, .inl (cs.1, 900, .inl ft)) :: X) ∧ 0 ≤ r.toInt ∧ r.toInt ≤ 1 ∧ (r.toInt = 0 ∨ (TSS t tn n0_2 n0_3 n0_4 n0_5 ∧ n0_6.toInt = 0 ∧ n0_7.toInt = y7.toInt ∧ GL t tn [(0, 5)] [] y2 n0_2)) ∧ (r.toInt ≠ 0 ∨ BL t tn [(0, 5)] y2 n0_6 n0_7) ∧ (y2.toInt ≤ n0_2.toInt ∧ n0_2.toInt ≤ n0_3.toInt ∧ n0_3.toInt ≤ y1.toInt))) := by
  refine tk_of (by decide) (Nat.le_of_ble_eq_true rfl) (fun p e s m below meth c ls A H locs hx hb hr hml hown hts hlocks hnm hkb hH hS hA hOX hks hE hl => ?_)
  have hown : s.vm.findClass RX3 = some m.cls := hown
  have hl : lv_has ls 3 [(0, .ref a0), (1, .int x1)] := hl
  have hOXf := hOX
  have hb9 := hto.b
  have hc9 := hto.cs
  refine lv_aload_n hx hb dX3_readAtom_0 rfl (lv_at hl 0 rfl) ?_
  refine t_get (ci := 3) (lst := ft3 0 0) (C := RX3) (F := TX3) (N := 3) hx hb hts uX3 hown hkb hH t_a0 (hO.no t_a0 (by decide)) (fun _ h9 => h9) rfl rfl 0 (by decide) rfl kw_82 (fun _ h9 => h9) dX3_readAtom_1 (fun v9 h9 => ?_)
  obtain ⟨v1, rfl, t_v1⟩ := h9
  have e9 := (hU7 _ _ t_v1).symm
  subst e9
  refine lv_bipush (v := 40) hx hb dX3_readAtom_4 (by decide) ?_
  have z9_40 : (40 : Int32).toInt = 40 := by decide
  refine tk_i hH hS hA (tr_V (n := 1) (As := [.int 40]) hx hb hml hown hts hkb hH (ox_map hOX rfl) hks hE hS hA (s_Tok_isSign l D cs kf T O X tk (40) y0 y1 y2 y3 y4 y5 y6 y7 ft t tn 35 t_tk t_y0 (by omega) (by omega) (by omega) (by omega) (by omega) (by omega) (by omega) htb hto (by decide) (by decide) (hO.sub (by decide))) kw_646 kw_615 kw_616 kw_3 kw_617 (by decide +kernel) ⟨Nat.le_of_ble_eq_true rfl, Nat.le_of_ble_eq_true rfl⟩ (x_recv (ci := 7) hkb hH 0 rfl rfl) rfl rfl hl.1 (Nat.le_of_ble_eq_true rfl) dX3_readAtom_6 ⟨Nat.le_of_ble_eq_true rfl, Nat.le_of_ble_eq_true rfl⟩) (fun v6 u H locs hz9 hH hS => ?_)
  obtain ⟨rfl, l_v6, u_v6, x_v60, x_v61⟩ := hz9
  have hH : HT D cs A T (tk :: y0 :: O) ((tk, .inr (7, [.ref y0, .int y1, .int y2, .int y3, .int y4, .int y5, .int y6, .int y7])) :: (y0, .inl (cs.1, 900, .inl ft)) :: X) H := hH
  refine W.widen (k := 0) (n := 0) (Nat.le_of_ble_eq_true rfl) (Nat.le_of_ble_eq_true rfl) ?_
  refine lv_if_eq (tgt := 48) hx hb dX3_readAtom_9 (by decide) (fun c9 => ?_) (fun c9 => ?_)
  · skip
    have tc9 := f_eq (k := 0) (by decide) c9
    clear x_v60
    replace x_v61 := x_v61.resolve_left (fun q9 => q9 tc9)
    refine lv_aload_n hx hb dX3_readAtom_48 rfl (lv_at hl 0 rfl) ?_
    refine t_get (ci := 3) (lst := ft3 0 0) (C := RX3) (F := TX3) (N := 3) hx hb hts uX3 hown hkb hH t_a0 (hO.no t_a0 (by decide)) (fun _ h9 => h9) rfl rfl 0 (by decide) rfl kw_82 (fun _ h9 => h9) dX3_readAtom_49 (fun v9 h9 => ?_)
    obtain ⟨v49, rfl, t_v49⟩ := h9
    have e9 := (hU7 _ _ t_v49).symm
    subst e9
    refine x_getk (ci := 7) (C := RX7) (F := TX7) (N := 8) (v := .int y4) hx hb hts uX7 hown hkb hH 0 rfl rfl 4 (by decide) rfl kw_50 (fun _ h9 => h9) dX3_readAtom_52 ?_
    refine lv_iconst (v := 2) hx hb dX3_readAtom_55 (by decide) ?_
    refine lv_icmp_ne (tgt := 80) hx hb dX3_readAtom_56 (by decide) (fun c56 => ?_) (fun c56 => ?_)
    · skip
      have tc56 := f_ne (k := 2) (by decide) c56
      refine lv_aload_n hx hb dX3_readAtom_80 rfl (lv_at hl 0 rfl) ?_
      refine tk_i hH hS hA (tr_V (n := 0) (As := []) hx hb hml hown hts hkb hH (ox_map hOX rfl) hks hE hS hA (s_LR_factHere l D cs kf T O X a0 y0 y1 y2 y3 y4 y5 y6 y7 ft t tn tk t_a0 t_y0 (by omega) (by omega) (by omega) (by omega) (by omega) (by omega) (by omega) htb hto t_tk hU7 (hO.sub (by decide))) kw_660 kw_662 ks_13 kw_4 kw_663 (by decide +kernel) ⟨Nat.le_of_ble_eq_true rfl, Nat.le_of_ble_eq_true rfl⟩ (HT.recv (ci := 3) hkb hH t_a0 (hO.no t_a0 (by decide)) rfl) rfl rfl hl.1 (Nat.le_of_ble_eq_true rfl) dX3_readAtom_81 ⟨Nat.le_of_ble_eq_true rfl, Nat.le_of_ble_eq_true rfl⟩) (fun v81 u H locs hz9 hH hS => ?_)
      obtain ⟨rfl, l_v81, u_v81, x_v810, x_v811⟩ := hz9
      have hH : HT D cs A T (tk :: y0 :: O) ((tk, .inr (7, [.ref y0, .int y1, .int y2, .int y3, .int y4, .int y5, .int y6, .int y7])) :: (y0, .inl (cs.1, 900, .inl ft)) :: X) H := hH
      refine W.widen (k := 0) (n := 0) (Nat.le_of_ble_eq_true rfl) (Nat.le_of_ble_eq_true rfl) ?_
      refine lv_istore_n (lv' := [(2, .int v81), (0, .ref a0), (1, .int x1)]) hx hb dX3_readAtom_84 rfl hl (by decide) rfl (fun ls hl => ?_)
      refine lv_iload_n hx hb dX3_readAtom_85 rfl (lv_at hl 0 rfl) ?_
      refine lv_iconst (v := (-1)) hx hb dX3_readAtom_86 (by decide) ?_
      refine lv_icmp_ne (tgt := 99) hx hb dX3_readAtom_87 (by decide) (fun c87 => ?_) (fun c87 => ?_)
      · skip
        have tc87 := f_ne (k := -1) (by decide) c87
        replace x_v810 := x_v810.resolve_left tc87
        clear x_v811
        refine lv_aload_n hx hb dX3_readAtom_99 rfl (lv_at hl 1 rfl) ?_
        refine lv_iconst (v := 1) hx hb dX3_readAtom_100 (by decide) ?_
        refine lv_iload_n hx hb dX3_readAtom_101 rfl (lv_at hl 0 rfl) ?_
        refine tk_v hH hS hA (tr_V (n := 2) (As := [.int 1, .int v81]) hx hb hml hown hts hkb hH (ox_map hOX rfl) hks hE hS hA (s_LR_put l D cs kf T (tk :: y0 :: O) ((tk, .inr (7, [.ref y0, .int y1, .int y2, .int y3, .int y4, .int y5, .int y6, .int y7])) :: (y0, .inl (cs.1, 900, .inl ft)) :: X) a0 (1) v81 t_a0 (hO.sub (by decide))) kw_642 kw_644 ks_9 kw_4 kw_645 (by decide +kernel) ⟨Nat.le_of_ble_eq_true rfl, Nat.le_of_ble_eq_true rfl⟩ (HT.recv (ci := 3) hkb hH t_a0 (hO.no t_a0 (by decide)) rfl) rfl rfl hl.1 (Nat.le_of_ble_eq_true rfl) dX3_readAtom_102 ⟨Nat.le_of_ble_eq_true rfl, Nat.le_of_ble_eq_true rfl⟩) (fun u H locs hz9 hH hS => ?_)
        have hz9 : u = (T, tk :: y0 :: O, (tk, .inr (7, [.ref y0, .int y1, .int y2, .int y3, .int y4, .int y5, .int y6, .int y7])) :: (y0, .inl (cs.1, 900, .inl ft)) :: X) := hz9
        subst hz9
        have hH : HT D cs A T (tk :: y0 :: O) ((tk, .inr (7, [.ref y0, .int y1, .int y2, .int y3, .int y4, .int y5, .int y6, .int y7])) :: (y0, .inl (cs.1, 900, .inl ft)) :: X) H := hH
        refine W.widen (k := 0) (n := 0) (Nat.le_of_ble_eq_true rfl) (Nat.le_of_ble_eq_true rfl) ?_
        refine lv_aload_n hx hb dX3_readAtom_105 rfl (lv_at hl 1 rfl) ?_
        refine t_get (ci := 3) (lst := ft3 0 0) (C := RX3) (F := TX3) (N := 3) hx hb hts uX3 hown hkb hH t_a0 (hO.no t_a0 (by decide)) (fun _ h9 => h9) rfl rfl 0 (by decide) rfl kw_82 (fun _ h9 => h9) dX3_readAtom_106 (fun v9 h9 => ?_)
        obtain ⟨v106, rfl, t_v106⟩ := h9
        have e9 := (hU7 _ _ t_v106).symm
        subst e9
        refine tk_v hH hS hA (tr_V (n := 0) (As := []) hx hb hml hown hts hkb hH (ox_map hOX rfl) hks hE hS hA (s_Tok_go l D cs kf T O X tk y0 y1 y2 y3 y4 y5 y6 y7 ft t tn t_tk t_y0 (by omega) (by omega) (by omega) (by omega) (by omega) (by omega) (by omega) htb (by have q9 := (hto).b; omega) (hO.sub (by decide))) kw_641 kw_453 kw_454 kw_3 kw_455 (by decide +kernel) ⟨Nat.le_of_ble_eq_true rfl, Nat.le_of_ble_eq_true rfl⟩ (x_recv (ci := 7) hkb hH 0 rfl rfl) rfl rfl hl.1 (Nat.le_of_ble_eq_true rfl) dX3_readAtom_109 ⟨Nat.le_of_ble_eq_true rfl, Nat.le_of_ble_eq_true rfl⟩) (fun u H locs hz9 hH hS => ?_)
        obtain ⟨n109_0_2, n109_0_3, n109_0_4, n109_0_5, rfl, x_v1090, x_v1091, x_v1092⟩ := hz9
        have px109 := TSS.nx hto x_v1091
        have hH : HT D cs A T (tk :: y0 :: O) ((tk, .inr (7, [.ref y0, .int y1, .int n109_0_2, .int n109_0_3, .int n109_0_4, .int n109_0_5, .int y6, .int y7])) :: (y0, .inl (cs.1, 900, .inl ft)) :: X) H := hH
        refine W.widen (k := 0) (n := 0) (Nat.le_of_ble_eq_true rfl) (Nat.le_of_ble_eq_true rfl) ?_
        refine lv_iconst (v := 1) hx hb dX3_readAtom_112 (by decide) ?_
        have z9_1 : (1 : Int32).toInt = 1 := by decide
        exact te_z hx hb hr hlocks (by rfl) hH hS (⟨n109_0_2, n109_0_3, n109_0_4, n109_0_5, y6, y7, rfl, by decide, by decide, (Or.inr ⟨x_v1090, by omega, by omega, (by first | (refine g30.tr (GL_nx (fun _ _ => st_xY x_v360.2.2.1) x_v360.2.1)) | (refine GL_nx (fun _ _ => st_aV ?_) px75; omega) | (refine GL_nx (fun _ _ => st_aV ?_) px109; omega))⟩), Or.inl (by decide), (by omega)⟩) dX3_readAtom_113
      · skip
        have tc87 := f_eq (k := -1) (by decide) c87
        clear x_v810
        replace x_v811 := x_v811.resolve_left (fun q9 => q9 tc87)
        refine lv_aload_n hx hb dX3_readAtom_90 rfl (lv_at hl 1 rfl) ?_
        refine t_get (ci := 3) (lst := ft3 0 0) (C := RX3) (F := TX3) (N := 3) hx hb hts uX3 hown hkb hH t_a0 (hO.no t_a0 (by decide)) (fun _ h9 => h9) rfl rfl 0 (by decide) rfl kw_82 (fun _ h9 => h9) dX3_readAtom_91 (fun v9 h9 => ?_)
        obtain ⟨v91, rfl, t_v91⟩ := h9
        have e9 := (hU7 _ _ t_v91).symm
        subst e9
        refine lv_iconst (v := 2) hx hb dX3_readAtom_94 (by decide) ?_
        have z9_2 : (2 : Int32).toInt = 2 := by decide
        refine tk_i hH hS hA (tr_V (n := 1) (As := [.int 2]) hx hb hml hown hts hkb hH (ox_map hOX rfl) hks hE hS hA (s_Tok_refuse l D cs kf T O X tk (2) y0 y1 y2 y3 y4 y5 y6 y7 ft t tn t_tk t_y0 (by omega) (by omega) (by omega) (by omega) (by omega) (by omega) (by omega) htb hto (hO.sub (by decide))) kw_640 kw_580 kw_581 kw_3 kw_582 (by decide +kernel) ⟨Nat.le_of_ble_eq_true rfl, Nat.le_of_ble_eq_true rfl⟩ (x_recv (ci := 7) hkb hH 0 rfl rfl) rfl rfl hl.1 (Nat.le_of_ble_eq_true rfl) dX3_readAtom_95 ⟨Nat.le_of_ble_eq_true rfl, Nat.le_of_ble_eq_true rfl⟩) (fun v95 u H locs hz9 hH hS => ?_)
        obtain ⟨n95_0_6, n95_0_7, rfl, l_v95, u_v95, x_v950, x_v951⟩ := hz9
        have hH : HT D cs A T (tk :: y0 :: O) ((tk, .inr (7, [.ref y0, .int y1, .int y2, .int y3, .int y4, .int y5, .int n95_0_6, .int n95_0_7])) :: (y0, .inl (cs.1, 900, .inl ft)) :: X) H := hH
        refine W.widen (k := 0) (n := 0) (Nat.le_of_ble_eq_true rfl) (Nat.le_of_ble_eq_true rfl) ?_
        exact te_z hx hb hr hlocks (nar01 (by omega) (by omega)) hH hS (⟨y2, y3, y4, y5, n95_0_6, n95_0_7, rfl, by omega, by omega, (Or.inl (by omega)), (Or.inr (by first | (refine BL_f (fun _ _ => st_aD ?_) x_v140 (by decide) x_v141 ?_ <;> omega) | (refine g20.bd (BL.cons x_v241)) | (refine g30.bd (BL_f (fun _ _ => st_xN x_v361.1) x_v361.2.1 (by decide) x_v361.2.2 ?_); omega) | (refine BL_f (fun _ _ => st_aN ?_ ?_) x_v950 (by decide) x_v951 ?_ <;> omega))), (by omega)⟩) dX3_readAtom_98
    · skip
      have tc56 := f_eq (k := 2) (by decide) c56
      refine lv_aload_n hx hb dX3_readAtom_59 rfl (lv_at hl 0 rfl) ?_
      refine lv_iconst (v := 0) hx hb dX3_readAtom_60 (by decide) ?_
      refine lv_aload_n hx hb dX3_readAtom_61 rfl (lv_at hl 0 rfl) ?_
      refine t_get (ci := 3) (lst := ft3 0 0) (C := RX3) (F := TX3) (N := 3) hx hb hts uX3 hown hkb hH t_a0 (hO.no t_a0 (by decide)) (fun _ h9 => h9) rfl rfl 0 (by decide) rfl kw_82 (fun _ h9 => h9) dX3_readAtom_62 (fun v9 h9 => ?_)
      obtain ⟨v62, rfl, t_v62⟩ := h9
      have e9 := (hU7 _ _ t_v62).symm
      subst e9
      refine x_getk (ci := 7) (C := RX7) (F := TX7) (N := 8) (v := .int y5) hx hb hts uX7 hown hkb hH 0 rfl rfl 5 (by decide) rfl kw_53 (fun _ h9 => h9) dX3_readAtom_65 ?_
      refine tk_v hH hS hA (tr_V (n := 2) (As := [.int 0, .int y5]) hx hb hml hown hts hkb hH (ox_map hOX rfl) hks hE hS hA (s_LR_put l D cs kf T (tk :: y0 :: O) ((tk, .inr (7, [.ref y0, .int y1, .int y2, .int y3, .int y4, .int y5, .int y6, .int y7])) :: (y0, .inl (cs.1, 900, .inl ft)) :: X) a0 (0) y5 t_a0 (hO.sub (by decide))) kw_642 kw_644 ks_9 kw_4 kw_645 (by decide +kernel) ⟨Nat.le_of_ble_eq_true rfl, Nat.le_of_ble_eq_true rfl⟩ (HT.recv (ci := 3) hkb hH t_a0 (hO.no t_a0 (by decide)) rfl) rfl rfl hl.1 (Nat.le_of_ble_eq_true rfl) dX3_readAtom_68 ⟨Nat.le_of_ble_eq_true rfl, Nat.le_of_ble_eq_true rfl⟩) (fun u H locs hz9 hH hS => ?_)
      have hz9 : u = (T, tk :: y0 :: O, (tk, .inr (7, [.ref y0, .int y1, .int y2, .int y3, .int y4, .int y5, .int y6, .int y7])) :: (y0, .inl (cs.1, 900, .inl ft)) :: X) := hz9
      subst hz9
      have hH : HT D cs A T (tk :: y0 :: O) ((tk, .inr (7, [.ref y0, .int y1, .int y2, .int y3, .int y4, .int y5, .int y6, .int y7])) :: (y0, .inl (cs.1, 900, .inl ft)) :: X) H := hH
      refine W.widen (k := 0) (n := 0) (Nat.le_of_ble_eq_true rfl) (Nat.le_of_ble_eq_true rfl) ?_
      refine lv_aload_n hx hb dX3_readAtom_71 rfl (lv_at hl 0 rfl) ?_
      refine t_get (ci := 3) (lst := ft3 0 0) (C := RX3) (F := TX3) (N := 3) hx hb hts uX3 hown hkb hH t_a0 (hO.no t_a0 (by decide)) (fun _ h9 => h9) rfl rfl 0 (by decide) rfl kw_82 (fun _ h9 => h9) dX3_readAtom_72 (fun v9 h9 => ?_)
      obtain ⟨v72, rfl, t_v72⟩ := h9
      have e9 := (hU7 _ _ t_v72).symm
      subst e9
      refine tk_v hH hS hA (tr_V (n := 0) (As := []) hx hb hml hown hts hkb hH (ox_map hOX rfl) hks hE hS hA (s_Tok_go l D cs kf T O X tk y0 y1 y2 y3 y4 y5 y6 y7 ft t tn t_tk t_y0 (by omega) (by omega) (by omega) (by omega) (by omega) (by omega) (by omega) htb (by have q9 := (hto).b; omega) (hO.sub (by decide))) kw_641 kw_453 kw_454 kw_3 kw_455 (by decide +kernel) ⟨Nat.le_of_ble_eq_true rfl, Nat.le_of_ble_eq_true rfl⟩ (x_recv (ci := 7) hkb hH 0 rfl rfl) rfl rfl hl.1 (Nat.le_of_ble_eq_true rfl) dX3_readAtom_75 ⟨Nat.le_of_ble_eq_true rfl, Nat.le_of_ble_eq_true rfl⟩) (fun u H locs hz9 hH hS => ?_)
      obtain ⟨n75_0_2, n75_0_3, n75_0_4, n75_0_5, rfl, x_v750, x_v751, x_v752⟩ := hz9
      have px75 := TSS.nx hto x_v751
      have hH : HT D cs A T (tk :: y0 :: O) ((tk, .inr (7, [.ref y0, .int y1, .int n75_0_2, .int n75_0_3, .int n75_0_4, .int n75_0_5, .int y6, .int y7])) :: (y0, .inl (cs.1, 900, .inl ft)) :: X) H := hH
      refine W.widen (k := 0) (n := 0) (Nat.le_of_ble_eq_true rfl) (Nat.le_of_ble_eq_true rfl) ?_
      refine lv_iconst (v := 1) hx hb dX3_readAtom_78 (by decide) ?_
      have z9_1 : (1 : Int32).toInt = 1 := by decide
      exact te_z hx hb hr hlocks (by rfl) hH hS (⟨n75_0_2, n75_0_3, n75_0_4, n75_0_5, y6, y7, rfl, by decide, by decide, (Or.inr ⟨x_v750, by omega, by omega, (by first | (refine g30.tr (GL_nx (fun _ _ => st_xY x_v360.2.2.1) x_v360.2.1)) | (refine GL_nx (fun _ _ => st_aV ?_) px75; omega) | (refine GL_nx (fun _ _ => st_aV ?_) px109; omega))⟩), Or.inl (by decide), (by omega)⟩) dX3_readAtom_79
  · skip
    have tc9 := f_ne (k := 0) (by decide) c9
    replace x_v60 := x_v60.resolve_left tc9
    clear x_v61
    refine lv_aload_n hx hb dX3_readAtom_12 rfl (lv_at hl 0 rfl) ?_
    refine lv_iload_n hx hb dX3_readAtom_13 rfl (lv_at hl 1 rfl) ?_
    refine tk_i hH hS hA (tr_V (n := 1) (As := [.int x1]) hx hb hml hown hts hkb hH (ox_map hOX rfl) hks hE hS hA (s_LR_enter5 l D cs kf T O X a0 x1 y0 y1 y2 y3 y4 y5 y6 y7 ft t tn tk t_a0 (by omega) (by omega) t_y0 (by omega) (by omega) (by omega) (by omega) (by omega) (by omega) (by omega) htb hto t_tk hU7 (hO.sub (by decide))) kw_636 kw_638 ks_8 kw_4 kw_639 (by decide +kernel) ⟨Nat.le_of_ble_eq_true rfl, Nat.le_of_ble_eq_true rfl⟩ (HT.recv (ci := 3) hkb hH t_a0 (hO.no t_a0 (by decide)) rfl) rfl rfl hl.1 (Nat.le_of_ble_eq_true rfl) dX3_readAtom_14 ⟨Nat.le_of_ble_eq_true rfl, Nat.le_of_ble_eq_true rfl⟩) (fun v14 u H locs hz9 hH hS => ?_)
    obtain ⟨n14_0_2, n14_0_3, n14_0_4, n14_0_5, rfl, l_v14, u_v14, x_v140, x_v141, x_v142⟩ := hz9
    have hH : HT D cs A T (tk :: y0 :: O) ((tk, .inr (7, [.ref y0, .int y1, .int n14_0_2, .int n14_0_3, .int n14_0_4, .int n14_0_5, .int y6, .int y7])) :: (y0, .inl (cs.1, 900, .inl ft)) :: X) H := hH
    refine W.widen (k := 0) (n := 0) (Nat.le_of_ble_eq_true rfl) (Nat.le_of_ble_eq_true rfl) ?_
    refine lv_if_eq (tgt := 46) hx hb dX3_readAtom_17 (by decide) (fun c17 => ?_) (fun c17 => ?_)
    · skip
      have tc17 := f_eq (k := 0) (by decide) c17
      exfalso; omega
    · skip
      have tc17 := f_ne (k := 0) (by decide) c17
      have g20 : GL t tn [(0, 5)] [(3, 6), (20, 36)] y2 n14_0_2 := GL_nx (fun _ _ => st_aP (by omega) (by decide)) x_v141
      refine lv_aload_n hx hb dX3_readAtom_20 rfl (lv_at hl 0 rfl) ?_
      refine lv_iload_n hx hb dX3_readAtom_21 rfl (lv_at hl 1 rfl) ?_
      refine lv_iconst (v := 1) hx hb dX3_readAtom_22 (by decide) ?_
      refine lv_iadd hx hb dX3_readAtom_23 ?_
      refine lv_topi (fun v23 ev23 => ?_)
      have tv23 : v23.toInt = x1.toInt + (1) := by rw [ev23]; exact add_i rfl (by decide : (1 : Int32).toInt = 1) (by omega) (by omega)
      refine tk_i hH hS hA (tr_V (n := 1) (As := [.int v23]) hx hb hml hown hts hkb hH (ox_map hOX rfl) hks hE hS hA (s_LR_readSum6 l D cs kf T O X a0 v23 y0 y1 n14_0_2 n14_0_3 n14_0_4 n14_0_5 y6 y7 ft t tn tk t_a0 (by omega) (by omega) t_y0 (by omega) (by omega) (by omega) (by omega) (by omega) (by omega) (by omega) htb x_v140 t_tk hU7 (by omega) (hO.sub (by decide))) kw_648 kw_650 ks_10 kw_4 kw_651 (by decide +kernel) ⟨Nat.le_of_ble_eq_true rfl, Nat.le_of_ble_eq_true rfl⟩ (HT.recv (ci := 3) hkb hH t_a0 (hO.no t_a0 (by decide)) rfl) rfl rfl hl.1 (Nat.le_of_ble_eq_true rfl) dX3_readAtom_24 ⟨Nat.le_of_ble_eq_true rfl, Nat.le_of_ble_eq_true rfl⟩) (fun v24 u H locs hz9 hH hS => ?_)
      obtain ⟨n24_0_2, n24_0_3, n24_0_4, n24_0_5, n24_0_6, n24_0_7, rfl, l_v24, u_v24, x_v240, x_v241, x_v242⟩ := hz9
      have hH : HT D cs A T (tk :: y0 :: O) ((tk, .inr (7, [.ref y0, .int y1, .int n24_0_2, .int n24_0_3, .int n24_0_4, .int n24_0_5, .int n24_0_6, .int n24_0_7])) :: (y0, .inl (cs.1, 900, .inl ft)) :: X) H := hH
      refine W.widen (k := 0) (n := 0) (Nat.le_of_ble_eq_true rfl) (Nat.le_of_ble_eq_true rfl) ?_
      refine lv_if_eq (tgt := 46) hx hb dX3_readAtom_27 (by decide) (fun c27 => ?_) (fun c27 => ?_)
      · skip
        have tc27 := f_eq (k := 0) (by decide) c27
        clear x_v240
        replace x_v241 := x_v241.resolve_left (fun q9 => q9 tc27)
        refine lv_iconst (v := 0) hx hb dX3_readAtom_46 (by decide) ?_
        have z9_0 : (0 : Int32).toInt = 0 := by decide
        exact te_z hx hb hr hlocks (by rfl) hH hS (⟨n24_0_2, n24_0_3, n24_0_4, n24_0_5, n24_0_6, n24_0_7, rfl, by decide, by decide, Or.inl (by decide), (Or.inr (by first | (refine BL_f (fun _ _ => st_aD ?_) x_v140 (by decide) x_v141 ?_ <;> omega) | (refine g20.bd (BL.cons x_v241)) | (refine g30.bd (BL_f (fun _ _ => st_xN x_v361.1) x_v361.2.1 (by decide) x_v361.2.2 ?_); omega) | (refine BL_f (fun _ _ => st_aN ?_ ?_) x_v950 (by decide) x_v951 ?_ <;> omega))), (by omega)⟩) dX3_readAtom_47
      · skip
        have tc27 := f_ne (k := 0) (by decide) c27
        replace x_v240 := x_v240.resolve_left tc27
        clear x_v241
        have g30 := g20.tr (GL.cons x_v240.2.2.2)
        refine lv_aload_n hx hb dX3_readAtom_30 rfl (lv_at hl 0 rfl) ?_
        refine t_get (ci := 3) (lst := ft3 0 0) (C := RX3) (F := TX3) (N := 3) hx hb hts uX3 hown hkb hH t_a0 (hO.no t_a0 (by decide)) (fun _ h9 => h9) rfl rfl 0 (by decide) rfl kw_82 (fun _ h9 => h9) dX3_readAtom_31 (fun v9 h9 => ?_)
        obtain ⟨v31, rfl, t_v31⟩ := h9
        have e9 := (hU7 _ _ t_v31).symm
        subst e9
        refine lv_bipush (v := 41) hx hb dX3_readAtom_34 (by decide) ?_
        have z9_41 : (41 : Int32).toInt = 41 := by decide
        refine tk_i hH hS hA (tr_V (n := 1) (As := [.int 41]) hx hb hml hown hts hkb hH (ox_map hOX rfl) hks hE hS hA (s_Tok_takeSign l D cs kf T O X tk (41) y0 y1 n24_0_2 n24_0_3 n24_0_4 n24_0_5 n24_0_6 n24_0_7 ft t tn 36 t_tk t_y0 (by omega) (by omega) (by omega) (by omega) (by omega) (by omega) (by omega) htb x_v240.1 (by decide) (by decide) (hO.sub (by decide))) kw_647 kw_611 kw_612 kw_3 kw_613 (by decide +kernel) ⟨Nat.le_of_ble_eq_true rfl, Nat.le_of_ble_eq_true rfl⟩ (x_recv (ci := 7) hkb hH 0 rfl rfl) rfl rfl hl.1 (Nat.le_of_ble_eq_true rfl) dX3_readAtom_36 ⟨Nat.le_of_ble_eq_true rfl, Nat.le_of_ble_eq_true rfl⟩) (fun v36 u H locs hz9 hH hS => ?_)
        obtain ⟨n36_0_2, n36_0_3, n36_0_4, n36_0_5, n36_0_6, n36_0_7, rfl, l_v36, u_v36, x_v360, x_v361, x_v362⟩ := hz9
        have hH : HT D cs A T (tk :: y0 :: O) ((tk, .inr (7, [.ref y0, .int y1, .int n36_0_2, .int n36_0_3, .int n36_0_4, .int n36_0_5, .int n36_0_6, .int n36_0_7])) :: (y0, .inl (cs.1, 900, .inl ft)) :: X) H := hH
        refine W.widen (k := 0) (n := 0) (Nat.le_of_ble_eq_true rfl) (Nat.le_of_ble_eq_true rfl) ?_
        refine lv_if_eq (tgt := 46) hx hb dX3_readAtom_39 (by decide) (fun c39 => ?_) (fun c39 => ?_)
        · skip
          have tc39 := f_eq (k := 0) (by decide) c39
          clear x_v360
          replace x_v361 := x_v361.resolve_left (fun q9 => q9 tc39)
          refine lv_iconst (v := 0) hx hb dX3_readAtom_46 (by decide) ?_
          have z9_0 : (0 : Int32).toInt = 0 := by decide
          exact te_z hx hb hr hlocks (by rfl) hH hS (⟨n36_0_2, n36_0_3, n36_0_4, n36_0_5, n36_0_6, n36_0_7, rfl, by decide, by decide, Or.inl (by decide), (Or.inr (by first | (refine BL_f (fun _ _ => st_aD ?_) x_v140 (by decide) x_v141 ?_ <;> omega) | (refine g20.bd (BL.cons x_v241)) | (refine g30.bd (BL_f (fun _ _ => st_xN x_v361.1) x_v361.2.1 (by decide) x_v361.2.2 ?_); omega) | (refine BL_f (fun _ _ => st_aN ?_ ?_) x_v950 (by decide) x_v951 ?_ <;> omega))), (by omega)⟩) dX3_readAtom_47
        · skip
          have tc39 := f_ne (k := 0) (by decide) c39
          replace x_v360 := x_v360.resolve_left tc39
          clear x_v361
          refine lv_iconst (v := 1) hx hb dX3_readAtom_42 (by decide) ?_
          refine lv_goto (tgt := 47) hx hb dX3_readAtom_43 (by decide) ?_
          have z9_1 : (1 : Int32).toInt = 1 := by decide
          exact te_z hx hb hr hlocks (by rfl) hH hS (⟨n36_0_2, n36_0_3, n36_0_4, n36_0_5, n36_0_6, n36_0_7, rfl, by decide, by decide, (Or.inr ⟨x_v360.1, by omega, by omega, (by first | (refine g30.tr (GL_nx (fun _ _ => st_xY x_v360.2.2.1) x_v360.2.1)) | (refine GL_nx (fun _ _ => st_aV ?_) px75; omega) | (refine GL_nx (fun _ _ => st_aV ?_) px109; omega))⟩), Or.inl (by decide), (by omega)⟩) dX3_readAtom_47
set_option maxHeartbeats 4000000 in
set_option maxRecDepth 100000 in
theorem s_LR_readTerm5 (l : Launch) (D : va_G) (cs : CS) (kf : KF) (T : TF) (O : List Nat) (X : va_W) (a0 : Nat) (x1 : Int32) (y0 : Nat) (y1 : Int32) (y2 : Int32) (y3 : Int32) (y4 : Int32) (y5 : Int32) (y6 : Int32) (y7 : Int32) (ft : Nat → Int32) (t : Tp) (tn : Nat) (tk : Nat) (t_a0 : T a0 = some (13, 0, 0)) (l_x1 : 5 ≤ x1.toInt) (u_x1 : x1.toInt ≤ 5) (t_y0 : T y0 = some (0, 900, 0)) (l_y1 : 0 ≤ y1.toInt) (u_y1 : y1.toInt ≤ 900) (l_y2 : 0 ≤ y2.toInt) (u_y2 : y2.toInt ≤ 900) (l_y3 : 0 ≤ y3.toInt) (u_y3 : y3.toInt ≤ 900) (hn : y1.toInt = (tn : Int)) (htb : TB ft t) (hto : TSS t tn y2 y3 y4 y5) (t_tk : T tk = some (17, 0, 0)) (hU7 : ∀ (b : Nat) (q : Nat), T b = some (17, 0, q) → b = tk) (hz : y6.toInt = 0) (hO : okO T (tk :: y0 :: O) [1, 13]) : TK l D cs kf yX3_readTerm cX3_readTerm 4 (some (.boolean)) { frames := 10, cells := 0, slots := 0, locals := 218 } [.ref a0, .int x1] T (tk :: y0 :: O) ((tk, .inr (7, [.ref y0, .int y1, .int y2, .int y3, .int y4, .int y5, .int y6, .int y7])) :: (y0, .inl (cs.1, 900, .inl ft)) :: X) (Ti D cs (fun r u => ∃ (n0_2 : Int32) (n0_3 : Int32) (n0_4 : Int32) (n0_5 : Int32) (n0_6 : Int32) (n0_7 : Int32), u = (T, tk :: y0 :: O, (tk, .inr (7, [.ref y0, .int y1, .int n0_2, .int n0_3, .int n0_4, .int n0_5, .int n0_6, .int n0_7])) :: (y0, .inl (cs.1, 900, .inl ft)) :: X) ∧ 0 ≤ r.toInt ∧ r.toInt ≤ 1 ∧ (r.toInt = 0 ∨ (TSS t tn n0_2 n0_3 n0_4 n0_5 ∧ n0_6.toInt = 0 ∧ n0_7.toInt = y7.toInt ∧ GL t tn [(1, 5)] [] y2 n0_2)) ∧ (r.toInt ≠ 0 ∨ BL t tn [(1, 5)] y2 n0_6 n0_7) ∧ (y2.toInt ≤ n0_2.toInt ∧ n0_2.toInt ≤ n0_3.toInt ∧ n0_3.toInt ≤ y1.toInt))) := by
  refine tk_of (by decide) (Nat.le_of_ble_eq_true rfl) (fun p e s m below meth c ls A H locs hx hb hr hml hown hts hlocks hnm hkb hH hS hA hOX hks hE hl => ?_)
  have hown : s.vm.findClass RX3 = some m.cls := hown
  have hl : lv_has ls 4 [(0, .ref a0), (1, .int x1)] := hl
  have hOXf := hOX
  have hb9 := hto.b
  have hc9 := hto.cs
  refine lv_aload_n hx hb dX3_readTerm_0 rfl (lv_at hl 0 rfl) ?_
  refine lv_iload_n hx hb dX3_readTerm_1 rfl (lv_at hl 1 rfl) ?_
  refine tk_i hH hS hA (tr_V (n := 1) (As := [.int x1]) hx hb hml hown hts hkb hH (ox_map hOX rfl) hks hE hS hA (s_LR_readAtom5 l D cs kf T O X a0 x1 y0 y1 y2 y3 y4 y5 y6 y7 ft t tn tk t_a0 (by omega) (by omega) t_y0 (by omega) (by omega) (by omega) (by omega) (by omega) (by omega) (by omega) htb hto t_tk hU7 (by omega) (hO.sub (by decide))) kw_656 kw_658 ks_12 kw_4 kw_659 (by decide +kernel) ⟨Nat.le_of_ble_eq_true rfl, Nat.le_of_ble_eq_true rfl⟩ (HT.recv (ci := 3) hkb hH t_a0 (hO.no t_a0 (by decide)) rfl) rfl rfl hl.1 (Nat.le_of_ble_eq_true rfl) dX3_readTerm_2 ⟨Nat.le_of_ble_eq_true rfl, Nat.le_of_ble_eq_true rfl⟩) (fun v2 u H locs hz9 hH hS => ?_)
  obtain ⟨n2_0_2, n2_0_3, n2_0_4, n2_0_5, n2_0_6, n2_0_7, rfl, l_v2, u_v2, x_v20, x_v21, x_v22⟩ := hz9
  have hH : HT D cs A T (tk :: y0 :: O) ((tk, .inr (7, [.ref y0, .int y1, .int n2_0_2, .int n2_0_3, .int n2_0_4, .int n2_0_5, .int n2_0_6, .int n2_0_7])) :: (y0, .inl (cs.1, 900, .inl ft)) :: X) H := hH
  refine W.widen (k := 0) (n := 0) (Nat.le_of_ble_eq_true rfl) (Nat.le_of_ble_eq_true rfl) ?_
  refine lv_istore_n (lv' := [(2, .int v2), (0, .ref a0), (1, .int x1)]) hx hb dX3_readTerm_5 rfl hl (by decide) rfl (fun ls hl => ?_)
  refine lv_iconst (v := 0) hx hb dX3_readTerm_6 (by decide) ?_
  have J8 : ∀ (n : Nat) (p8_3 : Int32) (p8_2 : Int32) (f8_102 : Int32) (f8_103 : Int32) (f8_104 : Int32) (f8_105 : Int32) (f8_106 : Int32) (f8_107 : Int32) (H : Heap) (locs : List Loc) (ls : Array Slot), (900 - p8_3.toInt).toNat = n → (0 ≤ p8_3.toInt) → (p8_3.toInt ≤ 900) → (0 ≤ p8_2.toInt) → (p8_2.toInt ≤ 1) → (0 ≤ f8_102.toInt) → (f8_102.toInt ≤ 900) → (0 ≤ f8_103.toInt) → (f8_103.toInt ≤ 900) → (LTI t tn [(1, 5)] [(2, 5)] y2 p8_2 f8_102 f8_103 f8_104 f8_105 f8_106 f8_107 y7) → (y2.toInt ≤ f8_102.toInt ∧ f8_102.toInt ≤ f8_103.toInt ∧ f8_103.toInt ≤ y1.toInt) → (p8_2.toInt = 0 ∨ p8_3.toInt ≤ f8_102.toInt) → HT D cs A T (tk :: y0 :: O) ((tk, .inr (7, [.ref y0, .int y1, .int f8_102, .int f8_103, .int f8_104, .int f8_105, .int f8_106, .int f8_107])) :: (y0, .inl (cs.1, 900, .inl ft)) :: X) H → va_S A s.heap H locs → lv_has ls 4 [(3, .int p8_3), (2, .int p8_2), (0, .ref a0), (1, .int x1)] → W p l e { frames := 10, cells := 0, slots := 0, locals := 218 } s m [.ref a0, .int x1].toArray below meth c H locs 0 0 (MQ below (Ti D cs (fun r u => ∃ (n0_2 : Int32) (n0_3 : Int32) (n0_4 : Int32) (n0_5 : Int32) (n0_6 : Int32) (n0_7 : Int32), u = (T, tk :: y0 :: O, (tk, .inr (7, [.ref y0, .int y1, .int n0_2, .int n0_3, .int n0_4, .int n0_5, .int n0_6, .int n0_7])) :: (y0, .inl (cs.1, 900, .inl ft)) :: X) ∧ 0 ≤ r.toInt ∧ r.toInt ≤ 1 ∧ (r.toInt = 0 ∨ (TSS t tn n0_2 n0_3 n0_4 n0_5 ∧ n0_6.toInt = 0 ∧ n0_7.toInt = y7.toInt ∧ GL t tn [(1, 5)] [] y2 n0_2)) ∧ (r.toInt ≠ 0 ∨ BL t tn [(1, 5)] y2 n0_6 n0_7) ∧ (y2.toInt ≤ n0_2.toInt ∧ n0_2.toInt ≤ n0_3.toInt ∧ n0_3.toInt ≤ y1.toInt)) A) [.ref a0, .int x1].toArray s 0 0 A) (F0 m 8 ls []) := by
    intro n
    induction n using Nat.strongRecOn with
    | _ n ih8 =>
      intro p8_3 p8_2 f8_102 f8_103 f8_104 f8_105 f8_106 f8_107 H locs ls hm8 l_p8_3 u_p8_3 l_p8_2 u_p8_2 l_f8_102 u_f8_102 l_f8_103 u_f8_103 i8t i8n i8c hH hS hl
      refine lv_iload_n hx hb dX3_readTerm_8 rfl (lv_at hl 0 rfl) ?_
      refine lv_sipush (v := 900) hx hb dX3_readTerm_9 (by decide) ?_
      refine lv_icmp_ge (tgt := 57) hx hb dX3_readTerm_12 (by decide) (fun c12 => ?_) (fun c12 => ?_)
      · skip
        have tc12 := f_ge (k := 900) (by decide) c12
        have hk9 : p8_2.toInt = 0 ∨ GL t tn [(2, 5)] [] f8_102 f8_102 := by first | (refine Or.inl ?_; omega) | exact Or.inr (fun _ _ => st_tN x_v251) | (by_cases q9 : p8_2.toInt = 0; exact Or.inl q9; refine Or.inr (fun _ _ => st_tN ?_); have q8 := LTI.ok i8t q9; have q7 := q8.1.b; rw [kd_end (by omega)]; decide)
        have hz9 := LTI.en i8t hk9
        refine lv_iload_n hx hb dX3_readTerm_57 rfl (lv_at hl 1 rfl) ?_
        exact te_z hx hb hr hlocks (nar01 (by omega) (by omega)) hH hS (⟨f8_102, f8_103, f8_104, f8_105, f8_106, f8_107, rfl, by omega, by omega, hz9.1, hz9.2, (by omega)⟩) dX3_readTerm_58
      · skip
        have tc12 := f_nge (k := 900) (by decide) c12
        refine lv_iload_n hx hb dX3_readTerm_15 rfl (lv_at hl 1 rfl) ?_
        refine lv_if_eq (tgt := 57) hx hb dX3_readTerm_16 (by decide) (fun c16 => ?_) (fun c16 => ?_)
        · skip
          have tc16 := f_eq (k := 0) (by decide) c16
          have hk9 : p8_2.toInt = 0 ∨ GL t tn [(2, 5)] [] f8_102 f8_102 := by first | (refine Or.inl ?_; omega) | exact Or.inr (fun _ _ => st_tN x_v251) | (by_cases q9 : p8_2.toInt = 0; exact Or.inl q9; refine Or.inr (fun _ _ => st_tN ?_); have q8 := LTI.ok i8t q9; have q7 := q8.1.b; rw [kd_end (by omega)]; decide)
          have hz9 := LTI.en i8t hk9
          refine lv_iload_n hx hb dX3_readTerm_57 rfl (lv_at hl 1 rfl) ?_
          exact te_z hx hb hr hlocks (nar01 (by omega) (by omega)) hH hS (⟨f8_102, f8_103, f8_104, f8_105, f8_106, f8_107, rfl, by omega, by omega, hz9.1, hz9.2, (by omega)⟩) dX3_readTerm_58
        · skip
          have tc16 := f_ne (k := 0) (by decide) c16
          have h19 := LTI.ok i8t (by omega)
          have hb19 := h19.1.b
          have hc19 := h19.1.cs
          refine lv_aload_n hx hb dX3_readTerm_19 rfl (lv_at hl 2 rfl) ?_
          refine t_get (ci := 3) (lst := ft3 0 0) (C := RX3) (F := TX3) (N := 3) hx hb hts uX3 hown hkb hH t_a0 (hO.no t_a0 (by decide)) (fun _ h9 => h9) rfl rfl 0 (by decide) rfl kw_82 (fun _ h9 => h9) dX3_readTerm_20 (fun v9 h9 => ?_)
          obtain ⟨v20, rfl, t_v20⟩ := h9
          have e9 := (hU7 _ _ t_v20).symm
          subst e9
          refine lv_bipush (v := 42) hx hb dX3_readTerm_23 (by decide) ?_
          have z9_42 : (42 : Int32).toInt = 42 := by decide
          refine tk_i hH hS hA (tr_V (n := 1) (As := [.int 42]) hx hb hml hown hts hkb hH (ox_map hOX rfl) hks hE hS hA (s_Tok_isSign l D cs kf T O X tk (42) y0 y1 f8_102 f8_103 f8_104 f8_105 f8_106 f8_107 ft t tn 34 t_tk t_y0 (by omega) (by omega) (by omega) (by omega) (by omega) (by omega) (by omega) htb h19.1 (by decide) (by decide) (hO.sub (by decide))) kw_646 kw_615 kw_616 kw_3 kw_617 (by decide +kernel) ⟨Nat.le_of_ble_eq_true rfl, Nat.le_of_ble_eq_true rfl⟩ (x_recv (ci := 7) hkb hH 0 rfl rfl) rfl rfl hl.1 (Nat.le_of_ble_eq_true rfl) dX3_readTerm_25 ⟨Nat.le_of_ble_eq_true rfl, Nat.le_of_ble_eq_true rfl⟩) (fun v25 u H locs hz9 hH hS => ?_)
          obtain ⟨rfl, l_v25, u_v25, x_v250, x_v251⟩ := hz9
          have hH : HT D cs A T (tk :: y0 :: O) ((tk, .inr (7, [.ref y0, .int y1, .int f8_102, .int f8_103, .int f8_104, .int f8_105, .int f8_106, .int f8_107])) :: (y0, .inl (cs.1, 900, .inl ft)) :: X) H := hH
          refine W.widen (k := 0) (n := 0) (Nat.le_of_ble_eq_true rfl) (Nat.le_of_ble_eq_true rfl) ?_
          refine lv_if_eq (tgt := 57) hx hb dX3_readTerm_28 (by decide) (fun c28 => ?_) (fun c28 => ?_)
          · skip
            have tc28 := f_eq (k := 0) (by decide) c28
            clear x_v250
            replace x_v251 := x_v251.resolve_left (fun q9 => q9 tc28)
            have hk9 : p8_2.toInt = 0 ∨ GL t tn [(2, 5)] [] f8_102 f8_102 := by first | (refine Or.inl ?_; omega) | exact Or.inr (fun _ _ => st_tN x_v251) | (by_cases q9 : p8_2.toInt = 0; exact Or.inl q9; refine Or.inr (fun _ _ => st_tN ?_); have q8 := LTI.ok i8t q9; have q7 := q8.1.b; rw [kd_end (by omega)]; decide)
            have hz9 := LTI.en i8t hk9
            refine lv_iload_n hx hb dX3_readTerm_57 rfl (lv_at hl 1 rfl) ?_
            exact te_z hx hb hr hlocks (nar01 (by omega) (by omega)) hH hS (⟨f8_102, f8_103, f8_104, f8_105, f8_106, f8_107, rfl, by omega, by omega, hz9.1, hz9.2, (by omega)⟩) dX3_readTerm_58
          · skip
            have tc28 := f_ne (k := 0) (by decide) c28
            replace x_v250 := x_v250.resolve_left tc28
            clear x_v251
            refine lv_aload_n hx hb dX3_readTerm_31 rfl (lv_at hl 2 rfl) ?_
            refine t_get (ci := 3) (lst := ft3 0 0) (C := RX3) (F := TX3) (N := 3) hx hb hts uX3 hown hkb hH t_a0 (hO.no t_a0 (by decide)) (fun _ h9 => h9) rfl rfl 0 (by decide) rfl kw_82 (fun _ h9 => h9) dX3_readTerm_32 (fun v9 h9 => ?_)
            obtain ⟨v32, rfl, t_v32⟩ := h9
            have e9 := (hU7 _ _ t_v32).symm
            subst e9
            have hl9 := h19.1.lt (by omega)
            refine tk_v hH hS hA (tr_V (n := 0) (As := []) hx hb hml hown hts hkb hH (ox_map hOX rfl) hks hE hS hA (s_Tok_go l D cs kf T O X tk y0 y1 f8_102 f8_103 f8_104 f8_105 f8_106 f8_107 ft t tn t_tk t_y0 (by omega) (by omega) (by omega) (by omega) (by omega) (by omega) (by omega) htb (by have q9 := (h19.1).b; omega) (hO.sub (by decide))) kw_641 kw_453 kw_454 kw_3 kw_455 (by decide +kernel) ⟨Nat.le_of_ble_eq_true rfl, Nat.le_of_ble_eq_true rfl⟩ (x_recv (ci := 7) hkb hH 0 rfl rfl) rfl rfl hl.1 (Nat.le_of_ble_eq_true rfl) dX3_readTerm_35 ⟨Nat.le_of_ble_eq_true rfl, Nat.le_of_ble_eq_true rfl⟩) (fun u H locs hz9 hH hS => ?_)
            obtain ⟨n35_0_2, n35_0_3, n35_0_4, n35_0_5, rfl, x_v350, x_v351, x_v352⟩ := hz9
            have px35 := TSS.nx h19.1 x_v351
            have hH : HT D cs A T (tk :: y0 :: O) ((tk, .inr (7, [.ref y0, .int y1, .int n35_0_2, .int n35_0_3, .int n35_0_4, .int n35_0_5, .int f8_106, .int f8_107])) :: (y0, .inl (cs.1, 900, .inl ft)) :: X) H := hH
            refine W.widen (k := 0) (n := 0) (Nat.le_of_ble_eq_true rfl) (Nat.le_of_ble_eq_true rfl) ?_
            refine lv_aload_n hx hb dX3_readTerm_38 rfl (lv_at hl 2 rfl) ?_
            refine lv_iload_n hx hb dX3_readTerm_39 rfl (lv_at hl 3 rfl) ?_
            refine tk_i hH hS hA (tr_V (n := 1) (As := [.int x1]) hx hb hml hown hts hkb hH (ox_map hOX rfl) hks hE hS hA (s_LR_readAtom5 l D cs kf T O X a0 x1 y0 y1 n35_0_2 n35_0_3 n35_0_4 n35_0_5 f8_106 f8_107 ft t tn tk t_a0 (by omega) (by omega) t_y0 (by omega) (by omega) (by omega) (by omega) (by omega) (by omega) (by omega) htb x_v350 t_tk hU7 (by omega) (hO.sub (by decide))) kw_656 kw_658 ks_12 kw_4 kw_659 (by decide +kernel) ⟨Nat.le_of_ble_eq_true rfl, Nat.le_of_ble_eq_true rfl⟩ (HT.recv (ci := 3) hkb hH t_a0 (hO.no t_a0 (by decide)) rfl) rfl rfl hl.1 (Nat.le_of_ble_eq_true rfl) dX3_readTerm_40 ⟨Nat.le_of_ble_eq_true rfl, Nat.le_of_ble_eq_true rfl⟩) (fun v40 u H locs hz9 hH hS => ?_)
            obtain ⟨n40_0_2, n40_0_3, n40_0_4, n40_0_5, n40_0_6, n40_0_7, rfl, l_v40, u_v40, x_v400, x_v401, x_v402⟩ := hz9
            have hH : HT D cs A T (tk :: y0 :: O) ((tk, .inr (7, [.ref y0, .int y1, .int n40_0_2, .int n40_0_3, .int n40_0_4, .int n40_0_5, .int n40_0_6, .int n40_0_7])) :: (y0, .inl (cs.1, 900, .inl ft)) :: X) H := hH
            refine W.widen (k := 0) (n := 0) (Nat.le_of_ble_eq_true rfl) (Nat.le_of_ble_eq_true rfl) ?_
            refine lv_istore_n (lv' := [(2, .int v40), (3, .int p8_3), (0, .ref a0), (1, .int x1)]) hx hb dX3_readTerm_43 rfl hl (by decide) rfl (fun ls hl => ?_)
            refine lv_aload_n hx hb dX3_readTerm_44 rfl (lv_at hl 2 rfl) ?_
            refine lv_bipush (v := 7) hx hb dX3_readTerm_45 (by decide) ?_
            refine lv_iconst (v := 0) hx hb dX3_readTerm_47 (by decide) ?_
            refine tk_v hH hS hA (tr_V (n := 2) (As := [.int 7, .int 0]) hx hb hml hown hts hkb hH (ox_map hOX rfl) hks hE hS hA (s_LR_put l D cs kf T (tk :: y0 :: O) ((tk, .inr (7, [.ref y0, .int y1, .int n40_0_2, .int n40_0_3, .int n40_0_4, .int n40_0_5, .int n40_0_6, .int n40_0_7])) :: (y0, .inl (cs.1, 900, .inl ft)) :: X) a0 (7) (0) t_a0 (hO.sub (by decide))) kw_642 kw_644 ks_9 kw_4 kw_645 (by decide +kernel) ⟨Nat.le_of_ble_eq_true rfl, Nat.le_of_ble_eq_true rfl⟩ (HT.recv (ci := 3) hkb hH t_a0 (hO.no t_a0 (by decide)) rfl) rfl rfl hl.1 (Nat.le_of_ble_eq_true rfl) dX3_readTerm_48 ⟨Nat.le_of_ble_eq_true rfl, Nat.le_of_ble_eq_true rfl⟩) (fun u H locs hz9 hH hS => ?_)
            have hz9 : u = (T, tk :: y0 :: O, (tk, .inr (7, [.ref y0, .int y1, .int n40_0_2, .int n40_0_3, .int n40_0_4, .int n40_0_5, .int n40_0_6, .int n40_0_7])) :: (y0, .inl (cs.1, 900, .inl ft)) :: X) := hz9
            subst hz9
            have hH : HT D cs A T (tk :: y0 :: O) ((tk, .inr (7, [.ref y0, .int y1, .int n40_0_2, .int n40_0_3, .int n40_0_4, .int n40_0_5, .int n40_0_6, .int n40_0_7])) :: (y0, .inl (cs.1, 900, .inl ft)) :: X) H := hH
            refine W.widen (k := 0) (n := 0) (Nat.le_of_ble_eq_true rfl) (Nat.le_of_ble_eq_true rfl) ?_
            obtain ⟨v51, ev51⟩ : ∃ y : Int32, y = p8_3 + 1 := ⟨_, rfl⟩
            have tv51 : v51.toInt = p8_3.toInt + (1) := by rw [ev51]; exact add_i rfl (by decide) (by omega) (by omega)
            refine lv_iinc (v := v51) (lv' := [(3, .int v51), (2, .int v40), (0, .ref a0), (1, .int x1)]) hx hb dX3_readTerm_51 hl (k := 1) rfl (by rw [ev51]; rfl) (by decide) rfl (fun ls hl => ?_)
            refine lv_goto (tgt := 8) hx hb dX3_readTerm_54 (by decide) ?_
            exact ih8 _ (by omega) v51 v40 n40_0_2 n40_0_3 n40_0_4 n40_0_5 n40_0_6 n40_0_7 _ _ _ rfl (by omega) (by omega) (by omega) (by omega) (by omega) (by omega) (by omega) (by omega) (by first | (refine LTI.st (fun _ _ => st_t) x_v20 x_v21 l_v2 u_v2 rfl) | (refine LTI.st (h19.2.2.2.tr (GL_nx (fun _ _ => st_tY x_v250) px35)) x_v400 x_v401 l_v40 u_v40 ?_; omega)) (by omega) (by omega) hH hS (lv_sub hl [0, 1, 2, 3] rfl)
  refine lv_istore_n (lv' := [(3, .int 0), (2, .int v2), (0, .ref a0), (1, .int x1)]) hx hb dX3_readTerm_7 rfl hl (by decide) rfl (fun ls hl => ?_)
  have z_0 : (0 : Int32).toInt = 0 := by decide
  exact J8 _ 0 v2 n2_0_2 n2_0_3 n2_0_4 n2_0_5 n2_0_6 n2_0_7 _ _ _ rfl (by decide) (by decide) (by omega) (by omega) (by omega) (by omega) (by omega) (by omega) (by first | (refine LTI.st (fun _ _ => st_t) x_v20 x_v21 l_v2 u_v2 rfl) | (refine LTI.st (h19.2.2.2.tr (GL_nx (fun _ _ => st_tY x_v250) px35)) x_v400 x_v401 l_v40 u_v40 ?_; omega)) (by omega) (by omega) hH hS (lv_sub hl [0, 1, 2, 3] rfl)
set_option maxHeartbeats 4000000 in
set_option maxRecDepth 100000 in
theorem s_LR_readSum5 (l : Launch) (D : va_G) (cs : CS) (kf : KF) (T : TF) (O : List Nat) (X : va_W) (a0 : Nat) (x1 : Int32) (y0 : Nat) (y1 : Int32) (y2 : Int32) (y3 : Int32) (y4 : Int32) (y5 : Int32) (y6 : Int32) (y7 : Int32) (ft : Nat → Int32) (t : Tp) (tn : Nat) (tk : Nat) (t_a0 : T a0 = some (13, 0, 0)) (l_x1 : 5 ≤ x1.toInt) (u_x1 : x1.toInt ≤ 5) (t_y0 : T y0 = some (0, 900, 0)) (l_y1 : 0 ≤ y1.toInt) (u_y1 : y1.toInt ≤ 900) (l_y2 : 0 ≤ y2.toInt) (u_y2 : y2.toInt ≤ 900) (l_y3 : 0 ≤ y3.toInt) (u_y3 : y3.toInt ≤ 900) (hn : y1.toInt = (tn : Int)) (htb : TB ft t) (hto : TSS t tn y2 y3 y4 y5) (t_tk : T tk = some (17, 0, 0)) (hU7 : ∀ (b : Nat) (q : Nat), T b = some (17, 0, q) → b = tk) (hz : y6.toInt = 0) (hO : okO T (tk :: y0 :: O) [1, 13]) : TK l D cs kf yX3_readSum cX3_readSum 5 (some (.boolean)) { frames := 11, cells := 0, slots := 0, locals := 241 } [.ref a0, .int x1] T (tk :: y0 :: O) ((tk, .inr (7, [.ref y0, .int y1, .int y2, .int y3, .int y4, .int y5, .int y6, .int y7])) :: (y0, .inl (cs.1, 900, .inl ft)) :: X) (Ti D cs (fun r u => ∃ (n0_2 : Int32) (n0_3 : Int32) (n0_4 : Int32) (n0_5 : Int32) (n0_6 : Int32) (n0_7 : Int32), u = (T, tk :: y0 :: O, (tk, .inr (7, [.ref y0, .int y1, .int n0_2, .int n0_3, .int n0_4, .int n0_5, .int n0_6, .int n0_7])) :: (y0, .inl (cs.1, 900, .inl ft)) :: X) ∧ 0 ≤ r.toInt ∧ r.toInt ≤ 1 ∧ (r.toInt = 0 ∨ (TSS t tn n0_2 n0_3 n0_4 n0_5 ∧ n0_6.toInt = 0 ∧ n0_7.toInt = y7.toInt ∧ GL t tn [(3, 5)] [] y2 n0_2)) ∧ (r.toInt ≠ 0 ∨ BL t tn [(3, 5)] y2 n0_6 n0_7) ∧ (y2.toInt ≤ n0_2.toInt ∧ n0_2.toInt ≤ n0_3.toInt ∧ n0_3.toInt ≤ y1.toInt))) := by
  refine tk_of (by decide) (Nat.le_of_ble_eq_true rfl) (fun p e s m below meth c ls A H locs hx hb hr hml hown hts hlocks hnm hkb hH hS hA hOX hks hE hl => ?_)
  have hown : s.vm.findClass RX3 = some m.cls := hown
  have hl : lv_has ls 5 [(0, .ref a0), (1, .int x1)] := hl
  have hOXf := hOX
  have hb9 := hto.b
  have hc9 := hto.cs
  refine lv_aload_n hx hb dX3_readSum_0 rfl (lv_at hl 0 rfl) ?_
  refine lv_iload_n hx hb dX3_readSum_1 rfl (lv_at hl 1 rfl) ?_
  refine tk_i hH hS hA (tr_V (n := 1) (As := [.int x1]) hx hb hml hown hts hkb hH (ox_map hOX rfl) hks hE hS hA (s_LR_readTerm5 l D cs kf T O X a0 x1 y0 y1 y2 y3 y4 y5 y6 y7 ft t tn tk t_a0 (by omega) (by omega) t_y0 (by omega) (by omega) (by omega) (by omega) (by omega) (by omega) (by omega) htb hto t_tk hU7 (by omega) (hO.sub (by decide))) kw_652 kw_654 ks_11 kw_4 kw_655 (by decide +kernel) ⟨Nat.le_of_ble_eq_true rfl, Nat.le_of_ble_eq_true rfl⟩ (HT.recv (ci := 3) hkb hH t_a0 (hO.no t_a0 (by decide)) rfl) rfl rfl hl.1 (Nat.le_of_ble_eq_true rfl) dX3_readSum_2 ⟨Nat.le_of_ble_eq_true rfl, Nat.le_of_ble_eq_true rfl⟩) (fun v2 u H locs hz9 hH hS => ?_)
  obtain ⟨n2_0_2, n2_0_3, n2_0_4, n2_0_5, n2_0_6, n2_0_7, rfl, l_v2, u_v2, x_v20, x_v21, x_v22⟩ := hz9
  have hH : HT D cs A T (tk :: y0 :: O) ((tk, .inr (7, [.ref y0, .int y1, .int n2_0_2, .int n2_0_3, .int n2_0_4, .int n2_0_5, .int n2_0_6, .int n2_0_7])) :: (y0, .inl (cs.1, 900, .inl ft)) :: X) H := hH
  refine W.widen (k := 0) (n := 0) (Nat.le_of_ble_eq_true rfl) (Nat.le_of_ble_eq_true rfl) ?_
  refine lv_istore_n (lv' := [(2, .int v2), (0, .ref a0), (1, .int x1)]) hx hb dX3_readSum_5 rfl hl (by decide) rfl (fun ls hl => ?_)
  refine lv_iconst (v := 0) hx hb dX3_readSum_6 (by decide) ?_
  have J8 : ∀ (n : Nat) (p8_3 : Int32) (p8_2 : Int32) (f8_102 : Int32) (f8_103 : Int32) (f8_104 : Int32) (f8_105 : Int32) (f8_106 : Int32) (f8_107 : Int32) (H : Heap) (locs : List Loc) (ls : Array Slot), (900 - p8_3.toInt).toNat = n → (0 ≤ p8_3.toInt) → (p8_3.toInt ≤ 900) → (0 ≤ p8_2.toInt) → (p8_2.toInt ≤ 1) → (0 ≤ f8_102.toInt) → (f8_102.toInt ≤ 900) → (0 ≤ f8_103.toInt) → (f8_103.toInt ≤ 900) → (LTI t tn [(3, 5)] [(4, 5)] y2 p8_2 f8_102 f8_103 f8_104 f8_105 f8_106 f8_107 y7) → (y2.toInt ≤ f8_102.toInt ∧ f8_102.toInt ≤ f8_103.toInt ∧ f8_103.toInt ≤ y1.toInt) → (p8_2.toInt = 0 ∨ p8_3.toInt ≤ f8_102.toInt) → HT D cs A T (tk :: y0 :: O) ((tk, .inr (7, [.ref y0, .int y1, .int f8_102, .int f8_103, .int f8_104, .int f8_105, .int f8_106, .int f8_107])) :: (y0, .inl (cs.1, 900, .inl ft)) :: X) H → va_S A s.heap H locs → lv_has ls 5 [(3, .int p8_3), (2, .int p8_2), (0, .ref a0), (1, .int x1)] → W p l e { frames := 11, cells := 0, slots := 0, locals := 241 } s m [.ref a0, .int x1].toArray below meth c H locs 0 0 (MQ below (Ti D cs (fun r u => ∃ (n0_2 : Int32) (n0_3 : Int32) (n0_4 : Int32) (n0_5 : Int32) (n0_6 : Int32) (n0_7 : Int32), u = (T, tk :: y0 :: O, (tk, .inr (7, [.ref y0, .int y1, .int n0_2, .int n0_3, .int n0_4, .int n0_5, .int n0_6, .int n0_7])) :: (y0, .inl (cs.1, 900, .inl ft)) :: X) ∧ 0 ≤ r.toInt ∧ r.toInt ≤ 1 ∧ (r.toInt = 0 ∨ (TSS t tn n0_2 n0_3 n0_4 n0_5 ∧ n0_6.toInt = 0 ∧ n0_7.toInt = y7.toInt ∧ GL t tn [(3, 5)] [] y2 n0_2)) ∧ (r.toInt ≠ 0 ∨ BL t tn [(3, 5)] y2 n0_6 n0_7) ∧ (y2.toInt ≤ n0_2.toInt ∧ n0_2.toInt ≤ n0_3.toInt ∧ n0_3.toInt ≤ y1.toInt)) A) [.ref a0, .int x1].toArray s 0 0 A) (F0 m 8 ls []) := by
    intro n
    induction n using Nat.strongRecOn with
    | _ n ih8 =>
      intro p8_3 p8_2 f8_102 f8_103 f8_104 f8_105 f8_106 f8_107 H locs ls hm8 l_p8_3 u_p8_3 l_p8_2 u_p8_2 l_f8_102 u_f8_102 l_f8_103 u_f8_103 i8t i8n i8c hH hS hl
      refine lv_iload_n hx hb dX3_readSum_8 rfl (lv_at hl 0 rfl) ?_
      refine lv_sipush (v := 900) hx hb dX3_readSum_9 (by decide) ?_
      refine lv_icmp_ge (tgt := 89) hx hb dX3_readSum_12 (by decide) (fun c12 => ?_) (fun c12 => ?_)
      · skip
        have tc12 := f_ge (k := 900) (by decide) c12
        have hk9 : p8_2.toInt = 0 ∨ GL t tn [(4, 5)] [] f8_102 f8_102 := by first | (refine Or.inl ?_; omega) | exact Or.inr (fun _ _ => st_sN (by omega)) | (by_cases q9 : p8_2.toInt = 0; exact Or.inl q9; refine Or.inr (fun _ _ => st_sN ?_); have q8 := LTI.ok i8t q9; have q7 := q8.1.b; rw [kd_end (by omega)]; decide)
        have hz9 := LTI.en i8t hk9
        refine lv_iload_n hx hb dX3_readSum_89 rfl (lv_at hl 1 rfl) ?_
        exact te_z hx hb hr hlocks (nar01 (by omega) (by omega)) hH hS (⟨f8_102, f8_103, f8_104, f8_105, f8_106, f8_107, rfl, by omega, by omega, hz9.1, hz9.2, (by omega)⟩) dX3_readSum_90
      · skip
        have tc12 := f_nge (k := 900) (by decide) c12
        refine lv_iload_n hx hb dX3_readSum_15 rfl (lv_at hl 1 rfl) ?_
        refine lv_if_eq (tgt := 89) hx hb dX3_readSum_16 (by decide) (fun c16 => ?_) (fun c16 => ?_)
        · skip
          have tc16 := f_eq (k := 0) (by decide) c16
          have hk9 : p8_2.toInt = 0 ∨ GL t tn [(4, 5)] [] f8_102 f8_102 := by first | (refine Or.inl ?_; omega) | exact Or.inr (fun _ _ => st_sN (by omega)) | (by_cases q9 : p8_2.toInt = 0; exact Or.inl q9; refine Or.inr (fun _ _ => st_sN ?_); have q8 := LTI.ok i8t q9; have q7 := q8.1.b; rw [kd_end (by omega)]; decide)
          have hz9 := LTI.en i8t hk9
          refine lv_iload_n hx hb dX3_readSum_89 rfl (lv_at hl 1 rfl) ?_
          exact te_z hx hb hr hlocks (nar01 (by omega) (by omega)) hH hS (⟨f8_102, f8_103, f8_104, f8_105, f8_106, f8_107, rfl, by omega, by omega, hz9.1, hz9.2, (by omega)⟩) dX3_readSum_90
        · skip
          have tc16 := f_ne (k := 0) (by decide) c16
          have h19 := LTI.ok i8t (by omega)
          have hb19 := h19.1.b
          have hc19 := h19.1.cs
          refine lv_aload_n hx hb dX3_readSum_19 rfl (lv_at hl 2 rfl) ?_
          refine t_get (ci := 3) (lst := ft3 0 0) (C := RX3) (F := TX3) (N := 3) hx hb hts uX3 hown hkb hH t_a0 (hO.no t_a0 (by decide)) (fun _ h9 => h9) rfl rfl 0 (by decide) rfl kw_82 (fun _ h9 => h9) dX3_readSum_20 (fun v9 h9 => ?_)
          obtain ⟨v20, rfl, t_v20⟩ := h9
          have e9 := (hU7 _ _ t_v20).symm
          subst e9
          refine lv_bipush (v := 43) hx hb dX3_readSum_23 (by decide) ?_
          have z9_43 : (43 : Int32).toInt = 43 := by decide
          refine tk_i hH hS hA (tr_V (n := 1) (As := [.int 43]) hx hb hml hown hts hkb hH (ox_map hOX rfl) hks hE hS hA (s_Tok_isSign l D cs kf T O X tk (43) y0 y1 f8_102 f8_103 f8_104 f8_105 f8_106 f8_107 ft t tn 32 t_tk t_y0 (by omega) (by omega) (by omega) (by omega) (by omega) (by omega) (by omega) htb h19.1 (by decide) (by decide) (hO.sub (by decide))) kw_646 kw_615 kw_616 kw_3 kw_617 (by decide +kernel) ⟨Nat.le_of_ble_eq_true rfl, Nat.le_of_ble_eq_true rfl⟩ (x_recv (ci := 7) hkb hH 0 rfl rfl) rfl rfl hl.1 (Nat.le_of_ble_eq_true rfl) dX3_readSum_25 ⟨Nat.le_of_ble_eq_true rfl, Nat.le_of_ble_eq_true rfl⟩) (fun v25 u H locs hz9 hH hS => ?_)
          obtain ⟨rfl, l_v25, u_v25, x_v250, x_v251⟩ := hz9
          have hH : HT D cs A T (tk :: y0 :: O) ((tk, .inr (7, [.ref y0, .int y1, .int f8_102, .int f8_103, .int f8_104, .int f8_105, .int f8_106, .int f8_107])) :: (y0, .inl (cs.1, 900, .inl ft)) :: X) H := hH
          refine W.widen (k := 0) (n := 0) (Nat.le_of_ble_eq_true rfl) (Nat.le_of_ble_eq_true rfl) ?_
          refine lv_if_ne (tgt := 43) hx hb dX3_readSum_28 (by decide) (fun c28 => ?_) (fun c28 => ?_)
          · skip
            have tc28 := f_ne (k := 0) (by decide) c28
            replace x_v250 := x_v250.resolve_left tc28
            clear x_v251
            refine lv_aload_n hx hb dX3_readSum_43 rfl (lv_at hl 2 rfl) ?_
            refine t_get (ci := 3) (lst := ft3 0 0) (C := RX3) (F := TX3) (N := 3) hx hb hts uX3 hown hkb hH t_a0 (hO.no t_a0 (by decide)) (fun _ h9 => h9) rfl rfl 0 (by decide) rfl kw_82 (fun _ h9 => h9) dX3_readSum_44 (fun v9 h9 => ?_)
            obtain ⟨v44, rfl, t_v44⟩ := h9
            have e9 := (hU7 _ _ t_v44).symm
            subst e9
            refine lv_bipush (v := 43) hx hb dX3_readSum_47 (by decide) ?_
            have z9_43 : (43 : Int32).toInt = 43 := by decide
            refine tk_i hH hS hA (tr_V (n := 1) (As := [.int 43]) hx hb hml hown hts hkb hH (ox_map hOX rfl) hks hE hS hA (s_Tok_isSign l D cs kf T O X tk (43) y0 y1 f8_102 f8_103 f8_104 f8_105 f8_106 f8_107 ft t tn 32 t_tk t_y0 (by omega) (by omega) (by omega) (by omega) (by omega) (by omega) (by omega) htb h19.1 (by decide) (by decide) (hO.sub (by decide))) kw_646 kw_615 kw_616 kw_3 kw_617 (by decide +kernel) ⟨Nat.le_of_ble_eq_true rfl, Nat.le_of_ble_eq_true rfl⟩ (x_recv (ci := 7) hkb hH 0 rfl rfl) rfl rfl hl.1 (Nat.le_of_ble_eq_true rfl) dX3_readSum_49 ⟨Nat.le_of_ble_eq_true rfl, Nat.le_of_ble_eq_true rfl⟩) (fun v49 u H locs hz9 hH hS => ?_)
            obtain ⟨rfl, l_v49, u_v49, x_v490, x_v491⟩ := hz9
            have hH : HT D cs A T (tk :: y0 :: O) ((tk, .inr (7, [.ref y0, .int y1, .int f8_102, .int f8_103, .int f8_104, .int f8_105, .int f8_106, .int f8_107])) :: (y0, .inl (cs.1, 900, .inl ft)) :: X) H := hH
            refine W.widen (k := 0) (n := 0) (Nat.le_of_ble_eq_true rfl) (Nat.le_of_ble_eq_true rfl) ?_
            refine lv_if_eq (tgt := 59) hx hb dX3_readSum_52 (by decide) (fun c52 => ?_) (fun c52 => ?_)
            · skip
              have tc52 := f_eq (k := 0) (by decide) c52
              clear x_v490
              replace x_v491 := x_v491.resolve_left (fun q9 => q9 tc52)
              refine lv_bipush (v := 6) hx hb dX3_readSum_59 (by decide) ?_
              refine lv_istore (lv' := [(4, .int 6), (3, .int p8_3), (2, .int p8_2), (0, .ref a0), (1, .int x1)]) hx hb dX3_readSum_61 hl (by decide) rfl (fun ls hl => ?_)
              refine lv_aload_n hx hb dX3_readSum_63 rfl (lv_at hl 3 rfl) ?_
              refine t_get (ci := 3) (lst := ft3 0 0) (C := RX3) (F := TX3) (N := 3) hx hb hts uX3 hown hkb hH t_a0 (hO.no t_a0 (by decide)) (fun _ h9 => h9) rfl rfl 0 (by decide) rfl kw_82 (fun _ h9 => h9) dX3_readSum_64 (fun v9 h9 => ?_)
              obtain ⟨v64, rfl, t_v64⟩ := h9
              have e9 := (hU7 _ _ t_v64).symm
              subst e9
              have hl9 := h19.1.lt (by omega)
              refine tk_v hH hS hA (tr_V (n := 0) (As := []) hx hb hml hown hts hkb hH (ox_map hOX rfl) hks hE hS hA (s_Tok_go l D cs kf T O X tk y0 y1 f8_102 f8_103 f8_104 f8_105 f8_106 f8_107 ft t tn t_tk t_y0 (by omega) (by omega) (by omega) (by omega) (by omega) (by omega) (by omega) htb (by have q9 := (h19.1).b; omega) (hO.sub (by decide))) kw_641 kw_453 kw_454 kw_3 kw_455 (by decide +kernel) ⟨Nat.le_of_ble_eq_true rfl, Nat.le_of_ble_eq_true rfl⟩ (x_recv (ci := 7) hkb hH 0 rfl rfl) rfl rfl hl.1 (Nat.le_of_ble_eq_true rfl) dX3_readSum_67 ⟨Nat.le_of_ble_eq_true rfl, Nat.le_of_ble_eq_true rfl⟩) (fun u H locs hz9 hH hS => ?_)
              obtain ⟨n67_0_2, n67_0_3, n67_0_4, n67_0_5, rfl, x_v670, x_v671, x_v672⟩ := hz9
              have px67 := TSS.nx h19.1 x_v671
              have hH : HT D cs A T (tk :: y0 :: O) ((tk, .inr (7, [.ref y0, .int y1, .int n67_0_2, .int n67_0_3, .int n67_0_4, .int n67_0_5, .int f8_106, .int f8_107])) :: (y0, .inl (cs.1, 900, .inl ft)) :: X) H := hH
              refine W.widen (k := 0) (n := 0) (Nat.le_of_ble_eq_true rfl) (Nat.le_of_ble_eq_true rfl) ?_
              refine lv_aload_n hx hb dX3_readSum_70 rfl (lv_at hl 3 rfl) ?_
              refine lv_iload_n hx hb dX3_readSum_71 rfl (lv_at hl 4 rfl) ?_
              refine tk_i hH hS hA (tr_V (n := 1) (As := [.int x1]) hx hb hml hown hts hkb hH (ox_map hOX rfl) hks hE hS hA (s_LR_readTerm5 l D cs kf T O X a0 x1 y0 y1 n67_0_2 n67_0_3 n67_0_4 n67_0_5 f8_106 f8_107 ft t tn tk t_a0 (by omega) (by omega) t_y0 (by omega) (by omega) (by omega) (by omega) (by omega) (by omega) (by omega) htb x_v670 t_tk hU7 (by omega) (hO.sub (by decide))) kw_652 kw_654 ks_11 kw_4 kw_655 (by decide +kernel) ⟨Nat.le_of_ble_eq_true rfl, Nat.le_of_ble_eq_true rfl⟩ (HT.recv (ci := 3) hkb hH t_a0 (hO.no t_a0 (by decide)) rfl) rfl rfl hl.1 (Nat.le_of_ble_eq_true rfl) dX3_readSum_72 ⟨Nat.le_of_ble_eq_true rfl, Nat.le_of_ble_eq_true rfl⟩) (fun v72 u H locs hz9 hH hS => ?_)
              obtain ⟨n72_0_2, n72_0_3, n72_0_4, n72_0_5, n72_0_6, n72_0_7, rfl, l_v72, u_v72, x_v720, x_v721, x_v722⟩ := hz9
              have hH : HT D cs A T (tk :: y0 :: O) ((tk, .inr (7, [.ref y0, .int y1, .int n72_0_2, .int n72_0_3, .int n72_0_4, .int n72_0_5, .int n72_0_6, .int n72_0_7])) :: (y0, .inl (cs.1, 900, .inl ft)) :: X) H := hH
              refine W.widen (k := 0) (n := 0) (Nat.le_of_ble_eq_true rfl) (Nat.le_of_ble_eq_true rfl) ?_
              refine lv_istore_n (lv' := [(2, .int v72), (4, .int 6), (3, .int p8_3), (0, .ref a0), (1, .int x1)]) hx hb dX3_readSum_75 rfl hl (by decide) rfl (fun ls hl => ?_)
              refine lv_aload_n hx hb dX3_readSum_76 rfl (lv_at hl 3 rfl) ?_
              refine lv_iload hx hb dX3_readSum_77 (lv_at hl 1 rfl) ?_
              refine lv_iconst (v := 0) hx hb dX3_readSum_79 (by decide) ?_
              refine tk_v hH hS hA (tr_V (n := 2) (As := [.int 6, .int 0]) hx hb hml hown hts hkb hH (ox_map hOX rfl) hks hE hS hA (s_LR_put l D cs kf T (tk :: y0 :: O) ((tk, .inr (7, [.ref y0, .int y1, .int n72_0_2, .int n72_0_3, .int n72_0_4, .int n72_0_5, .int n72_0_6, .int n72_0_7])) :: (y0, .inl (cs.1, 900, .inl ft)) :: X) a0 (6) (0) t_a0 (hO.sub (by decide))) kw_642 kw_644 ks_9 kw_4 kw_645 (by decide +kernel) ⟨Nat.le_of_ble_eq_true rfl, Nat.le_of_ble_eq_true rfl⟩ (HT.recv (ci := 3) hkb hH t_a0 (hO.no t_a0 (by decide)) rfl) rfl rfl hl.1 (Nat.le_of_ble_eq_true rfl) dX3_readSum_80 ⟨Nat.le_of_ble_eq_true rfl, Nat.le_of_ble_eq_true rfl⟩) (fun u H locs hz9 hH hS => ?_)
              have hz9 : u = (T, tk :: y0 :: O, (tk, .inr (7, [.ref y0, .int y1, .int n72_0_2, .int n72_0_3, .int n72_0_4, .int n72_0_5, .int n72_0_6, .int n72_0_7])) :: (y0, .inl (cs.1, 900, .inl ft)) :: X) := hz9
              subst hz9
              have hH : HT D cs A T (tk :: y0 :: O) ((tk, .inr (7, [.ref y0, .int y1, .int n72_0_2, .int n72_0_3, .int n72_0_4, .int n72_0_5, .int n72_0_6, .int n72_0_7])) :: (y0, .inl (cs.1, 900, .inl ft)) :: X) H := hH
              refine W.widen (k := 0) (n := 0) (Nat.le_of_ble_eq_true rfl) (Nat.le_of_ble_eq_true rfl) ?_
              obtain ⟨v83, ev83⟩ : ∃ y : Int32, y = p8_3 + 1 := ⟨_, rfl⟩
              have tv83 : v83.toInt = p8_3.toInt + (1) := by rw [ev83]; exact add_i rfl (by decide) (by omega) (by omega)
              refine lv_iinc (v := v83) (lv' := [(3, .int v83), (2, .int v72), (4, .int 6), (0, .ref a0), (1, .int x1)]) hx hb dX3_readSum_83 hl (k := 2) rfl (by rw [ev83]; rfl) (by decide) rfl (fun ls hl => ?_)
              refine lv_goto (tgt := 8) hx hb dX3_readSum_86 (by decide) ?_
              exact ih8 _ (by omega) v83 v72 n72_0_2 n72_0_3 n72_0_4 n72_0_5 n72_0_6 n72_0_7 _ _ _ rfl (by omega) (by omega) (by omega) (by omega) (by omega) (by omega) (by omega) (by omega) (by first | (refine LTI.st (fun _ _ => st_s) x_v20 x_v21 l_v2 u_v2 rfl) | (refine LTI.st (h19.2.2.2.tr (GL_nx (fun _ _ => st_sY (Or.inl x_v250)) px67)) x_v720 x_v721 l_v72 u_v72 ?_; omega) | (refine LTI.st (h19.2.2.2.tr (GL_nx (fun _ _ => st_sY (Or.inr x_v370)) px67)) x_v720 x_v721 l_v72 u_v72 ?_; omega)) (by omega) (by omega) hH hS (lv_sub hl [0, 1, 3, 4] rfl)
            · skip
              have tc52 := f_ne (k := 0) (by decide) c52
              replace x_v490 := x_v490.resolve_left tc52
              clear x_v491
              refine lv_iconst (v := 5) hx hb dX3_readSum_55 (by decide) ?_
              refine lv_goto (tgt := 61) hx hb dX3_readSum_56 (by decide) ?_
              refine lv_istore (lv' := [(4, .int 5), (3, .int p8_3), (2, .int p8_2), (0, .ref a0), (1, .int x1)]) hx hb dX3_readSum_61 hl (by decide) rfl (fun ls hl => ?_)
              refine lv_aload_n hx hb dX3_readSum_63 rfl (lv_at hl 3 rfl) ?_
              refine t_get (ci := 3) (lst := ft3 0 0) (C := RX3) (F := TX3) (N := 3) hx hb hts uX3 hown hkb hH t_a0 (hO.no t_a0 (by decide)) (fun _ h9 => h9) rfl rfl 0 (by decide) rfl kw_82 (fun _ h9 => h9) dX3_readSum_64 (fun v9 h9 => ?_)
              obtain ⟨v64, rfl, t_v64⟩ := h9
              have e9 := (hU7 _ _ t_v64).symm
              subst e9
              have hl9 := h19.1.lt (by omega)
              refine tk_v hH hS hA (tr_V (n := 0) (As := []) hx hb hml hown hts hkb hH (ox_map hOX rfl) hks hE hS hA (s_Tok_go l D cs kf T O X tk y0 y1 f8_102 f8_103 f8_104 f8_105 f8_106 f8_107 ft t tn t_tk t_y0 (by omega) (by omega) (by omega) (by omega) (by omega) (by omega) (by omega) htb (by have q9 := (h19.1).b; omega) (hO.sub (by decide))) kw_641 kw_453 kw_454 kw_3 kw_455 (by decide +kernel) ⟨Nat.le_of_ble_eq_true rfl, Nat.le_of_ble_eq_true rfl⟩ (x_recv (ci := 7) hkb hH 0 rfl rfl) rfl rfl hl.1 (Nat.le_of_ble_eq_true rfl) dX3_readSum_67 ⟨Nat.le_of_ble_eq_true rfl, Nat.le_of_ble_eq_true rfl⟩) (fun u H locs hz9 hH hS => ?_)
              obtain ⟨n67_0_2, n67_0_3, n67_0_4, n67_0_5, rfl, x_v670, x_v671, x_v672⟩ := hz9
              have px67 := TSS.nx h19.1 x_v671
              have hH : HT D cs A T (tk :: y0 :: O) ((tk, .inr (7, [.ref y0, .int y1, .int n67_0_2, .int n67_0_3, .int n67_0_4, .int n67_0_5, .int f8_106, .int f8_107])) :: (y0, .inl (cs.1, 900, .inl ft)) :: X) H := hH
              refine W.widen (k := 0) (n := 0) (Nat.le_of_ble_eq_true rfl) (Nat.le_of_ble_eq_true rfl) ?_
              refine lv_aload_n hx hb dX3_readSum_70 rfl (lv_at hl 3 rfl) ?_
              refine lv_iload_n hx hb dX3_readSum_71 rfl (lv_at hl 4 rfl) ?_
              refine tk_i hH hS hA (tr_V (n := 1) (As := [.int x1]) hx hb hml hown hts hkb hH (ox_map hOX rfl) hks hE hS hA (s_LR_readTerm5 l D cs kf T O X a0 x1 y0 y1 n67_0_2 n67_0_3 n67_0_4 n67_0_5 f8_106 f8_107 ft t tn tk t_a0 (by omega) (by omega) t_y0 (by omega) (by omega) (by omega) (by omega) (by omega) (by omega) (by omega) htb x_v670 t_tk hU7 (by omega) (hO.sub (by decide))) kw_652 kw_654 ks_11 kw_4 kw_655 (by decide +kernel) ⟨Nat.le_of_ble_eq_true rfl, Nat.le_of_ble_eq_true rfl⟩ (HT.recv (ci := 3) hkb hH t_a0 (hO.no t_a0 (by decide)) rfl) rfl rfl hl.1 (Nat.le_of_ble_eq_true rfl) dX3_readSum_72 ⟨Nat.le_of_ble_eq_true rfl, Nat.le_of_ble_eq_true rfl⟩) (fun v72 u H locs hz9 hH hS => ?_)
              obtain ⟨n72_0_2, n72_0_3, n72_0_4, n72_0_5, n72_0_6, n72_0_7, rfl, l_v72, u_v72, x_v720, x_v721, x_v722⟩ := hz9
              have hH : HT D cs A T (tk :: y0 :: O) ((tk, .inr (7, [.ref y0, .int y1, .int n72_0_2, .int n72_0_3, .int n72_0_4, .int n72_0_5, .int n72_0_6, .int n72_0_7])) :: (y0, .inl (cs.1, 900, .inl ft)) :: X) H := hH
              refine W.widen (k := 0) (n := 0) (Nat.le_of_ble_eq_true rfl) (Nat.le_of_ble_eq_true rfl) ?_
              refine lv_istore_n (lv' := [(2, .int v72), (4, .int 5), (3, .int p8_3), (0, .ref a0), (1, .int x1)]) hx hb dX3_readSum_75 rfl hl (by decide) rfl (fun ls hl => ?_)
              refine lv_aload_n hx hb dX3_readSum_76 rfl (lv_at hl 3 rfl) ?_
              refine lv_iload hx hb dX3_readSum_77 (lv_at hl 1 rfl) ?_
              refine lv_iconst (v := 0) hx hb dX3_readSum_79 (by decide) ?_
              refine tk_v hH hS hA (tr_V (n := 2) (As := [.int 5, .int 0]) hx hb hml hown hts hkb hH (ox_map hOX rfl) hks hE hS hA (s_LR_put l D cs kf T (tk :: y0 :: O) ((tk, .inr (7, [.ref y0, .int y1, .int n72_0_2, .int n72_0_3, .int n72_0_4, .int n72_0_5, .int n72_0_6, .int n72_0_7])) :: (y0, .inl (cs.1, 900, .inl ft)) :: X) a0 (5) (0) t_a0 (hO.sub (by decide))) kw_642 kw_644 ks_9 kw_4 kw_645 (by decide +kernel) ⟨Nat.le_of_ble_eq_true rfl, Nat.le_of_ble_eq_true rfl⟩ (HT.recv (ci := 3) hkb hH t_a0 (hO.no t_a0 (by decide)) rfl) rfl rfl hl.1 (Nat.le_of_ble_eq_true rfl) dX3_readSum_80 ⟨Nat.le_of_ble_eq_true rfl, Nat.le_of_ble_eq_true rfl⟩) (fun u H locs hz9 hH hS => ?_)
              have hz9 : u = (T, tk :: y0 :: O, (tk, .inr (7, [.ref y0, .int y1, .int n72_0_2, .int n72_0_3, .int n72_0_4, .int n72_0_5, .int n72_0_6, .int n72_0_7])) :: (y0, .inl (cs.1, 900, .inl ft)) :: X) := hz9
              subst hz9
              have hH : HT D cs A T (tk :: y0 :: O) ((tk, .inr (7, [.ref y0, .int y1, .int n72_0_2, .int n72_0_3, .int n72_0_4, .int n72_0_5, .int n72_0_6, .int n72_0_7])) :: (y0, .inl (cs.1, 900, .inl ft)) :: X) H := hH
              refine W.widen (k := 0) (n := 0) (Nat.le_of_ble_eq_true rfl) (Nat.le_of_ble_eq_true rfl) ?_
              obtain ⟨v83, ev83⟩ : ∃ y : Int32, y = p8_3 + 1 := ⟨_, rfl⟩
              have tv83 : v83.toInt = p8_3.toInt + (1) := by rw [ev83]; exact add_i rfl (by decide) (by omega) (by omega)
              refine lv_iinc (v := v83) (lv' := [(3, .int v83), (2, .int v72), (4, .int 5), (0, .ref a0), (1, .int x1)]) hx hb dX3_readSum_83 hl (k := 2) rfl (by rw [ev83]; rfl) (by decide) rfl (fun ls hl => ?_)
              refine lv_goto (tgt := 8) hx hb dX3_readSum_86 (by decide) ?_
              exact ih8 _ (by omega) v83 v72 n72_0_2 n72_0_3 n72_0_4 n72_0_5 n72_0_6 n72_0_7 _ _ _ rfl (by omega) (by omega) (by omega) (by omega) (by omega) (by omega) (by omega) (by omega) (by first | (refine LTI.st (fun _ _ => st_s) x_v20 x_v21 l_v2 u_v2 rfl) | (refine LTI.st (h19.2.2.2.tr (GL_nx (fun _ _ => st_sY (Or.inl x_v250)) px67)) x_v720 x_v721 l_v72 u_v72 ?_; omega) | (refine LTI.st (h19.2.2.2.tr (GL_nx (fun _ _ => st_sY (Or.inr x_v370)) px67)) x_v720 x_v721 l_v72 u_v72 ?_; omega)) (by omega) (by omega) hH hS (lv_sub hl [0, 1, 3, 4] rfl)
          · skip
            have tc28 := f_eq (k := 0) (by decide) c28
            clear x_v250
            replace x_v251 := x_v251.resolve_left (fun q9 => q9 tc28)
            refine lv_aload_n hx hb dX3_readSum_31 rfl (lv_at hl 2 rfl) ?_
            refine t_get (ci := 3) (lst := ft3 0 0) (C := RX3) (F := TX3) (N := 3) hx hb hts uX3 hown hkb hH t_a0 (hO.no t_a0 (by decide)) (fun _ h9 => h9) rfl rfl 0 (by decide) rfl kw_82 (fun _ h9 => h9) dX3_readSum_32 (fun v9 h9 => ?_)
            obtain ⟨v32, rfl, t_v32⟩ := h9
            have e9 := (hU7 _ _ t_v32).symm
            subst e9
            refine lv_bipush (v := 45) hx hb dX3_readSum_35 (by decide) ?_
            have z9_45 : (45 : Int32).toInt = 45 := by decide
            refine tk_i hH hS hA (tr_V (n := 1) (As := [.int 45]) hx hb hml hown hts hkb hH (ox_map hOX rfl) hks hE hS hA (s_Tok_isSign l D cs kf T O X tk (45) y0 y1 f8_102 f8_103 f8_104 f8_105 f8_106 f8_107 ft t tn 33 t_tk t_y0 (by omega) (by omega) (by omega) (by omega) (by omega) (by omega) (by omega) htb h19.1 (by decide) (by decide) (hO.sub (by decide))) kw_646 kw_615 kw_616 kw_3 kw_617 (by decide +kernel) ⟨Nat.le_of_ble_eq_true rfl, Nat.le_of_ble_eq_true rfl⟩ (x_recv (ci := 7) hkb hH 0 rfl rfl) rfl rfl hl.1 (Nat.le_of_ble_eq_true rfl) dX3_readSum_37 ⟨Nat.le_of_ble_eq_true rfl, Nat.le_of_ble_eq_true rfl⟩) (fun v37 u H locs hz9 hH hS => ?_)
            obtain ⟨rfl, l_v37, u_v37, x_v370, x_v371⟩ := hz9
            have hH : HT D cs A T (tk :: y0 :: O) ((tk, .inr (7, [.ref y0, .int y1, .int f8_102, .int f8_103, .int f8_104, .int f8_105, .int f8_106, .int f8_107])) :: (y0, .inl (cs.1, 900, .inl ft)) :: X) H := hH
            refine W.widen (k := 0) (n := 0) (Nat.le_of_ble_eq_true rfl) (Nat.le_of_ble_eq_true rfl) ?_
            refine lv_if_eq (tgt := 89) hx hb dX3_readSum_40 (by decide) (fun c40 => ?_) (fun c40 => ?_)
            · skip
              have tc40 := f_eq (k := 0) (by decide) c40
              clear x_v370
              replace x_v371 := x_v371.resolve_left (fun q9 => q9 tc40)
              have hk9 : p8_2.toInt = 0 ∨ GL t tn [(4, 5)] [] f8_102 f8_102 := by first | (refine Or.inl ?_; omega) | exact Or.inr (fun _ _ => st_sN (by omega)) | (by_cases q9 : p8_2.toInt = 0; exact Or.inl q9; refine Or.inr (fun _ _ => st_sN ?_); have q8 := LTI.ok i8t q9; have q7 := q8.1.b; rw [kd_end (by omega)]; decide)
              have hz9 := LTI.en i8t hk9
              refine lv_iload_n hx hb dX3_readSum_89 rfl (lv_at hl 1 rfl) ?_
              exact te_z hx hb hr hlocks (nar01 (by omega) (by omega)) hH hS (⟨f8_102, f8_103, f8_104, f8_105, f8_106, f8_107, rfl, by omega, by omega, hz9.1, hz9.2, (by omega)⟩) dX3_readSum_90
            · skip
              have tc40 := f_ne (k := 0) (by decide) c40
              replace x_v370 := x_v370.resolve_left tc40
              clear x_v371
              refine lv_aload_n hx hb dX3_readSum_43 rfl (lv_at hl 2 rfl) ?_
              refine t_get (ci := 3) (lst := ft3 0 0) (C := RX3) (F := TX3) (N := 3) hx hb hts uX3 hown hkb hH t_a0 (hO.no t_a0 (by decide)) (fun _ h9 => h9) rfl rfl 0 (by decide) rfl kw_82 (fun _ h9 => h9) dX3_readSum_44 (fun v9 h9 => ?_)
              obtain ⟨v44, rfl, t_v44⟩ := h9
              have e9 := (hU7 _ _ t_v44).symm
              subst e9
              refine lv_bipush (v := 43) hx hb dX3_readSum_47 (by decide) ?_
              have z9_43 : (43 : Int32).toInt = 43 := by decide
              refine tk_i hH hS hA (tr_V (n := 1) (As := [.int 43]) hx hb hml hown hts hkb hH (ox_map hOX rfl) hks hE hS hA (s_Tok_isSign l D cs kf T O X tk (43) y0 y1 f8_102 f8_103 f8_104 f8_105 f8_106 f8_107 ft t tn 32 t_tk t_y0 (by omega) (by omega) (by omega) (by omega) (by omega) (by omega) (by omega) htb h19.1 (by decide) (by decide) (hO.sub (by decide))) kw_646 kw_615 kw_616 kw_3 kw_617 (by decide +kernel) ⟨Nat.le_of_ble_eq_true rfl, Nat.le_of_ble_eq_true rfl⟩ (x_recv (ci := 7) hkb hH 0 rfl rfl) rfl rfl hl.1 (Nat.le_of_ble_eq_true rfl) dX3_readSum_49 ⟨Nat.le_of_ble_eq_true rfl, Nat.le_of_ble_eq_true rfl⟩) (fun v49 u H locs hz9 hH hS => ?_)
              obtain ⟨rfl, l_v49, u_v49, x_v490, x_v491⟩ := hz9
              have hH : HT D cs A T (tk :: y0 :: O) ((tk, .inr (7, [.ref y0, .int y1, .int f8_102, .int f8_103, .int f8_104, .int f8_105, .int f8_106, .int f8_107])) :: (y0, .inl (cs.1, 900, .inl ft)) :: X) H := hH
              refine W.widen (k := 0) (n := 0) (Nat.le_of_ble_eq_true rfl) (Nat.le_of_ble_eq_true rfl) ?_
              refine lv_if_eq (tgt := 59) hx hb dX3_readSum_52 (by decide) (fun c52 => ?_) (fun c52 => ?_)
              · skip
                have tc52 := f_eq (k := 0) (by decide) c52
                clear x_v490
                replace x_v491 := x_v491.resolve_left (fun q9 => q9 tc52)
                refine lv_bipush (v := 6) hx hb dX3_readSum_59 (by decide) ?_
                refine lv_istore (lv' := [(4, .int 6), (3, .int p8_3), (2, .int p8_2), (0, .ref a0), (1, .int x1)]) hx hb dX3_readSum_61 hl (by decide) rfl (fun ls hl => ?_)
                refine lv_aload_n hx hb dX3_readSum_63 rfl (lv_at hl 3 rfl) ?_
                refine t_get (ci := 3) (lst := ft3 0 0) (C := RX3) (F := TX3) (N := 3) hx hb hts uX3 hown hkb hH t_a0 (hO.no t_a0 (by decide)) (fun _ h9 => h9) rfl rfl 0 (by decide) rfl kw_82 (fun _ h9 => h9) dX3_readSum_64 (fun v9 h9 => ?_)
                obtain ⟨v64, rfl, t_v64⟩ := h9
                have e9 := (hU7 _ _ t_v64).symm
                subst e9
                have hl9 := h19.1.lt (by omega)
                refine tk_v hH hS hA (tr_V (n := 0) (As := []) hx hb hml hown hts hkb hH (ox_map hOX rfl) hks hE hS hA (s_Tok_go l D cs kf T O X tk y0 y1 f8_102 f8_103 f8_104 f8_105 f8_106 f8_107 ft t tn t_tk t_y0 (by omega) (by omega) (by omega) (by omega) (by omega) (by omega) (by omega) htb (by have q9 := (h19.1).b; omega) (hO.sub (by decide))) kw_641 kw_453 kw_454 kw_3 kw_455 (by decide +kernel) ⟨Nat.le_of_ble_eq_true rfl, Nat.le_of_ble_eq_true rfl⟩ (x_recv (ci := 7) hkb hH 0 rfl rfl) rfl rfl hl.1 (Nat.le_of_ble_eq_true rfl) dX3_readSum_67 ⟨Nat.le_of_ble_eq_true rfl, Nat.le_of_ble_eq_true rfl⟩) (fun u H locs hz9 hH hS => ?_)
                obtain ⟨n67_0_2, n67_0_3, n67_0_4, n67_0_5, rfl, x_v670, x_v671, x_v672⟩ := hz9
                have px67 := TSS.nx h19.1 x_v671
                have hH : HT D cs A T (tk :: y0 :: O) ((tk, .inr (7, [.ref y0, .int y1, .int n67_0_2, .int n67_0_3, .int n67_0_4, .int n67_0_5, .int f8_106, .int f8_107])) :: (y0, .inl (cs.1, 900, .inl ft)) :: X) H := hH
                refine W.widen (k := 0) (n := 0) (Nat.le_of_ble_eq_true rfl) (Nat.le_of_ble_eq_true rfl) ?_
                refine lv_aload_n hx hb dX3_readSum_70 rfl (lv_at hl 3 rfl) ?_
                refine lv_iload_n hx hb dX3_readSum_71 rfl (lv_at hl 4 rfl) ?_
                refine tk_i hH hS hA (tr_V (n := 1) (As := [.int x1]) hx hb hml hown hts hkb hH (ox_map hOX rfl) hks hE hS hA (s_LR_readTerm5 l D cs kf T O X a0 x1 y0 y1 n67_0_2 n67_0_3 n67_0_4 n67_0_5 f8_106 f8_107 ft t tn tk t_a0 (by omega) (by omega) t_y0 (by omega) (by omega) (by omega) (by omega) (by omega) (by omega) (by omega) htb x_v670 t_tk hU7 (by omega) (hO.sub (by decide))) kw_652 kw_654 ks_11 kw_4 kw_655 (by decide +kernel) ⟨Nat.le_of_ble_eq_true rfl, Nat.le_of_ble_eq_true rfl⟩ (HT.recv (ci := 3) hkb hH t_a0 (hO.no t_a0 (by decide)) rfl) rfl rfl hl.1 (Nat.le_of_ble_eq_true rfl) dX3_readSum_72 ⟨Nat.le_of_ble_eq_true rfl, Nat.le_of_ble_eq_true rfl⟩) (fun v72 u H locs hz9 hH hS => ?_)
                obtain ⟨n72_0_2, n72_0_3, n72_0_4, n72_0_5, n72_0_6, n72_0_7, rfl, l_v72, u_v72, x_v720, x_v721, x_v722⟩ := hz9
                have hH : HT D cs A T (tk :: y0 :: O) ((tk, .inr (7, [.ref y0, .int y1, .int n72_0_2, .int n72_0_3, .int n72_0_4, .int n72_0_5, .int n72_0_6, .int n72_0_7])) :: (y0, .inl (cs.1, 900, .inl ft)) :: X) H := hH
                refine W.widen (k := 0) (n := 0) (Nat.le_of_ble_eq_true rfl) (Nat.le_of_ble_eq_true rfl) ?_
                refine lv_istore_n (lv' := [(2, .int v72), (4, .int 6), (3, .int p8_3), (0, .ref a0), (1, .int x1)]) hx hb dX3_readSum_75 rfl hl (by decide) rfl (fun ls hl => ?_)
                refine lv_aload_n hx hb dX3_readSum_76 rfl (lv_at hl 3 rfl) ?_
                refine lv_iload hx hb dX3_readSum_77 (lv_at hl 1 rfl) ?_
                refine lv_iconst (v := 0) hx hb dX3_readSum_79 (by decide) ?_
                refine tk_v hH hS hA (tr_V (n := 2) (As := [.int 6, .int 0]) hx hb hml hown hts hkb hH (ox_map hOX rfl) hks hE hS hA (s_LR_put l D cs kf T (tk :: y0 :: O) ((tk, .inr (7, [.ref y0, .int y1, .int n72_0_2, .int n72_0_3, .int n72_0_4, .int n72_0_5, .int n72_0_6, .int n72_0_7])) :: (y0, .inl (cs.1, 900, .inl ft)) :: X) a0 (6) (0) t_a0 (hO.sub (by decide))) kw_642 kw_644 ks_9 kw_4 kw_645 (by decide +kernel) ⟨Nat.le_of_ble_eq_true rfl, Nat.le_of_ble_eq_true rfl⟩ (HT.recv (ci := 3) hkb hH t_a0 (hO.no t_a0 (by decide)) rfl) rfl rfl hl.1 (Nat.le_of_ble_eq_true rfl) dX3_readSum_80 ⟨Nat.le_of_ble_eq_true rfl, Nat.le_of_ble_eq_true rfl⟩) (fun u H locs hz9 hH hS => ?_)
                have hz9 : u = (T, tk :: y0 :: O, (tk, .inr (7, [.ref y0, .int y1, .int n72_0_2, .int n72_0_3, .int n72_0_4, .int n72_0_5, .int n72_0_6, .int n72_0_7])) :: (y0, .inl (cs.1, 900, .inl ft)) :: X) := hz9
                subst hz9
                have hH : HT D cs A T (tk :: y0 :: O) ((tk, .inr (7, [.ref y0, .int y1, .int n72_0_2, .int n72_0_3, .int n72_0_4, .int n72_0_5, .int n72_0_6, .int n72_0_7])) :: (y0, .inl (cs.1, 900, .inl ft)) :: X) H := hH
                refine W.widen (k := 0) (n := 0) (Nat.le_of_ble_eq_true rfl) (Nat.le_of_ble_eq_true rfl) ?_
                obtain ⟨v83, ev83⟩ : ∃ y : Int32, y = p8_3 + 1 := ⟨_, rfl⟩
                have tv83 : v83.toInt = p8_3.toInt + (1) := by rw [ev83]; exact add_i rfl (by decide) (by omega) (by omega)
                refine lv_iinc (v := v83) (lv' := [(3, .int v83), (2, .int v72), (4, .int 6), (0, .ref a0), (1, .int x1)]) hx hb dX3_readSum_83 hl (k := 2) rfl (by rw [ev83]; rfl) (by decide) rfl (fun ls hl => ?_)
                refine lv_goto (tgt := 8) hx hb dX3_readSum_86 (by decide) ?_
                exact ih8 _ (by omega) v83 v72 n72_0_2 n72_0_3 n72_0_4 n72_0_5 n72_0_6 n72_0_7 _ _ _ rfl (by omega) (by omega) (by omega) (by omega) (by omega) (by omega) (by omega) (by omega) (by first | (refine LTI.st (fun _ _ => st_s) x_v20 x_v21 l_v2 u_v2 rfl) | (refine LTI.st (h19.2.2.2.tr (GL_nx (fun _ _ => st_sY (Or.inl x_v250)) px67)) x_v720 x_v721 l_v72 u_v72 ?_; omega) | (refine LTI.st (h19.2.2.2.tr (GL_nx (fun _ _ => st_sY (Or.inr x_v370)) px67)) x_v720 x_v721 l_v72 u_v72 ?_; omega)) (by omega) (by omega) hH hS (lv_sub hl [0, 1, 3, 4] rfl)
              · skip
                have tc52 := f_ne (k := 0) (by decide) c52
                replace x_v490 := x_v490.resolve_left tc52
                clear x_v491
                refine lv_iconst (v := 5) hx hb dX3_readSum_55 (by decide) ?_
                refine lv_goto (tgt := 61) hx hb dX3_readSum_56 (by decide) ?_
                refine lv_istore (lv' := [(4, .int 5), (3, .int p8_3), (2, .int p8_2), (0, .ref a0), (1, .int x1)]) hx hb dX3_readSum_61 hl (by decide) rfl (fun ls hl => ?_)
                refine lv_aload_n hx hb dX3_readSum_63 rfl (lv_at hl 3 rfl) ?_
                refine t_get (ci := 3) (lst := ft3 0 0) (C := RX3) (F := TX3) (N := 3) hx hb hts uX3 hown hkb hH t_a0 (hO.no t_a0 (by decide)) (fun _ h9 => h9) rfl rfl 0 (by decide) rfl kw_82 (fun _ h9 => h9) dX3_readSum_64 (fun v9 h9 => ?_)
                obtain ⟨v64, rfl, t_v64⟩ := h9
                have e9 := (hU7 _ _ t_v64).symm
                subst e9
                have hl9 := h19.1.lt (by omega)
                refine tk_v hH hS hA (tr_V (n := 0) (As := []) hx hb hml hown hts hkb hH (ox_map hOX rfl) hks hE hS hA (s_Tok_go l D cs kf T O X tk y0 y1 f8_102 f8_103 f8_104 f8_105 f8_106 f8_107 ft t tn t_tk t_y0 (by omega) (by omega) (by omega) (by omega) (by omega) (by omega) (by omega) htb (by have q9 := (h19.1).b; omega) (hO.sub (by decide))) kw_641 kw_453 kw_454 kw_3 kw_455 (by decide +kernel) ⟨Nat.le_of_ble_eq_true rfl, Nat.le_of_ble_eq_true rfl⟩ (x_recv (ci := 7) hkb hH 0 rfl rfl) rfl rfl hl.1 (Nat.le_of_ble_eq_true rfl) dX3_readSum_67 ⟨Nat.le_of_ble_eq_true rfl, Nat.le_of_ble_eq_true rfl⟩) (fun u H locs hz9 hH hS => ?_)
                obtain ⟨n67_0_2, n67_0_3, n67_0_4, n67_0_5, rfl, x_v670, x_v671, x_v672⟩ := hz9
                have px67 := TSS.nx h19.1 x_v671
                have hH : HT D cs A T (tk :: y0 :: O) ((tk, .inr (7, [.ref y0, .int y1, .int n67_0_2, .int n67_0_3, .int n67_0_4, .int n67_0_5, .int f8_106, .int f8_107])) :: (y0, .inl (cs.1, 900, .inl ft)) :: X) H := hH
                refine W.widen (k := 0) (n := 0) (Nat.le_of_ble_eq_true rfl) (Nat.le_of_ble_eq_true rfl) ?_
                refine lv_aload_n hx hb dX3_readSum_70 rfl (lv_at hl 3 rfl) ?_
                refine lv_iload_n hx hb dX3_readSum_71 rfl (lv_at hl 4 rfl) ?_
                refine tk_i hH hS hA (tr_V (n := 1) (As := [.int x1]) hx hb hml hown hts hkb hH (ox_map hOX rfl) hks hE hS hA (s_LR_readTerm5 l D cs kf T O X a0 x1 y0 y1 n67_0_2 n67_0_3 n67_0_4 n67_0_5 f8_106 f8_107 ft t tn tk t_a0 (by omega) (by omega) t_y0 (by omega) (by omega) (by omega) (by omega) (by omega) (by omega) (by omega) htb x_v670 t_tk hU7 (by omega) (hO.sub (by decide))) kw_652 kw_654 ks_11 kw_4 kw_655 (by decide +kernel) ⟨Nat.le_of_ble_eq_true rfl, Nat.le_of_ble_eq_true rfl⟩ (HT.recv (ci := 3) hkb hH t_a0 (hO.no t_a0 (by decide)) rfl) rfl rfl hl.1 (Nat.le_of_ble_eq_true rfl) dX3_readSum_72 ⟨Nat.le_of_ble_eq_true rfl, Nat.le_of_ble_eq_true rfl⟩) (fun v72 u H locs hz9 hH hS => ?_)
                obtain ⟨n72_0_2, n72_0_3, n72_0_4, n72_0_5, n72_0_6, n72_0_7, rfl, l_v72, u_v72, x_v720, x_v721, x_v722⟩ := hz9
                have hH : HT D cs A T (tk :: y0 :: O) ((tk, .inr (7, [.ref y0, .int y1, .int n72_0_2, .int n72_0_3, .int n72_0_4, .int n72_0_5, .int n72_0_6, .int n72_0_7])) :: (y0, .inl (cs.1, 900, .inl ft)) :: X) H := hH
                refine W.widen (k := 0) (n := 0) (Nat.le_of_ble_eq_true rfl) (Nat.le_of_ble_eq_true rfl) ?_
                refine lv_istore_n (lv' := [(2, .int v72), (4, .int 5), (3, .int p8_3), (0, .ref a0), (1, .int x1)]) hx hb dX3_readSum_75 rfl hl (by decide) rfl (fun ls hl => ?_)
                refine lv_aload_n hx hb dX3_readSum_76 rfl (lv_at hl 3 rfl) ?_
                refine lv_iload hx hb dX3_readSum_77 (lv_at hl 1 rfl) ?_
                refine lv_iconst (v := 0) hx hb dX3_readSum_79 (by decide) ?_
                refine tk_v hH hS hA (tr_V (n := 2) (As := [.int 5, .int 0]) hx hb hml hown hts hkb hH (ox_map hOX rfl) hks hE hS hA (s_LR_put l D cs kf T (tk :: y0 :: O) ((tk, .inr (7, [.ref y0, .int y1, .int n72_0_2, .int n72_0_3, .int n72_0_4, .int n72_0_5, .int n72_0_6, .int n72_0_7])) :: (y0, .inl (cs.1, 900, .inl ft)) :: X) a0 (5) (0) t_a0 (hO.sub (by decide))) kw_642 kw_644 ks_9 kw_4 kw_645 (by decide +kernel) ⟨Nat.le_of_ble_eq_true rfl, Nat.le_of_ble_eq_true rfl⟩ (HT.recv (ci := 3) hkb hH t_a0 (hO.no t_a0 (by decide)) rfl) rfl rfl hl.1 (Nat.le_of_ble_eq_true rfl) dX3_readSum_80 ⟨Nat.le_of_ble_eq_true rfl, Nat.le_of_ble_eq_true rfl⟩) (fun u H locs hz9 hH hS => ?_)
                have hz9 : u = (T, tk :: y0 :: O, (tk, .inr (7, [.ref y0, .int y1, .int n72_0_2, .int n72_0_3, .int n72_0_4, .int n72_0_5, .int n72_0_6, .int n72_0_7])) :: (y0, .inl (cs.1, 900, .inl ft)) :: X) := hz9
                subst hz9
                have hH : HT D cs A T (tk :: y0 :: O) ((tk, .inr (7, [.ref y0, .int y1, .int n72_0_2, .int n72_0_3, .int n72_0_4, .int n72_0_5, .int n72_0_6, .int n72_0_7])) :: (y0, .inl (cs.1, 900, .inl ft)) :: X) H := hH
                refine W.widen (k := 0) (n := 0) (Nat.le_of_ble_eq_true rfl) (Nat.le_of_ble_eq_true rfl) ?_
                obtain ⟨v83, ev83⟩ : ∃ y : Int32, y = p8_3 + 1 := ⟨_, rfl⟩
                have tv83 : v83.toInt = p8_3.toInt + (1) := by rw [ev83]; exact add_i rfl (by decide) (by omega) (by omega)
                refine lv_iinc (v := v83) (lv' := [(3, .int v83), (2, .int v72), (4, .int 5), (0, .ref a0), (1, .int x1)]) hx hb dX3_readSum_83 hl (k := 2) rfl (by rw [ev83]; rfl) (by decide) rfl (fun ls hl => ?_)
                refine lv_goto (tgt := 8) hx hb dX3_readSum_86 (by decide) ?_
                exact ih8 _ (by omega) v83 v72 n72_0_2 n72_0_3 n72_0_4 n72_0_5 n72_0_6 n72_0_7 _ _ _ rfl (by omega) (by omega) (by omega) (by omega) (by omega) (by omega) (by omega) (by omega) (by first | (refine LTI.st (fun _ _ => st_s) x_v20 x_v21 l_v2 u_v2 rfl) | (refine LTI.st (h19.2.2.2.tr (GL_nx (fun _ _ => st_sY (Or.inl x_v250)) px67)) x_v720 x_v721 l_v72 u_v72 ?_; omega) | (refine LTI.st (h19.2.2.2.tr (GL_nx (fun _ _ => st_sY (Or.inr x_v370)) px67)) x_v720 x_v721 l_v72 u_v72 ?_; omega)) (by omega) (by omega) hH hS (lv_sub hl [0, 1, 3, 4] rfl)
  refine lv_istore_n (lv' := [(3, .int 0), (2, .int v2), (0, .ref a0), (1, .int x1)]) hx hb dX3_readSum_7 rfl hl (by decide) rfl (fun ls hl => ?_)
  have z_0 : (0 : Int32).toInt = 0 := by decide
  exact J8 _ 0 v2 n2_0_2 n2_0_3 n2_0_4 n2_0_5 n2_0_6 n2_0_7 _ _ _ rfl (by decide) (by decide) (by omega) (by omega) (by omega) (by omega) (by omega) (by omega) (by first | (refine LTI.st (fun _ _ => st_s) x_v20 x_v21 l_v2 u_v2 rfl) | (refine LTI.st (h19.2.2.2.tr (GL_nx (fun _ _ => st_sY (Or.inl x_v250)) px67)) x_v720 x_v721 l_v72 u_v72 ?_; omega) | (refine LTI.st (h19.2.2.2.tr (GL_nx (fun _ _ => st_sY (Or.inr x_v370)) px67)) x_v720 x_v721 l_v72 u_v72 ?_; omega)) (by omega) (by omega) hH hS (lv_sub hl [0, 1, 2, 3] rfl)
set_option maxHeartbeats 4000000 in
set_option maxRecDepth 100000 in
theorem s_LR_readUnit5 (l : Launch) (D : va_G) (cs : CS) (kf : KF) (T : TF) (O : List Nat) (X : va_W) (a0 : Nat) (x1 : Int32) (y0 : Nat) (y1 : Int32) (y2 : Int32) (y3 : Int32) (y4 : Int32) (y5 : Int32) (y6 : Int32) (y7 : Int32) (ft : Nat → Int32) (t : Tp) (tn : Nat) (tk : Nat) (t_a0 : T a0 = some (13, 0, 0)) (l_x1 : 5 ≤ x1.toInt) (u_x1 : x1.toInt ≤ 5) (t_y0 : T y0 = some (0, 900, 0)) (l_y1 : 0 ≤ y1.toInt) (u_y1 : y1.toInt ≤ 900) (l_y2 : 0 ≤ y2.toInt) (u_y2 : y2.toInt ≤ 900) (l_y3 : 0 ≤ y3.toInt) (u_y3 : y3.toInt ≤ 900) (hn : y1.toInt = (tn : Int)) (htb : TB ft t) (hto : TSS t tn y2 y3 y4 y5) (t_tk : T tk = some (17, 0, 0)) (hU7 : ∀ (b : Nat) (q : Nat), T b = some (17, 0, q) → b = tk) (hz : y6.toInt = 0) (hO : okO T (tk :: y0 :: O) [1, 13]) : TK l D cs kf yX3_readUnit cX3_readUnit 3 (some (.boolean)) { frames := 12, cells := 0, slots := 0, locals := 266 } [.ref a0, .int x1] T (tk :: y0 :: O) ((tk, .inr (7, [.ref y0, .int y1, .int y2, .int y3, .int y4, .int y5, .int y6, .int y7])) :: (y0, .inl (cs.1, 900, .inl ft)) :: X) (Ti D cs (fun r u => ∃ (n0_2 : Int32) (n0_3 : Int32) (n0_4 : Int32) (n0_5 : Int32) (n0_6 : Int32) (n0_7 : Int32), u = (T, tk :: y0 :: O, (tk, .inr (7, [.ref y0, .int y1, .int n0_2, .int n0_3, .int n0_4, .int n0_5, .int n0_6, .int n0_7])) :: (y0, .inl (cs.1, 900, .inl ft)) :: X) ∧ 0 ≤ r.toInt ∧ r.toInt ≤ 1 ∧ (r.toInt = 0 ∨ (TSS t tn n0_2 n0_3 n0_4 n0_5 ∧ n0_6.toInt = 0 ∧ n0_7.toInt = y7.toInt ∧ GL t tn [(5, 5)] [] y2 n0_2)) ∧ (r.toInt ≠ 0 ∨ BL t tn [(5, 5)] y2 n0_6 n0_7) ∧ (y2.toInt ≤ n0_2.toInt ∧ n0_2.toInt ≤ n0_3.toInt ∧ n0_3.toInt ≤ y1.toInt))) := by
  refine tk_of (by decide) (Nat.le_of_ble_eq_true rfl) (fun p e s m below meth c ls A H locs hx hb hr hml hown hts hlocks hnm hkb hH hS hA hOX hks hE hl => ?_)
  have hown : s.vm.findClass RX3 = some m.cls := hown
  have hl : lv_has ls 3 [(0, .ref a0), (1, .int x1)] := hl
  have hOXf := hOX
  have hb9 := hto.b
  have hc9 := hto.cs
  refine lv_aload_n hx hb dX3_readUnit_0 rfl (lv_at hl 0 rfl) ?_
  refine t_get (ci := 3) (lst := ft3 0 0) (C := RX3) (F := TX3) (N := 3) hx hb hts uX3 hown hkb hH t_a0 (hO.no t_a0 (by decide)) (fun _ h9 => h9) rfl rfl 0 (by decide) rfl kw_82 (fun _ h9 => h9) dX3_readUnit_1 (fun v9 h9 => ?_)
  obtain ⟨v1, rfl, t_v1⟩ := h9
  have e9 := (hU7 _ _ t_v1).symm
  subst e9
  refine va_ldcS (q := kf.1 10) hx hb hown (hks ("FootholdWall$LawReader", 65, "not", 10) (by decide +kernel)) dX3_readUnit_4 ?_
  refine tk_i hH hS hA (tr_V (n := 1) (As := [.ref (kf.1 10)]) hx hb hml hown hts hkb hH (ox_map hOX rfl) hks hE hS hA (s_Tok_isWord l D cs kf T O X tk 10 y0 y1 y2 y3 y4 y5 y6 y7 ft t tn 15 t_tk (by decide) t_y0 (by omega) (by omega) (by omega) (by omega) (by omega) (by omega) (by omega) htb hto (by decide) (by decide) (hO.sub (by decide))) kw_635 kw_551 kw_552 kw_3 kw_553 (by decide +kernel) ⟨Nat.le_of_ble_eq_true rfl, Nat.le_of_ble_eq_true rfl⟩ (x_recv (ci := 7) hkb hH 0 rfl rfl) rfl rfl hl.1 (Nat.le_of_ble_eq_true rfl) dX3_readUnit_6 ⟨Nat.le_of_ble_eq_true rfl, Nat.le_of_ble_eq_true rfl⟩) (fun v6 u H locs hz9 hH hS => ?_)
  obtain ⟨rfl, l_v6, u_v6, x_v60, x_v61⟩ := hz9
  have hH : HT D cs A T (tk :: y0 :: O) ((tk, .inr (7, [.ref y0, .int y1, .int y2, .int y3, .int y4, .int y5, .int y6, .int y7])) :: (y0, .inl (cs.1, 900, .inl ft)) :: X) H := hH
  refine W.widen (k := 0) (n := 0) (Nat.le_of_ble_eq_true rfl) (Nat.le_of_ble_eq_true rfl) ?_
  refine lv_if_eq (tgt := 40) hx hb dX3_readUnit_9 (by decide) (fun c9 => ?_) (fun c9 => ?_)
  · skip
    have tc9 := f_eq (k := 0) (by decide) c9
    clear x_v60
    replace x_v61 := x_v61.resolve_left (fun q9 => q9 tc9)
    refine lv_aload_n hx hb dX3_readUnit_40 rfl (lv_at hl 0 rfl) ?_
    refine t_get (ci := 3) (lst := ft3 0 0) (C := RX3) (F := TX3) (N := 3) hx hb hts uX3 hown hkb hH t_a0 (hO.no t_a0 (by decide)) (fun _ h9 => h9) rfl rfl 0 (by decide) rfl kw_82 (fun _ h9 => h9) dX3_readUnit_41 (fun v9 h9 => ?_)
    obtain ⟨v41, rfl, t_v41⟩ := h9
    have e9 := (hU7 _ _ t_v41).symm
    subst e9
    refine lv_bipush (v := 91) hx hb dX3_readUnit_44 (by decide) ?_
    have z9_91 : (91 : Int32).toInt = 91 := by decide
    refine tk_i hH hS hA (tr_V (n := 1) (As := [.int 91]) hx hb hml hown hts hkb hH (ox_map hOX rfl) hks hE hS hA (s_Tok_isSign l D cs kf T O X tk (91) y0 y1 y2 y3 y4 y5 y6 y7 ft t tn 37 t_tk t_y0 (by omega) (by omega) (by omega) (by omega) (by omega) (by omega) (by omega) htb hto (by decide) (by decide) (hO.sub (by decide))) kw_646 kw_615 kw_616 kw_3 kw_617 (by decide +kernel) ⟨Nat.le_of_ble_eq_true rfl, Nat.le_of_ble_eq_true rfl⟩ (x_recv (ci := 7) hkb hH 0 rfl rfl) rfl rfl hl.1 (Nat.le_of_ble_eq_true rfl) dX3_readUnit_46 ⟨Nat.le_of_ble_eq_true rfl, Nat.le_of_ble_eq_true rfl⟩) (fun v46 u H locs hz9 hH hS => ?_)
    obtain ⟨rfl, l_v46, u_v46, x_v460, x_v461⟩ := hz9
    have hH : HT D cs A T (tk :: y0 :: O) ((tk, .inr (7, [.ref y0, .int y1, .int y2, .int y3, .int y4, .int y5, .int y6, .int y7])) :: (y0, .inl (cs.1, 900, .inl ft)) :: X) H := hH
    refine W.widen (k := 0) (n := 0) (Nat.le_of_ble_eq_true rfl) (Nat.le_of_ble_eq_true rfl) ?_
    refine lv_if_eq (tgt := 88) hx hb dX3_readUnit_49 (by decide) (fun c49 => ?_) (fun c49 => ?_)
    · skip
      have tc49 := f_eq (k := 0) (by decide) c49
      clear x_v460
      replace x_v461 := x_v461.resolve_left (fun q9 => q9 tc49)
      have g88 : GL t tn [(5, 5)] [(3, 5), (21, 5)] y2 y2 := fun _ _ => st_uS (by omega) (by omega)
      refine lv_aload_n hx hb dX3_readUnit_88 rfl (lv_at hl 0 rfl) ?_
      refine lv_iload_n hx hb dX3_readUnit_89 rfl (lv_at hl 1 rfl) ?_
      refine tk_i hH hS hA (tr_V (n := 1) (As := [.int x1]) hx hb hml hown hts hkb hH (ox_map hOX rfl) hks hE hS hA (s_LR_readSum5 l D cs kf T O X a0 x1 y0 y1 y2 y3 y4 y5 y6 y7 ft t tn tk t_a0 (by omega) (by omega) t_y0 (by omega) (by omega) (by omega) (by omega) (by omega) (by omega) (by omega) htb hto t_tk hU7 (by omega) (hO.sub (by decide))) kw_648 kw_650 ks_10 kw_4 kw_651 (by decide +kernel) ⟨Nat.le_of_ble_eq_true rfl, Nat.le_of_ble_eq_true rfl⟩ (HT.recv (ci := 3) hkb hH t_a0 (hO.no t_a0 (by decide)) rfl) rfl rfl hl.1 (Nat.le_of_ble_eq_true rfl) dX3_readUnit_90 ⟨Nat.le_of_ble_eq_true rfl, Nat.le_of_ble_eq_true rfl⟩) (fun v90 u H locs hz9 hH hS => ?_)
      obtain ⟨n90_0_2, n90_0_3, n90_0_4, n90_0_5, n90_0_6, n90_0_7, rfl, l_v90, u_v90, x_v900, x_v901, x_v902⟩ := hz9
      have hH : HT D cs A T (tk :: y0 :: O) ((tk, .inr (7, [.ref y0, .int y1, .int n90_0_2, .int n90_0_3, .int n90_0_4, .int n90_0_5, .int n90_0_6, .int n90_0_7])) :: (y0, .inl (cs.1, 900, .inl ft)) :: X) H := hH
      refine W.widen (k := 0) (n := 0) (Nat.le_of_ble_eq_true rfl) (Nat.le_of_ble_eq_true rfl) ?_
      refine lv_if_ne (tgt := 98) hx hb dX3_readUnit_93 (by decide) (fun c93 => ?_) (fun c93 => ?_)
      · skip
        have tc93 := f_ne (k := 0) (by decide) c93
        replace x_v900 := x_v900.resolve_left tc93
        clear x_v901
        have g98 := g88.tr (GL.cons x_v900.2.2.2)
        have hc98 := x_v900.1.cs
        refine lv_aload_n hx hb dX3_readUnit_98 rfl (lv_at hl 0 rfl) ?_
        refine t_get (ci := 3) (lst := ft3 0 0) (C := RX3) (F := TX3) (N := 3) hx hb hts uX3 hown hkb hH t_a0 (hO.no t_a0 (by decide)) (fun _ h9 => h9) rfl rfl 0 (by decide) rfl kw_82 (fun _ h9 => h9) dX3_readUnit_99 (fun v9 h9 => ?_)
        obtain ⟨v99, rfl, t_v99⟩ := h9
        have e9 := (hU7 _ _ t_v99).symm
        subst e9
        refine lv_bipush (v := 61) hx hb dX3_readUnit_102 (by decide) ?_
        have z9_61 : (61 : Int32).toInt = 61 := by decide
        refine tk_i hH hS hA (tr_V (n := 1) (As := [.int 61]) hx hb hml hown hts hkb hH (ox_map hOX rfl) hks hE hS hA (s_Tok_isSign l D cs kf T O X tk (61) y0 y1 n90_0_2 n90_0_3 n90_0_4 n90_0_5 n90_0_6 n90_0_7 ft t tn 39 t_tk t_y0 (by omega) (by omega) (by omega) (by omega) (by omega) (by omega) (by omega) htb x_v900.1 (by decide) (by decide) (hO.sub (by decide))) kw_646 kw_615 kw_616 kw_3 kw_617 (by decide +kernel) ⟨Nat.le_of_ble_eq_true rfl, Nat.le_of_ble_eq_true rfl⟩ (x_recv (ci := 7) hkb hH 0 rfl rfl) rfl rfl hl.1 (Nat.le_of_ble_eq_true rfl) dX3_readUnit_104 ⟨Nat.le_of_ble_eq_true rfl, Nat.le_of_ble_eq_true rfl⟩) (fun v104 u H locs hz9 hH hS => ?_)
        obtain ⟨rfl, l_v104, u_v104, x_v1040, x_v1041⟩ := hz9
        have hH : HT D cs A T (tk :: y0 :: O) ((tk, .inr (7, [.ref y0, .int y1, .int n90_0_2, .int n90_0_3, .int n90_0_4, .int n90_0_5, .int n90_0_6, .int n90_0_7])) :: (y0, .inl (cs.1, 900, .inl ft)) :: X) H := hH
        refine W.widen (k := 0) (n := 0) (Nat.le_of_ble_eq_true rfl) (Nat.le_of_ble_eq_true rfl) ?_
        refine lv_if_eq (tgt := 115) hx hb dX3_readUnit_107 (by decide) (fun c107 => ?_) (fun c107 => ?_)
        · skip
          have tc107 := f_eq (k := 0) (by decide) c107
          clear x_v1040
          replace x_v1041 := x_v1041.resolve_left (fun q9 => q9 tc107)
          refine lv_aload_n hx hb dX3_readUnit_115 rfl (lv_at hl 0 rfl) ?_
          refine t_get (ci := 3) (lst := ft3 0 0) (C := RX3) (F := TX3) (N := 3) hx hb hts uX3 hown hkb hH t_a0 (hO.no t_a0 (by decide)) (fun _ h9 => h9) rfl rfl 0 (by decide) rfl kw_82 (fun _ h9 => h9) dX3_readUnit_116 (fun v9 h9 => ?_)
          obtain ⟨v116, rfl, t_v116⟩ := h9
          have e9 := (hU7 _ _ t_v116).symm
          subst e9
          refine lv_bipush (v := 60) hx hb dX3_readUnit_119 (by decide) ?_
          have z9_60 : (60 : Int32).toInt = 60 := by decide
          refine tk_i hH hS hA (tr_V (n := 1) (As := [.int 60]) hx hb hml hown hts hkb hH (ox_map hOX rfl) hks hE hS hA (s_Tok_isSign l D cs kf T O X tk (60) y0 y1 n90_0_2 n90_0_3 n90_0_4 n90_0_5 n90_0_6 n90_0_7 ft t tn 40 t_tk t_y0 (by omega) (by omega) (by omega) (by omega) (by omega) (by omega) (by omega) htb x_v900.1 (by decide) (by decide) (hO.sub (by decide))) kw_646 kw_615 kw_616 kw_3 kw_617 (by decide +kernel) ⟨Nat.le_of_ble_eq_true rfl, Nat.le_of_ble_eq_true rfl⟩ (x_recv (ci := 7) hkb hH 0 rfl rfl) rfl rfl hl.1 (Nat.le_of_ble_eq_true rfl) dX3_readUnit_121 ⟨Nat.le_of_ble_eq_true rfl, Nat.le_of_ble_eq_true rfl⟩) (fun v121 u H locs hz9 hH hS => ?_)
          obtain ⟨rfl, l_v121, u_v121, x_v1210, x_v1211⟩ := hz9
          have hH : HT D cs A T (tk :: y0 :: O) ((tk, .inr (7, [.ref y0, .int y1, .int n90_0_2, .int n90_0_3, .int n90_0_4, .int n90_0_5, .int n90_0_6, .int n90_0_7])) :: (y0, .inl (cs.1, 900, .inl ft)) :: X) H := hH
          refine W.widen (k := 0) (n := 0) (Nat.le_of_ble_eq_true rfl) (Nat.le_of_ble_eq_true rfl) ?_
          refine lv_if_eq (tgt := 132) hx hb dX3_readUnit_124 (by decide) (fun c124 => ?_) (fun c124 => ?_)
          · skip
            have tc124 := f_eq (k := 0) (by decide) c124
            clear x_v1210
            replace x_v1211 := x_v1211.resolve_left (fun q9 => q9 tc124)
            refine lv_bipush (v := 10) hx hb dX3_readUnit_132 (by decide) ?_
            refine lv_istore_n (lv' := [(2, .int 10), (0, .ref a0), (1, .int x1)]) hx hb dX3_readUnit_134 rfl hl (by decide) rfl (fun ls hl => ?_)
            refine lv_iload_n hx hb dX3_readUnit_135 rfl (lv_at hl 0 rfl) ?_
            refine lv_bipush (v := 10) hx hb dX3_readUnit_136 (by decide) ?_
            refine lv_icmp_ne (tgt := 162) hx hb dX3_readUnit_138 (by decide) (fun c138 => absurd c138 (by decide)) (fun _ => ?_)
            refine lv_aload_n hx hb dX3_readUnit_141 rfl (lv_at hl 1 rfl) ?_
            refine t_get (ci := 3) (lst := ft3 0 0) (C := RX3) (F := TX3) (N := 3) hx hb hts uX3 hown hkb hH t_a0 (hO.no t_a0 (by decide)) (fun _ h9 => h9) rfl rfl 0 (by decide) rfl kw_82 (fun _ h9 => h9) dX3_readUnit_142 (fun v9 h9 => ?_)
            obtain ⟨v142, rfl, t_v142⟩ := h9
            have e9 := (hU7 _ _ t_v142).symm
            subst e9
            refine lv_bipush (v := 62) hx hb dX3_readUnit_145 (by decide) ?_
            have z9_62 : (62 : Int32).toInt = 62 := by decide
            refine tk_i hH hS hA (tr_V (n := 1) (As := [.int 62]) hx hb hml hown hts hkb hH (ox_map hOX rfl) hks hE hS hA (s_Tok_isSign l D cs kf T O X tk (62) y0 y1 n90_0_2 n90_0_3 n90_0_4 n90_0_5 n90_0_6 n90_0_7 ft t tn 41 t_tk t_y0 (by omega) (by omega) (by omega) (by omega) (by omega) (by omega) (by omega) htb x_v900.1 (by decide) (by decide) (hO.sub (by decide))) kw_646 kw_615 kw_616 kw_3 kw_617 (by decide +kernel) ⟨Nat.le_of_ble_eq_true rfl, Nat.le_of_ble_eq_true rfl⟩ (x_recv (ci := 7) hkb hH 0 rfl rfl) rfl rfl hl.1 (Nat.le_of_ble_eq_true rfl) dX3_readUnit_147 ⟨Nat.le_of_ble_eq_true rfl, Nat.le_of_ble_eq_true rfl⟩) (fun v147 u H locs hz9 hH hS => ?_)
            obtain ⟨rfl, l_v147, u_v147, x_v1470, x_v1471⟩ := hz9
            have hH : HT D cs A T (tk :: y0 :: O) ((tk, .inr (7, [.ref y0, .int y1, .int n90_0_2, .int n90_0_3, .int n90_0_4, .int n90_0_5, .int n90_0_6, .int n90_0_7])) :: (y0, .inl (cs.1, 900, .inl ft)) :: X) H := hH
            refine W.widen (k := 0) (n := 0) (Nat.le_of_ble_eq_true rfl) (Nat.le_of_ble_eq_true rfl) ?_
            refine lv_if_ne (tgt := 162) hx hb dX3_readUnit_150 (by decide) (fun c150 => ?_) (fun c150 => ?_)
            · skip
              have tc150 := f_ne (k := 0) (by decide) c150
              replace x_v1470 := x_v1470.resolve_left tc150
              clear x_v1471
              refine lv_aload_n hx hb dX3_readUnit_162 rfl (lv_at hl 1 rfl) ?_
              refine t_get (ci := 3) (lst := ft3 0 0) (C := RX3) (F := TX3) (N := 3) hx hb hts uX3 hown hkb hH t_a0 (hO.no t_a0 (by decide)) (fun _ h9 => h9) rfl rfl 0 (by decide) rfl kw_82 (fun _ h9 => h9) dX3_readUnit_163 (fun v9 h9 => ?_)
              obtain ⟨v163, rfl, t_v163⟩ := h9
              have e9 := (hU7 _ _ t_v163).symm
              subst e9
              refine tk_v hH hS hA (tr_V (n := 0) (As := []) hx hb hml hown hts hkb hH (ox_map hOX rfl) hks hE hS hA (s_Tok_go l D cs kf T O X tk y0 y1 n90_0_2 n90_0_3 n90_0_4 n90_0_5 n90_0_6 n90_0_7 ft t tn t_tk t_y0 (by omega) (by omega) (by omega) (by omega) (by omega) (by omega) (by omega) htb (by have q9 := (x_v900.1).b; omega) (hO.sub (by decide))) kw_641 kw_453 kw_454 kw_3 kw_455 (by decide +kernel) ⟨Nat.le_of_ble_eq_true rfl, Nat.le_of_ble_eq_true rfl⟩ (x_recv (ci := 7) hkb hH 0 rfl rfl) rfl rfl hl.1 (Nat.le_of_ble_eq_true rfl) dX3_readUnit_166 ⟨Nat.le_of_ble_eq_true rfl, Nat.le_of_ble_eq_true rfl⟩) (fun u H locs hz9 hH hS => ?_)
              obtain ⟨n166_0_2, n166_0_3, n166_0_4, n166_0_5, rfl, x_v1660, x_v1661, x_v1662⟩ := hz9
              have px166 := TSS.nx x_v900.1 x_v1661
              have hH : HT D cs A T (tk :: y0 :: O) ((tk, .inr (7, [.ref y0, .int y1, .int n166_0_2, .int n166_0_3, .int n166_0_4, .int n166_0_5, .int n90_0_6, .int n90_0_7])) :: (y0, .inl (cs.1, 900, .inl ft)) :: X) H := hH
              refine W.widen (k := 0) (n := 0) (Nat.le_of_ble_eq_true rfl) (Nat.le_of_ble_eq_true rfl) ?_
              have g169 : GL t tn [(5, 5)] [(3, 5)] y2 n166_0_2 := g98.tr (GL_nx (fun _ _ => st_cY (by omega)) px166)
              refine lv_aload_n hx hb dX3_readUnit_169 rfl (lv_at hl 1 rfl) ?_
              refine lv_iload_n hx hb dX3_readUnit_170 rfl (lv_at hl 2 rfl) ?_
              refine tk_i hH hS hA (tr_V (n := 1) (As := [.int x1]) hx hb hml hown hts hkb hH (ox_map hOX rfl) hks hE hS hA (s_LR_readSum5 l D cs kf T O X a0 x1 y0 y1 n166_0_2 n166_0_3 n166_0_4 n166_0_5 n90_0_6 n90_0_7 ft t tn tk t_a0 (by omega) (by omega) t_y0 (by omega) (by omega) (by omega) (by omega) (by omega) (by omega) (by omega) htb x_v1660 t_tk hU7 (by omega) (hO.sub (by decide))) kw_648 kw_650 ks_10 kw_4 kw_651 (by decide +kernel) ⟨Nat.le_of_ble_eq_true rfl, Nat.le_of_ble_eq_true rfl⟩ (HT.recv (ci := 3) hkb hH t_a0 (hO.no t_a0 (by decide)) rfl) rfl rfl hl.1 (Nat.le_of_ble_eq_true rfl) dX3_readUnit_171 ⟨Nat.le_of_ble_eq_true rfl, Nat.le_of_ble_eq_true rfl⟩) (fun v171 u H locs hz9 hH hS => ?_)
              obtain ⟨n171_0_2, n171_0_3, n171_0_4, n171_0_5, n171_0_6, n171_0_7, rfl, l_v171, u_v171, x_v1710, x_v1711, x_v1712⟩ := hz9
              have hH : HT D cs A T (tk :: y0 :: O) ((tk, .inr (7, [.ref y0, .int y1, .int n171_0_2, .int n171_0_3, .int n171_0_4, .int n171_0_5, .int n171_0_6, .int n171_0_7])) :: (y0, .inl (cs.1, 900, .inl ft)) :: X) H := hH
              refine W.widen (k := 0) (n := 0) (Nat.le_of_ble_eq_true rfl) (Nat.le_of_ble_eq_true rfl) ?_
              refine lv_if_ne (tgt := 179) hx hb dX3_readUnit_174 (by decide) (fun c174 => ?_) (fun c174 => ?_)
              · skip
                have tc174 := f_ne (k := 0) (by decide) c174
                replace x_v1710 := x_v1710.resolve_left tc174
                clear x_v1711
                refine lv_aload_n hx hb dX3_readUnit_179 rfl (lv_at hl 1 rfl) ?_
                refine lv_iload_n hx hb dX3_readUnit_180 rfl (lv_at hl 0 rfl) ?_
                refine lv_iconst (v := 0) hx hb dX3_readUnit_181 (by decide) ?_
                refine tk_v hH hS hA (tr_V (n := 2) (As := [.int 10, .int 0]) hx hb hml hown hts hkb hH (ox_map hOX rfl) hks hE hS hA (s_LR_put l D cs kf T (tk :: y0 :: O) ((tk, .inr (7, [.ref y0, .int y1, .int n171_0_2, .int n171_0_3, .int n171_0_4, .int n171_0_5, .int n171_0_6, .int n171_0_7])) :: (y0, .inl (cs.1, 900, .inl ft)) :: X) a0 (10) (0) t_a0 (hO.sub (by decide))) kw_642 kw_644 ks_9 kw_4 kw_645 (by decide +kernel) ⟨Nat.le_of_ble_eq_true rfl, Nat.le_of_ble_eq_true rfl⟩ (HT.recv (ci := 3) hkb hH t_a0 (hO.no t_a0 (by decide)) rfl) rfl rfl hl.1 (Nat.le_of_ble_eq_true rfl) dX3_readUnit_182 ⟨Nat.le_of_ble_eq_true rfl, Nat.le_of_ble_eq_true rfl⟩) (fun u H locs hz9 hH hS => ?_)
                have hz9 : u = (T, tk :: y0 :: O, (tk, .inr (7, [.ref y0, .int y1, .int n171_0_2, .int n171_0_3, .int n171_0_4, .int n171_0_5, .int n171_0_6, .int n171_0_7])) :: (y0, .inl (cs.1, 900, .inl ft)) :: X) := hz9
                subst hz9
                have hH : HT D cs A T (tk :: y0 :: O) ((tk, .inr (7, [.ref y0, .int y1, .int n171_0_2, .int n171_0_3, .int n171_0_4, .int n171_0_5, .int n171_0_6, .int n171_0_7])) :: (y0, .inl (cs.1, 900, .inl ft)) :: X) H := hH
                refine W.widen (k := 0) (n := 0) (Nat.le_of_ble_eq_true rfl) (Nat.le_of_ble_eq_true rfl) ?_
                refine lv_iconst (v := 1) hx hb dX3_readUnit_185 (by decide) ?_
                have z9_1 : (1 : Int32).toInt = 1 := by decide
                exact te_z hx hb hr hlocks (by rfl) hH hS (⟨n171_0_2, n171_0_3, n171_0_4, n171_0_5, n171_0_6, n171_0_7, rfl, by decide, by decide, (Or.inr ⟨x_v1710.1, by omega, by omega, (by first | (refine g20.tr x_v240.2.2.2) | (refine g70.tr (GL_nx (fun _ _ => st_xY x_v760.2.2.1) x_v760.2.1)) | (refine g169.tr x_v1710.2.2.2))⟩), Or.inl (by decide), (by omega)⟩) dX3_readUnit_186
              · skip
                have tc174 := f_eq (k := 0) (by decide) c174
                clear x_v1710
                replace x_v1711 := x_v1711.resolve_left (fun q9 => q9 tc174)
                refine lv_iconst (v := 0) hx hb dX3_readUnit_177 (by decide) ?_
                have z9_0 : (0 : Int32).toInt = 0 := by decide
                exact te_z hx hb hr hlocks (by rfl) hH hS (⟨n171_0_2, n171_0_3, n171_0_4, n171_0_5, n171_0_6, n171_0_7, rfl, by decide, by decide, Or.inl (by decide), (Or.inr (by first | (refine BL_f (fun _ _ => st_uND ?_) x_v140 (by decide) x_v141 ?_ <;> omega) | (refine g20.bd x_v241) | (refine BL_f (fun _ _ => st_uBD ?_) x_v540 (by decide) x_v541 ?_ <;> omega) | (refine g60.bd (BL.cons x_v641)) | (refine g70.bd (BL_f (fun _ _ => st_xN x_v761.1) x_v761.2.1 (by decide) x_v761.2.2 ?_); omega) | (refine g88.bd (BL.cons x_v901)) | (refine g98.bd (BL_f (fun _ _ => st_cN ?_) x_v1580 (by decide) x_v1581 ?_) <;> omega) | (refine g169.bd x_v1711))), (by omega)⟩) dX3_readUnit_178
            · skip
              have tc150 := f_eq (k := 0) (by decide) c150
              clear x_v1470
              replace x_v1471 := x_v1471.resolve_left (fun q9 => q9 tc150)
              refine lv_aload_n hx hb dX3_readUnit_153 rfl (lv_at hl 1 rfl) ?_
              refine t_get (ci := 3) (lst := ft3 0 0) (C := RX3) (F := TX3) (N := 3) hx hb hts uX3 hown hkb hH t_a0 (hO.no t_a0 (by decide)) (fun _ h9 => h9) rfl rfl 0 (by decide) rfl kw_82 (fun _ h9 => h9) dX3_readUnit_154 (fun v9 h9 => ?_)
              obtain ⟨v154, rfl, t_v154⟩ := h9
              have e9 := (hU7 _ _ t_v154).symm
              subst e9
              refine lv_iconst (v := 2) hx hb dX3_readUnit_157 (by decide) ?_
              have z9_2 : (2 : Int32).toInt = 2 := by decide
              refine tk_i hH hS hA (tr_V (n := 1) (As := [.int 2]) hx hb hml hown hts hkb hH (ox_map hOX rfl) hks hE hS hA (s_Tok_refuse l D cs kf T O X tk (2) y0 y1 n90_0_2 n90_0_3 n90_0_4 n90_0_5 n90_0_6 n90_0_7 ft t tn t_tk t_y0 (by omega) (by omega) (by omega) (by omega) (by omega) (by omega) (by omega) htb x_v900.1 (hO.sub (by decide))) kw_640 kw_580 kw_581 kw_3 kw_582 (by decide +kernel) ⟨Nat.le_of_ble_eq_true rfl, Nat.le_of_ble_eq_true rfl⟩ (x_recv (ci := 7) hkb hH 0 rfl rfl) rfl rfl hl.1 (Nat.le_of_ble_eq_true rfl) dX3_readUnit_158 ⟨Nat.le_of_ble_eq_true rfl, Nat.le_of_ble_eq_true rfl⟩) (fun v158 u H locs hz9 hH hS => ?_)
              obtain ⟨n158_0_6, n158_0_7, rfl, l_v158, u_v158, x_v1580, x_v1581⟩ := hz9
              have hH : HT D cs A T (tk :: y0 :: O) ((tk, .inr (7, [.ref y0, .int y1, .int n90_0_2, .int n90_0_3, .int n90_0_4, .int n90_0_5, .int n158_0_6, .int n158_0_7])) :: (y0, .inl (cs.1, 900, .inl ft)) :: X) H := hH
              refine W.widen (k := 0) (n := 0) (Nat.le_of_ble_eq_true rfl) (Nat.le_of_ble_eq_true rfl) ?_
              exact te_z hx hb hr hlocks (nar01 (by omega) (by omega)) hH hS (⟨n90_0_2, n90_0_3, n90_0_4, n90_0_5, n158_0_6, n158_0_7, rfl, by omega, by omega, (Or.inl (by omega)), (Or.inr (by first | (refine BL_f (fun _ _ => st_uND ?_) x_v140 (by decide) x_v141 ?_ <;> omega) | (refine g20.bd x_v241) | (refine BL_f (fun _ _ => st_uBD ?_) x_v540 (by decide) x_v541 ?_ <;> omega) | (refine g60.bd (BL.cons x_v641)) | (refine g70.bd (BL_f (fun _ _ => st_xN x_v761.1) x_v761.2.1 (by decide) x_v761.2.2 ?_); omega) | (refine g88.bd (BL.cons x_v901)) | (refine g98.bd (BL_f (fun _ _ => st_cN ?_) x_v1580 (by decide) x_v1581 ?_) <;> omega) | (refine g169.bd x_v1711))), (by omega)⟩) dX3_readUnit_161
          · skip
            have tc124 := f_ne (k := 0) (by decide) c124
            replace x_v1210 := x_v1210.resolve_left tc124
            clear x_v1211
            refine lv_bipush (v := 9) hx hb dX3_readUnit_127 (by decide) ?_
            refine lv_goto (tgt := 134) hx hb dX3_readUnit_129 (by decide) ?_
            refine lv_istore_n (lv' := [(2, .int 9), (0, .ref a0), (1, .int x1)]) hx hb dX3_readUnit_134 rfl hl (by decide) rfl (fun ls hl => ?_)
            refine lv_iload_n hx hb dX3_readUnit_135 rfl (lv_at hl 0 rfl) ?_
            refine lv_bipush (v := 10) hx hb dX3_readUnit_136 (by decide) ?_
            refine lv_icmp_ne (tgt := 162) hx hb dX3_readUnit_138 (by decide) (fun _ => ?_) (fun c138 => absurd c138 (by decide))
            refine lv_aload_n hx hb dX3_readUnit_162 rfl (lv_at hl 1 rfl) ?_
            refine t_get (ci := 3) (lst := ft3 0 0) (C := RX3) (F := TX3) (N := 3) hx hb hts uX3 hown hkb hH t_a0 (hO.no t_a0 (by decide)) (fun _ h9 => h9) rfl rfl 0 (by decide) rfl kw_82 (fun _ h9 => h9) dX3_readUnit_163 (fun v9 h9 => ?_)
            obtain ⟨v163, rfl, t_v163⟩ := h9
            have e9 := (hU7 _ _ t_v163).symm
            subst e9
            refine tk_v hH hS hA (tr_V (n := 0) (As := []) hx hb hml hown hts hkb hH (ox_map hOX rfl) hks hE hS hA (s_Tok_go l D cs kf T O X tk y0 y1 n90_0_2 n90_0_3 n90_0_4 n90_0_5 n90_0_6 n90_0_7 ft t tn t_tk t_y0 (by omega) (by omega) (by omega) (by omega) (by omega) (by omega) (by omega) htb (by have q9 := (x_v900.1).b; omega) (hO.sub (by decide))) kw_641 kw_453 kw_454 kw_3 kw_455 (by decide +kernel) ⟨Nat.le_of_ble_eq_true rfl, Nat.le_of_ble_eq_true rfl⟩ (x_recv (ci := 7) hkb hH 0 rfl rfl) rfl rfl hl.1 (Nat.le_of_ble_eq_true rfl) dX3_readUnit_166 ⟨Nat.le_of_ble_eq_true rfl, Nat.le_of_ble_eq_true rfl⟩) (fun u H locs hz9 hH hS => ?_)
            obtain ⟨n166_0_2, n166_0_3, n166_0_4, n166_0_5, rfl, x_v1660, x_v1661, x_v1662⟩ := hz9
            have px166 := TSS.nx x_v900.1 x_v1661
            have hH : HT D cs A T (tk :: y0 :: O) ((tk, .inr (7, [.ref y0, .int y1, .int n166_0_2, .int n166_0_3, .int n166_0_4, .int n166_0_5, .int n90_0_6, .int n90_0_7])) :: (y0, .inl (cs.1, 900, .inl ft)) :: X) H := hH
            refine W.widen (k := 0) (n := 0) (Nat.le_of_ble_eq_true rfl) (Nat.le_of_ble_eq_true rfl) ?_
            have g169 : GL t tn [(5, 5)] [(3, 5)] y2 n166_0_2 := g98.tr (GL_nx (fun _ _ => st_cY (by omega)) px166)
            refine lv_aload_n hx hb dX3_readUnit_169 rfl (lv_at hl 1 rfl) ?_
            refine lv_iload_n hx hb dX3_readUnit_170 rfl (lv_at hl 2 rfl) ?_
            refine tk_i hH hS hA (tr_V (n := 1) (As := [.int x1]) hx hb hml hown hts hkb hH (ox_map hOX rfl) hks hE hS hA (s_LR_readSum5 l D cs kf T O X a0 x1 y0 y1 n166_0_2 n166_0_3 n166_0_4 n166_0_5 n90_0_6 n90_0_7 ft t tn tk t_a0 (by omega) (by omega) t_y0 (by omega) (by omega) (by omega) (by omega) (by omega) (by omega) (by omega) htb x_v1660 t_tk hU7 (by omega) (hO.sub (by decide))) kw_648 kw_650 ks_10 kw_4 kw_651 (by decide +kernel) ⟨Nat.le_of_ble_eq_true rfl, Nat.le_of_ble_eq_true rfl⟩ (HT.recv (ci := 3) hkb hH t_a0 (hO.no t_a0 (by decide)) rfl) rfl rfl hl.1 (Nat.le_of_ble_eq_true rfl) dX3_readUnit_171 ⟨Nat.le_of_ble_eq_true rfl, Nat.le_of_ble_eq_true rfl⟩) (fun v171 u H locs hz9 hH hS => ?_)
            obtain ⟨n171_0_2, n171_0_3, n171_0_4, n171_0_5, n171_0_6, n171_0_7, rfl, l_v171, u_v171, x_v1710, x_v1711, x_v1712⟩ := hz9
            have hH : HT D cs A T (tk :: y0 :: O) ((tk, .inr (7, [.ref y0, .int y1, .int n171_0_2, .int n171_0_3, .int n171_0_4, .int n171_0_5, .int n171_0_6, .int n171_0_7])) :: (y0, .inl (cs.1, 900, .inl ft)) :: X) H := hH
            refine W.widen (k := 0) (n := 0) (Nat.le_of_ble_eq_true rfl) (Nat.le_of_ble_eq_true rfl) ?_
            refine lv_if_ne (tgt := 179) hx hb dX3_readUnit_174 (by decide) (fun c174 => ?_) (fun c174 => ?_)
            · skip
              have tc174 := f_ne (k := 0) (by decide) c174
              replace x_v1710 := x_v1710.resolve_left tc174
              clear x_v1711
              refine lv_aload_n hx hb dX3_readUnit_179 rfl (lv_at hl 1 rfl) ?_
              refine lv_iload_n hx hb dX3_readUnit_180 rfl (lv_at hl 0 rfl) ?_
              refine lv_iconst (v := 0) hx hb dX3_readUnit_181 (by decide) ?_
              refine tk_v hH hS hA (tr_V (n := 2) (As := [.int 9, .int 0]) hx hb hml hown hts hkb hH (ox_map hOX rfl) hks hE hS hA (s_LR_put l D cs kf T (tk :: y0 :: O) ((tk, .inr (7, [.ref y0, .int y1, .int n171_0_2, .int n171_0_3, .int n171_0_4, .int n171_0_5, .int n171_0_6, .int n171_0_7])) :: (y0, .inl (cs.1, 900, .inl ft)) :: X) a0 (9) (0) t_a0 (hO.sub (by decide))) kw_642 kw_644 ks_9 kw_4 kw_645 (by decide +kernel) ⟨Nat.le_of_ble_eq_true rfl, Nat.le_of_ble_eq_true rfl⟩ (HT.recv (ci := 3) hkb hH t_a0 (hO.no t_a0 (by decide)) rfl) rfl rfl hl.1 (Nat.le_of_ble_eq_true rfl) dX3_readUnit_182 ⟨Nat.le_of_ble_eq_true rfl, Nat.le_of_ble_eq_true rfl⟩) (fun u H locs hz9 hH hS => ?_)
              have hz9 : u = (T, tk :: y0 :: O, (tk, .inr (7, [.ref y0, .int y1, .int n171_0_2, .int n171_0_3, .int n171_0_4, .int n171_0_5, .int n171_0_6, .int n171_0_7])) :: (y0, .inl (cs.1, 900, .inl ft)) :: X) := hz9
              subst hz9
              have hH : HT D cs A T (tk :: y0 :: O) ((tk, .inr (7, [.ref y0, .int y1, .int n171_0_2, .int n171_0_3, .int n171_0_4, .int n171_0_5, .int n171_0_6, .int n171_0_7])) :: (y0, .inl (cs.1, 900, .inl ft)) :: X) H := hH
              refine W.widen (k := 0) (n := 0) (Nat.le_of_ble_eq_true rfl) (Nat.le_of_ble_eq_true rfl) ?_
              refine lv_iconst (v := 1) hx hb dX3_readUnit_185 (by decide) ?_
              have z9_1 : (1 : Int32).toInt = 1 := by decide
              exact te_z hx hb hr hlocks (by rfl) hH hS (⟨n171_0_2, n171_0_3, n171_0_4, n171_0_5, n171_0_6, n171_0_7, rfl, by decide, by decide, (Or.inr ⟨x_v1710.1, by omega, by omega, (by first | (refine g20.tr x_v240.2.2.2) | (refine g70.tr (GL_nx (fun _ _ => st_xY x_v760.2.2.1) x_v760.2.1)) | (refine g169.tr x_v1710.2.2.2))⟩), Or.inl (by decide), (by omega)⟩) dX3_readUnit_186
            · skip
              have tc174 := f_eq (k := 0) (by decide) c174
              clear x_v1710
              replace x_v1711 := x_v1711.resolve_left (fun q9 => q9 tc174)
              refine lv_iconst (v := 0) hx hb dX3_readUnit_177 (by decide) ?_
              have z9_0 : (0 : Int32).toInt = 0 := by decide
              exact te_z hx hb hr hlocks (by rfl) hH hS (⟨n171_0_2, n171_0_3, n171_0_4, n171_0_5, n171_0_6, n171_0_7, rfl, by decide, by decide, Or.inl (by decide), (Or.inr (by first | (refine BL_f (fun _ _ => st_uND ?_) x_v140 (by decide) x_v141 ?_ <;> omega) | (refine g20.bd x_v241) | (refine BL_f (fun _ _ => st_uBD ?_) x_v540 (by decide) x_v541 ?_ <;> omega) | (refine g60.bd (BL.cons x_v641)) | (refine g70.bd (BL_f (fun _ _ => st_xN x_v761.1) x_v761.2.1 (by decide) x_v761.2.2 ?_); omega) | (refine g88.bd (BL.cons x_v901)) | (refine g98.bd (BL_f (fun _ _ => st_cN ?_) x_v1580 (by decide) x_v1581 ?_) <;> omega) | (refine g169.bd x_v1711))), (by omega)⟩) dX3_readUnit_178
        · skip
          have tc107 := f_ne (k := 0) (by decide) c107
          replace x_v1040 := x_v1040.resolve_left tc107
          clear x_v1041
          refine lv_bipush (v := 8) hx hb dX3_readUnit_110 (by decide) ?_
          refine lv_goto (tgt := 134) hx hb dX3_readUnit_112 (by decide) ?_
          refine lv_istore_n (lv' := [(2, .int 8), (0, .ref a0), (1, .int x1)]) hx hb dX3_readUnit_134 rfl hl (by decide) rfl (fun ls hl => ?_)
          refine lv_iload_n hx hb dX3_readUnit_135 rfl (lv_at hl 0 rfl) ?_
          refine lv_bipush (v := 10) hx hb dX3_readUnit_136 (by decide) ?_
          refine lv_icmp_ne (tgt := 162) hx hb dX3_readUnit_138 (by decide) (fun _ => ?_) (fun c138 => absurd c138 (by decide))
          refine lv_aload_n hx hb dX3_readUnit_162 rfl (lv_at hl 1 rfl) ?_
          refine t_get (ci := 3) (lst := ft3 0 0) (C := RX3) (F := TX3) (N := 3) hx hb hts uX3 hown hkb hH t_a0 (hO.no t_a0 (by decide)) (fun _ h9 => h9) rfl rfl 0 (by decide) rfl kw_82 (fun _ h9 => h9) dX3_readUnit_163 (fun v9 h9 => ?_)
          obtain ⟨v163, rfl, t_v163⟩ := h9
          have e9 := (hU7 _ _ t_v163).symm
          subst e9
          refine tk_v hH hS hA (tr_V (n := 0) (As := []) hx hb hml hown hts hkb hH (ox_map hOX rfl) hks hE hS hA (s_Tok_go l D cs kf T O X tk y0 y1 n90_0_2 n90_0_3 n90_0_4 n90_0_5 n90_0_6 n90_0_7 ft t tn t_tk t_y0 (by omega) (by omega) (by omega) (by omega) (by omega) (by omega) (by omega) htb (by have q9 := (x_v900.1).b; omega) (hO.sub (by decide))) kw_641 kw_453 kw_454 kw_3 kw_455 (by decide +kernel) ⟨Nat.le_of_ble_eq_true rfl, Nat.le_of_ble_eq_true rfl⟩ (x_recv (ci := 7) hkb hH 0 rfl rfl) rfl rfl hl.1 (Nat.le_of_ble_eq_true rfl) dX3_readUnit_166 ⟨Nat.le_of_ble_eq_true rfl, Nat.le_of_ble_eq_true rfl⟩) (fun u H locs hz9 hH hS => ?_)
          obtain ⟨n166_0_2, n166_0_3, n166_0_4, n166_0_5, rfl, x_v1660, x_v1661, x_v1662⟩ := hz9
          have px166 := TSS.nx x_v900.1 x_v1661
          have hH : HT D cs A T (tk :: y0 :: O) ((tk, .inr (7, [.ref y0, .int y1, .int n166_0_2, .int n166_0_3, .int n166_0_4, .int n166_0_5, .int n90_0_6, .int n90_0_7])) :: (y0, .inl (cs.1, 900, .inl ft)) :: X) H := hH
          refine W.widen (k := 0) (n := 0) (Nat.le_of_ble_eq_true rfl) (Nat.le_of_ble_eq_true rfl) ?_
          have g169 : GL t tn [(5, 5)] [(3, 5)] y2 n166_0_2 := g98.tr (GL_nx (fun _ _ => st_cY (by omega)) px166)
          refine lv_aload_n hx hb dX3_readUnit_169 rfl (lv_at hl 1 rfl) ?_
          refine lv_iload_n hx hb dX3_readUnit_170 rfl (lv_at hl 2 rfl) ?_
          refine tk_i hH hS hA (tr_V (n := 1) (As := [.int x1]) hx hb hml hown hts hkb hH (ox_map hOX rfl) hks hE hS hA (s_LR_readSum5 l D cs kf T O X a0 x1 y0 y1 n166_0_2 n166_0_3 n166_0_4 n166_0_5 n90_0_6 n90_0_7 ft t tn tk t_a0 (by omega) (by omega) t_y0 (by omega) (by omega) (by omega) (by omega) (by omega) (by omega) (by omega) htb x_v1660 t_tk hU7 (by omega) (hO.sub (by decide))) kw_648 kw_650 ks_10 kw_4 kw_651 (by decide +kernel) ⟨Nat.le_of_ble_eq_true rfl, Nat.le_of_ble_eq_true rfl⟩ (HT.recv (ci := 3) hkb hH t_a0 (hO.no t_a0 (by decide)) rfl) rfl rfl hl.1 (Nat.le_of_ble_eq_true rfl) dX3_readUnit_171 ⟨Nat.le_of_ble_eq_true rfl, Nat.le_of_ble_eq_true rfl⟩) (fun v171 u H locs hz9 hH hS => ?_)
          obtain ⟨n171_0_2, n171_0_3, n171_0_4, n171_0_5, n171_0_6, n171_0_7, rfl, l_v171, u_v171, x_v1710, x_v1711, x_v1712⟩ := hz9
          have hH : HT D cs A T (tk :: y0 :: O) ((tk, .inr (7, [.ref y0, .int y1, .int n171_0_2, .int n171_0_3, .int n171_0_4, .int n171_0_5, .int n171_0_6, .int n171_0_7])) :: (y0, .inl (cs.1, 900, .inl ft)) :: X) H := hH
          refine W.widen (k := 0) (n := 0) (Nat.le_of_ble_eq_true rfl) (Nat.le_of_ble_eq_true rfl) ?_
          refine lv_if_ne (tgt := 179) hx hb dX3_readUnit_174 (by decide) (fun c174 => ?_) (fun c174 => ?_)
          · skip
            have tc174 := f_ne (k := 0) (by decide) c174
            replace x_v1710 := x_v1710.resolve_left tc174
            clear x_v1711
            refine lv_aload_n hx hb dX3_readUnit_179 rfl (lv_at hl 1 rfl) ?_
            refine lv_iload_n hx hb dX3_readUnit_180 rfl (lv_at hl 0 rfl) ?_
            refine lv_iconst (v := 0) hx hb dX3_readUnit_181 (by decide) ?_
            refine tk_v hH hS hA (tr_V (n := 2) (As := [.int 8, .int 0]) hx hb hml hown hts hkb hH (ox_map hOX rfl) hks hE hS hA (s_LR_put l D cs kf T (tk :: y0 :: O) ((tk, .inr (7, [.ref y0, .int y1, .int n171_0_2, .int n171_0_3, .int n171_0_4, .int n171_0_5, .int n171_0_6, .int n171_0_7])) :: (y0, .inl (cs.1, 900, .inl ft)) :: X) a0 (8) (0) t_a0 (hO.sub (by decide))) kw_642 kw_644 ks_9 kw_4 kw_645 (by decide +kernel) ⟨Nat.le_of_ble_eq_true rfl, Nat.le_of_ble_eq_true rfl⟩ (HT.recv (ci := 3) hkb hH t_a0 (hO.no t_a0 (by decide)) rfl) rfl rfl hl.1 (Nat.le_of_ble_eq_true rfl) dX3_readUnit_182 ⟨Nat.le_of_ble_eq_true rfl, Nat.le_of_ble_eq_true rfl⟩) (fun u H locs hz9 hH hS => ?_)
            have hz9 : u = (T, tk :: y0 :: O, (tk, .inr (7, [.ref y0, .int y1, .int n171_0_2, .int n171_0_3, .int n171_0_4, .int n171_0_5, .int n171_0_6, .int n171_0_7])) :: (y0, .inl (cs.1, 900, .inl ft)) :: X) := hz9
            subst hz9
            have hH : HT D cs A T (tk :: y0 :: O) ((tk, .inr (7, [.ref y0, .int y1, .int n171_0_2, .int n171_0_3, .int n171_0_4, .int n171_0_5, .int n171_0_6, .int n171_0_7])) :: (y0, .inl (cs.1, 900, .inl ft)) :: X) H := hH
            refine W.widen (k := 0) (n := 0) (Nat.le_of_ble_eq_true rfl) (Nat.le_of_ble_eq_true rfl) ?_
            refine lv_iconst (v := 1) hx hb dX3_readUnit_185 (by decide) ?_
            have z9_1 : (1 : Int32).toInt = 1 := by decide
            exact te_z hx hb hr hlocks (by rfl) hH hS (⟨n171_0_2, n171_0_3, n171_0_4, n171_0_5, n171_0_6, n171_0_7, rfl, by decide, by decide, (Or.inr ⟨x_v1710.1, by omega, by omega, (by first | (refine g20.tr x_v240.2.2.2) | (refine g70.tr (GL_nx (fun _ _ => st_xY x_v760.2.2.1) x_v760.2.1)) | (refine g169.tr x_v1710.2.2.2))⟩), Or.inl (by decide), (by omega)⟩) dX3_readUnit_186
          · skip
            have tc174 := f_eq (k := 0) (by decide) c174
            clear x_v1710
            replace x_v1711 := x_v1711.resolve_left (fun q9 => q9 tc174)
            refine lv_iconst (v := 0) hx hb dX3_readUnit_177 (by decide) ?_
            have z9_0 : (0 : Int32).toInt = 0 := by decide
            exact te_z hx hb hr hlocks (by rfl) hH hS (⟨n171_0_2, n171_0_3, n171_0_4, n171_0_5, n171_0_6, n171_0_7, rfl, by decide, by decide, Or.inl (by decide), (Or.inr (by first | (refine BL_f (fun _ _ => st_uND ?_) x_v140 (by decide) x_v141 ?_ <;> omega) | (refine g20.bd x_v241) | (refine BL_f (fun _ _ => st_uBD ?_) x_v540 (by decide) x_v541 ?_ <;> omega) | (refine g60.bd (BL.cons x_v641)) | (refine g70.bd (BL_f (fun _ _ => st_xN x_v761.1) x_v761.2.1 (by decide) x_v761.2.2 ?_); omega) | (refine g88.bd (BL.cons x_v901)) | (refine g98.bd (BL_f (fun _ _ => st_cN ?_) x_v1580 (by decide) x_v1581 ?_) <;> omega) | (refine g169.bd x_v1711))), (by omega)⟩) dX3_readUnit_178
      · skip
        have tc93 := f_eq (k := 0) (by decide) c93
        clear x_v900
        replace x_v901 := x_v901.resolve_left (fun q9 => q9 tc93)
        refine lv_iconst (v := 0) hx hb dX3_readUnit_96 (by decide) ?_
        have z9_0 : (0 : Int32).toInt = 0 := by decide
        exact te_z hx hb hr hlocks (by rfl) hH hS (⟨n90_0_2, n90_0_3, n90_0_4, n90_0_5, n90_0_6, n90_0_7, rfl, by decide, by decide, Or.inl (by decide), (Or.inr (by first | (refine BL_f (fun _ _ => st_uND ?_) x_v140 (by decide) x_v141 ?_ <;> omega) | (refine g20.bd x_v241) | (refine BL_f (fun _ _ => st_uBD ?_) x_v540 (by decide) x_v541 ?_ <;> omega) | (refine g60.bd (BL.cons x_v641)) | (refine g70.bd (BL_f (fun _ _ => st_xN x_v761.1) x_v761.2.1 (by decide) x_v761.2.2 ?_); omega) | (refine g88.bd (BL.cons x_v901)) | (refine g98.bd (BL_f (fun _ _ => st_cN ?_) x_v1580 (by decide) x_v1581 ?_) <;> omega) | (refine g169.bd x_v1711))), (by omega)⟩) dX3_readUnit_97
    · skip
      have tc49 := f_ne (k := 0) (by decide) c49
      replace x_v460 := x_v460.resolve_left tc49
      clear x_v461
      refine lv_aload_n hx hb dX3_readUnit_52 rfl (lv_at hl 0 rfl) ?_
      refine lv_iload_n hx hb dX3_readUnit_53 rfl (lv_at hl 1 rfl) ?_
      refine tk_i hH hS hA (tr_V (n := 1) (As := [.int x1]) hx hb hml hown hts hkb hH (ox_map hOX rfl) hks hE hS hA (s_LR_enter5 l D cs kf T O X a0 x1 y0 y1 y2 y3 y4 y5 y6 y7 ft t tn tk t_a0 (by omega) (by omega) t_y0 (by omega) (by omega) (by omega) (by omega) (by omega) (by omega) (by omega) htb hto t_tk hU7 (hO.sub (by decide))) kw_636 kw_638 ks_8 kw_4 kw_639 (by decide +kernel) ⟨Nat.le_of_ble_eq_true rfl, Nat.le_of_ble_eq_true rfl⟩ (HT.recv (ci := 3) hkb hH t_a0 (hO.no t_a0 (by decide)) rfl) rfl rfl hl.1 (Nat.le_of_ble_eq_true rfl) dX3_readUnit_54 ⟨Nat.le_of_ble_eq_true rfl, Nat.le_of_ble_eq_true rfl⟩) (fun v54 u H locs hz9 hH hS => ?_)
      obtain ⟨n54_0_2, n54_0_3, n54_0_4, n54_0_5, rfl, l_v54, u_v54, x_v540, x_v541, x_v542⟩ := hz9
      have hH : HT D cs A T (tk :: y0 :: O) ((tk, .inr (7, [.ref y0, .int y1, .int n54_0_2, .int n54_0_3, .int n54_0_4, .int n54_0_5, .int y6, .int y7])) :: (y0, .inl (cs.1, 900, .inl ft)) :: X) H := hH
      refine W.widen (k := 0) (n := 0) (Nat.le_of_ble_eq_true rfl) (Nat.le_of_ble_eq_true rfl) ?_
      refine lv_if_eq (tgt := 86) hx hb dX3_readUnit_57 (by decide) (fun c57 => ?_) (fun c57 => ?_)
      · skip
        have tc57 := f_eq (k := 0) (by decide) c57
        exfalso; omega
      · skip
        have tc57 := f_ne (k := 0) (by decide) c57
        have g60 : GL t tn [(5, 5)] [(8, 6), (20, 38)] y2 n54_0_2 := GL_nx (fun _ _ => st_uB (by omega) (by decide)) x_v541
        refine lv_aload_n hx hb dX3_readUnit_60 rfl (lv_at hl 0 rfl) ?_
        refine lv_iload_n hx hb dX3_readUnit_61 rfl (lv_at hl 1 rfl) ?_
        refine lv_iconst (v := 1) hx hb dX3_readUnit_62 (by decide) ?_
        refine lv_iadd hx hb dX3_readUnit_63 ?_
        refine lv_topi (fun v63 ev63 => ?_)
        have tv63 : v63.toInt = x1.toInt + (1) := by rw [ev63]; exact add_i rfl (by decide : (1 : Int32).toInt = 1) (by omega) (by omega)
        refine tk_i hH hS hA (tr_V (n := 1) (As := [.int v63]) hx hb hml hown hts hkb hH (ox_map hOX rfl) hks hE hS hA (s_LR_readTruth6 l D cs kf T O X a0 v63 y0 y1 n54_0_2 n54_0_3 n54_0_4 n54_0_5 y6 y7 ft t tn tk t_a0 (by omega) (by omega) t_y0 (by omega) (by omega) (by omega) (by omega) (by omega) (by omega) (by omega) htb x_v540 t_tk hU7 (by omega) (hO.sub (by decide))) kw_622 kw_624 ks_5 kw_4 kw_625 (by decide +kernel) ⟨Nat.le_of_ble_eq_true rfl, Nat.le_of_ble_eq_true rfl⟩ (HT.recv (ci := 3) hkb hH t_a0 (hO.no t_a0 (by decide)) rfl) rfl rfl hl.1 (Nat.le_of_ble_eq_true rfl) dX3_readUnit_64 ⟨Nat.le_of_ble_eq_true rfl, Nat.le_of_ble_eq_true rfl⟩) (fun v64 u H locs hz9 hH hS => ?_)
        obtain ⟨n64_0_2, n64_0_3, n64_0_4, n64_0_5, n64_0_6, n64_0_7, rfl, l_v64, u_v64, x_v640, x_v641, x_v642⟩ := hz9
        have hH : HT D cs A T (tk :: y0 :: O) ((tk, .inr (7, [.ref y0, .int y1, .int n64_0_2, .int n64_0_3, .int n64_0_4, .int n64_0_5, .int n64_0_6, .int n64_0_7])) :: (y0, .inl (cs.1, 900, .inl ft)) :: X) H := hH
        refine W.widen (k := 0) (n := 0) (Nat.le_of_ble_eq_true rfl) (Nat.le_of_ble_eq_true rfl) ?_
        refine lv_if_eq (tgt := 86) hx hb dX3_readUnit_67 (by decide) (fun c67 => ?_) (fun c67 => ?_)
        · skip
          have tc67 := f_eq (k := 0) (by decide) c67
          clear x_v640
          replace x_v641 := x_v641.resolve_left (fun q9 => q9 tc67)
          refine lv_iconst (v := 0) hx hb dX3_readUnit_86 (by decide) ?_
          have z9_0 : (0 : Int32).toInt = 0 := by decide
          exact te_z hx hb hr hlocks (by rfl) hH hS (⟨n64_0_2, n64_0_3, n64_0_4, n64_0_5, n64_0_6, n64_0_7, rfl, by decide, by decide, Or.inl (by decide), (Or.inr (by first | (refine BL_f (fun _ _ => st_uND ?_) x_v140 (by decide) x_v141 ?_ <;> omega) | (refine g20.bd x_v241) | (refine BL_f (fun _ _ => st_uBD ?_) x_v540 (by decide) x_v541 ?_ <;> omega) | (refine g60.bd (BL.cons x_v641)) | (refine g70.bd (BL_f (fun _ _ => st_xN x_v761.1) x_v761.2.1 (by decide) x_v761.2.2 ?_); omega) | (refine g88.bd (BL.cons x_v901)) | (refine g98.bd (BL_f (fun _ _ => st_cN ?_) x_v1580 (by decide) x_v1581 ?_) <;> omega) | (refine g169.bd x_v1711))), (by omega)⟩) dX3_readUnit_87
        · skip
          have tc67 := f_ne (k := 0) (by decide) c67
          replace x_v640 := x_v640.resolve_left tc67
          clear x_v641
          have g70 := g60.tr (GL.cons x_v640.2.2.2)
          refine lv_aload_n hx hb dX3_readUnit_70 rfl (lv_at hl 0 rfl) ?_
          refine t_get (ci := 3) (lst := ft3 0 0) (C := RX3) (F := TX3) (N := 3) hx hb hts uX3 hown hkb hH t_a0 (hO.no t_a0 (by decide)) (fun _ h9 => h9) rfl rfl 0 (by decide) rfl kw_82 (fun _ h9 => h9) dX3_readUnit_71 (fun v9 h9 => ?_)
          obtain ⟨v71, rfl, t_v71⟩ := h9
          have e9 := (hU7 _ _ t_v71).symm
          subst e9
          refine lv_bipush (v := 93) hx hb dX3_readUnit_74 (by decide) ?_
          have z9_93 : (93 : Int32).toInt = 93 := by decide
          refine tk_i hH hS hA (tr_V (n := 1) (As := [.int 93]) hx hb hml hown hts hkb hH (ox_map hOX rfl) hks hE hS hA (s_Tok_takeSign l D cs kf T O X tk (93) y0 y1 n64_0_2 n64_0_3 n64_0_4 n64_0_5 n64_0_6 n64_0_7 ft t tn 38 t_tk t_y0 (by omega) (by omega) (by omega) (by omega) (by omega) (by omega) (by omega) htb x_v640.1 (by decide) (by decide) (hO.sub (by decide))) kw_647 kw_611 kw_612 kw_3 kw_613 (by decide +kernel) ⟨Nat.le_of_ble_eq_true rfl, Nat.le_of_ble_eq_true rfl⟩ (x_recv (ci := 7) hkb hH 0 rfl rfl) rfl rfl hl.1 (Nat.le_of_ble_eq_true rfl) dX3_readUnit_76 ⟨Nat.le_of_ble_eq_true rfl, Nat.le_of_ble_eq_true rfl⟩) (fun v76 u H locs hz9 hH hS => ?_)
          obtain ⟨n76_0_2, n76_0_3, n76_0_4, n76_0_5, n76_0_6, n76_0_7, rfl, l_v76, u_v76, x_v760, x_v761, x_v762⟩ := hz9
          have hH : HT D cs A T (tk :: y0 :: O) ((tk, .inr (7, [.ref y0, .int y1, .int n76_0_2, .int n76_0_3, .int n76_0_4, .int n76_0_5, .int n76_0_6, .int n76_0_7])) :: (y0, .inl (cs.1, 900, .inl ft)) :: X) H := hH
          refine W.widen (k := 0) (n := 0) (Nat.le_of_ble_eq_true rfl) (Nat.le_of_ble_eq_true rfl) ?_
          refine lv_if_eq (tgt := 86) hx hb dX3_readUnit_79 (by decide) (fun c79 => ?_) (fun c79 => ?_)
          · skip
            have tc79 := f_eq (k := 0) (by decide) c79
            clear x_v760
            replace x_v761 := x_v761.resolve_left (fun q9 => q9 tc79)
            refine lv_iconst (v := 0) hx hb dX3_readUnit_86 (by decide) ?_
            have z9_0 : (0 : Int32).toInt = 0 := by decide
            exact te_z hx hb hr hlocks (by rfl) hH hS (⟨n76_0_2, n76_0_3, n76_0_4, n76_0_5, n76_0_6, n76_0_7, rfl, by decide, by decide, Or.inl (by decide), (Or.inr (by first | (refine BL_f (fun _ _ => st_uND ?_) x_v140 (by decide) x_v141 ?_ <;> omega) | (refine g20.bd x_v241) | (refine BL_f (fun _ _ => st_uBD ?_) x_v540 (by decide) x_v541 ?_ <;> omega) | (refine g60.bd (BL.cons x_v641)) | (refine g70.bd (BL_f (fun _ _ => st_xN x_v761.1) x_v761.2.1 (by decide) x_v761.2.2 ?_); omega) | (refine g88.bd (BL.cons x_v901)) | (refine g98.bd (BL_f (fun _ _ => st_cN ?_) x_v1580 (by decide) x_v1581 ?_) <;> omega) | (refine g169.bd x_v1711))), (by omega)⟩) dX3_readUnit_87
          · skip
            have tc79 := f_ne (k := 0) (by decide) c79
            replace x_v760 := x_v760.resolve_left tc79
            clear x_v761
            refine lv_iconst (v := 1) hx hb dX3_readUnit_82 (by decide) ?_
            refine lv_goto (tgt := 87) hx hb dX3_readUnit_83 (by decide) ?_
            have z9_1 : (1 : Int32).toInt = 1 := by decide
            exact te_z hx hb hr hlocks (by rfl) hH hS (⟨n76_0_2, n76_0_3, n76_0_4, n76_0_5, n76_0_6, n76_0_7, rfl, by decide, by decide, (Or.inr ⟨x_v760.1, by omega, by omega, (by first | (refine g20.tr x_v240.2.2.2) | (refine g70.tr (GL_nx (fun _ _ => st_xY x_v760.2.2.1) x_v760.2.1)) | (refine g169.tr x_v1710.2.2.2))⟩), Or.inl (by decide), (by omega)⟩) dX3_readUnit_87
  · skip
    have tc9 := f_ne (k := 0) (by decide) c9
    replace x_v60 := x_v60.resolve_left tc9
    clear x_v61
    refine lv_aload_n hx hb dX3_readUnit_12 rfl (lv_at hl 0 rfl) ?_
    refine lv_iload_n hx hb dX3_readUnit_13 rfl (lv_at hl 1 rfl) ?_
    refine tk_i hH hS hA (tr_V (n := 1) (As := [.int x1]) hx hb hml hown hts hkb hH (ox_map hOX rfl) hks hE hS hA (s_LR_enter5 l D cs kf T O X a0 x1 y0 y1 y2 y3 y4 y5 y6 y7 ft t tn tk t_a0 (by omega) (by omega) t_y0 (by omega) (by omega) (by omega) (by omega) (by omega) (by omega) (by omega) htb hto t_tk hU7 (hO.sub (by decide))) kw_636 kw_638 ks_8 kw_4 kw_639 (by decide +kernel) ⟨Nat.le_of_ble_eq_true rfl, Nat.le_of_ble_eq_true rfl⟩ (HT.recv (ci := 3) hkb hH t_a0 (hO.no t_a0 (by decide)) rfl) rfl rfl hl.1 (Nat.le_of_ble_eq_true rfl) dX3_readUnit_14 ⟨Nat.le_of_ble_eq_true rfl, Nat.le_of_ble_eq_true rfl⟩) (fun v14 u H locs hz9 hH hS => ?_)
    obtain ⟨n14_0_2, n14_0_3, n14_0_4, n14_0_5, rfl, l_v14, u_v14, x_v140, x_v141, x_v142⟩ := hz9
    have hH : HT D cs A T (tk :: y0 :: O) ((tk, .inr (7, [.ref y0, .int y1, .int n14_0_2, .int n14_0_3, .int n14_0_4, .int n14_0_5, .int y6, .int y7])) :: (y0, .inl (cs.1, 900, .inl ft)) :: X) H := hH
    refine W.widen (k := 0) (n := 0) (Nat.le_of_ble_eq_true rfl) (Nat.le_of_ble_eq_true rfl) ?_
    refine lv_if_eq (tgt := 30) hx hb dX3_readUnit_17 (by decide) (fun c17 => ?_) (fun c17 => ?_)
    · skip
      have tc17 := f_eq (k := 0) (by decide) c17
      exfalso; omega
    · skip
      have tc17 := f_ne (k := 0) (by decide) c17
      have g20 : GL t tn [(5, 5)] [(5, 6)] y2 n14_0_2 := GL_nx (fun _ _ => st_uN (by omega) (by decide)) x_v141
      refine lv_aload_n hx hb dX3_readUnit_20 rfl (lv_at hl 0 rfl) ?_
      refine lv_iload_n hx hb dX3_readUnit_21 rfl (lv_at hl 1 rfl) ?_
      refine lv_iconst (v := 1) hx hb dX3_readUnit_22 (by decide) ?_
      refine lv_iadd hx hb dX3_readUnit_23 ?_
      refine lv_topi (fun v23 ev23 => ?_)
      have tv23 : v23.toInt = x1.toInt + (1) := by rw [ev23]; exact add_i rfl (by decide : (1 : Int32).toInt = 1) (by omega) (by omega)
      refine tk_i hH hS hA (tr_V (n := 1) (As := [.int v23]) hx hb hml hown hts hkb hH (ox_map hOX rfl) hks hE hS hA (s_LR_readUnit6 l D cs kf T O X a0 v23 y0 y1 n14_0_2 n14_0_3 n14_0_4 n14_0_5 y6 y7 ft t tn tk t_a0 (by omega) (by omega) t_y0 (by omega) (by omega) (by omega) (by omega) (by omega) (by omega) (by omega) htb x_v140 t_tk hU7 (by omega) (hO.sub (by decide))) kw_630 kw_632 ks_7 kw_4 kw_633 (by decide +kernel) ⟨Nat.le_of_ble_eq_true rfl, Nat.le_of_ble_eq_true rfl⟩ (HT.recv (ci := 3) hkb hH t_a0 (hO.no t_a0 (by decide)) rfl) rfl rfl hl.1 (Nat.le_of_ble_eq_true rfl) dX3_readUnit_24 ⟨Nat.le_of_ble_eq_true rfl, Nat.le_of_ble_eq_true rfl⟩) (fun v24 u H locs hz9 hH hS => ?_)
      obtain ⟨n24_0_2, n24_0_3, n24_0_4, n24_0_5, n24_0_6, n24_0_7, rfl, l_v24, u_v24, x_v240, x_v241, x_v242⟩ := hz9
      have hH : HT D cs A T (tk :: y0 :: O) ((tk, .inr (7, [.ref y0, .int y1, .int n24_0_2, .int n24_0_3, .int n24_0_4, .int n24_0_5, .int n24_0_6, .int n24_0_7])) :: (y0, .inl (cs.1, 900, .inl ft)) :: X) H := hH
      refine W.widen (k := 0) (n := 0) (Nat.le_of_ble_eq_true rfl) (Nat.le_of_ble_eq_true rfl) ?_
      refine lv_if_ne (tgt := 32) hx hb dX3_readUnit_27 (by decide) (fun c27 => ?_) (fun c27 => ?_)
      · skip
        have tc27 := f_ne (k := 0) (by decide) c27
        replace x_v240 := x_v240.resolve_left tc27
        clear x_v241
        refine lv_aload_n hx hb dX3_readUnit_32 rfl (lv_at hl 0 rfl) ?_
        refine lv_iconst (v := 2) hx hb dX3_readUnit_33 (by decide) ?_
        refine lv_iconst (v := 0) hx hb dX3_readUnit_34 (by decide) ?_
        refine tk_v hH hS hA (tr_V (n := 2) (As := [.int 2, .int 0]) hx hb hml hown hts hkb hH (ox_map hOX rfl) hks hE hS hA (s_LR_put l D cs kf T (tk :: y0 :: O) ((tk, .inr (7, [.ref y0, .int y1, .int n24_0_2, .int n24_0_3, .int n24_0_4, .int n24_0_5, .int n24_0_6, .int n24_0_7])) :: (y0, .inl (cs.1, 900, .inl ft)) :: X) a0 (2) (0) t_a0 (hO.sub (by decide))) kw_642 kw_644 ks_9 kw_4 kw_645 (by decide +kernel) ⟨Nat.le_of_ble_eq_true rfl, Nat.le_of_ble_eq_true rfl⟩ (HT.recv (ci := 3) hkb hH t_a0 (hO.no t_a0 (by decide)) rfl) rfl rfl hl.1 (Nat.le_of_ble_eq_true rfl) dX3_readUnit_35 ⟨Nat.le_of_ble_eq_true rfl, Nat.le_of_ble_eq_true rfl⟩) (fun u H locs hz9 hH hS => ?_)
        have hz9 : u = (T, tk :: y0 :: O, (tk, .inr (7, [.ref y0, .int y1, .int n24_0_2, .int n24_0_3, .int n24_0_4, .int n24_0_5, .int n24_0_6, .int n24_0_7])) :: (y0, .inl (cs.1, 900, .inl ft)) :: X) := hz9
        subst hz9
        have hH : HT D cs A T (tk :: y0 :: O) ((tk, .inr (7, [.ref y0, .int y1, .int n24_0_2, .int n24_0_3, .int n24_0_4, .int n24_0_5, .int n24_0_6, .int n24_0_7])) :: (y0, .inl (cs.1, 900, .inl ft)) :: X) H := hH
        refine W.widen (k := 0) (n := 0) (Nat.le_of_ble_eq_true rfl) (Nat.le_of_ble_eq_true rfl) ?_
        refine lv_iconst (v := 1) hx hb dX3_readUnit_38 (by decide) ?_
        have z9_1 : (1 : Int32).toInt = 1 := by decide
        exact te_z hx hb hr hlocks (by rfl) hH hS (⟨n24_0_2, n24_0_3, n24_0_4, n24_0_5, n24_0_6, n24_0_7, rfl, by decide, by decide, (Or.inr ⟨x_v240.1, by omega, by omega, (by first | (refine g20.tr x_v240.2.2.2) | (refine g70.tr (GL_nx (fun _ _ => st_xY x_v760.2.2.1) x_v760.2.1)) | (refine g169.tr x_v1710.2.2.2))⟩), Or.inl (by decide), (by omega)⟩) dX3_readUnit_39
      · skip
        have tc27 := f_eq (k := 0) (by decide) c27
        clear x_v240
        replace x_v241 := x_v241.resolve_left (fun q9 => q9 tc27)
        refine lv_iconst (v := 0) hx hb dX3_readUnit_30 (by decide) ?_
        have z9_0 : (0 : Int32).toInt = 0 := by decide
        exact te_z hx hb hr hlocks (by rfl) hH hS (⟨n24_0_2, n24_0_3, n24_0_4, n24_0_5, n24_0_6, n24_0_7, rfl, by decide, by decide, Or.inl (by decide), (Or.inr (by first | (refine BL_f (fun _ _ => st_uND ?_) x_v140 (by decide) x_v141 ?_ <;> omega) | (refine g20.bd x_v241) | (refine BL_f (fun _ _ => st_uBD ?_) x_v540 (by decide) x_v541 ?_ <;> omega) | (refine g60.bd (BL.cons x_v641)) | (refine g70.bd (BL_f (fun _ _ => st_xN x_v761.1) x_v761.2.1 (by decide) x_v761.2.2 ?_); omega) | (refine g88.bd (BL.cons x_v901)) | (refine g98.bd (BL_f (fun _ _ => st_cN ?_) x_v1580 (by decide) x_v1581 ?_) <;> omega) | (refine g169.bd x_v1711))), (by omega)⟩) dX3_readUnit_31
set_option maxHeartbeats 4000000 in
set_option maxRecDepth 100000 in
theorem s_LR_readBoth5 (l : Launch) (D : va_G) (cs : CS) (kf : KF) (T : TF) (O : List Nat) (X : va_W) (a0 : Nat) (x1 : Int32) (y0 : Nat) (y1 : Int32) (y2 : Int32) (y3 : Int32) (y4 : Int32) (y5 : Int32) (y6 : Int32) (y7 : Int32) (ft : Nat → Int32) (t : Tp) (tn : Nat) (tk : Nat) (t_a0 : T a0 = some (13, 0, 0)) (l_x1 : 5 ≤ x1.toInt) (u_x1 : x1.toInt ≤ 5) (t_y0 : T y0 = some (0, 900, 0)) (l_y1 : 0 ≤ y1.toInt) (u_y1 : y1.toInt ≤ 900) (l_y2 : 0 ≤ y2.toInt) (u_y2 : y2.toInt ≤ 900) (l_y3 : 0 ≤ y3.toInt) (u_y3 : y3.toInt ≤ 900) (hn : y1.toInt = (tn : Int)) (htb : TB ft t) (hto : TSS t tn y2 y3 y4 y5) (t_tk : T tk = some (17, 0, 0)) (hU7 : ∀ (b : Nat) (q : Nat), T b = some (17, 0, q) → b = tk) (hz : y6.toInt = 0) (hO : okO T (tk :: y0 :: O) [1, 13]) : TK l D cs kf yX3_readBoth cX3_readBoth 5 (some (.boolean)) { frames := 13, cells := 0, slots := 0, locals := 288 } [.ref a0, .int x1] T (tk :: y0 :: O) ((tk, .inr (7, [.ref y0, .int y1, .int y2, .int y3, .int y4, .int y5, .int y6, .int y7])) :: (y0, .inl (cs.1, 900, .inl ft)) :: X) (Ti D cs (fun r u => ∃ (n0_2 : Int32) (n0_3 : Int32) (n0_4 : Int32) (n0_5 : Int32) (n0_6 : Int32) (n0_7 : Int32), u = (T, tk :: y0 :: O, (tk, .inr (7, [.ref y0, .int y1, .int n0_2, .int n0_3, .int n0_4, .int n0_5, .int n0_6, .int n0_7])) :: (y0, .inl (cs.1, 900, .inl ft)) :: X) ∧ 0 ≤ r.toInt ∧ r.toInt ≤ 1 ∧ (r.toInt = 0 ∨ (TSS t tn n0_2 n0_3 n0_4 n0_5 ∧ n0_6.toInt = 0 ∧ n0_7.toInt = y7.toInt ∧ GL t tn [(6, 5)] [] y2 n0_2)) ∧ (r.toInt ≠ 0 ∨ BL t tn [(6, 5)] y2 n0_6 n0_7) ∧ (y2.toInt ≤ n0_2.toInt ∧ n0_2.toInt ≤ n0_3.toInt ∧ n0_3.toInt ≤ y1.toInt))) := by
  refine tk_of (by decide) (Nat.le_of_ble_eq_true rfl) (fun p e s m below meth c ls A H locs hx hb hr hml hown hts hlocks hnm hkb hH hS hA hOX hks hE hl => ?_)
  have hown : s.vm.findClass RX3 = some m.cls := hown
  have hl : lv_has ls 5 [(0, .ref a0), (1, .int x1)] := hl
  have hOXf := hOX
  have hb9 := hto.b
  have hc9 := hto.cs
  refine lv_aload_n hx hb dX3_readBoth_0 rfl (lv_at hl 0 rfl) ?_
  refine lv_iload_n hx hb dX3_readBoth_1 rfl (lv_at hl 1 rfl) ?_
  refine tk_i hH hS hA (tr_V (n := 1) (As := [.int x1]) hx hb hml hown hts hkb hH (ox_map hOX rfl) hks hE hS hA (s_LR_readUnit5 l D cs kf T O X a0 x1 y0 y1 y2 y3 y4 y5 y6 y7 ft t tn tk t_a0 (by omega) (by omega) t_y0 (by omega) (by omega) (by omega) (by omega) (by omega) (by omega) (by omega) htb hto t_tk hU7 (by omega) (hO.sub (by decide))) kw_630 kw_632 ks_7 kw_4 kw_633 (by decide +kernel) ⟨Nat.le_of_ble_eq_true rfl, Nat.le_of_ble_eq_true rfl⟩ (HT.recv (ci := 3) hkb hH t_a0 (hO.no t_a0 (by decide)) rfl) rfl rfl hl.1 (Nat.le_of_ble_eq_true rfl) dX3_readBoth_2 ⟨Nat.le_of_ble_eq_true rfl, Nat.le_of_ble_eq_true rfl⟩) (fun v2 u H locs hz9 hH hS => ?_)
  obtain ⟨n2_0_2, n2_0_3, n2_0_4, n2_0_5, n2_0_6, n2_0_7, rfl, l_v2, u_v2, x_v20, x_v21, x_v22⟩ := hz9
  have hH : HT D cs A T (tk :: y0 :: O) ((tk, .inr (7, [.ref y0, .int y1, .int n2_0_2, .int n2_0_3, .int n2_0_4, .int n2_0_5, .int n2_0_6, .int n2_0_7])) :: (y0, .inl (cs.1, 900, .inl ft)) :: X) H := hH
  refine W.widen (k := 0) (n := 0) (Nat.le_of_ble_eq_true rfl) (Nat.le_of_ble_eq_true rfl) ?_
  refine lv_istore_n (lv' := [(2, .int v2), (0, .ref a0), (1, .int x1)]) hx hb dX3_readBoth_5 rfl hl (by decide) rfl (fun ls hl => ?_)
  refine lv_iconst (v := 0) hx hb dX3_readBoth_6 (by decide) ?_
  have J8 : ∀ (n : Nat) (p8_3 : Int32) (p8_2 : Int32) (f8_102 : Int32) (f8_103 : Int32) (f8_104 : Int32) (f8_105 : Int32) (f8_106 : Int32) (f8_107 : Int32) (H : Heap) (locs : List Loc) (ls : Array Slot), (900 - p8_3.toInt).toNat = n → (0 ≤ p8_3.toInt) → (p8_3.toInt ≤ 900) → (0 ≤ p8_2.toInt) → (p8_2.toInt ≤ 1) → (0 ≤ f8_102.toInt) → (f8_102.toInt ≤ 900) → (0 ≤ f8_103.toInt) → (f8_103.toInt ≤ 900) → (LTI t tn [(6, 5)] [(7, 5)] y2 p8_2 f8_102 f8_103 f8_104 f8_105 f8_106 f8_107 y7) → (y2.toInt ≤ f8_102.toInt ∧ f8_102.toInt ≤ f8_103.toInt ∧ f8_103.toInt ≤ y1.toInt) → (p8_2.toInt = 0 ∨ p8_3.toInt ≤ f8_102.toInt) → HT D cs A T (tk :: y0 :: O) ((tk, .inr (7, [.ref y0, .int y1, .int f8_102, .int f8_103, .int f8_104, .int f8_105, .int f8_106, .int f8_107])) :: (y0, .inl (cs.1, 900, .inl ft)) :: X) H → va_S A s.heap H locs → lv_has ls 5 [(3, .int p8_3), (2, .int p8_2), (0, .ref a0), (1, .int x1)] → W p l e { frames := 13, cells := 0, slots := 0, locals := 288 } s m [.ref a0, .int x1].toArray below meth c H locs 0 0 (MQ below (Ti D cs (fun r u => ∃ (n0_2 : Int32) (n0_3 : Int32) (n0_4 : Int32) (n0_5 : Int32) (n0_6 : Int32) (n0_7 : Int32), u = (T, tk :: y0 :: O, (tk, .inr (7, [.ref y0, .int y1, .int n0_2, .int n0_3, .int n0_4, .int n0_5, .int n0_6, .int n0_7])) :: (y0, .inl (cs.1, 900, .inl ft)) :: X) ∧ 0 ≤ r.toInt ∧ r.toInt ≤ 1 ∧ (r.toInt = 0 ∨ (TSS t tn n0_2 n0_3 n0_4 n0_5 ∧ n0_6.toInt = 0 ∧ n0_7.toInt = y7.toInt ∧ GL t tn [(6, 5)] [] y2 n0_2)) ∧ (r.toInt ≠ 0 ∨ BL t tn [(6, 5)] y2 n0_6 n0_7) ∧ (y2.toInt ≤ n0_2.toInt ∧ n0_2.toInt ≤ n0_3.toInt ∧ n0_3.toInt ≤ y1.toInt)) A) [.ref a0, .int x1].toArray s 0 0 A) (F0 m 8 ls []) := by
    intro n
    induction n using Nat.strongRecOn with
    | _ n ih8 =>
      intro p8_3 p8_2 f8_102 f8_103 f8_104 f8_105 f8_106 f8_107 H locs ls hm8 l_p8_3 u_p8_3 l_p8_2 u_p8_2 l_f8_102 u_f8_102 l_f8_103 u_f8_103 i8t i8n i8c hH hS hl
      refine lv_iload_n hx hb dX3_readBoth_8 rfl (lv_at hl 0 rfl) ?_
      refine lv_sipush (v := 900) hx hb dX3_readBoth_9 (by decide) ?_
      refine lv_icmp_ge (tgt := 68) hx hb dX3_readBoth_12 (by decide) (fun c12 => ?_) (fun c12 => ?_)
      · skip
        have tc12 := f_ge (k := 900) (by decide) c12
        have hk9 : p8_2.toInt = 0 ∨ GL t tn [(7, 5)] [] f8_102 f8_102 := by first | (refine Or.inl ?_; omega) | exact Or.inr (fun _ _ => st_bN x_v251) | (by_cases q9 : p8_2.toInt = 0; exact Or.inl q9; refine Or.inr (fun _ _ => st_bN ?_); have q8 := LTI.ok i8t q9; have q7 := q8.1.b; rw [kd_end (by omega)]; decide)
        have hz9 := LTI.en i8t hk9
        refine lv_iload_n hx hb dX3_readBoth_68 rfl (lv_at hl 1 rfl) ?_
        exact te_z hx hb hr hlocks (nar01 (by omega) (by omega)) hH hS (⟨f8_102, f8_103, f8_104, f8_105, f8_106, f8_107, rfl, by omega, by omega, hz9.1, hz9.2, (by omega)⟩) dX3_readBoth_69
      · skip
        have tc12 := f_nge (k := 900) (by decide) c12
        refine lv_iload_n hx hb dX3_readBoth_15 rfl (lv_at hl 1 rfl) ?_
        refine lv_if_eq (tgt := 68) hx hb dX3_readBoth_16 (by decide) (fun c16 => ?_) (fun c16 => ?_)
        · skip
          have tc16 := f_eq (k := 0) (by decide) c16
          have hk9 : p8_2.toInt = 0 ∨ GL t tn [(7, 5)] [] f8_102 f8_102 := by first | (refine Or.inl ?_; omega) | exact Or.inr (fun _ _ => st_bN x_v251) | (by_cases q9 : p8_2.toInt = 0; exact Or.inl q9; refine Or.inr (fun _ _ => st_bN ?_); have q8 := LTI.ok i8t q9; have q7 := q8.1.b; rw [kd_end (by omega)]; decide)
          have hz9 := LTI.en i8t hk9
          refine lv_iload_n hx hb dX3_readBoth_68 rfl (lv_at hl 1 rfl) ?_
          exact te_z hx hb hr hlocks (nar01 (by omega) (by omega)) hH hS (⟨f8_102, f8_103, f8_104, f8_105, f8_106, f8_107, rfl, by omega, by omega, hz9.1, hz9.2, (by omega)⟩) dX3_readBoth_69
        · skip
          have tc16 := f_ne (k := 0) (by decide) c16
          have h19 := LTI.ok i8t (by omega)
          have hb19 := h19.1.b
          have hc19 := h19.1.cs
          refine lv_aload_n hx hb dX3_readBoth_19 rfl (lv_at hl 2 rfl) ?_
          refine t_get (ci := 3) (lst := ft3 0 0) (C := RX3) (F := TX3) (N := 3) hx hb hts uX3 hown hkb hH t_a0 (hO.no t_a0 (by decide)) (fun _ h9 => h9) rfl rfl 0 (by decide) rfl kw_82 (fun _ h9 => h9) dX3_readBoth_20 (fun v9 h9 => ?_)
          obtain ⟨v20, rfl, t_v20⟩ := h9
          have e9 := (hU7 _ _ t_v20).symm
          subst e9
          refine va_ldcS (q := kf.1 15) hx hb hown (hks ("FootholdWall$LawReader", 63, "and", 15) (by decide +kernel)) dX3_readBoth_23 ?_
          refine tk_i hH hS hA (tr_V (n := 1) (As := [.ref (kf.1 15)]) hx hb hml hown hts hkb hH (ox_map hOX rfl) hks hE hS hA (s_Tok_isWord l D cs kf T O X tk 15 y0 y1 f8_102 f8_103 f8_104 f8_105 f8_106 f8_107 ft t tn 14 t_tk (by decide) t_y0 (by omega) (by omega) (by omega) (by omega) (by omega) (by omega) (by omega) htb h19.1 (by decide) (by decide) (hO.sub (by decide))) kw_635 kw_551 kw_552 kw_3 kw_553 (by decide +kernel) ⟨Nat.le_of_ble_eq_true rfl, Nat.le_of_ble_eq_true rfl⟩ (x_recv (ci := 7) hkb hH 0 rfl rfl) rfl rfl hl.1 (Nat.le_of_ble_eq_true rfl) dX3_readBoth_25 ⟨Nat.le_of_ble_eq_true rfl, Nat.le_of_ble_eq_true rfl⟩) (fun v25 u H locs hz9 hH hS => ?_)
          obtain ⟨rfl, l_v25, u_v25, x_v250, x_v251⟩ := hz9
          have hH : HT D cs A T (tk :: y0 :: O) ((tk, .inr (7, [.ref y0, .int y1, .int f8_102, .int f8_103, .int f8_104, .int f8_105, .int f8_106, .int f8_107])) :: (y0, .inl (cs.1, 900, .inl ft)) :: X) H := hH
          refine W.widen (k := 0) (n := 0) (Nat.le_of_ble_eq_true rfl) (Nat.le_of_ble_eq_true rfl) ?_
          refine lv_if_eq (tgt := 68) hx hb dX3_readBoth_28 (by decide) (fun c28 => ?_) (fun c28 => ?_)
          · skip
            have tc28 := f_eq (k := 0) (by decide) c28
            clear x_v250
            replace x_v251 := x_v251.resolve_left (fun q9 => q9 tc28)
            have hk9 : p8_2.toInt = 0 ∨ GL t tn [(7, 5)] [] f8_102 f8_102 := by first | (refine Or.inl ?_; omega) | exact Or.inr (fun _ _ => st_bN x_v251) | (by_cases q9 : p8_2.toInt = 0; exact Or.inl q9; refine Or.inr (fun _ _ => st_bN ?_); have q8 := LTI.ok i8t q9; have q7 := q8.1.b; rw [kd_end (by omega)]; decide)
            have hz9 := LTI.en i8t hk9
            refine lv_iload_n hx hb dX3_readBoth_68 rfl (lv_at hl 1 rfl) ?_
            exact te_z hx hb hr hlocks (nar01 (by omega) (by omega)) hH hS (⟨f8_102, f8_103, f8_104, f8_105, f8_106, f8_107, rfl, by omega, by omega, hz9.1, hz9.2, (by omega)⟩) dX3_readBoth_69
          · skip
            have tc28 := f_ne (k := 0) (by decide) c28
            replace x_v250 := x_v250.resolve_left tc28
            clear x_v251
            refine lv_aload_n hx hb dX3_readBoth_31 rfl (lv_at hl 2 rfl) ?_
            refine t_get (ci := 3) (lst := ft3 0 0) (C := RX3) (F := TX3) (N := 3) hx hb hts uX3 hown hkb hH t_a0 (hO.no t_a0 (by decide)) (fun _ h9 => h9) rfl rfl 0 (by decide) rfl kw_82 (fun _ h9 => h9) dX3_readBoth_32 (fun v9 h9 => ?_)
            obtain ⟨v32, rfl, t_v32⟩ := h9
            have e9 := (hU7 _ _ t_v32).symm
            subst e9
            have hl9 := h19.1.lt (by omega)
            refine tk_v hH hS hA (tr_V (n := 0) (As := []) hx hb hml hown hts hkb hH (ox_map hOX rfl) hks hE hS hA (s_Tok_go l D cs kf T O X tk y0 y1 f8_102 f8_103 f8_104 f8_105 f8_106 f8_107 ft t tn t_tk t_y0 (by omega) (by omega) (by omega) (by omega) (by omega) (by omega) (by omega) htb (by have q9 := (h19.1).b; omega) (hO.sub (by decide))) kw_641 kw_453 kw_454 kw_3 kw_455 (by decide +kernel) ⟨Nat.le_of_ble_eq_true rfl, Nat.le_of_ble_eq_true rfl⟩ (x_recv (ci := 7) hkb hH 0 rfl rfl) rfl rfl hl.1 (Nat.le_of_ble_eq_true rfl) dX3_readBoth_35 ⟨Nat.le_of_ble_eq_true rfl, Nat.le_of_ble_eq_true rfl⟩) (fun u H locs hz9 hH hS => ?_)
            obtain ⟨n35_0_2, n35_0_3, n35_0_4, n35_0_5, rfl, x_v350, x_v351, x_v352⟩ := hz9
            have px35 := TSS.nx h19.1 x_v351
            have hH : HT D cs A T (tk :: y0 :: O) ((tk, .inr (7, [.ref y0, .int y1, .int n35_0_2, .int n35_0_3, .int n35_0_4, .int n35_0_5, .int f8_106, .int f8_107])) :: (y0, .inl (cs.1, 900, .inl ft)) :: X) H := hH
            refine W.widen (k := 0) (n := 0) (Nat.le_of_ble_eq_true rfl) (Nat.le_of_ble_eq_true rfl) ?_
            refine lv_aload_n hx hb dX3_readBoth_38 rfl (lv_at hl 2 rfl) ?_
            refine t_get (ci := 3) (lst := ft3 0 0) (C := RX3) (F := TX3) (N := 3) hx hb hts uX3 hown hkb hH t_a0 (hO.no t_a0 (by decide)) (fun _ h9 => h9) rfl rfl 2 (by decide) rfl kw_84 (fun _ h9 => h9) dX3_readBoth_39 (fun v9 h9 => ?_)
            obtain ⟨v39, rfl, l_v39, u_v39⟩ := h9
            refine lv_istore (lv' := [(4, .int v39), (3, .int p8_3), (2, .int p8_2), (0, .ref a0), (1, .int x1)]) hx hb dX3_readBoth_42 hl (by decide) rfl (fun ls hl => ?_)
            refine lv_aload_n hx hb dX3_readBoth_44 rfl (lv_at hl 3 rfl) ?_
            refine lv_iconst (v := 3) hx hb dX3_readBoth_45 (by decide) ?_
            refine lv_iconst (v := 0) hx hb dX3_readBoth_46 (by decide) ?_
            refine tk_v hH hS hA (tr_V (n := 2) (As := [.int 3, .int 0]) hx hb hml hown hts hkb hH (ox_map hOX rfl) hks hE hS hA (s_LR_put l D cs kf T (tk :: y0 :: O) ((tk, .inr (7, [.ref y0, .int y1, .int n35_0_2, .int n35_0_3, .int n35_0_4, .int n35_0_5, .int f8_106, .int f8_107])) :: (y0, .inl (cs.1, 900, .inl ft)) :: X) a0 (3) (0) t_a0 (hO.sub (by decide))) kw_642 kw_644 ks_9 kw_4 kw_645 (by decide +kernel) ⟨Nat.le_of_ble_eq_true rfl, Nat.le_of_ble_eq_true rfl⟩ (HT.recv (ci := 3) hkb hH t_a0 (hO.no t_a0 (by decide)) rfl) rfl rfl hl.1 (Nat.le_of_ble_eq_true rfl) dX3_readBoth_47 ⟨Nat.le_of_ble_eq_true rfl, Nat.le_of_ble_eq_true rfl⟩) (fun u H locs hz9 hH hS => ?_)
            have hz9 : u = (T, tk :: y0 :: O, (tk, .inr (7, [.ref y0, .int y1, .int n35_0_2, .int n35_0_3, .int n35_0_4, .int n35_0_5, .int f8_106, .int f8_107])) :: (y0, .inl (cs.1, 900, .inl ft)) :: X) := hz9
            subst hz9
            have hH : HT D cs A T (tk :: y0 :: O) ((tk, .inr (7, [.ref y0, .int y1, .int n35_0_2, .int n35_0_3, .int n35_0_4, .int n35_0_5, .int f8_106, .int f8_107])) :: (y0, .inl (cs.1, 900, .inl ft)) :: X) H := hH
            refine W.widen (k := 0) (n := 0) (Nat.le_of_ble_eq_true rfl) (Nat.le_of_ble_eq_true rfl) ?_
            refine lv_aload_n hx hb dX3_readBoth_50 rfl (lv_at hl 3 rfl) ?_
            refine lv_iload_n hx hb dX3_readBoth_51 rfl (lv_at hl 4 rfl) ?_
            refine tk_i hH hS hA (tr_V (n := 1) (As := [.int x1]) hx hb hml hown hts hkb hH (ox_map hOX rfl) hks hE hS hA (s_LR_readUnit5 l D cs kf T O X a0 x1 y0 y1 n35_0_2 n35_0_3 n35_0_4 n35_0_5 f8_106 f8_107 ft t tn tk t_a0 (by omega) (by omega) t_y0 (by omega) (by omega) (by omega) (by omega) (by omega) (by omega) (by omega) htb x_v350 t_tk hU7 (by omega) (hO.sub (by decide))) kw_630 kw_632 ks_7 kw_4 kw_633 (by decide +kernel) ⟨Nat.le_of_ble_eq_true rfl, Nat.le_of_ble_eq_true rfl⟩ (HT.recv (ci := 3) hkb hH t_a0 (hO.no t_a0 (by decide)) rfl) rfl rfl hl.1 (Nat.le_of_ble_eq_true rfl) dX3_readBoth_52 ⟨Nat.le_of_ble_eq_true rfl, Nat.le_of_ble_eq_true rfl⟩) (fun v52 u H locs hz9 hH hS => ?_)
            obtain ⟨n52_0_2, n52_0_3, n52_0_4, n52_0_5, n52_0_6, n52_0_7, rfl, l_v52, u_v52, x_v520, x_v521, x_v522⟩ := hz9
            have hH : HT D cs A T (tk :: y0 :: O) ((tk, .inr (7, [.ref y0, .int y1, .int n52_0_2, .int n52_0_3, .int n52_0_4, .int n52_0_5, .int n52_0_6, .int n52_0_7])) :: (y0, .inl (cs.1, 900, .inl ft)) :: X) H := hH
            refine W.widen (k := 0) (n := 0) (Nat.le_of_ble_eq_true rfl) (Nat.le_of_ble_eq_true rfl) ?_
            refine lv_istore_n (lv' := [(2, .int v52), (4, .int v39), (3, .int p8_3), (0, .ref a0), (1, .int x1)]) hx hb dX3_readBoth_55 rfl hl (by decide) rfl (fun ls hl => ?_)
            refine lv_aload_n hx hb dX3_readBoth_56 rfl (lv_at hl 3 rfl) ?_
            refine lv_iload hx hb dX3_readBoth_57 (lv_at hl 1 rfl) ?_
            refine tk_v hH hS hA (tr_V (n := 1) (As := [.int v39]) hx hb hml hown hts hkb hH (ox_map hOX rfl) hks hE hS hA (s_LR_aimSkip l D cs kf T (tk :: y0 :: O) ((tk, .inr (7, [.ref y0, .int y1, .int n52_0_2, .int n52_0_3, .int n52_0_4, .int n52_0_5, .int n52_0_6, .int n52_0_7])) :: (y0, .inl (cs.1, 900, .inl ft)) :: X) a0 v39 t_a0 (hO.sub (by decide))) kw_672 kw_674 ks_14 kw_4 kw_675 (by decide +kernel) ⟨Nat.le_of_ble_eq_true rfl, Nat.le_of_ble_eq_true rfl⟩ (HT.recv (ci := 3) hkb hH t_a0 (hO.no t_a0 (by decide)) rfl) rfl rfl hl.1 (Nat.le_of_ble_eq_true rfl) dX3_readBoth_59 ⟨Nat.le_of_ble_eq_true rfl, Nat.le_of_ble_eq_true rfl⟩) (fun u H locs hz9 hH hS => ?_)
            have hz9 : u = (T, tk :: y0 :: O, (tk, .inr (7, [.ref y0, .int y1, .int n52_0_2, .int n52_0_3, .int n52_0_4, .int n52_0_5, .int n52_0_6, .int n52_0_7])) :: (y0, .inl (cs.1, 900, .inl ft)) :: X) := hz9
            subst hz9
            have hH : HT D cs A T (tk :: y0 :: O) ((tk, .inr (7, [.ref y0, .int y1, .int n52_0_2, .int n52_0_3, .int n52_0_4, .int n52_0_5, .int n52_0_6, .int n52_0_7])) :: (y0, .inl (cs.1, 900, .inl ft)) :: X) H := hH
            refine W.widen (k := 0) (n := 0) (Nat.le_of_ble_eq_true rfl) (Nat.le_of_ble_eq_true rfl) ?_
            obtain ⟨v62, ev62⟩ : ∃ y : Int32, y = p8_3 + 1 := ⟨_, rfl⟩
            have tv62 : v62.toInt = p8_3.toInt + (1) := by rw [ev62]; exact add_i rfl (by decide) (by omega) (by omega)
            refine lv_iinc (v := v62) (lv' := [(3, .int v62), (2, .int v52), (4, .int v39), (0, .ref a0), (1, .int x1)]) hx hb dX3_readBoth_62 hl (k := 2) rfl (by rw [ev62]; rfl) (by decide) rfl (fun ls hl => ?_)
            refine lv_goto (tgt := 8) hx hb dX3_readBoth_65 (by decide) ?_
            exact ih8 _ (by omega) v62 v52 n52_0_2 n52_0_3 n52_0_4 n52_0_5 n52_0_6 n52_0_7 _ _ _ rfl (by omega) (by omega) (by omega) (by omega) (by omega) (by omega) (by omega) (by omega) (by first | (refine LTI.st (fun _ _ => st_b) x_v20 x_v21 l_v2 u_v2 rfl) | (refine LTI.st (h19.2.2.2.tr (GL_nx (fun _ _ => st_bY x_v250) px35)) x_v520 x_v521 l_v52 u_v52 ?_; omega)) (by omega) (by omega) hH hS (lv_sub hl [0, 1, 3, 4] rfl)
  refine lv_istore_n (lv' := [(3, .int 0), (2, .int v2), (0, .ref a0), (1, .int x1)]) hx hb dX3_readBoth_7 rfl hl (by decide) rfl (fun ls hl => ?_)
  have z_0 : (0 : Int32).toInt = 0 := by decide
  exact J8 _ 0 v2 n2_0_2 n2_0_3 n2_0_4 n2_0_5 n2_0_6 n2_0_7 _ _ _ rfl (by decide) (by decide) (by omega) (by omega) (by omega) (by omega) (by omega) (by omega) (by first | (refine LTI.st (fun _ _ => st_b) x_v20 x_v21 l_v2 u_v2 rfl) | (refine LTI.st (h19.2.2.2.tr (GL_nx (fun _ _ => st_bY x_v250) px35)) x_v520 x_v521 l_v52 u_v52 ?_; omega)) (by omega) (by omega) hH hS (lv_sub hl [0, 1, 2, 3] rfl)
set_option maxHeartbeats 4000000 in
set_option maxRecDepth 100000 in
theorem s_LR_readTruth5 (l : Launch) (D : va_G) (cs : CS) (kf : KF) (T : TF) (O : List Nat) (X : va_W) (a0 : Nat) (x1 : Int32) (y0 : Nat) (y1 : Int32) (y2 : Int32) (y3 : Int32) (y4 : Int32) (y5 : Int32) (y6 : Int32) (y7 : Int32) (ft : Nat → Int32) (t : Tp) (tn : Nat) (tk : Nat) (t_a0 : T a0 = some (13, 0, 0)) (l_x1 : 5 ≤ x1.toInt) (u_x1 : x1.toInt ≤ 5) (t_y0 : T y0 = some (0, 900, 0)) (l_y1 : 0 ≤ y1.toInt) (u_y1 : y1.toInt ≤ 900) (l_y2 : 0 ≤ y2.toInt) (u_y2 : y2.toInt ≤ 900) (l_y3 : 0 ≤ y3.toInt) (u_y3 : y3.toInt ≤ 900) (hn : y1.toInt = (tn : Int)) (htb : TB ft t) (hto : TSS t tn y2 y3 y4 y5) (t_tk : T tk = some (17, 0, 0)) (hU7 : ∀ (b : Nat) (q : Nat), T b = some (17, 0, q) → b = tk) (hz : y6.toInt = 0) (hO : okO T (tk :: y0 :: O) [1, 13]) : TK l D cs kf yX3_readTruth cX3_readTruth 5 (some (.boolean)) { frames := 14, cells := 0, slots := 0, locals := 312 } [.ref a0, .int x1] T (tk :: y0 :: O) ((tk, .inr (7, [.ref y0, .int y1, .int y2, .int y3, .int y4, .int y5, .int y6, .int y7])) :: (y0, .inl (cs.1, 900, .inl ft)) :: X) (Ti D cs (fun r u => ∃ (n0_2 : Int32) (n0_3 : Int32) (n0_4 : Int32) (n0_5 : Int32) (n0_6 : Int32) (n0_7 : Int32), u = (T, tk :: y0 :: O, (tk, .inr (7, [.ref y0, .int y1, .int n0_2, .int n0_3, .int n0_4, .int n0_5, .int n0_6, .int n0_7])) :: (y0, .inl (cs.1, 900, .inl ft)) :: X) ∧ 0 ≤ r.toInt ∧ r.toInt ≤ 1 ∧ (r.toInt = 0 ∨ (TSS t tn n0_2 n0_3 n0_4 n0_5 ∧ n0_6.toInt = 0 ∧ n0_7.toInt = y7.toInt ∧ GL t tn [(8, 5)] [] y2 n0_2)) ∧ (r.toInt ≠ 0 ∨ BL t tn [(8, 5)] y2 n0_6 n0_7) ∧ (y2.toInt ≤ n0_2.toInt ∧ n0_2.toInt ≤ n0_3.toInt ∧ n0_3.toInt ≤ y1.toInt))) := by
  refine tk_of (by decide) (Nat.le_of_ble_eq_true rfl) (fun p e s m below meth c ls A H locs hx hb hr hml hown hts hlocks hnm hkb hH hS hA hOX hks hE hl => ?_)
  have hown : s.vm.findClass RX3 = some m.cls := hown
  have hl : lv_has ls 5 [(0, .ref a0), (1, .int x1)] := hl
  have hOXf := hOX
  have hb9 := hto.b
  have hc9 := hto.cs
  refine lv_aload_n hx hb dX3_readTruth_0 rfl (lv_at hl 0 rfl) ?_
  refine lv_iload_n hx hb dX3_readTruth_1 rfl (lv_at hl 1 rfl) ?_
  refine tk_i hH hS hA (tr_V (n := 1) (As := [.int x1]) hx hb hml hown hts hkb hH (ox_map hOX rfl) hks hE hS hA (s_LR_readBoth5 l D cs kf T O X a0 x1 y0 y1 y2 y3 y4 y5 y6 y7 ft t tn tk t_a0 (by omega) (by omega) t_y0 (by omega) (by omega) (by omega) (by omega) (by omega) (by omega) (by omega) htb hto t_tk hU7 (by omega) (hO.sub (by decide))) kw_626 kw_628 ks_6 kw_4 kw_629 (by decide +kernel) ⟨Nat.le_of_ble_eq_true rfl, Nat.le_of_ble_eq_true rfl⟩ (HT.recv (ci := 3) hkb hH t_a0 (hO.no t_a0 (by decide)) rfl) rfl rfl hl.1 (Nat.le_of_ble_eq_true rfl) dX3_readTruth_2 ⟨Nat.le_of_ble_eq_true rfl, Nat.le_of_ble_eq_true rfl⟩) (fun v2 u H locs hz9 hH hS => ?_)
  obtain ⟨n2_0_2, n2_0_3, n2_0_4, n2_0_5, n2_0_6, n2_0_7, rfl, l_v2, u_v2, x_v20, x_v21, x_v22⟩ := hz9
  have hH : HT D cs A T (tk :: y0 :: O) ((tk, .inr (7, [.ref y0, .int y1, .int n2_0_2, .int n2_0_3, .int n2_0_4, .int n2_0_5, .int n2_0_6, .int n2_0_7])) :: (y0, .inl (cs.1, 900, .inl ft)) :: X) H := hH
  refine W.widen (k := 0) (n := 0) (Nat.le_of_ble_eq_true rfl) (Nat.le_of_ble_eq_true rfl) ?_
  refine lv_istore_n (lv' := [(2, .int v2), (0, .ref a0), (1, .int x1)]) hx hb dX3_readTruth_5 rfl hl (by decide) rfl (fun ls hl => ?_)
  refine lv_iconst (v := 0) hx hb dX3_readTruth_6 (by decide) ?_
  have J8 : ∀ (n : Nat) (p8_3 : Int32) (p8_2 : Int32) (f8_102 : Int32) (f8_103 : Int32) (f8_104 : Int32) (f8_105 : Int32) (f8_106 : Int32) (f8_107 : Int32) (H : Heap) (locs : List Loc) (ls : Array Slot), (900 - p8_3.toInt).toNat = n → (0 ≤ p8_3.toInt) → (p8_3.toInt ≤ 900) → (0 ≤ p8_2.toInt) → (p8_2.toInt ≤ 1) → (0 ≤ f8_102.toInt) → (f8_102.toInt ≤ 900) → (0 ≤ f8_103.toInt) → (f8_103.toInt ≤ 900) → (LTI t tn [(8, 5)] [(9, 5)] y2 p8_2 f8_102 f8_103 f8_104 f8_105 f8_106 f8_107 y7) → (y2.toInt ≤ f8_102.toInt ∧ f8_102.toInt ≤ f8_103.toInt ∧ f8_103.toInt ≤ y1.toInt) → (p8_2.toInt = 0 ∨ p8_3.toInt ≤ f8_102.toInt) → HT D cs A T (tk :: y0 :: O) ((tk, .inr (7, [.ref y0, .int y1, .int f8_102, .int f8_103, .int f8_104, .int f8_105, .int f8_106, .int f8_107])) :: (y0, .inl (cs.1, 900, .inl ft)) :: X) H → va_S A s.heap H locs → lv_has ls 5 [(3, .int p8_3), (2, .int p8_2), (0, .ref a0), (1, .int x1)] → W p l e { frames := 14, cells := 0, slots := 0, locals := 312 } s m [.ref a0, .int x1].toArray below meth c H locs 0 0 (MQ below (Ti D cs (fun r u => ∃ (n0_2 : Int32) (n0_3 : Int32) (n0_4 : Int32) (n0_5 : Int32) (n0_6 : Int32) (n0_7 : Int32), u = (T, tk :: y0 :: O, (tk, .inr (7, [.ref y0, .int y1, .int n0_2, .int n0_3, .int n0_4, .int n0_5, .int n0_6, .int n0_7])) :: (y0, .inl (cs.1, 900, .inl ft)) :: X) ∧ 0 ≤ r.toInt ∧ r.toInt ≤ 1 ∧ (r.toInt = 0 ∨ (TSS t tn n0_2 n0_3 n0_4 n0_5 ∧ n0_6.toInt = 0 ∧ n0_7.toInt = y7.toInt ∧ GL t tn [(8, 5)] [] y2 n0_2)) ∧ (r.toInt ≠ 0 ∨ BL t tn [(8, 5)] y2 n0_6 n0_7) ∧ (y2.toInt ≤ n0_2.toInt ∧ n0_2.toInt ≤ n0_3.toInt ∧ n0_3.toInt ≤ y1.toInt)) A) [.ref a0, .int x1].toArray s 0 0 A) (F0 m 8 ls []) := by
    intro n
    induction n using Nat.strongRecOn with
    | _ n ih8 =>
      intro p8_3 p8_2 f8_102 f8_103 f8_104 f8_105 f8_106 f8_107 H locs ls hm8 l_p8_3 u_p8_3 l_p8_2 u_p8_2 l_f8_102 u_f8_102 l_f8_103 u_f8_103 i8t i8n i8c hH hS hl
      refine lv_iload_n hx hb dX3_readTruth_8 rfl (lv_at hl 0 rfl) ?_
      refine lv_sipush (v := 900) hx hb dX3_readTruth_9 (by decide) ?_
      refine lv_icmp_ge (tgt := 68) hx hb dX3_readTruth_12 (by decide) (fun c12 => ?_) (fun c12 => ?_)
      · skip
        have tc12 := f_ge (k := 900) (by decide) c12
        have hk9 : p8_2.toInt = 0 ∨ GL t tn [(9, 5)] [] f8_102 f8_102 := by first | (refine Or.inl ?_; omega) | exact Or.inr (fun _ _ => st_rN x_v251) | (by_cases q9 : p8_2.toInt = 0; exact Or.inl q9; refine Or.inr (fun _ _ => st_rN ?_); have q8 := LTI.ok i8t q9; have q7 := q8.1.b; rw [kd_end (by omega)]; decide)
        have hz9 := LTI.en i8t hk9
        refine lv_iload_n hx hb dX3_readTruth_68 rfl (lv_at hl 1 rfl) ?_
        exact te_z hx hb hr hlocks (nar01 (by omega) (by omega)) hH hS (⟨f8_102, f8_103, f8_104, f8_105, f8_106, f8_107, rfl, by omega, by omega, hz9.1, hz9.2, (by omega)⟩) dX3_readTruth_69
      · skip
        have tc12 := f_nge (k := 900) (by decide) c12
        refine lv_iload_n hx hb dX3_readTruth_15 rfl (lv_at hl 1 rfl) ?_
        refine lv_if_eq (tgt := 68) hx hb dX3_readTruth_16 (by decide) (fun c16 => ?_) (fun c16 => ?_)
        · skip
          have tc16 := f_eq (k := 0) (by decide) c16
          have hk9 : p8_2.toInt = 0 ∨ GL t tn [(9, 5)] [] f8_102 f8_102 := by first | (refine Or.inl ?_; omega) | exact Or.inr (fun _ _ => st_rN x_v251) | (by_cases q9 : p8_2.toInt = 0; exact Or.inl q9; refine Or.inr (fun _ _ => st_rN ?_); have q8 := LTI.ok i8t q9; have q7 := q8.1.b; rw [kd_end (by omega)]; decide)
          have hz9 := LTI.en i8t hk9
          refine lv_iload_n hx hb dX3_readTruth_68 rfl (lv_at hl 1 rfl) ?_
          exact te_z hx hb hr hlocks (nar01 (by omega) (by omega)) hH hS (⟨f8_102, f8_103, f8_104, f8_105, f8_106, f8_107, rfl, by omega, by omega, hz9.1, hz9.2, (by omega)⟩) dX3_readTruth_69
        · skip
          have tc16 := f_ne (k := 0) (by decide) c16
          have h19 := LTI.ok i8t (by omega)
          have hb19 := h19.1.b
          have hc19 := h19.1.cs
          refine lv_aload_n hx hb dX3_readTruth_19 rfl (lv_at hl 2 rfl) ?_
          refine t_get (ci := 3) (lst := ft3 0 0) (C := RX3) (F := TX3) (N := 3) hx hb hts uX3 hown hkb hH t_a0 (hO.no t_a0 (by decide)) (fun _ h9 => h9) rfl rfl 0 (by decide) rfl kw_82 (fun _ h9 => h9) dX3_readTruth_20 (fun v9 h9 => ?_)
          obtain ⟨v20, rfl, t_v20⟩ := h9
          have e9 := (hU7 _ _ t_v20).symm
          subst e9
          refine va_ldcS (q := kf.1 16) hx hb hown (hks ("FootholdWall$LawReader", 41, "or", 16) (by decide +kernel)) dX3_readTruth_23 ?_
          refine tk_i hH hS hA (tr_V (n := 1) (As := [.ref (kf.1 16)]) hx hb hml hown hts hkb hH (ox_map hOX rfl) hks hE hS hA (s_Tok_isWord l D cs kf T O X tk 16 y0 y1 f8_102 f8_103 f8_104 f8_105 f8_106 f8_107 ft t tn 13 t_tk (by decide) t_y0 (by omega) (by omega) (by omega) (by omega) (by omega) (by omega) (by omega) htb h19.1 (by decide) (by decide) (hO.sub (by decide))) kw_635 kw_551 kw_552 kw_3 kw_553 (by decide +kernel) ⟨Nat.le_of_ble_eq_true rfl, Nat.le_of_ble_eq_true rfl⟩ (x_recv (ci := 7) hkb hH 0 rfl rfl) rfl rfl hl.1 (Nat.le_of_ble_eq_true rfl) dX3_readTruth_25 ⟨Nat.le_of_ble_eq_true rfl, Nat.le_of_ble_eq_true rfl⟩) (fun v25 u H locs hz9 hH hS => ?_)
          obtain ⟨rfl, l_v25, u_v25, x_v250, x_v251⟩ := hz9
          have hH : HT D cs A T (tk :: y0 :: O) ((tk, .inr (7, [.ref y0, .int y1, .int f8_102, .int f8_103, .int f8_104, .int f8_105, .int f8_106, .int f8_107])) :: (y0, .inl (cs.1, 900, .inl ft)) :: X) H := hH
          refine W.widen (k := 0) (n := 0) (Nat.le_of_ble_eq_true rfl) (Nat.le_of_ble_eq_true rfl) ?_
          refine lv_if_eq (tgt := 68) hx hb dX3_readTruth_28 (by decide) (fun c28 => ?_) (fun c28 => ?_)
          · skip
            have tc28 := f_eq (k := 0) (by decide) c28
            clear x_v250
            replace x_v251 := x_v251.resolve_left (fun q9 => q9 tc28)
            have hk9 : p8_2.toInt = 0 ∨ GL t tn [(9, 5)] [] f8_102 f8_102 := by first | (refine Or.inl ?_; omega) | exact Or.inr (fun _ _ => st_rN x_v251) | (by_cases q9 : p8_2.toInt = 0; exact Or.inl q9; refine Or.inr (fun _ _ => st_rN ?_); have q8 := LTI.ok i8t q9; have q7 := q8.1.b; rw [kd_end (by omega)]; decide)
            have hz9 := LTI.en i8t hk9
            refine lv_iload_n hx hb dX3_readTruth_68 rfl (lv_at hl 1 rfl) ?_
            exact te_z hx hb hr hlocks (nar01 (by omega) (by omega)) hH hS (⟨f8_102, f8_103, f8_104, f8_105, f8_106, f8_107, rfl, by omega, by omega, hz9.1, hz9.2, (by omega)⟩) dX3_readTruth_69
          · skip
            have tc28 := f_ne (k := 0) (by decide) c28
            replace x_v250 := x_v250.resolve_left tc28
            clear x_v251
            refine lv_aload_n hx hb dX3_readTruth_31 rfl (lv_at hl 2 rfl) ?_
            refine t_get (ci := 3) (lst := ft3 0 0) (C := RX3) (F := TX3) (N := 3) hx hb hts uX3 hown hkb hH t_a0 (hO.no t_a0 (by decide)) (fun _ h9 => h9) rfl rfl 0 (by decide) rfl kw_82 (fun _ h9 => h9) dX3_readTruth_32 (fun v9 h9 => ?_)
            obtain ⟨v32, rfl, t_v32⟩ := h9
            have e9 := (hU7 _ _ t_v32).symm
            subst e9
            have hl9 := h19.1.lt (by omega)
            refine tk_v hH hS hA (tr_V (n := 0) (As := []) hx hb hml hown hts hkb hH (ox_map hOX rfl) hks hE hS hA (s_Tok_go l D cs kf T O X tk y0 y1 f8_102 f8_103 f8_104 f8_105 f8_106 f8_107 ft t tn t_tk t_y0 (by omega) (by omega) (by omega) (by omega) (by omega) (by omega) (by omega) htb (by have q9 := (h19.1).b; omega) (hO.sub (by decide))) kw_641 kw_453 kw_454 kw_3 kw_455 (by decide +kernel) ⟨Nat.le_of_ble_eq_true rfl, Nat.le_of_ble_eq_true rfl⟩ (x_recv (ci := 7) hkb hH 0 rfl rfl) rfl rfl hl.1 (Nat.le_of_ble_eq_true rfl) dX3_readTruth_35 ⟨Nat.le_of_ble_eq_true rfl, Nat.le_of_ble_eq_true rfl⟩) (fun u H locs hz9 hH hS => ?_)
            obtain ⟨n35_0_2, n35_0_3, n35_0_4, n35_0_5, rfl, x_v350, x_v351, x_v352⟩ := hz9
            have px35 := TSS.nx h19.1 x_v351
            have hH : HT D cs A T (tk :: y0 :: O) ((tk, .inr (7, [.ref y0, .int y1, .int n35_0_2, .int n35_0_3, .int n35_0_4, .int n35_0_5, .int f8_106, .int f8_107])) :: (y0, .inl (cs.1, 900, .inl ft)) :: X) H := hH
            refine W.widen (k := 0) (n := 0) (Nat.le_of_ble_eq_true rfl) (Nat.le_of_ble_eq_true rfl) ?_
            refine lv_aload_n hx hb dX3_readTruth_38 rfl (lv_at hl 2 rfl) ?_
            refine t_get (ci := 3) (lst := ft3 0 0) (C := RX3) (F := TX3) (N := 3) hx hb hts uX3 hown hkb hH t_a0 (hO.no t_a0 (by decide)) (fun _ h9 => h9) rfl rfl 2 (by decide) rfl kw_84 (fun _ h9 => h9) dX3_readTruth_39 (fun v9 h9 => ?_)
            obtain ⟨v39, rfl, l_v39, u_v39⟩ := h9
            refine lv_istore (lv' := [(4, .int v39), (3, .int p8_3), (2, .int p8_2), (0, .ref a0), (1, .int x1)]) hx hb dX3_readTruth_42 hl (by decide) rfl (fun ls hl => ?_)
            refine lv_aload_n hx hb dX3_readTruth_44 rfl (lv_at hl 3 rfl) ?_
            refine lv_iconst (v := 4) hx hb dX3_readTruth_45 (by decide) ?_
            refine lv_iconst (v := 0) hx hb dX3_readTruth_46 (by decide) ?_
            refine tk_v hH hS hA (tr_V (n := 2) (As := [.int 4, .int 0]) hx hb hml hown hts hkb hH (ox_map hOX rfl) hks hE hS hA (s_LR_put l D cs kf T (tk :: y0 :: O) ((tk, .inr (7, [.ref y0, .int y1, .int n35_0_2, .int n35_0_3, .int n35_0_4, .int n35_0_5, .int f8_106, .int f8_107])) :: (y0, .inl (cs.1, 900, .inl ft)) :: X) a0 (4) (0) t_a0 (hO.sub (by decide))) kw_642 kw_644 ks_9 kw_4 kw_645 (by decide +kernel) ⟨Nat.le_of_ble_eq_true rfl, Nat.le_of_ble_eq_true rfl⟩ (HT.recv (ci := 3) hkb hH t_a0 (hO.no t_a0 (by decide)) rfl) rfl rfl hl.1 (Nat.le_of_ble_eq_true rfl) dX3_readTruth_47 ⟨Nat.le_of_ble_eq_true rfl, Nat.le_of_ble_eq_true rfl⟩) (fun u H locs hz9 hH hS => ?_)
            have hz9 : u = (T, tk :: y0 :: O, (tk, .inr (7, [.ref y0, .int y1, .int n35_0_2, .int n35_0_3, .int n35_0_4, .int n35_0_5, .int f8_106, .int f8_107])) :: (y0, .inl (cs.1, 900, .inl ft)) :: X) := hz9
            subst hz9
            have hH : HT D cs A T (tk :: y0 :: O) ((tk, .inr (7, [.ref y0, .int y1, .int n35_0_2, .int n35_0_3, .int n35_0_4, .int n35_0_5, .int f8_106, .int f8_107])) :: (y0, .inl (cs.1, 900, .inl ft)) :: X) H := hH
            refine W.widen (k := 0) (n := 0) (Nat.le_of_ble_eq_true rfl) (Nat.le_of_ble_eq_true rfl) ?_
            refine lv_aload_n hx hb dX3_readTruth_50 rfl (lv_at hl 3 rfl) ?_
            refine lv_iload_n hx hb dX3_readTruth_51 rfl (lv_at hl 4 rfl) ?_
            refine tk_i hH hS hA (tr_V (n := 1) (As := [.int x1]) hx hb hml hown hts hkb hH (ox_map hOX rfl) hks hE hS hA (s_LR_readBoth5 l D cs kf T O X a0 x1 y0 y1 n35_0_2 n35_0_3 n35_0_4 n35_0_5 f8_106 f8_107 ft t tn tk t_a0 (by omega) (by omega) t_y0 (by omega) (by omega) (by omega) (by omega) (by omega) (by omega) (by omega) htb x_v350 t_tk hU7 (by omega) (hO.sub (by decide))) kw_626 kw_628 ks_6 kw_4 kw_629 (by decide +kernel) ⟨Nat.le_of_ble_eq_true rfl, Nat.le_of_ble_eq_true rfl⟩ (HT.recv (ci := 3) hkb hH t_a0 (hO.no t_a0 (by decide)) rfl) rfl rfl hl.1 (Nat.le_of_ble_eq_true rfl) dX3_readTruth_52 ⟨Nat.le_of_ble_eq_true rfl, Nat.le_of_ble_eq_true rfl⟩) (fun v52 u H locs hz9 hH hS => ?_)
            obtain ⟨n52_0_2, n52_0_3, n52_0_4, n52_0_5, n52_0_6, n52_0_7, rfl, l_v52, u_v52, x_v520, x_v521, x_v522⟩ := hz9
            have hH : HT D cs A T (tk :: y0 :: O) ((tk, .inr (7, [.ref y0, .int y1, .int n52_0_2, .int n52_0_3, .int n52_0_4, .int n52_0_5, .int n52_0_6, .int n52_0_7])) :: (y0, .inl (cs.1, 900, .inl ft)) :: X) H := hH
            refine W.widen (k := 0) (n := 0) (Nat.le_of_ble_eq_true rfl) (Nat.le_of_ble_eq_true rfl) ?_
            refine lv_istore_n (lv' := [(2, .int v52), (4, .int v39), (3, .int p8_3), (0, .ref a0), (1, .int x1)]) hx hb dX3_readTruth_55 rfl hl (by decide) rfl (fun ls hl => ?_)
            refine lv_aload_n hx hb dX3_readTruth_56 rfl (lv_at hl 3 rfl) ?_
            refine lv_iload hx hb dX3_readTruth_57 (lv_at hl 1 rfl) ?_
            refine tk_v hH hS hA (tr_V (n := 1) (As := [.int v39]) hx hb hml hown hts hkb hH (ox_map hOX rfl) hks hE hS hA (s_LR_aimSkip l D cs kf T (tk :: y0 :: O) ((tk, .inr (7, [.ref y0, .int y1, .int n52_0_2, .int n52_0_3, .int n52_0_4, .int n52_0_5, .int n52_0_6, .int n52_0_7])) :: (y0, .inl (cs.1, 900, .inl ft)) :: X) a0 v39 t_a0 (hO.sub (by decide))) kw_672 kw_674 ks_14 kw_4 kw_675 (by decide +kernel) ⟨Nat.le_of_ble_eq_true rfl, Nat.le_of_ble_eq_true rfl⟩ (HT.recv (ci := 3) hkb hH t_a0 (hO.no t_a0 (by decide)) rfl) rfl rfl hl.1 (Nat.le_of_ble_eq_true rfl) dX3_readTruth_59 ⟨Nat.le_of_ble_eq_true rfl, Nat.le_of_ble_eq_true rfl⟩) (fun u H locs hz9 hH hS => ?_)
            have hz9 : u = (T, tk :: y0 :: O, (tk, .inr (7, [.ref y0, .int y1, .int n52_0_2, .int n52_0_3, .int n52_0_4, .int n52_0_5, .int n52_0_6, .int n52_0_7])) :: (y0, .inl (cs.1, 900, .inl ft)) :: X) := hz9
            subst hz9
            have hH : HT D cs A T (tk :: y0 :: O) ((tk, .inr (7, [.ref y0, .int y1, .int n52_0_2, .int n52_0_3, .int n52_0_4, .int n52_0_5, .int n52_0_6, .int n52_0_7])) :: (y0, .inl (cs.1, 900, .inl ft)) :: X) H := hH
            refine W.widen (k := 0) (n := 0) (Nat.le_of_ble_eq_true rfl) (Nat.le_of_ble_eq_true rfl) ?_
            obtain ⟨v62, ev62⟩ : ∃ y : Int32, y = p8_3 + 1 := ⟨_, rfl⟩
            have tv62 : v62.toInt = p8_3.toInt + (1) := by rw [ev62]; exact add_i rfl (by decide) (by omega) (by omega)
            refine lv_iinc (v := v62) (lv' := [(3, .int v62), (2, .int v52), (4, .int v39), (0, .ref a0), (1, .int x1)]) hx hb dX3_readTruth_62 hl (k := 2) rfl (by rw [ev62]; rfl) (by decide) rfl (fun ls hl => ?_)
            refine lv_goto (tgt := 8) hx hb dX3_readTruth_65 (by decide) ?_
            exact ih8 _ (by omega) v62 v52 n52_0_2 n52_0_3 n52_0_4 n52_0_5 n52_0_6 n52_0_7 _ _ _ rfl (by omega) (by omega) (by omega) (by omega) (by omega) (by omega) (by omega) (by omega) (by first | (refine LTI.st (fun _ _ => st_r) x_v20 x_v21 l_v2 u_v2 rfl) | (refine LTI.st (h19.2.2.2.tr (GL_nx (fun _ _ => st_rY x_v250) px35)) x_v520 x_v521 l_v52 u_v52 ?_; omega)) (by omega) (by omega) hH hS (lv_sub hl [0, 1, 3, 4] rfl)
  refine lv_istore_n (lv' := [(3, .int 0), (2, .int v2), (0, .ref a0), (1, .int x1)]) hx hb dX3_readTruth_7 rfl hl (by decide) rfl (fun ls hl => ?_)
  have z_0 : (0 : Int32).toInt = 0 := by decide
  exact J8 _ 0 v2 n2_0_2 n2_0_3 n2_0_4 n2_0_5 n2_0_6 n2_0_7 _ _ _ rfl (by decide) (by decide) (by omega) (by omega) (by omega) (by omega) (by omega) (by omega) (by first | (refine LTI.st (fun _ _ => st_r) x_v20 x_v21 l_v2 u_v2 rfl) | (refine LTI.st (h19.2.2.2.tr (GL_nx (fun _ _ => st_rY x_v250) px35)) x_v520 x_v521 l_v52 u_v52 ?_; omega)) (by omega) (by omega) hH hS (lv_sub hl [0, 1, 2, 3] rfl)
