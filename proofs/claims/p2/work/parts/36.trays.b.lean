set_option maxHeartbeats 4000000 in
set_option maxRecDepth 100000 in
theorem s_FW_numbers (l : Launch) (D : va_G) (cs : CS) (kf : KF) (T : TF) (O : List Nat) (X : va_W) (a0 w hw gw ch gq : Nat) (x1 : Int32) (x2 : Int32) (x3 : Int32) (t_a0 : T a0 = some (21, w, ch)) (t_w : isW T w hw gw) (t_ch : T ch = some (10, gq, 0)) (hO : okO T O [2, 6, 18, 21]) : TK l D cs kf yX11_numbers cX11_numbers 4 (some (.int)) { frames := 2, cells := 0, slots := 0, locals := 46 } [.ref a0, .int x1, .int x2, .int x3] T O X (Ti D cs (fun r u => u = (T, O, X) ∧ -3 ≤ r.toInt ∧ r.toInt ≤ 0)) := by
  refine tk_of (by decide) (Nat.le_of_ble_eq_true rfl) (fun p e s m below meth c ls A H locs hx hb hr hml hown hts hlocks hnm hkb hH hS hA hOX hks hE hl => ?_)
  have hown : s.vm.findClass RX11 = some m.cls := hown
  have hl : lv_has ls 4 [(0, .ref a0), (1, .int x1), (2, .int x2), (3, .int x3)] := hl
  have b1_w := t_w.2.1
  have b2_w := t_w.2.2
  refine lv_iload_n hx hb dX11_numbers_0 rfl (lv_at hl 1 rfl) ?_
  refine tk_i hH hS hA (tr_S (n := 1) (As := [.int x1]) hx hb hml hown hts hkb hH hOX hks hE hS hA (s_FW_isTray l D cs kf T O X x1  (hO.sub (by decide))) kw_871 kw_872 kw_1 kw_873 (by decide +kernel) ⟨Nat.le_of_ble_eq_true rfl, Nat.le_of_ble_eq_true rfl⟩ rfl rfl hl.1 (Nat.le_of_ble_eq_true rfl) dX11_numbers_1 ⟨Nat.le_of_ble_eq_true rfl, Nat.le_of_ble_eq_true rfl⟩) (fun v1 u H locs hz9 hH hS => ?_)
  obtain ⟨rfl, l_v1, u_v1, x_v10⟩ := hz9
  have hH : HT D cs A T O X H := hH
  refine W.widen (k := 0) (n := 0) (Nat.le_of_ble_eq_true rfl) (Nat.le_of_ble_eq_true rfl) ?_
  have J16 : ∀  (H : Heap) (locs : List Loc) (ls : Array Slot), HT D cs A T O X H → va_S A s.heap H locs → lv_has ls 4 [] → W p l e { frames := 2, cells := 0, slots := 0, locals := 46 } s m [.ref a0, .int x1, .int x2, .int x3].toArray below meth c H locs 0 0 (MQ below (Ti D cs (fun r u => u = (T, O, X) ∧ -3 ≤ r.toInt ∧ r.toInt ≤ 0) A) [.ref a0, .int x1, .int x2, .int x3].toArray s 0 0 A) (F0 m 16 ls []) := by
    intro  H locs ls  hH hS hl
    refine lv_bipush (v := (-2)) hx hb dX11_numbers_16 (by decide) ?_
    exact te_i hx hb hr hlocks hH hS (⟨rfl, by decide, by decide⟩) dX11_numbers_18
  refine lv_if_eq (tgt := 16) hx hb dX11_numbers_4 (by decide) (fun c4 => ?_) (fun c4 => ?_)
  · skip
    have tc4 := f_eq (k := 0) (by decide) c4
    exact J16  _ _ _  hH hS (lv_sub hl [] rfl)
  · skip
    have tc4 := f_ne (k := 0) (by decide) c4
    refine lv_iload_n hx hb dX11_numbers_7 rfl (lv_at hl 2 rfl) ?_
    refine lv_if_lt (tgt := 16) hx hb dX11_numbers_8 (by decide) (fun c8 => ?_) (fun c8 => ?_)
    · skip
      have tc8 := f_lt (k := 0) (by decide) c8
      exact J16  _ _ _  hH hS (lv_sub hl [] rfl)
    · skip
      have tc8 := f_nlt (k := 0) (by decide) c8
      refine lv_iload_n hx hb dX11_numbers_11 rfl (lv_at hl 2 rfl) ?_
      refine lv_iconst (v := 3) hx hb dX11_numbers_12 (by decide) ?_
      refine lv_icmp_le (tgt := 19) hx hb dX11_numbers_13 (by decide) (fun c13 => ?_) (fun c13 => ?_)
      · skip
        have tc13 := f_le (k := 3) (by decide) c13
        refine lv_iload_n hx hb dX11_numbers_19 rfl (lv_at hl 3 rfl) ?_
        have J29 : ∀  (H : Heap) (locs : List Loc) (ls : Array Slot), HT D cs A T O X H → va_S A s.heap H locs → lv_has ls 4 [] → W p l e { frames := 2, cells := 0, slots := 0, locals := 46 } s m [.ref a0, .int x1, .int x2, .int x3].toArray below meth c H locs 0 0 (MQ below (Ti D cs (fun r u => u = (T, O, X) ∧ -3 ≤ r.toInt ∧ r.toInt ≤ 0) A) [.ref a0, .int x1, .int x2, .int x3].toArray s 0 0 A) (F0 m 29 ls []) := by
          intro  H locs ls  hH hS hl
          refine lv_bipush (v := (-3)) hx hb dX11_numbers_29 (by decide) ?_
          exact te_i hx hb hr hlocks hH hS (⟨rfl, by decide, by decide⟩) dX11_numbers_31
        refine lv_if_lt (tgt := 29) hx hb dX11_numbers_20 (by decide) (fun c20 => ?_) (fun c20 => ?_)
        · skip
          have tc20 := f_lt (k := 0) (by decide) c20
          exact J29  _ _ _  hH hS (lv_sub hl [] rfl)
        · skip
          have tc20 := f_nlt (k := 0) (by decide) c20
          refine lv_iload_n hx hb dX11_numbers_23 rfl (lv_at hl 3 rfl) ?_
          refine lv_bipush (v := 40) hx hb dX11_numbers_24 (by decide) ?_
          refine lv_icmp_le (tgt := 32) hx hb dX11_numbers_26 (by decide) (fun c26 => ?_) (fun c26 => ?_)
          · skip
            have tc26 := f_le (k := 40) (by decide) c26
            refine lv_aload_n hx hb dX11_numbers_32 rfl (lv_at hl 0 rfl) ?_
            refine t_get (ci := 11) (lst := ft11 w ch) (C := RX11) (F := TX11) (N := 20) hx hb hts uX11 hown hkb hH t_a0 (hO.no t_a0 (by decide)) (fun _ h9 => h9) rfl rfl 11 (by decide) rfl kw_371 (fun _ h9 => h9) dX11_numbers_33 (fun v9 h9 => ?_)
            obtain ⟨v33, rfl, t_v33⟩ := h9
            refine lv_iload_n hx hb dX11_numbers_36 rfl (lv_at hl 1 rfl) ?_
            refine t_qld6 hx hb hkb hH t_v33 (hO.no t_v33 (by decide)) (by omega) (by omega) dX11_numbers_37 (fun v37 t_v37 => ?_)
            refine lv_iload_n hx hb dX11_numbers_38 rfl (lv_at hl 2 rfl) ?_
            refine lv_iload_n hx hb dX11_numbers_39 rfl (lv_at hl 3 rfl) ?_
            refine tk_v hH hS hA (tr_V (n := 2) (As := [.int x2, .int x3]) hx hb hml hown hts hkb hH hOX hks hE hS hA (s_Tray_lay l D cs kf T O X v37 x2 x3 t_v37 (by omega) (by omega) (hO.sub (by decide))) kw_1177 kw_1178 kw_1179 kw_12 kw_1180 (by decide +kernel) ⟨Nat.le_of_ble_eq_true rfl, Nat.le_of_ble_eq_true rfl⟩ (HT.recv (ci := 8) hkb hH t_v37 (hO.no t_v37 (by decide)) rfl) rfl rfl hl.1 (Nat.le_of_ble_eq_true rfl) dX11_numbers_40 ⟨Nat.le_of_ble_eq_true rfl, Nat.le_of_ble_eq_true rfl⟩) (fun u H locs hz9 hH hS => ?_)
            have hz9 : u = (T, O, X) := hz9
            subst hz9
            have hH : HT D cs A T O X H := hH
            refine W.widen (k := 0) (n := 0) (Nat.le_of_ble_eq_true rfl) (Nat.le_of_ble_eq_true rfl) ?_
            refine lv_iconst (v := 0) hx hb dX11_numbers_43 (by decide) ?_
            exact te_i hx hb hr hlocks hH hS (⟨rfl, by decide, by decide⟩) dX11_numbers_44
          · skip
            have tc26 := f_nle (k := 40) (by decide) c26
            exact J29  _ _ _  hH hS (lv_sub hl [] rfl)
      · skip
        have tc13 := f_nle (k := 3) (by decide) c13
        exact J16  _ _ _  hH hS (lv_sub hl [] rfl)
set_option maxHeartbeats 4000000 in
set_option maxRecDepth 100000 in
theorem s_FW_write (l : Launch) (D : va_G) (cs : CS) (kf : KF) (T : TF) (O : List Nat) (X : va_W) (a0 w hw gw ch gq : Nat) (x1 : Int32) (x2 : Int32) (x3 : Int64) (t_a0 : T a0 = some (21, w, ch)) (t_w : isW T w hw gw) (t_ch : T ch = some (10, gq, 0)) (hO : okO T O [2, 6, 18, 21]) : TK l D cs kf yX11_write cX11_write 6 (some (.long)) { frames := 1, cells := 0, slots := 0, locals := 23 } [.ref a0, .int x1, .int x2, .long x3] T O X (Tl D cs (fun _ u => u = (T, O, X))) := by
  refine tk_of (by decide) (Nat.le_of_ble_eq_true rfl) (fun p e s m below meth c ls A H locs hx hb hr hml hown hts hlocks hnm hkb hH hS hA hOX hks hE hl => ?_)
  have hown : s.vm.findClass RX11 = some m.cls := hown
  have hl : lv_has ls 6 [(0, .ref a0), (1, .int x1), (2, .int x2), (3, .long x3)] := hl
  have b1_w := t_w.2.1
  have b2_w := t_w.2.2
  refine lv_iload_n hx hb dX11_write_0 rfl (lv_at hl 1 rfl) ?_
  refine tk_i hH hS hA (tr_S (n := 1) (As := [.int x1]) hx hb hml hown hts hkb hH hOX hks hE hS hA (s_FW_isTray l D cs kf T O X x1  (hO.sub (by decide))) kw_871 kw_872 kw_1 kw_873 (by decide +kernel) ⟨Nat.le_of_ble_eq_true rfl, Nat.le_of_ble_eq_true rfl⟩ rfl rfl hl.1 (Nat.le_of_ble_eq_true rfl) dX11_write_1 ⟨Nat.le_of_ble_eq_true rfl, Nat.le_of_ble_eq_true rfl⟩) (fun v1 u H locs hz9 hH hS => ?_)
  obtain ⟨rfl, l_v1, u_v1, x_v10⟩ := hz9
  have hH : HT D cs A T O X H := hH
  refine W.widen (k := 0) (n := 0) (Nat.le_of_ble_eq_true rfl) (Nat.le_of_ble_eq_true rfl) ?_
  refine lv_if_ne (tgt := 11) hx hb dX11_write_4 (by decide) (fun c4 => ?_) (fun c4 => ?_)
  · skip
    have tc4 := f_ne (k := 0) (by decide) c4
    refine lv_aload_n hx hb dX11_write_11 rfl (lv_at hl 0 rfl) ?_
    refine t_get (ci := 11) (lst := ft11 w ch) (C := RX11) (F := TX11) (N := 20) hx hb hts uX11 hown hkb hH t_a0 (hO.no t_a0 (by decide)) (fun _ h9 => h9) rfl rfl 11 (by decide) rfl kw_371 (fun _ h9 => h9) dX11_write_12 (fun v9 h9 => ?_)
    obtain ⟨v12, rfl, t_v12⟩ := h9
    refine lv_iload_n hx hb dX11_write_15 rfl (lv_at hl 1 rfl) ?_
    refine t_qld6 hx hb hkb hH t_v12 (hO.no t_v12 (by decide)) (by omega) (by omega) dX11_write_16 (fun v16 t_v16 => ?_)
    refine lv_astore (lv' := [(5, .ref v16), (0, .ref a0), (1, .int x1), (2, .int x2), (3, .long x3)]) hx hb dX11_write_17 hl (by decide) rfl (fun ls hl => ?_)
    refine lv_aload hx hb dX11_write_19 (lv_at hl 0 rfl) ?_
    refine tk_i hH hS hA (tr_V (n := 0) (As := []) hx hb hml hown hts hkb hH hOX hks hE hS hA (s_Tray_isMissing l D cs kf T O X v16 t_v16 (hO.sub (by decide))) kw_874 kw_875 kw_876 kw_12 kw_877 (by decide +kernel) ⟨Nat.le_of_ble_eq_true rfl, Nat.le_of_ble_eq_true rfl⟩ (HT.recv (ci := 8) hkb hH t_v16 (hO.no t_v16 (by decide)) rfl) rfl rfl hl.1 (Nat.le_of_ble_eq_true rfl) dX11_write_21 ⟨Nat.le_of_ble_eq_true rfl, Nat.le_of_ble_eq_true rfl⟩) (fun v21 u H locs hz9 hH hS => ?_)
    obtain ⟨rfl, l_v21, u_v21⟩ := hz9
    have hH : HT D cs A T O X H := hH
    refine W.widen (k := 0) (n := 0) (Nat.le_of_ble_eq_true rfl) (Nat.le_of_ble_eq_true rfl) ?_
    refine lv_if_eq (tgt := 31) hx hb dX11_write_24 (by decide) (fun c24 => ?_) (fun c24 => ?_)
    · skip
      have tc24 := f_eq (k := 0) (by decide) c24
      refine lv_iload_n hx hb dX11_write_31 rfl (lv_at hl 3 rfl) ?_
      have J44 : ∀  (H : Heap) (locs : List Loc) (ls : Array Slot), HT D cs A T O X H → va_S A s.heap H locs → lv_has ls 6 [] → W p l e { frames := 1, cells := 0, slots := 0, locals := 23 } s m [.ref a0, .int x1, .int x2, .long x3].toArray below meth c H locs 0 0 (MQ below (Tl D cs (fun _ u => u = (T, O, X)) A) [.ref a0, .int x1, .int x2, .long x3].toArray s 0 0 A) (F0 m 44 ls []) := by
        intro  H locs ls  hH hS hl
        refine lv_ldc2 hx hb hown (hts _ kw_1189) dX11_write_44 ?_
        exact te_l hx hb hr hlocks hH hS rfl dX11_write_47
      refine lv_if_lt (tgt := 44) hx hb dX11_write_32 (by decide) (fun c32 => ?_) (fun c32 => ?_)
      · skip
        have tc32 := f_lt (k := 0) (by decide) c32
        exact J44  _ _ _  hH hS (lv_sub hl [] rfl)
      · skip
        have tc32 := f_nlt (k := 0) (by decide) c32
        refine lv_iload_n hx hb dX11_write_35 rfl (lv_at hl 3 rfl) ?_
        refine lv_aload hx hb dX11_write_36 (lv_at hl 0 rfl) ?_
        refine t_get (ci := 8) (lst := ft8 0 0) (C := RX8) (F := TX8) (N := 3) hx hb hts uX8 hown hkb hH t_v16 (hO.no t_v16 (by decide)) (fun _ h9 => h9) rfl rfl 2 (by decide) rfl kw_352 (fun _ h9 => h9) dX11_write_38 (fun v9 h9 => ?_)
        obtain ⟨v38, rfl, l_v38, u_v38⟩ := h9
        refine lv_icmp_lt (tgt := 48) hx hb dX11_write_41 (by decide) (fun c41 => ?_) (fun c41 => ?_)
        · skip
          have fuc41 := full_i x2
          have fvc41 := full_i v38
          have tc41 := g_lt c41
          refine lv_aload hx hb dX11_write_48 (lv_at hl 0 rfl) ?_
          refine lv_iload_n hx hb dX11_write_50 rfl (lv_at hl 3 rfl) ?_
          refine lv_lload_n hx hb dX11_write_51 rfl (lv_at hl 4 rfl) ?_
          refine tk_l hH hS hA (tr_V (n := 2) (As := [.int x2, .long x3]) hx hb hml hown hts hkb hH hOX hks hE hS hA (s_Tray_put l D cs kf T O X v16 x2 x3 t_v16 (hO.sub (by decide))) kw_1190 kw_1191 kw_1192 kw_12 kw_1193 (by decide +kernel) ⟨Nat.le_of_ble_eq_true rfl, Nat.le_of_ble_eq_true rfl⟩ (HT.recv (ci := 8) hkb hH t_v16 (hO.no t_v16 (by decide)) rfl) rfl rfl hl.1 (Nat.le_of_ble_eq_true rfl) dX11_write_52 ⟨Nat.le_of_ble_eq_true rfl, Nat.le_of_ble_eq_true rfl⟩) (fun v52 u H locs hz9 hH hS => ?_)
          have hz9 : u = (T, O, X) := hz9
          subst hz9
          have hH : HT D cs A T O X H := hH
          refine W.widen (k := 0) (n := 0) (Nat.le_of_ble_eq_true rfl) (Nat.le_of_ble_eq_true rfl) ?_
          exact te_l hx hb hr hlocks hH hS rfl dX11_write_55
        · skip
          have fuc41 := full_i x2
          have fvc41 := full_i v38
          have tc41 := g_nlt c41
          exact J44  _ _ _  hH hS (lv_sub hl [] rfl)
    · skip
      have tc24 := f_ne (k := 0) (by decide) c24
      refine lv_ldc2 hx hb hown (hts _ kw_1188) dX11_write_27 ?_
      exact te_l hx hb hr hlocks hH hS rfl dX11_write_30
  · skip
    have tc4 := f_eq (k := 0) (by decide) c4
    refine lv_ldc2 hx hb hown (hts _ kw_988) dX11_write_7 ?_
    exact te_l hx hb hr hlocks hH hS rfl dX11_write_10
set_option maxHeartbeats 4000000 in
set_option maxRecDepth 100000 in
theorem s_FW_lists (l : Launch) (D : va_G) (cs : CS) (kf : KF) (T : TF) (O : List Nat) (X : va_W) (a0 w hw gw ch gq : Nat) (x1 : Int32) (x2 : Int32) (t_a0 : T a0 = some (21, w, ch)) (t_w : isW T w hw gw) (t_ch : T ch = some (10, gq, 0)) (hO : okO T O [1, 2, 6, 7, 12, 15, 16, 18, 19, 20, 21]) : TK l D cs kf yX11_lists cX11_lists 7 (some (.int)) { frames := 6, cells := 0, slots := 0, locals := 152 } [.ref a0, .int x1, .int x2] T O X (Ti D cs (fun r u => u = (T, O, X) ∧ -6 ≤ r.toInt ∧ r.toInt ≤ 15)) := by
  refine tk_of (by decide) (Nat.le_of_ble_eq_true rfl) (fun p e s m below meth c ls A H locs hx hb hr hml hown hts hlocks hnm hkb hH hS hA hOX hks hE hl => ?_)
  have hown : s.vm.findClass RX11 = some m.cls := hown
  have hl : lv_has ls 7 [(0, .ref a0), (1, .int x1), (2, .int x2)] := hl
  have b1_w := t_w.2.1
  have b2_w := t_w.2.2
  refine lv_iload_n hx hb dX11_lists_0 rfl (lv_at hl 1 rfl) ?_
  refine tk_i hH hS hA (tr_S (n := 1) (As := [.int x1]) hx hb hml hown hts hkb hH hOX hks hE hS hA (s_FW_isTray l D cs kf T O X x1  (hO.sub (by decide))) kw_871 kw_872 kw_1 kw_873 (by decide +kernel) ⟨Nat.le_of_ble_eq_true rfl, Nat.le_of_ble_eq_true rfl⟩ rfl rfl hl.1 (Nat.le_of_ble_eq_true rfl) dX11_lists_1 ⟨Nat.le_of_ble_eq_true rfl, Nat.le_of_ble_eq_true rfl⟩) (fun v1 u H locs hz9 hH hS => ?_)
  obtain ⟨rfl, l_v1, u_v1, x_v10⟩ := hz9
  have hH : HT D cs A T O X H := hH
  refine W.widen (k := 0) (n := 0) (Nat.le_of_ble_eq_true rfl) (Nat.le_of_ble_eq_true rfl) ?_
  have J15 : ∀  (H : Heap) (locs : List Loc) (ls : Array Slot), HT D cs A T O X H → va_S A s.heap H locs → lv_has ls 7 [] → W p l e { frames := 6, cells := 0, slots := 0, locals := 152 } s m [.ref a0, .int x1, .int x2].toArray below meth c H locs 0 0 (MQ below (Ti D cs (fun r u => u = (T, O, X) ∧ -6 ≤ r.toInt ∧ r.toInt ≤ 15) A) [.ref a0, .int x1, .int x2].toArray s 0 0 A) (F0 m 15 ls []) := by
    intro  H locs ls  hH hS hl
    refine lv_bipush (v := (-2)) hx hb dX11_lists_15 (by decide) ?_
    exact te_i hx hb hr hlocks hH hS (⟨rfl, by decide, by decide⟩) dX11_lists_17
  refine lv_if_eq (tgt := 15) hx hb dX11_lists_4 (by decide) (fun c4 => ?_) (fun c4 => ?_)
  · skip
    have tc4 := f_eq (k := 0) (by decide) c4
    exact J15  _ _ _  hH hS (lv_sub hl [] rfl)
  · skip
    have tc4 := f_ne (k := 0) (by decide) c4
    refine lv_aload_n hx hb dX11_lists_7 rfl (lv_at hl 0 rfl) ?_
    refine lv_iload_n hx hb dX11_lists_8 rfl (lv_at hl 2 rfl) ?_
    refine tk_i hH hS hA (tr_V (n := 1) (As := [.int x2]) hx hb hml hown hts hkb hH hOX hks hE hS hA (s_FW_isGuide l D cs kf T O X a0 w hw gw ch gq x2 t_a0 t_w t_ch (hO.sub (by decide))) kw_794 kw_796 ks_20 kw_1 kw_797 (by decide +kernel) ⟨Nat.le_of_ble_eq_true rfl, Nat.le_of_ble_eq_true rfl⟩ (HT.recv (ci := 11) hkb hH t_a0 (hO.no t_a0 (by decide)) rfl) rfl rfl hl.1 (Nat.le_of_ble_eq_true rfl) dX11_lists_9 ⟨Nat.le_of_ble_eq_true rfl, Nat.le_of_ble_eq_true rfl⟩) (fun v9 u H locs hz9 hH hS => ?_)
    obtain ⟨rfl, l_v9, u_v9, x_v90⟩ := hz9
    have hH : HT D cs A T O X H := hH
    refine W.widen (k := 0) (n := 0) (Nat.le_of_ble_eq_true rfl) (Nat.le_of_ble_eq_true rfl) ?_
    refine lv_if_ne (tgt := 18) hx hb dX11_lists_12 (by decide) (fun c12 => ?_) (fun c12 => ?_)
    · skip
      have tc12 := f_ne (k := 0) (by decide) c12
      refine lv_aload_n hx hb dX11_lists_18 rfl (lv_at hl 0 rfl) ?_
      refine t_get (ci := 11) (lst := ft11 w ch) (C := RX11) (F := TX11) (N := 20) hx hb hts uX11 hown hkb hH t_a0 (hO.no t_a0 (by decide)) (fun _ h9 => h9) rfl rfl 11 (by decide) rfl kw_371 (fun _ h9 => h9) dX11_lists_19 (fun v9 h9 => ?_)
      obtain ⟨v19, rfl, t_v19⟩ := h9
      refine lv_iload_n hx hb dX11_lists_22 rfl (lv_at hl 1 rfl) ?_
      refine t_qld6 hx hb hkb hH t_v19 (hO.no t_v19 (by decide)) (by omega) (by omega) dX11_lists_23 (fun v23 t_v23 => ?_)
      refine lv_astore_n (lv' := [(3, .ref v23), (0, .ref a0), (1, .int x1), (2, .int x2)]) hx hb dX11_lists_24 rfl hl (by decide) rfl (fun ls hl => ?_)
      refine lv_aload_n hx hb dX11_lists_25 rfl (lv_at hl 0 rfl) ?_
      refine tk_i hH hS hA (tr_V (n := 0) (As := []) hx hb hml hown hts hkb hH hOX hks hE hS hA (s_Tray_isMissing l D cs kf T O X v23 t_v23 (hO.sub (by decide))) kw_874 kw_875 kw_876 kw_12 kw_877 (by decide +kernel) ⟨Nat.le_of_ble_eq_true rfl, Nat.le_of_ble_eq_true rfl⟩ (HT.recv (ci := 8) hkb hH t_v23 (hO.no t_v23 (by decide)) rfl) rfl rfl hl.1 (Nat.le_of_ble_eq_true rfl) dX11_lists_26 ⟨Nat.le_of_ble_eq_true rfl, Nat.le_of_ble_eq_true rfl⟩) (fun v26 u H locs hz9 hH hS => ?_)
      obtain ⟨rfl, l_v26, u_v26⟩ := hz9
      have hH : HT D cs A T O X H := hH
      refine W.widen (k := 0) (n := 0) (Nat.le_of_ble_eq_true rfl) (Nat.le_of_ble_eq_true rfl) ?_
      refine lv_if_eq (tgt := 35) hx hb dX11_lists_29 (by decide) (fun c29 => ?_) (fun c29 => ?_)
      · skip
        have tc29 := f_eq (k := 0) (by decide) c29
        refine lv_aload_n hx hb dX11_lists_35 rfl (lv_at hl 1 rfl) ?_
        refine t_get (ci := 11) (lst := ft11 w ch) (C := RX11) (F := TX11) (N := 20) hx hb hts uX11 hown hkb hH t_a0 (hO.no t_a0 (by decide)) (fun _ h9 => h9) rfl rfl 14 (by decide) rfl kw_374 (fun _ h9 => h9) dX11_lists_36 (fun v9 h9 => ?_)
        obtain ⟨v36, rfl, t_v36⟩ := h9
        refine lv_aload_n hx hb dX11_lists_39 rfl (lv_at hl 1 rfl) ?_
        refine lv_iload_n hx hb dX11_lists_40 rfl (lv_at hl 3 rfl) ?_
        refine tk_r hH hS hA (tr_V (n := 1) (As := [.int x2]) hx hb hml hown hts hkb hH hOX hks hE hS hA (s_FW_rowsOf l D cs kf T O X a0 w hw gw ch gq x2 t_a0 t_w t_ch (by omega) (by omega) (hO.sub (by decide))) kw_830 kw_832 ks_21 kw_1 kw_833 (by decide +kernel) ⟨Nat.le_of_ble_eq_true rfl, Nat.le_of_ble_eq_true rfl⟩ (HT.recv (ci := 11) hkb hH t_a0 (hO.no t_a0 (by decide)) rfl) rfl rfl hl.1 (Nat.le_of_ble_eq_true rfl) dX11_lists_41 ⟨Nat.le_of_ble_eq_true rfl, Nat.le_of_ble_eq_true rfl⟩) (fun v41 u H locs hz9 hH hS => ?_)
        obtain ⟨hu9, t_v41⟩ := hz9
        have hu9 : u = (T, O, X) := hu9
        subst hu9
        have hH : HT D cs A T O X H := hH
        refine W.widen (k := 0) (n := 0) (Nat.le_of_ble_eq_true rfl) (Nat.le_of_ble_eq_true rfl) ?_
        refine lv_aload_n hx hb dX11_lists_44 rfl (lv_at hl 1 rfl) ?_
        refine tk_i hH hS hA (tr_V (n := 0) (As := []) hx hb hml hown hts hkb hH hOX hks hE hS hA (s_FW_openNow l D cs kf T O X a0 w hw gw ch gq t_a0 t_w t_ch (hO.sub (by decide))) kw_846 kw_848 ks_22 kw_1 kw_849 (by decide +kernel) ⟨Nat.le_of_ble_eq_true rfl, Nat.le_of_ble_eq_true rfl⟩ (HT.recv (ci := 11) hkb hH t_a0 (hO.no t_a0 (by decide)) rfl) rfl rfl hl.1 (Nat.le_of_ble_eq_true rfl) dX11_lists_45 ⟨Nat.le_of_ble_eq_true rfl, Nat.le_of_ble_eq_true rfl⟩) (fun v45 u H locs hz9 hH hS => ?_)
        obtain ⟨rfl, l_v45, u_v45⟩ := hz9
        have hH : HT D cs A T O X H := hH
        refine W.widen (k := 0) (n := 0) (Nat.le_of_ble_eq_true rfl) (Nat.le_of_ble_eq_true rfl) ?_
        refine tk_i hH hS hA (tr_V (n := 2) (As := [.ref v41, .int v45]) hx hb hml hown hts hkb hH hOX hks hE hS hA (s_Ways_find l D cs kf T O X v36 v41 v45 t_v36 t_v41 (hO.sub (by decide))) kw_912 kw_913 kw_914 kw_9 kw_915 (by decide +kernel) ⟨Nat.le_of_ble_eq_true rfl, Nat.le_of_ble_eq_true rfl⟩ (HT.recv (ci := 10) hkb hH t_v36 (hO.no t_v36 (by decide)) rfl) rfl rfl hl.1 (Nat.le_of_ble_eq_true rfl) dX11_lists_48 ⟨Nat.le_of_ble_eq_true rfl, Nat.le_of_ble_eq_true rfl⟩) (fun v48 u H locs hz9 hH hS => ?_)
        obtain ⟨rfl, l_v48, u_v48⟩ := hz9
        have hH : HT D cs A T O X H := hH
        refine W.widen (k := 0) (n := 0) (Nat.le_of_ble_eq_true rfl) (Nat.le_of_ble_eq_true rfl) ?_
        refine lv_istore (lv' := [(4, .int v48), (3, .ref v23), (0, .ref a0), (1, .int x1), (2, .int x2)]) hx hb dX11_lists_51 hl (by decide) rfl (fun ls hl => ?_)
        refine lv_iload hx hb dX11_lists_53 (lv_at hl 0 rfl) ?_
        refine lv_if_ne (tgt := 61) hx hb dX11_lists_55 (by decide) (fun c55 => ?_) (fun c55 => ?_)
        · skip
          have tc55 := f_ne (k := 0) (by decide) c55
          refine lv_iload hx hb dX11_lists_61 (lv_at hl 0 rfl) ?_
          refine lv_iconst (v := 1) hx hb dX11_lists_63 (by decide) ?_
          refine lv_iadd hx hb dX11_lists_64 ?_
          refine lv_topi (fun v64 ev64 => ?_)
          have tv64 : v64.toInt = v48.toInt + (1) := by rw [ev64]; exact add_i rfl (by decide : (1 : Int32).toInt = 1) (by omega) (by omega)
          refine lv_aload_n hx hb dX11_lists_65 rfl (lv_at hl 1 rfl) ?_
          refine t_get (ci := 8) (lst := ft8 0 0) (C := RX8) (F := TX8) (N := 3) hx hb hts uX8 hown hkb hH t_v23 (hO.no t_v23 (by decide)) (fun _ h9 => h9) rfl rfl 2 (by decide) rfl kw_352 (fun _ h9 => h9) dX11_lists_66 (fun v9 h9 => ?_)
          obtain ⟨v66, rfl, l_v66, u_v66⟩ := h9
          refine va_mmin hx hb (by rw [hml]; exact hl.1.symm) hown (hts _ kw_903) (hts _ kw_450) (hts _ kw_6) (hts _ kw_451) (Nat.le_of_ble_eq_true rfl) (Nat.le_of_ble_eq_true rfl) (Nat.le_of_ble_eq_true rfl) (Nat.le_of_ble_eq_true rfl) dX11_lists_69 ?_
          refine lv_topi (fun v69 ev69 => ?_)
          have tv69 : v69.toInt = min v64.toInt v66.toInt := by rw [ev69]; exact min_i rfl rfl
          refine lv_istore (lv' := [(5, .int v69), (4, .int v48), (3, .ref v23), (0, .ref a0), (1, .int x1), (2, .int x2)]) hx hb dX11_lists_72 hl (by decide) rfl (fun ls hl => ?_)
          refine lv_iconst (v := 0) hx hb dX11_lists_74 (by decide) ?_
          have J77 : ∀ (n : Nat) (p77_6 : Int32) (H : Heap) (locs : List Loc) (ls : Array Slot), (15 - p77_6.toInt).toNat = n → (0 ≤ p77_6.toInt) → (p77_6.toInt ≤ 15) → HT D cs A T O X H → va_S A s.heap H locs → lv_has ls 7 [(6, .int p77_6), (5, .int v69), (3, .ref v23), (0, .ref a0), (2, .int x2)] → W p l e { frames := 6, cells := 0, slots := 0, locals := 152 } s m [.ref a0, .int x1, .int x2].toArray below meth c H locs 0 0 (MQ below (Ti D cs (fun r u => u = (T, O, X) ∧ -6 ≤ r.toInt ∧ r.toInt ≤ 15) A) [.ref a0, .int x1, .int x2].toArray s 0 0 A) (F0 m 77 ls []) := by
            intro n
            induction n using Nat.strongRecOn with
            | _ n ih77 =>
              intro p77_6 H locs ls hm77 l_p77_6 u_p77_6 hH hS hl
              refine lv_iload hx hb dX11_lists_77 (lv_at hl 0 rfl) ?_
              refine lv_iload hx hb dX11_lists_79 (lv_at hl 1 rfl) ?_
              refine lv_icmp_ge (tgt := 120) hx hb dX11_lists_81 (by decide) (fun c81 => ?_) (fun c81 => ?_)
              · skip
                have fuc81 := full_i p77_6
                have fvc81 := full_i v69
                have tc81 := g_le c81
                refine lv_iload hx hb dX11_lists_120 (lv_at hl 1 rfl) ?_
                exact te_i hx hb hr hlocks hH hS (⟨rfl, by omega, by omega⟩) dX11_lists_122
              · skip
                have fuc81 := full_i p77_6
                have fvc81 := full_i v69
                have tc81 := g_nle c81
                refine lv_aload_n hx hb dX11_lists_84 rfl (lv_at hl 2 rfl) ?_
                refine lv_iload hx hb dX11_lists_85 (lv_at hl 0 rfl) ?_
                refine lv_iload hx hb dX11_lists_87 (lv_at hl 0 rfl) ?_
                have J110 : ∀ (k110_0 : Int64) (H : Heap) (locs : List Loc) (ls : Array Slot), HT D cs A T O X H → va_S A s.heap H locs → lv_has ls 7 [(6, .int p77_6), (5, .int v69), (3, .ref v23), (0, .ref a0), (2, .int x2)] → W p l e { frames := 6, cells := 0, slots := 0, locals := 152 } s m [.ref a0, .int x1, .int x2].toArray below meth c H locs 0 0 (MQ below (Ti D cs (fun r u => u = (T, O, X) ∧ -6 ≤ r.toInt ∧ r.toInt ≤ 15) A) [.ref a0, .int x1, .int x2].toArray s 0 0 A) (F0 m 110 ls [.long k110_0, .int p77_6, .ref v23]) := by
                  intro k110_0 H locs ls  hH hS hl
                  refine tk_l hH hS hA (tr_V (n := 2) (As := [.int p77_6, .long k110_0]) hx hb hml hown hts hkb hH hOX hks hE hS hA (s_Tray_put l D cs kf T O X v23 p77_6 k110_0 t_v23 (hO.sub (by decide))) kw_1190 kw_1191 kw_1192 kw_12 kw_1193 (by decide +kernel) ⟨Nat.le_of_ble_eq_true rfl, Nat.le_of_ble_eq_true rfl⟩ (HT.recv (ci := 8) hkb hH t_v23 (hO.no t_v23 (by decide)) rfl) rfl rfl hl.1 (Nat.le_of_ble_eq_true rfl) dX11_lists_110 ⟨Nat.le_of_ble_eq_true rfl, Nat.le_of_ble_eq_true rfl⟩) (fun v110 u H locs hz9 hH hS => ?_)
                  have hz9 : u = (T, O, X) := hz9
                  subst hz9
                  have hH : HT D cs A T O X H := hH
                  refine W.widen (k := 0) (n := 0) (Nat.le_of_ble_eq_true rfl) (Nat.le_of_ble_eq_true rfl) ?_
                  refine lv_pop2_2 hx hb dX11_lists_113 rfl ?_
                  obtain ⟨v114, ev114⟩ : ∃ y : Int32, y = p77_6 + 1 := ⟨_, rfl⟩
                  have tv114 : v114.toInt = p77_6.toInt + (1) := by rw [ev114]; exact add_i rfl (by decide) (by omega) (by omega)
                  refine lv_iinc (v := v114) (lv' := [(6, .int v114), (5, .int v69), (3, .ref v23), (0, .ref a0), (2, .int x2)]) hx hb dX11_lists_114 hl (k := 0) rfl (by rw [ev114]; rfl) (by decide) rfl (fun ls hl => ?_)
                  refine lv_goto (tgt := 77) hx hb dX11_lists_117 (by decide) ?_
                  exact ih77 _ (by omega) v114 _ _ _ rfl (by omega) (by omega) hH hS (lv_sub hl [0, 1, 2, 3, 4] rfl)
                refine lv_if_ne (tgt := 97) hx hb dX11_lists_89 (by decide) (fun c89 => ?_) (fun c89 => ?_)
                · skip
                  have tc89 := f_ne (k := 0) (by decide) c89
                  refine lv_aload_n hx hb dX11_lists_97 rfl (lv_at hl 3 rfl) ?_
                  refine t_get (ci := 11) (lst := ft11 w ch) (C := RX11) (F := TX11) (N := 20) hx hb hts uX11 hown hkb hH t_a0 (hO.no t_a0 (by decide)) (fun _ h9 => h9) rfl rfl 14 (by decide) rfl kw_374 (fun _ h9 => h9) dX11_lists_98 (fun v9 h9 => ?_)
                  obtain ⟨v98, rfl, t_v98⟩ := h9
                  refine t_get (ci := 10) (lst := ft10 0 0) (C := RX10) (F := TX10) (N := 7) hx hb hts uX10 hown hkb hH t_v98 (hO.no t_v98 (by decide)) (fun _ h9 => h9) rfl rfl 1 (by decide) rfl kw_274 (fun _ h9 => h9) dX11_lists_101 (fun v9 h9 => ?_)
                  obtain ⟨v101, rfl, t_v101⟩ := h9
                  refine lv_iload hx hb dX11_lists_104 (lv_at hl 0 rfl) ?_
                  refine lv_iconst (v := 1) hx hb dX11_lists_106 (by decide) ?_
                  refine lv_isub hx hb dX11_lists_107 ?_
                  refine lv_topi (fun v107 ev107 => ?_)
                  have tv107 : v107.toInt = p77_6.toInt - (1) := by rw [ev107]; exact sub_i rfl (by decide : (1 : Int32).toInt = 1) (by omega) (by omega)
                  refine t_ild hx hb hkb hH t_v101 (hO.no t_v101 (by decide)) (by omega) (by omega) dX11_lists_108 (fun v108 h9 => ?_)
                  refine lv_i2l hx hb dX11_lists_109 rfl ?_
                  exact J110 v108.toInt64 _ _ _  hH hS (lv_sub hl [0, 1, 2, 3, 4] rfl)
                · skip
                  have tc89 := f_eq (k := 0) (by decide) c89
                  refine lv_iload_n hx hb dX11_lists_92 rfl (lv_at hl 4 rfl) ?_
                  refine lv_i2l hx hb dX11_lists_93 rfl ?_
                  refine lv_goto (tgt := 110) hx hb dX11_lists_94 (by decide) ?_
                  exact J110 x2.toInt64 _ _ _  hH hS (lv_sub hl [0, 1, 2, 3, 4] rfl)
          refine lv_istore (lv' := [(6, .int 0), (5, .int v69), (4, .int v48), (3, .ref v23), (0, .ref a0), (1, .int x1), (2, .int x2)]) hx hb dX11_lists_75 hl (by decide) rfl (fun ls hl => ?_)
          exact J77 _ 0 _ _ _ rfl (by decide) (by decide) hH hS (lv_sub hl [0, 1, 3, 4, 6] rfl)
        · skip
          have tc55 := f_eq (k := 0) (by decide) c55
          refine lv_bipush (v := (-5)) hx hb dX11_lists_58 (by decide) ?_
          exact te_i hx hb hr hlocks hH hS (⟨rfl, by decide, by decide⟩) dX11_lists_60
      · skip
        have tc29 := f_ne (k := 0) (by decide) c29
        refine lv_bipush (v := (-6)) hx hb dX11_lists_32 (by decide) ?_
        exact te_i hx hb hr hlocks hH hS (⟨rfl, by decide, by decide⟩) dX11_lists_34
    · skip
      have tc12 := f_eq (k := 0) (by decide) c12
      exact J15  _ _ _  hH hS (lv_sub hl [] rfl)
set_option maxHeartbeats 4000000 in
set_option maxRecDepth 100000 in
theorem s_FW_image (l : Launch) (D : va_G) (cs : CS) (kf : KF) (T : TF) (O : List Nat) (X : va_W) (a0 w hw gw ch gq : Nat) (x1 : Int32) (t_a0 : T a0 = some (21, w, ch)) (t_w : isW T w hw gw) (t_ch : T ch = some (10, gq, 0)) (hO : okO T O [1, 4, 5, 16, 19, 21]) : TK l D cs kf yX11_image cX11_image 2 (some (.int)) { frames := 2, cells := 0, slots := 0, locals := 81 } [.ref a0, .int x1] T O X (Ti D cs (fun r u => u = (T, O, X) ∧ -2 ≤ r.toInt ∧ r.toInt ≤ 0)) := by
  refine tk_of (by decide) (Nat.le_of_ble_eq_true rfl) (fun p e s m below meth c ls A H locs hx hb hr hml hown hts hlocks hnm hkb hH hS hA hOX hks hE hl => ?_)
  have hown : s.vm.findClass RX11 = some m.cls := hown
  have hl : lv_has ls 2 [(0, .ref a0), (1, .int x1)] := hl
  have b1_w := t_w.2.1
  have b2_w := t_w.2.2
  refine lv_iload_n hx hb dX11_image_0 rfl (lv_at hl 1 rfl) ?_
  refine tk_i hH hS hA (tr_S (n := 1) (As := [.int x1]) hx hb hml hown hts hkb hH hOX hks hE hS hA (s_FW_isImage l D cs kf T O X x1  (hO.sub (by decide))) kw_1202 kw_1203 kw_1 kw_1204 (by decide +kernel) ⟨Nat.le_of_ble_eq_true rfl, Nat.le_of_ble_eq_true rfl⟩ rfl rfl hl.1 (Nat.le_of_ble_eq_true rfl) dX11_image_1 ⟨Nat.le_of_ble_eq_true rfl, Nat.le_of_ble_eq_true rfl⟩) (fun v1 u H locs hz9 hH hS => ?_)
  obtain ⟨rfl, l_v1, u_v1, x_v10⟩ := hz9
  have hH : HT D cs A T O X H := hH
  refine W.widen (k := 0) (n := 0) (Nat.le_of_ble_eq_true rfl) (Nat.le_of_ble_eq_true rfl) ?_
  refine lv_if_ne (tgt := 10) hx hb dX11_image_4 (by decide) (fun c4 => ?_) (fun c4 => ?_)
  · skip
    have tc4 := f_ne (k := 0) (by decide) c4
    refine lv_aload_n hx hb dX11_image_10 rfl (lv_at hl 0 rfl) ?_
    refine t_get (ci := 11) (lst := ft11 w ch) (C := RX11) (F := TX11) (N := 20) hx hb hts uX11 hown hkb hH t_a0 (hO.no t_a0 (by decide)) (fun _ h9 => h9) rfl rfl 9 (by decide) rfl kw_369 (fun _ h9 => h9) dX11_image_11 (fun v9 h9 => ?_)
    obtain ⟨v11, rfl, t_v11⟩ := h9
    refine lv_iload_n hx hb dX11_image_14 rfl (lv_at hl 1 rfl) ?_
    refine lv_aload_n hx hb dX11_image_15 rfl (lv_at hl 0 rfl) ?_
    refine t_get (ci := 11) (lst := ft11 w ch) (C := RX11) (F := TX11) (N := 20) hx hb hts uX11 hown hkb hH t_a0 (hO.no t_a0 (by decide)) (fun _ h9 => h9) rfl rfl 3 (by decide) rfl kw_363 (fun _ h9 => h9) dX11_image_16 (fun v9 h9 => ?_)
    have h9 : v9 = .ref w := h9
    subst h9
    refine t_qst5 hx hb hkb hH hS t_v11 (hO.no t_v11 (by decide)) t_w (hO.no t_w.1 (by decide)) (by omega) (by omega) dX11_image_19 (fun H locs hH hS => ?_)
    refine lv_aload_n hx hb dX11_image_20 rfl (lv_at hl 0 rfl) ?_
    refine t_get (ci := 11) (lst := ft11 w ch) (C := RX11) (F := TX11) (N := 20) hx hb hts uX11 hown hkb hH t_a0 (hO.no t_a0 (by decide)) (fun _ h9 => h9) rfl rfl 10 (by decide) rfl kw_370 (fun _ h9 => h9) dX11_image_21 (fun v9 h9 => ?_)
    obtain ⟨v21, rfl, t_v21⟩ := h9
    refine lv_iload_n hx hb dX11_image_24 rfl (lv_at hl 1 rfl) ?_
    refine t_qld4 hx hb hkb hH t_v21 (hO.no t_v21 (by decide)) (by omega) (by omega) dX11_image_25 (fun v25 t_v25 => ?_)
    refine lv_aload_n hx hb dX11_image_26 rfl (lv_at hl 0 rfl) ?_
    refine t_get (ci := 11) (lst := ft11 w ch) (C := RX11) (F := TX11) (N := 20) hx hb hts uX11 hown hkb hH t_a0 (hO.no t_a0 (by decide)) (fun _ h9 => h9) rfl rfl 4 (by decide) rfl kw_364 (fun _ h9 => h9) dX11_image_27 (fun v9 h9 => ?_)
    obtain ⟨v27, rfl, t_v27⟩ := h9
    refine tk_v hH hS hA (tr_V (n := 1) (As := [.ref v27]) hx hb hml hown hts hkb hH hOX hks hE hS hA (s_State_take l D cs kf T O X v25 v27 t_v25 t_v27 (hO.sub (by decide))) kw_757 kw_758 kw_759 kw_7 kw_760 (by decide +kernel) ⟨Nat.le_of_ble_eq_true rfl, Nat.le_of_ble_eq_true rfl⟩ (HT.recv (ci := 6) hkb hH t_v25 (hO.no t_v25 (by decide)) rfl) rfl rfl hl.1 (Nat.le_of_ble_eq_true rfl) dX11_image_30 ⟨Nat.le_of_ble_eq_true rfl, Nat.le_of_ble_eq_true rfl⟩) (fun u H locs hz9 hH hS => ?_)
    have hz9 : u = (T, O, X) := hz9
    subst hz9
    have hH : HT D cs A T O X H := hH
    refine W.widen (k := 0) (n := 0) (Nat.le_of_ble_eq_true rfl) (Nat.le_of_ble_eq_true rfl) ?_
    refine lv_iconst (v := 0) hx hb dX11_image_33 (by decide) ?_
    exact te_i hx hb hr hlocks hH hS (⟨rfl, by decide, by decide⟩) dX11_image_34
  · skip
    have tc4 := f_eq (k := 0) (by decide) c4
    refine lv_bipush (v := (-2)) hx hb dX11_image_7 (by decide) ?_
    exact te_i hx hb hr hlocks hH hS (⟨rfl, by decide, by decide⟩) dX11_image_9
set_option maxHeartbeats 4000000 in
set_option maxRecDepth 100000 in
theorem s_FW_count (l : Launch) (D : va_G) (cs : CS) (kf : KF) (T : TF) (O : List Nat) (X : va_W) (a0 w hw gw ch gq : Nat) (x1 : Int32) (t_a0 : T a0 = some (21, w, ch)) (t_w : isW T w hw gw) (t_ch : T ch = some (10, gq, 0)) (hO : okO T O [1, 16, 19, 21]) : TK l D cs kf yX11_count cX11_count 2 (some (.int)) { frames := 4, cells := 0, slots := 0, locals := 85 } [.ref a0, .int x1] T O X (Ti D cs (fun r u => u = (T, O, X))) := by
  refine tk_of (by decide) (Nat.le_of_ble_eq_true rfl) (fun p e s m below meth c ls A H locs hx hb hr hml hown hts hlocks hnm hkb hH hS hA hOX hks hE hl => ?_)
  have hown : s.vm.findClass RX11 = some m.cls := hown
  have hl : lv_has ls 2 [(0, .ref a0), (1, .int x1)] := hl
  have b1_w := t_w.2.1
  have b2_w := t_w.2.2
  refine lv_iload_n hx hb dX11_count_0 rfl (lv_at hl 1 rfl) ?_
  by_cases c1_0 : x1 = 0
  · skip
    refine lv_topc c1_0 ?_
    have tc1_0 := f_eq (k := 0) (by decide) c1_0
    refine lv_tableIn (off := 55) (tgt := 56) hx hb dX11_count_1 (by decide) (by decide) (by decide) (by decide) ?_
    refine lv_aload_n hx hb dX11_count_56 rfl (lv_at hl 0 rfl) ?_
    refine t_get (ci := 11) (lst := ft11 w ch) (C := RX11) (F := TX11) (N := 20) hx hb hts uX11 hown hkb hH t_a0 (hO.no t_a0 (by decide)) (fun _ h9 => h9) rfl rfl 3 (by decide) rfl kw_363 (fun _ h9 => h9) dX11_count_57 (fun v9 h9 => ?_)
    have h9 : v9 = .ref w := h9
    subst h9
    refine t_get (ci := 9) (lst := ft9w hw gw) (C := RX9) (F := TX9) (N := 14) hx hb hts uX9 hown hkb hH t_w.1 (hO.no t_w.1 (by decide)) (fun fs => (ob9w t_w fs).mp) rfl rfl 0 (by decide) rfl kw_109 (fun _ h9 => h9) dX11_count_60 (fun v9 h9 => ?_)
    have h9 : v9 = .int (nI hw) := h9
    subst h9
    have e_hw : (nI hw).toInt = hw := nI_toInt (by have := t_w.2.1; omega)
    have b_hw := t_w.2.1
    exact te_i hx hb hr hlocks hH hS (rfl) dX11_count_63
  have tc1_0 := f_ne (k := 0) (by decide) c1_0
  by_cases c1_1 : x1 = 1
  · skip
    refine lv_topc c1_1 ?_
    have tc1_1 := f_eq (k := 1) (by decide) c1_1
    refine lv_tableIn (off := 63) (tgt := 64) hx hb dX11_count_1 (by decide) (by decide) (by decide) (by decide) ?_
    refine lv_aload_n hx hb dX11_count_64 rfl (lv_at hl 0 rfl) ?_
    refine t_get (ci := 11) (lst := ft11 w ch) (C := RX11) (F := TX11) (N := 20) hx hb hts uX11 hown hkb hH t_a0 (hO.no t_a0 (by decide)) (fun _ h9 => h9) rfl rfl 3 (by decide) rfl kw_363 (fun _ h9 => h9) dX11_count_65 (fun v9 h9 => ?_)
    have h9 : v9 = .ref w := h9
    subst h9
    refine t_get (ci := 9) (lst := ft9w hw gw) (C := RX9) (F := TX9) (N := 14) hx hb hts uX9 hown hkb hH t_w.1 (hO.no t_w.1 (by decide)) (fun fs => (ob9w t_w fs).mp) rfl rfl 1 (by decide) rfl kw_112 (fun _ h9 => h9) dX11_count_68 (fun v9 h9 => ?_)
    have h9 : v9 = .int (nI gw) := h9
    subst h9
    have e_gw : (nI gw).toInt = gw := nI_toInt (by have := t_w.2.2; omega)
    have b_gw := t_w.2.2
    exact te_i hx hb hr hlocks hH hS (rfl) dX11_count_71
  have tc1_1 := f_ne (k := 1) (by decide) c1_1
  by_cases c1_2 : x1 = 2
  · skip
    refine lv_topc c1_2 ?_
    have tc1_2 := f_eq (k := 2) (by decide) c1_2
    refine lv_tableIn (off := 71) (tgt := 72) hx hb dX11_count_1 (by decide) (by decide) (by decide) (by decide) ?_
    refine lv_aload_n hx hb dX11_count_72 rfl (lv_at hl 0 rfl) ?_
    refine t_get (ci := 11) (lst := ft11 w ch) (C := RX11) (F := TX11) (N := 20) hx hb hts uX11 hown hkb hH t_a0 (hO.no t_a0 (by decide)) (fun _ h9 => h9) rfl rfl 4 (by decide) rfl kw_364 (fun _ h9 => h9) dX11_count_73 (fun v9 h9 => ?_)
    obtain ⟨v73, rfl, t_v73⟩ := h9
    refine t_get (ci := 6) (lst := ft6 0 0) (C := RX6) (F := TX6) (N := 6) hx hb hts uX6 hown hkb hH t_v73 (hO.no t_v73 (by decide)) (fun _ h9 => h9) rfl rfl 2 (by decide) rfl kw_191 (fun _ h9 => h9) dX11_count_76 (fun v9 h9 => ?_)
    obtain ⟨v76, rfl⟩ := h9
    exact te_i hx hb hr hlocks hH hS (rfl) dX11_count_79
  have tc1_2 := f_ne (k := 2) (by decide) c1_2
  by_cases c1_3 : x1 = 3
  · skip
    refine lv_topc c1_3 ?_
    have tc1_3 := f_eq (k := 3) (by decide) c1_3
    refine lv_tableIn (off := 79) (tgt := 80) hx hb dX11_count_1 (by decide) (by decide) (by decide) (by decide) ?_
    refine lv_aload_n hx hb dX11_count_80 rfl (lv_at hl 0 rfl) ?_
    refine t_get (ci := 11) (lst := ft11 w ch) (C := RX11) (F := TX11) (N := 20) hx hb hts uX11 hown hkb hH t_a0 (hO.no t_a0 (by decide)) (fun _ h9 => h9) rfl rfl 4 (by decide) rfl kw_364 (fun _ h9 => h9) dX11_count_81 (fun v9 h9 => ?_)
    obtain ⟨v81, rfl, t_v81⟩ := h9
    refine t_get (ci := 6) (lst := ft6 0 0) (C := RX6) (F := TX6) (N := 6) hx hb hts uX6 hown hkb hH t_v81 (hO.no t_v81 (by decide)) (fun _ h9 => h9) rfl rfl 3 (by decide) rfl kw_193 (fun _ h9 => h9) dX11_count_84 (fun v9 h9 => ?_)
    obtain ⟨v84, rfl⟩ := h9
    exact te_i hx hb hr hlocks hH hS (rfl) dX11_count_87
  have tc1_3 := f_ne (k := 3) (by decide) c1_3
  by_cases c1_4 : x1 = 4
  · skip
    refine lv_topc c1_4 ?_
    have tc1_4 := f_eq (k := 4) (by decide) c1_4
    refine lv_tableIn (off := 87) (tgt := 88) hx hb dX11_count_1 (by decide) (by decide) (by decide) (by decide) ?_
    refine lv_aload_n hx hb dX11_count_88 rfl (lv_at hl 0 rfl) ?_
    refine t_get (ci := 11) (lst := ft11 w ch) (C := RX11) (F := TX11) (N := 20) hx hb hts uX11 hown hkb hH t_a0 (hO.no t_a0 (by decide)) (fun _ h9 => h9) rfl rfl 4 (by decide) rfl kw_364 (fun _ h9 => h9) dX11_count_89 (fun v9 h9 => ?_)
    obtain ⟨v89, rfl, t_v89⟩ := h9
    refine t_get (ci := 6) (lst := ft6 0 0) (C := RX6) (F := TX6) (N := 6) hx hb hts uX6 hown hkb hH t_v89 (hO.no t_v89 (by decide)) (fun _ h9 => h9) rfl rfl 0 (by decide) rfl kw_186 (fun _ h9 => h9) dX11_count_92 (fun v9 h9 => ?_)
    obtain ⟨v92, rfl⟩ := h9
    refine tk_i hH hS hA (tr_S (n := 1) (As := [.int v92]) hx hb hml hown hts hkb hH hOX hks hE hS hA (s_bitCount l D cs kf T O X v92  (hO.sub (by decide))) kw_893 kw_692 kw_20 kw_693 (by decide +kernel) ⟨Nat.le_of_ble_eq_true rfl, Nat.le_of_ble_eq_true rfl⟩ rfl rfl hl.1 (Nat.le_of_ble_eq_true rfl) dX11_count_95 ⟨Nat.le_of_ble_eq_true rfl, Nat.le_of_ble_eq_true rfl⟩) (fun v95 u H locs hz9 hH hS => ?_)
    obtain ⟨rfl, l_v95, u_v95⟩ := hz9
    have hH : HT D cs A T O X H := hH
    refine W.widen (k := 0) (n := 0) (Nat.le_of_ble_eq_true rfl) (Nat.le_of_ble_eq_true rfl) ?_
    exact te_i hx hb hr hlocks hH hS (rfl) dX11_count_98
  have tc1_4 := f_ne (k := 4) (by decide) c1_4
  by_cases c1_5 : x1 = 5
  · skip
    refine lv_topc c1_5 ?_
    have tc1_5 := f_eq (k := 5) (by decide) c1_5
    refine lv_tableIn (off := 98) (tgt := 99) hx hb dX11_count_1 (by decide) (by decide) (by decide) (by decide) ?_
    refine lv_aload_n hx hb dX11_count_99 rfl (lv_at hl 0 rfl) ?_
    refine tk_i hH hS hA (tr_V (n := 0) (As := []) hx hb hml hown hts hkb hH hOX hks hE hS hA (s_FW_openNow l D cs kf T O X a0 w hw gw ch gq t_a0 t_w t_ch (hO.sub (by decide))) kw_846 kw_848 ks_22 kw_1 kw_849 (by decide +kernel) ⟨Nat.le_of_ble_eq_true rfl, Nat.le_of_ble_eq_true rfl⟩ (HT.recv (ci := 11) hkb hH t_a0 (hO.no t_a0 (by decide)) rfl) rfl rfl hl.1 (Nat.le_of_ble_eq_true rfl) dX11_count_100 ⟨Nat.le_of_ble_eq_true rfl, Nat.le_of_ble_eq_true rfl⟩) (fun v100 u H locs hz9 hH hS => ?_)
    obtain ⟨rfl, l_v100, u_v100⟩ := hz9
    have hH : HT D cs A T O X H := hH
    refine W.widen (k := 0) (n := 0) (Nat.le_of_ble_eq_true rfl) (Nat.le_of_ble_eq_true rfl) ?_
    refine tk_i hH hS hA (tr_S (n := 1) (As := [.int v100]) hx hb hml hown hts hkb hH hOX hks hE hS hA (s_bitCount l D cs kf T O X v100  (hO.sub (by decide))) kw_893 kw_692 kw_20 kw_693 (by decide +kernel) ⟨Nat.le_of_ble_eq_true rfl, Nat.le_of_ble_eq_true rfl⟩ rfl rfl hl.1 (Nat.le_of_ble_eq_true rfl) dX11_count_103 ⟨Nat.le_of_ble_eq_true rfl, Nat.le_of_ble_eq_true rfl⟩) (fun v103 u H locs hz9 hH hS => ?_)
    obtain ⟨rfl, l_v103, u_v103⟩ := hz9
    have hH : HT D cs A T O X H := hH
    refine W.widen (k := 0) (n := 0) (Nat.le_of_ble_eq_true rfl) (Nat.le_of_ble_eq_true rfl) ?_
    exact te_i hx hb hr hlocks hH hS (rfl) dX11_count_106
  have tc1_5 := f_ne (k := 5) (by decide) c1_5
  by_cases c1_6 : x1 = 6
  · skip
    refine lv_topc c1_6 ?_
    have tc1_6 := f_eq (k := 6) (by decide) c1_6
    refine lv_tableIn (off := 106) (tgt := 107) hx hb dX11_count_1 (by decide) (by decide) (by decide) (by decide) ?_
    refine lv_aload_n hx hb dX11_count_107 rfl (lv_at hl 0 rfl) ?_
    refine t_get (ci := 11) (lst := ft11 w ch) (C := RX11) (F := TX11) (N := 20) hx hb hts uX11 hown hkb hH t_a0 (hO.no t_a0 (by decide)) (fun _ h9 => h9) rfl rfl 7 (by decide) rfl kw_367 (fun _ h9 => h9) dX11_count_108 (fun v9 h9 => ?_)
    obtain ⟨v108, rfl, l_v108, u_v108⟩ := h9
    exact te_i hx hb hr hlocks hH hS (rfl) dX11_count_111
  have tc1_6 := f_ne (k := 6) (by decide) c1_6
  by_cases c1_7 : x1 = 7
  · skip
    refine lv_topc c1_7 ?_
    have tc1_7 := f_eq (k := 7) (by decide) c1_7
    refine lv_tableIn (off := 111) (tgt := 112) hx hb dX11_count_1 (by decide) (by decide) (by decide) (by decide) ?_
    refine lv_aload_n hx hb dX11_count_112 rfl (lv_at hl 0 rfl) ?_
    refine t_get (ci := 11) (lst := ft11 w ch) (C := RX11) (F := TX11) (N := 20) hx hb hts uX11 hown hkb hH t_a0 (hO.no t_a0 (by decide)) (fun _ h9 => h9) rfl rfl 1 (by decide) rfl kw_361 (fun _ h9 => h9) dX11_count_113 (fun v9 h9 => ?_)
    obtain ⟨v113, rfl, l_v113, u_v113, gt_v113⟩ := h9
    have eg_v113 : v113.toInt = (gq : Int) := by have q9 := tl_eq gt_v113 t_ch; omega
    exact te_i hx hb hr hlocks hH hS (rfl) dX11_count_116
  have tc1_7 := f_ne (k := 7) (by decide) c1_7
  by_cases c1_8 : x1 = 8
  · skip
    refine lv_topc c1_8 ?_
    have tc1_8 := f_eq (k := 8) (by decide) c1_8
    refine lv_tableIn (off := 116) (tgt := 117) hx hb dX11_count_1 (by decide) (by decide) (by decide) (by decide) ?_
    refine lv_aload_n hx hb dX11_count_117 rfl (lv_at hl 0 rfl) ?_
    refine t_get (ci := 11) (lst := ft11 w ch) (C := RX11) (F := TX11) (N := 20) hx hb hts uX11 hown hkb hH t_a0 (hO.no t_a0 (by decide)) (fun _ h9 => h9) rfl rfl 3 (by decide) rfl kw_363 (fun _ h9 => h9) dX11_count_118 (fun v9 h9 => ?_)
    have h9 : v9 = .ref w := h9
    subst h9
    refine t_get (ci := 9) (lst := ft9w hw gw) (C := RX9) (F := TX9) (N := 14) hx hb hts uX9 hown hkb hH t_w.1 (hO.no t_w.1 (by decide)) (fun fs => (ob9w t_w fs).mp) rfl rfl 2 (by decide) rfl kw_115 (fun _ h9 => h9) dX11_count_121 (fun v9 h9 => ?_)
    obtain ⟨v121, rfl⟩ := h9
    exact te_i hx hb hr hlocks hH hS (rfl) dX11_count_124
  have tc1_8 := f_ne (k := 8) (by decide) c1_8
  by_cases c1_9 : x1 = 9
  · skip
    refine lv_topc c1_9 ?_
    have tc1_9 := f_eq (k := 9) (by decide) c1_9
    refine lv_tableIn (off := 124) (tgt := 125) hx hb dX11_count_1 (by decide) (by decide) (by decide) (by decide) ?_
    refine lv_aload_n hx hb dX11_count_125 rfl (lv_at hl 0 rfl) ?_
    refine t_get (ci := 11) (lst := ft11 w ch) (C := RX11) (F := TX11) (N := 20) hx hb hts uX11 hown hkb hH t_a0 (hO.no t_a0 (by decide)) (fun _ h9 => h9) rfl rfl 4 (by decide) rfl kw_364 (fun _ h9 => h9) dX11_count_126 (fun v9 h9 => ?_)
    obtain ⟨v126, rfl, t_v126⟩ := h9
    refine t_get (ci := 6) (lst := ft6 0 0) (C := RX6) (F := TX6) (N := 6) hx hb hts uX6 hown hkb hH t_v126 (hO.no t_v126 (by decide)) (fun _ h9 => h9) rfl rfl 1 (by decide) rfl kw_188 (fun _ h9 => h9) dX11_count_129 (fun v9 h9 => ?_)
    obtain ⟨v129, rfl⟩ := h9
    refine tk_i hH hS hA (tr_S (n := 1) (As := [.int v129]) hx hb hml hown hts hkb hH hOX hks hE hS hA (s_bitCount l D cs kf T O X v129  (hO.sub (by decide))) kw_893 kw_692 kw_20 kw_693 (by decide +kernel) ⟨Nat.le_of_ble_eq_true rfl, Nat.le_of_ble_eq_true rfl⟩ rfl rfl hl.1 (Nat.le_of_ble_eq_true rfl) dX11_count_132 ⟨Nat.le_of_ble_eq_true rfl, Nat.le_of_ble_eq_true rfl⟩) (fun v132 u H locs hz9 hH hS => ?_)
    obtain ⟨rfl, l_v132, u_v132⟩ := hz9
    have hH : HT D cs A T O X H := hH
    refine W.widen (k := 0) (n := 0) (Nat.le_of_ble_eq_true rfl) (Nat.le_of_ble_eq_true rfl) ?_
    exact te_i hx hb hr hlocks hH hS (rfl) dX11_count_135
  have tc1_9 := f_ne (k := 9) (by decide) c1_9
  refine lv_tableOut (tgt := 136) hx hb dX11_count_1 (by omega) (by decide) ?_
  refine lv_iconst (v := (-1)) hx hb dX11_count_136 (by decide) ?_
  exact te_i hx hb hr hlocks hH hS (rfl) dX11_count_137
