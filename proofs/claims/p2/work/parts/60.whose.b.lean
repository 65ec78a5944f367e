set_option maxHeartbeats 4000000 in
set_option maxRecDepth 100000 in
theorem s_FW_idle (l : Launch) (D : va_G) (cs : CS) (kf : KF) (T : TF) (O : List Nat) (X : va_W) (a0 w hw gw ch gq : Nat) (x1 : Int32) (y0 : Nat) (y1 : Int32) (y2 : Nat) (y3 : Nat) (nn j : Nat) (t_a0 : T a0 = some (21, w, ch)) (t_w : isW T w hw gw) (t_ch : T ch = some (10, gq, 0)) (t_y0 : T y0 = some (1, nn, 0)) (l_y1 : 0 ≤ y1.toInt) (u_y1 : y1.toInt ≤ 16383) (t_y2 : T y2 = some (1, 14, 1)) (t_y3 : T y3 = some (1, 14, 0)) (hn : nn = 2 ^ j) (hj : j ≤ 14) (hO : okO T (ch :: O) [1, 7, 12, 15, 16, 19, 21]) : TKD l D cs kf yX11_idle cX11_idle 3 (some (.int)) { frames := 7, cells := 1, slots := 16384, locals := 179 } [.ref a0, .int x1] T (ch :: O) ((ch, .inr (0, [.ref y0, .int y1, .ref y2, .ref y3])) :: X) (fun kk ss => Ti D cs ((fun kk ss r u => ∃ T2 : TF, Tgr T T2 ∧ ∃ (n2 : Nat) (j2 : Nat) (n0_0 : Nat) (n0_1 : Int32), u = (T2, ch :: O, (ch, .inr (0, [.ref n0_0, .int n0_1, .ref y2, .ref y3])) :: X) ∧ -2 ≤ r.toInt ∧ r.toInt ≤ 16383 ∧ (T2 n0_0 = some (1, n2, 0)) ∧ (n2 = 2 ^ j2) ∧ (j ≤ j2) ∧ (j2 ≤ 14) ∧ (0 ≤ n0_1.toInt) ∧ (n0_1.toInt ≤ 16383) ∧ (True) ∧ (kk + j ≤ j2) ∧ (ss + 16384 * j ≤ 16384 * j2) ∧ (kk ≤ 1) ∧ (ss ≤ 16384)) kk ss)) := by
  refine tkd_of (by decide) (Nat.le_of_ble_eq_true rfl) (fun p e s m below meth c ls A H locs hx hb hr hml hown hts hlocks hnm hkb hH hS hA hOX hks hE hl => ?_)
  have hown : s.vm.findClass RX11 = some m.cls := hown
  have hl : lv_has ls 3 [(0, .ref a0), (1, .int x1)] := hl
  have b1_w := t_w.2.1
  have b2_w := t_w.2.2
  have hOXf := hOX
  have hnb := p2_le hn hj
  refine lv_aload_n hx hb dX11_idle_0 rfl (lv_at hl 0 rfl) ?_
  refine lv_iload_n hx hb dX11_idle_1 rfl (lv_at hl 1 rfl) ?_
  refine tk_i hH hS hA (tr_V (n := 1) (As := [.int x1]) hx hb hml hown hts hkb hH (ox_map hOX rfl) hks hE hS hA (s_FW_isGuide l D cs kf T (ch :: O) ((ch, .inr (0, [.ref y0, .int y1, .ref y2, .ref y3])) :: X) a0 w hw gw ch gq x1 t_a0 t_w t_ch (hO.sub (by decide))) kw_794 kw_796 ks_20 kw_1 kw_797 (by decide +kernel) ⟨Nat.le_of_ble_eq_true rfl, Nat.le_of_ble_eq_true rfl⟩ (HT.recv (ci := 11) hkb hH t_a0 (hO.no t_a0 (by decide)) rfl) rfl rfl hl.1 (Nat.le_of_ble_eq_true rfl) dX11_idle_2 ⟨by show 0 + 0 ≤ 1; omega, by show 0 + 0 ≤ 16384; omega⟩) (fun v2 u H locs hz9 hH hS => ?_)
  obtain ⟨rfl, l_v2, u_v2, x_v20⟩ := hz9
  have hH : HT D cs A T (ch :: O) ((ch, .inr (0, [.ref y0, .int y1, .ref y2, .ref y3])) :: X) H := hH
  refine W.widen (k := 0) (n := 0) (Nat.le_refl _) (Nat.le_refl _) ?_
  refine lv_if_ne (tgt := 11) hx hb dX11_idle_5 (by decide) (fun c5 => ?_) (fun c5 => ?_)
  · skip
    have tc5 := f_ne (k := 0) (by decide) c5
    refine lv_aload_n hx hb dX11_idle_11 rfl (lv_at hl 0 rfl) ?_
    refine tk_i hH hS hA (tr_V (n := 0) (As := []) hx hb hml hown hts hkb hH (ox_map hOX rfl) hks hE hS hA (s_FW_openNow l D cs kf T (ch :: O) ((ch, .inr (0, [.ref y0, .int y1, .ref y2, .ref y3])) :: X) a0 w hw gw ch gq t_a0 t_w t_ch (hO.sub (by decide))) kw_846 kw_848 ks_22 kw_1 kw_849 (by decide +kernel) ⟨Nat.le_of_ble_eq_true rfl, Nat.le_of_ble_eq_true rfl⟩ (HT.recv (ci := 11) hkb hH t_a0 (hO.no t_a0 (by decide)) rfl) rfl rfl hl.1 (Nat.le_of_ble_eq_true rfl) dX11_idle_12 ⟨by show 0 + 0 ≤ 1; omega, by show 0 + 0 ≤ 16384; omega⟩) (fun v12 u H locs hz9 hH hS => ?_)
    obtain ⟨rfl, l_v12, u_v12⟩ := hz9
    have hH : HT D cs A T (ch :: O) ((ch, .inr (0, [.ref y0, .int y1, .ref y2, .ref y3])) :: X) H := hH
    refine W.widen (k := 0) (n := 0) (Nat.le_refl _) (Nat.le_refl _) ?_
    refine lv_istore_n (lv' := [(2, .int v12), (0, .ref a0), (1, .int x1)]) hx hb dX11_idle_15 rfl hl (by decide) rfl (fun ls hl => ?_)
    refine lv_iload_n hx hb dX11_idle_16 rfl (lv_at hl 0 rfl) ?_
    refine lv_aload_n hx hb dX11_idle_17 rfl (lv_at hl 1 rfl) ?_
    refine t_get (ci := 11) (lst := ft11 w ch) (C := RX11) (F := TX11) (N := 20) hx hb hts uX11 hown hkb hH t_a0 (hO.no t_a0 (by decide)) (fun _ h9 => h9) rfl rfl 16 (by decide) rfl kw_376 (fun _ h9 => h9) dX11_idle_18 (fun v9 h9 => ?_)
    have h9 : v9 = .ref ch := h9
    subst h9
    refine lv_aload_n hx hb dX11_idle_21 rfl (lv_at hl 1 rfl) ?_
    refine lv_iload_n hx hb dX11_idle_22 rfl (lv_at hl 2 rfl) ?_
    refine tk_r hH hS hA (tr_V (n := 1) (As := [.int x1]) hx hb hml hown hts hkb hH (ox_map hOX rfl) hks hE hS hA (s_FW_rowsOf l D cs kf T (ch :: O) ((ch, .inr (0, [.ref y0, .int y1, .ref y2, .ref y3])) :: X) a0 w hw gw ch gq x1 t_a0 t_w t_ch (by omega) (by omega) (hO.sub (by decide))) kw_830 kw_832 ks_21 kw_1 kw_833 (by decide +kernel) ⟨Nat.le_of_ble_eq_true rfl, Nat.le_of_ble_eq_true rfl⟩ (HT.recv (ci := 11) hkb hH t_a0 (hO.no t_a0 (by decide)) rfl) rfl rfl hl.1 (Nat.le_of_ble_eq_true rfl) dX11_idle_23 ⟨by show 0 + 0 ≤ 1; omega, by show 0 + 0 ≤ 16384; omega⟩) (fun v23 u H locs hz9 hH hS => ?_)
    obtain ⟨hu9, t_v23⟩ := hz9
    have hu9 : u = (T, ch :: O, (ch, .inr (0, [.ref y0, .int y1, .ref y2, .ref y3])) :: X) := hu9
    subst hu9
    have hH : HT D cs A T (ch :: O) ((ch, .inr (0, [.ref y0, .int y1, .ref y2, .ref y3])) :: X) H := hH
    refine W.widen (k := 0) (n := 0) (Nat.le_refl _) (Nat.le_refl _) ?_
    refine lv_iload_n hx hb dX11_idle_26 rfl (lv_at hl 0 rfl) ?_
    refine tk_iD hH hS hA (tr_VD (n := 2) (As := [.ref v23, .int v12]) hx hb hml hown hts hkb hH (ox_map hOX rfl) hks hE hS hA (s_Ch_inClimbs l D cs kf T O X ch v23 v12 y0 y1 y2 y3 nn j gq t_ch t_v23 t_y0 (by omega) (by omega) t_y2 t_y3 hn (by omega) (hO.sub (by decide))) kw_1067 kw_1068 kw_1069 kw_11 kw_1070 (by decide +kernel) ⟨Nat.le_of_ble_eq_true rfl, Nat.le_of_ble_eq_true rfl⟩ (x_recv (ci := 0) hkb hH 0 rfl rfl) rfl rfl hl.1 (Nat.le_of_ble_eq_true rfl) dX11_idle_27 ⟨by show 0 + 1 ≤ 1; omega, by show 0 + 16384 ≤ 16384; omega⟩) (fun v27 kc27 ks27 u H locs hz9 hH hS => ?_)
    obtain ⟨T27, le_T27, n2_27, j2_27, n27_0_0, n27_0_1, rfl, l_v27, u_v27, x_v270, x_v271, x_v272, x_v273, x_v274, x_v275, x_v276, x_v277, x_v278, x_v279, x_v2710⟩ := hz9
    have t_a0 := le_T27.1 _ _ t_a0
    have t_w := isW.le le_T27.1 t_w
    have t_ch := le_T27.1 _ _ t_ch
    have t_y0 := le_T27.1 _ _ t_y0
    have t_y2 := le_T27.1 _ _ t_y2
    have t_y3 := le_T27.1 _ _ t_y3
    have t_v23 := le_T27.1 _ _ t_v23
    have hO := okO.le le_T27.1 hO
    have t_n27_0_0 := x_v270
    have hnb_27 := p2_le x_v271 (by omega)
    have hH : HT D cs A T27 (ch :: O) ((ch, .inr (0, [.ref n27_0_0, .int n27_0_1, .ref y2, .ref y3])) :: X) H := hH
    refine lv_iconst (v := (-1)) hx hb dX11_idle_30 (by decide) ?_
    refine lv_ixor hx hb dX11_idle_31 ?_
    refine lv_topi (fun v31 ev31 => ?_)
    refine lv_iand hx hb dX11_idle_32 ?_
    refine lv_topi (fun v32 ev32 => ?_)
    have tv32 : 0 ≤ v32.toInt ∧ v32.toInt ≤ v12.toInt := by rw [ev32]; exact and_l (by omega)
    exact te_iD hx hb hr hlocks hH hS (⟨T27, le_T27, n2_27, j2_27, n27_0_0, n27_0_1, rfl, by omega, by omega, t_n27_0_0, x_v271, by omega, by omega, by omega, by omega, trivial, by omega, by omega, by omega, by omega⟩) dX11_idle_33
  · skip
    have tc5 := f_eq (k := 0) (by decide) c5
    refine lv_bipush (v := (-2)) hx hb dX11_idle_8 (by decide) ?_
    have z9_m2 : ((-2) : Int32).toInt = -2 := by decide
    exact te_iD hx hb hr hlocks hH hS (⟨T, Tgr.rf, nn, j, y0, y1, rfl, by decide, by decide, t_y0, hn, by omega, by omega, by omega, by omega, trivial, by omega, by omega, by omega, by omega⟩) dX11_idle_10
set_option maxHeartbeats 4000000 in
set_option maxRecDepth 100000 in
theorem s_FW_whose (l : Launch) (D : va_G) (cs : CS) (kf : KF) (T : TF) (O : List Nat) (X : va_W) (a0 w hw gw ch gq : Nat) (x1 : Int32) (y0 : Nat) (y1 : Int32) (y2 : Nat) (y3 : Nat) (nn j : Nat) (t_a0 : T a0 = some (21, w, ch)) (t_w : isW T w hw gw) (t_ch : T ch = some (10, gq, 0)) (t_y0 : T y0 = some (1, nn, 0)) (l_y1 : 0 ≤ y1.toInt) (u_y1 : y1.toInt ≤ 16383) (t_y2 : T y2 = some (1, 14, 1)) (t_y3 : T y3 = some (1, 14, 0)) (hn : nn = 2 ^ j) (hj : j ≤ 14) (hO : okO T (ch :: O) [1, 7, 12, 15, 16, 19, 21]) : TKD l D cs kf yX11_whose cX11_whose 5 (some (.int)) { frames := 6, cells := 15, slots := 245760, locals := 162 } [.ref a0, .int x1] T (ch :: O) ((ch, .inr (0, [.ref y0, .int y1, .ref y2, .ref y3])) :: X) (fun kk ss => Ti D cs ((fun kk ss r u => ∃ T2 : TF, Tgr T T2 ∧ ∃ (n2 : Nat) (j2 : Nat) (n0_0 : Nat) (n0_1 : Int32), u = (T2, ch :: O, (ch, .inr (0, [.ref n0_0, .int n0_1, .ref y2, .ref y3])) :: X) ∧ -3 ≤ r.toInt ∧ r.toInt ≤ 16383 ∧ (T2 n0_0 = some (1, n2, 0)) ∧ (n2 = 2 ^ j2) ∧ (j ≤ j2) ∧ (j2 ≤ 14) ∧ (0 ≤ n0_1.toInt) ∧ (n0_1.toInt ≤ 16383) ∧ (True) ∧ (kk + j ≤ j2) ∧ (ss + 16384 * j ≤ 16384 * j2)) kk ss)) := by
  refine tkd_of (by decide) (Nat.le_of_ble_eq_true rfl) (fun p e s m below meth c ls A H locs hx hb hr hml hown hts hlocks hnm hkb hH hS hA hOX hks hE hl => ?_)
  have hown : s.vm.findClass RX11 = some m.cls := hown
  have hl : lv_has ls 5 [(0, .ref a0), (1, .int x1)] := hl
  have b1_w := t_w.2.1
  have b2_w := t_w.2.2
  have hOXf := hOX
  have hnb := p2_le hn hj
  refine lv_aload_n hx hb dX11_whose_0 rfl (lv_at hl 0 rfl) ?_
  refine lv_aload_n hx hb dX11_whose_1 rfl (lv_at hl 0 rfl) ?_
  refine t_get (ci := 11) (lst := ft11 w ch) (C := RX11) (F := TX11) (N := 20) hx hb hts uX11 hown hkb hH t_a0 (hO.no t_a0 (by decide)) (fun _ h9 => h9) rfl rfl 4 (by decide) rfl kw_364 (fun _ h9 => h9) dX11_whose_2 (fun v9 h9 => ?_)
  obtain ⟨v2, rfl, t_v2⟩ := h9
  refine t_get (ci := 6) (lst := ft6 0 0) (C := RX6) (F := TX6) (N := 6) hx hb hts uX6 hown hkb hH t_v2 (hO.no t_v2 (by decide)) (fun _ h9 => h9) rfl rfl 2 (by decide) rfl kw_191 (fun _ h9 => h9) dX11_whose_5 (fun v9 h9 => ?_)
  obtain ⟨v5, rfl⟩ := h9
  refine tk_i hH hS hA (tr_V (n := 1) (As := [.int v5]) hx hb hml hown hts hkb hH (ox_map hOX rfl) hks hE hS hA (s_FW_thereOn l D cs kf T (ch :: O) ((ch, .inr (0, [.ref y0, .int y1, .ref y2, .ref y3])) :: X) a0 w hw gw ch gq v5 t_a0 t_w t_ch (hO.sub (by decide))) kw_774 kw_776 ks_18 kw_1 kw_777 (by decide +kernel) ⟨Nat.le_of_ble_eq_true rfl, Nat.le_of_ble_eq_true rfl⟩ (HT.recv (ci := 11) hkb hH t_a0 (hO.no t_a0 (by decide)) rfl) rfl rfl hl.1 (Nat.le_of_ble_eq_true rfl) dX11_whose_8 ⟨by show 0 + 0 ≤ 15; omega, by show 0 + 0 ≤ 245760; omega⟩) (fun v8 u H locs hz9 hH hS => ?_)
  obtain ⟨rfl, l_v8, u_v8⟩ := hz9
  have hH : HT D cs A T (ch :: O) ((ch, .inr (0, [.ref y0, .int y1, .ref y2, .ref y3])) :: X) H := hH
  refine W.widen (k := 0) (n := 0) (Nat.le_refl _) (Nat.le_refl _) ?_
  refine lv_istore_n (lv' := [(2, .int v8), (0, .ref a0), (1, .int x1)]) hx hb dX11_whose_11 rfl hl (by decide) rfl (fun ls hl => ?_)
  refine lv_iload_n hx hb dX11_whose_12 rfl (lv_at hl 2 rfl) ?_
  refine lv_iload_n hx hb dX11_whose_13 rfl (lv_at hl 0 rfl) ?_
  refine lv_aload_n hx hb dX11_whose_14 rfl (lv_at hl 1 rfl) ?_
  refine t_get (ci := 11) (lst := ft11 w ch) (C := RX11) (F := TX11) (N := 20) hx hb hts uX11 hown hkb hH t_a0 (hO.no t_a0 (by decide)) (fun _ h9 => h9) rfl rfl 3 (by decide) rfl kw_363 (fun _ h9 => h9) dX11_whose_15 (fun v9 h9 => ?_)
  have h9 : v9 = .ref w := h9
  subst h9
  refine tk_i hH hS hA (tr_V (n := 0) (As := []) hx hb hml hown hts hkb hH (ox_map hOX rfl) hks hE hS hA (s_Wall_middles l D cs kf T (ch :: O) ((ch, .inr (0, [.ref y0, .int y1, .ref y2, .ref y3])) :: X) w hw gw t_w (hO.sub (by decide))) kw_892 kw_683 kw_684 kw_5 kw_685 (by decide +kernel) ⟨Nat.le_of_ble_eq_true rfl, Nat.le_of_ble_eq_true rfl⟩ (HT.recv (ci := 9) hkb hH t_w.1 (hO.no t_w.1 (by decide)) rfl) rfl rfl hl.1 (Nat.le_of_ble_eq_true rfl) dX11_whose_18 ⟨by show 0 + 0 ≤ 15; omega, by show 0 + 0 ≤ 245760; omega⟩) (fun v18 u H locs hz9 hH hS => ?_)
  obtain ⟨rfl, l_v18, u_v18⟩ := hz9
  have hH : HT D cs A T (ch :: O) ((ch, .inr (0, [.ref y0, .int y1, .ref y2, .ref y3])) :: X) H := hH
  refine W.widen (k := 0) (n := 0) (Nat.le_refl _) (Nat.le_refl _) ?_
  refine lv_iand hx hb dX11_whose_21 ?_
  refine lv_topi (fun v21 ev21 => ?_)
  have tv21 : 0 ≤ v21.toInt ∧ v21.toInt ≤ v8.toInt := by rw [ev21]; exact and_l (by omega)
  have ttv21 : 0 ≤ v21.toInt ∧ v21.toInt ≤ v18.toInt := by rw [ev21]; exact and_r (by omega)
  refine lv_iconst (v := (-1)) hx hb dX11_whose_22 (by decide) ?_
  refine lv_ixor hx hb dX11_whose_23 ?_
  refine lv_topi (fun v23 ev23 => ?_)
  refine lv_iand hx hb dX11_whose_24 ?_
  refine lv_topi (fun v24 ev24 => ?_)
  refine lv_if_eq (tgt := 31) hx hb dX11_whose_25 (by decide) (fun c25 => ?_) (fun c25 => ?_)
  · skip
    have tc25 := f_eq (k := 0) (by decide) c25
    refine lv_iconst (v := 0) hx hb dX11_whose_31 (by decide) ?_
    refine lv_istore_n (lv' := [(3, .int 0), (2, .int v8), (0, .ref a0), (1, .int x1)]) hx hb dX11_whose_32 rfl hl (by decide) rfl (fun ls hl => ?_)
    refine lv_iconst (v := 0) hx hb dX11_whose_33 (by decide) ?_
    have J36 : ∀ (n : Nat) (T36q : TF) (kc36 ks36 : Nat) (p36_4 : Int32) (p36_3 : Int32) (f36_100 : Nat) (nf36_100 jf36_100 : Nat) (f36_101 : Int32) (H : Heap) (locs : List Loc) (ls : Array Slot), (5 - p36_4.toInt).toNat = n → Tgr T T36q → (T36q f36_100 = some (1, nf36_100, 0)) → (nf36_100 = 2 ^ jf36_100) → (jf36_100 ≤ 14) → (0 ≤ p36_4.toInt) → (p36_4.toInt ≤ 5) → (0 ≤ p36_3.toInt) → (p36_3.toInt ≤ 16383) → (0 ≤ f36_101.toInt) → (f36_101.toInt ≤ 16383) → (kc36 + j ≤ jf36_100) → (ks36 + 16384 * j ≤ 16384 * jf36_100) → (j ≤ jf36_100) → HT D cs A T36q (ch :: O) ((ch, .inr (0, [.ref f36_100, .int f36_101, .ref y2, .ref y3])) :: X) H → va_S A s.heap H locs → lv_has ls 5 [(4, .int p36_4), (3, .int p36_3), (2, .int v8), (0, .ref a0), (1, .int x1)] → W p l e { frames := 6, cells := 15, slots := 245760, locals := 162 } s m [.ref a0, .int x1].toArray below meth c H locs kc36 ks36 (MQD below (fun kk ss => Ti D cs ((fun kk ss r u => ∃ T2 : TF, Tgr T T2 ∧ ∃ (n2 : Nat) (j2 : Nat) (n0_0 : Nat) (n0_1 : Int32), u = (T2, ch :: O, (ch, .inr (0, [.ref n0_0, .int n0_1, .ref y2, .ref y3])) :: X) ∧ -3 ≤ r.toInt ∧ r.toInt ≤ 16383 ∧ (T2 n0_0 = some (1, n2, 0)) ∧ (n2 = 2 ^ j2) ∧ (j ≤ j2) ∧ (j2 ≤ 14) ∧ (0 ≤ n0_1.toInt) ∧ (n0_1.toInt ≤ 16383) ∧ (True) ∧ (kk + j ≤ j2) ∧ (ss + 16384 * j ≤ 16384 * j2)) kk ss) A) [.ref a0, .int x1].toArray s A) (F0 m 36 ls []) := by
      intro n
      induction n using Nat.strongRecOn with
      | _ n ih36 =>
        intro T36q kc36 ks36 p36_4 p36_3 f36_100 nf36_100 jf36_100 f36_101 H locs ls hm36 le_T36q t_f36_100 q_f36_100 qj_f36_100 l_p36_4 u_p36_4 l_p36_3 u_p36_3 l_f36_101 u_f36_101 i36a i36b i36c hH hS hl
        have t_a0 := le_T36q.1 _ _ t_a0
        have t_w := isW.le le_T36q.1 t_w
        have t_ch := le_T36q.1 _ _ t_ch
        have t_y0 := le_T36q.1 _ _ t_y0
        have t_y2 := le_T36q.1 _ _ t_y2
        have t_y3 := le_T36q.1 _ _ t_y3
        have t_v2 := le_T36q.1 _ _ t_v2
        have hO := okO.le le_T36q.1 hO
        have qb_f36_100 := p2_le q_f36_100 qj_f36_100
        refine lv_iload hx hb dX11_whose_36 (lv_at hl 0 rfl) ?_
        refine lv_aload_n hx hb dX11_whose_38 rfl (lv_at hl 3 rfl) ?_
        refine t_get (ci := 11) (lst := ft11 w ch) (C := RX11) (F := TX11) (N := 20) hx hb hts uX11 hown hkb hH t_a0 (hO.no t_a0 (by decide)) (fun _ h9 => h9) rfl rfl 3 (by decide) rfl kw_363 (fun _ h9 => h9) dX11_whose_39 (fun v9 h9 => ?_)
        have h9 : v9 = .ref w := h9
        subst h9
        refine t_get (ci := 9) (lst := ft9w hw gw) (C := RX9) (F := TX9) (N := 14) hx hb hts uX9 hown hkb hH t_w.1 (hO.no t_w.1 (by decide)) (fun fs => (ob9w t_w fs).mp) rfl rfl 1 (by decide) rfl kw_112 (fun _ h9 => h9) dX11_whose_42 (fun v9 h9 => ?_)
        have h9 : v9 = .int (nI gw) := h9
        subst h9
        have e_gw : (nI gw).toInt = gw := nI_toInt (by have := t_w.2.2; omega)
        have b_gw := t_w.2.2
        refine lv_icmp_ge (tgt := 80) hx hb dX11_whose_45 (by decide) (fun c45 => ?_) (fun c45 => ?_)
        · skip
          have fuc45 := full_i p36_4
          have fvc45 := full_i (nI gw)
          have tc45 := g_le c45
          refine lv_iload_n hx hb dX11_whose_80 rfl (lv_at hl 1 rfl) ?_
          exact te_iD hx hb hr hlocks hH hS (⟨T36q, le_T36q, nf36_100, jf36_100, f36_100, f36_101, rfl, by omega, by omega, t_f36_100, q_f36_100, by omega, by omega, by omega, by omega, trivial, by omega, by omega⟩) dX11_whose_81
        · skip
          have fuc45 := full_i p36_4
          have fvc45 := full_i (nI gw)
          have tc45 := g_nle c45
          refine lv_aload_n hx hb dX11_whose_48 rfl (lv_at hl 3 rfl) ?_
          refine t_get (ci := 11) (lst := ft11 w ch) (C := RX11) (F := TX11) (N := 20) hx hb hts uX11 hown hkb hH t_a0 (hO.no t_a0 (by decide)) (fun _ h9 => h9) rfl rfl 16 (by decide) rfl kw_376 (fun _ h9 => h9) dX11_whose_49 (fun v9 h9 => ?_)
          have h9 : v9 = .ref ch := h9
          subst h9
          refine lv_aload_n hx hb dX11_whose_52 rfl (lv_at hl 3 rfl) ?_
          refine lv_iload hx hb dX11_whose_53 (lv_at hl 0 rfl) ?_
          refine tk_r hH hS hA (tr_V (n := 1) (As := [.int p36_4]) hx hb hml hown hts hkb hH (ox_map hOX rfl) hks hE hS hA (s_FW_rowsOf l D cs kf T36q (ch :: O) ((ch, .inr (0, [.ref f36_100, .int f36_101, .ref y2, .ref y3])) :: X) a0 w hw gw ch gq p36_4 t_a0 t_w t_ch (by omega) (by omega) (hO.sub (by decide))) kw_830 kw_832 ks_21 kw_1 kw_833 (by decide +kernel) ⟨Nat.le_of_ble_eq_true rfl, Nat.le_of_ble_eq_true rfl⟩ (HT.recv (ci := 11) hkb hH t_a0 (hO.no t_a0 (by decide)) rfl) rfl rfl hl.1 (Nat.le_of_ble_eq_true rfl) dX11_whose_55 ⟨by show kc36 + 0 ≤ 15; omega, by show ks36 + 0 ≤ 245760; omega⟩) (fun v55 u H locs hz9 hH hS => ?_)
          obtain ⟨hu9, t_v55⟩ := hz9
          have hu9 : u = (T36q, ch :: O, (ch, .inr (0, [.ref f36_100, .int f36_101, .ref y2, .ref y3])) :: X) := hu9
          subst hu9
          have hH : HT D cs A T36q (ch :: O) ((ch, .inr (0, [.ref f36_100, .int f36_101, .ref y2, .ref y3])) :: X) H := hH
          refine W.widen (k := kc36) (n := ks36) (Nat.le_refl _) (Nat.le_refl _) ?_
          refine lv_iload_n hx hb dX11_whose_58 rfl (lv_at hl 4 rfl) ?_
          refine lv_iload_n hx hb dX11_whose_59 rfl (lv_at hl 2 rfl) ?_
          refine tk_iD hH hS hA (tr_VD (n := 3) (As := [.ref v55, .int x1, .int v8]) hx hb hml hown hts hkb hH (ox_map hOX rfl) hks hE hS hA (s_Ch_fewest l D cs kf T36q O X ch v55 x1 v8 f36_100 f36_101 y2 y3 nf36_100 jf36_100 gq t_ch t_v55 t_f36_100 (by omega) (by omega) t_y2 t_y3 q_f36_100 (by omega) (hO.sub (by decide))) kw_1127 kw_1128 kw_1129 kw_11 kw_1130 (by decide +kernel) ⟨Nat.le_of_ble_eq_true rfl, Nat.le_of_ble_eq_true rfl⟩ (x_recv (ci := 0) hkb hH 0 rfl rfl) rfl rfl hl.1 (Nat.le_of_ble_eq_true rfl) dX11_whose_60 ⟨by show kc36 + 1 ≤ 15; omega, by show ks36 + 16384 ≤ 245760; omega⟩) (fun v60 kc60 ks60 u H locs hz9 hH hS => ?_)
          obtain ⟨T60, le_T60, n2_60, j2_60, n60_0_0, n60_0_1, rfl, l_v60, u_v60, x_v600, x_v601, x_v602, x_v603, x_v604, x_v605, x_v606, x_v607, x_v608, x_v609, x_v6010⟩ := hz9
          have t_a0 := le_T60.1 _ _ t_a0
          have t_w := isW.le le_T60.1 t_w
          have t_ch := le_T60.1 _ _ t_ch
          have t_y0 := le_T60.1 _ _ t_y0
          have t_y2 := le_T60.1 _ _ t_y2
          have t_y3 := le_T60.1 _ _ t_y3
          have t_v2 := le_T60.1 _ _ t_v2
          have t_f36_100 := le_T60.1 _ _ t_f36_100
          have t_v55 := le_T60.1 _ _ t_v55
          have hO := okO.le le_T60.1 hO
          have t_n60_0_0 := x_v600
          have hnb_60 := p2_le x_v601 (by omega)
          have hH : HT D cs A T60 (ch :: O) ((ch, .inr (0, [.ref n60_0_0, .int n60_0_1, .ref y2, .ref y3])) :: X) H := hH
          refine lv_iconst (v := (-1)) hx hb dX11_whose_63 (by decide) ?_
          have J74 : ∀ (p74_3 : Int32) (H : Heap) (locs : List Loc) (ls : Array Slot), (0 ≤ p74_3.toInt) → (p74_3.toInt ≤ 16383) → HT D cs A T60 (ch :: O) ((ch, .inr (0, [.ref n60_0_0, .int n60_0_1, .ref y2, .ref y3])) :: X) H → va_S A s.heap H locs → lv_has ls 5 [(4, .int p36_4), (3, .int p74_3), (2, .int v8), (0, .ref a0), (1, .int x1)] → W p l e { frames := 6, cells := 15, slots := 245760, locals := 162 } s m [.ref a0, .int x1].toArray below meth c H locs (kc36 + kc60) (ks36 + ks60) (MQD below (fun kk ss => Ti D cs ((fun kk ss r u => ∃ T2 : TF, Tgr T T2 ∧ ∃ (n2 : Nat) (j2 : Nat) (n0_0 : Nat) (n0_1 : Int32), u = (T2, ch :: O, (ch, .inr (0, [.ref n0_0, .int n0_1, .ref y2, .ref y3])) :: X) ∧ -3 ≤ r.toInt ∧ r.toInt ≤ 16383 ∧ (T2 n0_0 = some (1, n2, 0)) ∧ (n2 = 2 ^ j2) ∧ (j ≤ j2) ∧ (j2 ≤ 14) ∧ (0 ≤ n0_1.toInt) ∧ (n0_1.toInt ≤ 16383) ∧ (True) ∧ (kk + j ≤ j2) ∧ (ss + 16384 * j ≤ 16384 * j2)) kk ss) A) [.ref a0, .int x1].toArray s A) (F0 m 74 ls []) := by
            intro p74_3 H locs ls l_p74_3 u_p74_3 hH hS hl
            obtain ⟨v74, ev74⟩ : ∃ y : Int32, y = p36_4 + 1 := ⟨_, rfl⟩
            have tv74 : v74.toInt = p36_4.toInt + (1) := by rw [ev74]; exact add_i rfl (by decide) (by omega) (by omega)
            refine lv_iinc (v := v74) (lv' := [(4, .int v74), (3, .int p74_3), (2, .int v8), (0, .ref a0), (1, .int x1)]) hx hb dX11_whose_74 hl (k := 0) rfl (by rw [ev74]; rfl) (by decide) rfl (fun ls hl => ?_)
            refine lv_goto (tgt := 36) hx hb dX11_whose_77 (by decide) ?_
            exact ih36 _ (by omega) T60 (kc36 + kc60) (ks36 + ks60) v74 p74_3 n60_0_0 n2_60 j2_60 n60_0_1 _ _ _ rfl (Tgr.tr le_T36q le_T60) t_n60_0_0 x_v601 (by omega) (by omega) (by omega) (by omega) (by omega) (by omega) (by omega) (by omega) (by omega) (by omega) hH hS (lv_sub hl [0, 1, 2, 3, 4] rfl)
          refine lv_icmp_eq (tgt := 74) hx hb dX11_whose_64 (by decide) (fun c64 => ?_) (fun c64 => ?_)
          · skip
            have tc64 := f_eq (k := -1) (by decide) c64
            exact J74 p36_3 _ _ _ (by omega) (by omega) hH hS (lv_sub hl [0, 1, 2, 3, 4] rfl)
          · skip
            have tc64 := f_ne (k := -1) (by decide) c64
            refine lv_iload_n hx hb dX11_whose_67 rfl (lv_at hl 1 rfl) ?_
            refine lv_iconst (v := 1) hx hb dX11_whose_68 (by decide) ?_
            refine lv_iload hx hb dX11_whose_69 (lv_at hl 0 rfl) ?_
            refine lv_ishl hx hb dX11_whose_71 ?_
            refine lv_topi (fun v71 ev71 => ?_)
            have tv71 : 1 ≤ v71.toInt ∧ v71.toInt ≤ 16 := by rw [ev71]; exact shl_b 4 (by decide) (by omega) (by omega)
            refine lv_ior hx hb dX11_whose_72 ?_
            refine lv_topi (fun v72 ev72 => ?_)
            have tv72 : 0 ≤ v72.toInt ∧ v72.toInt < 16384 := by rw [ev72]; exact or_b 14 (by decide) (by omega) (by omega) (by omega) (by omega)
            refine lv_istore_n (lv' := [(3, .int v72), (4, .int p36_4), (2, .int v8), (0, .ref a0), (1, .int x1)]) hx hb dX11_whose_73 rfl hl (by decide) rfl (fun ls hl => ?_)
            exact J74 v72 _ _ _ (by omega) (by omega) hH hS (lv_sub hl [1, 0, 2, 3, 4] rfl)
    refine lv_istore (lv' := [(4, .int 0), (3, .int 0), (2, .int v8), (0, .ref a0), (1, .int x1)]) hx hb dX11_whose_34 hl (by decide) rfl (fun ls hl => ?_)
    have z_0 : (0 : Int32).toInt = 0 := by decide
    exact J36 _ T 0 0 0 0 y0 nn j y1 _ _ _ rfl Tgr.rf t_y0 hn (by omega) (by decide) (by decide) (by decide) (by decide) (by omega) (by omega) (by omega) (by omega) (by omega) hH hS (lv_sub hl [0, 1, 2, 3, 4] rfl)
  · skip
    have tc25 := f_ne (k := 0) (by decide) c25
    refine lv_bipush (v := (-3)) hx hb dX11_whose_28 (by decide) ?_
    have z9_m3 : ((-3) : Int32).toInt = -3 := by decide
    exact te_iD hx hb hr hlocks hH hS (⟨T, Tgr.rf, nn, j, y0, y1, rfl, by decide, by decide, t_y0, hn, by omega, by omega, by omega, by omega, trivial, by omega, by omega⟩) dX11_whose_30
set_option maxHeartbeats 4000000 in
set_option maxRecDepth 100000 in
theorem s_FW_order (l : Launch) (D : va_G) (cs : CS) (kf : KF) (T : TF) (O : List Nat) (X : va_W) (a0 w hw gw ch gq : Nat) (x1 : Int32) (x2 : Int32) (x3 : Int32) (y0 : Nat) (y1 : Int32) (y2 : Nat) (y3 : Nat) (nn j : Nat) (t_a0 : T a0 = some (21, w, ch)) (t_w : isW T w hw gw) (t_ch : T ch = some (10, gq, 0)) (t_y0 : T y0 = some (1, nn, 0)) (l_y1 : 0 ≤ y1.toInt) (u_y1 : y1.toInt ≤ 16383) (t_y2 : T y2 = some (1, 14, 1)) (t_y3 : T y3 = some (1, 14, 0)) (hn : nn = 2 ^ j) (hj : j ≤ 14) (hO : okO T (ch :: O) [1, 7, 12, 15, 16, 19, 21]) : TKD l D cs kf yX11_order cX11_order 5 (some (.int)) { frames := 7, cells := 1, slots := 16384, locals := 193 } [.ref a0, .int x1, .int x2, .int x3] T (ch :: O) ((ch, .inr (0, [.ref y0, .int y1, .ref y2, .ref y3])) :: X) (fun kk ss => Ti D cs ((fun kk ss r u => ∃ T2 : TF, Tgr T T2 ∧ ∃ (n2 : Nat) (j2 : Nat) (n0_0 : Nat) (n0_1 : Int32), u = (T2, ch :: O, (ch, .inr (0, [.ref n0_0, .int n0_1, .ref y2, .ref y3])) :: X) ∧ (T2 n0_0 = some (1, n2, 0)) ∧ (n2 = 2 ^ j2) ∧ (j ≤ j2) ∧ (j2 ≤ 14) ∧ (0 ≤ n0_1.toInt) ∧ (n0_1.toInt ≤ 16383) ∧ (True) ∧ (kk + j ≤ j2) ∧ (ss + 16384 * j ≤ 16384 * j2) ∧ (kk ≤ 1) ∧ (ss ≤ 16384)) kk ss)) := by
  refine tkd_of (by decide) (Nat.le_of_ble_eq_true rfl) (fun p e s m below meth c ls A H locs hx hb hr hml hown hts hlocks hnm hkb hH hS hA hOX hks hE hl => ?_)
  have hown : s.vm.findClass RX11 = some m.cls := hown
  have hl : lv_has ls 5 [(0, .ref a0), (1, .int x1), (2, .int x2), (3, .int x3)] := hl
  have b1_w := t_w.2.1
  have b2_w := t_w.2.2
  have hOXf := hOX
  have hnb := p2_le hn hj
  refine lv_aload_n hx hb dX11_order_0 rfl (lv_at hl 0 rfl) ?_
  refine lv_iload_n hx hb dX11_order_1 rfl (lv_at hl 1 rfl) ?_
  refine tk_i hH hS hA (tr_V (n := 1) (As := [.int x1]) hx hb hml hown hts hkb hH (ox_map hOX rfl) hks hE hS hA (s_FW_isGuide l D cs kf T (ch :: O) ((ch, .inr (0, [.ref y0, .int y1, .ref y2, .ref y3])) :: X) a0 w hw gw ch gq x1 t_a0 t_w t_ch (hO.sub (by decide))) kw_794 kw_796 ks_20 kw_1 kw_797 (by decide +kernel) ⟨Nat.le_of_ble_eq_true rfl, Nat.le_of_ble_eq_true rfl⟩ (HT.recv (ci := 11) hkb hH t_a0 (hO.no t_a0 (by decide)) rfl) rfl rfl hl.1 (Nat.le_of_ble_eq_true rfl) dX11_order_2 ⟨by show 0 + 0 ≤ 1; omega, by show 0 + 0 ≤ 16384; omega⟩) (fun v2 u H locs hz9 hH hS => ?_)
  obtain ⟨rfl, l_v2, u_v2, x_v20⟩ := hz9
  have hH : HT D cs A T (ch :: O) ((ch, .inr (0, [.ref y0, .int y1, .ref y2, .ref y3])) :: X) H := hH
  refine W.widen (k := 0) (n := 0) (Nat.le_refl _) (Nat.le_refl _) ?_
  have J17 : ∀  (H : Heap) (locs : List Loc) (ls : Array Slot), HT D cs A T (ch :: O) ((ch, .inr (0, [.ref y0, .int y1, .ref y2, .ref y3])) :: X) H → va_S A s.heap H locs → lv_has ls 5 [] → W p l e { frames := 7, cells := 1, slots := 16384, locals := 193 } s m [.ref a0, .int x1, .int x2, .int x3].toArray below meth c H locs 0 0 (MQD below (fun kk ss => Ti D cs ((fun kk ss r u => ∃ T2 : TF, Tgr T T2 ∧ ∃ (n2 : Nat) (j2 : Nat) (n0_0 : Nat) (n0_1 : Int32), u = (T2, ch :: O, (ch, .inr (0, [.ref n0_0, .int n0_1, .ref y2, .ref y3])) :: X) ∧ (T2 n0_0 = some (1, n2, 0)) ∧ (n2 = 2 ^ j2) ∧ (j ≤ j2) ∧ (j2 ≤ 14) ∧ (0 ≤ n0_1.toInt) ∧ (n0_1.toInt ≤ 16383) ∧ (True) ∧ (kk + j ≤ j2) ∧ (ss + 16384 * j ≤ 16384 * j2) ∧ (kk ≤ 1) ∧ (ss ≤ 16384)) kk ss) A) [.ref a0, .int x1, .int x2, .int x3].toArray s A) (F0 m 17 ls []) := by
    intro  H locs ls  hH hS hl
    refine lv_bipush (v := (-2)) hx hb dX11_order_17 (by decide) ?_
    have z9_m2 : ((-2) : Int32).toInt = -2 := by decide
    exact te_iD hx hb hr hlocks hH hS (⟨T, Tgr.rf, nn, j, y0, y1, rfl, t_y0, hn, by omega, by omega, by omega, by omega, trivial, by omega, by omega, by omega, by omega⟩) dX11_order_19
  refine lv_if_eq (tgt := 17) hx hb dX11_order_5 (by decide) (fun c5 => ?_) (fun c5 => ?_)
  · skip
    have tc5 := f_eq (k := 0) (by decide) c5
    exact J17  _ _ _  hH hS (lv_sub hl [] rfl)
  · skip
    have tc5 := f_ne (k := 0) (by decide) c5
    refine lv_iload_n hx hb dX11_order_8 rfl (lv_at hl 3 rfl) ?_
    refine lv_bipush (v := 14) hx hb dX11_order_9 (by decide) ?_
    refine tk_i hH hS hA (tr_S (n := 2) (As := [.int x3, .int 14]) hx hb hml hown hts hkb hH (ox_map hOX rfl) hks hE hS hA (s_FW_asksRow l D cs kf T (ch :: O) ((ch, .inr (0, [.ref y0, .int y1, .ref y2, .ref y3])) :: X) x3 (14) (by decide) (by decide) (hO.sub (by decide))) kw_970 kw_971 kw_1 kw_972 (by decide +kernel) ⟨Nat.le_of_ble_eq_true rfl, Nat.le_of_ble_eq_true rfl⟩ rfl rfl hl.1 (Nat.le_of_ble_eq_true rfl) dX11_order_11 ⟨by show 0 + 0 ≤ 1; omega, by show 0 + 0 ≤ 16384; omega⟩) (fun v11 u H locs hz9 hH hS => ?_)
    obtain ⟨rfl, l_v11, u_v11⟩ := hz9
    have hH : HT D cs A T (ch :: O) ((ch, .inr (0, [.ref y0, .int y1, .ref y2, .ref y3])) :: X) H := hH
    refine W.widen (k := 0) (n := 0) (Nat.le_refl _) (Nat.le_refl _) ?_
    refine lv_if_ne (tgt := 20) hx hb dX11_order_14 (by decide) (fun c14 => ?_) (fun c14 => ?_)
    · skip
      have tc14 := f_ne (k := 0) (by decide) c14
      refine lv_aload_n hx hb dX11_order_20 rfl (lv_at hl 0 rfl) ?_
      refine lv_aload_n hx hb dX11_order_21 rfl (lv_at hl 0 rfl) ?_
      refine t_get (ci := 11) (lst := ft11 w ch) (C := RX11) (F := TX11) (N := 20) hx hb hts uX11 hown hkb hH t_a0 (hO.no t_a0 (by decide)) (fun _ h9 => h9) rfl rfl 4 (by decide) rfl kw_364 (fun _ h9 => h9) dX11_order_22 (fun v9 h9 => ?_)
      obtain ⟨v22, rfl, t_v22⟩ := h9
      refine t_get (ci := 6) (lst := ft6 0 0) (C := RX6) (F := TX6) (N := 6) hx hb hts uX6 hown hkb hH t_v22 (hO.no t_v22 (by decide)) (fun _ h9 => h9) rfl rfl 2 (by decide) rfl kw_191 (fun _ h9 => h9) dX11_order_25 (fun v9 h9 => ?_)
      obtain ⟨v25, rfl⟩ := h9
      refine tk_i hH hS hA (tr_V (n := 1) (As := [.int v25]) hx hb hml hown hts hkb hH (ox_map hOX rfl) hks hE hS hA (s_FW_thereOn l D cs kf T (ch :: O) ((ch, .inr (0, [.ref y0, .int y1, .ref y2, .ref y3])) :: X) a0 w hw gw ch gq v25 t_a0 t_w t_ch (hO.sub (by decide))) kw_774 kw_776 ks_18 kw_1 kw_777 (by decide +kernel) ⟨Nat.le_of_ble_eq_true rfl, Nat.le_of_ble_eq_true rfl⟩ (HT.recv (ci := 11) hkb hH t_a0 (hO.no t_a0 (by decide)) rfl) rfl rfl hl.1 (Nat.le_of_ble_eq_true rfl) dX11_order_28 ⟨by show 0 + 0 ≤ 1; omega, by show 0 + 0 ≤ 16384; omega⟩) (fun v28 u H locs hz9 hH hS => ?_)
      obtain ⟨rfl, l_v28, u_v28⟩ := hz9
      have hH : HT D cs A T (ch :: O) ((ch, .inr (0, [.ref y0, .int y1, .ref y2, .ref y3])) :: X) H := hH
      refine W.widen (k := 0) (n := 0) (Nat.le_refl _) (Nat.le_refl _) ?_
      refine lv_istore (lv' := [(4, .int v28), (0, .ref a0), (1, .int x1), (2, .int x2), (3, .int x3)]) hx hb dX11_order_31 hl (by decide) rfl (fun ls hl => ?_)
      refine lv_iload_n hx hb dX11_order_33 rfl (lv_at hl 3 rfl) ?_
      refine lv_iload hx hb dX11_order_34 (lv_at hl 0 rfl) ?_
      refine lv_aload_n hx hb dX11_order_36 rfl (lv_at hl 1 rfl) ?_
      refine t_get (ci := 11) (lst := ft11 w ch) (C := RX11) (F := TX11) (N := 20) hx hb hts uX11 hown hkb hH t_a0 (hO.no t_a0 (by decide)) (fun _ h9 => h9) rfl rfl 3 (by decide) rfl kw_363 (fun _ h9 => h9) dX11_order_37 (fun v9 h9 => ?_)
      have h9 : v9 = .ref w := h9
      subst h9
      refine tk_i hH hS hA (tr_V (n := 0) (As := []) hx hb hml hown hts hkb hH (ox_map hOX rfl) hks hE hS hA (s_Wall_middles l D cs kf T (ch :: O) ((ch, .inr (0, [.ref y0, .int y1, .ref y2, .ref y3])) :: X) w hw gw t_w (hO.sub (by decide))) kw_892 kw_683 kw_684 kw_5 kw_685 (by decide +kernel) ⟨Nat.le_of_ble_eq_true rfl, Nat.le_of_ble_eq_true rfl⟩ (HT.recv (ci := 9) hkb hH t_w.1 (hO.no t_w.1 (by decide)) rfl) rfl rfl hl.1 (Nat.le_of_ble_eq_true rfl) dX11_order_40 ⟨by show 0 + 0 ≤ 1; omega, by show 0 + 0 ≤ 16384; omega⟩) (fun v40 u H locs hz9 hH hS => ?_)
      obtain ⟨rfl, l_v40, u_v40⟩ := hz9
      have hH : HT D cs A T (ch :: O) ((ch, .inr (0, [.ref y0, .int y1, .ref y2, .ref y3])) :: X) H := hH
      refine W.widen (k := 0) (n := 0) (Nat.le_refl _) (Nat.le_refl _) ?_
      refine lv_iand hx hb dX11_order_43 ?_
      refine lv_topi (fun v43 ev43 => ?_)
      have tv43 : 0 ≤ v43.toInt ∧ v43.toInt ≤ v28.toInt := by rw [ev43]; exact and_l (by omega)
      have ttv43 : 0 ≤ v43.toInt ∧ v43.toInt ≤ v40.toInt := by rw [ev43]; exact and_r (by omega)
      refine lv_iconst (v := (-1)) hx hb dX11_order_44 (by decide) ?_
      refine lv_ixor hx hb dX11_order_45 ?_
      refine lv_topi (fun v45 ev45 => ?_)
      refine lv_iand hx hb dX11_order_46 ?_
      refine lv_topi (fun v46 ev46 => ?_)
      refine lv_if_eq (tgt := 53) hx hb dX11_order_47 (by decide) (fun c47 => ?_) (fun c47 => ?_)
      · skip
        have tc47 := f_eq (k := 0) (by decide) c47
        refine lv_aload_n hx hb dX11_order_53 rfl (lv_at hl 1 rfl) ?_
        refine t_get (ci := 11) (lst := ft11 w ch) (C := RX11) (F := TX11) (N := 20) hx hb hts uX11 hown hkb hH t_a0 (hO.no t_a0 (by decide)) (fun _ h9 => h9) rfl rfl 16 (by decide) rfl kw_376 (fun _ h9 => h9) dX11_order_54 (fun v9 h9 => ?_)
        have h9 : v9 = .ref ch := h9
        subst h9
        refine x_getk (ci := 0) (C := RX0) (F := TX0) (N := 4) (v := .ref y3) hx hb hts uX0 hown hkb hH 0 rfl rfl 3 (by decide) rfl kw_334 (fun _ h9 => h9) dX11_order_57 ?_
        refine lv_aload_n hx hb dX11_order_60 rfl (lv_at hl 1 rfl) ?_
        refine t_get (ci := 11) (lst := ft11 w ch) (C := RX11) (F := TX11) (N := 20) hx hb hts uX11 hown hkb hH t_a0 (hO.no t_a0 (by decide)) (fun _ h9 => h9) rfl rfl 16 (by decide) rfl kw_376 (fun _ h9 => h9) dX11_order_61 (fun v9 h9 => ?_)
        have h9 : v9 = .ref ch := h9
        subst h9
        refine lv_aload_n hx hb dX11_order_64 rfl (lv_at hl 1 rfl) ?_
        refine lv_iload_n hx hb dX11_order_65 rfl (lv_at hl 2 rfl) ?_
        refine tk_r hH hS hA (tr_V (n := 1) (As := [.int x1]) hx hb hml hown hts hkb hH (ox_map hOX rfl) hks hE hS hA (s_FW_rowsOf l D cs kf T (ch :: O) ((ch, .inr (0, [.ref y0, .int y1, .ref y2, .ref y3])) :: X) a0 w hw gw ch gq x1 t_a0 t_w t_ch (by omega) (by omega) (hO.sub (by decide))) kw_830 kw_832 ks_21 kw_1 kw_833 (by decide +kernel) ⟨Nat.le_of_ble_eq_true rfl, Nat.le_of_ble_eq_true rfl⟩ (HT.recv (ci := 11) hkb hH t_a0 (hO.no t_a0 (by decide)) rfl) rfl rfl hl.1 (Nat.le_of_ble_eq_true rfl) dX11_order_66 ⟨by show 0 + 0 ≤ 1; omega, by show 0 + 0 ≤ 16384; omega⟩) (fun v66 u H locs hz9 hH hS => ?_)
        obtain ⟨hu9, t_v66⟩ := hz9
        have hu9 : u = (T, ch :: O, (ch, .inr (0, [.ref y0, .int y1, .ref y2, .ref y3])) :: X) := hu9
        subst hu9
        have hH : HT D cs A T (ch :: O) ((ch, .inr (0, [.ref y0, .int y1, .ref y2, .ref y3])) :: X) H := hH
        refine W.widen (k := 0) (n := 0) (Nat.le_refl _) (Nat.le_refl _) ?_
        refine lv_iload_n hx hb dX11_order_69 rfl (lv_at hl 3 rfl) ?_
        refine lv_iload hx hb dX11_order_70 (lv_at hl 0 rfl) ?_
        refine tk_iD hH hS hA (tr_VD (n := 3) (As := [.ref v66, .int x2, .int v28]) hx hb hml hown hts hkb hH (ox_map hOX rfl) hks hE hS hA (s_Ch_first l D cs kf T O X ch v66 x2 v28 y0 y1 y2 y3 nn j gq t_ch t_v66 t_y0 (by omega) (by omega) t_y2 t_y3 hn (by omega) (hO.sub (by decide))) kw_1136 kw_1137 kw_1138 kw_11 kw_1139 (by decide +kernel) ⟨Nat.le_of_ble_eq_true rfl, Nat.le_of_ble_eq_true rfl⟩ (x_recv (ci := 0) hkb hH 0 rfl rfl) rfl rfl hl.1 (Nat.le_of_ble_eq_true rfl) dX11_order_72 ⟨by show 0 + 1 ≤ 1; omega, by show 0 + 16384 ≤ 16384; omega⟩) (fun v72 kc72 ks72 u H locs hz9 hH hS => ?_)
        obtain ⟨T72, le_T72, n2_72, j2_72, n72_0_0, n72_0_1, rfl, l_v72, u_v72, x_v720, x_v721, x_v722, x_v723, x_v724, x_v725, x_v726, x_v727, x_v728, x_v729, x_v7210⟩ := hz9
        have t_a0 := le_T72.1 _ _ t_a0
        have t_w := isW.le le_T72.1 t_w
        have t_ch := le_T72.1 _ _ t_ch
        have t_y0 := le_T72.1 _ _ t_y0
        have t_y2 := le_T72.1 _ _ t_y2
        have t_y3 := le_T72.1 _ _ t_y3
        have t_v22 := le_T72.1 _ _ t_v22
        have t_v66 := le_T72.1 _ _ t_v66
        have hO := okO.le le_T72.1 hO
        have t_n72_0_0 := x_v720
        have hnb_72 := p2_le x_v721 (by omega)
        have hH : HT D cs A T72 (ch :: O) ((ch, .inr (0, [.ref n72_0_0, .int n72_0_1, .ref y2, .ref y3])) :: X) H := hH
        refine lv_iload_n hx hb dX11_order_75 rfl (lv_at hl 4 rfl) ?_
        refine tk_i hH hS hA (tr_S (n := 3) (As := [.ref y3, .int v72, .int x3]) hx hb hml hown hts hkb hH (ox_map hOX rfl) hks hE hS hA (s_FW_ofRow14 l D cs kf T72 (ch :: O) ((ch, .inr (0, [.ref n72_0_0, .int n72_0_1, .ref y2, .ref y3])) :: X) y3 v72 x3 t_y3 (by omega) (by omega) (hO.sub (by decide))) kw_973 kw_974 kw_1 kw_975 (by decide +kernel) ⟨Nat.le_of_ble_eq_true rfl, Nat.le_of_ble_eq_true rfl⟩ rfl rfl hl.1 (Nat.le_of_ble_eq_true rfl) dX11_order_76 ⟨by show (0 + kc72) + 0 ≤ 1; omega, by show (0 + ks72) + 0 ≤ 16384; omega⟩) (fun v76 u H locs hz9 hH hS => ?_)
        have hz9 : u = (T72, ch :: O, (ch, .inr (0, [.ref n72_0_0, .int n72_0_1, .ref y2, .ref y3])) :: X) := hz9
        subst hz9
        have hH : HT D cs A T72 (ch :: O) ((ch, .inr (0, [.ref n72_0_0, .int n72_0_1, .ref y2, .ref y3])) :: X) H := hH
        refine W.widen (k := 0 + kc72) (n := 0 + ks72) (Nat.le_refl _) (Nat.le_refl _) ?_
        exact te_iD hx hb hr hlocks hH hS (⟨T72, le_T72, n2_72, j2_72, n72_0_0, n72_0_1, rfl, t_n72_0_0, x_v721, by omega, by omega, by omega, by omega, trivial, by omega, by omega, by omega, by omega⟩) dX11_order_79
      · skip
        have tc47 := f_ne (k := 0) (by decide) c47
        refine lv_bipush (v := (-3)) hx hb dX11_order_50 (by decide) ?_
        have z9_m3 : ((-3) : Int32).toInt = -3 := by decide
        exact te_iD hx hb hr hlocks hH hS (⟨T, Tgr.rf, nn, j, y0, y1, rfl, t_y0, hn, by omega, by omega, by omega, by omega, trivial, by omega, by omega, by omega, by omega⟩) dX11_order_52
    · skip
      have tc14 := f_eq (k := 0) (by decide) c14
      exact J17  _ _ _  hH hS (lv_sub hl [] rfl)
