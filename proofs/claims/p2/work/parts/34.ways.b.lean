set_option maxHeartbeats 4000000 in
set_option maxRecDepth 100000 in
theorem s_FW_way (l : Launch) (D : va_G) (cs : CS) (kf : KF) (T : TF) (O : List Nat) (X : va_W) (a0 w hw gw ch gq : Nat) (x1 : Int32) (x2 : Int32) (t_a0 : T a0 = some (21, w, ch)) (t_w : isW T w hw gw) (t_ch : T ch = some (10, gq, 0)) (hO : okO T O [1, 7, 12, 15, 16, 19, 20, 21]) : TK l D cs kf yX11_way cX11_way 3 (some (.int)) { frames := 6, cells := 0, slots := 0, locals := 152 } [.ref a0, .int x1, .int x2] T O X (Ti D cs (fun r u => u = (T, O, X))) := by
  refine tk_of (by decide) (Nat.le_of_ble_eq_true rfl) (fun p e s m below meth c ls A H locs hx hb hr hml hown hts hlocks hnm hkb hH hS hA hOX hks hE hl => ?_)
  have hown : s.vm.findClass RX11 = some m.cls := hown
  have hl : lv_has ls 3 [(0, .ref a0), (1, .int x1), (2, .int x2)] := hl
  have b1_w := t_w.2.1
  have b2_w := t_w.2.2
  refine lv_aload_n hx hb dX11_way_0 rfl (lv_at hl 0 rfl) ?_
  refine lv_iload_n hx hb dX11_way_1 rfl (lv_at hl 1 rfl) ?_
  refine tk_i hH hS hA (tr_V (n := 1) (As := [.int x1]) hx hb hml hown hts hkb hH hOX hks hE hS hA (s_FW_isGuide l D cs kf T O X a0 w hw gw ch gq x1 t_a0 t_w t_ch (hO.sub (by decide))) kw_794 kw_796 ks_20 kw_1 kw_797 (by decide +kernel) ⟨Nat.le_of_ble_eq_true rfl, Nat.le_of_ble_eq_true rfl⟩ (HT.recv (ci := 11) hkb hH t_a0 (hO.no t_a0 (by decide)) rfl) rfl rfl hl.1 (Nat.le_of_ble_eq_true rfl) dX11_way_2 ⟨Nat.le_of_ble_eq_true rfl, Nat.le_of_ble_eq_true rfl⟩) (fun v2 u H locs hz9 hH hS => ?_)
  obtain ⟨rfl, l_v2, u_v2, x_v20⟩ := hz9
  have hH : HT D cs A T O X H := hH
  refine W.widen (k := 0) (n := 0) (Nat.le_of_ble_eq_true rfl) (Nat.le_of_ble_eq_true rfl) ?_
  have J17 : ∀  (H : Heap) (locs : List Loc) (ls : Array Slot), HT D cs A T O X H → va_S A s.heap H locs → lv_has ls 3 [] → W p l e { frames := 6, cells := 0, slots := 0, locals := 152 } s m [.ref a0, .int x1, .int x2].toArray below meth c H locs 0 0 (MQ below (Ti D cs (fun r u => u = (T, O, X)) A) [.ref a0, .int x1, .int x2].toArray s 0 0 A) (F0 m 17 ls []) := by
    intro  H locs ls  hH hS hl
    refine lv_bipush (v := (-2)) hx hb dX11_way_17 (by decide) ?_
    exact te_i hx hb hr hlocks hH hS (rfl) dX11_way_19
  refine lv_if_eq (tgt := 17) hx hb dX11_way_5 (by decide) (fun c5 => ?_) (fun c5 => ?_)
  · skip
    have tc5 := f_eq (k := 0) (by decide) c5
    exact J17  _ _ _  hH hS (lv_sub hl [] rfl)
  · skip
    have tc5 := f_ne (k := 0) (by decide) c5
    refine lv_iload_n hx hb dX11_way_8 rfl (lv_at hl 2 rfl) ?_
    refine lv_bipush (v := 14) hx hb dX11_way_9 (by decide) ?_
    refine tk_i hH hS hA (tr_S (n := 2) (As := [.int x2, .int 14]) hx hb hml hown hts hkb hH hOX hks hE hS hA (s_FW_asksRow l D cs kf T O X x2 (14) (by decide) (by decide) (hO.sub (by decide))) kw_970 kw_971 kw_1 kw_972 (by decide +kernel) ⟨Nat.le_of_ble_eq_true rfl, Nat.le_of_ble_eq_true rfl⟩ rfl rfl hl.1 (Nat.le_of_ble_eq_true rfl) dX11_way_11 ⟨Nat.le_of_ble_eq_true rfl, Nat.le_of_ble_eq_true rfl⟩) (fun v11 u H locs hz9 hH hS => ?_)
    obtain ⟨rfl, l_v11, u_v11⟩ := hz9
    have hH : HT D cs A T O X H := hH
    refine W.widen (k := 0) (n := 0) (Nat.le_of_ble_eq_true rfl) (Nat.le_of_ble_eq_true rfl) ?_
    refine lv_if_ne (tgt := 20) hx hb dX11_way_14 (by decide) (fun c14 => ?_) (fun c14 => ?_)
    · skip
      have tc14 := f_ne (k := 0) (by decide) c14
      refine lv_aload_n hx hb dX11_way_20 rfl (lv_at hl 0 rfl) ?_
      refine t_get (ci := 11) (lst := ft11 w ch) (C := RX11) (F := TX11) (N := 20) hx hb hts uX11 hown hkb hH t_a0 (hO.no t_a0 (by decide)) (fun _ h9 => h9) rfl rfl 14 (by decide) rfl kw_374 (fun _ h9 => h9) dX11_way_21 (fun v9 h9 => ?_)
      obtain ⟨v21, rfl, t_v21⟩ := h9
      refine t_get (ci := 10) (lst := ft10 0 0) (C := RX10) (F := TX10) (N := 7) hx hb hts uX10 hown hkb hH t_v21 (hO.no t_v21 (by decide)) (fun _ h9 => h9) rfl rfl 1 (by decide) rfl kw_274 (fun _ h9 => h9) dX11_way_24 (fun v9 h9 => ?_)
      obtain ⟨v24, rfl, t_v24⟩ := h9
      refine lv_aload_n hx hb dX11_way_27 rfl (lv_at hl 0 rfl) ?_
      refine t_get (ci := 11) (lst := ft11 w ch) (C := RX11) (F := TX11) (N := 20) hx hb hts uX11 hown hkb hH t_a0 (hO.no t_a0 (by decide)) (fun _ h9 => h9) rfl rfl 14 (by decide) rfl kw_374 (fun _ h9 => h9) dX11_way_28 (fun v9 h9 => ?_)
      obtain ⟨v28, rfl, t_v28⟩ := h9
      refine lv_aload_n hx hb dX11_way_31 rfl (lv_at hl 0 rfl) ?_
      refine lv_iload_n hx hb dX11_way_32 rfl (lv_at hl 1 rfl) ?_
      refine tk_r hH hS hA (tr_V (n := 1) (As := [.int x1]) hx hb hml hown hts hkb hH hOX hks hE hS hA (s_FW_rowsOf l D cs kf T O X a0 w hw gw ch gq x1 t_a0 t_w t_ch (by omega) (by omega) (hO.sub (by decide))) kw_830 kw_832 ks_21 kw_1 kw_833 (by decide +kernel) ⟨Nat.le_of_ble_eq_true rfl, Nat.le_of_ble_eq_true rfl⟩ (HT.recv (ci := 11) hkb hH t_a0 (hO.no t_a0 (by decide)) rfl) rfl rfl hl.1 (Nat.le_of_ble_eq_true rfl) dX11_way_33 ⟨Nat.le_of_ble_eq_true rfl, Nat.le_of_ble_eq_true rfl⟩) (fun v33 u H locs hz9 hH hS => ?_)
      obtain ⟨hu9, t_v33⟩ := hz9
      have hu9 : u = (T, O, X) := hu9
      subst hu9
      have hH : HT D cs A T O X H := hH
      refine W.widen (k := 0) (n := 0) (Nat.le_of_ble_eq_true rfl) (Nat.le_of_ble_eq_true rfl) ?_
      refine lv_aload_n hx hb dX11_way_36 rfl (lv_at hl 0 rfl) ?_
      refine tk_i hH hS hA (tr_V (n := 0) (As := []) hx hb hml hown hts hkb hH hOX hks hE hS hA (s_FW_openNow l D cs kf T O X a0 w hw gw ch gq t_a0 t_w t_ch (hO.sub (by decide))) kw_846 kw_848 ks_22 kw_1 kw_849 (by decide +kernel) ⟨Nat.le_of_ble_eq_true rfl, Nat.le_of_ble_eq_true rfl⟩ (HT.recv (ci := 11) hkb hH t_a0 (hO.no t_a0 (by decide)) rfl) rfl rfl hl.1 (Nat.le_of_ble_eq_true rfl) dX11_way_37 ⟨Nat.le_of_ble_eq_true rfl, Nat.le_of_ble_eq_true rfl⟩) (fun v37 u H locs hz9 hH hS => ?_)
      obtain ⟨rfl, l_v37, u_v37⟩ := hz9
      have hH : HT D cs A T O X H := hH
      refine W.widen (k := 0) (n := 0) (Nat.le_of_ble_eq_true rfl) (Nat.le_of_ble_eq_true rfl) ?_
      refine tk_i hH hS hA (tr_V (n := 2) (As := [.ref v33, .int v37]) hx hb hml hown hts hkb hH hOX hks hE hS hA (s_Ways_find l D cs kf T O X v28 v33 v37 t_v28 t_v33 (hO.sub (by decide))) kw_912 kw_913 kw_914 kw_9 kw_915 (by decide +kernel) ⟨Nat.le_of_ble_eq_true rfl, Nat.le_of_ble_eq_true rfl⟩ (HT.recv (ci := 10) hkb hH t_v28 (hO.no t_v28 (by decide)) rfl) rfl rfl hl.1 (Nat.le_of_ble_eq_true rfl) dX11_way_40 ⟨Nat.le_of_ble_eq_true rfl, Nat.le_of_ble_eq_true rfl⟩) (fun v40 u H locs hz9 hH hS => ?_)
      obtain ⟨rfl, l_v40, u_v40⟩ := hz9
      have hH : HT D cs A T O X H := hH
      refine W.widen (k := 0) (n := 0) (Nat.le_of_ble_eq_true rfl) (Nat.le_of_ble_eq_true rfl) ?_
      refine lv_iload_n hx hb dX11_way_43 rfl (lv_at hl 2 rfl) ?_
      refine tk_i hH hS hA (tr_S (n := 3) (As := [.ref v24, .int v40, .int x2]) hx hb hml hown hts hkb hH hOX hks hE hS hA (s_FW_ofRow14 l D cs kf T O X v24 v40 x2 t_v24 (by omega) (by omega) (hO.sub (by decide))) kw_973 kw_974 kw_1 kw_975 (by decide +kernel) ⟨Nat.le_of_ble_eq_true rfl, Nat.le_of_ble_eq_true rfl⟩ rfl rfl hl.1 (Nat.le_of_ble_eq_true rfl) dX11_way_44 ⟨Nat.le_of_ble_eq_true rfl, Nat.le_of_ble_eq_true rfl⟩) (fun v44 u H locs hz9 hH hS => ?_)
      have hz9 : u = (T, O, X) := hz9
      subst hz9
      have hH : HT D cs A T O X H := hH
      refine W.widen (k := 0) (n := 0) (Nat.le_of_ble_eq_true rfl) (Nat.le_of_ble_eq_true rfl) ?_
      exact te_i hx hb hr hlocks hH hS (rfl) dX11_way_47
    · skip
      have tc14 := f_eq (k := 0) (by decide) c14
      exact J17  _ _ _  hH hS (lv_sub hl [] rfl)
set_option maxHeartbeats 4000000 in
set_option maxRecDepth 100000 in
theorem s_FW_ways (l : Launch) (D : va_G) (cs : CS) (kf : KF) (T : TF) (O : List Nat) (X : va_W) (a0 w hw gw ch gq : Nat) (x1 : Int32) (t_a0 : T a0 = some (21, w, ch)) (t_w : isW T w hw gw) (t_ch : T ch = some (10, gq, 0)) (hO : okO T O [1, 2, 7, 12, 15, 16, 19, 20, 21]) : TK l D cs kf yX11_ways cX11_ways 2 (some (.long)) { frames := 6, cells := 0, slots := 0, locals := 152 } [.ref a0, .int x1] T O X (Tl D cs (fun _ u => u = (T, O, X))) := by
  refine tk_of (by decide) (Nat.le_of_ble_eq_true rfl) (fun p e s m below meth c ls A H locs hx hb hr hml hown hts hlocks hnm hkb hH hS hA hOX hks hE hl => ?_)
  have hown : s.vm.findClass RX11 = some m.cls := hown
  have hl : lv_has ls 2 [(0, .ref a0), (1, .int x1)] := hl
  have b1_w := t_w.2.1
  have b2_w := t_w.2.2
  refine lv_aload_n hx hb dX11_ways_0 rfl (lv_at hl 0 rfl) ?_
  refine lv_iload_n hx hb dX11_ways_1 rfl (lv_at hl 1 rfl) ?_
  refine tk_i hH hS hA (tr_V (n := 1) (As := [.int x1]) hx hb hml hown hts hkb hH hOX hks hE hS hA (s_FW_isGuide l D cs kf T O X a0 w hw gw ch gq x1 t_a0 t_w t_ch (hO.sub (by decide))) kw_794 kw_796 ks_20 kw_1 kw_797 (by decide +kernel) ⟨Nat.le_of_ble_eq_true rfl, Nat.le_of_ble_eq_true rfl⟩ (HT.recv (ci := 11) hkb hH t_a0 (hO.no t_a0 (by decide)) rfl) rfl rfl hl.1 (Nat.le_of_ble_eq_true rfl) dX11_ways_2 ⟨Nat.le_of_ble_eq_true rfl, Nat.le_of_ble_eq_true rfl⟩) (fun v2 u H locs hz9 hH hS => ?_)
  obtain ⟨rfl, l_v2, u_v2, x_v20⟩ := hz9
  have hH : HT D cs A T O X H := hH
  refine W.widen (k := 0) (n := 0) (Nat.le_of_ble_eq_true rfl) (Nat.le_of_ble_eq_true rfl) ?_
  have J30 : ∀ (k30_0 : Int64) (H : Heap) (locs : List Loc) (ls : Array Slot), HT D cs A T O X H → va_S A s.heap H locs → lv_has ls 2 [] → W p l e { frames := 6, cells := 0, slots := 0, locals := 152 } s m [.ref a0, .int x1].toArray below meth c H locs 0 0 (MQ below (Tl D cs (fun _ u => u = (T, O, X)) A) [.ref a0, .int x1].toArray s 0 0 A) (F0 m 30 ls [.long k30_0]) := by
    intro k30_0 H locs ls  hH hS hl
    exact te_l hx hb hr hlocks hH hS rfl dX11_ways_30
  refine lv_if_eq (tgt := 27) hx hb dX11_ways_5 (by decide) (fun c5 => ?_) (fun c5 => ?_)
  · skip
    have tc5 := f_eq (k := 0) (by decide) c5
    refine lv_ldc2 hx hb hown (hts _ kw_988) dX11_ways_27 ?_
    exact J30 (-2) _ _ _  hH hS (lv_sub hl [] rfl)
  · skip
    have tc5 := f_ne (k := 0) (by decide) c5
    refine lv_aload_n hx hb dX11_ways_8 rfl (lv_at hl 0 rfl) ?_
    refine t_get (ci := 11) (lst := ft11 w ch) (C := RX11) (F := TX11) (N := 20) hx hb hts uX11 hown hkb hH t_a0 (hO.no t_a0 (by decide)) (fun _ h9 => h9) rfl rfl 14 (by decide) rfl kw_374 (fun _ h9 => h9) dX11_ways_9 (fun v9 h9 => ?_)
    obtain ⟨v9, rfl, t_v9⟩ := h9
    refine lv_aload_n hx hb dX11_ways_12 rfl (lv_at hl 0 rfl) ?_
    refine lv_iload_n hx hb dX11_ways_13 rfl (lv_at hl 1 rfl) ?_
    refine tk_r hH hS hA (tr_V (n := 1) (As := [.int x1]) hx hb hml hown hts hkb hH hOX hks hE hS hA (s_FW_rowsOf l D cs kf T O X a0 w hw gw ch gq x1 t_a0 t_w t_ch (by omega) (by omega) (hO.sub (by decide))) kw_830 kw_832 ks_21 kw_1 kw_833 (by decide +kernel) ⟨Nat.le_of_ble_eq_true rfl, Nat.le_of_ble_eq_true rfl⟩ (HT.recv (ci := 11) hkb hH t_a0 (hO.no t_a0 (by decide)) rfl) rfl rfl hl.1 (Nat.le_of_ble_eq_true rfl) dX11_ways_14 ⟨Nat.le_of_ble_eq_true rfl, Nat.le_of_ble_eq_true rfl⟩) (fun v14 u H locs hz9 hH hS => ?_)
    obtain ⟨hu9, t_v14⟩ := hz9
    have hu9 : u = (T, O, X) := hu9
    subst hu9
    have hH : HT D cs A T O X H := hH
    refine W.widen (k := 0) (n := 0) (Nat.le_of_ble_eq_true rfl) (Nat.le_of_ble_eq_true rfl) ?_
    refine lv_aload_n hx hb dX11_ways_17 rfl (lv_at hl 0 rfl) ?_
    refine tk_i hH hS hA (tr_V (n := 0) (As := []) hx hb hml hown hts hkb hH hOX hks hE hS hA (s_FW_openNow l D cs kf T O X a0 w hw gw ch gq t_a0 t_w t_ch (hO.sub (by decide))) kw_846 kw_848 ks_22 kw_1 kw_849 (by decide +kernel) ⟨Nat.le_of_ble_eq_true rfl, Nat.le_of_ble_eq_true rfl⟩ (HT.recv (ci := 11) hkb hH t_a0 (hO.no t_a0 (by decide)) rfl) rfl rfl hl.1 (Nat.le_of_ble_eq_true rfl) dX11_ways_18 ⟨Nat.le_of_ble_eq_true rfl, Nat.le_of_ble_eq_true rfl⟩) (fun v18 u H locs hz9 hH hS => ?_)
    obtain ⟨rfl, l_v18, u_v18⟩ := hz9
    have hH : HT D cs A T O X H := hH
    refine W.widen (k := 0) (n := 0) (Nat.le_of_ble_eq_true rfl) (Nat.le_of_ble_eq_true rfl) ?_
    refine tk_l hH hS hA (tr_V (n := 2) (As := [.ref v14, .int v18]) hx hb hml hown hts hkb hH hOX hks hE hS hA (s_Ways_howMany l D cs kf T O X v9 v14 v18 t_v9 t_v14 (hO.sub (by decide))) kw_980 kw_981 kw_982 kw_9 kw_983 (by decide +kernel) ⟨Nat.le_of_ble_eq_true rfl, Nat.le_of_ble_eq_true rfl⟩ (HT.recv (ci := 10) hkb hH t_v9 (hO.no t_v9 (by decide)) rfl) rfl rfl hl.1 (Nat.le_of_ble_eq_true rfl) dX11_ways_21 ⟨Nat.le_of_ble_eq_true rfl, Nat.le_of_ble_eq_true rfl⟩) (fun v21 u H locs hz9 hH hS => ?_)
    have hz9 : u = (T, O, X) := hz9
    subst hz9
    have hH : HT D cs A T O X H := hH
    refine W.widen (k := 0) (n := 0) (Nat.le_of_ble_eq_true rfl) (Nat.le_of_ble_eq_true rfl) ?_
    refine lv_goto (tgt := 30) hx hb dX11_ways_24 (by decide) ?_
    exact J30 v21 _ _ _  hH hS (lv_sub hl [] rfl)
set_option maxHeartbeats 4000000 in
set_option maxRecDepth 100000 in
theorem s_FW_parties (l : Launch) (D : va_G) (cs : CS) (kf : KF) (T : TF) (O : List Nat) (X : va_W) (a0 w hw gw ch gq : Nat) (x1 : Int32) (t_a0 : T a0 = some (21, w, ch)) (t_w : isW T w hw gw) (t_ch : T ch = some (10, gq, 0)) (hO : okO T O [1, 7, 11, 12, 15, 16, 19, 21]) : TK l D cs kf yX11_parties cX11_parties 2 (some (.int)) { frames := 6, cells := 0, slots := 0, locals := 156 } [.ref a0, .int x1] T O X (Ti D cs (fun r u => u = (T, O, X) ∧ -2 ≤ r.toInt ∧ r.toInt ≤ 99)) := by
  refine tk_of (by decide) (Nat.le_of_ble_eq_true rfl) (fun p e s m below meth c ls A H locs hx hb hr hml hown hts hlocks hnm hkb hH hS hA hOX hks hE hl => ?_)
  have hown : s.vm.findClass RX11 = some m.cls := hown
  have hl : lv_has ls 2 [(0, .ref a0), (1, .int x1)] := hl
  have b1_w := t_w.2.1
  have b2_w := t_w.2.2
  refine lv_aload_n hx hb dX11_parties_0 rfl (lv_at hl 0 rfl) ?_
  refine lv_iload_n hx hb dX11_parties_1 rfl (lv_at hl 1 rfl) ?_
  refine tk_i hH hS hA (tr_V (n := 1) (As := [.int x1]) hx hb hml hown hts hkb hH hOX hks hE hS hA (s_FW_isGuide l D cs kf T O X a0 w hw gw ch gq x1 t_a0 t_w t_ch (hO.sub (by decide))) kw_794 kw_796 ks_20 kw_1 kw_797 (by decide +kernel) ⟨Nat.le_of_ble_eq_true rfl, Nat.le_of_ble_eq_true rfl⟩ (HT.recv (ci := 11) hkb hH t_a0 (hO.no t_a0 (by decide)) rfl) rfl rfl hl.1 (Nat.le_of_ble_eq_true rfl) dX11_parties_2 ⟨Nat.le_of_ble_eq_true rfl, Nat.le_of_ble_eq_true rfl⟩) (fun v2 u H locs hz9 hH hS => ?_)
  obtain ⟨rfl, l_v2, u_v2, x_v20⟩ := hz9
  have hH : HT D cs A T O X H := hH
  refine W.widen (k := 0) (n := 0) (Nat.le_of_ble_eq_true rfl) (Nat.le_of_ble_eq_true rfl) ?_
  have J36 : ∀ (k36_0 : Int32) (H : Heap) (locs : List Loc) (ls : Array Slot), (-2 ≤ k36_0.toInt) → (k36_0.toInt ≤ 99) → HT D cs A T O X H → va_S A s.heap H locs → lv_has ls 2 [] → W p l e { frames := 6, cells := 0, slots := 0, locals := 156 } s m [.ref a0, .int x1].toArray below meth c H locs 0 0 (MQ below (Ti D cs (fun r u => u = (T, O, X) ∧ -2 ≤ r.toInt ∧ r.toInt ≤ 99) A) [.ref a0, .int x1].toArray s 0 0 A) (F0 m 36 ls [.int k36_0]) := by
    intro k36_0 H locs ls l_k36_0 u_k36_0 hH hS hl
    exact te_i hx hb hr hlocks hH hS (⟨rfl, by omega, by omega⟩) dX11_parties_36
  refine lv_if_eq (tgt := 34) hx hb dX11_parties_5 (by decide) (fun c5 => ?_) (fun c5 => ?_)
  · skip
    have tc5 := f_eq (k := 0) (by decide) c5
    refine lv_bipush (v := (-2)) hx hb dX11_parties_34 (by decide) ?_
    exact J36 (-2) _ _ _ (by decide) (by decide) hH hS (lv_sub hl [] rfl)
  · skip
    have tc5 := f_ne (k := 0) (by decide) c5
    refine lv_aload_n hx hb dX11_parties_8 rfl (lv_at hl 0 rfl) ?_
    refine t_get (ci := 11) (lst := ft11 w ch) (C := RX11) (F := TX11) (N := 20) hx hb hts uX11 hown hkb hH t_a0 (hO.no t_a0 (by decide)) (fun _ h9 => h9) rfl rfl 15 (by decide) rfl kw_375 (fun _ h9 => h9) dX11_parties_9 (fun v9 h9 => ?_)
    obtain ⟨v9, rfl, t_v9⟩ := h9
    refine lv_aload_n hx hb dX11_parties_12 rfl (lv_at hl 0 rfl) ?_
    refine lv_iload_n hx hb dX11_parties_13 rfl (lv_at hl 1 rfl) ?_
    refine tk_r hH hS hA (tr_V (n := 1) (As := [.int x1]) hx hb hml hown hts hkb hH hOX hks hE hS hA (s_FW_rowsOf l D cs kf T O X a0 w hw gw ch gq x1 t_a0 t_w t_ch (by omega) (by omega) (hO.sub (by decide))) kw_830 kw_832 ks_21 kw_1 kw_833 (by decide +kernel) ⟨Nat.le_of_ble_eq_true rfl, Nat.le_of_ble_eq_true rfl⟩ (HT.recv (ci := 11) hkb hH t_a0 (hO.no t_a0 (by decide)) rfl) rfl rfl hl.1 (Nat.le_of_ble_eq_true rfl) dX11_parties_14 ⟨Nat.le_of_ble_eq_true rfl, Nat.le_of_ble_eq_true rfl⟩) (fun v14 u H locs hz9 hH hS => ?_)
    obtain ⟨hu9, t_v14⟩ := hz9
    have hu9 : u = (T, O, X) := hu9
    subst hu9
    have hH : HT D cs A T O X H := hH
    refine W.widen (k := 0) (n := 0) (Nat.le_of_ble_eq_true rfl) (Nat.le_of_ble_eq_true rfl) ?_
    refine lv_aload_n hx hb dX11_parties_17 rfl (lv_at hl 0 rfl) ?_
    refine tk_i hH hS hA (tr_V (n := 0) (As := []) hx hb hml hown hts hkb hH hOX hks hE hS hA (s_FW_openNow l D cs kf T O X a0 w hw gw ch gq t_a0 t_w t_ch (hO.sub (by decide))) kw_846 kw_848 ks_22 kw_1 kw_849 (by decide +kernel) ⟨Nat.le_of_ble_eq_true rfl, Nat.le_of_ble_eq_true rfl⟩ (HT.recv (ci := 11) hkb hH t_a0 (hO.no t_a0 (by decide)) rfl) rfl rfl hl.1 (Nat.le_of_ble_eq_true rfl) dX11_parties_18 ⟨Nat.le_of_ble_eq_true rfl, Nat.le_of_ble_eq_true rfl⟩) (fun v18 u H locs hz9 hH hS => ?_)
    obtain ⟨rfl, l_v18, u_v18⟩ := hz9
    have hH : HT D cs A T O X H := hH
    refine W.widen (k := 0) (n := 0) (Nat.le_of_ble_eq_true rfl) (Nat.le_of_ble_eq_true rfl) ?_
    refine lv_aload_n hx hb dX11_parties_21 rfl (lv_at hl 0 rfl) ?_
    refine t_get (ci := 11) (lst := ft11 w ch) (C := RX11) (F := TX11) (N := 20) hx hb hts uX11 hown hkb hH t_a0 (hO.no t_a0 (by decide)) (fun _ h9 => h9) rfl rfl 3 (by decide) rfl kw_363 (fun _ h9 => h9) dX11_parties_22 (fun v9 h9 => ?_)
    have h9 : v9 = .ref w := h9
    subst h9
    refine tk_i hH hS hA (tr_V (n := 0) (As := []) hx hb hml hown hts hkb hH hOX hks hE hS hA (s_Wall_middles l D cs kf T O X w hw gw t_w (hO.sub (by decide))) kw_892 kw_683 kw_684 kw_5 kw_685 (by decide +kernel) ⟨Nat.le_of_ble_eq_true rfl, Nat.le_of_ble_eq_true rfl⟩ (HT.recv (ci := 9) hkb hH t_w.1 (hO.no t_w.1 (by decide)) rfl) rfl rfl hl.1 (Nat.le_of_ble_eq_true rfl) dX11_parties_25 ⟨Nat.le_of_ble_eq_true rfl, Nat.le_of_ble_eq_true rfl⟩) (fun v25 u H locs hz9 hH hS => ?_)
    obtain ⟨rfl, l_v25, u_v25⟩ := hz9
    have hH : HT D cs A T O X H := hH
    refine W.widen (k := 0) (n := 0) (Nat.le_of_ble_eq_true rfl) (Nat.le_of_ble_eq_true rfl) ?_
    refine tk_i hH hS hA (tr_V (n := 3) (As := [.ref v14, .int v18, .int v25]) hx hb hml hown hts hkb hH hOX hks hE hS hA (s_Cut_fewest l D cs kf T O X v9 v14 v18 v25 t_v9 t_v14 (hO.sub (by decide))) kw_1014 kw_1015 kw_1016 kw_10 kw_1017 (by decide +kernel) ⟨Nat.le_of_ble_eq_true rfl, Nat.le_of_ble_eq_true rfl⟩ (HT.recv (ci := 1) hkb hH t_v9 (hO.no t_v9 (by decide)) rfl) rfl rfl hl.1 (Nat.le_of_ble_eq_true rfl) dX11_parties_28 ⟨Nat.le_of_ble_eq_true rfl, Nat.le_of_ble_eq_true rfl⟩) (fun v28 u H locs hz9 hH hS => ?_)
    obtain ⟨rfl, l_v28, u_v28⟩ := hz9
    have hH : HT D cs A T O X H := hH
    refine W.widen (k := 0) (n := 0) (Nat.le_of_ble_eq_true rfl) (Nat.le_of_ble_eq_true rfl) ?_
    refine lv_goto (tgt := 36) hx hb dX11_parties_31 (by decide) ?_
    exact J36 v28 _ _ _ (by omega) (by omega) hH hS (lv_sub hl [] rfl)
set_option maxHeartbeats 4000000 in
set_option maxRecDepth 100000 in
theorem s_FW_shut (l : Launch) (D : va_G) (cs : CS) (kf : KF) (T : TF) (O : List Nat) (X : va_W) (a0 w hw gw ch gq : Nat) (x1 : Int32) (x2 : Int32) (t_a0 : T a0 = some (21, w, ch)) (t_w : isW T w hw gw) (t_ch : T ch = some (10, gq, 0)) (hO : okO T O [1, 7, 11, 12, 15, 16, 19, 21]) : TK l D cs kf yX11_shut cX11_shut 4 (some (.int)) { frames := 7, cells := 0, slots := 0, locals := 182 } [.ref a0, .int x1, .int x2] T O X (Ti D cs (fun r u => u = (T, O, X) ∧ -2 ≤ r.toInt ∧ r.toInt ≤ 16383)) := by
  refine tk_of (by decide) (Nat.le_of_ble_eq_true rfl) (fun p e s m below meth c ls A H locs hx hb hr hml hown hts hlocks hnm hkb hH hS hA hOX hks hE hl => ?_)
  have hown : s.vm.findClass RX11 = some m.cls := hown
  have hl : lv_has ls 4 [(0, .ref a0), (1, .int x1), (2, .int x2)] := hl
  have b1_w := t_w.2.1
  have b2_w := t_w.2.2
  refine lv_aload_n hx hb dX11_shut_0 rfl (lv_at hl 0 rfl) ?_
  refine lv_iload_n hx hb dX11_shut_1 rfl (lv_at hl 1 rfl) ?_
  refine tk_i hH hS hA (tr_V (n := 1) (As := [.int x1]) hx hb hml hown hts hkb hH hOX hks hE hS hA (s_FW_isGuide l D cs kf T O X a0 w hw gw ch gq x1 t_a0 t_w t_ch (hO.sub (by decide))) kw_794 kw_796 ks_20 kw_1 kw_797 (by decide +kernel) ⟨Nat.le_of_ble_eq_true rfl, Nat.le_of_ble_eq_true rfl⟩ (HT.recv (ci := 11) hkb hH t_a0 (hO.no t_a0 (by decide)) rfl) rfl rfl hl.1 (Nat.le_of_ble_eq_true rfl) dX11_shut_2 ⟨Nat.le_of_ble_eq_true rfl, Nat.le_of_ble_eq_true rfl⟩) (fun v2 u H locs hz9 hH hS => ?_)
  obtain ⟨rfl, l_v2, u_v2, x_v20⟩ := hz9
  have hH : HT D cs A T O X H := hH
  refine W.widen (k := 0) (n := 0) (Nat.le_of_ble_eq_true rfl) (Nat.le_of_ble_eq_true rfl) ?_
  have J17 : ∀  (H : Heap) (locs : List Loc) (ls : Array Slot), HT D cs A T O X H → va_S A s.heap H locs → lv_has ls 4 [] → W p l e { frames := 7, cells := 0, slots := 0, locals := 182 } s m [.ref a0, .int x1, .int x2].toArray below meth c H locs 0 0 (MQ below (Ti D cs (fun r u => u = (T, O, X) ∧ -2 ≤ r.toInt ∧ r.toInt ≤ 16383) A) [.ref a0, .int x1, .int x2].toArray s 0 0 A) (F0 m 17 ls []) := by
    intro  H locs ls  hH hS hl
    refine lv_bipush (v := (-2)) hx hb dX11_shut_17 (by decide) ?_
    exact te_i hx hb hr hlocks hH hS (⟨rfl, by decide, by decide⟩) dX11_shut_19
  refine lv_if_eq (tgt := 17) hx hb dX11_shut_5 (by decide) (fun c5 => ?_) (fun c5 => ?_)
  · skip
    have tc5 := f_eq (k := 0) (by decide) c5
    exact J17  _ _ _  hH hS (lv_sub hl [] rfl)
  · skip
    have tc5 := f_ne (k := 0) (by decide) c5
    refine lv_iload_n hx hb dX11_shut_8 rfl (lv_at hl 2 rfl) ?_
    refine lv_if_lt (tgt := 17) hx hb dX11_shut_9 (by decide) (fun c9 => ?_) (fun c9 => ?_)
    · skip
      have tc9 := f_lt (k := 0) (by decide) c9
      exact J17  _ _ _  hH hS (lv_sub hl [] rfl)
    · skip
      have tc9 := f_nlt (k := 0) (by decide) c9
      refine lv_iload_n hx hb dX11_shut_12 rfl (lv_at hl 2 rfl) ?_
      refine lv_iconst (v := 1) hx hb dX11_shut_13 (by decide) ?_
      refine lv_icmp_le (tgt := 20) hx hb dX11_shut_14 (by decide) (fun c14 => ?_) (fun c14 => ?_)
      · skip
        have tc14 := f_le (k := 1) (by decide) c14
        refine lv_aload_n hx hb dX11_shut_20 rfl (lv_at hl 0 rfl) ?_
        refine t_get (ci := 11) (lst := ft11 w ch) (C := RX11) (F := TX11) (N := 20) hx hb hts uX11 hown hkb hH t_a0 (hO.no t_a0 (by decide)) (fun _ h9 => h9) rfl rfl 15 (by decide) rfl kw_375 (fun _ h9 => h9) dX11_shut_21 (fun v9 h9 => ?_)
        obtain ⟨v21, rfl, t_v21⟩ := h9
        refine lv_aload_n hx hb dX11_shut_24 rfl (lv_at hl 0 rfl) ?_
        refine lv_iload_n hx hb dX11_shut_25 rfl (lv_at hl 1 rfl) ?_
        refine tk_r hH hS hA (tr_V (n := 1) (As := [.int x1]) hx hb hml hown hts hkb hH hOX hks hE hS hA (s_FW_rowsOf l D cs kf T O X a0 w hw gw ch gq x1 t_a0 t_w t_ch (by omega) (by omega) (hO.sub (by decide))) kw_830 kw_832 ks_21 kw_1 kw_833 (by decide +kernel) ⟨Nat.le_of_ble_eq_true rfl, Nat.le_of_ble_eq_true rfl⟩ (HT.recv (ci := 11) hkb hH t_a0 (hO.no t_a0 (by decide)) rfl) rfl rfl hl.1 (Nat.le_of_ble_eq_true rfl) dX11_shut_26 ⟨Nat.le_of_ble_eq_true rfl, Nat.le_of_ble_eq_true rfl⟩) (fun v26 u H locs hz9 hH hS => ?_)
        obtain ⟨hu9, t_v26⟩ := hz9
        have hu9 : u = (T, O, X) := hu9
        subst hu9
        have hH : HT D cs A T O X H := hH
        refine W.widen (k := 0) (n := 0) (Nat.le_of_ble_eq_true rfl) (Nat.le_of_ble_eq_true rfl) ?_
        refine lv_aload_n hx hb dX11_shut_29 rfl (lv_at hl 0 rfl) ?_
        refine tk_i hH hS hA (tr_V (n := 0) (As := []) hx hb hml hown hts hkb hH hOX hks hE hS hA (s_FW_openNow l D cs kf T O X a0 w hw gw ch gq t_a0 t_w t_ch (hO.sub (by decide))) kw_846 kw_848 ks_22 kw_1 kw_849 (by decide +kernel) ⟨Nat.le_of_ble_eq_true rfl, Nat.le_of_ble_eq_true rfl⟩ (HT.recv (ci := 11) hkb hH t_a0 (hO.no t_a0 (by decide)) rfl) rfl rfl hl.1 (Nat.le_of_ble_eq_true rfl) dX11_shut_30 ⟨Nat.le_of_ble_eq_true rfl, Nat.le_of_ble_eq_true rfl⟩) (fun v30 u H locs hz9 hH hS => ?_)
        obtain ⟨rfl, l_v30, u_v30⟩ := hz9
        have hH : HT D cs A T O X H := hH
        refine W.widen (k := 0) (n := 0) (Nat.le_of_ble_eq_true rfl) (Nat.le_of_ble_eq_true rfl) ?_
        refine tk_i hH hS hA (tr_V (n := 2) (As := [.ref v26, .int v30]) hx hb hml hown hts hkb hH hOX hks hE hS hA (s_Cut_leastSet l D cs kf T O X v21 v26 v30 t_v21 t_v26 (hO.sub (by decide))) kw_1044 kw_1045 kw_1046 kw_10 kw_1047 (by decide +kernel) ⟨Nat.le_of_ble_eq_true rfl, Nat.le_of_ble_eq_true rfl⟩ (HT.recv (ci := 1) hkb hH t_v21 (hO.no t_v21 (by decide)) rfl) rfl rfl hl.1 (Nat.le_of_ble_eq_true rfl) dX11_shut_33 ⟨Nat.le_of_ble_eq_true rfl, Nat.le_of_ble_eq_true rfl⟩) (fun v33 u H locs hz9 hH hS => ?_)
        obtain ⟨rfl, l_v33, u_v33⟩ := hz9
        have hH : HT D cs A T O X H := hH
        refine W.widen (k := 0) (n := 0) (Nat.le_of_ble_eq_true rfl) (Nat.le_of_ble_eq_true rfl) ?_
        refine lv_istore_n (lv' := [(3, .int v33), (0, .ref a0), (1, .int x1), (2, .int x2)]) hx hb dX11_shut_36 rfl hl (by decide) rfl (fun ls hl => ?_)
        refine lv_iload_n hx hb dX11_shut_37 rfl (lv_at hl 0 rfl) ?_
        refine lv_iconst (v := (-1)) hx hb dX11_shut_38 (by decide) ?_
        have J55 : ∀ (k55_0 : Int32) (H : Heap) (locs : List Loc) (ls : Array Slot), (-1 ≤ k55_0.toInt) → (k55_0.toInt ≤ 16383) → HT D cs A T O X H → va_S A s.heap H locs → lv_has ls 4 [] → W p l e { frames := 7, cells := 0, slots := 0, locals := 182 } s m [.ref a0, .int x1, .int x2].toArray below meth c H locs 0 0 (MQ below (Ti D cs (fun r u => u = (T, O, X) ∧ -2 ≤ r.toInt ∧ r.toInt ≤ 16383) A) [.ref a0, .int x1, .int x2].toArray s 0 0 A) (F0 m 55 ls [.int k55_0]) := by
          intro k55_0 H locs ls l_k55_0 u_k55_0 hH hS hl
          exact te_i hx hb hr hlocks hH hS (⟨rfl, by omega, by omega⟩) dX11_shut_55
        have J47 : ∀  (H : Heap) (locs : List Loc) (ls : Array Slot), HT D cs A T O X H → va_S A s.heap H locs → lv_has ls 4 [(3, .int v33)] → W p l e { frames := 7, cells := 0, slots := 0, locals := 182 } s m [.ref a0, .int x1, .int x2].toArray below meth c H locs 0 0 (MQ below (Ti D cs (fun r u => u = (T, O, X) ∧ -2 ≤ r.toInt ∧ r.toInt ≤ 16383) A) [.ref a0, .int x1, .int x2].toArray s 0 0 A) (F0 m 47 ls []) := by
          intro  H locs ls  hH hS hl
          refine lv_iload_n hx hb dX11_shut_47 rfl (lv_at hl 0 rfl) ?_
          refine lv_goto (tgt := 55) hx hb dX11_shut_48 (by decide) ?_
          exact J55 v33 _ _ _ (by omega) (by omega) hH hS (lv_sub hl [] rfl)
        refine lv_icmp_eq (tgt := 47) hx hb dX11_shut_39 (by decide) (fun c39 => ?_) (fun c39 => ?_)
        · skip
          have tc39 := f_eq (k := -1) (by decide) c39
          exact J47  _ _ _  hH hS (lv_sub hl [0] rfl)
        · skip
          have tc39 := f_ne (k := -1) (by decide) c39
          refine lv_iload_n hx hb dX11_shut_42 rfl (lv_at hl 3 rfl) ?_
          refine lv_iconst (v := 1) hx hb dX11_shut_43 (by decide) ?_
          refine lv_icmp_ne (tgt := 51) hx hb dX11_shut_44 (by decide) (fun c44 => ?_) (fun c44 => ?_)
          · skip
            have tc44 := f_ne (k := 1) (by decide) c44
            refine lv_iload_n hx hb dX11_shut_51 rfl (lv_at hl 0 rfl) ?_
            refine tk_i hH hS hA (tr_S (n := 1) (As := [.int v33]) hx hb hml hown hts hkb hH hOX hks hE hS hA (s_bitCount l D cs kf T O X v33  (hO.sub (by decide))) kw_893 kw_692 kw_20 kw_693 (by decide +kernel) ⟨Nat.le_of_ble_eq_true rfl, Nat.le_of_ble_eq_true rfl⟩ rfl rfl hl.1 (Nat.le_of_ble_eq_true rfl) dX11_shut_52 ⟨Nat.le_of_ble_eq_true rfl, Nat.le_of_ble_eq_true rfl⟩) (fun v52 u H locs hz9 hH hS => ?_)
            obtain ⟨rfl, l_v52, u_v52⟩ := hz9
            have hH : HT D cs A T O X H := hH
            refine W.widen (k := 0) (n := 0) (Nat.le_of_ble_eq_true rfl) (Nat.le_of_ble_eq_true rfl) ?_
            exact J55 v52 _ _ _ (by omega) (by omega) hH hS (lv_sub hl [] rfl)
          · skip
            have tc44 := f_eq (k := 1) (by decide) c44
            exact J47  _ _ _  hH hS (lv_sub hl [0] rfl)
      · skip
        have tc14 := f_nle (k := 1) (by decide) c14
        exact J17  _ _ _  hH hS (lv_sub hl [] rfl)
set_option maxHeartbeats 4000000 in
set_option maxRecDepth 100000 in
theorem s_FW_needs (l : Launch) (D : va_G) (cs : CS) (kf : KF) (T : TF) (O : List Nat) (X : va_W) (a0 w hw gw ch gq : Nat) (x1 : Int32) (x2 : Int32) (t_a0 : T a0 = some (21, w, ch)) (t_w : isW T w hw gw) (t_ch : T ch = some (10, gq, 0)) (l_x1 : 0 ≤ x1.toInt) (u_x1 : x1.toInt < gw) (hO : okO T O [1, 7, 12, 15, 16, 19, 21]) : TK l D cs kf yX11_needs cX11_needs 5 (some (.boolean)) { frames := 6, cells := 0, slots := 0, locals := 150 } [.ref a0, .int x1, .int x2] T O X (Ti D cs (fun r u => u = (T, O, X) ∧ 0 ≤ r.toInt ∧ r.toInt ≤ 1)) := by
  refine tk_of (by decide) (Nat.le_of_ble_eq_true rfl) (fun p e s m below meth c ls A H locs hx hb hr hml hown hts hlocks hnm hkb hH hS hA hOX hks hE hl => ?_)
  have hown : s.vm.findClass RX11 = some m.cls := hown
  have hl : lv_has ls 5 [(0, .ref a0), (1, .int x1), (2, .int x2)] := hl
  have b1_w := t_w.2.1
  have b2_w := t_w.2.2
  refine lv_aload_n hx hb dX11_needs_0 rfl (lv_at hl 0 rfl) ?_
  refine tk_i hH hS hA (tr_V (n := 0) (As := []) hx hb hml hown hts hkb hH hOX hks hE hS hA (s_FW_openNow l D cs kf T O X a0 w hw gw ch gq t_a0 t_w t_ch (hO.sub (by decide))) kw_846 kw_848 ks_22 kw_1 kw_849 (by decide +kernel) ⟨Nat.le_of_ble_eq_true rfl, Nat.le_of_ble_eq_true rfl⟩ (HT.recv (ci := 11) hkb hH t_a0 (hO.no t_a0 (by decide)) rfl) rfl rfl hl.1 (Nat.le_of_ble_eq_true rfl) dX11_needs_1 ⟨Nat.le_of_ble_eq_true rfl, Nat.le_of_ble_eq_true rfl⟩) (fun v1 u H locs hz9 hH hS => ?_)
  obtain ⟨rfl, l_v1, u_v1⟩ := hz9
  have hH : HT D cs A T O X H := hH
  refine W.widen (k := 0) (n := 0) (Nat.le_of_ble_eq_true rfl) (Nat.le_of_ble_eq_true rfl) ?_
  refine lv_istore_n (lv' := [(3, .int v1), (0, .ref a0), (1, .int x1), (2, .int x2)]) hx hb dX11_needs_4 rfl hl (by decide) rfl (fun ls hl => ?_)
  refine lv_iload_n hx hb dX11_needs_5 rfl (lv_at hl 0 rfl) ?_
  refine lv_aload_n hx hb dX11_needs_6 rfl (lv_at hl 1 rfl) ?_
  refine t_get (ci := 11) (lst := ft11 w ch) (C := RX11) (F := TX11) (N := 20) hx hb hts uX11 hown hkb hH t_a0 (hO.no t_a0 (by decide)) (fun _ h9 => h9) rfl rfl 3 (by decide) rfl kw_363 (fun _ h9 => h9) dX11_needs_7 (fun v9 h9 => ?_)
  have h9 : v9 = .ref w := h9
  subst h9
  refine tk_i hH hS hA (tr_V (n := 0) (As := []) hx hb hml hown hts hkb hH hOX hks hE hS hA (s_Wall_middles l D cs kf T O X w hw gw t_w (hO.sub (by decide))) kw_892 kw_683 kw_684 kw_5 kw_685 (by decide +kernel) ⟨Nat.le_of_ble_eq_true rfl, Nat.le_of_ble_eq_true rfl⟩ (HT.recv (ci := 9) hkb hH t_w.1 (hO.no t_w.1 (by decide)) rfl) rfl rfl hl.1 (Nat.le_of_ble_eq_true rfl) dX11_needs_10 ⟨Nat.le_of_ble_eq_true rfl, Nat.le_of_ble_eq_true rfl⟩) (fun v10 u H locs hz9 hH hS => ?_)
  obtain ⟨rfl, l_v10, u_v10⟩ := hz9
  have hH : HT D cs A T O X H := hH
  refine W.widen (k := 0) (n := 0) (Nat.le_of_ble_eq_true rfl) (Nat.le_of_ble_eq_true rfl) ?_
  refine lv_iand hx hb dX11_needs_13 ?_
  refine lv_topi (fun v13 ev13 => ?_)
  have tv13 : 0 ≤ v13.toInt ∧ v13.toInt ≤ v1.toInt := by rw [ev13]; exact and_l (by omega)
  have ttv13 : 0 ≤ v13.toInt ∧ v13.toInt ≤ v10.toInt := by rw [ev13]; exact and_r (by omega)
  refine lv_iload_n hx hb dX11_needs_14 rfl (lv_at hl 3 rfl) ?_
  refine lv_ishr hx hb dX11_needs_15 ?_
  refine lv_topi (fun v15 ev15 => ?_)
  have tv15 : 0 ≤ v15.toInt ∧ v15.toInt ≤ v13.toInt := by rw [ev15]; exact shr_b (by omega)
  refine lv_iconst (v := 1) hx hb dX11_needs_16 (by decide) ?_
  refine lv_iand hx hb dX11_needs_17 ?_
  refine lv_topi (fun v17 ev17 => ?_)
  have tv17 : 0 ≤ v17.toInt ∧ v17.toInt ≤ 1 := by rw [ev17]; exact and_r (by decide)
  refine lv_if_ne (tgt := 23) hx hb dX11_needs_18 (by decide) (fun c18 => ?_) (fun c18 => ?_)
  · skip
    have tc18 := f_ne (k := 0) (by decide) c18
    refine lv_aload_n hx hb dX11_needs_23 rfl (lv_at hl 1 rfl) ?_
    refine lv_iload_n hx hb dX11_needs_24 rfl (lv_at hl 2 rfl) ?_
    refine tk_r hH hS hA (tr_V (n := 1) (As := [.int x1]) hx hb hml hown hts hkb hH hOX hks hE hS hA (s_FW_rowsOf l D cs kf T O X a0 w hw gw ch gq x1 t_a0 t_w t_ch (by omega) (by omega) (hO.sub (by decide))) kw_830 kw_832 ks_21 kw_1 kw_833 (by decide +kernel) ⟨Nat.le_of_ble_eq_true rfl, Nat.le_of_ble_eq_true rfl⟩ (HT.recv (ci := 11) hkb hH t_a0 (hO.no t_a0 (by decide)) rfl) rfl rfl hl.1 (Nat.le_of_ble_eq_true rfl) dX11_needs_25 ⟨Nat.le_of_ble_eq_true rfl, Nat.le_of_ble_eq_true rfl⟩) (fun v25 u H locs hz9 hH hS => ?_)
    obtain ⟨hu9, t_v25⟩ := hz9
    have hu9 : u = (T, O, X) := hu9
    subst hu9
    have hH : HT D cs A T O X H := hH
    refine W.widen (k := 0) (n := 0) (Nat.le_of_ble_eq_true rfl) (Nat.le_of_ble_eq_true rfl) ?_
    refine lv_astore (lv' := [(4, .ref v25), (3, .int v1), (0, .ref a0), (1, .int x1), (2, .int x2)]) hx hb dX11_needs_28 hl (by decide) rfl (fun ls hl => ?_)
    refine lv_aload hx hb dX11_needs_30 (lv_at hl 0 rfl) ?_
    refine lv_iload_n hx hb dX11_needs_32 rfl (lv_at hl 1 rfl) ?_
    refine tk_i hH hS hA (tr_V (n := 1) (As := [.int v1]) hx hb hml hown hts hkb hH hOX hks hE hS hA (s_Rows_getsUp l D cs kf T O X v25 v1 t_v25 (hO.sub (by decide))) kw_1059 kw_1060 kw_1061 kw_8 kw_1062 (by decide +kernel) ⟨Nat.le_of_ble_eq_true rfl, Nat.le_of_ble_eq_true rfl⟩ (HT.recv (ci := 5) hkb hH t_v25 (hO.no t_v25 (by decide)) rfl) rfl rfl hl.1 (Nat.le_of_ble_eq_true rfl) dX11_needs_33 ⟨Nat.le_of_ble_eq_true rfl, Nat.le_of_ble_eq_true rfl⟩) (fun v33 u H locs hz9 hH hS => ?_)
    obtain ⟨rfl, l_v33, u_v33⟩ := hz9
    have hH : HT D cs A T O X H := hH
    refine W.widen (k := 0) (n := 0) (Nat.le_of_ble_eq_true rfl) (Nat.le_of_ble_eq_true rfl) ?_
    have J59 : ∀ (k59_0 : Int32) (H : Heap) (locs : List Loc) (ls : Array Slot), (0 ≤ k59_0.toInt) → (k59_0.toInt ≤ 1) → HT D cs A T O X H → va_S A s.heap H locs → lv_has ls 5 [] → W p l e { frames := 6, cells := 0, slots := 0, locals := 150 } s m [.ref a0, .int x1, .int x2].toArray below meth c H locs 0 0 (MQ below (Ti D cs (fun r u => u = (T, O, X) ∧ 0 ≤ r.toInt ∧ r.toInt ≤ 1) A) [.ref a0, .int x1, .int x2].toArray s 0 0 A) (F0 m 59 ls [.int k59_0]) := by
      intro k59_0 H locs ls l_k59_0 u_k59_0 hH hS hl
      exact te_z hx hb hr hlocks (nar01 (by omega) (by omega)) hH hS (⟨rfl, by omega, by omega⟩) dX11_needs_59
    have J58 : ∀  (H : Heap) (locs : List Loc) (ls : Array Slot), HT D cs A T O X H → va_S A s.heap H locs → lv_has ls 5 [] → W p l e { frames := 6, cells := 0, slots := 0, locals := 150 } s m [.ref a0, .int x1, .int x2].toArray below meth c H locs 0 0 (MQ below (Ti D cs (fun r u => u = (T, O, X) ∧ 0 ≤ r.toInt ∧ r.toInt ≤ 1) A) [.ref a0, .int x1, .int x2].toArray s 0 0 A) (F0 m 58 ls []) := by
      intro  H locs ls  hH hS hl
      refine lv_iconst (v := 0) hx hb dX11_needs_58 (by decide) ?_
      exact J59 0 _ _ _ (by decide) (by decide) hH hS (lv_sub hl [] rfl)
    refine lv_if_eq (tgt := 58) hx hb dX11_needs_36 (by decide) (fun c36 => ?_) (fun c36 => ?_)
    · skip
      have tc36 := f_eq (k := 0) (by decide) c36
      exact J58  _ _ _  hH hS (lv_sub hl [] rfl)
    · skip
      have tc36 := f_ne (k := 0) (by decide) c36
      refine lv_aload hx hb dX11_needs_39 (lv_at hl 0 rfl) ?_
      refine lv_iload_n hx hb dX11_needs_41 rfl (lv_at hl 1 rfl) ?_
      refine lv_iconst (v := 1) hx hb dX11_needs_42 (by decide) ?_
      refine lv_iload_n hx hb dX11_needs_43 rfl (lv_at hl 4 rfl) ?_
      refine lv_ishl hx hb dX11_needs_44 ?_
      refine lv_topi (fun v44 ev44 => ?_)
      refine lv_iconst (v := (-1)) hx hb dX11_needs_45 (by decide) ?_
      refine lv_ixor hx hb dX11_needs_46 ?_
      refine lv_topi (fun v46 ev46 => ?_)
      refine lv_iand hx hb dX11_needs_47 ?_
      refine lv_topi (fun v47 ev47 => ?_)
      have tv47 : 0 ≤ v47.toInt ∧ v47.toInt ≤ v1.toInt := by rw [ev47]; exact and_l (by omega)
      refine tk_i hH hS hA (tr_V (n := 1) (As := [.int v47]) hx hb hml hown hts hkb hH hOX hks hE hS hA (s_Rows_getsUp l D cs kf T O X v25 v47 t_v25 (hO.sub (by decide))) kw_1059 kw_1060 kw_1061 kw_8 kw_1062 (by decide +kernel) ⟨Nat.le_of_ble_eq_true rfl, Nat.le_of_ble_eq_true rfl⟩ (HT.recv (ci := 5) hkb hH t_v25 (hO.no t_v25 (by decide)) rfl) rfl rfl hl.1 (Nat.le_of_ble_eq_true rfl) dX11_needs_48 ⟨Nat.le_of_ble_eq_true rfl, Nat.le_of_ble_eq_true rfl⟩) (fun v48 u H locs hz9 hH hS => ?_)
      obtain ⟨rfl, l_v48, u_v48⟩ := hz9
      have hH : HT D cs A T O X H := hH
      refine W.widen (k := 0) (n := 0) (Nat.le_of_ble_eq_true rfl) (Nat.le_of_ble_eq_true rfl) ?_
      refine lv_if_ne (tgt := 58) hx hb dX11_needs_51 (by decide) (fun c51 => ?_) (fun c51 => ?_)
      · skip
        have tc51 := f_ne (k := 0) (by decide) c51
        exact J58  _ _ _  hH hS (lv_sub hl [] rfl)
      · skip
        have tc51 := f_eq (k := 0) (by decide) c51
        refine lv_iconst (v := 1) hx hb dX11_needs_54 (by decide) ?_
        refine lv_goto (tgt := 59) hx hb dX11_needs_55 (by decide) ?_
        exact J59 1 _ _ _ (by decide) (by decide) hH hS (lv_sub hl [] rfl)
  · skip
    have tc18 := f_eq (k := 0) (by decide) c18
    refine lv_iconst (v := 0) hx hb dX11_needs_21 (by decide) ?_
    exact te_z hx hb hr hlocks (by rfl) hH hS (⟨rfl, by decide, by decide⟩) dX11_needs_22
set_option maxHeartbeats 4000000 in
set_option maxRecDepth 100000 in
theorem s_FW_needed (l : Launch) (D : va_G) (cs : CS) (kf : KF) (T : TF) (O : List Nat) (X : va_W) (a0 w hw gw ch gq : Nat) (x1 : Int32) (t_a0 : T a0 = some (21, w, ch)) (t_w : isW T w hw gw) (t_ch : T ch = some (10, gq, 0)) (hO : okO T O [1, 7, 12, 15, 16, 19, 21]) : TK l D cs kf yX11_needed cX11_needed 4 (some (.int)) { frames := 7, cells := 0, slots := 0, locals := 174 } [.ref a0, .int x1] T O X (Ti D cs (fun r u => u = (T, O, X) ∧ -2 ≤ r.toInt ∧ r.toInt ≤ 16383)) := by
  refine tk_of (by decide) (Nat.le_of_ble_eq_true rfl) (fun p e s m below meth c ls A H locs hx hb hr hml hown hts hlocks hnm hkb hH hS hA hOX hks hE hl => ?_)
  have hown : s.vm.findClass RX11 = some m.cls := hown
  have hl : lv_has ls 4 [(0, .ref a0), (1, .int x1)] := hl
  have b1_w := t_w.2.1
  have b2_w := t_w.2.2
  refine lv_aload_n hx hb dX11_needed_0 rfl (lv_at hl 0 rfl) ?_
  refine lv_iload_n hx hb dX11_needed_1 rfl (lv_at hl 1 rfl) ?_
  refine tk_i hH hS hA (tr_V (n := 1) (As := [.int x1]) hx hb hml hown hts hkb hH hOX hks hE hS hA (s_FW_isGuide l D cs kf T O X a0 w hw gw ch gq x1 t_a0 t_w t_ch (hO.sub (by decide))) kw_794 kw_796 ks_20 kw_1 kw_797 (by decide +kernel) ⟨Nat.le_of_ble_eq_true rfl, Nat.le_of_ble_eq_true rfl⟩ (HT.recv (ci := 11) hkb hH t_a0 (hO.no t_a0 (by decide)) rfl) rfl rfl hl.1 (Nat.le_of_ble_eq_true rfl) dX11_needed_2 ⟨Nat.le_of_ble_eq_true rfl, Nat.le_of_ble_eq_true rfl⟩) (fun v2 u H locs hz9 hH hS => ?_)
  obtain ⟨rfl, l_v2, u_v2, x_v20⟩ := hz9
  have hH : HT D cs A T O X H := hH
  refine W.widen (k := 0) (n := 0) (Nat.le_of_ble_eq_true rfl) (Nat.le_of_ble_eq_true rfl) ?_
  refine lv_if_ne (tgt := 11) hx hb dX11_needed_5 (by decide) (fun c5 => ?_) (fun c5 => ?_)
  · skip
    have tc5 := f_ne (k := 0) (by decide) c5
    refine lv_iconst (v := 0) hx hb dX11_needed_11 (by decide) ?_
    refine lv_istore_n (lv' := [(2, .int 0), (0, .ref a0), (1, .int x1)]) hx hb dX11_needed_12 rfl hl (by decide) rfl (fun ls hl => ?_)
    refine lv_iconst (v := 0) hx hb dX11_needed_13 (by decide) ?_
    have J15 : ∀ (n : Nat) (p15_3 : Int32) (p15_2 : Int32) (H : Heap) (locs : List Loc) (ls : Array Slot), (14 - p15_3.toInt).toNat = n → (0 ≤ p15_3.toInt) → (p15_3.toInt ≤ 14) → (0 ≤ p15_2.toInt) → (p15_2.toInt ≤ 16383) → HT D cs A T O X H → va_S A s.heap H locs → lv_has ls 4 [(3, .int p15_3), (2, .int p15_2), (0, .ref a0), (1, .int x1)] → W p l e { frames := 7, cells := 0, slots := 0, locals := 174 } s m [.ref a0, .int x1].toArray below meth c H locs 0 0 (MQ below (Ti D cs (fun r u => u = (T, O, X) ∧ -2 ≤ r.toInt ∧ r.toInt ≤ 16383) A) [.ref a0, .int x1].toArray s 0 0 A) (F0 m 15 ls []) := by
      intro n
      induction n using Nat.strongRecOn with
      | _ n ih15 =>
        intro p15_3 p15_2 H locs ls hm15 l_p15_3 u_p15_3 l_p15_2 u_p15_2 hH hS hl
        refine lv_iload_n hx hb dX11_needed_15 rfl (lv_at hl 0 rfl) ?_
        refine lv_aload_n hx hb dX11_needed_16 rfl (lv_at hl 2 rfl) ?_
        refine t_get (ci := 11) (lst := ft11 w ch) (C := RX11) (F := TX11) (N := 20) hx hb hts uX11 hown hkb hH t_a0 (hO.no t_a0 (by decide)) (fun _ h9 => h9) rfl rfl 3 (by decide) rfl kw_363 (fun _ h9 => h9) dX11_needed_17 (fun v9 h9 => ?_)
        have h9 : v9 = .ref w := h9
        subst h9
        refine t_get (ci := 9) (lst := ft9w hw gw) (C := RX9) (F := TX9) (N := 14) hx hb hts uX9 hown hkb hH t_w.1 (hO.no t_w.1 (by decide)) (fun fs => (ob9w t_w fs).mp) rfl rfl 0 (by decide) rfl kw_109 (fun _ h9 => h9) dX11_needed_20 (fun v9 h9 => ?_)
        have h9 : v9 = .int (nI hw) := h9
        subst h9
        have e_hw : (nI hw).toInt = hw := nI_toInt (by have := t_w.2.1; omega)
        have b_hw := t_w.2.1
        refine lv_icmp_ge (tgt := 47) hx hb dX11_needed_23 (by decide) (fun c23 => ?_) (fun c23 => ?_)
        · skip
          have fuc23 := full_i p15_3
          have fvc23 := full_i (nI hw)
          have tc23 := g_le c23
          refine lv_iload_n hx hb dX11_needed_47 rfl (lv_at hl 1 rfl) ?_
          exact te_i hx hb hr hlocks hH hS (⟨rfl, by omega, by omega⟩) dX11_needed_48
        · skip
          have fuc23 := full_i p15_3
          have fvc23 := full_i (nI hw)
          have tc23 := g_nle c23
          refine lv_aload_n hx hb dX11_needed_26 rfl (lv_at hl 2 rfl) ?_
          refine lv_iload_n hx hb dX11_needed_27 rfl (lv_at hl 3 rfl) ?_
          refine lv_iload_n hx hb dX11_needed_28 rfl (lv_at hl 0 rfl) ?_
          refine tk_i hH hS hA (tr_V (n := 2) (As := [.int x1, .int p15_3]) hx hb hml hown hts hkb hH hOX hks hE hS hA (s_FW_needs l D cs kf T O X a0 w hw gw ch gq x1 p15_3 t_a0 t_w t_ch (by omega) (by omega) (hO.sub (by decide))) kw_1055 kw_1057 ks_37 kw_1 kw_1058 (by decide +kernel) ⟨Nat.le_of_ble_eq_true rfl, Nat.le_of_ble_eq_true rfl⟩ (HT.recv (ci := 11) hkb hH t_a0 (hO.no t_a0 (by decide)) rfl) rfl rfl hl.1 (Nat.le_of_ble_eq_true rfl) dX11_needed_29 ⟨Nat.le_of_ble_eq_true rfl, Nat.le_of_ble_eq_true rfl⟩) (fun v29 u H locs hz9 hH hS => ?_)
          obtain ⟨rfl, l_v29, u_v29⟩ := hz9
          have hH : HT D cs A T O X H := hH
          refine W.widen (k := 0) (n := 0) (Nat.le_of_ble_eq_true rfl) (Nat.le_of_ble_eq_true rfl) ?_
          have J41 : ∀ (p41_2 : Int32) (H : Heap) (locs : List Loc) (ls : Array Slot), (0 ≤ p41_2.toInt) → (p41_2.toInt ≤ 16383) → HT D cs A T O X H → va_S A s.heap H locs → lv_has ls 4 [(3, .int p15_3), (2, .int p41_2), (0, .ref a0), (1, .int x1)] → W p l e { frames := 7, cells := 0, slots := 0, locals := 174 } s m [.ref a0, .int x1].toArray below meth c H locs 0 0 (MQ below (Ti D cs (fun r u => u = (T, O, X) ∧ -2 ≤ r.toInt ∧ r.toInt ≤ 16383) A) [.ref a0, .int x1].toArray s 0 0 A) (F0 m 41 ls []) := by
            intro p41_2 H locs ls l_p41_2 u_p41_2 hH hS hl
            obtain ⟨v41, ev41⟩ : ∃ y : Int32, y = p15_3 + 1 := ⟨_, rfl⟩
            have tv41 : v41.toInt = p15_3.toInt + (1) := by rw [ev41]; exact add_i rfl (by decide) (by omega) (by omega)
            refine lv_iinc (v := v41) (lv' := [(3, .int v41), (2, .int p41_2), (0, .ref a0), (1, .int x1)]) hx hb dX11_needed_41 hl (k := 0) rfl (by rw [ev41]; rfl) (by decide) rfl (fun ls hl => ?_)
            refine lv_goto (tgt := 15) hx hb dX11_needed_44 (by decide) ?_
            exact ih15 _ (by omega) v41 p41_2 _ _ _ rfl (by omega) (by omega) (by omega) (by omega) hH hS (lv_sub hl [0, 1, 2, 3] rfl)
          refine lv_if_eq (tgt := 41) hx hb dX11_needed_32 (by decide) (fun c32 => ?_) (fun c32 => ?_)
          · skip
            have tc32 := f_eq (k := 0) (by decide) c32
            exact J41 p15_2 _ _ _ (by omega) (by omega) hH hS (lv_sub hl [0, 1, 2, 3] rfl)
          · skip
            have tc32 := f_ne (k := 0) (by decide) c32
            refine lv_iload_n hx hb dX11_needed_35 rfl (lv_at hl 1 rfl) ?_
            refine lv_iconst (v := 1) hx hb dX11_needed_36 (by decide) ?_
            refine lv_iload_n hx hb dX11_needed_37 rfl (lv_at hl 0 rfl) ?_
            refine lv_ishl hx hb dX11_needed_38 ?_
            refine lv_topi (fun v38 ev38 => ?_)
            have tv38 : 1 ≤ v38.toInt ∧ v38.toInt ≤ 8192 := by rw [ev38]; exact shl_b 13 (by decide) (by omega) (by omega)
            refine lv_ior hx hb dX11_needed_39 ?_
            refine lv_topi (fun v39 ev39 => ?_)
            have tv39 : 0 ≤ v39.toInt ∧ v39.toInt < 16384 := by rw [ev39]; exact or_b 14 (by decide) (by omega) (by omega) (by omega) (by omega)
            refine lv_istore_n (lv' := [(2, .int v39), (3, .int p15_3), (0, .ref a0), (1, .int x1)]) hx hb dX11_needed_40 rfl hl (by decide) rfl (fun ls hl => ?_)
            exact J41 v39 _ _ _ (by omega) (by omega) hH hS (lv_sub hl [1, 0, 2, 3] rfl)
    refine lv_istore_n (lv' := [(3, .int 0), (2, .int 0), (0, .ref a0), (1, .int x1)]) hx hb dX11_needed_14 rfl hl (by decide) rfl (fun ls hl => ?_)
    exact J15 _ 0 0 _ _ _ rfl (by decide) (by decide) (by decide) (by decide) hH hS (lv_sub hl [0, 1, 2, 3] rfl)
  · skip
    have tc5 := f_eq (k := 0) (by decide) c5
    refine lv_bipush (v := (-2)) hx hb dX11_needed_8 (by decide) ?_
    exact te_i hx hb hr hlocks hH hS (⟨rfl, by decide, by decide⟩) dX11_needed_10
set_option maxHeartbeats 4000000 in
set_option maxRecDepth 100000 in
theorem s_FW_able (l : Launch) (D : va_G) (cs : CS) (kf : KF) (T : TF) (O : List Nat) (X : va_W) (a0 w hw gw ch gq : Nat) (t_a0 : T a0 = some (21, w, ch)) (t_w : isW T w hw gw) (t_ch : T ch = some (10, gq, 0)) (hO : okO T O [1, 7, 12, 15, 16, 19, 21]) : TK l D cs kf yX11_able cX11_able 3 (some (.int)) { frames := 6, cells := 0, slots := 0, locals := 150 } [.ref a0] T O X (Ti D cs (fun r u => u = (T, O, X) ∧ 0 ≤ r.toInt ∧ r.toInt ≤ 16383)) := by
  refine tk_of (by decide) (Nat.le_of_ble_eq_true rfl) (fun p e s m below meth c ls A H locs hx hb hr hml hown hts hlocks hnm hkb hH hS hA hOX hks hE hl => ?_)
  have hown : s.vm.findClass RX11 = some m.cls := hown
  have hl : lv_has ls 3 [(0, .ref a0)] := hl
  have b1_w := t_w.2.1
  have b2_w := t_w.2.2
  refine lv_iconst (v := 0) hx hb dX11_able_0 (by decide) ?_
  refine lv_istore_n (lv' := [(1, .int 0), (0, .ref a0)]) hx hb dX11_able_1 rfl hl (by decide) rfl (fun ls hl => ?_)
  refine lv_iconst (v := 0) hx hb dX11_able_2 (by decide) ?_
  have J4 : ∀ (n : Nat) (p4_2 : Int32) (p4_1 : Int32) (H : Heap) (locs : List Loc) (ls : Array Slot), (5 - p4_2.toInt).toNat = n → (0 ≤ p4_2.toInt) → (p4_2.toInt ≤ 5) → (0 ≤ p4_1.toInt) → (p4_1.toInt ≤ 16383) → HT D cs A T O X H → va_S A s.heap H locs → lv_has ls 3 [(2, .int p4_2), (1, .int p4_1), (0, .ref a0)] → W p l e { frames := 6, cells := 0, slots := 0, locals := 150 } s m [.ref a0].toArray below meth c H locs 0 0 (MQ below (Ti D cs (fun r u => u = (T, O, X) ∧ 0 ≤ r.toInt ∧ r.toInt ≤ 16383) A) [.ref a0].toArray s 0 0 A) (F0 m 4 ls []) := by
    intro n
    induction n using Nat.strongRecOn with
    | _ n ih4 =>
      intro p4_2 p4_1 H locs ls hm4 l_p4_2 u_p4_2 l_p4_1 u_p4_1 hH hS hl
      refine lv_iload_n hx hb dX11_able_4 rfl (lv_at hl 0 rfl) ?_
      refine lv_aload_n hx hb dX11_able_5 rfl (lv_at hl 2 rfl) ?_
      refine t_get (ci := 11) (lst := ft11 w ch) (C := RX11) (F := TX11) (N := 20) hx hb hts uX11 hown hkb hH t_a0 (hO.no t_a0 (by decide)) (fun _ h9 => h9) rfl rfl 3 (by decide) rfl kw_363 (fun _ h9 => h9) dX11_able_6 (fun v9 h9 => ?_)
      have h9 : v9 = .ref w := h9
      subst h9
      refine t_get (ci := 9) (lst := ft9w hw gw) (C := RX9) (F := TX9) (N := 14) hx hb hts uX9 hown hkb hH t_w.1 (hO.no t_w.1 (by decide)) (fun fs => (ob9w t_w fs).mp) rfl rfl 1 (by decide) rfl kw_112 (fun _ h9 => h9) dX11_able_9 (fun v9 h9 => ?_)
      have h9 : v9 = .int (nI gw) := h9
      subst h9
      have e_gw : (nI gw).toInt = gw := nI_toInt (by have := t_w.2.2; omega)
      have b_gw := t_w.2.2
      refine lv_icmp_ge (tgt := 42) hx hb dX11_able_12 (by decide) (fun c12 => ?_) (fun c12 => ?_)
      · skip
        have fuc12 := full_i p4_2
        have fvc12 := full_i (nI gw)
        have tc12 := g_le c12
        refine lv_iload_n hx hb dX11_able_42 rfl (lv_at hl 1 rfl) ?_
        exact te_i hx hb hr hlocks hH hS (⟨rfl, by omega, by omega⟩) dX11_able_43
      · skip
        have fuc12 := full_i p4_2
        have fvc12 := full_i (nI gw)
        have tc12 := g_nle c12
        refine lv_aload_n hx hb dX11_able_15 rfl (lv_at hl 2 rfl) ?_
        refine lv_iload_n hx hb dX11_able_16 rfl (lv_at hl 0 rfl) ?_
        refine tk_r hH hS hA (tr_V (n := 1) (As := [.int p4_2]) hx hb hml hown hts hkb hH hOX hks hE hS hA (s_FW_rowsOf l D cs kf T O X a0 w hw gw ch gq p4_2 t_a0 t_w t_ch (by omega) (by omega) (hO.sub (by decide))) kw_830 kw_832 ks_21 kw_1 kw_833 (by decide +kernel) ⟨Nat.le_of_ble_eq_true rfl, Nat.le_of_ble_eq_true rfl⟩ (HT.recv (ci := 11) hkb hH t_a0 (hO.no t_a0 (by decide)) rfl) rfl rfl hl.1 (Nat.le_of_ble_eq_true rfl) dX11_able_17 ⟨Nat.le_of_ble_eq_true rfl, Nat.le_of_ble_eq_true rfl⟩) (fun v17 u H locs hz9 hH hS => ?_)
        obtain ⟨hu9, t_v17⟩ := hz9
        have hu9 : u = (T, O, X) := hu9
        subst hu9
        have hH : HT D cs A T O X H := hH
        refine W.widen (k := 0) (n := 0) (Nat.le_of_ble_eq_true rfl) (Nat.le_of_ble_eq_true rfl) ?_
        refine lv_aload_n hx hb dX11_able_20 rfl (lv_at hl 2 rfl) ?_
        refine tk_i hH hS hA (tr_V (n := 0) (As := []) hx hb hml hown hts hkb hH hOX hks hE hS hA (s_FW_openNow l D cs kf T O X a0 w hw gw ch gq t_a0 t_w t_ch (hO.sub (by decide))) kw_846 kw_848 ks_22 kw_1 kw_849 (by decide +kernel) ⟨Nat.le_of_ble_eq_true rfl, Nat.le_of_ble_eq_true rfl⟩ (HT.recv (ci := 11) hkb hH t_a0 (hO.no t_a0 (by decide)) rfl) rfl rfl hl.1 (Nat.le_of_ble_eq_true rfl) dX11_able_21 ⟨Nat.le_of_ble_eq_true rfl, Nat.le_of_ble_eq_true rfl⟩) (fun v21 u H locs hz9 hH hS => ?_)
        obtain ⟨rfl, l_v21, u_v21⟩ := hz9
        have hH : HT D cs A T O X H := hH
        refine W.widen (k := 0) (n := 0) (Nat.le_of_ble_eq_true rfl) (Nat.le_of_ble_eq_true rfl) ?_
        refine tk_i hH hS hA (tr_V (n := 1) (As := [.int v21]) hx hb hml hown hts hkb hH hOX hks hE hS hA (s_Rows_getsUp l D cs kf T O X v17 v21 t_v17 (hO.sub (by decide))) kw_1059 kw_1060 kw_1061 kw_8 kw_1062 (by decide +kernel) ⟨Nat.le_of_ble_eq_true rfl, Nat.le_of_ble_eq_true rfl⟩ (HT.recv (ci := 5) hkb hH t_v17 (hO.no t_v17 (by decide)) rfl) rfl rfl hl.1 (Nat.le_of_ble_eq_true rfl) dX11_able_24 ⟨Nat.le_of_ble_eq_true rfl, Nat.le_of_ble_eq_true rfl⟩) (fun v24 u H locs hz9 hH hS => ?_)
        obtain ⟨rfl, l_v24, u_v24⟩ := hz9
        have hH : HT D cs A T O X H := hH
        refine W.widen (k := 0) (n := 0) (Nat.le_of_ble_eq_true rfl) (Nat.le_of_ble_eq_true rfl) ?_
        have J36 : ∀ (p36_1 : Int32) (H : Heap) (locs : List Loc) (ls : Array Slot), (0 ≤ p36_1.toInt) → (p36_1.toInt ≤ 16383) → HT D cs A T O X H → va_S A s.heap H locs → lv_has ls 3 [(2, .int p4_2), (1, .int p36_1), (0, .ref a0)] → W p l e { frames := 6, cells := 0, slots := 0, locals := 150 } s m [.ref a0].toArray below meth c H locs 0 0 (MQ below (Ti D cs (fun r u => u = (T, O, X) ∧ 0 ≤ r.toInt ∧ r.toInt ≤ 16383) A) [.ref a0].toArray s 0 0 A) (F0 m 36 ls []) := by
          intro p36_1 H locs ls l_p36_1 u_p36_1 hH hS hl
          obtain ⟨v36, ev36⟩ : ∃ y : Int32, y = p4_2 + 1 := ⟨_, rfl⟩
          have tv36 : v36.toInt = p4_2.toInt + (1) := by rw [ev36]; exact add_i rfl (by decide) (by omega) (by omega)
          refine lv_iinc (v := v36) (lv' := [(2, .int v36), (1, .int p36_1), (0, .ref a0)]) hx hb dX11_able_36 hl (k := 0) rfl (by rw [ev36]; rfl) (by decide) rfl (fun ls hl => ?_)
          refine lv_goto (tgt := 4) hx hb dX11_able_39 (by decide) ?_
          exact ih4 _ (by omega) v36 p36_1 _ _ _ rfl (by omega) (by omega) (by omega) (by omega) hH hS (lv_sub hl [0, 1, 2] rfl)
        refine lv_if_eq (tgt := 36) hx hb dX11_able_27 (by decide) (fun c27 => ?_) (fun c27 => ?_)
        · skip
          have tc27 := f_eq (k := 0) (by decide) c27
          exact J36 p4_1 _ _ _ (by omega) (by omega) hH hS (lv_sub hl [0, 1, 2] rfl)
        · skip
          have tc27 := f_ne (k := 0) (by decide) c27
          refine lv_iload_n hx hb dX11_able_30 rfl (lv_at hl 1 rfl) ?_
          refine lv_iconst (v := 1) hx hb dX11_able_31 (by decide) ?_
          refine lv_iload_n hx hb dX11_able_32 rfl (lv_at hl 0 rfl) ?_
          refine lv_ishl hx hb dX11_able_33 ?_
          refine lv_topi (fun v33 ev33 => ?_)
          have tv33 : 1 ≤ v33.toInt ∧ v33.toInt ≤ 16 := by rw [ev33]; exact shl_b 4 (by decide) (by omega) (by omega)
          refine lv_ior hx hb dX11_able_34 ?_
          refine lv_topi (fun v34 ev34 => ?_)
          have tv34 : 0 ≤ v34.toInt ∧ v34.toInt < 16384 := by rw [ev34]; exact or_b 14 (by decide) (by omega) (by omega) (by omega) (by omega)
          refine lv_istore_n (lv' := [(1, .int v34), (2, .int p4_2), (0, .ref a0)]) hx hb dX11_able_35 rfl hl (by decide) rfl (fun ls hl => ?_)
          exact J36 v34 _ _ _ (by omega) (by omega) hH hS (lv_sub hl [1, 0, 2] rfl)
  refine lv_istore_n (lv' := [(2, .int 0), (1, .int 0), (0, .ref a0)]) hx hb dX11_able_3 rfl hl (by decide) rfl (fun ls hl => ?_)
  exact J4 _ 0 0 _ _ _ rfl (by decide) (by decide) (by decide) (by decide) hH hS (lv_sub hl [0, 1, 2] rfl)
set_option maxHeartbeats 4000000 in
set_option maxRecDepth 100000 in
theorem s_FW_needers (l : Launch) (D : va_G) (cs : CS) (kf : KF) (T : TF) (O : List Nat) (X : va_W) (a0 w hw gw ch gq : Nat) (x1 : Int32) (t_a0 : T a0 = some (21, w, ch)) (t_w : isW T w hw gw) (t_ch : T ch = some (10, gq, 0)) (hO : okO T O [1, 7, 12, 15, 16, 19, 21]) : TK l D cs kf yX11_needers cX11_needers 4 (some (.int)) { frames := 7, cells := 0, slots := 0, locals := 174 } [.ref a0, .int x1] T O X (Ti D cs (fun r u => u = (T, O, X) ∧ -2 ≤ r.toInt ∧ r.toInt ≤ 16383)) := by
  refine tk_of (by decide) (Nat.le_of_ble_eq_true rfl) (fun p e s m below meth c ls A H locs hx hb hr hml hown hts hlocks hnm hkb hH hS hA hOX hks hE hl => ?_)
  have hown : s.vm.findClass RX11 = some m.cls := hown
  have hl : lv_has ls 4 [(0, .ref a0), (1, .int x1)] := hl
  have b1_w := t_w.2.1
  have b2_w := t_w.2.2
  refine lv_aload_n hx hb dX11_needers_0 rfl (lv_at hl 0 rfl) ?_
  refine lv_iload_n hx hb dX11_needers_1 rfl (lv_at hl 1 rfl) ?_
  refine tk_i hH hS hA (tr_V (n := 1) (As := [.int x1]) hx hb hml hown hts hkb hH hOX hks hE hS hA (s_FW_isHold l D cs kf T O X a0 w hw gw ch gq x1 t_a0 t_w t_ch (hO.sub (by decide))) kw_770 kw_772 ks_17 kw_1 kw_773 (by decide +kernel) ⟨Nat.le_of_ble_eq_true rfl, Nat.le_of_ble_eq_true rfl⟩ (HT.recv (ci := 11) hkb hH t_a0 (hO.no t_a0 (by decide)) rfl) rfl rfl hl.1 (Nat.le_of_ble_eq_true rfl) dX11_needers_2 ⟨Nat.le_of_ble_eq_true rfl, Nat.le_of_ble_eq_true rfl⟩) (fun v2 u H locs hz9 hH hS => ?_)
  obtain ⟨rfl, l_v2, u_v2, x_v20⟩ := hz9
  have hH : HT D cs A T O X H := hH
  refine W.widen (k := 0) (n := 0) (Nat.le_of_ble_eq_true rfl) (Nat.le_of_ble_eq_true rfl) ?_
  refine lv_if_ne (tgt := 11) hx hb dX11_needers_5 (by decide) (fun c5 => ?_) (fun c5 => ?_)
  · skip
    have tc5 := f_ne (k := 0) (by decide) c5
    refine lv_iconst (v := 0) hx hb dX11_needers_11 (by decide) ?_
    refine lv_istore_n (lv' := [(2, .int 0), (0, .ref a0), (1, .int x1)]) hx hb dX11_needers_12 rfl hl (by decide) rfl (fun ls hl => ?_)
    refine lv_iconst (v := 0) hx hb dX11_needers_13 (by decide) ?_
    have J15 : ∀ (n : Nat) (p15_3 : Int32) (p15_2 : Int32) (H : Heap) (locs : List Loc) (ls : Array Slot), (5 - p15_3.toInt).toNat = n → (0 ≤ p15_3.toInt) → (p15_3.toInt ≤ 5) → (0 ≤ p15_2.toInt) → (p15_2.toInt ≤ 16383) → HT D cs A T O X H → va_S A s.heap H locs → lv_has ls 4 [(3, .int p15_3), (2, .int p15_2), (0, .ref a0), (1, .int x1)] → W p l e { frames := 7, cells := 0, slots := 0, locals := 174 } s m [.ref a0, .int x1].toArray below meth c H locs 0 0 (MQ below (Ti D cs (fun r u => u = (T, O, X) ∧ -2 ≤ r.toInt ∧ r.toInt ≤ 16383) A) [.ref a0, .int x1].toArray s 0 0 A) (F0 m 15 ls []) := by
      intro n
      induction n using Nat.strongRecOn with
      | _ n ih15 =>
        intro p15_3 p15_2 H locs ls hm15 l_p15_3 u_p15_3 l_p15_2 u_p15_2 hH hS hl
        refine lv_iload_n hx hb dX11_needers_15 rfl (lv_at hl 0 rfl) ?_
        refine lv_aload_n hx hb dX11_needers_16 rfl (lv_at hl 2 rfl) ?_
        refine t_get (ci := 11) (lst := ft11 w ch) (C := RX11) (F := TX11) (N := 20) hx hb hts uX11 hown hkb hH t_a0 (hO.no t_a0 (by decide)) (fun _ h9 => h9) rfl rfl 3 (by decide) rfl kw_363 (fun _ h9 => h9) dX11_needers_17 (fun v9 h9 => ?_)
        have h9 : v9 = .ref w := h9
        subst h9
        refine t_get (ci := 9) (lst := ft9w hw gw) (C := RX9) (F := TX9) (N := 14) hx hb hts uX9 hown hkb hH t_w.1 (hO.no t_w.1 (by decide)) (fun fs => (ob9w t_w fs).mp) rfl rfl 1 (by decide) rfl kw_112 (fun _ h9 => h9) dX11_needers_20 (fun v9 h9 => ?_)
        have h9 : v9 = .int (nI gw) := h9
        subst h9
        have e_gw : (nI gw).toInt = gw := nI_toInt (by have := t_w.2.2; omega)
        have b_gw := t_w.2.2
        refine lv_icmp_ge (tgt := 47) hx hb dX11_needers_23 (by decide) (fun c23 => ?_) (fun c23 => ?_)
        · skip
          have fuc23 := full_i p15_3
          have fvc23 := full_i (nI gw)
          have tc23 := g_le c23
          refine lv_iload_n hx hb dX11_needers_47 rfl (lv_at hl 1 rfl) ?_
          exact te_i hx hb hr hlocks hH hS (⟨rfl, by omega, by omega⟩) dX11_needers_48
        · skip
          have fuc23 := full_i p15_3
          have fvc23 := full_i (nI gw)
          have tc23 := g_nle c23
          refine lv_aload_n hx hb dX11_needers_26 rfl (lv_at hl 2 rfl) ?_
          refine lv_iload_n hx hb dX11_needers_27 rfl (lv_at hl 0 rfl) ?_
          refine lv_iload_n hx hb dX11_needers_28 rfl (lv_at hl 3 rfl) ?_
          refine tk_i hH hS hA (tr_V (n := 2) (As := [.int p15_3, .int x1]) hx hb hml hown hts hkb hH hOX hks hE hS hA (s_FW_needs l D cs kf T O X a0 w hw gw ch gq p15_3 x1 t_a0 t_w t_ch (by omega) (by omega) (hO.sub (by decide))) kw_1055 kw_1057 ks_37 kw_1 kw_1058 (by decide +kernel) ⟨Nat.le_of_ble_eq_true rfl, Nat.le_of_ble_eq_true rfl⟩ (HT.recv (ci := 11) hkb hH t_a0 (hO.no t_a0 (by decide)) rfl) rfl rfl hl.1 (Nat.le_of_ble_eq_true rfl) dX11_needers_29 ⟨Nat.le_of_ble_eq_true rfl, Nat.le_of_ble_eq_true rfl⟩) (fun v29 u H locs hz9 hH hS => ?_)
          obtain ⟨rfl, l_v29, u_v29⟩ := hz9
          have hH : HT D cs A T O X H := hH
          refine W.widen (k := 0) (n := 0) (Nat.le_of_ble_eq_true rfl) (Nat.le_of_ble_eq_true rfl) ?_
          have J41 : ∀ (p41_2 : Int32) (H : Heap) (locs : List Loc) (ls : Array Slot), (0 ≤ p41_2.toInt) → (p41_2.toInt ≤ 16383) → HT D cs A T O X H → va_S A s.heap H locs → lv_has ls 4 [(3, .int p15_3), (2, .int p41_2), (0, .ref a0), (1, .int x1)] → W p l e { frames := 7, cells := 0, slots := 0, locals := 174 } s m [.ref a0, .int x1].toArray below meth c H locs 0 0 (MQ below (Ti D cs (fun r u => u = (T, O, X) ∧ -2 ≤ r.toInt ∧ r.toInt ≤ 16383) A) [.ref a0, .int x1].toArray s 0 0 A) (F0 m 41 ls []) := by
            intro p41_2 H locs ls l_p41_2 u_p41_2 hH hS hl
            obtain ⟨v41, ev41⟩ : ∃ y : Int32, y = p15_3 + 1 := ⟨_, rfl⟩
            have tv41 : v41.toInt = p15_3.toInt + (1) := by rw [ev41]; exact add_i rfl (by decide) (by omega) (by omega)
            refine lv_iinc (v := v41) (lv' := [(3, .int v41), (2, .int p41_2), (0, .ref a0), (1, .int x1)]) hx hb dX11_needers_41 hl (k := 0) rfl (by rw [ev41]; rfl) (by decide) rfl (fun ls hl => ?_)
            refine lv_goto (tgt := 15) hx hb dX11_needers_44 (by decide) ?_
            exact ih15 _ (by omega) v41 p41_2 _ _ _ rfl (by omega) (by omega) (by omega) (by omega) hH hS (lv_sub hl [0, 1, 2, 3] rfl)
          refine lv_if_eq (tgt := 41) hx hb dX11_needers_32 (by decide) (fun c32 => ?_) (fun c32 => ?_)
          · skip
            have tc32 := f_eq (k := 0) (by decide) c32
            exact J41 p15_2 _ _ _ (by omega) (by omega) hH hS (lv_sub hl [0, 1, 2, 3] rfl)
          · skip
            have tc32 := f_ne (k := 0) (by decide) c32
            refine lv_iload_n hx hb dX11_needers_35 rfl (lv_at hl 1 rfl) ?_
            refine lv_iconst (v := 1) hx hb dX11_needers_36 (by decide) ?_
            refine lv_iload_n hx hb dX11_needers_37 rfl (lv_at hl 0 rfl) ?_
            refine lv_ishl hx hb dX11_needers_38 ?_
            refine lv_topi (fun v38 ev38 => ?_)
            have tv38 : 1 ≤ v38.toInt ∧ v38.toInt ≤ 16 := by rw [ev38]; exact shl_b 4 (by decide) (by omega) (by omega)
            refine lv_ior hx hb dX11_needers_39 ?_
            refine lv_topi (fun v39 ev39 => ?_)
            have tv39 : 0 ≤ v39.toInt ∧ v39.toInt < 16384 := by rw [ev39]; exact or_b 14 (by decide) (by omega) (by omega) (by omega) (by omega)
            refine lv_istore_n (lv' := [(2, .int v39), (3, .int p15_3), (0, .ref a0), (1, .int x1)]) hx hb dX11_needers_40 rfl hl (by decide) rfl (fun ls hl => ?_)
            exact J41 v39 _ _ _ (by omega) (by omega) hH hS (lv_sub hl [1, 0, 2, 3] rfl)
    refine lv_istore_n (lv' := [(3, .int 0), (2, .int 0), (0, .ref a0), (1, .int x1)]) hx hb dX11_needers_14 rfl hl (by decide) rfl (fun ls hl => ?_)
    exact J15 _ 0 0 _ _ _ rfl (by decide) (by decide) (by decide) (by decide) hH hS (lv_sub hl [0, 1, 2, 3] rfl)
  · skip
    have tc5 := f_eq (k := 0) (by decide) c5
    refine lv_bipush (v := (-2)) hx hb dX11_needers_8 (by decide) ?_
    exact te_i hx hb hr hlocks hH hS (⟨rfl, by decide, by decide⟩) dX11_needers_10
set_option maxHeartbeats 4000000 in
set_option maxRecDepth 100000 in
theorem s_FW_highest (l : Launch) (D : va_G) (cs : CS) (kf : KF) (T : TF) (O : List Nat) (X : va_W) (a0 w hw gw ch gq : Nat) (x1 : Int32) (t_a0 : T a0 = some (21, w, ch)) (t_w : isW T w hw gw) (t_ch : T ch = some (10, gq, 0)) (hO : okO T O [1, 7, 12, 15, 16, 19, 21]) : TK l D cs kf yX11_highest cX11_highest 5 (some (.int)) { frames := 6, cells := 0, slots := 0, locals := 150 } [.ref a0, .int x1] T O X (Ti D cs (fun r u => u = (T, O, X) ∧ -2 ≤ r.toInt)) := by
  refine tk_of (by decide) (Nat.le_of_ble_eq_true rfl) (fun p e s m below meth c ls A H locs hx hb hr hml hown hts hlocks hnm hkb hH hS hA hOX hks hE hl => ?_)
  have hown : s.vm.findClass RX11 = some m.cls := hown
  have hl : lv_has ls 5 [(0, .ref a0), (1, .int x1)] := hl
  have b1_w := t_w.2.1
  have b2_w := t_w.2.2
  refine lv_aload_n hx hb dX11_highest_0 rfl (lv_at hl 0 rfl) ?_
  refine lv_iload_n hx hb dX11_highest_1 rfl (lv_at hl 1 rfl) ?_
  refine tk_i hH hS hA (tr_V (n := 1) (As := [.int x1]) hx hb hml hown hts hkb hH hOX hks hE hS hA (s_FW_isGuide l D cs kf T O X a0 w hw gw ch gq x1 t_a0 t_w t_ch (hO.sub (by decide))) kw_794 kw_796 ks_20 kw_1 kw_797 (by decide +kernel) ⟨Nat.le_of_ble_eq_true rfl, Nat.le_of_ble_eq_true rfl⟩ (HT.recv (ci := 11) hkb hH t_a0 (hO.no t_a0 (by decide)) rfl) rfl rfl hl.1 (Nat.le_of_ble_eq_true rfl) dX11_highest_2 ⟨Nat.le_of_ble_eq_true rfl, Nat.le_of_ble_eq_true rfl⟩) (fun v2 u H locs hz9 hH hS => ?_)
  obtain ⟨rfl, l_v2, u_v2, x_v20⟩ := hz9
  have hH : HT D cs A T O X H := hH
  refine W.widen (k := 0) (n := 0) (Nat.le_of_ble_eq_true rfl) (Nat.le_of_ble_eq_true rfl) ?_
  refine lv_if_ne (tgt := 11) hx hb dX11_highest_5 (by decide) (fun c5 => ?_) (fun c5 => ?_)
  · skip
    have tc5 := f_ne (k := 0) (by decide) c5
    refine lv_aload_n hx hb dX11_highest_11 rfl (lv_at hl 0 rfl) ?_
    refine lv_iload_n hx hb dX11_highest_12 rfl (lv_at hl 1 rfl) ?_
    refine tk_r hH hS hA (tr_V (n := 1) (As := [.int x1]) hx hb hml hown hts hkb hH hOX hks hE hS hA (s_FW_rowsOf l D cs kf T O X a0 w hw gw ch gq x1 t_a0 t_w t_ch (by omega) (by omega) (hO.sub (by decide))) kw_830 kw_832 ks_21 kw_1 kw_833 (by decide +kernel) ⟨Nat.le_of_ble_eq_true rfl, Nat.le_of_ble_eq_true rfl⟩ (HT.recv (ci := 11) hkb hH t_a0 (hO.no t_a0 (by decide)) rfl) rfl rfl hl.1 (Nat.le_of_ble_eq_true rfl) dX11_highest_13 ⟨Nat.le_of_ble_eq_true rfl, Nat.le_of_ble_eq_true rfl⟩) (fun v13 u H locs hz9 hH hS => ?_)
    obtain ⟨hu9, t_v13⟩ := hz9
    have hu9 : u = (T, O, X) := hu9
    subst hu9
    have hH : HT D cs A T O X H := hH
    refine W.widen (k := 0) (n := 0) (Nat.le_of_ble_eq_true rfl) (Nat.le_of_ble_eq_true rfl) ?_
    refine lv_aload_n hx hb dX11_highest_16 rfl (lv_at hl 0 rfl) ?_
    refine tk_i hH hS hA (tr_V (n := 0) (As := []) hx hb hml hown hts hkb hH hOX hks hE hS hA (s_FW_openNow l D cs kf T O X a0 w hw gw ch gq t_a0 t_w t_ch (hO.sub (by decide))) kw_846 kw_848 ks_22 kw_1 kw_849 (by decide +kernel) ⟨Nat.le_of_ble_eq_true rfl, Nat.le_of_ble_eq_true rfl⟩ (HT.recv (ci := 11) hkb hH t_a0 (hO.no t_a0 (by decide)) rfl) rfl rfl hl.1 (Nat.le_of_ble_eq_true rfl) dX11_highest_17 ⟨Nat.le_of_ble_eq_true rfl, Nat.le_of_ble_eq_true rfl⟩) (fun v17 u H locs hz9 hH hS => ?_)
    obtain ⟨rfl, l_v17, u_v17⟩ := hz9
    have hH : HT D cs A T O X H := hH
    refine W.widen (k := 0) (n := 0) (Nat.le_of_ble_eq_true rfl) (Nat.le_of_ble_eq_true rfl) ?_
    refine tk_i hH hS hA (tr_V (n := 1) (As := [.int v17]) hx hb hml hown hts hkb hH hOX hks hE hS hA (s_Rows_reached l D cs kf T O X v13 v17 t_v13 (hO.sub (by decide))) kw_850 kw_851 kw_852 kw_8 kw_853 (by decide +kernel) ⟨Nat.le_of_ble_eq_true rfl, Nat.le_of_ble_eq_true rfl⟩ (HT.recv (ci := 5) hkb hH t_v13 (hO.no t_v13 (by decide)) rfl) rfl rfl hl.1 (Nat.le_of_ble_eq_true rfl) dX11_highest_20 ⟨Nat.le_of_ble_eq_true rfl, Nat.le_of_ble_eq_true rfl⟩) (fun v20 u H locs hz9 hH hS => ?_)
    obtain ⟨rfl, l_v20, u_v20⟩ := hz9
    have hH : HT D cs A T O X H := hH
    refine W.widen (k := 0) (n := 0) (Nat.le_of_ble_eq_true rfl) (Nat.le_of_ble_eq_true rfl) ?_
    refine lv_istore_n (lv' := [(2, .int v20), (0, .ref a0), (1, .int x1)]) hx hb dX11_highest_23 rfl hl (by decide) rfl (fun ls hl => ?_)
    refine lv_iconst (v := (-1)) hx hb dX11_highest_24 (by decide) ?_
    refine lv_istore_n (lv' := [(3, .int (-1)), (2, .int v20), (0, .ref a0), (1, .int x1)]) hx hb dX11_highest_25 rfl hl (by decide) rfl (fun ls hl => ?_)
    refine lv_iconst (v := 0) hx hb dX11_highest_26 (by decide) ?_
    have J29 : ∀ (n : Nat) (p29_4 : Int32) (p29_3 : Int32) (H : Heap) (locs : List Loc) (ls : Array Slot), (14 - p29_4.toInt).toNat = n → (0 ≤ p29_4.toInt) → (p29_4.toInt ≤ 14) → (-1 ≤ p29_3.toInt) → HT D cs A T O X H → va_S A s.heap H locs → lv_has ls 5 [(4, .int p29_4), (3, .int p29_3), (2, .int v20), (0, .ref a0)] → W p l e { frames := 6, cells := 0, slots := 0, locals := 150 } s m [.ref a0, .int x1].toArray below meth c H locs 0 0 (MQ below (Ti D cs (fun r u => u = (T, O, X) ∧ -2 ≤ r.toInt) A) [.ref a0, .int x1].toArray s 0 0 A) (F0 m 29 ls []) := by
      intro n
      induction n using Nat.strongRecOn with
      | _ n ih29 =>
        intro p29_4 p29_3 H locs ls hm29 l_p29_4 u_p29_4 l_p29_3 hH hS hl
        refine lv_iload hx hb dX11_highest_29 (lv_at hl 0 rfl) ?_
        refine lv_aload_n hx hb dX11_highest_31 rfl (lv_at hl 3 rfl) ?_
        refine t_get (ci := 11) (lst := ft11 w ch) (C := RX11) (F := TX11) (N := 20) hx hb hts uX11 hown hkb hH t_a0 (hO.no t_a0 (by decide)) (fun _ h9 => h9) rfl rfl 3 (by decide) rfl kw_363 (fun _ h9 => h9) dX11_highest_32 (fun v9 h9 => ?_)
        have h9 : v9 = .ref w := h9
        subst h9
        refine t_get (ci := 9) (lst := ft9w hw gw) (C := RX9) (F := TX9) (N := 14) hx hb hts uX9 hown hkb hH t_w.1 (hO.no t_w.1 (by decide)) (fun fs => (ob9w t_w fs).mp) rfl rfl 0 (by decide) rfl kw_109 (fun _ h9 => h9) dX11_highest_35 (fun v9 h9 => ?_)
        have h9 : v9 = .int (nI hw) := h9
        subst h9
        have e_hw : (nI hw).toInt = hw := nI_toInt (by have := t_w.2.1; omega)
        have b_hw := t_w.2.1
        refine lv_icmp_ge (tgt := 71) hx hb dX11_highest_38 (by decide) (fun c38 => ?_) (fun c38 => ?_)
        · skip
          have fuc38 := full_i p29_4
          have fvc38 := full_i (nI hw)
          have tc38 := g_le c38
          refine lv_iload_n hx hb dX11_highest_71 rfl (lv_at hl 1 rfl) ?_
          exact te_i hx hb hr hlocks hH hS (⟨rfl, by omega⟩) dX11_highest_72
        · skip
          have fuc38 := full_i p29_4
          have fvc38 := full_i (nI hw)
          have tc38 := g_nle c38
          refine lv_iload_n hx hb dX11_highest_41 rfl (lv_at hl 2 rfl) ?_
          refine lv_iload hx hb dX11_highest_42 (lv_at hl 0 rfl) ?_
          refine lv_ishr hx hb dX11_highest_44 ?_
          refine lv_topi (fun v44 ev44 => ?_)
          have tv44 : 0 ≤ v44.toInt ∧ v44.toInt ≤ v20.toInt := by rw [ev44]; exact shr_b (by omega)
          refine lv_iconst (v := 1) hx hb dX11_highest_45 (by decide) ?_
          refine lv_iand hx hb dX11_highest_46 ?_
          refine lv_topi (fun v46 ev46 => ?_)
          have tv46 : 0 ≤ v46.toInt ∧ v46.toInt ≤ 1 := by rw [ev46]; exact and_r (by decide)
          have J65 : ∀ (p65_3 : Int32) (H : Heap) (locs : List Loc) (ls : Array Slot), (-1 ≤ p65_3.toInt) → HT D cs A T O X H → va_S A s.heap H locs → lv_has ls 5 [(4, .int p29_4), (3, .int p65_3), (2, .int v20), (0, .ref a0)] → W p l e { frames := 6, cells := 0, slots := 0, locals := 150 } s m [.ref a0, .int x1].toArray below meth c H locs 0 0 (MQ below (Ti D cs (fun r u => u = (T, O, X) ∧ -2 ≤ r.toInt) A) [.ref a0, .int x1].toArray s 0 0 A) (F0 m 65 ls []) := by
            intro p65_3 H locs ls l_p65_3 hH hS hl
            obtain ⟨v65, ev65⟩ : ∃ y : Int32, y = p29_4 + 1 := ⟨_, rfl⟩
            have tv65 : v65.toInt = p29_4.toInt + (1) := by rw [ev65]; exact add_i rfl (by decide) (by omega) (by omega)
            refine lv_iinc (v := v65) (lv' := [(4, .int v65), (3, .int p65_3), (2, .int v20), (0, .ref a0)]) hx hb dX11_highest_65 hl (k := 0) rfl (by rw [ev65]; rfl) (by decide) rfl (fun ls hl => ?_)
            refine lv_goto (tgt := 29) hx hb dX11_highest_68 (by decide) ?_
            exact ih29 _ (by omega) v65 p65_3 _ _ _ rfl (by omega) (by omega) (by omega) hH hS (lv_sub hl [0, 1, 2, 3] rfl)
          refine lv_if_eq (tgt := 65) hx hb dX11_highest_47 (by decide) (fun c47 => ?_) (fun c47 => ?_)
          · skip
            have tc47 := f_eq (k := 0) (by decide) c47
            exact J65 p29_3 _ _ _ (by omega) hH hS (lv_sub hl [0, 1, 2, 3] rfl)
          · skip
            have tc47 := f_ne (k := 0) (by decide) c47
            refine lv_iload_n hx hb dX11_highest_50 rfl (lv_at hl 1 rfl) ?_
            refine lv_aload_n hx hb dX11_highest_51 rfl (lv_at hl 3 rfl) ?_
            refine t_get (ci := 11) (lst := ft11 w ch) (C := RX11) (F := TX11) (N := 20) hx hb hts uX11 hown hkb hH t_a0 (hO.no t_a0 (by decide)) (fun _ h9 => h9) rfl rfl 3 (by decide) rfl kw_363 (fun _ h9 => h9) dX11_highest_52 (fun v9 h9 => ?_)
            have h9 : v9 = .ref w := h9
            subst h9
            refine t_get (ci := 9) (lst := ft9w hw gw) (C := RX9) (F := TX9) (N := 14) hx hb hts uX9 hown hkb hH t_w.1 (hO.no t_w.1 (by decide)) (fun fs => (ob9w t_w fs).mp) rfl rfl 7 (by decide) rfl kw_137 (fun _ h9 => h9) dX11_highest_55 (fun v9 h9 => ?_)
            obtain ⟨v55, rfl, t_v55⟩ := h9
            refine lv_iload hx hb dX11_highest_58 (lv_at hl 0 rfl) ?_
            refine t_ild hx hb hkb hH t_v55 (hO.no t_v55 (by decide)) (by omega) (by omega) dX11_highest_60 (fun v60 h9 => ?_)
            refine va_mmax hx hb (by rw [hml]; exact hl.1.symm) hown (hts _ kw_1105) (hts _ kw_100) (hts _ kw_6) (hts _ kw_101) (Nat.le_of_ble_eq_true rfl) (Nat.le_of_ble_eq_true rfl) (Nat.le_of_ble_eq_true rfl) (Nat.le_of_ble_eq_true rfl) dX11_highest_61 ?_
            refine lv_topi (fun v61 ev61 => ?_)
            have tv61 : v61.toInt = max p29_3.toInt v60.toInt := by rw [ev61]; exact max_i rfl rfl
            refine lv_istore_n (lv' := [(3, .int v61), (4, .int p29_4), (2, .int v20), (0, .ref a0)]) hx hb dX11_highest_64 rfl hl (by decide) rfl (fun ls hl => ?_)
            exact J65 v61 _ _ _ (by omega) hH hS (lv_sub hl [1, 0, 2, 3] rfl)
    refine lv_istore (lv' := [(4, .int 0), (3, .int (-1)), (2, .int v20), (0, .ref a0), (1, .int x1)]) hx hb dX11_highest_27 hl (by decide) rfl (fun ls hl => ?_)
    exact J29 _ 0 (-1) _ _ _ rfl (by decide) (by decide) (by decide) hH hS (lv_sub hl [0, 1, 2, 3] rfl)
  · skip
    have tc5 := f_eq (k := 0) (by decide) c5
    refine lv_bipush (v := (-2)) hx hb dX11_highest_8 (by decide) ?_
    exact te_i hx hb hr hlocks hH hS (⟨rfl, by decide⟩) dX11_highest_10
set_option maxHeartbeats 4000000 in
set_option maxRecDepth 100000 in
theorem s_FW_together (l : Launch) (D : va_G) (cs : CS) (kf : KF) (T : TF) (O : List Nat) (X : va_W) (a0 w hw gw ch gq : Nat) (x1 : Int32) (x2 : Int32) (t_a0 : T a0 = some (21, w, ch)) (t_w : isW T w hw gw) (t_ch : T ch = some (10, gq, 0)) (hO : okO T O [1, 7, 12, 15, 16, 19, 21]) : TK l D cs kf yX11_together cX11_together 11 (some (.int)) { frames := 6, cells := 0, slots := 0, locals := 150 } [.ref a0, .int x1, .int x2] T O X (Ti D cs (fun r u => u = (T, O, X) ∧ -2 ≤ r.toInt ∧ r.toInt ≤ 1)) := by
  refine tk_of (by decide) (Nat.le_of_ble_eq_true rfl) (fun p e s m below meth c ls A H locs hx hb hr hml hown hts hlocks hnm hkb hH hS hA hOX hks hE hl => ?_)
  have hown : s.vm.findClass RX11 = some m.cls := hown
  have hl : lv_has ls 11 [(0, .ref a0), (1, .int x1), (2, .int x2)] := hl
  have b1_w := t_w.2.1
  have b2_w := t_w.2.2
  refine lv_aload_n hx hb dX11_together_0 rfl (lv_at hl 0 rfl) ?_
  refine lv_iload_n hx hb dX11_together_1 rfl (lv_at hl 1 rfl) ?_
  refine tk_i hH hS hA (tr_V (n := 1) (As := [.int x1]) hx hb hml hown hts hkb hH hOX hks hE hS hA (s_FW_isGuide l D cs kf T O X a0 w hw gw ch gq x1 t_a0 t_w t_ch (hO.sub (by decide))) kw_794 kw_796 ks_20 kw_1 kw_797 (by decide +kernel) ⟨Nat.le_of_ble_eq_true rfl, Nat.le_of_ble_eq_true rfl⟩ (HT.recv (ci := 11) hkb hH t_a0 (hO.no t_a0 (by decide)) rfl) rfl rfl hl.1 (Nat.le_of_ble_eq_true rfl) dX11_together_2 ⟨Nat.le_of_ble_eq_true rfl, Nat.le_of_ble_eq_true rfl⟩) (fun v2 u H locs hz9 hH hS => ?_)
  obtain ⟨rfl, l_v2, u_v2, x_v20⟩ := hz9
  have hH : HT D cs A T O X H := hH
  refine W.widen (k := 0) (n := 0) (Nat.le_of_ble_eq_true rfl) (Nat.le_of_ble_eq_true rfl) ?_
  have J16 : ∀  (H : Heap) (locs : List Loc) (ls : Array Slot), HT D cs A T O X H → va_S A s.heap H locs → lv_has ls 11 [] → W p l e { frames := 6, cells := 0, slots := 0, locals := 150 } s m [.ref a0, .int x1, .int x2].toArray below meth c H locs 0 0 (MQ below (Ti D cs (fun r u => u = (T, O, X) ∧ -2 ≤ r.toInt ∧ r.toInt ≤ 1) A) [.ref a0, .int x1, .int x2].toArray s 0 0 A) (F0 m 16 ls []) := by
    intro  H locs ls  hH hS hl
    refine lv_bipush (v := (-2)) hx hb dX11_together_16 (by decide) ?_
    exact te_i hx hb hr hlocks hH hS (⟨rfl, by decide, by decide⟩) dX11_together_18
  refine lv_if_eq (tgt := 16) hx hb dX11_together_5 (by decide) (fun c5 => ?_) (fun c5 => ?_)
  · skip
    have tc5 := f_eq (k := 0) (by decide) c5
    exact J16  _ _ _  hH hS (lv_sub hl [] rfl)
  · skip
    have tc5 := f_ne (k := 0) (by decide) c5
    refine lv_aload_n hx hb dX11_together_8 rfl (lv_at hl 0 rfl) ?_
    refine lv_iload_n hx hb dX11_together_9 rfl (lv_at hl 2 rfl) ?_
    refine tk_i hH hS hA (tr_V (n := 1) (As := [.int x2]) hx hb hml hown hts hkb hH hOX hks hE hS hA (s_FW_isGuide l D cs kf T O X a0 w hw gw ch gq x2 t_a0 t_w t_ch (hO.sub (by decide))) kw_794 kw_796 ks_20 kw_1 kw_797 (by decide +kernel) ⟨Nat.le_of_ble_eq_true rfl, Nat.le_of_ble_eq_true rfl⟩ (HT.recv (ci := 11) hkb hH t_a0 (hO.no t_a0 (by decide)) rfl) rfl rfl hl.1 (Nat.le_of_ble_eq_true rfl) dX11_together_10 ⟨Nat.le_of_ble_eq_true rfl, Nat.le_of_ble_eq_true rfl⟩) (fun v10 u H locs hz9 hH hS => ?_)
    obtain ⟨rfl, l_v10, u_v10, x_v100⟩ := hz9
    have hH : HT D cs A T O X H := hH
    refine W.widen (k := 0) (n := 0) (Nat.le_of_ble_eq_true rfl) (Nat.le_of_ble_eq_true rfl) ?_
    refine lv_if_ne (tgt := 19) hx hb dX11_together_13 (by decide) (fun c13 => ?_) (fun c13 => ?_)
    · skip
      have tc13 := f_ne (k := 0) (by decide) c13
      refine lv_aload_n hx hb dX11_together_19 rfl (lv_at hl 0 rfl) ?_
      refine lv_iload_n hx hb dX11_together_20 rfl (lv_at hl 1 rfl) ?_
      refine tk_r hH hS hA (tr_V (n := 1) (As := [.int x1]) hx hb hml hown hts hkb hH hOX hks hE hS hA (s_FW_rowsOf l D cs kf T O X a0 w hw gw ch gq x1 t_a0 t_w t_ch (by omega) (by omega) (hO.sub (by decide))) kw_830 kw_832 ks_21 kw_1 kw_833 (by decide +kernel) ⟨Nat.le_of_ble_eq_true rfl, Nat.le_of_ble_eq_true rfl⟩ (HT.recv (ci := 11) hkb hH t_a0 (hO.no t_a0 (by decide)) rfl) rfl rfl hl.1 (Nat.le_of_ble_eq_true rfl) dX11_together_21 ⟨Nat.le_of_ble_eq_true rfl, Nat.le_of_ble_eq_true rfl⟩) (fun v21 u H locs hz9 hH hS => ?_)
      obtain ⟨hu9, t_v21⟩ := hz9
      have hu9 : u = (T, O, X) := hu9
      subst hu9
      have hH : HT D cs A T O X H := hH
      refine W.widen (k := 0) (n := 0) (Nat.le_of_ble_eq_true rfl) (Nat.le_of_ble_eq_true rfl) ?_
      refine lv_astore_n (lv' := [(3, .ref v21), (0, .ref a0), (1, .int x1), (2, .int x2)]) hx hb dX11_together_24 rfl hl (by decide) rfl (fun ls hl => ?_)
      refine lv_aload_n hx hb dX11_together_25 rfl (lv_at hl 1 rfl) ?_
      refine lv_iload_n hx hb dX11_together_26 rfl (lv_at hl 3 rfl) ?_
      refine tk_r hH hS hA (tr_V (n := 1) (As := [.int x2]) hx hb hml hown hts hkb hH hOX hks hE hS hA (s_FW_rowsOf l D cs kf T O X a0 w hw gw ch gq x2 t_a0 t_w t_ch (by omega) (by omega) (hO.sub (by decide))) kw_830 kw_832 ks_21 kw_1 kw_833 (by decide +kernel) ⟨Nat.le_of_ble_eq_true rfl, Nat.le_of_ble_eq_true rfl⟩ (HT.recv (ci := 11) hkb hH t_a0 (hO.no t_a0 (by decide)) rfl) rfl rfl hl.1 (Nat.le_of_ble_eq_true rfl) dX11_together_27 ⟨Nat.le_of_ble_eq_true rfl, Nat.le_of_ble_eq_true rfl⟩) (fun v27 u H locs hz9 hH hS => ?_)
      obtain ⟨hu9, t_v27⟩ := hz9
      have hu9 : u = (T, O, X) := hu9
      subst hu9
      have hH : HT D cs A T O X H := hH
      refine W.widen (k := 0) (n := 0) (Nat.le_of_ble_eq_true rfl) (Nat.le_of_ble_eq_true rfl) ?_
      refine lv_astore (lv' := [(4, .ref v27), (3, .ref v21), (0, .ref a0), (1, .int x1), (2, .int x2)]) hx hb dX11_together_30 hl (by decide) rfl (fun ls hl => ?_)
      refine lv_aload_n hx hb dX11_together_32 rfl (lv_at hl 2 rfl) ?_
      refine tk_i hH hS hA (tr_V (n := 0) (As := []) hx hb hml hown hts hkb hH hOX hks hE hS hA (s_FW_openNow l D cs kf T O X a0 w hw gw ch gq t_a0 t_w t_ch (hO.sub (by decide))) kw_846 kw_848 ks_22 kw_1 kw_849 (by decide +kernel) ⟨Nat.le_of_ble_eq_true rfl, Nat.le_of_ble_eq_true rfl⟩ (HT.recv (ci := 11) hkb hH t_a0 (hO.no t_a0 (by decide)) rfl) rfl rfl hl.1 (Nat.le_of_ble_eq_true rfl) dX11_together_33 ⟨Nat.le_of_ble_eq_true rfl, Nat.le_of_ble_eq_true rfl⟩) (fun v33 u H locs hz9 hH hS => ?_)
      obtain ⟨rfl, l_v33, u_v33⟩ := hz9
      have hH : HT D cs A T O X H := hH
      refine W.widen (k := 0) (n := 0) (Nat.le_of_ble_eq_true rfl) (Nat.le_of_ble_eq_true rfl) ?_
      refine lv_istore (lv' := [(5, .int v33), (4, .ref v27), (3, .ref v21), (0, .ref a0), (1, .int x1), (2, .int x2)]) hx hb dX11_together_36 hl (by decide) rfl (fun ls hl => ?_)
      refine lv_iload hx hb dX11_together_38 (lv_at hl 0 rfl) ?_
      refine lv_aload_n hx hb dX11_together_40 rfl (lv_at hl 3 rfl) ?_
      refine t_get (ci := 11) (lst := ft11 w ch) (C := RX11) (F := TX11) (N := 20) hx hb hts uX11 hown hkb hH t_a0 (hO.no t_a0 (by decide)) (fun _ h9 => h9) rfl rfl 3 (by decide) rfl kw_363 (fun _ h9 => h9) dX11_together_41 (fun v9 h9 => ?_)
      have h9 : v9 = .ref w := h9
      subst h9
      refine tk_i hH hS hA (tr_V (n := 0) (As := []) hx hb hml hown hts hkb hH hOX hks hE hS hA (s_Wall_middles l D cs kf T O X w hw gw t_w (hO.sub (by decide))) kw_892 kw_683 kw_684 kw_5 kw_685 (by decide +kernel) ⟨Nat.le_of_ble_eq_true rfl, Nat.le_of_ble_eq_true rfl⟩ (HT.recv (ci := 9) hkb hH t_w.1 (hO.no t_w.1 (by decide)) rfl) rfl rfl hl.1 (Nat.le_of_ble_eq_true rfl) dX11_together_44 ⟨Nat.le_of_ble_eq_true rfl, Nat.le_of_ble_eq_true rfl⟩) (fun v44 u H locs hz9 hH hS => ?_)
      obtain ⟨rfl, l_v44, u_v44⟩ := hz9
      have hH : HT D cs A T O X H := hH
      refine W.widen (k := 0) (n := 0) (Nat.le_of_ble_eq_true rfl) (Nat.le_of_ble_eq_true rfl) ?_
      refine lv_iand hx hb dX11_together_47 ?_
      refine lv_topi (fun v47 ev47 => ?_)
      have tv47 : 0 ≤ v47.toInt ∧ v47.toInt ≤ v33.toInt := by rw [ev47]; exact and_l (by omega)
      have ttv47 : 0 ≤ v47.toInt ∧ v47.toInt ≤ v44.toInt := by rw [ev47]; exact and_r (by omega)
      refine lv_istore (lv' := [(6, .int v47), (5, .int v33), (4, .ref v27), (3, .ref v21), (0, .ref a0), (1, .int x1), (2, .int x2)]) hx hb dX11_together_48 hl (by decide) rfl (fun ls hl => ?_)
      refine lv_iload hx hb dX11_together_50 (lv_at hl 1 rfl) ?_
      refine lv_iload hx hb dX11_together_52 (lv_at hl 0 rfl) ?_
      refine lv_iconst (v := (-1)) hx hb dX11_together_54 (by decide) ?_
      refine lv_ixor hx hb dX11_together_55 ?_
      refine lv_topi (fun v55 ev55 => ?_)
      refine lv_iand hx hb dX11_together_56 ?_
      refine lv_topi (fun v56 ev56 => ?_)
      have tv56 : 0 ≤ v56.toInt ∧ v56.toInt ≤ v33.toInt := by rw [ev56]; exact and_l (by omega)
      refine lv_istore (lv' := [(7, .int v56), (6, .int v47), (5, .int v33), (4, .ref v27), (3, .ref v21), (0, .ref a0), (1, .int x1), (2, .int x2)]) hx hb dX11_together_57 hl (by decide) rfl (fun ls hl => ?_)
      refine lv_aload_n hx hb dX11_together_59 rfl (lv_at hl 4 rfl) ?_
      refine lv_iload hx hb dX11_together_60 (lv_at hl 2 rfl) ?_
      refine tk_i hH hS hA (tr_V (n := 1) (As := [.int v33]) hx hb hml hown hts hkb hH hOX hks hE hS hA (s_Rows_getsUp l D cs kf T O X v21 v33 t_v21 (hO.sub (by decide))) kw_1059 kw_1060 kw_1061 kw_8 kw_1062 (by decide +kernel) ⟨Nat.le_of_ble_eq_true rfl, Nat.le_of_ble_eq_true rfl⟩ (HT.recv (ci := 5) hkb hH t_v21 (hO.no t_v21 (by decide)) rfl) rfl rfl hl.1 (Nat.le_of_ble_eq_true rfl) dX11_together_62 ⟨Nat.le_of_ble_eq_true rfl, Nat.le_of_ble_eq_true rfl⟩) (fun v62 u H locs hz9 hH hS => ?_)
      obtain ⟨rfl, l_v62, u_v62⟩ := hz9
      have hH : HT D cs A T O X H := hH
      refine W.widen (k := 0) (n := 0) (Nat.le_of_ble_eq_true rfl) (Nat.le_of_ble_eq_true rfl) ?_
      have J78 : ∀  (H : Heap) (locs : List Loc) (ls : Array Slot), HT D cs A T O X H → va_S A s.heap H locs → lv_has ls 11 [] → W p l e { frames := 6, cells := 0, slots := 0, locals := 150 } s m [.ref a0, .int x1, .int x2].toArray below meth c H locs 0 0 (MQ below (Ti D cs (fun r u => u = (T, O, X) ∧ -2 ≤ r.toInt ∧ r.toInt ≤ 1) A) [.ref a0, .int x1, .int x2].toArray s 0 0 A) (F0 m 78 ls []) := by
        intro  H locs ls  hH hS hl
        refine lv_iconst (v := 0) hx hb dX11_together_78 (by decide) ?_
        exact te_i hx hb hr hlocks hH hS (⟨rfl, by decide, by decide⟩) dX11_together_79
      refine lv_if_eq (tgt := 78) hx hb dX11_together_65 (by decide) (fun c65 => ?_) (fun c65 => ?_)
      · skip
        have tc65 := f_eq (k := 0) (by decide) c65
        exact J78  _ _ _  hH hS (lv_sub hl [] rfl)
      · skip
        have tc65 := f_ne (k := 0) (by decide) c65
        refine lv_aload hx hb dX11_together_68 (lv_at hl 3 rfl) ?_
        refine lv_iload hx hb dX11_together_70 (lv_at hl 2 rfl) ?_
        refine tk_i hH hS hA (tr_V (n := 1) (As := [.int v33]) hx hb hml hown hts hkb hH hOX hks hE hS hA (s_Rows_getsUp l D cs kf T O X v27 v33 t_v27 (hO.sub (by decide))) kw_1059 kw_1060 kw_1061 kw_8 kw_1062 (by decide +kernel) ⟨Nat.le_of_ble_eq_true rfl, Nat.le_of_ble_eq_true rfl⟩ (HT.recv (ci := 5) hkb hH t_v27 (hO.no t_v27 (by decide)) rfl) rfl rfl hl.1 (Nat.le_of_ble_eq_true rfl) dX11_together_72 ⟨Nat.le_of_ble_eq_true rfl, Nat.le_of_ble_eq_true rfl⟩) (fun v72 u H locs hz9 hH hS => ?_)
        obtain ⟨rfl, l_v72, u_v72⟩ := hz9
        have hH : HT D cs A T O X H := hH
        refine W.widen (k := 0) (n := 0) (Nat.le_of_ble_eq_true rfl) (Nat.le_of_ble_eq_true rfl) ?_
        refine lv_if_ne (tgt := 80) hx hb dX11_together_75 (by decide) (fun c75 => ?_) (fun c75 => ?_)
        · skip
          have tc75 := f_ne (k := 0) (by decide) c75
          refine lv_iconst (v := 1) hx hb dX11_together_80 (by decide) ?_
          refine lv_iload hx hb dX11_together_81 (lv_at hl 1 rfl) ?_
          refine tk_i hH hS hA (tr_S (n := 1) (As := [.int v47]) hx hb hml hown hts hkb hH hOX hks hE hS hA (s_bitCount l D cs kf T O X v47  (hO.sub (by decide))) kw_893 kw_692 kw_20 kw_693 (by decide +kernel) ⟨Nat.le_of_ble_eq_true rfl, Nat.le_of_ble_eq_true rfl⟩ rfl rfl hl.1 (Nat.le_of_ble_eq_true rfl) dX11_together_83 ⟨Nat.le_of_ble_eq_true rfl, Nat.le_of_ble_eq_true rfl⟩) (fun v83 u H locs hz9 hH hS => ?_)
          obtain ⟨rfl, l_v83, u_v83⟩ := hz9
          have hH : HT D cs A T O X H := hH
          refine W.widen (k := 0) (n := 0) (Nat.le_of_ble_eq_true rfl) (Nat.le_of_ble_eq_true rfl) ?_
          refine lv_ishl hx hb dX11_together_86 ?_
          refine lv_topi (fun v86 ev86 => ?_)
          refine lv_istore (lv' := [(8, .int v86), (7, .int v56), (6, .int v47), (5, .int v33), (4, .ref v27), (3, .ref v21), (0, .ref a0), (1, .int x1), (2, .int x2)]) hx hb dX11_together_87 hl (by decide) rfl (fun ls hl => ?_)
          refine lv_iconst (v := 0) hx hb dX11_together_89 (by decide) ?_
          refine lv_istore (lv' := [(9, .int 0), (8, .int v86), (7, .int v56), (6, .int v47), (5, .int v33), (4, .ref v27), (3, .ref v21), (0, .ref a0), (1, .int x1), (2, .int x2)]) hx hb dX11_together_90 hl (by decide) rfl (fun ls hl => ?_)
          refine lv_iconst (v := 0) hx hb dX11_together_92 (by decide) ?_
          have J95 : ∀ (n : Nat) (p95_10 : Int32) (p95_9 : Int32) (H : Heap) (locs : List Loc) (ls : Array Slot), (2147483647 - p95_10.toInt).toNat = n → (0 ≤ p95_10.toInt) → (0 ≤ p95_9.toInt) → (p95_9.toInt ≤ 16383) → HT D cs A T O X H → va_S A s.heap H locs → lv_has ls 11 [(10, .int p95_10), (9, .int p95_9), (8, .int v86), (7, .int v56), (6, .int v47), (4, .ref v27), (3, .ref v21)] → W p l e { frames := 6, cells := 0, slots := 0, locals := 150 } s m [.ref a0, .int x1, .int x2].toArray below meth c H locs 0 0 (MQ below (Ti D cs (fun r u => u = (T, O, X) ∧ -2 ≤ r.toInt ∧ r.toInt ≤ 1) A) [.ref a0, .int x1, .int x2].toArray s 0 0 A) (F0 m 95 ls []) := by
            intro n
            induction n using Nat.strongRecOn with
            | _ n ih95 =>
              intro p95_10 p95_9 H locs ls hm95 l_p95_10 l_p95_9 u_p95_9 hH hS hl
              refine lv_iload hx hb dX11_together_95 (lv_at hl 0 rfl) ?_
              refine lv_iload hx hb dX11_together_97 (lv_at hl 2 rfl) ?_
              refine lv_icmp_ge (tgt := 150) hx hb dX11_together_99 (by decide) (fun c99 => ?_) (fun c99 => ?_)
              · skip
                have fuc99 := full_i p95_10
                have fvc99 := full_i v86
                have tc99 := g_le c99
                refine lv_iconst (v := 0) hx hb dX11_together_150 (by decide) ?_
                exact te_i hx hb hr hlocks hH hS (⟨rfl, by decide, by decide⟩) dX11_together_151
              · skip
                have fuc99 := full_i p95_10
                have fvc99 := full_i v86
                have tc99 := g_nle c99
                refine lv_aload_n hx hb dX11_together_102 rfl (lv_at hl 6 rfl) ?_
                refine lv_iload hx hb dX11_together_103 (lv_at hl 3 rfl) ?_
                refine lv_iload hx hb dX11_together_105 (lv_at hl 1 rfl) ?_
                refine lv_ior hx hb dX11_together_107 ?_
                refine lv_topi (fun v107 ev107 => ?_)
                have tv107 : 0 ≤ v107.toInt ∧ v107.toInt < 16384 := by rw [ev107]; exact or_b 14 (by decide) (by omega) (by omega) (by omega) (by omega)
                refine tk_i hH hS hA (tr_V (n := 1) (As := [.int v107]) hx hb hml hown hts hkb hH hOX hks hE hS hA (s_Rows_getsUp l D cs kf T O X v21 v107 t_v21 (hO.sub (by decide))) kw_1059 kw_1060 kw_1061 kw_8 kw_1062 (by decide +kernel) ⟨Nat.le_of_ble_eq_true rfl, Nat.le_of_ble_eq_true rfl⟩ (HT.recv (ci := 5) hkb hH t_v21 (hO.no t_v21 (by decide)) rfl) rfl rfl hl.1 (Nat.le_of_ble_eq_true rfl) dX11_together_108 ⟨Nat.le_of_ble_eq_true rfl, Nat.le_of_ble_eq_true rfl⟩) (fun v108 u H locs hz9 hH hS => ?_)
                obtain ⟨rfl, l_v108, u_v108⟩ := hz9
                have hH : HT D cs A T O X H := hH
                refine W.widen (k := 0) (n := 0) (Nat.le_of_ble_eq_true rfl) (Nat.le_of_ble_eq_true rfl) ?_
                have J134 : ∀  (H : Heap) (locs : List Loc) (ls : Array Slot), HT D cs A T O X H → va_S A s.heap H locs → lv_has ls 11 [(10, .int p95_10), (9, .int p95_9), (8, .int v86), (7, .int v56), (6, .int v47), (4, .ref v27), (3, .ref v21)] → W p l e { frames := 6, cells := 0, slots := 0, locals := 150 } s m [.ref a0, .int x1, .int x2].toArray below meth c H locs 0 0 (MQ below (Ti D cs (fun r u => u = (T, O, X) ∧ -2 ≤ r.toInt ∧ r.toInt ≤ 1) A) [.ref a0, .int x1, .int x2].toArray s 0 0 A) (F0 m 134 ls []) := by
                  intro  H locs ls  hH hS hl
                  refine lv_iload hx hb dX11_together_134 (lv_at hl 1 rfl) ?_
                  refine lv_iload hx hb dX11_together_136 (lv_at hl 4 rfl) ?_
                  refine lv_isub hx hb dX11_together_138 ?_
                  refine lv_topi (fun v138 ev138 => ?_)
                  have tv138 : v138.toInt = p95_9.toInt - v47.toInt := by rw [ev138]; exact sub_i rfl rfl (by omega) (by omega)
                  refine lv_iload hx hb dX11_together_139 (lv_at hl 4 rfl) ?_
                  refine lv_iand hx hb dX11_together_141 ?_
                  refine lv_topi (fun v141 ev141 => ?_)
                  have tv141 : 0 ≤ v141.toInt ∧ v141.toInt ≤ v47.toInt := by rw [ev141]; exact and_r (by omega)
                  refine lv_istore (lv' := [(9, .int v141), (10, .int p95_10), (8, .int v86), (7, .int v56), (6, .int v47), (4, .ref v27), (3, .ref v21)]) hx hb dX11_together_142 hl (by decide) rfl (fun ls hl => ?_)
                  obtain ⟨v144, ev144⟩ : ∃ y : Int32, y = p95_10 + 1 := ⟨_, rfl⟩
                  have tv144 : v144.toInt = p95_10.toInt + (1) := by rw [ev144]; exact add_i rfl (by decide) (by omega) (by omega)
                  refine lv_iinc (v := v144) (lv' := [(10, .int v144), (9, .int v141), (8, .int v86), (7, .int v56), (6, .int v47), (4, .ref v27), (3, .ref v21)]) hx hb dX11_together_144 hl (k := 1) rfl (by rw [ev144]; rfl) (by decide) rfl (fun ls hl => ?_)
                  refine lv_goto (tgt := 95) hx hb dX11_together_147 (by decide) ?_
                  exact ih95 _ (by omega) v144 v141 _ _ _ rfl (by omega) (by omega) (by omega) hH hS (lv_sub hl [0, 1, 2, 3, 4, 5, 6] rfl)
                refine lv_if_eq (tgt := 134) hx hb dX11_together_111 (by decide) (fun c111 => ?_) (fun c111 => ?_)
                · skip
                  have tc111 := f_eq (k := 0) (by decide) c111
                  exact J134  _ _ _  hH hS (lv_sub hl [0, 1, 2, 3, 4, 5, 6] rfl)
                · skip
                  have tc111 := f_ne (k := 0) (by decide) c111
                  refine lv_aload hx hb dX11_together_114 (lv_at hl 5 rfl) ?_
                  refine lv_iload hx hb dX11_together_116 (lv_at hl 3 rfl) ?_
                  refine lv_iload hx hb dX11_together_118 (lv_at hl 4 rfl) ?_
                  refine lv_iload hx hb dX11_together_120 (lv_at hl 1 rfl) ?_
                  refine lv_iconst (v := (-1)) hx hb dX11_together_122 (by decide) ?_
                  refine lv_ixor hx hb dX11_together_123 ?_
                  refine lv_topi (fun v123 ev123 => ?_)
                  refine lv_iand hx hb dX11_together_124 ?_
                  refine lv_topi (fun v124 ev124 => ?_)
                  have tv124 : 0 ≤ v124.toInt ∧ v124.toInt ≤ v47.toInt := by rw [ev124]; exact and_l (by omega)
                  refine lv_ior hx hb dX11_together_125 ?_
                  refine lv_topi (fun v125 ev125 => ?_)
                  have tv125 : 0 ≤ v125.toInt ∧ v125.toInt < 16384 := by rw [ev125]; exact or_b 14 (by decide) (by omega) (by omega) (by omega) (by omega)
                  refine tk_i hH hS hA (tr_V (n := 1) (As := [.int v125]) hx hb hml hown hts hkb hH hOX hks hE hS hA (s_Rows_getsUp l D cs kf T O X v27 v125 t_v27 (hO.sub (by decide))) kw_1059 kw_1060 kw_1061 kw_8 kw_1062 (by decide +kernel) ⟨Nat.le_of_ble_eq_true rfl, Nat.le_of_ble_eq_true rfl⟩ (HT.recv (ci := 5) hkb hH t_v27 (hO.no t_v27 (by decide)) rfl) rfl rfl hl.1 (Nat.le_of_ble_eq_true rfl) dX11_together_126 ⟨Nat.le_of_ble_eq_true rfl, Nat.le_of_ble_eq_true rfl⟩) (fun v126 u H locs hz9 hH hS => ?_)
                  obtain ⟨rfl, l_v126, u_v126⟩ := hz9
                  have hH : HT D cs A T O X H := hH
                  refine W.widen (k := 0) (n := 0) (Nat.le_of_ble_eq_true rfl) (Nat.le_of_ble_eq_true rfl) ?_
                  refine lv_if_eq (tgt := 134) hx hb dX11_together_129 (by decide) (fun c129 => ?_) (fun c129 => ?_)
                  · skip
                    have tc129 := f_eq (k := 0) (by decide) c129
                    exact J134  _ _ _  hH hS (lv_sub hl [0, 1, 2, 3, 4, 5, 6] rfl)
                  · skip
                    have tc129 := f_ne (k := 0) (by decide) c129
                    refine lv_iconst (v := 1) hx hb dX11_together_132 (by decide) ?_
                    exact te_i hx hb hr hlocks hH hS (⟨rfl, by decide, by decide⟩) dX11_together_133
          refine lv_istore (lv' := [(10, .int 0), (9, .int 0), (8, .int v86), (7, .int v56), (6, .int v47), (5, .int v33), (4, .ref v27), (3, .ref v21), (0, .ref a0), (1, .int x1), (2, .int x2)]) hx hb dX11_together_93 hl (by decide) rfl (fun ls hl => ?_)
          exact J95 _ 0 0 _ _ _ rfl (by decide) (by decide) (by decide) hH hS (lv_sub hl [0, 1, 2, 3, 4, 6, 7] rfl)
        · skip
          have tc75 := f_eq (k := 0) (by decide) c75
          exact J78  _ _ _  hH hS (lv_sub hl [] rfl)
    · skip
      have tc13 := f_eq (k := 0) (by decide) c13
      exact J16  _ _ _  hH hS (lv_sub hl [] rfl)
set_option maxHeartbeats 4000000 in
set_option maxRecDepth 100000 in
theorem s_FW_leastLeg (l : Launch) (D : va_G) (cs : CS) (kf : KF) (T : TF) (O : List Nat) (X : va_W) (a0 w hw gw ch gq : Nat) (x1 : Int32) (t_a0 : T a0 = some (21, w, ch)) (t_w : isW T w hw gw) (t_ch : T ch = some (10, gq, 0)) (hO : okO T O [1, 12, 15, 16, 19, 21]) : TK l D cs kf yX11_leastLeg cX11_leastLeg 4 (some (.int)) { frames := 6, cells := 0, slots := 0, locals := 150 } [.ref a0, .int x1] T O X (Ti D cs (fun r u => u = (T, O, X) ∧ -2 ≤ r.toInt ∧ r.toInt ≤ 99)) := by
  refine tk_of (by decide) (Nat.le_of_ble_eq_true rfl) (fun p e s m below meth c ls A H locs hx hb hr hml hown hts hlocks hnm hkb hH hS hA hOX hks hE hl => ?_)
  have hown : s.vm.findClass RX11 = some m.cls := hown
  have hl : lv_has ls 4 [(0, .ref a0), (1, .int x1)] := hl
  have b1_w := t_w.2.1
  have b2_w := t_w.2.2
  refine lv_aload_n hx hb dX11_leastLeg_0 rfl (lv_at hl 0 rfl) ?_
  refine lv_iload_n hx hb dX11_leastLeg_1 rfl (lv_at hl 1 rfl) ?_
  refine tk_i hH hS hA (tr_V (n := 1) (As := [.int x1]) hx hb hml hown hts hkb hH hOX hks hE hS hA (s_FW_isGuide l D cs kf T O X a0 w hw gw ch gq x1 t_a0 t_w t_ch (hO.sub (by decide))) kw_794 kw_796 ks_20 kw_1 kw_797 (by decide +kernel) ⟨Nat.le_of_ble_eq_true rfl, Nat.le_of_ble_eq_true rfl⟩ (HT.recv (ci := 11) hkb hH t_a0 (hO.no t_a0 (by decide)) rfl) rfl rfl hl.1 (Nat.le_of_ble_eq_true rfl) dX11_leastLeg_2 ⟨Nat.le_of_ble_eq_true rfl, Nat.le_of_ble_eq_true rfl⟩) (fun v2 u H locs hz9 hH hS => ?_)
  obtain ⟨rfl, l_v2, u_v2, x_v20⟩ := hz9
  have hH : HT D cs A T O X H := hH
  refine W.widen (k := 0) (n := 0) (Nat.le_of_ble_eq_true rfl) (Nat.le_of_ble_eq_true rfl) ?_
  refine lv_if_ne (tgt := 11) hx hb dX11_leastLeg_5 (by decide) (fun c5 => ?_) (fun c5 => ?_)
  · skip
    have tc5 := f_ne (k := 0) (by decide) c5
    refine lv_aload_n hx hb dX11_leastLeg_11 rfl (lv_at hl 0 rfl) ?_
    refine tk_i hH hS hA (tr_V (n := 0) (As := []) hx hb hml hown hts hkb hH hOX hks hE hS hA (s_FW_openNow l D cs kf T O X a0 w hw gw ch gq t_a0 t_w t_ch (hO.sub (by decide))) kw_846 kw_848 ks_22 kw_1 kw_849 (by decide +kernel) ⟨Nat.le_of_ble_eq_true rfl, Nat.le_of_ble_eq_true rfl⟩ (HT.recv (ci := 11) hkb hH t_a0 (hO.no t_a0 (by decide)) rfl) rfl rfl hl.1 (Nat.le_of_ble_eq_true rfl) dX11_leastLeg_12 ⟨Nat.le_of_ble_eq_true rfl, Nat.le_of_ble_eq_true rfl⟩) (fun v12 u H locs hz9 hH hS => ?_)
    obtain ⟨rfl, l_v12, u_v12⟩ := hz9
    have hH : HT D cs A T O X H := hH
    refine W.widen (k := 0) (n := 0) (Nat.le_of_ble_eq_true rfl) (Nat.le_of_ble_eq_true rfl) ?_
    refine lv_istore_n (lv' := [(2, .int v12), (0, .ref a0), (1, .int x1)]) hx hb dX11_leastLeg_15 rfl hl (by decide) rfl (fun ls hl => ?_)
    refine lv_iconst (v := 0) hx hb dX11_leastLeg_16 (by decide) ?_
    have J18 : ∀ (n : Nat) (p18_3 : Int32) (H : Heap) (locs : List Loc) (ls : Array Slot), (100 - p18_3.toInt).toNat = n → (0 ≤ p18_3.toInt) → (p18_3.toInt ≤ 100) → HT D cs A T O X H → va_S A s.heap H locs → lv_has ls 4 [(3, .int p18_3), (2, .int v12), (0, .ref a0), (1, .int x1)] → W p l e { frames := 6, cells := 0, slots := 0, locals := 150 } s m [.ref a0, .int x1].toArray below meth c H locs 0 0 (MQ below (Ti D cs (fun r u => u = (T, O, X) ∧ -2 ≤ r.toInt ∧ r.toInt ≤ 99) A) [.ref a0, .int x1].toArray s 0 0 A) (F0 m 18 ls []) := by
      intro n
      induction n using Nat.strongRecOn with
      | _ n ih18 =>
        intro p18_3 H locs ls hm18 l_p18_3 u_p18_3 hH hS hl
        refine lv_iload_n hx hb dX11_leastLeg_18 rfl (lv_at hl 0 rfl) ?_
        refine lv_bipush (v := 100) hx hb dX11_leastLeg_19 (by decide) ?_
        refine lv_icmp_ge (tgt := 71) hx hb dX11_leastLeg_21 (by decide) (fun c21 => ?_) (fun c21 => ?_)
        · skip
          have tc21 := f_ge (k := 100) (by decide) c21
          refine lv_iconst (v := (-1)) hx hb dX11_leastLeg_71 (by decide) ?_
          exact te_i hx hb hr hlocks hH hS (⟨rfl, by decide, by decide⟩) dX11_leastLeg_72
        · skip
          have tc21 := f_nge (k := 100) (by decide) c21
          refine lv_aload_n hx hb dX11_leastLeg_24 rfl (lv_at hl 2 rfl) ?_
          refine t_get (ci := 11) (lst := ft11 w ch) (C := RX11) (F := TX11) (N := 20) hx hb hts uX11 hown hkb hH t_a0 (hO.no t_a0 (by decide)) (fun _ h9 => h9) rfl rfl 13 (by decide) rfl kw_373 (fun _ h9 => h9) dX11_leastLeg_25 (fun v9 h9 => ?_)
          obtain ⟨v25, rfl, t_v25⟩ := h9
          refine lv_aload_n hx hb dX11_leastLeg_28 rfl (lv_at hl 2 rfl) ?_
          refine t_get (ci := 11) (lst := ft11 w ch) (C := RX11) (F := TX11) (N := 20) hx hb hts uX11 hown hkb hH t_a0 (hO.no t_a0 (by decide)) (fun _ h9 => h9) rfl rfl 3 (by decide) rfl kw_363 (fun _ h9 => h9) dX11_leastLeg_29 (fun v9 h9 => ?_)
          have h9 : v9 = .ref w := h9
          subst h9
          refine lv_iload_n hx hb dX11_leastLeg_32 rfl (lv_at hl 0 rfl) ?_
          refine lv_aload_n hx hb dX11_leastLeg_33 rfl (lv_at hl 2 rfl) ?_
          refine t_get (ci := 11) (lst := ft11 w ch) (C := RX11) (F := TX11) (N := 20) hx hb hts uX11 hown hkb hH t_a0 (hO.no t_a0 (by decide)) (fun _ h9 => h9) rfl rfl 3 (by decide) rfl kw_363 (fun _ h9 => h9) dX11_leastLeg_34 (fun v9 h9 => ?_)
          have h9 : v9 = .ref w := h9
          subst h9
          refine t_get (ci := 9) (lst := ft9w hw gw) (C := RX9) (F := TX9) (N := 14) hx hb hts uX9 hown hkb hH t_w.1 (hO.no t_w.1 (by decide)) (fun fs => (ob9w t_w fs).mp) rfl rfl 10 (by decide) rfl kw_145 (fun _ h9 => h9) dX11_leastLeg_37 (fun v9 h9 => ?_)
          obtain ⟨v37, rfl, t_v37⟩ := h9
          refine lv_iload_n hx hb dX11_leastLeg_40 rfl (lv_at hl 3 rfl) ?_
          refine t_ild hx hb hkb hH t_v37 (hO.no t_v37 (by decide)) (by omega) (by omega) dX11_leastLeg_41 (fun v41 h9 => ?_)
          refine lv_aload_n hx hb dX11_leastLeg_42 rfl (lv_at hl 2 rfl) ?_
          refine t_get (ci := 11) (lst := ft11 w ch) (C := RX11) (F := TX11) (N := 20) hx hb hts uX11 hown hkb hH t_a0 (hO.no t_a0 (by decide)) (fun _ h9 => h9) rfl rfl 4 (by decide) rfl kw_364 (fun _ h9 => h9) dX11_leastLeg_43 (fun v9 h9 => ?_)
          obtain ⟨v43, rfl, t_v43⟩ := h9
          refine t_get (ci := 6) (lst := ft6 0 0) (C := RX6) (F := TX6) (N := 6) hx hb hts uX6 hown hkb hH t_v43 (hO.no t_v43 (by decide)) (fun _ h9 => h9) rfl rfl 2 (by decide) rfl kw_191 (fun _ h9 => h9) dX11_leastLeg_46 (fun v9 h9 => ?_)
          obtain ⟨v46, rfl⟩ := h9
          refine tk_v hH hS hA (tr_V (n := 4) (As := [.ref w, .int p18_3, .int v41, .int v46]) hx hb hml hown hts hkb hH hOX hks hE hS hA (s_Rows_aim l D cs kf T O X v25 w hw gw p18_3 v41 v46 t_v25 t_w (hO.sub (by decide))) kw_834 kw_835 kw_836 kw_8 kw_837 (by decide +kernel) ⟨Nat.le_of_ble_eq_true rfl, Nat.le_of_ble_eq_true rfl⟩ (HT.recv (ci := 5) hkb hH t_v25 (hO.no t_v25 (by decide)) rfl) rfl rfl hl.1 (Nat.le_of_ble_eq_true rfl) dX11_leastLeg_49 ⟨Nat.le_of_ble_eq_true rfl, Nat.le_of_ble_eq_true rfl⟩) (fun u H locs hz9 hH hS => ?_)
          have hz9 : u = (T, O, X) := hz9
          subst hz9
          have hH : HT D cs A T O X H := hH
          refine W.widen (k := 0) (n := 0) (Nat.le_of_ble_eq_true rfl) (Nat.le_of_ble_eq_true rfl) ?_
          refine lv_aload_n hx hb dX11_leastLeg_52 rfl (lv_at hl 2 rfl) ?_
          refine t_get (ci := 11) (lst := ft11 w ch) (C := RX11) (F := TX11) (N := 20) hx hb hts uX11 hown hkb hH t_a0 (hO.no t_a0 (by decide)) (fun _ h9 => h9) rfl rfl 13 (by decide) rfl kw_373 (fun _ h9 => h9) dX11_leastLeg_53 (fun v9 h9 => ?_)
          obtain ⟨v53, rfl, t_v53⟩ := h9
          refine lv_iload_n hx hb dX11_leastLeg_56 rfl (lv_at hl 1 rfl) ?_
          refine tk_i hH hS hA (tr_V (n := 1) (As := [.int v12]) hx hb hml hown hts hkb hH hOX hks hE hS hA (s_Rows_getsUp l D cs kf T O X v53 v12 t_v53 (hO.sub (by decide))) kw_1059 kw_1060 kw_1061 kw_8 kw_1062 (by decide +kernel) ⟨Nat.le_of_ble_eq_true rfl, Nat.le_of_ble_eq_true rfl⟩ (HT.recv (ci := 5) hkb hH t_v53 (hO.no t_v53 (by decide)) rfl) rfl rfl hl.1 (Nat.le_of_ble_eq_true rfl) dX11_leastLeg_57 ⟨Nat.le_of_ble_eq_true rfl, Nat.le_of_ble_eq_true rfl⟩) (fun v57 u H locs hz9 hH hS => ?_)
          obtain ⟨rfl, l_v57, u_v57⟩ := hz9
          have hH : HT D cs A T O X H := hH
          refine W.widen (k := 0) (n := 0) (Nat.le_of_ble_eq_true rfl) (Nat.le_of_ble_eq_true rfl) ?_
          refine lv_if_eq (tgt := 65) hx hb dX11_leastLeg_60 (by decide) (fun c60 => ?_) (fun c60 => ?_)
          · skip
            have tc60 := f_eq (k := 0) (by decide) c60
            obtain ⟨v65, ev65⟩ : ∃ y : Int32, y = p18_3 + 1 := ⟨_, rfl⟩
            have tv65 : v65.toInt = p18_3.toInt + (1) := by rw [ev65]; exact add_i rfl (by decide) (by omega) (by omega)
            refine lv_iinc (v := v65) (lv' := [(3, .int v65), (2, .int v12), (0, .ref a0), (1, .int x1)]) hx hb dX11_leastLeg_65 hl (k := 0) rfl (by rw [ev65]; rfl) (by decide) rfl (fun ls hl => ?_)
            refine lv_goto (tgt := 18) hx hb dX11_leastLeg_68 (by decide) ?_
            exact ih18 _ (by omega) v65 _ _ _ rfl (by omega) (by omega) hH hS (lv_sub hl [0, 1, 2, 3] rfl)
          · skip
            have tc60 := f_ne (k := 0) (by decide) c60
            refine lv_iload_n hx hb dX11_leastLeg_63 rfl (lv_at hl 0 rfl) ?_
            exact te_i hx hb hr hlocks hH hS (⟨rfl, by omega, by omega⟩) dX11_leastLeg_64
    refine lv_istore_n (lv' := [(3, .int 0), (2, .int v12), (0, .ref a0), (1, .int x1)]) hx hb dX11_leastLeg_17 rfl hl (by decide) rfl (fun ls hl => ?_)
    exact J18 _ 0 _ _ _ rfl (by decide) (by decide) hH hS (lv_sub hl [0, 1, 2, 3] rfl)
  · skip
    have tc5 := f_eq (k := 0) (by decide) c5
    refine lv_bipush (v := (-2)) hx hb dX11_leastLeg_8 (by decide) ?_
    exact te_i hx hb hr hlocks hH hS (⟨rfl, by decide, by decide⟩) dX11_leastLeg_10
set_option maxHeartbeats 4000000 in
set_option maxRecDepth 100000 in
theorem s_FW_opens (l : Launch) (D : va_G) (cs : CS) (kf : KF) (T : TF) (O : List Nat) (X : va_W) (a0 w hw gw ch gq : Nat) (x1 : Int32) (t_a0 : T a0 = some (21, w, ch)) (t_w : isW T w hw gw) (t_ch : T ch = some (10, gq, 0)) (hO : okO T O [1, 12, 15, 16, 19, 21]) : TK l D cs kf yX11_opens cX11_opens 6 (some (.int)) { frames := 6, cells := 0, slots := 0, locals := 150 } [.ref a0, .int x1] T O X (Ti D cs (fun r u => u = (T, O, X))) := by
  refine tk_of (by decide) (Nat.le_of_ble_eq_true rfl) (fun p e s m below meth c ls A H locs hx hb hr hml hown hts hlocks hnm hkb hH hS hA hOX hks hE hl => ?_)
  have hown : s.vm.findClass RX11 = some m.cls := hown
  have hl : lv_has ls 6 [(0, .ref a0), (1, .int x1)] := hl
  have b1_w := t_w.2.1
  have b2_w := t_w.2.2
  refine lv_aload_n hx hb dX11_opens_0 rfl (lv_at hl 0 rfl) ?_
  refine lv_iload_n hx hb dX11_opens_1 rfl (lv_at hl 1 rfl) ?_
  refine tk_i hH hS hA (tr_V (n := 1) (As := [.int x1]) hx hb hml hown hts hkb hH hOX hks hE hS hA (s_FW_isGuide l D cs kf T O X a0 w hw gw ch gq x1 t_a0 t_w t_ch (hO.sub (by decide))) kw_794 kw_796 ks_20 kw_1 kw_797 (by decide +kernel) ⟨Nat.le_of_ble_eq_true rfl, Nat.le_of_ble_eq_true rfl⟩ (HT.recv (ci := 11) hkb hH t_a0 (hO.no t_a0 (by decide)) rfl) rfl rfl hl.1 (Nat.le_of_ble_eq_true rfl) dX11_opens_2 ⟨Nat.le_of_ble_eq_true rfl, Nat.le_of_ble_eq_true rfl⟩) (fun v2 u H locs hz9 hH hS => ?_)
  obtain ⟨rfl, l_v2, u_v2, x_v20⟩ := hz9
  have hH : HT D cs A T O X H := hH
  refine W.widen (k := 0) (n := 0) (Nat.le_of_ble_eq_true rfl) (Nat.le_of_ble_eq_true rfl) ?_
  refine lv_if_ne (tgt := 11) hx hb dX11_opens_5 (by decide) (fun c5 => ?_) (fun c5 => ?_)
  · skip
    have tc5 := f_ne (k := 0) (by decide) c5
    refine lv_iconst (v := 0) hx hb dX11_opens_11 (by decide) ?_
    refine lv_istore_n (lv' := [(2, .int 0), (0, .ref a0), (1, .int x1)]) hx hb dX11_opens_12 rfl hl (by decide) rfl (fun ls hl => ?_)
    refine lv_iconst (v := 0) hx hb dX11_opens_13 (by decide) ?_
    have J15 : ∀ (n : Nat) (p15_3 : Int32) (p15_2 : Int32) (H : Heap) (locs : List Loc) (ls : Array Slot), (200 - p15_3.toInt).toNat = n → (0 ≤ p15_3.toInt) → (p15_3.toInt ≤ 200) → (0 ≤ p15_2.toInt) → (p15_2.toInt ≤ 16383) → HT D cs A T O X H → va_S A s.heap H locs → lv_has ls 6 [(3, .int p15_3), (2, .int p15_2), (0, .ref a0), (1, .int x1)] → W p l e { frames := 6, cells := 0, slots := 0, locals := 150 } s m [.ref a0, .int x1].toArray below meth c H locs 0 0 (MQ below (Ti D cs (fun r u => u = (T, O, X)) A) [.ref a0, .int x1].toArray s 0 0 A) (F0 m 15 ls []) := by
      intro n
      induction n using Nat.strongRecOn with
      | _ n ih15 =>
        intro p15_3 p15_2 H locs ls hm15 l_p15_3 u_p15_3 l_p15_2 u_p15_2 hH hS hl
        refine lv_iload_n hx hb dX11_opens_15 rfl (lv_at hl 0 rfl) ?_
        refine lv_sipush (v := 200) hx hb dX11_opens_16 (by decide) ?_
        refine lv_icmp_ge (tgt := 116) hx hb dX11_opens_19 (by decide) (fun c19 => ?_) (fun c19 => ?_)
        · skip
          have tc19 := f_ge (k := 200) (by decide) c19
          refine lv_iconst (v := (-1)) hx hb dX11_opens_116 (by decide) ?_
          exact te_i hx hb hr hlocks hH hS (rfl) dX11_opens_117
        · skip
          have tc19 := f_nge (k := 200) (by decide) c19
          refine lv_aload_n hx hb dX11_opens_22 rfl (lv_at hl 2 rfl) ?_
          refine t_get (ci := 11) (lst := ft11 w ch) (C := RX11) (F := TX11) (N := 20) hx hb hts uX11 hown hkb hH t_a0 (hO.no t_a0 (by decide)) (fun _ h9 => h9) rfl rfl 4 (by decide) rfl kw_364 (fun _ h9 => h9) dX11_opens_23 (fun v9 h9 => ?_)
          obtain ⟨v23, rfl, t_v23⟩ := h9
          refine t_get (ci := 6) (lst := ft6 0 0) (C := RX6) (F := TX6) (N := 6) hx hb hts uX6 hown hkb hH t_v23 (hO.no t_v23 (by decide)) (fun _ h9 => h9) rfl rfl 2 (by decide) rfl kw_191 (fun _ h9 => h9) dX11_opens_26 (fun v9 h9 => ?_)
          obtain ⟨v26, rfl⟩ := h9
          refine lv_iload_n hx hb dX11_opens_29 rfl (lv_at hl 0 rfl) ?_
          refine lv_iadd hx hb dX11_opens_30 ?_
          refine lv_topi (fun v30 ev30 => ?_)
          refine lv_istore (lv' := [(4, .int v30), (3, .int p15_3), (2, .int p15_2), (0, .ref a0), (1, .int x1)]) hx hb dX11_opens_31 hl (by decide) rfl (fun ls hl => ?_)
          refine lv_aload_n hx hb dX11_opens_33 rfl (lv_at hl 3 rfl) ?_
          refine lv_iload hx hb dX11_opens_34 (lv_at hl 0 rfl) ?_
          refine tk_i hH hS hA (tr_V (n := 1) (As := [.int v30]) hx hb hml hown hts hkb hH hOX hks hE hS hA (s_FW_openOn l D cs kf T O X a0 w hw gw ch gq v30 t_a0 t_w t_ch (hO.sub (by decide))) kw_782 kw_784 ks_19 kw_1 kw_785 (by decide +kernel) ⟨Nat.le_of_ble_eq_true rfl, Nat.le_of_ble_eq_true rfl⟩ (HT.recv (ci := 11) hkb hH t_a0 (hO.no t_a0 (by decide)) rfl) rfl rfl hl.1 (Nat.le_of_ble_eq_true rfl) dX11_opens_36 ⟨Nat.le_of_ble_eq_true rfl, Nat.le_of_ble_eq_true rfl⟩) (fun v36 u H locs hz9 hH hS => ?_)
          obtain ⟨rfl, l_v36, u_v36⟩ := hz9
          have hH : HT D cs A T O X H := hH
          refine W.widen (k := 0) (n := 0) (Nat.le_of_ble_eq_true rfl) (Nat.le_of_ble_eq_true rfl) ?_
          refine lv_istore (lv' := [(5, .int v36), (4, .int v30), (3, .int p15_3), (2, .int p15_2), (0, .ref a0), (1, .int x1)]) hx hb dX11_opens_39 hl (by decide) rfl (fun ls hl => ?_)
          refine lv_iload_n hx hb dX11_opens_41 rfl (lv_at hl 2 rfl) ?_
          have J107 : ∀  (H : Heap) (locs : List Loc) (ls : Array Slot), HT D cs A T O X H → va_S A s.heap H locs → lv_has ls 6 [(5, .int v36), (3, .int p15_3), (0, .ref a0), (1, .int x1)] → W p l e { frames := 6, cells := 0, slots := 0, locals := 150 } s m [.ref a0, .int x1].toArray below meth c H locs 0 0 (MQ below (Ti D cs (fun r u => u = (T, O, X)) A) [.ref a0, .int x1].toArray s 0 0 A) (F0 m 107 ls []) := by
            intro  H locs ls  hH hS hl
            refine lv_iload hx hb dX11_opens_107 (lv_at hl 0 rfl) ?_
            refine lv_istore_n (lv' := [(2, .int v36), (5, .int v36), (3, .int p15_3), (0, .ref a0), (1, .int x1)]) hx hb dX11_opens_109 rfl hl (by decide) rfl (fun ls hl => ?_)
            obtain ⟨v110, ev110⟩ : ∃ y : Int32, y = p15_3 + 1 := ⟨_, rfl⟩
            have tv110 : v110.toInt = p15_3.toInt + (1) := by rw [ev110]; exact add_i rfl (by decide) (by omega) (by omega)
            refine lv_iinc (v := v110) (lv' := [(3, .int v110), (2, .int v36), (5, .int v36), (0, .ref a0), (1, .int x1)]) hx hb dX11_opens_110 hl (k := 2) rfl (by rw [ev110]; rfl) (by decide) rfl (fun ls hl => ?_)
            refine lv_goto (tgt := 15) hx hb dX11_opens_113 (by decide) ?_
            exact ih15 _ (by omega) v110 v36 _ _ _ rfl (by omega) (by omega) (by omega) (by omega) hH hS (lv_sub hl [0, 1, 3, 4] rfl)
          have J61 : ∀  (H : Heap) (locs : List Loc) (ls : Array Slot), HT D cs A T O X H → va_S A s.heap H locs → lv_has ls 6 [(5, .int v36), (4, .int v30), (3, .int p15_3), (0, .ref a0), (1, .int x1)] → W p l e { frames := 6, cells := 0, slots := 0, locals := 150 } s m [.ref a0, .int x1].toArray below meth c H locs 0 0 (MQ below (Ti D cs (fun r u => u = (T, O, X)) A) [.ref a0, .int x1].toArray s 0 0 A) (F0 m 61 ls []) := by
            intro  H locs ls  hH hS hl
            refine lv_aload_n hx hb dX11_opens_61 rfl (lv_at hl 3 rfl) ?_
            refine t_get (ci := 11) (lst := ft11 w ch) (C := RX11) (F := TX11) (N := 20) hx hb hts uX11 hown hkb hH t_a0 (hO.no t_a0 (by decide)) (fun _ h9 => h9) rfl rfl 13 (by decide) rfl kw_373 (fun _ h9 => h9) dX11_opens_62 (fun v9 h9 => ?_)
            obtain ⟨v62, rfl, t_v62⟩ := h9
            refine lv_aload_n hx hb dX11_opens_65 rfl (lv_at hl 3 rfl) ?_
            refine t_get (ci := 11) (lst := ft11 w ch) (C := RX11) (F := TX11) (N := 20) hx hb hts uX11 hown hkb hH t_a0 (hO.no t_a0 (by decide)) (fun _ h9 => h9) rfl rfl 3 (by decide) rfl kw_363 (fun _ h9 => h9) dX11_opens_66 (fun v9 h9 => ?_)
            have h9 : v9 = .ref w := h9
            subst h9
            refine lv_aload_n hx hb dX11_opens_69 rfl (lv_at hl 3 rfl) ?_
            refine t_get (ci := 11) (lst := ft11 w ch) (C := RX11) (F := TX11) (N := 20) hx hb hts uX11 hown hkb hH t_a0 (hO.no t_a0 (by decide)) (fun _ h9 => h9) rfl rfl 3 (by decide) rfl kw_363 (fun _ h9 => h9) dX11_opens_70 (fun v9 h9 => ?_)
            have h9 : v9 = .ref w := h9
            subst h9
            refine t_get (ci := 9) (lst := ft9w hw gw) (C := RX9) (F := TX9) (N := 14) hx hb hts uX9 hown hkb hH t_w.1 (hO.no t_w.1 (by decide)) (fun fs => (ob9w t_w fs).mp) rfl rfl 9 (by decide) rfl kw_142 (fun _ h9 => h9) dX11_opens_73 (fun v9 h9 => ?_)
            obtain ⟨v73, rfl, t_v73⟩ := h9
            refine lv_iload_n hx hb dX11_opens_76 rfl (lv_at hl 4 rfl) ?_
            refine t_ild hx hb hkb hH t_v73 (hO.no t_v73 (by decide)) (by omega) (by omega) dX11_opens_77 (fun v77 h9 => ?_)
            refine lv_aload_n hx hb dX11_opens_78 rfl (lv_at hl 3 rfl) ?_
            refine t_get (ci := 11) (lst := ft11 w ch) (C := RX11) (F := TX11) (N := 20) hx hb hts uX11 hown hkb hH t_a0 (hO.no t_a0 (by decide)) (fun _ h9 => h9) rfl rfl 3 (by decide) rfl kw_363 (fun _ h9 => h9) dX11_opens_79 (fun v9 h9 => ?_)
            have h9 : v9 = .ref w := h9
            subst h9
            refine t_get (ci := 9) (lst := ft9w hw gw) (C := RX9) (F := TX9) (N := 14) hx hb hts uX9 hown hkb hH t_w.1 (hO.no t_w.1 (by decide)) (fun fs => (ob9w t_w fs).mp) rfl rfl 10 (by decide) rfl kw_145 (fun _ h9 => h9) dX11_opens_82 (fun v9 h9 => ?_)
            obtain ⟨v82, rfl, t_v82⟩ := h9
            refine lv_iload_n hx hb dX11_opens_85 rfl (lv_at hl 4 rfl) ?_
            refine t_ild hx hb hkb hH t_v82 (hO.no t_v82 (by decide)) (by omega) (by omega) dX11_opens_86 (fun v86 h9 => ?_)
            refine lv_iload hx hb dX11_opens_87 (lv_at hl 1 rfl) ?_
            refine tk_v hH hS hA (tr_V (n := 4) (As := [.ref w, .int v77, .int v86, .int v30]) hx hb hml hown hts hkb hH hOX hks hE hS hA (s_Rows_aim l D cs kf T O X v62 w hw gw v77 v86 v30 t_v62 t_w (hO.sub (by decide))) kw_834 kw_835 kw_836 kw_8 kw_837 (by decide +kernel) ⟨Nat.le_of_ble_eq_true rfl, Nat.le_of_ble_eq_true rfl⟩ (HT.recv (ci := 5) hkb hH t_v62 (hO.no t_v62 (by decide)) rfl) rfl rfl hl.1 (Nat.le_of_ble_eq_true rfl) dX11_opens_89 ⟨Nat.le_of_ble_eq_true rfl, Nat.le_of_ble_eq_true rfl⟩) (fun u H locs hz9 hH hS => ?_)
            have hz9 : u = (T, O, X) := hz9
            subst hz9
            have hH : HT D cs A T O X H := hH
            refine W.widen (k := 0) (n := 0) (Nat.le_of_ble_eq_true rfl) (Nat.le_of_ble_eq_true rfl) ?_
            refine lv_aload_n hx hb dX11_opens_92 rfl (lv_at hl 3 rfl) ?_
            refine t_get (ci := 11) (lst := ft11 w ch) (C := RX11) (F := TX11) (N := 20) hx hb hts uX11 hown hkb hH t_a0 (hO.no t_a0 (by decide)) (fun _ h9 => h9) rfl rfl 13 (by decide) rfl kw_373 (fun _ h9 => h9) dX11_opens_93 (fun v9 h9 => ?_)
            obtain ⟨v93, rfl, t_v93⟩ := h9
            refine lv_iload hx hb dX11_opens_96 (lv_at hl 0 rfl) ?_
            refine tk_i hH hS hA (tr_V (n := 1) (As := [.int v36]) hx hb hml hown hts hkb hH hOX hks hE hS hA (s_Rows_getsUp l D cs kf T O X v93 v36 t_v93 (hO.sub (by decide))) kw_1059 kw_1060 kw_1061 kw_8 kw_1062 (by decide +kernel) ⟨Nat.le_of_ble_eq_true rfl, Nat.le_of_ble_eq_true rfl⟩ (HT.recv (ci := 5) hkb hH t_v93 (hO.no t_v93 (by decide)) rfl) rfl rfl hl.1 (Nat.le_of_ble_eq_true rfl) dX11_opens_98 ⟨Nat.le_of_ble_eq_true rfl, Nat.le_of_ble_eq_true rfl⟩) (fun v98 u H locs hz9 hH hS => ?_)
            obtain ⟨rfl, l_v98, u_v98⟩ := hz9
            have hH : HT D cs A T O X H := hH
            refine W.widen (k := 0) (n := 0) (Nat.le_of_ble_eq_true rfl) (Nat.le_of_ble_eq_true rfl) ?_
            refine lv_if_eq (tgt := 107) hx hb dX11_opens_101 (by decide) (fun c101 => ?_) (fun c101 => ?_)
            · skip
              have tc101 := f_eq (k := 0) (by decide) c101
              exact J107  _ _ _  hH hS (lv_sub hl [0, 2, 3, 4] rfl)
            · skip
              have tc101 := f_ne (k := 0) (by decide) c101
              refine lv_iload hx hb dX11_opens_104 (lv_at hl 1 rfl) ?_
              exact te_i hx hb hr hlocks hH hS (rfl) dX11_opens_106
          refine lv_if_eq (tgt := 61) hx hb dX11_opens_42 (by decide) (fun c42 => ?_) (fun c42 => ?_)
          · skip
            have tc42 := f_eq (k := 0) (by decide) c42
            exact J61  _ _ _  hH hS (lv_sub hl [0, 1, 2, 4, 5] rfl)
          · skip
            have tc42 := f_ne (k := 0) (by decide) c42
            refine lv_iload hx hb dX11_opens_45 (lv_at hl 0 rfl) ?_
            refine lv_iload_n hx hb dX11_opens_47 rfl (lv_at hl 3 rfl) ?_
            refine lv_icmp_ne (tgt := 61) hx hb dX11_opens_48 (by decide) (fun c48 => ?_) (fun c48 => ?_)
            · skip
              have fuc48 := full_i v36
              have fvc48 := full_i p15_2
              have tc48 := g_ne c48
              exact J61  _ _ _  hH hS (lv_sub hl [0, 1, 2, 4, 5] rfl)
            · skip
              have fuc48 := full_i v36
              have fvc48 := full_i p15_2
              have tc48 := g_eq c48
              refine lv_aload_n hx hb dX11_opens_51 rfl (lv_at hl 4 rfl) ?_
              refine t_get (ci := 11) (lst := ft11 w ch) (C := RX11) (F := TX11) (N := 20) hx hb hts uX11 hown hkb hH t_a0 (hO.no t_a0 (by decide)) (fun _ h9 => h9) rfl rfl 3 (by decide) rfl kw_363 (fun _ h9 => h9) dX11_opens_52 (fun v9 h9 => ?_)
              have h9 : v9 = .ref w := h9
              subst h9
              refine tk_i hH hS hA (tr_V (n := 0) (As := []) hx hb hml hown hts hkb hH hOX hks hE hS hA (s_Wall_asksDay l D cs kf T O X w hw gw t_w (hO.sub (by decide))) kw_1118 kw_843 kw_844 kw_5 kw_845 (by decide +kernel) ⟨Nat.le_of_ble_eq_true rfl, Nat.le_of_ble_eq_true rfl⟩ (HT.recv (ci := 9) hkb hH t_w.1 (hO.no t_w.1 (by decide)) rfl) rfl rfl hl.1 (Nat.le_of_ble_eq_true rfl) dX11_opens_55 ⟨Nat.le_of_ble_eq_true rfl, Nat.le_of_ble_eq_true rfl⟩) (fun v55 u H locs hz9 hH hS => ?_)
              obtain ⟨rfl, l_v55, u_v55⟩ := hz9
              have hH : HT D cs A T O X H := hH
              refine W.widen (k := 0) (n := 0) (Nat.le_of_ble_eq_true rfl) (Nat.le_of_ble_eq_true rfl) ?_
              refine lv_if_eq (tgt := 107) hx hb dX11_opens_58 (by decide) (fun c58 => ?_) (fun c58 => ?_)
              · skip
                have tc58 := f_eq (k := 0) (by decide) c58
                exact J107  _ _ _  hH hS (lv_sub hl [0, 2, 4, 5] rfl)
              · skip
                have tc58 := f_ne (k := 0) (by decide) c58
                exact J61  _ _ _  hH hS (lv_sub hl [0, 1, 2, 4, 5] rfl)
    refine lv_istore_n (lv' := [(3, .int 0), (2, .int 0), (0, .ref a0), (1, .int x1)]) hx hb dX11_opens_14 rfl hl (by decide) rfl (fun ls hl => ?_)
    exact J15 _ 0 0 _ _ _ rfl (by decide) (by decide) (by decide) (by decide) hH hS (lv_sub hl [0, 1, 2, 3] rfl)
  · skip
    have tc5 := f_eq (k := 0) (by decide) c5
    refine lv_bipush (v := (-2)) hx hb dX11_opens_8 (by decide) ?_
    exact te_i hx hb hr hlocks hH hS (rfl) dX11_opens_10
set_option maxHeartbeats 4000000 in
set_option maxRecDepth 100000 in
theorem s_FW_dearest (l : Launch) (D : va_G) (cs : CS) (kf : KF) (T : TF) (O : List Nat) (X : va_W) (a0 w hw gw ch gq : Nat) (x1 : Int32) (t_a0 : T a0 = some (21, w, ch)) (t_w : isW T w hw gw) (t_ch : T ch = some (10, gq, 0)) (hO : okO T O [1, 7, 11, 12, 15, 16, 19, 21]) : TK l D cs kf yX11_dearest cX11_dearest 7 (some (.int)) { frames := 6, cells := 0, slots := 0, locals := 156 } [.ref a0, .int x1] T O X (Ti D cs (fun r u => u = (T, O, X) ∧ -2 ≤ r.toInt ∧ r.toInt ≤ 13)) := by
  refine tk_of (by decide) (Nat.le_of_ble_eq_true rfl) (fun p e s m below meth c ls A H locs hx hb hr hml hown hts hlocks hnm hkb hH hS hA hOX hks hE hl => ?_)
  have hown : s.vm.findClass RX11 = some m.cls := hown
  have hl : lv_has ls 7 [(0, .ref a0), (1, .int x1)] := hl
  have b1_w := t_w.2.1
  have b2_w := t_w.2.2
  refine lv_aload_n hx hb dX11_dearest_0 rfl (lv_at hl 0 rfl) ?_
  refine lv_iload_n hx hb dX11_dearest_1 rfl (lv_at hl 1 rfl) ?_
  refine tk_i hH hS hA (tr_V (n := 1) (As := [.int x1]) hx hb hml hown hts hkb hH hOX hks hE hS hA (s_FW_isGuide l D cs kf T O X a0 w hw gw ch gq x1 t_a0 t_w t_ch (hO.sub (by decide))) kw_794 kw_796 ks_20 kw_1 kw_797 (by decide +kernel) ⟨Nat.le_of_ble_eq_true rfl, Nat.le_of_ble_eq_true rfl⟩ (HT.recv (ci := 11) hkb hH t_a0 (hO.no t_a0 (by decide)) rfl) rfl rfl hl.1 (Nat.le_of_ble_eq_true rfl) dX11_dearest_2 ⟨Nat.le_of_ble_eq_true rfl, Nat.le_of_ble_eq_true rfl⟩) (fun v2 u H locs hz9 hH hS => ?_)
  obtain ⟨rfl, l_v2, u_v2, x_v20⟩ := hz9
  have hH : HT D cs A T O X H := hH
  refine W.widen (k := 0) (n := 0) (Nat.le_of_ble_eq_true rfl) (Nat.le_of_ble_eq_true rfl) ?_
  refine lv_if_ne (tgt := 11) hx hb dX11_dearest_5 (by decide) (fun c5 => ?_) (fun c5 => ?_)
  · skip
    have tc5 := f_ne (k := 0) (by decide) c5
    refine lv_aload_n hx hb dX11_dearest_11 rfl (lv_at hl 0 rfl) ?_
    refine lv_iload_n hx hb dX11_dearest_12 rfl (lv_at hl 1 rfl) ?_
    refine tk_r hH hS hA (tr_V (n := 1) (As := [.int x1]) hx hb hml hown hts hkb hH hOX hks hE hS hA (s_FW_rowsOf l D cs kf T O X a0 w hw gw ch gq x1 t_a0 t_w t_ch (by omega) (by omega) (hO.sub (by decide))) kw_830 kw_832 ks_21 kw_1 kw_833 (by decide +kernel) ⟨Nat.le_of_ble_eq_true rfl, Nat.le_of_ble_eq_true rfl⟩ (HT.recv (ci := 11) hkb hH t_a0 (hO.no t_a0 (by decide)) rfl) rfl rfl hl.1 (Nat.le_of_ble_eq_true rfl) dX11_dearest_13 ⟨Nat.le_of_ble_eq_true rfl, Nat.le_of_ble_eq_true rfl⟩) (fun v13 u H locs hz9 hH hS => ?_)
    obtain ⟨hu9, t_v13⟩ := hz9
    have hu9 : u = (T, O, X) := hu9
    subst hu9
    have hH : HT D cs A T O X H := hH
    refine W.widen (k := 0) (n := 0) (Nat.le_of_ble_eq_true rfl) (Nat.le_of_ble_eq_true rfl) ?_
    refine lv_astore_n (lv' := [(2, .ref v13), (0, .ref a0), (1, .int x1)]) hx hb dX11_dearest_16 rfl hl (by decide) rfl (fun ls hl => ?_)
    refine lv_aload_n hx hb dX11_dearest_17 rfl (lv_at hl 1 rfl) ?_
    refine tk_i hH hS hA (tr_V (n := 0) (As := []) hx hb hml hown hts hkb hH hOX hks hE hS hA (s_FW_openNow l D cs kf T O X a0 w hw gw ch gq t_a0 t_w t_ch (hO.sub (by decide))) kw_846 kw_848 ks_22 kw_1 kw_849 (by decide +kernel) ⟨Nat.le_of_ble_eq_true rfl, Nat.le_of_ble_eq_true rfl⟩ (HT.recv (ci := 11) hkb hH t_a0 (hO.no t_a0 (by decide)) rfl) rfl rfl hl.1 (Nat.le_of_ble_eq_true rfl) dX11_dearest_18 ⟨Nat.le_of_ble_eq_true rfl, Nat.le_of_ble_eq_true rfl⟩) (fun v18 u H locs hz9 hH hS => ?_)
    obtain ⟨rfl, l_v18, u_v18⟩ := hz9
    have hH : HT D cs A T O X H := hH
    refine W.widen (k := 0) (n := 0) (Nat.le_of_ble_eq_true rfl) (Nat.le_of_ble_eq_true rfl) ?_
    refine lv_istore_n (lv' := [(3, .int v18), (2, .ref v13), (0, .ref a0), (1, .int x1)]) hx hb dX11_dearest_21 rfl hl (by decide) rfl (fun ls hl => ?_)
    refine lv_iload_n hx hb dX11_dearest_22 rfl (lv_at hl 0 rfl) ?_
    refine lv_aload_n hx hb dX11_dearest_23 rfl (lv_at hl 2 rfl) ?_
    refine t_get (ci := 11) (lst := ft11 w ch) (C := RX11) (F := TX11) (N := 20) hx hb hts uX11 hown hkb hH t_a0 (hO.no t_a0 (by decide)) (fun _ h9 => h9) rfl rfl 3 (by decide) rfl kw_363 (fun _ h9 => h9) dX11_dearest_24 (fun v9 h9 => ?_)
    have h9 : v9 = .ref w := h9
    subst h9
    refine tk_i hH hS hA (tr_V (n := 0) (As := []) hx hb hml hown hts hkb hH hOX hks hE hS hA (s_Wall_middles l D cs kf T O X w hw gw t_w (hO.sub (by decide))) kw_892 kw_683 kw_684 kw_5 kw_685 (by decide +kernel) ⟨Nat.le_of_ble_eq_true rfl, Nat.le_of_ble_eq_true rfl⟩ (HT.recv (ci := 9) hkb hH t_w.1 (hO.no t_w.1 (by decide)) rfl) rfl rfl hl.1 (Nat.le_of_ble_eq_true rfl) dX11_dearest_27 ⟨Nat.le_of_ble_eq_true rfl, Nat.le_of_ble_eq_true rfl⟩) (fun v27 u H locs hz9 hH hS => ?_)
    obtain ⟨rfl, l_v27, u_v27⟩ := hz9
    have hH : HT D cs A T O X H := hH
    refine W.widen (k := 0) (n := 0) (Nat.le_of_ble_eq_true rfl) (Nat.le_of_ble_eq_true rfl) ?_
    refine lv_iand hx hb dX11_dearest_30 ?_
    refine lv_topi (fun v30 ev30 => ?_)
    have tv30 : 0 ≤ v30.toInt ∧ v30.toInt ≤ v18.toInt := by rw [ev30]; exact and_l (by omega)
    have ttv30 : 0 ≤ v30.toInt ∧ v30.toInt ≤ v27.toInt := by rw [ev30]; exact and_r (by omega)
    refine lv_istore (lv' := [(4, .int v30), (3, .int v18), (2, .ref v13), (0, .ref a0), (1, .int x1)]) hx hb dX11_dearest_31 hl (by decide) rfl (fun ls hl => ?_)
    refine lv_aload_n hx hb dX11_dearest_33 rfl (lv_at hl 3 rfl) ?_
    refine t_get (ci := 11) (lst := ft11 w ch) (C := RX11) (F := TX11) (N := 20) hx hb hts uX11 hown hkb hH t_a0 (hO.no t_a0 (by decide)) (fun _ h9 => h9) rfl rfl 15 (by decide) rfl kw_375 (fun _ h9 => h9) dX11_dearest_34 (fun v9 h9 => ?_)
    obtain ⟨v34, rfl, t_v34⟩ := h9
    refine lv_aload_n hx hb dX11_dearest_37 rfl (lv_at hl 2 rfl) ?_
    refine lv_iload_n hx hb dX11_dearest_38 rfl (lv_at hl 1 rfl) ?_
    refine lv_iload hx hb dX11_dearest_39 (lv_at hl 0 rfl) ?_
    refine tk_i hH hS hA (tr_V (n := 3) (As := [.ref v13, .int v18, .int v30]) hx hb hml hown hts hkb hH hOX hks hE hS hA (s_Cut_fewest l D cs kf T O X v34 v13 v18 v30 t_v34 t_v13 (hO.sub (by decide))) kw_1014 kw_1015 kw_1016 kw_10 kw_1017 (by decide +kernel) ⟨Nat.le_of_ble_eq_true rfl, Nat.le_of_ble_eq_true rfl⟩ (HT.recv (ci := 1) hkb hH t_v34 (hO.no t_v34 (by decide)) rfl) rfl rfl hl.1 (Nat.le_of_ble_eq_true rfl) dX11_dearest_41 ⟨Nat.le_of_ble_eq_true rfl, Nat.le_of_ble_eq_true rfl⟩) (fun v41 u H locs hz9 hH hS => ?_)
    obtain ⟨rfl, l_v41, u_v41⟩ := hz9
    have hH : HT D cs A T O X H := hH
    refine W.widen (k := 0) (n := 0) (Nat.le_of_ble_eq_true rfl) (Nat.le_of_ble_eq_true rfl) ?_
    refine lv_istore (lv' := [(5, .int v41), (4, .int v30), (3, .int v18), (2, .ref v13), (0, .ref a0), (1, .int x1)]) hx hb dX11_dearest_44 hl (by decide) rfl (fun ls hl => ?_)
    refine lv_iload hx hb dX11_dearest_46 (lv_at hl 0 rfl) ?_
    have J58 : ∀  (H : Heap) (locs : List Loc) (ls : Array Slot), HT D cs A T O X H → va_S A s.heap H locs → lv_has ls 7 [] → W p l e { frames := 6, cells := 0, slots := 0, locals := 156 } s m [.ref a0, .int x1].toArray below meth c H locs 0 0 (MQ below (Ti D cs (fun r u => u = (T, O, X) ∧ -2 ≤ r.toInt ∧ r.toInt ≤ 13) A) [.ref a0, .int x1].toArray s 0 0 A) (F0 m 58 ls []) := by
      intro  H locs ls  hH hS hl
      refine lv_iconst (v := (-1)) hx hb dX11_dearest_58 (by decide) ?_
      exact te_i hx hb hr hlocks hH hS (⟨rfl, by decide, by decide⟩) dX11_dearest_59
    refine lv_if_eq (tgt := 58) hx hb dX11_dearest_48 (by decide) (fun c48 => ?_) (fun c48 => ?_)
    · skip
      have tc48 := f_eq (k := 0) (by decide) c48
      exact J58  _ _ _  hH hS (lv_sub hl [] rfl)
    · skip
      have tc48 := f_ne (k := 0) (by decide) c48
      refine lv_iload hx hb dX11_dearest_51 (lv_at hl 0 rfl) ?_
      refine lv_bipush (v := 99) hx hb dX11_dearest_53 (by decide) ?_
      refine lv_icmp_ne (tgt := 60) hx hb dX11_dearest_55 (by decide) (fun c55 => ?_) (fun c55 => ?_)
      · skip
        have tc55 := f_ne (k := 99) (by decide) c55
        refine lv_iconst (v := 0) hx hb dX11_dearest_60 (by decide) ?_
        have J63 : ∀ (n : Nat) (p63_6 : Int32) (H : Heap) (locs : List Loc) (ls : Array Slot), (14 - p63_6.toInt).toNat = n → (0 ≤ p63_6.toInt) → (p63_6.toInt ≤ 14) → HT D cs A T O X H → va_S A s.heap H locs → lv_has ls 7 [(6, .int p63_6), (5, .int v41), (4, .int v30), (3, .int v18), (2, .ref v13), (0, .ref a0)] → W p l e { frames := 6, cells := 0, slots := 0, locals := 156 } s m [.ref a0, .int x1].toArray below meth c H locs 0 0 (MQ below (Ti D cs (fun r u => u = (T, O, X) ∧ -2 ≤ r.toInt ∧ r.toInt ≤ 13) A) [.ref a0, .int x1].toArray s 0 0 A) (F0 m 63 ls []) := by
          intro n
          induction n using Nat.strongRecOn with
          | _ n ih63 =>
            intro p63_6 H locs ls hm63 l_p63_6 u_p63_6 hH hS hl
            refine lv_iload hx hb dX11_dearest_63 (lv_at hl 0 rfl) ?_
            refine lv_aload_n hx hb dX11_dearest_65 rfl (lv_at hl 5 rfl) ?_
            refine t_get (ci := 11) (lst := ft11 w ch) (C := RX11) (F := TX11) (N := 20) hx hb hts uX11 hown hkb hH t_a0 (hO.no t_a0 (by decide)) (fun _ h9 => h9) rfl rfl 3 (by decide) rfl kw_363 (fun _ h9 => h9) dX11_dearest_66 (fun v9 h9 => ?_)
            have h9 : v9 = .ref w := h9
            subst h9
            refine t_get (ci := 9) (lst := ft9w hw gw) (C := RX9) (F := TX9) (N := 14) hx hb hts uX9 hown hkb hH t_w.1 (hO.no t_w.1 (by decide)) (fun fs => (ob9w t_w fs).mp) rfl rfl 0 (by decide) rfl kw_109 (fun _ h9 => h9) dX11_dearest_69 (fun v9 h9 => ?_)
            have h9 : v9 = .int (nI hw) := h9
            subst h9
            have e_hw : (nI hw).toInt = hw := nI_toInt (by have := t_w.2.1; omega)
            have b_hw := t_w.2.1
            refine lv_icmp_ge (tgt := 117) hx hb dX11_dearest_72 (by decide) (fun c72 => ?_) (fun c72 => ?_)
            · skip
              have fuc72 := full_i p63_6
              have fvc72 := full_i (nI hw)
              have tc72 := g_le c72
              refine lv_iconst (v := (-1)) hx hb dX11_dearest_117 (by decide) ?_
              exact te_i hx hb hr hlocks hH hS (⟨rfl, by decide, by decide⟩) dX11_dearest_118
            · skip
              have fuc72 := full_i p63_6
              have fvc72 := full_i (nI hw)
              have tc72 := g_nle c72
              refine lv_iload hx hb dX11_dearest_75 (lv_at hl 2 rfl) ?_
              refine lv_iload hx hb dX11_dearest_77 (lv_at hl 0 rfl) ?_
              refine lv_ishr hx hb dX11_dearest_79 ?_
              refine lv_topi (fun v79 ev79 => ?_)
              have tv79 : 0 ≤ v79.toInt ∧ v79.toInt ≤ v30.toInt := by rw [ev79]; exact shr_b (by omega)
              refine lv_iconst (v := 1) hx hb dX11_dearest_80 (by decide) ?_
              refine lv_iand hx hb dX11_dearest_81 ?_
              refine lv_topi (fun v81 ev81 => ?_)
              have tv81 : 0 ≤ v81.toInt ∧ v81.toInt ≤ 1 := by rw [ev81]; exact and_r (by decide)
              have J111 : ∀  (H : Heap) (locs : List Loc) (ls : Array Slot), HT D cs A T O X H → va_S A s.heap H locs → lv_has ls 7 [(6, .int p63_6), (5, .int v41), (4, .int v30), (3, .int v18), (2, .ref v13), (0, .ref a0)] → W p l e { frames := 6, cells := 0, slots := 0, locals := 156 } s m [.ref a0, .int x1].toArray below meth c H locs 0 0 (MQ below (Ti D cs (fun r u => u = (T, O, X) ∧ -2 ≤ r.toInt ∧ r.toInt ≤ 13) A) [.ref a0, .int x1].toArray s 0 0 A) (F0 m 111 ls []) := by
                intro  H locs ls  hH hS hl
                obtain ⟨v111, ev111⟩ : ∃ y : Int32, y = p63_6 + 1 := ⟨_, rfl⟩
                have tv111 : v111.toInt = p63_6.toInt + (1) := by rw [ev111]; exact add_i rfl (by decide) (by omega) (by omega)
                refine lv_iinc (v := v111) (lv' := [(6, .int v111), (5, .int v41), (4, .int v30), (3, .int v18), (2, .ref v13), (0, .ref a0)]) hx hb dX11_dearest_111 hl (k := 0) rfl (by rw [ev111]; rfl) (by decide) rfl (fun ls hl => ?_)
                refine lv_goto (tgt := 63) hx hb dX11_dearest_114 (by decide) ?_
                exact ih63 _ (by omega) v111 _ _ _ rfl (by omega) (by omega) hH hS (lv_sub hl [0, 1, 2, 3, 4, 5] rfl)
              refine lv_if_eq (tgt := 111) hx hb dX11_dearest_82 (by decide) (fun c82 => ?_) (fun c82 => ?_)
              · skip
                have tc82 := f_eq (k := 0) (by decide) c82
                exact J111  _ _ _  hH hS (lv_sub hl [0, 1, 2, 3, 4, 5] rfl)
              · skip
                have tc82 := f_ne (k := 0) (by decide) c82
                refine lv_aload_n hx hb dX11_dearest_85 rfl (lv_at hl 5 rfl) ?_
                refine t_get (ci := 11) (lst := ft11 w ch) (C := RX11) (F := TX11) (N := 20) hx hb hts uX11 hown hkb hH t_a0 (hO.no t_a0 (by decide)) (fun _ h9 => h9) rfl rfl 15 (by decide) rfl kw_375 (fun _ h9 => h9) dX11_dearest_86 (fun v9 h9 => ?_)
                obtain ⟨v86, rfl, t_v86⟩ := h9
                refine lv_aload_n hx hb dX11_dearest_89 rfl (lv_at hl 4 rfl) ?_
                refine lv_iload_n hx hb dX11_dearest_90 rfl (lv_at hl 3 rfl) ?_
                refine lv_iconst (v := 1) hx hb dX11_dearest_91 (by decide) ?_
                refine lv_iload hx hb dX11_dearest_92 (lv_at hl 0 rfl) ?_
                refine lv_ishl hx hb dX11_dearest_94 ?_
                refine lv_topi (fun v94 ev94 => ?_)
                have tv94 : 1 ≤ v94.toInt ∧ v94.toInt ≤ 8192 := by rw [ev94]; exact shl_b 13 (by decide) (by omega) (by omega)
                refine lv_iconst (v := (-1)) hx hb dX11_dearest_95 (by decide) ?_
                refine lv_ixor hx hb dX11_dearest_96 ?_
                refine lv_topi (fun v96 ev96 => ?_)
                refine lv_iand hx hb dX11_dearest_97 ?_
                refine lv_topi (fun v97 ev97 => ?_)
                have tv97 : 0 ≤ v97.toInt ∧ v97.toInt ≤ v18.toInt := by rw [ev97]; exact and_l (by omega)
                refine lv_iload hx hb dX11_dearest_98 (lv_at hl 2 rfl) ?_
                refine tk_i hH hS hA (tr_V (n := 3) (As := [.ref v13, .int v97, .int v30]) hx hb hml hown hts hkb hH hOX hks hE hS hA (s_Cut_fewest l D cs kf T O X v86 v13 v97 v30 t_v86 t_v13 (hO.sub (by decide))) kw_1014 kw_1015 kw_1016 kw_10 kw_1017 (by decide +kernel) ⟨Nat.le_of_ble_eq_true rfl, Nat.le_of_ble_eq_true rfl⟩ (HT.recv (ci := 1) hkb hH t_v86 (hO.no t_v86 (by decide)) rfl) rfl rfl hl.1 (Nat.le_of_ble_eq_true rfl) dX11_dearest_100 ⟨Nat.le_of_ble_eq_true rfl, Nat.le_of_ble_eq_true rfl⟩) (fun v100 u H locs hz9 hH hS => ?_)
                obtain ⟨rfl, l_v100, u_v100⟩ := hz9
                have hH : HT D cs A T O X H := hH
                refine W.widen (k := 0) (n := 0) (Nat.le_of_ble_eq_true rfl) (Nat.le_of_ble_eq_true rfl) ?_
                refine lv_iload hx hb dX11_dearest_103 (lv_at hl 1 rfl) ?_
                refine lv_icmp_ge (tgt := 111) hx hb dX11_dearest_105 (by decide) (fun c105 => ?_) (fun c105 => ?_)
                · skip
                  have fuc105 := full_i v100
                  have fvc105 := full_i v41
                  have tc105 := g_le c105
                  exact J111  _ _ _  hH hS (lv_sub hl [0, 1, 2, 3, 4, 5] rfl)
                · skip
                  have fuc105 := full_i v100
                  have fvc105 := full_i v41
                  have tc105 := g_nle c105
                  refine lv_iload hx hb dX11_dearest_108 (lv_at hl 0 rfl) ?_
                  exact te_i hx hb hr hlocks hH hS (⟨rfl, by omega, by omega⟩) dX11_dearest_110
        refine lv_istore (lv' := [(6, .int 0), (5, .int v41), (4, .int v30), (3, .int v18), (2, .ref v13), (0, .ref a0), (1, .int x1)]) hx hb dX11_dearest_61 hl (by decide) rfl (fun ls hl => ?_)
        exact J63 _ 0 _ _ _ rfl (by decide) (by decide) hH hS (lv_sub hl [0, 1, 2, 3, 4, 5] rfl)
      · skip
        have tc55 := f_eq (k := 99) (by decide) c55
        exact J58  _ _ _  hH hS (lv_sub hl [] rfl)
  · skip
    have tc5 := f_eq (k := 0) (by decide) c5
    refine lv_bipush (v := (-2)) hx hb dX11_dearest_8 (by decide) ?_
    exact te_i hx hb hr hlocks hH hS (⟨rfl, by decide, by decide⟩) dX11_dearest_10
set_option maxHeartbeats 4000000 in
set_option maxRecDepth 100000 in
theorem s_FW_saved (l : Launch) (D : va_G) (cs : CS) (kf : KF) (T : TF) (O : List Nat) (X : va_W) (a0 w hw gw ch gq : Nat) (x1 : Int32) (t_a0 : T a0 = some (21, w, ch)) (t_w : isW T w hw gw) (t_ch : T ch = some (10, gq, 0)) (hO : okO T O [1, 7, 12, 15, 16, 19, 20, 21]) : TK l D cs kf yX11_saved cX11_saved 2 (some (.int)) { frames := 6, cells := 0, slots := 0, locals := 154 } [.ref a0, .int x1] T O X (Ti D cs (fun r u => u = (T, O, X) ∧ r.toInt ≤ 16384)) := by
  refine tk_of (by decide) (Nat.le_of_ble_eq_true rfl) (fun p e s m below meth c ls A H locs hx hb hr hml hown hts hlocks hnm hkb hH hS hA hOX hks hE hl => ?_)
  have hown : s.vm.findClass RX11 = some m.cls := hown
  have hl : lv_has ls 2 [(0, .ref a0), (1, .int x1)] := hl
  have b1_w := t_w.2.1
  have b2_w := t_w.2.2
  refine lv_aload_n hx hb dX11_saved_0 rfl (lv_at hl 0 rfl) ?_
  refine lv_iload_n hx hb dX11_saved_1 rfl (lv_at hl 1 rfl) ?_
  refine tk_i hH hS hA (tr_V (n := 1) (As := [.int x1]) hx hb hml hown hts hkb hH hOX hks hE hS hA (s_FW_isGuide l D cs kf T O X a0 w hw gw ch gq x1 t_a0 t_w t_ch (hO.sub (by decide))) kw_794 kw_796 ks_20 kw_1 kw_797 (by decide +kernel) ⟨Nat.le_of_ble_eq_true rfl, Nat.le_of_ble_eq_true rfl⟩ (HT.recv (ci := 11) hkb hH t_a0 (hO.no t_a0 (by decide)) rfl) rfl rfl hl.1 (Nat.le_of_ble_eq_true rfl) dX11_saved_2 ⟨Nat.le_of_ble_eq_true rfl, Nat.le_of_ble_eq_true rfl⟩) (fun v2 u H locs hz9 hH hS => ?_)
  obtain ⟨rfl, l_v2, u_v2, x_v20⟩ := hz9
  have hH : HT D cs A T O X H := hH
  refine W.widen (k := 0) (n := 0) (Nat.le_of_ble_eq_true rfl) (Nat.le_of_ble_eq_true rfl) ?_
  have J29 : ∀ (k29_0 : Int32) (H : Heap) (locs : List Loc) (ls : Array Slot), (k29_0.toInt ≤ 16384) → HT D cs A T O X H → va_S A s.heap H locs → lv_has ls 2 [] → W p l e { frames := 6, cells := 0, slots := 0, locals := 154 } s m [.ref a0, .int x1].toArray below meth c H locs 0 0 (MQ below (Ti D cs (fun r u => u = (T, O, X) ∧ r.toInt ≤ 16384) A) [.ref a0, .int x1].toArray s 0 0 A) (F0 m 29 ls [.int k29_0]) := by
    intro k29_0 H locs ls u_k29_0 hH hS hl
    exact te_i hx hb hr hlocks hH hS (⟨rfl, by omega⟩) dX11_saved_29
  refine lv_if_eq (tgt := 27) hx hb dX11_saved_5 (by decide) (fun c5 => ?_) (fun c5 => ?_)
  · skip
    have tc5 := f_eq (k := 0) (by decide) c5
    refine lv_bipush (v := (-2)) hx hb dX11_saved_27 (by decide) ?_
    exact J29 (-2) _ _ _ (by decide) hH hS (lv_sub hl [] rfl)
  · skip
    have tc5 := f_ne (k := 0) (by decide) c5
    refine lv_aload_n hx hb dX11_saved_8 rfl (lv_at hl 0 rfl) ?_
    refine t_get (ci := 11) (lst := ft11 w ch) (C := RX11) (F := TX11) (N := 20) hx hb hts uX11 hown hkb hH t_a0 (hO.no t_a0 (by decide)) (fun _ h9 => h9) rfl rfl 14 (by decide) rfl kw_374 (fun _ h9 => h9) dX11_saved_9 (fun v9 h9 => ?_)
    obtain ⟨v9, rfl, t_v9⟩ := h9
    refine lv_aload_n hx hb dX11_saved_12 rfl (lv_at hl 0 rfl) ?_
    refine lv_iload_n hx hb dX11_saved_13 rfl (lv_at hl 1 rfl) ?_
    refine tk_r hH hS hA (tr_V (n := 1) (As := [.int x1]) hx hb hml hown hts hkb hH hOX hks hE hS hA (s_FW_rowsOf l D cs kf T O X a0 w hw gw ch gq x1 t_a0 t_w t_ch (by omega) (by omega) (hO.sub (by decide))) kw_830 kw_832 ks_21 kw_1 kw_833 (by decide +kernel) ⟨Nat.le_of_ble_eq_true rfl, Nat.le_of_ble_eq_true rfl⟩ (HT.recv (ci := 11) hkb hH t_a0 (hO.no t_a0 (by decide)) rfl) rfl rfl hl.1 (Nat.le_of_ble_eq_true rfl) dX11_saved_14 ⟨Nat.le_of_ble_eq_true rfl, Nat.le_of_ble_eq_true rfl⟩) (fun v14 u H locs hz9 hH hS => ?_)
    obtain ⟨hu9, t_v14⟩ := hz9
    have hu9 : u = (T, O, X) := hu9
    subst hu9
    have hH : HT D cs A T O X H := hH
    refine W.widen (k := 0) (n := 0) (Nat.le_of_ble_eq_true rfl) (Nat.le_of_ble_eq_true rfl) ?_
    refine lv_aload_n hx hb dX11_saved_17 rfl (lv_at hl 0 rfl) ?_
    refine tk_i hH hS hA (tr_V (n := 0) (As := []) hx hb hml hown hts hkb hH hOX hks hE hS hA (s_FW_openNow l D cs kf T O X a0 w hw gw ch gq t_a0 t_w t_ch (hO.sub (by decide))) kw_846 kw_848 ks_22 kw_1 kw_849 (by decide +kernel) ⟨Nat.le_of_ble_eq_true rfl, Nat.le_of_ble_eq_true rfl⟩ (HT.recv (ci := 11) hkb hH t_a0 (hO.no t_a0 (by decide)) rfl) rfl rfl hl.1 (Nat.le_of_ble_eq_true rfl) dX11_saved_18 ⟨Nat.le_of_ble_eq_true rfl, Nat.le_of_ble_eq_true rfl⟩) (fun v18 u H locs hz9 hH hS => ?_)
    obtain ⟨rfl, l_v18, u_v18⟩ := hz9
    have hH : HT D cs A T O X H := hH
    refine W.widen (k := 0) (n := 0) (Nat.le_of_ble_eq_true rfl) (Nat.le_of_ble_eq_true rfl) ?_
    refine tk_i hH hS hA (tr_V (n := 2) (As := [.ref v14, .int v18]) hx hb hml hown hts hkb hH hOX hks hE hS hA (s_Ways_leastUsed l D cs kf T O X v9 v14 v18 t_v9 t_v14 (hO.sub (by decide))) kw_1150 kw_1151 kw_1152 kw_9 kw_1153 (by decide +kernel) ⟨Nat.le_of_ble_eq_true rfl, Nat.le_of_ble_eq_true rfl⟩ (HT.recv (ci := 10) hkb hH t_v9 (hO.no t_v9 (by decide)) rfl) rfl rfl hl.1 (Nat.le_of_ble_eq_true rfl) dX11_saved_21 ⟨Nat.le_of_ble_eq_true rfl, Nat.le_of_ble_eq_true rfl⟩) (fun v21 u H locs hz9 hH hS => ?_)
    obtain ⟨rfl, u_v21⟩ := hz9
    have hH : HT D cs A T O X H := hH
    refine W.widen (k := 0) (n := 0) (Nat.le_of_ble_eq_true rfl) (Nat.le_of_ble_eq_true rfl) ?_
    refine lv_goto (tgt := 29) hx hb dX11_saved_24 (by decide) ?_
    exact J29 v21 _ _ _ (by omega) hH hS (lv_sub hl [] rfl)
set_option maxHeartbeats 4000000 in
set_option maxRecDepth 100000 in
theorem s_FW_leaves (l : Launch) (D : va_G) (cs : CS) (kf : KF) (T : TF) (O : List Nat) (X : va_W) (a0 w hw gw ch gq : Nat) (x1 : Int32) (x2 : Int32) (t_a0 : T a0 = some (21, w, ch)) (t_w : isW T w hw gw) (t_ch : T ch = some (10, gq, 0)) (hO : okO T O [1, 7, 12, 15, 16, 19, 20, 21]) : TK l D cs kf yX11_leaves cX11_leaves 5 (some (.int)) { frames := 6, cells := 0, slots := 0, locals := 152 } [.ref a0, .int x1, .int x2] T O X (Ti D cs (fun r u => u = (T, O, X) ∧ -5 ≤ r.toInt ∧ r.toInt ≤ 1)) := by
  refine tk_of (by decide) (Nat.le_of_ble_eq_true rfl) (fun p e s m below meth c ls A H locs hx hb hr hml hown hts hlocks hnm hkb hH hS hA hOX hks hE hl => ?_)
  have hown : s.vm.findClass RX11 = some m.cls := hown
  have hl : lv_has ls 5 [(0, .ref a0), (1, .int x1), (2, .int x2)] := hl
  have b1_w := t_w.2.1
  have b2_w := t_w.2.2
  refine lv_aload_n hx hb dX11_leaves_0 rfl (lv_at hl 0 rfl) ?_
  refine lv_iload_n hx hb dX11_leaves_1 rfl (lv_at hl 1 rfl) ?_
  refine tk_i hH hS hA (tr_V (n := 1) (As := [.int x1]) hx hb hml hown hts hkb hH hOX hks hE hS hA (s_FW_isGuide l D cs kf T O X a0 w hw gw ch gq x1 t_a0 t_w t_ch (hO.sub (by decide))) kw_794 kw_796 ks_20 kw_1 kw_797 (by decide +kernel) ⟨Nat.le_of_ble_eq_true rfl, Nat.le_of_ble_eq_true rfl⟩ (HT.recv (ci := 11) hkb hH t_a0 (hO.no t_a0 (by decide)) rfl) rfl rfl hl.1 (Nat.le_of_ble_eq_true rfl) dX11_leaves_2 ⟨Nat.le_of_ble_eq_true rfl, Nat.le_of_ble_eq_true rfl⟩) (fun v2 u H locs hz9 hH hS => ?_)
  obtain ⟨rfl, l_v2, u_v2, x_v20⟩ := hz9
  have hH : HT D cs A T O X H := hH
  refine W.widen (k := 0) (n := 0) (Nat.le_of_ble_eq_true rfl) (Nat.le_of_ble_eq_true rfl) ?_
  have J16 : ∀  (H : Heap) (locs : List Loc) (ls : Array Slot), HT D cs A T O X H → va_S A s.heap H locs → lv_has ls 5 [] → W p l e { frames := 6, cells := 0, slots := 0, locals := 152 } s m [.ref a0, .int x1, .int x2].toArray below meth c H locs 0 0 (MQ below (Ti D cs (fun r u => u = (T, O, X) ∧ -5 ≤ r.toInt ∧ r.toInt ≤ 1) A) [.ref a0, .int x1, .int x2].toArray s 0 0 A) (F0 m 16 ls []) := by
    intro  H locs ls  hH hS hl
    refine lv_bipush (v := (-2)) hx hb dX11_leaves_16 (by decide) ?_
    exact te_i hx hb hr hlocks hH hS (⟨rfl, by decide, by decide⟩) dX11_leaves_18
  refine lv_if_eq (tgt := 16) hx hb dX11_leaves_5 (by decide) (fun c5 => ?_) (fun c5 => ?_)
  · skip
    have tc5 := f_eq (k := 0) (by decide) c5
    exact J16  _ _ _  hH hS (lv_sub hl [] rfl)
  · skip
    have tc5 := f_ne (k := 0) (by decide) c5
    refine lv_aload_n hx hb dX11_leaves_8 rfl (lv_at hl 0 rfl) ?_
    refine lv_iload_n hx hb dX11_leaves_9 rfl (lv_at hl 2 rfl) ?_
    refine tk_i hH hS hA (tr_V (n := 1) (As := [.int x2]) hx hb hml hown hts hkb hH hOX hks hE hS hA (s_FW_isGuide l D cs kf T O X a0 w hw gw ch gq x2 t_a0 t_w t_ch (hO.sub (by decide))) kw_794 kw_796 ks_20 kw_1 kw_797 (by decide +kernel) ⟨Nat.le_of_ble_eq_true rfl, Nat.le_of_ble_eq_true rfl⟩ (HT.recv (ci := 11) hkb hH t_a0 (hO.no t_a0 (by decide)) rfl) rfl rfl hl.1 (Nat.le_of_ble_eq_true rfl) dX11_leaves_10 ⟨Nat.le_of_ble_eq_true rfl, Nat.le_of_ble_eq_true rfl⟩) (fun v10 u H locs hz9 hH hS => ?_)
    obtain ⟨rfl, l_v10, u_v10, x_v100⟩ := hz9
    have hH : HT D cs A T O X H := hH
    refine W.widen (k := 0) (n := 0) (Nat.le_of_ble_eq_true rfl) (Nat.le_of_ble_eq_true rfl) ?_
    refine lv_if_ne (tgt := 19) hx hb dX11_leaves_13 (by decide) (fun c13 => ?_) (fun c13 => ?_)
    · skip
      have tc13 := f_ne (k := 0) (by decide) c13
      refine lv_aload_n hx hb dX11_leaves_19 rfl (lv_at hl 0 rfl) ?_
      refine tk_i hH hS hA (tr_V (n := 0) (As := []) hx hb hml hown hts hkb hH hOX hks hE hS hA (s_FW_openNow l D cs kf T O X a0 w hw gw ch gq t_a0 t_w t_ch (hO.sub (by decide))) kw_846 kw_848 ks_22 kw_1 kw_849 (by decide +kernel) ⟨Nat.le_of_ble_eq_true rfl, Nat.le_of_ble_eq_true rfl⟩ (HT.recv (ci := 11) hkb hH t_a0 (hO.no t_a0 (by decide)) rfl) rfl rfl hl.1 (Nat.le_of_ble_eq_true rfl) dX11_leaves_20 ⟨Nat.le_of_ble_eq_true rfl, Nat.le_of_ble_eq_true rfl⟩) (fun v20 u H locs hz9 hH hS => ?_)
      obtain ⟨rfl, l_v20, u_v20⟩ := hz9
      have hH : HT D cs A T O X H := hH
      refine W.widen (k := 0) (n := 0) (Nat.le_of_ble_eq_true rfl) (Nat.le_of_ble_eq_true rfl) ?_
      refine lv_istore_n (lv' := [(3, .int v20), (0, .ref a0), (1, .int x1), (2, .int x2)]) hx hb dX11_leaves_23 rfl hl (by decide) rfl (fun ls hl => ?_)
      refine lv_aload_n hx hb dX11_leaves_24 rfl (lv_at hl 1 rfl) ?_
      refine t_get (ci := 11) (lst := ft11 w ch) (C := RX11) (F := TX11) (N := 20) hx hb hts uX11 hown hkb hH t_a0 (hO.no t_a0 (by decide)) (fun _ h9 => h9) rfl rfl 14 (by decide) rfl kw_374 (fun _ h9 => h9) dX11_leaves_25 (fun v9 h9 => ?_)
      obtain ⟨v25, rfl, t_v25⟩ := h9
      refine lv_aload_n hx hb dX11_leaves_28 rfl (lv_at hl 1 rfl) ?_
      refine lv_iload_n hx hb dX11_leaves_29 rfl (lv_at hl 3 rfl) ?_
      refine tk_r hH hS hA (tr_V (n := 1) (As := [.int x2]) hx hb hml hown hts hkb hH hOX hks hE hS hA (s_FW_rowsOf l D cs kf T O X a0 w hw gw ch gq x2 t_a0 t_w t_ch (by omega) (by omega) (hO.sub (by decide))) kw_830 kw_832 ks_21 kw_1 kw_833 (by decide +kernel) ⟨Nat.le_of_ble_eq_true rfl, Nat.le_of_ble_eq_true rfl⟩ (HT.recv (ci := 11) hkb hH t_a0 (hO.no t_a0 (by decide)) rfl) rfl rfl hl.1 (Nat.le_of_ble_eq_true rfl) dX11_leaves_30 ⟨Nat.le_of_ble_eq_true rfl, Nat.le_of_ble_eq_true rfl⟩) (fun v30 u H locs hz9 hH hS => ?_)
      obtain ⟨hu9, t_v30⟩ := hz9
      have hu9 : u = (T, O, X) := hu9
      subst hu9
      have hH : HT D cs A T O X H := hH
      refine W.widen (k := 0) (n := 0) (Nat.le_of_ble_eq_true rfl) (Nat.le_of_ble_eq_true rfl) ?_
      refine lv_iload_n hx hb dX11_leaves_33 rfl (lv_at hl 0 rfl) ?_
      refine tk_i hH hS hA (tr_V (n := 2) (As := [.ref v30, .int v20]) hx hb hml hown hts hkb hH hOX hks hE hS hA (s_Ways_find l D cs kf T O X v25 v30 v20 t_v25 t_v30 (hO.sub (by decide))) kw_912 kw_913 kw_914 kw_9 kw_915 (by decide +kernel) ⟨Nat.le_of_ble_eq_true rfl, Nat.le_of_ble_eq_true rfl⟩ (HT.recv (ci := 10) hkb hH t_v25 (hO.no t_v25 (by decide)) rfl) rfl rfl hl.1 (Nat.le_of_ble_eq_true rfl) dX11_leaves_34 ⟨Nat.le_of_ble_eq_true rfl, Nat.le_of_ble_eq_true rfl⟩) (fun v34 u H locs hz9 hH hS => ?_)
      obtain ⟨rfl, l_v34, u_v34⟩ := hz9
      have hH : HT D cs A T O X H := hH
      refine W.widen (k := 0) (n := 0) (Nat.le_of_ble_eq_true rfl) (Nat.le_of_ble_eq_true rfl) ?_
      refine lv_if_ne (tgt := 43) hx hb dX11_leaves_37 (by decide) (fun c37 => ?_) (fun c37 => ?_)
      · skip
        have tc37 := f_ne (k := 0) (by decide) c37
        refine lv_iload_n hx hb dX11_leaves_43 rfl (lv_at hl 0 rfl) ?_
        refine lv_aload_n hx hb dX11_leaves_44 rfl (lv_at hl 1 rfl) ?_
        refine t_get (ci := 11) (lst := ft11 w ch) (C := RX11) (F := TX11) (N := 20) hx hb hts uX11 hown hkb hH t_a0 (hO.no t_a0 (by decide)) (fun _ h9 => h9) rfl rfl 14 (by decide) rfl kw_374 (fun _ h9 => h9) dX11_leaves_45 (fun v9 h9 => ?_)
        obtain ⟨v45, rfl, t_v45⟩ := h9
        refine tk_i hH hS hA (tr_V (n := 0) (As := []) hx hb hml hown hts hkb hH hOX hks hE hS hA (s_Ways_pathSet l D cs kf T O X v45 t_v45 (hO.sub (by decide))) kw_926 kw_927 kw_928 kw_9 kw_929 (by decide +kernel) ⟨Nat.le_of_ble_eq_true rfl, Nat.le_of_ble_eq_true rfl⟩ (HT.recv (ci := 10) hkb hH t_v45 (hO.no t_v45 (by decide)) rfl) rfl rfl hl.1 (Nat.le_of_ble_eq_true rfl) dX11_leaves_48 ⟨Nat.le_of_ble_eq_true rfl, Nat.le_of_ble_eq_true rfl⟩) (fun v48 u H locs hz9 hH hS => ?_)
        have hz9 : u = (T, O, X) := hz9
        subst hz9
        have hH : HT D cs A T O X H := hH
        refine W.widen (k := 0) (n := 0) (Nat.le_of_ble_eq_true rfl) (Nat.le_of_ble_eq_true rfl) ?_
        refine lv_aload_n hx hb dX11_leaves_51 rfl (lv_at hl 1 rfl) ?_
        refine t_get (ci := 11) (lst := ft11 w ch) (C := RX11) (F := TX11) (N := 20) hx hb hts uX11 hown hkb hH t_a0 (hO.no t_a0 (by decide)) (fun _ h9 => h9) rfl rfl 3 (by decide) rfl kw_363 (fun _ h9 => h9) dX11_leaves_52 (fun v9 h9 => ?_)
        have h9 : v9 = .ref w := h9
        subst h9
        refine tk_i hH hS hA (tr_V (n := 0) (As := []) hx hb hml hown hts hkb hH hOX hks hE hS hA (s_Wall_middles l D cs kf T O X w hw gw t_w (hO.sub (by decide))) kw_892 kw_683 kw_684 kw_5 kw_685 (by decide +kernel) ⟨Nat.le_of_ble_eq_true rfl, Nat.le_of_ble_eq_true rfl⟩ (HT.recv (ci := 9) hkb hH t_w.1 (hO.no t_w.1 (by decide)) rfl) rfl rfl hl.1 (Nat.le_of_ble_eq_true rfl) dX11_leaves_55 ⟨Nat.le_of_ble_eq_true rfl, Nat.le_of_ble_eq_true rfl⟩) (fun v55 u H locs hz9 hH hS => ?_)
        obtain ⟨rfl, l_v55, u_v55⟩ := hz9
        have hH : HT D cs A T O X H := hH
        refine W.widen (k := 0) (n := 0) (Nat.le_of_ble_eq_true rfl) (Nat.le_of_ble_eq_true rfl) ?_
        refine lv_iand hx hb dX11_leaves_58 ?_
        refine lv_topi (fun v58 ev58 => ?_)
        have tv58 : 0 ≤ v58.toInt ∧ v58.toInt ≤ v55.toInt := by rw [ev58]; exact and_r (by omega)
        refine lv_iconst (v := (-1)) hx hb dX11_leaves_59 (by decide) ?_
        refine lv_ixor hx hb dX11_leaves_60 ?_
        refine lv_topi (fun v60 ev60 => ?_)
        refine lv_iand hx hb dX11_leaves_61 ?_
        refine lv_topi (fun v61 ev61 => ?_)
        have tv61 : 0 ≤ v61.toInt ∧ v61.toInt ≤ v20.toInt := by rw [ev61]; exact and_l (by omega)
        refine lv_istore (lv' := [(4, .int v61), (3, .int v20), (0, .ref a0), (1, .int x1), (2, .int x2)]) hx hb dX11_leaves_62 hl (by decide) rfl (fun ls hl => ?_)
        refine lv_aload_n hx hb dX11_leaves_64 rfl (lv_at hl 2 rfl) ?_
        refine lv_iload_n hx hb dX11_leaves_65 rfl (lv_at hl 3 rfl) ?_
        refine tk_r hH hS hA (tr_V (n := 1) (As := [.int x1]) hx hb hml hown hts hkb hH hOX hks hE hS hA (s_FW_rowsOf l D cs kf T O X a0 w hw gw ch gq x1 t_a0 t_w t_ch (by omega) (by omega) (hO.sub (by decide))) kw_830 kw_832 ks_21 kw_1 kw_833 (by decide +kernel) ⟨Nat.le_of_ble_eq_true rfl, Nat.le_of_ble_eq_true rfl⟩ (HT.recv (ci := 11) hkb hH t_a0 (hO.no t_a0 (by decide)) rfl) rfl rfl hl.1 (Nat.le_of_ble_eq_true rfl) dX11_leaves_66 ⟨Nat.le_of_ble_eq_true rfl, Nat.le_of_ble_eq_true rfl⟩) (fun v66 u H locs hz9 hH hS => ?_)
        obtain ⟨hu9, t_v66⟩ := hz9
        have hu9 : u = (T, O, X) := hu9
        subst hu9
        have hH : HT D cs A T O X H := hH
        refine W.widen (k := 0) (n := 0) (Nat.le_of_ble_eq_true rfl) (Nat.le_of_ble_eq_true rfl) ?_
        refine lv_iload hx hb dX11_leaves_69 (lv_at hl 0 rfl) ?_
        refine tk_i hH hS hA (tr_V (n := 1) (As := [.int v61]) hx hb hml hown hts hkb hH hOX hks hE hS hA (s_Rows_getsUp l D cs kf T O X v66 v61 t_v66 (hO.sub (by decide))) kw_1059 kw_1060 kw_1061 kw_8 kw_1062 (by decide +kernel) ⟨Nat.le_of_ble_eq_true rfl, Nat.le_of_ble_eq_true rfl⟩ (HT.recv (ci := 5) hkb hH t_v66 (hO.no t_v66 (by decide)) rfl) rfl rfl hl.1 (Nat.le_of_ble_eq_true rfl) dX11_leaves_71 ⟨Nat.le_of_ble_eq_true rfl, Nat.le_of_ble_eq_true rfl⟩) (fun v71 u H locs hz9 hH hS => ?_)
        obtain ⟨rfl, l_v71, u_v71⟩ := hz9
        have hH : HT D cs A T O X H := hH
        refine W.widen (k := 0) (n := 0) (Nat.le_of_ble_eq_true rfl) (Nat.le_of_ble_eq_true rfl) ?_
        have J82 : ∀ (k82_0 : Int32) (H : Heap) (locs : List Loc) (ls : Array Slot), (0 ≤ k82_0.toInt) → (k82_0.toInt ≤ 1) → HT D cs A T O X H → va_S A s.heap H locs → lv_has ls 5 [] → W p l e { frames := 6, cells := 0, slots := 0, locals := 152 } s m [.ref a0, .int x1, .int x2].toArray below meth c H locs 0 0 (MQ below (Ti D cs (fun r u => u = (T, O, X) ∧ -5 ≤ r.toInt ∧ r.toInt ≤ 1) A) [.ref a0, .int x1, .int x2].toArray s 0 0 A) (F0 m 82 ls [.int k82_0]) := by
          intro k82_0 H locs ls l_k82_0 u_k82_0 hH hS hl
          exact te_i hx hb hr hlocks hH hS (⟨rfl, by omega, by omega⟩) dX11_leaves_82
        refine lv_if_eq (tgt := 81) hx hb dX11_leaves_74 (by decide) (fun c74 => ?_) (fun c74 => ?_)
        · skip
          have tc74 := f_eq (k := 0) (by decide) c74
          refine lv_iconst (v := 0) hx hb dX11_leaves_81 (by decide) ?_
          exact J82 0 _ _ _ (by decide) (by decide) hH hS (lv_sub hl [] rfl)
        · skip
          have tc74 := f_ne (k := 0) (by decide) c74
          refine lv_iconst (v := 1) hx hb dX11_leaves_77 (by decide) ?_
          refine lv_goto (tgt := 82) hx hb dX11_leaves_78 (by decide) ?_
          exact J82 1 _ _ _ (by decide) (by decide) hH hS (lv_sub hl [] rfl)
      · skip
        have tc37 := f_eq (k := 0) (by decide) c37
        refine lv_bipush (v := (-5)) hx hb dX11_leaves_40 (by decide) ?_
        exact te_i hx hb hr hlocks hH hS (⟨rfl, by decide, by decide⟩) dX11_leaves_42
    · skip
      have tc13 := f_eq (k := 0) (by decide) c13
      exact J16  _ _ _  hH hS (lv_sub hl [] rfl)
