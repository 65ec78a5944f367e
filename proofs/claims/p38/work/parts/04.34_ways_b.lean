set_option maxHeartbeats 4000000 in
set_option maxRecDepth 100000 in
theorem s_FW_way (l : Launch) (D : va_G) (cs : CS) (kf : KF) (T : TF) (O : List Nat) (X : va_W) (a0 w hw gw ch gq : Nat) (x1 : Int32) (x2 : Int32) (t_a0 : T a0 = some (21, w, ch)) (t_w : isW T w hw gw) (t_ch : T ch = some (10, gq, 0)) (hO : okO T O [1, 7, 12, 15, 16, 19, 20, 21]) : TK l D cs kf yX11_way cX11_way 3 (some (.int)) { frames := 6, cells := 0, slots := 0, locals := 152 } [.ref a0, .int x1, .int x2] T O X (Ti D cs (fun r u => u = (T, O, X))) := by
  refine tk_of (by decide) (Nat.le_of_ble_eq_true rfl) (fun p e s m below meth c ls A H locs hx hb hr hml hown hts hlocks hnm hkb hH hS hA hOX hks hE hl => ?_)
  have hown : s.vm.findClass RX11 = some m.cls := hown
  have hl : lv_has ls 3 [(0, .ref a0), (1, .int x1), (2, .int x2)] := hl
  have b1_w := t_w.2.1
  have b2_w := t_w.2.2
  refine lv_aload_n hx hb dX11_way_0 rfl (lv_at hl 0 rfl) ?_
  refine lv_iload_n hx hb dX11_way_1 rfl (lv_at hl 1 rfl) ?_
  refine tk_i hH hS hA (tr_V (n := 1) (As := [.int x1]) hx hb hml hown hts hkb hH hOX hks hE hS hA (s_FW_isGuide l D cs kf T O X a0 w hw gw ch gq x1 t_a0 t_w t_ch (hO.sub (by decide))) kw_794 kw_796 ks_20 kw_1 kw_797 (by decide +kernel) ⟨Nat.le_of_ble_eq_true rfl, Nat.le_of_ble_eq_true rfl⟩ (HT.recv (ci := 11) hkb hH t_a0 (hO.no t_a0 (by decide)) rfl) rfl rfl hl.1 (Nat.le_of_ble_eq_true rfl) dX11_way_2 ⟨Nat.le_of_ble_eq_true rfl, Nat.le_of_ble_eq_true rfl⟩) (fun v2 u H locs hz9 hH hS => ?_)
  obtain ⟨rfl, l_v2, u_v2, x_v20⟩ := hz9
  have hH : HT D cs A T O X H := hH
  refine W.widen (k := 0) (n := 0) (Nat.le_of_ble_eq_true rfl) (Nat.le_of_ble_eq_true rfl) ?_
  have J17 : ∀  (H : Heap) (locs : List Loc) (ls : Array Slot), HT D cs A T O X H → va_S A s.heap H locs → lv_has ls 3 [] → W p l e { frames := 6, cells := 0, slots := 0, locals := 152 } s m [.ref a0, .int x1, .int x2].toArray below meth c H locs 0 0 (MQ below (Ti D cs (fun r u => u = (T, O, X)) A) [.ref a0, .int x1, .int x2].toArray s 0 0 A) (F0 m 17 ls []) := by
    intro  H locs ls  hH hS hl
    refine lv_bipush (v := (-2)) hx hb dX11_way_17 (by decide) ?_
    exact te_i hx hb hr hlocks hH hS (rfl) dX11_way_19
  refine lv_if_eq (tgt := 17) hx hb dX11_way_5 (by decide) (fun c5 => ?_) (fun c5 => ?_)
  · skip
    have tc5 := f_eq (k := 0) (by decide) c5
    exact J17  _ _ _  hH hS (lv_sub hl [] rfl)
  · skip
    have tc5 := f_ne (k := 0) (by decide) c5
    refine lv_iload_n hx hb dX11_way_8 rfl (lv_at hl 2 rfl) ?_
    refine lv_bipush (v := 14) hx hb dX11_way_9 (by decide) ?_
    refine tk_i hH hS hA (tr_S (n := 2) (As := [.int x2, .int 14]) hx hb hml hown hts hkb hH hOX hks hE hS hA (s_FW_asksRow l D cs kf T O X x2 (14) (by decide) (by decide) (hO.sub (by decide))) kw_970 kw_971 kw_1 kw_972 (by decide +kernel) ⟨Nat.le_of_ble_eq_true rfl, Nat.le_of_ble_eq_true rfl⟩ rfl rfl hl.1 (Nat.le_of_ble_eq_true rfl) dX11_way_11 ⟨Nat.le_of_ble_eq_true rfl, Nat.le_of_ble_eq_true rfl⟩) (fun v11 u H locs hz9 hH hS => ?_)
    obtain ⟨rfl, l_v11, u_v11⟩ := hz9
    have hH : HT D cs A T O X H := hH
    refine W.widen (k := 0) (n := 0) (Nat.le_of_ble_eq_true rfl) (Nat.le_of_ble_eq_true rfl) ?_
    refine lv_if_ne (tgt := 20) hx hb dX11_way_14 (by decide) (fun c14 => ?_) (fun c14 => ?_)
    · skip
      have tc14 := f_ne (k := 0) (by decide) c14
      refine lv_aload_n hx hb dX11_way_20 rfl (lv_at hl 0 rfl) ?_
      refine t_get (ci := 11) (lst := ft11 w ch) (C := RX11) (F := TX11) (N := 20) hx hb hts uX11 hown hkb hH t_a0 (hO.no t_a0 (by decide)) (fun _ h9 => h9) rfl rfl 14 (by decide) rfl kw_374 (fun _ h9 => h9) dX11_way_21 (fun v9 h9 => ?_)
      obtain ⟨v21, rfl, t_v21⟩ := h9
      refine t_get (ci := 10) (lst := ft10 0 0) (C := RX10) (F := TX10) (N := 7) hx hb hts uX10 hown hkb hH t_v21 (hO.no t_v21 (by decide)) (fun _ h9 => h9) rfl rfl 1 (by decide) rfl kw_274 (fun _ h9 => h9) dX11_way_24 (fun v9 h9 => ?_)
      obtain ⟨v24, rfl, t_v24⟩ := h9
      refine lv_aload_n hx hb dX11_way_27 rfl (lv_at hl 0 rfl) ?_
      refine t_get (ci := 11) (lst := ft11 w ch) (C := RX11) (F := TX11) (N := 20) hx hb hts uX11 hown hkb hH t_a0 (hO.no t_a0 (by decide)) (fun _ h9 => h9) rfl rfl 14 (by decide) rfl kw_374 (fun _ h9 => h9) dX11_way_28 (fun v9 h9 => ?_)
      obtain ⟨v28, rfl, t_v28⟩ := h9
      refine lv_aload_n hx hb dX11_way_31 rfl (lv_at hl 0 rfl) ?_
      refine lv_iload_n hx hb dX11_way_32 rfl (lv_at hl 1 rfl) ?_
      refine tk_r hH hS hA (tr_V (n := 1) (As := [.int x1]) hx hb hml hown hts hkb hH hOX hks hE hS hA (s_FW_rowsOf l D cs kf T O X a0 w hw gw ch gq x1 t_a0 t_w t_ch (by omega) (by omega) (hO.sub (by decide))) kw_830 kw_832 ks_21 kw_1 kw_833 (by decide +kernel) ⟨Nat.le_of_ble_eq_true rfl, Nat.le_of_ble_eq_true rfl⟩ (HT.recv (ci := 11) hkb hH t_a0 (hO.no t_a0 (by decide)) rfl) rfl rfl hl.1 (Nat.le_of_ble_eq_true rfl) dX11_way_33 ⟨Nat.le_of_ble_eq_true rfl, Nat.le_of_ble_eq_true rfl⟩) (fun v33 u H locs hz9 hH hS => ?_)
      obtain ⟨hu9, t_v33⟩ := hz9
      have hu9 : u = (T, O, X) := hu9
      subst hu9
      have hH : HT D cs A T O X H := hH
      refine W.widen (k := 0) (n := 0) (Nat.le_of_ble_eq_true rfl) (Nat.le_of_ble_eq_true rfl) ?_
      refine lv_aload_n hx hb dX11_way_36 rfl (lv_at hl 0 rfl) ?_
      refine tk_i hH hS hA (tr_V (n := 0) (As := []) hx hb hml hown hts hkb hH hOX hks hE hS hA (s_FW_openNow l D cs kf T O X a0 w hw gw ch gq t_a0 t_w t_ch (hO.sub (by decide))) kw_846 kw_848 ks_22 kw_1 kw_849 (by decide +kernel) ⟨Nat.le_of_ble_eq_true rfl, Nat.le_of_ble_eq_true rfl⟩ (HT.recv (ci := 11) hkb hH t_a0 (hO.no t_a0 (by decide)) rfl) rfl rfl hl.1 (Nat.le_of_ble_eq_true rfl) dX11_way_37 ⟨Nat.le_of_ble_eq_true rfl, Nat.le_of_ble_eq_true rfl⟩) (fun v37 u H locs hz9 hH hS => ?_)
      obtain ⟨rfl, l_v37, u_v37⟩ := hz9
      have hH : HT D cs A T O X H := hH
      refine W.widen (k := 0) (n := 0) (Nat.le_of_ble_eq_true rfl) (Nat.le_of_ble_eq_true rfl) ?_
      refine tk_i hH hS hA (tr_V (n := 2) (As := [.ref v33, .int v37]) hx hb hml hown hts hkb hH hOX hks hE hS hA (s_Ways_find l D cs kf T O X v28 v33 v37 t_v28 t_v33 (hO.sub (by decide))) kw_912 kw_913 kw_914 kw_9 kw_915 (by decide +kernel) ⟨Nat.le_of_ble_eq_true rfl, Nat.le_of_ble_eq_true rfl⟩ (HT.recv (ci := 10) hkb hH t_v28 (hO.no t_v28 (by decide)) rfl) rfl rfl hl.1 (Nat.le_of_ble_eq_true rfl) dX11_way_40 ⟨Nat.le_of_ble_eq_true rfl, Nat.le_of_ble_eq_true rfl⟩) (fun v40 u H locs hz9 hH hS => ?_)
      obtain ⟨rfl, l_v40, u_v40⟩ := hz9
      have hH : HT D cs A T O X H := hH
      refine W.widen (k := 0) (n := 0) (Nat.le_of_ble_eq_true rfl) (Nat.le_of_ble_eq_true rfl) ?_
      refine lv_iload_n hx hb dX11_way_43 rfl (lv_at hl 2 rfl) ?_
      refine tk_i hH hS hA (tr_S (n := 3) (As := [.ref v24, .int v40, .int x2]) hx hb hml hown hts hkb hH hOX hks hE hS hA (s_FW_ofRow14 l D cs kf T O X v24 v40 x2 t_v24 (by omega) (by omega) (hO.sub (by decide))) kw_973 kw_974 kw_1 kw_975 (by decide +kernel) ⟨Nat.le_of_ble_eq_true rfl, Nat.le_of_ble_eq_true rfl⟩ rfl rfl hl.1 (Nat.le_of_ble_eq_true rfl) dX11_way_44 ⟨Nat.le_of_ble_eq_true rfl, Nat.le_of_ble_eq_true rfl⟩) (fun v44 u H locs hz9 hH hS => ?_)
      have hz9 : u = (T, O, X) := hz9
      subst hz9
      have hH : HT D cs A T O X H := hH
      refine W.widen (k := 0) (n := 0) (Nat.le_of_ble_eq_true rfl) (Nat.le_of_ble_eq_true rfl) ?_
      exact te_i hx hb hr hlocks hH hS (rfl) dX11_way_47
    · skip
      have tc14 := f_eq (k := 0) (by decide) c14
      exact J17  _ _ _  hH hS (lv_sub hl [] rfl)
set_option maxHeartbeats 4000000 in
set_option maxRecDepth 100000 in
theorem s_FW_ways (l : Launch) (D : va_G) (cs : CS) (kf : KF) (T : TF) (O : List Nat) (X : va_W) (a0 w hw gw ch gq : Nat) (x1 : Int32) (t_a0 : T a0 = some (21, w, ch)) (t_w : isW T w hw gw) (t_ch : T ch = some (10, gq, 0)) (hO : okO T O [1, 2, 7, 12, 15, 16, 19, 20, 21]) : TK l D cs kf yX11_ways cX11_ways 2 (some (.long)) { frames := 6, cells := 0, slots := 0, locals := 152 } [.ref a0, .int x1] T O X (Tl D cs (fun _ u => u = (T, O, X))) := by
  refine tk_of (by decide) (Nat.le_of_ble_eq_true rfl) (fun p e s m below meth c ls A H locs hx hb hr hml hown hts hlocks hnm hkb hH hS hA hOX hks hE hl => ?_)
  have hown : s.vm.findClass RX11 = some m.cls := hown
  have hl : lv_has ls 2 [(0, .ref a0), (1, .int x1)] := hl
  have b1_w := t_w.2.1
  have b2_w := t_w.2.2
  refine lv_aload_n hx hb dX11_ways_0 rfl (lv_at hl 0 rfl) ?_
  refine lv_iload_n hx hb dX11_ways_1 rfl (lv_at hl 1 rfl) ?_
  refine tk_i hH hS hA (tr_V (n := 1) (As := [.int x1]) hx hb hml hown hts hkb hH hOX hks hE hS hA (s_FW_isGuide l D cs kf T O X a0 w hw gw ch gq x1 t_a0 t_w t_ch (hO.sub (by decide))) kw_794 kw_796 ks_20 kw_1 kw_797 (by decide +kernel) ⟨Nat.le_of_ble_eq_true rfl, Nat.le_of_ble_eq_true rfl⟩ (HT.recv (ci := 11) hkb hH t_a0 (hO.no t_a0 (by decide)) rfl) rfl rfl hl.1 (Nat.le_of_ble_eq_true rfl) dX11_ways_2 ⟨Nat.le_of_ble_eq_true rfl, Nat.le_of_ble_eq_true rfl⟩) (fun v2 u H locs hz9 hH hS => ?_)
  obtain ⟨rfl, l_v2, u_v2, x_v20⟩ := hz9
  have hH : HT D cs A T O X H := hH
  refine W.widen (k := 0) (n := 0) (Nat.le_of_ble_eq_true rfl) (Nat.le_of_ble_eq_true rfl) ?_
  have J30 : ∀ (k30_0 : Int64) (H : Heap) (locs : List Loc) (ls : Array Slot), HT D cs A T O X H → va_S A s.heap H locs → lv_has ls 2 [] → W p l e { frames := 6, cells := 0, slots := 0, locals := 152 } s m [.ref a0, .int x1].toArray below meth c H locs 0 0 (MQ below (Tl D cs (fun _ u => u = (T, O, X)) A) [.ref a0, .int x1].toArray s 0 0 A) (F0 m 30 ls [.long k30_0]) := by
    intro k30_0 H locs ls  hH hS hl
    exact te_l hx hb hr hlocks hH hS rfl dX11_ways_30
  refine lv_if_eq (tgt := 27) hx hb dX11_ways_5 (by decide) (fun c5 => ?_) (fun c5 => ?_)
  · skip
    have tc5 := f_eq (k := 0) (by decide) c5
    refine lv_ldc2 hx hb hown (hts _ kw_988) dX11_ways_27 ?_
    exact J30 (-2) _ _ _  hH hS (lv_sub hl [] rfl)
  · skip
    have tc5 := f_ne (k := 0) (by decide) c5
    refine lv_aload_n hx hb dX11_ways_8 rfl (lv_at hl 0 rfl) ?_
    refine t_get (ci := 11) (lst := ft11 w ch) (C := RX11) (F := TX11) (N := 20) hx hb hts uX11 hown hkb hH t_a0 (hO.no t_a0 (by decide)) (fun _ h9 => h9) rfl rfl 14 (by decide) rfl kw_374 (fun _ h9 => h9) dX11_ways_9 (fun v9 h9 => ?_)
    obtain ⟨v9, rfl, t_v9⟩ := h9
    refine lv_aload_n hx hb dX11_ways_12 rfl (lv_at hl 0 rfl) ?_
    refine lv_iload_n hx hb dX11_ways_13 rfl (lv_at hl 1 rfl) ?_
    refine tk_r hH hS hA (tr_V (n := 1) (As := [.int x1]) hx hb hml hown hts hkb hH hOX hks hE hS hA (s_FW_rowsOf l D cs kf T O X a0 w hw gw ch gq x1 t_a0 t_w t_ch (by omega) (by omega) (hO.sub (by decide))) kw_830 kw_832 ks_21 kw_1 kw_833 (by decide +kernel) ⟨Nat.le_of_ble_eq_true rfl, Nat.le_of_ble_eq_true rfl⟩ (HT.recv (ci := 11) hkb hH t_a0 (hO.no t_a0 (by decide)) rfl) rfl rfl hl.1 (Nat.le_of_ble_eq_true rfl) dX11_ways_14 ⟨Nat.le_of_ble_eq_true rfl, Nat.le_of_ble_eq_true rfl⟩) (fun v14 u H locs hz9 hH hS => ?_)
    obtain ⟨hu9, t_v14⟩ := hz9
    have hu9 : u = (T, O, X) := hu9
    subst hu9
    have hH : HT D cs A T O X H := hH
    refine W.widen (k := 0) (n := 0) (Nat.le_of_ble_eq_true rfl) (Nat.le_of_ble_eq_true rfl) ?_
    refine lv_aload_n hx hb dX11_ways_17 rfl (lv_at hl 0 rfl) ?_
    refine tk_i hH hS hA (tr_V (n := 0) (As := []) hx hb hml hown hts hkb hH hOX hks hE hS hA (s_FW_openNow l D cs kf T O X a0 w hw gw ch gq t_a0 t_w t_ch (hO.sub (by decide))) kw_846 kw_848 ks_22 kw_1 kw_849 (by decide +kernel) ⟨Nat.le_of_ble_eq_true rfl, Nat.le_of_ble_eq_true rfl⟩ (HT.recv (ci := 11) hkb hH t_a0 (hO.no t_a0 (by decide)) rfl) rfl rfl hl.1 (Nat.le_of_ble_eq_true rfl) dX11_ways_18 ⟨Nat.le_of_ble_eq_true rfl, Nat.le_of_ble_eq_true rfl⟩) (fun v18 u H locs hz9 hH hS => ?_)
    obtain ⟨rfl, l_v18, u_v18⟩ := hz9
    have hH : HT D cs A T O X H := hH
    refine W.widen (k := 0) (n := 0) (Nat.le_of_ble_eq_true rfl) (Nat.le_of_ble_eq_true rfl) ?_
    refine tk_l hH hS hA (tr_V (n := 2) (As := [.ref v14, .int v18]) hx hb hml hown hts hkb hH hOX hks hE hS hA (s_Ways_howMany l D cs kf T O X v9 v14 v18 t_v9 t_v14 (hO.sub (by decide))) kw_980 kw_981 kw_982 kw_9 kw_983 (by decide +kernel) ⟨Nat.le_of_ble_eq_true rfl, Nat.le_of_ble_eq_true rfl⟩ (HT.recv (ci := 10) hkb hH t_v9 (hO.no t_v9 (by decide)) rfl) rfl rfl hl.1 (Nat.le_of_ble_eq_true rfl) dX11_ways_21 ⟨Nat.le_of_ble_eq_true rfl, Nat.le_of_ble_eq_true rfl⟩) (fun v21 u H locs hz9 hH hS => ?_)
    have hz9 : u = (T, O, X) := hz9
    subst hz9
    have hH : HT D cs A T O X H := hH
    refine W.widen (k := 0) (n := 0) (Nat.le_of_ble_eq_true rfl) (Nat.le_of_ble_eq_true rfl) ?_
    refine lv_goto (tgt := 30) hx hb dX11_ways_24 (by decide) ?_
    exact J30 v21 _ _ _  hH hS (lv_sub hl [] rfl)
set_option maxHeartbeats 4000000 in
set_option maxRecDepth 100000 in
theorem s_FW_parties (l : Launch) (D : va_G) (cs : CS) (kf : KF) (T : TF) (O : List Nat) (X : va_W) (a0 w hw gw ch gq : Nat) (x1 : Int32) (t_a0 : T a0 = some (21, w, ch)) (t_w : isW T w hw gw) (t_ch : T ch = some (10, gq, 0)) (hO : okO T O [1, 7, 11, 12, 15, 16, 19, 21]) : TK l D cs kf yX11_parties cX11_parties 2 (some (.int)) { frames := 6, cells := 0, slots := 0, locals := 156 } [.ref a0, .int x1] T O X (Ti D cs (fun r u => u = (T, O, X) ∧ -2 ≤ r.toInt ∧ r.toInt ≤ 99)) := by
  refine tk_of (by decide) (Nat.le_of_ble_eq_true rfl) (fun p e s m below meth c ls A H locs hx hb hr hml hown hts hlocks hnm hkb hH hS hA hOX hks hE hl => ?_)
  have hown : s.vm.findClass RX11 = some m.cls := hown
  have hl : lv_has ls 2 [(0, .ref a0), (1, .int x1)] := hl
  have b1_w := t_w.2.1
  have b2_w := t_w.2.2
  refine lv_aload_n hx hb dX11_parties_0 rfl (lv_at hl 0 rfl) ?_
  refine lv_iload_n hx hb dX11_parties_1 rfl (lv_at hl 1 rfl) ?_
  refine tk_i hH hS hA (tr_V (n := 1) (As := [.int x1]) hx hb hml hown hts hkb hH hOX hks hE hS hA (s_FW_isGuide l D cs kf T O X a0 w hw gw ch gq x1 t_a0 t_w t_ch (hO.sub (by decide))) kw_794 kw_796 ks_20 kw_1 kw_797 (by decide +kernel) ⟨Nat.le_of_ble_eq_true rfl, Nat.le_of_ble_eq_true rfl⟩ (HT.recv (ci := 11) hkb hH t_a0 (hO.no t_a0 (by decide)) rfl) rfl rfl hl.1 (Nat.le_of_ble_eq_true rfl) dX11_parties_2 ⟨Nat.le_of_ble_eq_true rfl, Nat.le_of_ble_eq_true rfl⟩) (fun v2 u H locs hz9 hH hS => ?_)
  obtain ⟨rfl, l_v2, u_v2, x_v20⟩ := hz9
  have hH : HT D cs A T O X H := hH
  refine W.widen (k := 0) (n := 0) (Nat.le_of_ble_eq_true rfl) (Nat.le_of_ble_eq_true rfl) ?_
  have J36 : ∀ (k36_0 : Int32) (H : Heap) (locs : List Loc) (ls : Array Slot), (-2 ≤ k36_0.toInt) → (k36_0.toInt ≤ 99) → HT D cs A T O X H → va_S A s.heap H locs → lv_has ls 2 [] → W p l e { frames := 6, cells := 0, slots := 0, locals := 156 } s m [.ref a0, .int x1].toArray below meth c H locs 0 0 (MQ below (Ti D cs (fun r u => u = (T, O, X) ∧ -2 ≤ r.toInt ∧ r.toInt ≤ 99) A) [.ref a0, .int x1].toArray s 0 0 A) (F0 m 36 ls [.int k36_0]) := by
    intro k36_0 H locs ls l_k36_0 u_k36_0 hH hS hl
    exact te_i hx hb hr hlocks hH hS (⟨rfl, by omega, by omega⟩) dX11_parties_36
  refine lv_if_eq (tgt := 34) hx hb dX11_parties_5 (by decide) (fun c5 => ?_) (fun c5 => ?_)
  · skip
    have tc5 := f_eq (k := 0) (by decide) c5
    refine lv_bipush (v := (-2)) hx hb dX11_parties_34 (by decide) ?_
    exact J36 (-2) _ _ _ (by decide) (by decide) hH hS (lv_sub hl [] rfl)
  · skip
    have tc5 := f_ne (k := 0) (by decide) c5
    refine lv_aload_n hx hb dX11_parties_8 rfl (lv_at hl 0 rfl) ?_
    refine t_get (ci := 11) (lst := ft11 w ch) (C := RX11) (F := TX11) (N := 20) hx hb hts uX11 hown hkb hH t_a0 (hO.no t_a0 (by decide)) (fun _ h9 => h9) rfl rfl 15 (by decide) rfl kw_375 (fun _ h9 => h9) dX11_parties_9 (fun v9 h9 => ?_)
    obtain ⟨v9, rfl, t_v9⟩ := h9
    refine lv_aload_n hx hb dX11_parties_12 rfl (lv_at hl 0 rfl) ?_
    refine lv_iload_n hx hb dX11_parties_13 rfl (lv_at hl 1 rfl) ?_
    refine tk_r hH hS hA (tr_V (n := 1) (As := [.int x1]) hx hb hml hown hts hkb hH hOX hks hE hS hA (s_FW_rowsOf l D cs kf T O X a0 w hw gw ch gq x1 t_a0 t_w t_ch (by omega) (by omega) (hO.sub (by decide))) kw_830 kw_832 ks_21 kw_1 kw_833 (by decide +kernel) ⟨Nat.le_of_ble_eq_true rfl, Nat.le_of_ble_eq_true rfl⟩ (HT.recv (ci := 11) hkb hH t_a0 (hO.no t_a0 (by decide)) rfl) rfl rfl hl.1 (Nat.le_of_ble_eq_true rfl) dX11_parties_14 ⟨Nat.le_of_ble_eq_true rfl, Nat.le_of_ble_eq_true rfl⟩) (fun v14 u H locs hz9 hH hS => ?_)
    obtain ⟨hu9, t_v14⟩ := hz9
    have hu9 : u = (T, O, X) := hu9
    subst hu9
    have hH : HT D cs A T O X H := hH
    refine W.widen (k := 0) (n := 0) (Nat.le_of_ble_eq_true rfl) (Nat.le_of_ble_eq_true rfl) ?_
    refine lv_aload_n hx hb dX11_parties_17 rfl (lv_at hl 0 rfl) ?_
    refine tk_i hH hS hA (tr_V (n := 0) (As := []) hx hb hml hown hts hkb hH hOX hks hE hS hA (s_FW_openNow l D cs kf T O X a0 w hw gw ch gq t_a0 t_w t_ch (hO.sub (by decide))) kw_846 kw_848 ks_22 kw_1 kw_849 (by decide +kernel) ⟨Nat.le_of_ble_eq_true rfl, Nat.le_of_ble_eq_true rfl⟩ (HT.recv (ci := 11) hkb hH t_a0 (hO.no t_a0 (by decide)) rfl) rfl rfl hl.1 (Nat.le_of_ble_eq_true rfl) dX11_parties_18 ⟨Nat.le_of_ble_eq_true rfl, Nat.le_of_ble_eq_true rfl⟩) (fun v18 u H locs hz9 hH hS => ?_)
    obtain ⟨rfl, l_v18, u_v18⟩ := hz9
    have hH : HT D cs A T O X H := hH
    refine W.widen (k := 0) (n := 0) (Nat.le_of_ble_eq_true rfl) (Nat.le_of_ble_eq_true rfl) ?_
    refine lv_aload_n hx hb dX11_parties_21 rfl (lv_at hl 0 rfl) ?_
    refine t_get (ci := 11) (lst := ft11 w ch) (C := RX11) (F := TX11) (N := 20) hx hb hts uX11 hown hkb hH t_a0 (hO.no t_a0 (by decide)) (fun _ h9 => h9) rfl rfl 3 (by decide) rfl kw_363 (fun _ h9 => h9) dX11_parties_22 (fun v9 h9 => ?_)
    have h9 : v9 = .ref w := h9
    subst h9
    refine tk_i hH hS hA (tr_V (n := 0) (As := []) hx hb hml hown hts hkb hH hOX hks hE hS hA (s_Wall_middles l D cs kf T O X w hw gw t_w (hO.sub (by decide))) kw_892 kw_683 kw_684 kw_5 kw_685 (by decide +kernel) ⟨Nat.le_of_ble_eq_true rfl, Nat.le_of_ble_eq_true rfl⟩ (HT.recv (ci := 9) hkb hH t_w.1 (hO.no t_w.1 (by decide)) rfl) rfl rfl hl.1 (Nat.le_of_ble_eq_true rfl) dX11_parties_25 ⟨Nat.le_of_ble_eq_true rfl, Nat.le_of_ble_eq_true rfl⟩) (fun v25 u H locs hz9 hH hS => ?_)
    obtain ⟨rfl, l_v25, u_v25⟩ := hz9
    have hH : HT D cs A T O X H := hH
    refine W.widen (k := 0) (n := 0) (Nat.le_of_ble_eq_true rfl) (Nat.le_of_ble_eq_true rfl) ?_
    refine tk_i hH hS hA (tr_V (n := 3) (As := [.ref v14, .int v18, .int v25]) hx hb hml hown hts hkb hH hOX hks hE hS hA (s_Cut_fewest l D cs kf T O X v9 v14 v18 v25 t_v9 t_v14 (hO.sub (by decide))) kw_1014 kw_1015 kw_1016 kw_10 kw_1017 (by decide +kernel) ⟨Nat.le_of_ble_eq_true rfl, Nat.le_of_ble_eq_true rfl⟩ (HT.recv (ci := 1) hkb hH t_v9 (hO.no t_v9 (by decide)) rfl) rfl rfl hl.1 (Nat.le_of_ble_eq_true rfl) dX11_parties_28 ⟨Nat.le_of_ble_eq_true rfl, Nat.le_of_ble_eq_true rfl⟩) (fun v28 u H locs hz9 hH hS => ?_)
    obtain ⟨rfl, l_v28, u_v28⟩ := hz9
    have hH : HT D cs A T O X H := hH
    refine W.widen (k := 0) (n := 0) (Nat.le_of_ble_eq_true rfl) (Nat.le_of_ble_eq_true rfl) ?_
    refine lv_goto (tgt := 36) hx hb dX11_parties_31 (by decide) ?_
    exact J36 v28 _ _ _ (by omega) (by omega) hH hS (lv_sub hl [] rfl)
set_option maxHeartbeats 4000000 in
set_option maxRecDepth 100000 in
theorem s_FW_shut (l : Launch) (D : va_G) (cs : CS) (kf : KF) (T : TF) (O : List Nat) (X : va_W) (a0 w hw gw ch gq : Nat) (x1 : Int32) (x2 : Int32) (t_a0 : T a0 = some (21, w, ch)) (t_w : isW T w hw gw) (t_ch : T ch = some (10, gq, 0)) (hO : okO T O [1, 7, 11, 12, 15, 16, 19, 21]) : TK l D cs kf yX11_shut cX11_shut 4 (some (.int)) { frames := 7, cells := 0, slots := 0, locals := 182 } [.ref a0, .int x1, .int x2] T O X (Ti D cs (fun r u => u = (T, O, X) ∧ -2 ≤ r.toInt ∧ r.toInt ≤ 16383)) := by
  refine tk_of (by decide) (Nat.le_of_ble_eq_true rfl) (fun p e s m below meth c ls A H locs hx hb hr hml hown hts hlocks hnm hkb hH hS hA hOX hks hE hl => ?_)
  have hown : s.vm.findClass RX11 = some m.cls := hown
  have hl : lv_has ls 4 [(0, .ref a0), (1, .int x1), (2, .int x2)] := hl
  have b1_w := t_w.2.1
  have b2_w := t_w.2.2
  refine lv_aload_n hx hb dX11_shut_0 rfl (lv_at hl 0 rfl) ?_
  refine lv_iload_n hx hb dX11_shut_1 rfl (lv_at hl 1 rfl) ?_
  refine tk_i hH hS hA (tr_V (n := 1) (As := [.int x1]) hx hb hml hown hts hkb hH hOX hks hE hS hA (s_FW_isGuide l D cs kf T O X a0 w hw gw ch gq x1 t_a0 t_w t_ch (hO.sub (by decide))) kw_794 kw_796 ks_20 kw_1 kw_797 (by decide +kernel) ⟨Nat.le_of_ble_eq_true rfl, Nat.le_of_ble_eq_true rfl⟩ (HT.recv (ci := 11) hkb hH t_a0 (hO.no t_a0 (by decide)) rfl) rfl rfl hl.1 (Nat.le_of_ble_eq_true rfl) dX11_shut_2 ⟨Nat.le_of_ble_eq_true rfl, Nat.le_of_ble_eq_true rfl⟩) (fun v2 u H locs hz9 hH hS => ?_)
  obtain ⟨rfl, l_v2, u_v2, x_v20⟩ := hz9
  have hH : HT D cs A T O X H := hH
  refine W.widen (k := 0) (n := 0) (Nat.le_of_ble_eq_true rfl) (Nat.le_of_ble_eq_true rfl) ?_
  have J17 : ∀  (H : Heap) (locs : List Loc) (ls : Array Slot), HT D cs A T O X H → va_S A s.heap H locs → lv_has ls 4 [] → W p l e { frames := 7, cells := 0, slots := 0, locals := 182 } s m [.ref a0, .int x1, .int x2].toArray below meth c H locs 0 0 (MQ below (Ti D cs (fun r u => u = (T, O, X) ∧ -2 ≤ r.toInt ∧ r.toInt ≤ 16383) A) [.ref a0, .int x1, .int x2].toArray s 0 0 A) (F0 m 17 ls []) := by
    intro  H locs ls  hH hS hl
    refine lv_bipush (v := (-2)) hx hb dX11_shut_17 (by decide) ?_
    exact te_i hx hb hr hlocks hH hS (⟨rfl, by decide, by decide⟩) dX11_shut_19
  refine lv_if_eq (tgt := 17) hx hb dX11_shut_5 (by decide) (fun c5 => ?_) (fun c5 => ?_)
  · skip
    have tc5 := f_eq (k := 0) (by decide) c5
    exact J17  _ _ _  hH hS (lv_sub hl [] rfl)
  · skip
    have tc5 := f_ne (k := 0) (by decide) c5
    refine lv_iload_n hx hb dX11_shut_8 rfl (lv_at hl 2 rfl) ?_
    refine lv_if_lt (tgt := 17) hx hb dX11_shut_9 (by decide) (fun c9 => ?_) (fun c9 => ?_)
    · skip
      have tc9 := f_lt (k := 0) (by decide) c9
      exact J17  _ _ _  hH hS (lv_sub hl [] rfl)
    · skip
      have tc9 := f_nlt (k := 0) (by decide) c9
      refine lv_iload_n hx hb dX11_shut_12 rfl (lv_at hl 2 rfl) ?_
      refine lv_iconst (v := 1) hx hb dX11_shut_13 (by decide) ?_
      refine lv_icmp_le (tgt := 20) hx hb dX11_shut_14 (by decide) (fun c14 => ?_) (fun c14 => ?_)
      · skip
        have tc14 := f_le (k := 1) (by decide) c14
        refine lv_aload_n hx hb dX11_shut_20 rfl (lv_at hl 0 rfl) ?_
        refine t_get (ci := 11) (lst := ft11 w ch) (C := RX11) (F := TX11) (N := 20) hx hb hts uX11 hown hkb hH t_a0 (hO.no t_a0 (by decide)) (fun _ h9 => h9) rfl rfl 15 (by decide) rfl kw_375 (fun _ h9 => h9) dX11_shut_21 (fun v9 h9 => ?_)
        obtain ⟨v21, rfl, t_v21⟩ := h9
        refine lv_aload_n hx hb dX11_shut_24 rfl (lv_at hl 0 rfl) ?_
        refine lv_iload_n hx hb dX11_shut_25 rfl (lv_at hl 1 rfl) ?_
        refine tk_r hH hS hA (tr_V (n := 1) (As := [.int x1]) hx hb hml hown hts hkb hH hOX hks hE hS hA (s_FW_rowsOf l D cs kf T O X a0 w hw gw ch gq x1 t_a0 t_w t_ch (by omega) (by omega) (hO.sub (by decide))) kw_830 kw_832 ks_21 kw_1 kw_833 (by decide +kernel) ⟨Nat.le_of_ble_eq_true rfl, Nat.le_of_ble_eq_true rfl⟩ (HT.recv (ci := 11) hkb hH t_a0 (hO.no t_a0 (by decide)) rfl) rfl rfl hl.1 (Nat.le_of_ble_eq_true rfl) dX11_shut_26 ⟨Nat.le_of_ble_eq_true rfl, Nat.le_of_ble_eq_true rfl⟩) (fun v26 u H locs hz9 hH hS => ?_)
        obtain ⟨hu9, t_v26⟩ := hz9
        have hu9 : u = (T, O, X) := hu9
        subst hu9
        have hH : HT D cs A T O X H := hH
        refine W.widen (k := 0) (n := 0) (Nat.le_of_ble_eq_true rfl) (Nat.le_of_ble_eq_true rfl) ?_
        refine lv_aload_n hx hb dX11_shut_29 rfl (lv_at hl 0 rfl) ?_
        refine tk_i hH hS hA (tr_V (n := 0) (As := []) hx hb hml hown hts hkb hH hOX hks hE hS hA (s_FW_openNow l D cs kf T O X a0 w hw gw ch gq t_a0 t_w t_ch (hO.sub (by decide))) kw_846 kw_848 ks_22 kw_1 kw_849 (by decide +kernel) ⟨Nat.le_of_ble_eq_true rfl, Nat.le_of_ble_eq_true rfl⟩ (HT.recv (ci := 11) hkb hH t_a0 (hO.no t_a0 (by decide)) rfl) rfl rfl hl.1 (Nat.le_of_ble_eq_true rfl) dX11_shut_30 ⟨Nat.le_of_ble_eq_true rfl, Nat.le_of_ble_eq_true rfl⟩) (fun v30 u H locs hz9 hH hS => ?_)
        obtain ⟨rfl, l_v30, u_v30⟩ := hz9
        have hH : HT D cs A T O X H := hH
        refine W.widen (k := 0) (n := 0) (Nat.le_of_ble_eq_true rfl) (Nat.le_of_ble_eq_true rfl) ?_
        refine tk_i hH hS hA (tr_V (n := 2) (As := [.ref v26, .int v30]) hx hb hml hown hts hkb hH hOX hks hE hS hA (s_Cut_leastSet l D cs kf T O X v21 v26 v30 t_v21 t_v26 (hO.sub (by decide))) kw_1044 kw_1045 kw_1046 kw_10 kw_1047 (by decide +kernel) ⟨Nat.le_of_ble_eq_true rfl, Nat.le_of_ble_eq_true rfl⟩ (HT.recv (ci := 1) hkb hH t_v21 (hO.no t_v21 (by decide)) rfl) rfl rfl hl.1 (Nat.le_of_ble_eq_true rfl) dX11_shut_33 ⟨Nat.le_of_ble_eq_true rfl, Nat.le_of_ble_eq_true rfl⟩) (fun v33 u H locs hz9 hH hS => ?_)
        obtain ⟨rfl, l_v33, u_v33⟩ := hz9
        have hH : HT D cs A T O X H := hH
        refine W.widen (k := 0) (n := 0) (Nat.le_of_ble_eq_true rfl) (Nat.le_of_ble_eq_true rfl) ?_
        refine lv_istore_n (lv' := [(3, .int v33), (0, .ref a0), (1, .int x1), (2, .int x2)]) hx hb dX11_shut_36 rfl hl (by decide) rfl (fun ls hl => ?_)
        refine lv_iload_n hx hb dX11_shut_37 rfl (lv_at hl 0 rfl) ?_
        refine lv_iconst (v := (-1)) hx hb dX11_shut_38 (by decide) ?_
        have J55 : ∀ (k55_0 : Int32) (H : Heap) (locs : List Loc) (ls : Array Slot), (-1 ≤ k55_0.toInt) → (k55_0.toInt ≤ 16383) → HT D cs A T O X H → va_S A s.heap H locs → lv_has ls 4 [] → W p l e { frames := 7, cells := 0, slots := 0, locals := 182 } s m [.ref a0, .int x1, .int x2].toArray below meth c H locs 0 0 (MQ below (Ti D cs (fun r u => u = (T, O, X) ∧ -2 ≤ r.toInt ∧ r.toInt ≤ 16383) A) [.ref a0, .int x1, .int x2].toArray s 0 0 A) (F0 m 55 ls [.int k55_0]) := by
          intro k55_0 H locs ls l_k55_0 u_k55_0 hH hS hl
          exact te_i hx hb hr hlocks hH hS (⟨rfl, by omega, by omega⟩) dX11_shut_55
        have J47 : ∀  (H : Heap) (locs : List Loc) (ls : Array Slot), HT D cs A T O X H → va_S A s.heap H locs → lv_has ls 4 [(3, .int v33)] → W p l e { frames := 7, cells := 0, slots := 0, locals := 182 } s m [.ref a0, .int x1, .int x2].toArray below meth c H locs 0 0 (MQ below (Ti D cs (fun r u => u = (T, O, X) ∧ -2 ≤ r.toInt ∧ r.toInt ≤ 16383) A) [.ref a0, .int x1, .int x2].toArray s 0 0 A) (F0 m 47 ls []) := by
          intro  H locs ls  hH hS hl
          refine lv_iload_n hx hb dX11_shut_47 rfl (lv_at hl 0 rfl) ?_
          refine lv_goto (tgt := 55) hx hb dX11_shut_48 (by decide) ?_
          exact J55 v33 _ _ _ (by omega) (by omega) hH hS (lv_sub hl [] rfl)
        refine lv_icmp_eq (tgt := 47) hx hb dX11_shut_39 (by decide) (fun c39 => ?_) (fun c39 => ?_)
        · skip
          have tc39 := f_eq (k := -1) (by decide) c39
          exact J47  _ _ _  hH hS (lv_sub hl [0] rfl)
        · skip
          have tc39 := f_ne (k := -1) (by decide) c39
          refine lv_iload_n hx hb dX11_shut_42 rfl (lv_at hl 3 rfl) ?_
          refine lv_iconst (v := 1) hx hb dX11_shut_43 (by decide) ?_
          refine lv_icmp_ne (tgt := 51) hx hb dX11_shut_44 (by decide) (fun c44 => ?_) (fun c44 => ?_)
          · skip
            have tc44 := f_ne (k := 1) (by decide) c44
            refine lv_iload_n hx hb dX11_shut_51 rfl (lv_at hl 0 rfl) ?_
            refine tk_i hH hS hA (tr_S (n := 1) (As := [.int v33]) hx hb hml hown hts hkb hH hOX hks hE hS hA (s_bitCount l D cs kf T O X v33  (hO.sub (by decide))) kw_893 kw_692 kw_20 kw_693 (by decide +kernel) ⟨Nat.le_of_ble_eq_true rfl, Nat.le_of_ble_eq_true rfl⟩ rfl rfl hl.1 (Nat.le_of_ble_eq_true rfl) dX11_shut_52 ⟨Nat.le_of_ble_eq_true rfl, Nat.le_of_ble_eq_true rfl⟩) (fun v52 u H locs hz9 hH hS => ?_)
            obtain ⟨rfl, l_v52, u_v52⟩ := hz9
            have hH : HT D cs A T O X H := hH
            refine W.widen (k := 0) (n := 0) (Nat.le_of_ble_eq_true rfl) (Nat.le_of_ble_eq_true rfl) ?_
            exact J55 v52 _ _ _ (by omega) (by omega) hH hS (lv_sub hl [] rfl)
          · skip
            have tc44 := f_eq (k := 1) (by decide) c44
            exact J47  _ _ _  hH hS (lv_sub hl [0] rfl)
      · skip
        have tc14 := f_nle (k := 1) (by decide) c14
        exact J17  _ _ _  hH hS (lv_sub hl [] rfl)
set_option maxHeartbeats 4000000 in
set_option maxRecDepth 100000 in
theorem s_FW_needs (l : Launch) (D : va_G) (cs : CS) (kf : KF) (T : TF) (O : List Nat) (X : va_W) (a0 w hw gw ch gq : Nat) (x1 : Int32) (x2 : Int32) (t_a0 : T a0 = some (21, w, ch)) (t_w : isW T w hw gw) (t_ch : T ch = some (10, gq, 0)) (l_x1 : 0 ≤ x1.toInt) (u_x1 : x1.toInt < gw) (hO : okO T O [1, 7, 12, 15, 16, 19, 21]) : TK l D cs kf yX11_needs cX11_needs 5 (some (.boolean)) { frames := 6, cells := 0, slots := 0, locals := 150 } [.ref a0, .int x1, .int x2] T O X (Ti D cs (fun r u => u = (T, O, X) ∧ 0 ≤ r.toInt ∧ r.toInt ≤ 1)) := by
  refine tk_of (by decide) (Nat.le_of_ble_eq_true rfl) (fun p e s m below meth c ls A H locs hx hb hr hml hown hts hlocks hnm hkb hH hS hA hOX hks hE hl => ?_)
  have hown : s.vm.findClass RX11 = some m.cls := hown
  have hl : lv_has ls 5 [(0, .ref a0), (1, .int x1), (2, .int x2)] := hl
  have b1_w := t_w.2.1
  have b2_w := t_w.2.2
  refine lv_aload_n hx hb dX11_needs_0 rfl (lv_at hl 0 rfl) ?_
  refine tk_i hH hS hA (tr_V (n := 0) (As := []) hx hb hml hown hts hkb hH hOX hks hE hS hA (s_FW_openNow l D cs kf T O X a0 w hw gw ch gq t_a0 t_w t_ch (hO.sub (by decide))) kw_846 kw_848 ks_22 kw_1 kw_849 (by decide +kernel) ⟨Nat.le_of_ble_eq_true rfl, Nat.le_of_ble_eq_true rfl⟩ (HT.recv (ci := 11) hkb hH t_a0 (hO.no t_a0 (by decide)) rfl) rfl rfl hl.1 (Nat.le_of_ble_eq_true rfl) dX11_needs_1 ⟨Nat.le_of_ble_eq_true rfl, Nat.le_of_ble_eq_true rfl⟩) (fun v1 u H locs hz9 hH hS => ?_)
  obtain ⟨rfl, l_v1, u_v1⟩ := hz9
  have hH : HT D cs A T O X H := hH
  refine W.widen (k := 0) (n := 0) (Nat.le_of_ble_eq_true rfl) (Nat.le_of_ble_eq_true rfl) ?_
  refine lv_istore_n (lv' := [(3, .int v1), (0, .ref a0), (1, .int x1), (2, .int x2)]) hx hb dX11_needs_4 rfl hl (by decide) rfl (fun ls hl => ?_)
  refine lv_iload_n hx hb dX11_needs_5 rfl (lv_at hl 0 rfl) ?_
  refine lv_aload_n hx hb dX11_needs_6 rfl (lv_at hl 1 rfl) ?_
  refine t_get (ci := 11) (lst := ft11 w ch) (C := RX11) (F := TX11) (N := 20) hx hb hts uX11 hown hkb hH t_a0 (hO.no t_a0 (by decide)) (fun _ h9 => h9) rfl rfl 3 (by decide) rfl kw_363 (fun _ h9 => h9) dX11_needs_7 (fun v9 h9 => ?_)
  have h9 : v9 = .ref w := h9
  subst h9
  refine tk_i hH hS hA (tr_V (n := 0) (As := []) hx hb hml hown hts hkb hH hOX hks hE hS hA (s_Wall_middles l D cs kf T O X w hw gw t_w (hO.sub (by decide))) kw_892 kw_683 kw_684 kw_5 kw_685 (by decide +kernel) ⟨Nat.le_of_ble_eq_true rfl, Nat.le_of_ble_eq_true rfl⟩ (HT.recv (ci := 9) hkb hH t_w.1 (hO.no t_w.1 (by decide)) rfl) rfl rfl hl.1 (Nat.le_of_ble_eq_true rfl) dX11_needs_10 ⟨Nat.le_of_ble_eq_true rfl, Nat.le_of_ble_eq_true rfl⟩) (fun v10 u H locs hz9 hH hS => ?_)
  obtain ⟨rfl, l_v10, u_v10⟩ := hz9
  have hH : HT D cs A T O X H := hH
  refine W.widen (k := 0) (n := 0) (Nat.le_of_ble_eq_true rfl) (Nat.le_of_ble_eq_true rfl) ?_
  refine lv_iand hx hb dX11_needs_13 ?_
  refine lv_topi (fun v13 ev13 => ?_)
  have tv13 : 0 ≤ v13.toInt ∧ v13.toInt ≤ v1.toInt := by rw [ev13]; exact and_l (by omega)
  have ttv13 : 0 ≤ v13.toInt ∧ v13.toInt ≤ v10.toInt := by rw [ev13]; exact and_r (by omega)
  refine lv_iload_n hx hb dX11_needs_14 rfl (lv_at hl 3 rfl) ?_
  refine lv_ishr hx hb dX11_needs_15 ?_
  refine lv_topi (fun v15 ev15 => ?_)
  have tv15 : 0 ≤ v15.toInt ∧ v15.toInt ≤ v13.toInt := by rw [ev15]; exact shr_b (by omega)
  refine lv_iconst (v := 1) hx hb dX11_needs_16 (by decide) ?_
  refine lv_iand hx hb dX11_needs_17 ?_
  refine lv_topi (fun v17 ev17 => ?_)
  have tv17 : 0 ≤ v17.toInt ∧ v17.toInt ≤ 1 := by rw [ev17]; exact and_r (by decide)
  refine lv_if_ne (tgt := 23) hx hb dX11_needs_18 (by decide) (fun c18 => ?_) (fun c18 => ?_)
  · skip
    have tc18 := f_ne (k := 0) (by decide) c18
    refine lv_aload_n hx hb dX11_needs_23 rfl (lv_at hl 1 rfl) ?_
    refine lv_iload_n hx hb dX11_needs_24 rfl (lv_at hl 2 rfl) ?_
    refine tk_r hH hS hA (tr_V (n := 1) (As := [.int x1]) hx hb hml hown hts hkb hH hOX hks hE hS hA (s_FW_rowsOf l D cs kf T O X a0 w hw gw ch gq x1 t_a0 t_w t_ch (by omega) (by omega) (hO.sub (by decide))) kw_830 kw_832 ks_21 kw_1 kw_833 (by decide +kernel) ⟨Nat.le_of_ble_eq_true rfl, Nat.le_of_ble_eq_true rfl⟩ (HT.recv (ci := 11) hkb hH t_a0 (hO.no t_a0 (by decide)) rfl) rfl rfl hl.1 (Nat.le_of_ble_eq_true rfl) dX11_needs_25 ⟨Nat.le_of_ble_eq_true rfl, Nat.le_of_ble_eq_true rfl⟩) (fun v25 u H locs hz9 hH hS => ?_)
    obtain ⟨hu9, t_v25⟩ := hz9
    have hu9 : u = (T, O, X) := hu9
    subst hu9
    have hH : HT D cs A T O X H := hH
    refine W.widen (k := 0) (n := 0) (Nat.le_of_ble_eq_true rfl) (Nat.le_of_ble_eq_true rfl) ?_
    refine lv_astore (lv' := [(4, .ref v25), (3, .int v1), (0, .ref a0), (1, .int x1), (2, .int x2)]) hx hb dX11_needs_28 hl (by decide) rfl (fun ls hl => ?_)
    refine lv_aload hx hb dX11_needs_30 (lv_at hl 0 rfl) ?_
    refine lv_iload_n hx hb dX11_needs_32 rfl (lv_at hl 1 rfl) ?_
    refine tk_i hH hS hA (tr_V (n := 1) (As := [.int v1]) hx hb hml hown hts hkb hH hOX hks hE hS hA (s_Rows_getsUp l D cs kf T O X v25 v1 t_v25 (hO.sub (by decide))) kw_1059 kw_1060 kw_1061 kw_8 kw_1062 (by decide +kernel) ⟨Nat.le_of_ble_eq_true rfl, Nat.le_of_ble_eq_true rfl⟩ (HT.recv (ci := 5) hkb hH t_v25 (hO.no t_v25 (by decide)) rfl) rfl rfl hl.1 (Nat.le_of_ble_eq_true rfl) dX11_needs_33 ⟨Nat.le_of_ble_eq_true rfl, Nat.le_of_ble_eq_true rfl⟩) (fun v33 u H locs hz9 hH hS => ?_)
    obtain ⟨rfl, l_v33, u_v33⟩ := hz9
    have hH : HT D cs A T O X H := hH
    refine W.widen (k := 0) (n := 0) (Nat.le_of_ble_eq_true rfl) (Nat.le_of_ble_eq_true rfl) ?_
    have J59 : ∀ (k59_0 : Int32) (H : Heap) (locs : List Loc) (ls : Array Slot), (0 ≤ k59_0.toInt) → (k59_0.toInt ≤ 1) → HT D cs A T O X H → va_S A s.heap H locs → lv_has ls 5 [] → W p l e { frames := 6, cells := 0, slots := 0, locals := 150 } s m [.ref a0, .int x1, .int x2].toArray below meth c H locs 0 0 (MQ below (Ti D cs (fun r u => u = (T, O, X) ∧ 0 ≤ r.toInt ∧ r.toInt ≤ 1) A) [.ref a0, .int x1, .int x2].toArray s 0 0 A) (F0 m 59 ls [.int k59_0]) := by
      intro k59_0 H locs ls l_k59_0 u_k59_0 hH hS hl
      exact te_z hx hb hr hlocks (nar01 (by omega) (by omega)) hH hS (⟨rfl, by omega, by omega⟩) dX11_needs_59
    have J58 : ∀  (H : Heap) (locs : List Loc) (ls : Array Slot), HT D cs A T O X H → va_S A s.heap H locs → lv_has ls 5 [] → W p l e { frames := 6, cells := 0, slots := 0, locals := 150 } s m [.ref a0, .int x1, .int x2].toArray below meth c H locs 0 0 (MQ below (Ti D cs (fun r u => u = (T, O, X) ∧ 0 ≤ r.toInt ∧ r.toInt ≤ 1) A) [.ref a0, .int x1, .int x2].toArray s 0 0 A) (F0 m 58 ls []) := by
      intro  H locs ls  hH hS hl
      refine lv_iconst (v := 0) hx hb dX11_needs_58 (by decide) ?_
      exact J59 0 _ _ _ (by decide) (by decide) hH hS (lv_sub hl [] rfl)
    refine lv_if_eq (tgt := 58) hx hb dX11_needs_36 (by decide) (fun c36 => ?_) (fun c36 => ?_)
    · skip
      have tc36 := f_eq (k := 0) (by decide) c36
      exact J58  _ _ _  hH hS (lv_sub hl [] rfl)
    · skip
      have tc36 := f_ne (k := 0) (by decide) c36
      refine lv_aload hx hb dX11_needs_39 (lv_at hl 0 rfl) ?_
      refine lv_iload_n hx hb dX11_needs_41 rfl (lv_at hl 1 rfl) ?_
      refine lv_iconst (v := 1) hx hb dX11_needs_42 (by decide) ?_
      refine lv_iload_n hx hb dX11_needs_43 rfl (lv_at hl 4 rfl) ?_
      refine lv_ishl hx hb dX11_needs_44 ?_
      refine lv_topi (fun v44 ev44 => ?_)
      refine lv_iconst (v := (-1)) hx hb dX11_needs_45 (by decide) ?_
      refine lv_ixor hx hb dX11_needs_46 ?_
      refine lv_topi (fun v46 ev46 => ?_)
      refine lv_iand hx hb dX11_needs_47 ?_
      refine lv_topi (fun v47 ev47 => ?_)
      have tv47 : 0 ≤ v47.toInt ∧ v47.toInt ≤ v1.toInt := by rw [ev47]; exact and_l (by omega)
      refine tk_i hH hS hA (tr_V (n := 1) (As := [.int v47]) hx hb hml hown hts hkb hH hOX hks hE hS hA (s_Rows_getsUp l D cs kf T O X v25 v47 t_v25 (hO.sub (by decide))) kw_1059 kw_1060 kw_1061 kw_8 kw_1062 (by decide +kernel) ⟨Nat.le_of_ble_eq_true rfl, Nat.le_of_ble_eq_true rfl⟩ (HT.recv (ci := 5) hkb hH t_v25 (hO.no t_v25 (by decide)) rfl) rfl rfl hl.1 (Nat.le_of_ble_eq_true rfl) dX11_needs_48 ⟨Nat.le_of_ble_eq_true rfl, Nat.le_of_ble_eq_true rfl⟩) (fun v48 u H locs hz9 hH hS => ?_)
      obtain ⟨rfl, l_v48, u_v48⟩ := hz9
      have hH : HT D cs A T O X H := hH
      refine W.widen (k := 0) (n := 0) (Nat.le_of_ble_eq_true rfl) (Nat.le_of_ble_eq_true rfl) ?_
      refine lv_if_ne (tgt := 58) hx hb dX11_needs_51 (by decide) (fun c51 => ?_) (fun c51 => ?_)
      · skip
        have tc51 := f_ne (k := 0) (by decide) c51
        exact J58  _ _ _  hH hS (lv_sub hl [] rfl)
      · skip
        have tc51 := f_eq (k := 0) (by decide) c51
        refine lv_iconst (v := 1) hx hb dX11_needs_54 (by decide) ?_
        refine lv_goto (tgt := 59) hx hb dX11_needs_55 (by decide) ?_
        exact J59 1 _ _ _ (by decide) (by decide) hH hS (lv_sub hl [] rfl)
  · skip
    have tc18 := f_eq (k := 0) (by decide) c18
    refine lv_iconst (v := 0) hx hb dX11_needs_21 (by decide) ?_
    exact te_z hx hb hr hlocks (by rfl) hH hS (⟨rfl, by decide, by decide⟩) dX11_needs_22
set_option maxHeartbeats 4000000 in
set_option maxRecDepth 100000 in
theorem s_FW_needed (l : Launch) (D : va_G) (cs : CS) (kf : KF) (T : TF) (O : List Nat) (X : va_W) (a0 w hw gw ch gq : Nat) (x1 : Int32) (t_a0 : T a0 = some (21, w, ch)) (t_w : isW T w hw gw) (t_ch : T ch = some (10, gq, 0)) (hO : okO T O [1, 7, 12, 15, 16, 19, 21]) : TK l D cs kf yX11_needed cX11_needed 4 (some (.int)) { frames := 7, cells := 0, slots := 0, locals := 174 } [.ref a0, .int x1] T O X (Ti D cs (fun r u => u = (T, O, X) ∧ -2 ≤ r.toInt ∧ r.toInt ≤ 16383)) := by
  refine tk_of (by decide) (Nat.le_of_ble_eq_true rfl) (fun p e s m below meth c ls A H locs hx hb hr hml hown hts hlocks hnm hkb hH hS hA hOX hks hE hl => ?_)
  have hown : s.vm.findClass RX11 = some m.cls := hown
  have hl : lv_has ls 4 [(0, .ref a0), (1, .int x1)] := hl
  have b1_w := t_w.2.1
  have b2_w := t_w.2.2
  refine lv_aload_n hx hb dX11_needed_0 rfl (lv_at hl 0 rfl) ?_
  refine lv_iload_n hx hb dX11_needed_1 rfl (lv_at hl 1 rfl) ?_
  refine tk_i hH hS hA (tr_V (n := 1) (As := [.int x1]) hx hb hml hown hts hkb hH hOX hks hE hS hA (s_FW_isGuide l D cs kf T O X a0 w hw gw ch gq x1 t_a0 t_w t_ch (hO.sub (by decide))) kw_794 kw_796 ks_20 kw_1 kw_797 (by decide +kernel) ⟨Nat.le_of_ble_eq_true rfl, Nat.le_of_ble_eq_true rfl⟩ (HT.recv (ci := 11) hkb hH t_a0 (hO.no t_a0 (by decide)) rfl) rfl rfl hl.1 (Nat.le_of_ble_eq_true rfl) dX11_needed_2 ⟨Nat.le_of_ble_eq_true rfl, Nat.le_of_ble_eq_true rfl⟩) (fun v2 u H locs hz9 hH hS => ?_)
  obtain ⟨rfl, l_v2, u_v2, x_v20⟩ := hz9
  have hH : HT D cs A T O X H := hH
  refine W.widen (k := 0) (n := 0) (Nat.le_of_ble_eq_true rfl) (Nat.le_of_ble_eq_true rfl) ?_
  refine lv_if_ne (tgt := 11) hx hb dX11_needed_5 (by decide) (fun c5 => ?_) (fun c5 => ?_)
  · skip
    have tc5 := f_ne (k := 0) (by decide) c5
    refine lv_iconst (v := 0) hx hb dX11_needed_11 (by decide) ?_
    refine lv_istore_n (lv' := [(2, .int 0), (0, .ref a0), (1, .int x1)]) hx hb dX11_needed_12 rfl hl (by decide) rfl (fun ls hl => ?_)
    refine lv_iconst (v := 0) hx hb dX11_needed_13 (by decide) ?_
    have J15 : ∀ (n : Nat) (p15_3 : Int32) (p15_2 : Int32) (H : Heap) (locs : List Loc) (ls : Array Slot), (14 - p15_3.toInt).toNat = n → (0 ≤ p15_3.toInt) → (p15_3.toInt ≤ 14) → (0 ≤ p15_2.toInt) → (p15_2.toInt ≤ 16383) → HT D cs A T O X H → va_S A s.heap H locs → lv_has ls 4 [(3, .int p15_3), (2, .int p15_2), (0, .ref a0), (1, .int x1)] → W p l e { frames := 7, cells := 0, slots := 0, locals := 174 } s m [.ref a0, .int x1].toArray below meth c H locs 0 0 (MQ below (Ti D cs (fun r u => u = (T, O, X) ∧ -2 ≤ r.toInt ∧ r.toInt ≤ 16383) A) [.ref a0, .int x1].toArray s 0 0 A) (F0 m 15 ls []) := by
      intro n
      induction n using Nat.strongRecOn with
      | _ n ih15 =>
        intro p15_3 p15_2 H locs ls hm15 l_p15_3 u_p15_3 l_p15_2 u_p15_2 hH hS hl
        refine lv_iload_n hx hb dX11_needed_15 rfl (lv_at hl 0 rfl) ?_
        refine lv_aload_n hx hb dX11_needed_16 rfl (lv_at hl 2 rfl) ?_
        refine t_get (ci := 11) (lst := ft11 w ch) (C := RX11) (F := TX11) (N := 20) hx hb hts uX11 hown hkb hH t_a0 (hO.no t_a0 (by decide)) (fun _ h9 => h9) rfl rfl 3 (by decide) rfl kw_363 (fun _ h9 => h9) dX11_needed_17 (fun v9 h9 => ?_)
        have h9 : v9 = .ref w := h9
        subst h9
        refine t_get (ci := 9) (lst := ft9w hw gw) (C := RX9) (F := TX9) (N := 14) hx hb hts uX9 hown hkb hH t_w.1 (hO.no t_w.1 (by decide)) (fun fs => (ob9w t_w fs).mp) rfl rfl 0 (by decide) rfl kw_109 (fun _ h9 => h9) dX11_needed_20 (fun v9 h9 => ?_)
        have h9 : v9 = .int (nI hw) := h9
        subst h9
        have e_hw : (nI hw).toInt = hw := nI_toInt (by have := t_w.2.1; omega)
        have b_hw := t_w.2.1
        refine lv_icmp_ge (tgt := 47) hx hb dX11_needed_23 (by decide) (fun c23 => ?_) (fun c23 => ?_)
        · skip
          have fuc23 := full_i p15_3
          have fvc23 := full_i (nI hw)
          have tc23 := g_le c23
          refine lv_iload_n hx hb dX11_needed_47 rfl (lv_at hl 1 rfl) ?_
          exact te_i hx hb hr hlocks hH hS (⟨rfl, by omega, by omega⟩) dX11_needed_48
        · skip
          have fuc23 := full_i p15_3
          have fvc23 := full_i (nI hw)
          have tc23 := g_nle c23
          refine lv_aload_n hx hb dX11_needed_26 rfl (lv_at hl 2 rfl) ?_
          refine lv_iload_n hx hb dX11_needed_27 rfl (lv_at hl 3 rfl) ?_
          refine lv_iload_n hx hb dX11_needed_28 rfl (lv_at hl 0 rfl) ?_
          refine tk_i hH hS hA (tr_V (n := 2) (As := [.int x1, .int p15_3]) hx hb hml hown hts hkb hH hOX hks hE hS hA (s_FW_needs l D cs kf T O X a0 w hw gw ch gq x1 p15_3 t_a0 t_w t_ch (by omega) (by omega) (hO.sub (by decide))) kw_1055 kw_1057 ks_37 kw_1 kw_1058 (by decide +kernel) ⟨Nat.le_of_ble_eq_true rfl, Nat.le_of_ble_eq_true rfl⟩ (HT.recv (ci := 11) hkb hH t_a0 (hO.no t_a0 (by decide)) rfl) rfl rfl hl.1 (Nat.le_of_ble_eq_true rfl) dX11_needed_29 ⟨Nat.le_of_ble_eq_true rfl, Nat.le_of_ble_eq_true rfl⟩) (fun v29 u H locs hz9 hH hS => ?_)
          obtain ⟨rfl, l_v29, u_v29⟩ := hz9
          have hH : HT D cs A T O X H := hH
          refine W.widen (k := 0) (n := 0) (Nat.le_of_ble_eq_true rfl) (Nat.le_of_ble_eq_true rfl) ?_
          have J41 : ∀ (p41_2 : Int32) (H : Heap) (locs : List Loc) (ls : Array Slot), (0 ≤ p41_2.toInt) → (p41_2.toInt ≤ 16383) → HT D cs A T O X H → va_S A s.heap H locs → lv_has ls 4 [(3, .int p15_3), (2, .int p41_2), (0, .ref a0), (1, .int x1)] → W p l e { frames := 7, cells := 0, slots := 0, locals := 174 } s m [.ref a0, .int x1].toArray below meth c H locs 0 0 (MQ below (Ti D cs (fun r u => u = (T, O, X) ∧ -2 ≤ r.toInt ∧ r.toInt ≤ 16383) A) [.ref a0, .int x1].toArray s 0 0 A) (F0 m 41 ls []) := by
            intro p41_2 H locs ls l_p41_2 u_p41_2 hH hS hl
            obtain ⟨v41, ev41⟩ : ∃ y : Int32, y = p15_3 + 1 := ⟨_, rfl⟩
            have tv41 : v41.toInt = p15_3.toInt + (1) := by rw [ev41]; exact add_i rfl (by decide) (by omega) (by omega)
            refine lv_iinc (v := v41) (lv' := [(3, .int v41), (2, .int p41_2), (0, .ref a0), (1, .int x1)]) hx hb dX11_needed_41 hl (k := 0) rfl (by rw [ev41]; rfl) (by decide) rfl (fun ls hl => ?_)
            refine lv_goto (tgt := 15) hx hb dX11_needed_44 (by decide) ?_
            exact ih15 _ (by omega) v41 p41_2 _ _ _ rfl (by omega) (by omega) (by omega) (by omega) hH hS (lv_sub hl [0, 1, 2, 3] rfl)
          refine lv_if_eq (tgt := 41) hx hb dX11_needed_32 (by decide) (fun c32 => ?_) (fun c32 => ?_)
          · skip
            have tc32 := f_eq (k := 0) (by decide) c32
            exact J41 p15_2 _ _ _ (by omega) (by omega) hH hS (lv_sub hl [0, 1, 2, 3] rfl)
          · skip
            have tc32 := f_ne (k := 0) (by decide) c32
            refine lv_iload_n hx hb dX11_needed_35 rfl (lv_at hl 1 rfl) ?_
            refine lv_iconst (v := 1) hx hb dX11_needed_36 (by decide) ?_
            refine lv_iload_n hx hb dX11_needed_37 rfl (lv_at hl 0 rfl) ?_
            refine lv_ishl hx hb dX11_needed_38 ?_
            refine lv_topi (fun v38 ev38 => ?_)
            have tv38 : 1 ≤ v38.toInt ∧ v38.toInt ≤ 8192 := by rw [ev38]; exact shl_b 13 (by decide) (by omega) (by omega)
            refine lv_ior hx hb dX11_needed_39 ?_
            refine lv_topi (fun v39 ev39 => ?_)
            have tv39 : 0 ≤ v39.toInt ∧ v39.toInt < 16384 := by rw [ev39]; exact or_b 14 (by decide) (by omega) (by omega) (by omega) (by omega)
            refine lv_istore_n (lv' := [(2, .int v39), (3, .int p15_3), (0, .ref a0), (1, .int x1)]) hx hb dX11_needed_40 rfl hl (by decide) rfl (fun ls hl => ?_)
            exact J41 v39 _ _ _ (by omega) (by omega) hH hS (lv_sub hl [1, 0, 2, 3] rfl)
    refine lv_istore_n (lv' := [(3, .int 0), (2, .int 0), (0, .ref a0), (1, .int x1)]) hx hb dX11_needed_14 rfl hl (by decide) rfl (fun ls hl => ?_)
    exact J15 _ 0 0 _ _ _ rfl (by decide) (by decide) (by decide) (by decide) hH hS (lv_sub hl [0, 1, 2, 3] rfl)
  · skip
    have tc5 := f_eq (k := 0) (by decide) c5
    refine lv_bipush (v := (-2)) hx hb dX11_needed_8 (by decide) ?_
    exact te_i hx hb hr hlocks hH hS (⟨rfl, by decide, by decide⟩) dX11_needed_10
set_option maxHeartbeats 4000000 in
set_option maxRecDepth 100000 in
theorem s_FW_able (l : Launch) (D : va_G) (cs : CS) (kf : KF) (T : TF) (O : List Nat) (X : va_W) (a0 w hw gw ch gq : Nat) (t_a0 : T a0 = some (21, w, ch)) (t_w : isW T w hw gw) (t_ch : T ch = some (10, gq, 0)) (hO : okO T O [1, 7, 12, 15, 16, 19, 21]) : TK l D cs kf yX11_able cX11_able 3 (some (.int)) { frames := 6, cells := 0, slots := 0, locals := 150 } [.ref a0] T O X (Ti D cs (fun r u => u = (T, O, X) ∧ 0 ≤ r.toInt ∧ r.toInt ≤ 16383)) := by
  refine tk_of (by decide) (Nat.le_of_ble_eq_true rfl) (fun p e s m below meth c ls A H locs hx hb hr hml hown hts hlocks hnm hkb hH hS hA hOX hks hE hl => ?_)
  have hown : s.vm.findClass RX11 = some m.cls := hown
  have hl : lv_has ls 3 [(0, .ref a0)] := hl
  have b1_w := t_w.2.1
  have b2_w := t_w.2.2
  refine lv_iconst (v := 0) hx hb dX11_able_0 (by decide) ?_
  refine lv_istore_n (lv' := [(1, .int 0), (0, .ref a0)]) hx hb dX11_able_1 rfl hl (by decide) rfl (fun ls hl => ?_)
  refine lv_iconst (v := 0) hx hb dX11_able_2 (by decide) ?_
  have J4 : ∀ (n : Nat) (p4_2 : Int32) (p4_1 : Int32) (H : Heap) (locs : List Loc) (ls : Array Slot), (5 - p4_2.toInt).toNat = n → (0 ≤ p4_2.toInt) → (p4_2.toInt ≤ 5) → (0 ≤ p4_1.toInt) → (p4_1.toInt ≤ 16383) → HT D cs A T O X H → va_S A s.heap H locs → lv_has ls 3 [(2, .int p4_2), (1, .int p4_1), (0, .ref a0)] → W p l e { frames := 6, cells := 0, slots := 0, locals := 150 } s m [.ref a0].toArray below meth c H locs 0 0 (MQ below (Ti D cs (fun r u => u = (T, O, X) ∧ 0 ≤ r.toInt ∧ r.toInt ≤ 16383) A) [.ref a0].toArray s 0 0 A) (F0 m 4 ls []) := by
    intro n
    induction n using Nat.strongRecOn with
    | _ n ih4 =>
      intro p4_2 p4_1 H locs ls hm4 l_p4_2 u_p4_2 l_p4_1 u_p4_1 hH hS hl
      refine lv_iload_n hx hb dX11_able_4 rfl (lv_at hl 0 rfl) ?_
      refine lv_aload_n hx hb dX11_able_5 rfl (lv_at hl 2 rfl) ?_
      refine t_get (ci := 11) (lst := ft11 w ch) (C := RX11) (F := TX11) (N := 20) hx hb hts uX11 hown hkb hH t_a0 (hO.no t_a0 (by decide)) (fun _ h9 => h9) rfl rfl 3 (by decide) rfl kw_363 (fun _ h9 => h9) dX11_able_6 (fun v9 h9 => ?_)
      have h9 : v9 = .ref w := h9
      subst h9
      refine t_get (ci := 9) (lst := ft9w hw gw) (C := RX9) (F := TX9) (N := 14) hx hb hts uX9 hown hkb hH t_w.1 (hO.no t_w.1 (by decide)) (fun fs => (ob9w t_w fs).mp) rfl rfl 1 (by decide) rfl kw_112 (fun _ h9 => h9) dX11_able_9 (fun v9 h9 => ?_)
      have h9 : v9 = .int (nI gw) := h9
      subst h9
      have e_gw : (nI gw).toInt = gw := nI_toInt (by have := t_w.2.2; omega)
      have b_gw := t_w.2.2
      refine lv_icmp_ge (tgt := 42) hx hb dX11_able_12 (by decide) (fun c12 => ?_) (fun c12 => ?_)
      · skip
        have fuc12 := full_i p4_2
        have fvc12 := full_i (nI gw)
        have tc12 := g_le c12
        refine lv_iload_n hx hb dX11_able_42 rfl (lv_at hl 1 rfl) ?_
        exact te_i hx hb hr hlocks hH hS (⟨rfl, by omega, by omega⟩) dX11_able_43
      · skip
        have fuc12 := full_i p4_2
        have fvc12 := full_i (nI gw)
        have tc12 := g_nle c12
        refine lv_aload_n hx hb dX11_able_15 rfl (lv_at hl 2 rfl) ?_
        refine lv_iload_n hx hb dX11_able_16 rfl (lv_at hl 0 rfl) ?_
        refine tk_r hH hS hA (tr_V (n := 1) (As := [.int p4_2]) hx hb hml hown hts hkb hH hOX hks hE hS hA (s_FW_rowsOf l D cs kf T O X a0 w hw gw ch gq p4_2 t_a0 t_w t_ch (by omega) (by omega) (hO.sub (by decide))) kw_830 kw_832 ks_21 kw_1 kw_833 (by decide +kernel) ⟨Nat.le_of_ble_eq_true rfl, Nat.le_of_ble_eq_true rfl⟩ (HT.recv (ci := 11) hkb hH t_a0 (hO.no t_a0 (by decide)) rfl) rfl rfl hl.1 (Nat.le_of_ble_eq_true rfl) dX11_able_17 ⟨Nat.le_of_ble_eq_true rfl, Nat.le_of_ble_eq_true rfl⟩) (fun v17 u H locs hz9 hH hS => ?_)
        obtain ⟨hu9, t_v17⟩ := hz9
        have hu9 : u = (T, O, X) := hu9
        subst hu9
        have hH : HT D cs A T O X H := hH
        refine W.widen (k := 0) (n := 0) (Nat.le_of_ble_eq_true rfl) (Nat.le_of_ble_eq_true rfl) ?_
        refine lv_aload_n hx hb dX11_able_20 rfl (lv_at hl 2 rfl) ?_
        refine tk_i hH hS hA (tr_V (n := 0) (As := []) hx hb hml hown hts hkb hH hOX hks hE hS hA (s_FW_openNow l D cs kf T O X a0 w hw gw ch gq t_a0 t_w t_ch (hO.sub (by decide))) kw_846 kw_848 ks_22 kw_1 kw_849 (by decide +kernel) ⟨Nat.le_of_ble_eq_true rfl, Nat.le_of_ble_eq_true rfl⟩ (HT.recv (ci := 11) hkb hH t_a0 (hO.no t_a0 (by decide)) rfl) rfl rfl hl.1 (Nat.le_of_ble_eq_true rfl) dX11_able_21 ⟨Nat.le_of_ble_eq_true rfl, Nat.le_of_ble_eq_true rfl⟩) (fun v21 u H locs hz9 hH hS => ?_)
        obtain ⟨rfl, l_v21, u_v21⟩ := hz9
        have hH : HT D cs A T O X H := hH
        refine W.widen (k := 0) (n := 0) (Nat.le_of_ble_eq_true rfl) (Nat.le_of_ble_eq_true rfl) ?_
        refine tk_i hH hS hA (tr_V (n := 1) (As := [.int v21]) hx hb hml hown hts hkb hH hOX hks hE hS hA (s_Rows_getsUp l D cs kf T O X v17 v21 t_v17 (hO.sub (by decide))) kw_1059 kw_1060 kw_1061 kw_8 kw_1062 (by decide +kernel) ⟨Nat.le_of_ble_eq_true rfl, Nat.le_of_ble_eq_true rfl⟩ (HT.recv (ci := 5) hkb hH t_v17 (hO.no t_v17 (by decide)) rfl) rfl rfl hl.1 (Nat.le_of_ble_eq_true rfl) dX11_able_24 ⟨Nat.le_of_ble_eq_true rfl, Nat.le_of_ble_eq_true rfl⟩) (fun v24 u H locs hz9 hH hS => ?_)
        obtain ⟨rfl, l_v24, u_v24⟩ := hz9
        have hH : HT D cs A T O X H := hH
        refine W.widen (k := 0) (n := 0) (Nat.le_of_ble_eq_true rfl) (Nat.le_of_ble_eq_true rfl) ?_
        have J36 : ∀ (p36_1 : Int32) (H : Heap) (locs : List Loc) (ls : Array Slot), (0 ≤ p36_1.toInt) → (p36_1.toInt ≤ 16383) → HT D cs A T O X H → va_S A s.heap H locs → lv_has ls 3 [(2, .int p4_2), (1, .int p36_1), (0, .ref a0)] → W p l e { frames := 6, cells := 0, slots := 0, locals := 150 } s m [.ref a0].toArray below meth c H locs 0 0 (MQ below (Ti D cs (fun r u => u = (T, O, X) ∧ 0 ≤ r.toInt ∧ r.toInt ≤ 16383) A) [.ref a0].toArray s 0 0 A) (F0 m 36 ls []) := by
          intro p36_1 H locs ls l_p36_1 u_p36_1 hH hS hl
          obtain ⟨v36, ev36⟩ : ∃ y : Int32, y = p4_2 + 1 := ⟨_, rfl⟩
          have tv36 : v36.toInt = p4_2.toInt + (1) := by rw [ev36]; exact add_i rfl (by decide) (by omega) (by omega)
          refine lv_iinc (v := v36) (lv' := [(2, .int v36), (1, .int p36_1), (0, .ref a0)]) hx hb dX11_able_36 hl (k := 0) rfl (by rw [ev36]; rfl) (by decide) rfl (fun ls hl => ?_)
          refine lv_goto (tgt := 4) hx hb dX11_able_39 (by decide) ?_
          exact ih4 _ (by omega) v36 p36_1 _ _ _ rfl (by omega) (by omega) (by omega) (by omega) hH hS (lv_sub hl [0, 1, 2] rfl)
        refine lv_if_eq (tgt := 36) hx hb dX11_able_27 (by decide) (fun c27 => ?_) (fun c27 => ?_)
        · skip
          have tc27 := f_eq (k := 0) (by decide) c27
          exact J36 p4_1 _ _ _ (by omega) (by omega) hH hS (lv_sub hl [0, 1, 2] rfl)
        · skip
          have tc27 := f_ne (k := 0) (by decide) c27
          refine lv_iload_n hx hb dX11_able_30 rfl (lv_at hl 1 rfl) ?_
          refine lv_iconst (v := 1) hx hb dX11_able_31 (by decide) ?_
          refine lv_iload_n hx hb dX11_able_32 rfl (lv_at hl 0 rfl) ?_
          refine lv_ishl hx hb dX11_able_33 ?_
          refine lv_topi (fun v33 ev33 => ?_)
          have tv33 : 1 ≤ v33.toInt ∧ v33.toInt ≤ 16 := by rw [ev33]; exact shl_b 4 (by decide) (by omega) (by omega)
          refine lv_ior hx hb dX11_able_34 ?_
          refine lv_topi (fun v34 ev34 => ?_)
          have tv34 : 0 ≤ v34.toInt ∧ v34.toInt < 16384 := by rw [ev34]; exact or_b 14 (by decide) (by omega) (by omega) (by omega) (by omega)
          refine lv_istore_n (lv' := [(1, .int v34), (2, .int p4_2), (0, .ref a0)]) hx hb dX11_able_35 rfl hl (by decide) rfl (fun ls hl => ?_)
          exact J36 v34 _ _ _ (by omega) (by omega) hH hS (lv_sub hl [1, 0, 2] rfl)
  refine lv_istore_n (lv' := [(2, .int 0), (1, .int 0), (0, .ref a0)]) hx hb dX11_able_3 rfl hl (by decide) rfl (fun ls hl => ?_)
  exact J4 _ 0 0 _ _ _ rfl (by decide) (by decide) (by decide) (by decide) hH hS (lv_sub hl [0, 1, 2] rfl)
set_option maxHeartbeats 4000000 in
set_option maxRecDepth 100000 in
theorem s_FW_needers (l : Launch) (D : va_G) (cs : CS) (kf : KF) (T : TF) (O : List Nat) (X : va_W) (a0 w hw gw ch gq : Nat) (x1 : Int32) (t_a0 : T a0 = some (21, w, ch)) (t_w : isW T w hw gw) (t_ch : T ch = some (10, gq, 0)) (hO : okO T O [1, 7, 12, 15, 16, 19, 21]) : TK l D cs kf yX11_needers cX11_needers 4 (some (.int)) { frames := 7, cells := 0, slots := 0, locals := 174 } [.ref a0, .int x1] T O X (Ti D cs (fun r u => u = (T, O, X) ∧ -2 ≤ r.toInt ∧ r.toInt ≤ 16383)) := by
  refine tk_of (by decide) (Nat.le_of_ble_eq_true rfl) (fun p e s m below meth c ls A H locs hx hb hr hml hown hts hlocks hnm hkb hH hS hA hOX hks hE hl => ?_)
  have hown : s.vm.findClass RX11 = some m.cls := hown
  have hl : lv_has ls 4 [(0, .ref a0), (1, .int x1)] := hl
  have b1_w := t_w.2.1
  have b2_w := t_w.2.2
  refine lv_aload_n hx hb dX11_needers_0 rfl (lv_at hl 0 rfl) ?_
  refine lv_iload_n hx hb dX11_needers_1 rfl (lv_at hl 1 rfl) ?_
  refine tk_i hH hS hA (tr_V (n := 1) (As := [.int x1]) hx hb hml hown hts hkb hH hOX hks hE hS hA (s_FW_isHold l D cs kf T O X a0 w hw gw ch gq x1 t_a0 t_w t_ch (hO.sub (by decide))) kw_770 kw_772 ks_17 kw_1 kw_773 (by decide +kernel) ⟨Nat.le_of_ble_eq_true rfl, Nat.le_of_ble_eq_true rfl⟩ (HT.recv (ci := 11) hkb hH t_a0 (hO.no t_a0 (by decide)) rfl) rfl rfl hl.1 (Nat.le_of_ble_eq_true rfl) dX11_needers_2 ⟨Nat.le_of_ble_eq_true rfl, Nat.le_of_ble_eq_true rfl⟩) (fun v2 u H locs hz9 hH hS => ?_)
  obtain ⟨rfl, l_v2, u_v2, x_v20⟩ := hz9
  have hH : HT D cs A T O X H := hH
  refine W.widen (k := 0) (n := 0) (Nat.le_of_ble_eq_true rfl) (Nat.le_of_ble_eq_true rfl) ?_
  refine lv_if_ne (tgt := 11) hx hb dX11_needers_5 (by decide) (fun c5 => ?_) (fun c5 => ?_)
  · skip
    have tc5 := f_ne (k := 0) (by decide) c5
    refine lv_iconst (v := 0) hx hb dX11_needers_11 (by decide) ?_
    refine lv_istore_n (lv' := [(2, .int 0), (0, .ref a0), (1, .int x1)]) hx hb dX11_needers_12 rfl hl (by decide) rfl (fun ls hl => ?_)
    refine lv_iconst (v := 0) hx hb dX11_needers_13 (by decide) ?_
    have J15 : ∀ (n : Nat) (p15_3 : Int32) (p15_2 : Int32) (H : Heap) (locs : List Loc) (ls : Array Slot), (5 - p15_3.toInt).toNat = n → (0 ≤ p15_3.toInt) → (p15_3.toInt ≤ 5) → (0 ≤ p15_2.toInt) → (p15_2.toInt ≤ 16383) → HT D cs A T O X H → va_S A s.heap H locs → lv_has ls 4 [(3, .int p15_3), (2, .int p15_2), (0, .ref a0), (1, .int x1)] → W p l e { frames := 7, cells := 0, slots := 0, locals := 174 } s m [.ref a0, .int x1].toArray below meth c H locs 0 0 (MQ below (Ti D cs (fun r u => u = (T, O, X) ∧ -2 ≤ r.toInt ∧ r.toInt ≤ 16383) A) [.ref a0, .int x1].toArray s 0 0 A) (F0 m 15 ls []) := by
      intro n
      induction n using Nat.strongRecOn with
      | _ n ih15 =>
        intro p15_3 p15_2 H locs ls hm15 l_p15_3 u_p15_3 l_p15_2 u_p15_2 hH hS hl
        refine lv_iload_n hx hb dX11_needers_15 rfl (lv_at hl 0 rfl) ?_
        refine lv_aload_n hx hb dX11_needers_16 rfl (lv_at hl 2 rfl) ?_
        refine t_get (ci := 11) (lst := ft11 w ch) (C := RX11) (F := TX11) (N := 20) hx hb hts uX11 hown hkb hH t_a0 (hO.no t_a0 (by decide)) (fun _ h9 => h9) rfl rfl 3 (by decide) rfl kw_363 (fun _ h9 => h9) dX11_needers_17 (fun v9 h9 => ?_)
        have h9 : v9 = .ref w := h9
        subst h9
        refine t_get (ci := 9) (lst := ft9w hw gw) (C := RX9) (F := TX9) (N := 14) hx hb hts uX9 hown hkb hH t_w.1 (hO.no t_w.1 (by decide)) (fun fs => (ob9w t_w fs).mp) rfl rfl 1 (by decide) rfl kw_112 (fun _ h9 => h9) dX11_needers_20 (fun v9 h9 => ?_)
        have h9 : v9 = .int (nI gw) := h9
        subst h9
        have e_gw : (nI gw).toInt = gw := nI_toInt (by have := t_w.2.2; omega)
        have b_gw := t_w.2.2
        refine lv_icmp_ge (tgt := 47) hx hb dX11_needers_23 (by decide) (fun c23 => ?_) (fun c23 => ?_)
        · skip
          have fuc23 := full_i p15_3
          have fvc23 := full_i (nI gw)
          have tc23 := g_le c23
          refine lv_iload_n hx hb dX11_needers_47 rfl (lv_at hl 1 rfl) ?_
          exact te_i hx hb hr hlocks hH hS (⟨rfl, by omega, by omega⟩) dX11_needers_48
        · skip
          have fuc23 := full_i p15_3
          have fvc23 := full_i (nI gw)
          have tc23 := g_nle c23
          refine lv_aload_n hx hb dX11_needers_26 rfl (lv_at hl 2 rfl) ?_
          refine lv_iload_n hx hb dX11_needers_27 rfl (lv_at hl 0 rfl) ?_
          refine lv_iload_n hx hb dX11_needers_28 rfl (lv_at hl 3 rfl) ?_
          refine tk_i hH hS hA (tr_V (n := 2) (As := [.int p15_3, .int x1]) hx hb hml hown hts hkb hH hOX hks hE hS hA (s_FW_needs l D cs kf T O X a0 w hw gw ch gq p15_3 x1 t_a0 t_w t_ch (by omega) (by omega) (hO.sub (by decide))) kw_1055 kw_1057 ks_37 kw_1 kw_1058 (by decide +kernel) ⟨Nat.le_of_ble_eq_true rfl, Nat.le_of_ble_eq_true rfl⟩ (HT.recv (ci := 11) hkb hH t_a0 (hO.no t_a0 (by decide)) rfl) rfl rfl hl.1 (Nat.le_of_ble_eq_true rfl) dX11_needers_29 ⟨Nat.le_of_ble_eq_true rfl, Nat.le_of_ble_eq_true rfl⟩) (fun v29 u H locs hz9 hH hS => ?_)
          obtain ⟨rfl, l_v29, u_v29⟩ := hz9
          have hH : HT D cs A T O X H := hH
          refine W.widen (k := 0) (n := 0) (Nat.le_of_ble_eq_true rfl) (Nat.le_of_ble_eq_true rfl) ?_
          have J41 : ∀ (p41_2 : Int32) (H : Heap) (locs : List Loc) (ls : Array Slot), (0 ≤ p41_2.toInt) → (p41_2.toInt ≤ 16383) → HT D cs A T O X H → va_S A s.heap H locs → lv_has ls 4 [(3, .int p15_3), (2, .int p41_2), (0, .ref a0), (1, .int x1)] → W p l e { frames := 7, cells := 0, slots := 0, locals := 174 } s m [.ref a0, .int x1].toArray below meth c H locs 0 0 (MQ below (Ti D cs (fun r u => u = (T, O, X) ∧ -2 ≤ r.toInt ∧ r.toInt ≤ 16383) A) [.ref a0, .int x1].toArray s 0 0 A) (F0 m 41 ls []) := by
            intro p41_2 H locs ls l_p41_2 u_p41_2 hH hS hl
            obtain ⟨v41, ev41⟩ : ∃ y : Int32, y = p15_3 + 1 := ⟨_, rfl⟩
            have tv41 : v41.toInt = p15_3.toInt + (1) := by rw [ev41]; exact add_i rfl (by decide) (by omega) (by omega)
            refine lv_iinc (v := v41) (lv' := [(3, .int v41), (2, .int p41_2), (0, .ref a0), (1, .int x1)]) hx hb dX11_needers_41 hl (k := 0) rfl (by rw [ev41]; rfl) (by decide) rfl (fun ls hl => ?_)
            refine lv_goto (tgt := 15) hx hb dX11_needers_44 (by decide) ?_
            exact ih15 _ (by omega) v41 p41_2 _ _ _ rfl (by omega) (by omega) (by omega) (by omega) hH hS (lv_sub hl [0, 1, 2, 3] rfl)
          refine lv_if_eq (tgt := 41) hx hb dX11_needers_32 (by decide) (fun c32 => ?_) (fun c32 => ?_)
          · skip
            have tc32 := f_eq (k := 0) (by decide) c32
            exact J41 p15_2 _ _ _ (by omega) (by omega) hH hS (lv_sub hl [0, 1, 2, 3] rfl)
          · skip
            have tc32 := f_ne (k := 0) (by decide) c32
            refine lv_iload_n hx hb dX11_needers_35 rfl (lv_at hl 1 rfl) ?_
            refine lv_iconst (v := 1) hx hb dX11_needers_36 (by decide) ?_
            refine lv_iload_n hx hb dX11_needers_37 rfl (lv_at hl 0 rfl) ?_
            refine lv_ishl hx hb dX11_needers_38 ?_
            refine lv_topi (fun v38 ev38 => ?_)
            have tv38 : 1 ≤ v38.toInt ∧ v38.toInt ≤ 16 := by rw [ev38]; exact shl_b 4 (by decide) (by omega) (by omega)
            refine lv_ior hx hb dX11_needers_39 ?_
            refine lv_topi (fun v39 ev39 => ?_)
            have tv39 : 0 ≤ v39.toInt ∧ v39.toInt < 16384 := by rw [ev39]; exact or_b 14 (by decide) (by omega) (by omega) (by omega) (by omega)
            refine lv_istore_n (lv' := [(2, .int v39), (3, .int p15_3), (0, .ref a0), (1, .int x1)]) hx hb dX11_needers_40 rfl hl (by decide) rfl (fun ls hl => ?_)
            exact J41 v39 _ _ _ (by omega) (by omega) hH hS (lv_sub hl [1, 0, 2, 3] rfl)
    refine lv_istore_n (lv' := [(3, .int 0), (2, .int 0), (0, .ref a0), (1, .int x1)]) hx hb dX11_needers_14 rfl hl (by decide) rfl (fun ls hl => ?_)
    exact J15 _ 0 0 _ _ _ rfl (by decide) (by decide) (by decide) (by decide) hH hS (lv_sub hl [0, 1, 2, 3] rfl)
  · skip
    have tc5 := f_eq (k := 0) (by decide) c5
    refine lv_bipush (v := (-2)) hx hb dX11_needers_8 (by decide) ?_
    exact te_i hx hb hr hlocks hH hS (⟨rfl, by decide, by decide⟩) dX11_needers_10
set_option maxHeartbeats 4000000 in
set_option maxRecDepth 100000 in
theorem s_FW_highest (l : Launch) (D : va_G) (cs : CS) (kf : KF) (T : TF) (O : List Nat) (X : va_W) (a0 w hw gw ch gq : Nat) (x1 : Int32) (t_a0 : T a0 = some (21, w, ch)) (t_w : isW T w hw gw) (t_ch : T ch = some (10, gq, 0)) (hO : okO T O [1, 7, 12, 15, 16, 19, 21]) : TK l D cs kf yX11_highest cX11_highest 5 (some (.int)) { frames := 6, cells := 0, slots := 0, locals := 150 } [.ref a0, .int x1] T O X (Ti D cs (fun r u => u = (T, O, X) ∧ -2 ≤ r.toInt)) := by
  refine tk_of (by decide) (Nat.le_of_ble_eq_true rfl) (fun p e s m below meth c ls A H locs hx hb hr hml hown hts hlocks hnm hkb hH hS hA hOX hks hE hl => ?_)
  have hown : s.vm.findClass RX11 = some m.cls := hown
  have hl : lv_has ls 5 [(0, .ref a0), (1, .int x1)] := hl
  have b1_w := t_w.2.1
  have b2_w := t_w.2.2
  refine lv_aload_n hx hb dX11_highest_0 rfl (lv_at hl 0 rfl) ?_
  refine lv_iload_n hx hb dX11_highest_1 rfl (lv_at hl 1 rfl) ?_
  refine tk_i hH hS hA (tr_V (n := 1) (As := [.int x1]) hx hb hml hown hts hkb hH hOX hks hE hS hA (s_FW_isGuide l D cs kf T O X a0 w hw gw ch gq x1 t_a0 t_w t_ch (hO.sub (by decide))) kw_794 kw_796 ks_20 kw_1 kw_797 (by decide +kernel) ⟨Nat.le_of_ble_eq_true rfl, Nat.le_of_ble_eq_true rfl⟩ (HT.recv (ci := 11) hkb hH t_a0 (hO.no t_a0 (by decide)) rfl) rfl rfl hl.1 (Nat.le_of_ble_eq_true rfl) dX11_highest_2 ⟨Nat.le_of_ble_eq_true rfl, Nat.le_of_ble_eq_true rfl⟩) (fun v2 u H locs hz9 hH hS => ?_)
  obtain ⟨rfl, l_v2, u_v2, x_v20⟩ := hz9
  have hH : HT D cs A T O X H := hH
  refine W.widen (k := 0) (n := 0) (Nat.le_of_ble_eq_true rfl) (Nat.le_of_ble_eq_true rfl) ?_
  refine lv_if_ne (tgt := 11) hx hb dX11_highest_5 (by decide) (fun c5 => ?_) (fun c5 => ?_)
  · skip
    have tc5 := f_ne (k := 0) (by decide) c5
    refine lv_aload_n hx hb dX11_highest_11 rfl (lv_at hl 0 rfl) ?_
    refine lv_iload_n hx hb dX11_highest_12 rfl (lv_at hl 1 rfl) ?_
    refine tk_r hH hS hA (tr_V (n := 1) (As := [.int x1]) hx hb hml hown hts hkb hH hOX hks hE hS hA (s_FW_rowsOf l D cs kf T O X a0 w hw gw ch gq x1 t_a0 t_w t_ch (by omega) (by omega) (hO.sub (by decide))) kw_830 kw_832 ks_21 kw_1 kw_833 (by decide +kernel) ⟨Nat.le_of_ble_eq_true rfl, Nat.le_of_ble_eq_true rfl⟩ (HT.recv (ci := 11) hkb hH t_a0 (hO.no t_a0 (by decide)) rfl) rfl rfl hl.1 (Nat.le_of_ble_eq_true rfl) dX11_highest_13 ⟨Nat.le_of_ble_eq_true rfl, Nat.le_of_ble_eq_true rfl⟩) (fun v13 u H locs hz9 hH hS => ?_)
    obtain ⟨hu9, t_v13⟩ := hz9
    have hu9 : u = (T, O, X) := hu9
    subst hu9
    have hH : HT D cs A T O X H := hH
    refine W.widen (k := 0) (n := 0) (Nat.le_of_ble_eq_true rfl) (Nat.le_of_ble_eq_true rfl) ?_
    refine lv_aload_n hx hb dX11_highest_16 rfl (lv_at hl 0 rfl) ?_
    refine tk_i hH hS hA (tr_V (n := 0) (As := []) hx hb hml hown hts hkb hH hOX hks hE hS hA (s_FW_openNow l D cs kf T O X a0 w hw gw ch gq t_a0 t_w t_ch (hO.sub (by decide))) kw_846 kw_848 ks_22 kw_1 kw_849 (by decide +kernel) ⟨Nat.le_of_ble_eq_true rfl, Nat.le_of_ble_eq_true rfl⟩ (HT.recv (ci := 11) hkb hH t_a0 (hO.no t_a0 (by decide)) rfl) rfl rfl hl.1 (Nat.le_of_ble_eq_true rfl) dX11_highest_17 ⟨Nat.le_of_ble_eq_true rfl, Nat.le_of_ble_eq_true rfl⟩) (fun v17 u H locs hz9 hH hS => ?_)
    obtain ⟨rfl, l_v17, u_v17⟩ := hz9
    have hH : HT D cs A T O X H := hH
    refine W.widen (k := 0) (n := 0) (Nat.le_of_ble_eq_true rfl) (Nat.le_of_ble_eq_true rfl) ?_
    refine tk_i hH hS hA (tr_V (n := 1) (As := [.int v17]) hx hb hml hown hts hkb hH hOX hks hE hS hA (s_Rows_reached l D cs kf T O X v13 v17 t_v13 (hO.sub (by decide))) kw_850 kw_851 kw_852 kw_8 kw_853 (by decide +kernel) ⟨Nat.le_of_ble_eq_true rfl, Nat.le_of_ble_eq_true rfl⟩ (HT.recv (ci := 5) hkb hH t_v13 (hO.no t_v13 (by decide)) rfl) rfl rfl hl.1 (Nat.le_of_ble_eq_true rfl) dX11_highest_20 ⟨Nat.le_of_ble_eq_true rfl, Nat.le_of_ble_eq_true rfl⟩) (fun v20 u H locs hz9 hH hS => ?_)
    obtain ⟨rfl, l_v20, u_v20⟩ := hz9
    have hH : HT D cs A T O X H := hH
    refine W.widen (k := 0) (n := 0) (Nat.le_of_ble_eq_true rfl) (Nat.le_of_ble_eq_true rfl) ?_
    refine lv_istore_n (lv' := [(2, .int v20), (0, .ref a0), (1, .int x1)]) hx hb dX11_highest_23 rfl hl (by decide) rfl (fun ls hl => ?_)
    refine lv_iconst (v := (-1)) hx hb dX11_highest_24 (by decide) ?_
    refine lv_istore_n (lv' := [(3, .int (-1)), (2, .int v20), (0, .ref a0), (1, .int x1)]) hx hb dX11_highest_25 rfl hl (by decide) rfl (fun ls hl => ?_)
    refine lv_iconst (v := 0) hx hb dX11_highest_26 (by decide) ?_
    have J29 : ∀ (n : Nat) (p29_4 : Int32) (p29_3 : Int32) (H : Heap) (locs : List Loc) (ls : Array Slot), (14 - p29_4.toInt).toNat = n → (0 ≤ p29_4.toInt) → (p29_4.toInt ≤ 14) → (-1 ≤ p29_3.toInt) → HT D cs A T O X H → va_S A s.heap H locs → lv_has ls 5 [(4, .int p29_4), (3, .int p29_3), (2, .int v20), (0, .ref a0)] → W p l e { frames := 6, cells := 0, slots := 0, locals := 150 } s m [.ref a0, .int x1].toArray below meth c H locs 0 0 (MQ below (Ti D cs (fun r u => u = (T, O, X) ∧ -2 ≤ r.toInt) A) [.ref a0, .int x1].toArray s 0 0 A) (F0 m 29 ls []) := by
      intro n
      induction n using Nat.strongRecOn with
      | _ n ih29 =>
        intro p29_4 p29_3 H locs ls hm29 l_p29_4 u_p29_4 l_p29_3 hH hS hl
        refine lv_iload hx hb dX11_highest_29 (lv_at hl 0 rfl) ?_
        refine lv_aload_n hx hb dX11_highest_31 rfl (lv_at hl 3 rfl) ?_
        refine t_get (ci := 11) (lst := ft11 w ch) (C := RX11) (F := TX11) (N := 20) hx hb hts uX11 hown hkb hH t_a0 (hO.no t_a0 (by decide)) (fun _ h9 => h9) rfl rfl 3 (by decide) rfl kw_363 (fun _ h9 => h9) dX11_highest_32 (fun v9 h9 => ?_)
        have h9 : v9 = .ref w := h9
        subst h9
        refine t_get (ci := 9) (lst := ft9w hw gw) (C := RX9) (F := TX9) (N := 14) hx hb hts uX9 hown hkb hH t_w.1 (hO.no t_w.1 (by decide)) (fun fs => (ob9w t_w fs).mp) rfl rfl 0 (by decide) rfl kw_109 (fun _ h9 => h9) dX11_highest_35 (fun v9 h9 => ?_)
        have h9 : v9 = .int (nI hw) := h9
        subst h9
        have e_hw : (nI hw).toInt = hw := nI_toInt (by have := t_w.2.1; omega)
        have b_hw := t_w.2.1
        refine lv_icmp_ge (tgt := 71) hx hb dX11_highest_38 (by decide) (fun c38 => ?_) (fun c38 => ?_)
        · skip
          have fuc38 := full_i p29_4
          have fvc38 := full_i (nI hw)
          have tc38 := g_le c38
          refine lv_iload_n hx hb dX11_highest_71 rfl (lv_at hl 1 rfl) ?_
          exact te_i hx hb hr hlocks hH hS (⟨rfl, by omega⟩) dX11_highest_72
        · skip
          have fuc38 := full_i p29_4
          have fvc38 := full_i (nI hw)
          have tc38 := g_nle c38
          refine lv_iload_n hx hb dX11_highest_41 rfl (lv_at hl 2 rfl) ?_
          refine lv_iload hx hb dX11_highest_42 (lv_at hl 0 rfl) ?_
          refine lv_ishr hx hb dX11_highest_44 ?_
          refine lv_topi (fun v44 ev44 => ?_)
          have tv44 : 0 ≤ v44.toInt ∧ v44.toInt ≤ v20.toInt := by rw [ev44]; exact shr_b (by omega)
          refine lv_iconst (v := 1) hx hb dX11_highest_45 (by decide) ?_
          refine lv_iand hx hb dX11_highest_46 ?_
          refine lv_topi (fun v46 ev46 => ?_)
          have tv46 : 0 ≤ v46.toInt ∧ v46.toInt ≤ 1 := by rw [ev46]; exact and_r (by decide)
          have J65 : ∀ (p65_3 : Int32) (H : Heap) (locs : List Loc) (ls : Array Slot), (-1 ≤ p65_3.toInt) → HT D cs A T O X H → va_S A s.heap H locs → lv_has ls 5 [(4, .int p29_4), (3, .int p65_3), (2, .int v20), (0, .ref a0)] → W p l e { frames := 6, cells := 0, slots := 0, locals := 150 } s m [.ref a0, .int x1].toArray below meth c H locs 0 0 (MQ below (Ti D cs (fun r u => u = (T, O, X) ∧ -2 ≤ r.toInt) A) [.ref a0, .int x1].toArray s 0 0 A) (F0 m 65 ls []) := by
            intro p65_3 H locs ls l_p65_3 hH hS hl
            obtain ⟨v65, ev65⟩ : ∃ y : Int32, y = p29_4 + 1 := ⟨_, rfl⟩
            have tv65 : v65.toInt = p29_4.toInt + (1) := by rw [ev65]; exact add_i rfl (by decide) (by omega) (by omega)
            refine lv_iinc (v := v65) (lv' := [(4, .int v65), (3, .int p65_3), (2, .int v20), (0, .ref a0)]) hx hb dX11_highest_65 hl (k := 0) rfl (by rw [ev65]; rfl) (by decide) rfl (fun ls hl => ?_)
            refine lv_goto (tgt := 29) hx hb dX11_highest_68 (by decide) ?_
            exact ih29 _ (by omega) v65 p65_3 _ _ _ rfl (by omega) (by omega) (by omega) hH hS (lv_sub hl [0, 1, 2, 3] rfl)
          refine lv_if_eq (tgt := 65) hx hb dX11_highest_47 (by decide) (fun c47 => ?_) (fun c47 => ?_)
          · skip
            have tc47 := f_eq (k := 0) (by decide) c47
            exact J65 p29_3 _ _ _ (by omega) hH hS (lv_sub hl [0, 1, 2, 3] rfl)
          · skip
            have tc47 := f_ne (k := 0) (by decide) c47
            refine lv_iload_n hx hb dX11_highest_50 rfl (lv_at hl 1 rfl) ?_
            refine lv_aload_n hx hb dX11_highest_51 rfl (lv_at hl 3 rfl) ?_
            refine t_get (ci := 11) (lst := ft11 w ch) (C := RX11) (F := TX11) (N := 20) hx hb hts uX11 hown hkb hH t_a0 (hO.no t_a0 (by decide)) (fun _ h9 => h9) rfl rfl 3 (by decide) rfl kw_363 (fun _ h9 => h9) dX11_highest_52 (fun v9 h9 => ?_)
            have h9 : v9 = .ref w := h9
            subst h9
            refine t_get (ci := 9) (lst := ft9w hw gw) (C := RX9) (F := TX9) (N := 14) hx hb hts uX9 hown hkb hH t_w.1 (hO.no t_w.1 (by decide)) (fun fs => (ob9w t_w fs).mp) rfl rfl 7 (by decide) rfl kw_137 (fun _ h9 => h9) dX11_highest_55 (fun v9 h9 => ?_)
            obtain ⟨v55, rfl, t_v55⟩ := h9
            refine lv_iload hx hb dX11_highest_58 (lv_at hl 0 rfl) ?_
            refine t_ild hx hb hkb hH t_v55 (hO.no t_v55 (by decide)) (by omega) (by omega) dX11_highest_60 (fun v60 h9 => ?_)
            refine va_mmax hx hb (by rw [hml]; exact hl.1.symm) hown (hts _ kw_1105) (hts _ kw_100) (hts _ kw_6) (hts _ kw_101) (Nat.le_of_ble_eq_true rfl) (Nat.le_of_ble_eq_true rfl) (Nat.le_of_ble_eq_true rfl) (Nat.le_of_ble_eq_true rfl) dX11_highest_61 ?_
            refine lv_topi (fun v61 ev61 => ?_)
            have tv61 : v61.toInt = max p29_3.toInt v60.toInt := by rw [ev61]; exact max_i rfl rfl
            refine lv_istore_n (lv' := [(3, .int v61), (4, .int p29_4), (2, .int v20), (0, .ref a0)]) hx hb dX11_highest_64 rfl hl (by decide) rfl (fun ls hl => ?_)
            exact J65 v61 _ _ _ (by omega) hH hS (lv_sub hl [1, 0, 2, 3] rfl)
    refine lv_istore (lv' := [(4, .int 0), (3, .int (-1)), (2, .int v20), (0, .ref a0), (1, .int x1)]) hx hb dX11_highest_27 hl (by decide) rfl (fun ls hl => ?_)
    exact J29 _ 0 (-1) _ _ _ rfl (by decide) (by decide) (by decide) hH hS (lv_sub hl [0, 1, 2, 3] rfl)
  · skip
    have tc5 := f_eq (k := 0) (by decide) c5
    refine lv_bipush (v := (-2)) hx hb dX11_highest_8 (by decide) ?_
    exact te_i hx hb hr hlocks hH hS (⟨rfl, by decide⟩) dX11_highest_10
set_option maxHeartbeats 4000000 in
set_option maxRecDepth 100000 in
theorem s_FW_together (l : Launch) (D : va_G) (cs : CS) (kf : KF) (T : TF) (O : List Nat) (X : va_W) (a0 w hw gw ch gq : Nat) (x1 : Int32) (x2 : Int32) (t_a0 : T a0 = some (21, w, ch)) (t_w : isW T w hw gw) (t_ch : T ch = some (10, gq, 0)) (hO : okO T O [1, 7, 12, 15, 16, 19, 21]) : TK l D cs kf yX11_together cX11_together 11 (some (.int)) { frames := 6, cells := 0, slots := 0, locals := 150 } [.ref a0, .int x1, .int x2] T O X (Ti D cs (fun r u => u = (T, O, X) ∧ -2 ≤ r.toInt ∧ r.toInt ≤ 1)) := by
  refine tk_of (by decide) (Nat.le_of_ble_eq_true rfl) (fun p e s m below meth c ls A H locs hx hb hr hml hown hts hlocks hnm hkb hH hS hA hOX hks hE hl => ?_)
  have hown : s.vm.findClass RX11 = some m.cls := hown
  have hl : lv_has ls 11 [(0, .ref a0), (1, .int x1), (2, .int x2)] := hl
  have b1_w := t_w.2.1
  have b2_w := t_w.2.2
  refine lv_aload_n hx hb dX11_together_0 rfl (lv_at hl 0 rfl) ?_
  refine lv_iload_n hx hb dX11_together_1 rfl (lv_at hl 1 rfl) ?_
  refine tk_i hH hS hA (tr_V (n := 1) (As := [.int x1]) hx hb hml hown hts hkb hH hOX hks hE hS hA (s_FW_isGuide l D cs kf T O X a0 w hw gw ch gq x1 t_a0 t_w t_ch (hO.sub (by decide))) kw_794 kw_796 ks_20 kw_1 kw_797 (by decide +kernel) ⟨Nat.le_of_ble_eq_true rfl, Nat.le_of_ble_eq_true rfl⟩ (HT.recv (ci := 11) hkb hH t_a0 (hO.no t_a0 (by decide)) rfl) rfl rfl hl.1 (Nat.le_of_ble_eq_true rfl) dX11_together_2 ⟨Nat.le_of_ble_eq_true rfl, Nat.le_of_ble_eq_true rfl⟩) (fun v2 u H locs hz9 hH hS => ?_)
  obtain ⟨rfl, l_v2, u_v2, x_v20⟩ := hz9
  have hH : HT D cs A T O X H := hH
  refine W.widen (k := 0) (n := 0) (Nat.le_of_ble_eq_true rfl) (Nat.le_of_ble_eq_true rfl) ?_
  have J16 : ∀  (H : Heap) (locs : List Loc) (ls : Array Slot), HT D cs A T O X H → va_S A s.heap H locs → lv_has ls 11 [] → W p l e { frames := 6, cells := 0, slots := 0, locals := 150 } s m [.ref a0, .int x1, .int x2].toArray below meth c H locs 0 0 (MQ below (Ti D cs (fun r u => u = (T, O, X) ∧ -2 ≤ r.toInt ∧ r.toInt ≤ 1) A) [.ref a0, .int x1, .int x2].toArray s 0 0 A) (F0 m 16 ls []) := by
    intro  H locs ls  hH hS hl
    refine lv_bipush (v := (-2)) hx hb dX11_together_16 (by decide) ?_
    exact te_i hx hb hr hlocks hH hS (⟨rfl, by decide, by decide⟩) dX11_together_18
  refine lv_if_eq (tgt := 16) hx hb dX11_together_5 (by decide) (fun c5 => ?_) (fun c5 => ?_)
  · skip
    have tc5 := f_eq (k := 0) (by decide) c5
    exact J16  _ _ _  hH hS (lv_sub hl [] rfl)
  · skip
    have tc5 := f_ne (k := 0) (by decide) c5
    refine lv_aload_n hx hb dX11_together_8 rfl (lv_at hl 0 rfl) ?_
    refine lv_iload_n hx hb dX11_together_9 rfl (lv_at hl 2 rfl) ?_
    refine tk_i hH hS hA (tr_V (n := 1) (As := [.int x2]) hx hb hml hown hts hkb hH hOX hks hE hS hA (s_FW_isGuide l D cs kf T O X a0 w hw gw ch gq x2 t_a0 t_w t_ch (hO.sub (by decide))) kw_794 kw_796 ks_20 kw_1 kw_797 (by decide +kernel) ⟨Nat.le_of_ble_eq_true rfl, Nat.le_of_ble_eq_true rfl⟩ (HT.recv (ci := 11) hkb hH t_a0 (hO.no t_a0 (by decide)) rfl) rfl rfl hl.1 (Nat.le_of_ble_eq_true rfl) dX11_together_10 ⟨Nat.le_of_ble_eq_true rfl, Nat.le_of_ble_eq_true rfl⟩) (fun v10 u H locs hz9 hH hS => ?_)
    obtain ⟨rfl, l_v10, u_v10, x_v100⟩ := hz9
    have hH : HT D cs A T O X H := hH
    refine W.widen (k := 0) (n := 0) (Nat.le_of_ble_eq_true rfl) (Nat.le_of_ble_eq_true rfl) ?_
    refine lv_if_ne (tgt := 19) hx hb dX11_together_13 (by decide) (fun c13 => ?_) (fun c13 => ?_)
    · skip
      have tc13 := f_ne (k := 0) (by decide) c13
      refine lv_aload_n hx hb dX11_together_19 rfl (lv_at hl 0 rfl) ?_
      refine lv_iload_n hx hb dX11_together_20 rfl (lv_at hl 1 rfl) ?_
      refine tk_r hH hS hA (tr_V (n := 1) (As := [.int x1]) hx hb hml hown hts hkb hH hOX hks hE hS hA (s_FW_rowsOf l D cs kf T O X a0 w hw gw ch gq x1 t_a0 t_w t_ch (by omega) (by omega) (hO.sub (by decide))) kw_830 kw_832 ks_21 kw_1 kw_833 (by decide +kernel) ⟨Nat.le_of_ble_eq_true rfl, Nat.le_of_ble_eq_true rfl⟩ (HT.recv (ci := 11) hkb hH t_a0 (hO.no t_a0 (by decide)) rfl) rfl rfl hl.1 (Nat.le_of_ble_eq_true rfl) dX11_together_21 ⟨Nat.le_of_ble_eq_true rfl, Nat.le_of_ble_eq_true rfl⟩) (fun v21 u H locs hz9 hH hS => ?_)
      obtain ⟨hu9, t_v21⟩ := hz9
      have hu9 : u = (T, O, X) := hu9
      subst hu9
      have hH : HT D cs A T O X H := hH
      refine W.widen (k := 0) (n := 0) (Nat.le_of_ble_eq_true rfl) (Nat.le_of_ble_eq_true rfl) ?_
      refine lv_astore_n (lv' := [(3, .ref v21), (0, .ref a0), (1, .int x1), (2, .int x2)]) hx hb dX11_together_24 rfl hl (by decide) rfl (fun ls hl => ?_)
      refine lv_aload_n hx hb dX11_together_25 rfl (lv_at hl 1 rfl) ?_
      refine lv_iload_n hx hb dX11_together_26 rfl (lv_at hl 3 rfl) ?_
      refine tk_r hH hS hA (tr_V (n := 1) (As := [.int x2]) hx hb hml hown hts hkb hH hOX hks hE hS hA (s_FW_rowsOf l D cs kf T O X a0 w hw gw ch gq x2 t_a0 t_w t_ch (by omega) (by omega) (hO.sub (by decide))) kw_830 kw_832 ks_21 kw_1 kw_833 (by decide +kernel) ⟨Nat.le_of_ble_eq_true rfl, Nat.le_of_ble_eq_true rfl⟩ (HT.recv (ci := 11) hkb hH t_a0 (hO.no t_a0 (by decide)) rfl) rfl rfl hl.1 (Nat.le_of_ble_eq_true rfl) dX11_together_27 ⟨Nat.le_of_ble_eq_true rfl, Nat.le_of_ble_eq_true rfl⟩) (fun v27 u H locs hz9 hH hS => ?_)
      obtain ⟨hu9, t_v27⟩ := hz9
      have hu9 : u = (T, O, X) := hu9
      subst hu9
      have hH : HT D cs A T O X H := hH
      refine W.widen (k := 0) (n := 0) (Nat.le_of_ble_eq_true rfl) (Nat.le_of_ble_eq_true rfl) ?_
      refine lv_astore (lv' := [(4, .ref v27), (3, .ref v21), (0, .ref a0), (1, .int x1), (2, .int x2)]) hx hb dX11_together_30 hl (by decide) rfl (fun ls hl => ?_)
      refine lv_aload_n hx hb dX11_together_32 rfl (lv_at hl 2 rfl) ?_
      refine tk_i hH hS hA (tr_V (n := 0) (As := []) hx hb hml hown hts hkb hH hOX hks hE hS hA (s_FW_openNow l D cs kf T O X a0 w hw gw ch gq t_a0 t_w t_ch (hO.sub (by decide))) kw_846 kw_848 ks_22 kw_1 kw_849 (by decide +kernel) ⟨Nat.le_of_ble_eq_true rfl, Nat.le_of_ble_eq_true rfl⟩ (HT.recv (ci := 11) hkb hH t_a0 (hO.no t_a0 (by decide)) rfl) rfl rfl hl.1 (Nat.le_of_ble_eq_true rfl) dX11_together_33 ⟨Nat.le_of_ble_eq_true rfl, Nat.le_of_ble_eq_true rfl⟩) (fun v33 u H locs hz9 hH hS => ?_)
      obtain ⟨rfl, l_v33, u_v33⟩ := hz9
      have hH : HT D cs A T O X H := hH
      refine W.widen (k := 0) (n := 0) (Nat.le_of_ble_eq_true rfl) (Nat.le_of_ble_eq_true rfl) ?_
      refine lv_istore (lv' := [(5, .int v33), (4, .ref v27), (3, .ref v21), (0, .ref a0), (1, .int x1), (2, .int x2)]) hx hb dX11_together_36 hl (by decide) rfl (fun ls hl => ?_)
      refine lv_iload hx hb dX11_together_38 (lv_at hl 0 rfl) ?_
      refine lv_aload_n hx hb dX11_together_40 rfl (lv_at hl 3 rfl) ?_
      refine t_get (ci := 11) (lst := ft11 w ch) (C := RX11) (F := TX11) (N := 20) hx hb hts uX11 hown hkb hH t_a0 (hO.no t_a0 (by decide)) (fun _ h9 => h9) rfl rfl 3 (by decide) rfl kw_363 (fun _ h9 => h9) dX11_together_41 (fun v9 h9 => ?_)
      have h9 : v9 = .ref w := h9
      subst h9
      refine tk_i hH hS hA (tr_V (n := 0) (As := []) hx hb hml hown hts hkb hH hOX hks hE hS hA (s_Wall_middles l D cs kf T O X w hw gw t_w (hO.sub (by decide))) kw_892 kw_683 kw_684 kw_5 kw_685 (by decide +kernel) ⟨Nat.le_of_ble_eq_true rfl, Nat.le_of_ble_eq_true rfl⟩ (HT.recv (ci := 9) hkb hH t_w.1 (hO.no t_w.1 (by decide)) rfl) rfl rfl hl.1 (Nat.le_of_ble_eq_true rfl) dX11_together_44 ⟨Nat.le_of_ble_eq_true rfl, Nat.le_of_ble_eq_true rfl⟩) (fun v44 u H locs hz9 hH hS => ?_)
      obtain ⟨rfl, l_v44, u_v44⟩ := hz9
      have hH : HT D cs A T O X H := hH
      refine W.widen (k := 0) (n := 0) (Nat.le_of_ble_eq_true rfl) (Nat.le_of_ble_eq_true rfl) ?_
      refine lv_iand hx hb dX11_together_47 ?_
      refine lv_topi (fun v47 ev47 => ?_)
      have tv47 : 0 ≤ v47.toInt ∧ v47.toInt ≤ v33.toInt := by rw [ev47]; exact and_l (by omega)
      have ttv47 : 0 ≤ v47.toInt ∧ v47.toInt ≤ v44.toInt := by rw [ev47]; exact and_r (by omega)
      refine lv_istore (lv' := [(6, .int v47), (5, .int v33), (4, .ref v27), (3, .ref v21), (0, .ref a0), (1, .int x1), (2, .int x2)]) hx hb dX11_together_48 hl (by decide) rfl (fun ls hl => ?_)
      refine lv_iload hx hb dX11_together_50 (lv_at hl 1 rfl) ?_
      refine lv_iload hx hb dX11_together_52 (lv_at hl 0 rfl) ?_
      refine lv_iconst (v := (-1)) hx hb dX11_together_54 (by decide) ?_
      refine lv_ixor hx hb dX11_together_55 ?_
      refine lv_topi (fun v55 ev55 => ?_)
      refine lv_iand hx hb dX11_together_56 ?_
      refine lv_topi (fun v56 ev56 => ?_)
      have tv56 : 0 ≤ v56.toInt ∧ v56.toInt ≤ v33.toInt := by rw [ev56]; exact and_l (by omega)
      refine lv_istore (lv' := [(7, .int v56), (6, .int v47), (5, .int v33), (4, .ref v27), (3, .ref v21), (0, .ref a0), (1, .int x1), (2, .int x2)]) hx hb dX11_together_57 hl (by decide) rfl (fun ls hl => ?_)
      refine lv_aload_n hx hb dX11_together_59 rfl (lv_at hl 4 rfl) ?_
      refine lv_iload hx hb dX11_together_60 (lv_at hl 2 rfl) ?_
      refine tk_i hH hS hA (tr_V (n := 1) (As := [.int v33]) hx hb hml hown hts hkb hH hOX hks hE hS hA (s_Rows_getsUp l D cs kf T O X v21 v33 t_v21 (hO.sub (by decide))) kw_1059 kw_1060 kw_1061 kw_8 kw_1062 (by decide +kernel) ⟨Nat.le_of_ble_eq_true rfl, Nat.le_of_ble_eq_true rfl⟩ (HT.recv (ci := 5) hkb hH t_v21 (hO.no t_v21 (by decide)) rfl) rfl rfl hl.1 (Nat.le_of_ble_eq_true rfl) dX11_together_62 ⟨Nat.le_of_ble_eq_true rfl, Nat.le_of_ble_eq_true rfl⟩) (fun v62 u H locs hz9 hH hS => ?_)
      obtain ⟨rfl, l_v62, u_v62⟩ := hz9
      have hH : HT D cs A T O X H := hH
      refine W.widen (k := 0) (n := 0) (Nat.le_of_ble_eq_true rfl) (Nat.le_of_ble_eq_true rfl) ?_
      have J78 : ∀  (H : Heap) (locs : List Loc) (ls : Array Slot), HT D cs A T O X H → va_S A s.heap H locs → lv_has ls 11 [] → W p l e { frames := 6, cells := 0, slots := 0, locals := 150 } s m [.ref a0, .int x1, .int x2].toArray below meth c H locs 0 0 (MQ below (Ti D cs (fun r u => u = (T, O, X) ∧ -2 ≤ r.toInt ∧ r.toInt ≤ 1) A) [.ref a0, .int x1, .int x2].toArray s 0 0 A) (F0 m 78 ls []) := by
        intro  H locs ls  hH hS hl
        refine lv_iconst (v := 0) hx hb dX11_together_78 (by decide) ?_
        exact te_i hx hb hr hlocks hH hS (⟨rfl, by decide, by decide⟩) dX11_together_79
      refine lv_if_eq (tgt := 78) hx hb dX11_together_65 (by decide) (fun c65 => ?_) (fun c65 => ?_)
      · skip
        have tc65 := f_eq (k := 0) (by decide) c65
        exact J78  _ _ _  hH hS (lv_sub hl [] rfl)
      · skip
        have tc65 := f_ne (k := 0) (by decide) c65
        refine lv_aload hx hb dX11_together_68 (lv_at hl 3 rfl) ?_
        refine lv_iload hx hb dX11_together_70 (lv_at hl 2 rfl) ?_
        refine tk_i hH hS hA (tr_V (n := 1) (As := [.int v33]) hx hb hml hown hts hkb hH hOX hks hE hS hA (s_Rows_getsUp l D cs kf T O X v27 v33 t_v27 (hO.sub (by decide))) kw_1059 kw_1060 kw_1061 kw_8 kw_1062 (by decide +kernel) ⟨Nat.le_of_ble_eq_true rfl, Nat.le_of_ble_eq_true rfl⟩ (HT.recv (ci := 5) hkb hH t_v27 (hO.no t_v27 (by decide)) rfl) rfl rfl hl.1 (Nat.le_of_ble_eq_true rfl) dX11_together_72 ⟨Nat.le_of_ble_eq_true rfl, Nat.le_of_ble_eq_true rfl⟩) (fun v72 u H locs hz9 hH hS => ?_)
        obtain ⟨rfl, l_v72, u_v72⟩ := hz9
        have hH : HT D cs A T O X H := hH
        refine W.widen (k := 0) (n := 0) (Nat.le_of_ble_eq_true rfl) (Nat.le_of_ble_eq_true rfl) ?_
        refine lv_if_ne (tgt := 80) hx hb dX11_together_75 (by decide) (fun c75 => ?_) (fun c75 => ?_)
        · skip
          have tc75 := f_ne (k := 0) (by decide) c75
          refine lv_iconst (v := 1) hx hb dX11_together_80 (by decide) ?_
          refine lv_iload hx hb dX11_together_81 (lv_at hl 1 rfl) ?_
          refine tk_i hH hS hA (tr_S (n := 1) (As := [.int v47]) hx hb hml hown hts hkb hH hOX hks hE hS hA (s_bitCount l D cs kf T O X v47  (hO.sub (by decide))) kw_893 kw_692 kw_20 kw_693 (by decide +kernel) ⟨Nat.le_of_ble_eq_true rfl, Nat.le_of_ble_eq_true rfl⟩ rfl rfl hl.1 (Nat.le_of_ble_eq_true rfl) dX11_together_83 ⟨Nat.le_of_ble_eq_true rfl, Nat.le_of_ble_eq_true rfl⟩) (fun v83 u H locs hz9 hH hS => ?_)
          obtain ⟨rfl, l_v83, u_v83⟩ := hz9
          have hH : HT D cs A T O X H := hH
          refine W.widen (k := 0) (n := 0) (Nat.le_of_ble_eq_true rfl) (Nat.le_of_ble_eq_true rfl) ?_
          refine lv_ishl hx hb dX11_together_86 ?_
          refine lv_topi (fun v86 ev86 => ?_)
          refine lv_istore (lv' := [(8, .int v86), (7, .int v56), (6, .int v47), (5, .int v33), (4, .ref v27), (3, .ref v21), (0, .ref a0), (1, .int x1), (2, .int x2)]) hx hb dX11_together_87 hl (by decide) rfl (fun ls hl => ?_)
          refine lv_iconst (v := 0) hx hb dX11_together_89 (by decide) ?_
          refine lv_istore (lv' := [(9, .int 0), (8, .int v86), (7, .int v56), (6, .int v47), (5, .int v33), (4, .ref v27), (3, .ref v21), (0, .ref a0), (1, .int x1), (2, .int x2)]) hx hb dX11_together_90 hl (by decide) rfl (fun ls hl => ?_)
          refine lv_iconst (v := 0) hx hb dX11_together_92 (by decide) ?_
          have J95 : ∀ (n : Nat) (p95_10 : Int32) (p95_9 : Int32) (H : Heap) (locs : List Loc) (ls : Array Slot), (2147483647 - p95_10.toInt).toNat = n → (0 ≤ p95_10.toInt) → (0 ≤ p95_9.toInt) → (p95_9.toInt ≤ 16383) → HT D cs A T O X H → va_S A s.heap H locs → lv_has ls 11 [(10, .int p95_10), (9, .int p95_9), (8, .int v86), (7, .int v56), (6, .int v47), (4, .ref v27), (3, .ref v21)] → W p l e { frames := 6, cells := 0, slots := 0, locals := 150 } s m [.ref a0, .int x1, .int x2].toArray below meth c H locs 0 0 (MQ below (Ti D cs (fun r u => u = (T, O, X) ∧ -2 ≤ r.toInt ∧ r.toInt ≤ 1) A) [.ref a0, .int x1, .int x2].toArray s 0 0 A) (F0 m 95 ls []) := by
            intro n
            induction n using Nat.strongRecOn with
            | _ n ih95 =>
              intro p95_10 p95_9 H locs ls hm95 l_p95_10 l_p95_9 u_p95_9 hH hS hl
              refine lv_iload hx hb dX11_together_95 (lv_at hl 0 rfl) ?_
              refine lv_iload hx hb dX11_together_97 (lv_at hl 2 rfl) ?_
              refine lv_icmp_ge (tgt := 150) hx hb dX11_together_99 (by decide) (fun c99 => ?_) (fun c99 => ?_)
              · skip
                have fuc99 := full_i p95_10
                have fvc99 := full_i v86
                have tc99 := g_le c99
                refine lv_iconst (v := 0) hx hb dX11_together_150 (by decide) ?_
                exact te_i hx hb hr hlocks hH hS (⟨rfl, by decide, by decide⟩) dX11_together_151
              · skip
                have fuc99 := full_i p95_10
                have fvc99 := full_i v86
                have tc99 := g_nle c99
                refine lv_aload_n hx hb dX11_together_102 rfl (lv_at hl 6 rfl) ?_
                refine lv_iload hx hb dX11_together_103 (lv_at hl 3 rfl) ?_
                refine lv_iload hx hb dX11_together_105 (lv_at hl 1 rfl) ?_
                refine lv_ior hx hb dX11_together_107 ?_
                refine lv_topi (fun v107 ev107 => ?_)
                have tv107 : 0 ≤ v107.toInt ∧ v107.toInt < 16384 := by rw [ev107]; exact or_b 14 (by decide) (by omega) (by omega) (by omega) (by omega)
                refine tk_i hH hS hA (tr_V (n := 1) (As := [.int v107]) hx hb hml hown hts hkb hH hOX hks hE hS hA (s_Rows_getsUp l D cs kf T O X v21 v107 t_v21 (hO.sub (by decide))) kw_1059 kw_1060 kw_1061 kw_8 kw_1062 (by decide +kernel) ⟨Nat.le_of_ble_eq_true rfl, Nat.le_of_ble_eq_true rfl⟩ (HT.recv (ci := 5) hkb hH t_v21 (hO.no t_v21 (by decide)) rfl) rfl rfl hl.1 (Nat.le_of_ble_eq_true rfl) dX11_together_108 ⟨Nat.le_of_ble_eq_true rfl, Nat.le_of_ble_eq_true rfl⟩) (fun v108 u H locs hz9 hH hS => ?_)
                obtain ⟨rfl, l_v108, u_v108⟩ := hz9
                have hH : HT D cs A T O X H := hH
                refine W.widen (k := 0) (n := 0) (Nat.le_of_ble_eq_true rfl) (Nat.le_of_ble_eq_true rfl) ?_
                have J134 : ∀  (H : Heap) (locs : List Loc) (ls : Array Slot), HT D cs A T O X H → va_S A s.heap H locs → lv_has ls 11 [(10, .int p95_10), (9, .int p95_9), (8, .int v86), (7, .int v56), (6, .int v47), (4, .ref v27), (3, .ref v21)] → W p l e { frames := 6, cells := 0, slots := 0, locals := 150 } s m [.ref a0, .int x1, .int x2].toArray below meth c H locs 0 0 (MQ below (Ti D cs (fun r u => u = (T, O, X) ∧ -2 ≤ r.toInt ∧ r.toInt ≤ 1) A) [.ref a0, .int x1, .int x2].toArray s 0 0 A) (F0 m 134 ls []) := by
                  intro  H locs ls  hH hS hl
                  refine lv_iload hx hb dX11_together_134 (lv_at hl 1 rfl) ?_
                  refine lv_iload hx hb dX11_together_136 (lv_at hl 4 rfl) ?_
                  refine lv_isub hx hb dX11_together_138 ?_
                  refine lv_topi (fun v138 ev138 => ?_)
                  have tv138 : v138.toInt = p95_9.toInt - v47.toInt := by rw [ev138]; exact sub_i rfl rfl (by omega) (by omega)
                  refine lv_iload hx hb dX11_together_139 (lv_at hl 4 rfl) ?_
                  refine lv_iand hx hb dX11_together_141 ?_
                  refine lv_topi (fun v141 ev141 => ?_)
                  have tv141 : 0 ≤ v141.toInt ∧ v141.toInt ≤ v47.toInt := by rw [ev141]; exact and_r (by omega)
                  refine lv_istore (lv' := [(9, .int v141), (10, .int p95_10), (8, .int v86), (7, .int v56), (6, .int v47), (4, .ref v27), (3, .ref v21)]) hx hb dX11_together_142 hl (by decide) rfl (fun ls hl => ?_)
                  obtain ⟨v144, ev144⟩ : ∃ y : Int32, y = p95_10 + 1 := ⟨_, rfl⟩
                  have tv144 : v144.toInt = p95_10.toInt + (1) := by rw [ev144]; exact add_i rfl (by decide) (by omega) (by omega)
                  refine lv_iinc (v := v144) (lv' := [(10, .int v144), (9, .int v141), (8, .int v86), (7, .int v56), (6, .int v47), (4, .ref v27), (3, .ref v21)]) hx hb dX11_together_144 hl (k := 1) rfl (by rw [ev144]; rfl) (by decide) rfl (fun ls hl => ?_)
                  refine lv_goto (tgt := 95) hx hb dX11_together_147 (by decide) ?_
                  exact ih95 _ (by omega) v144 v141 _ _ _ rfl (by omega) (by omega) (by omega) hH hS (lv_sub hl [0, 1, 2, 3, 4, 5, 6] rfl)
                refine lv_if_eq (tgt := 134) hx hb dX11_together_111 (by decide) (fun c111 => ?_) (fun c111 => ?_)
                · skip
                  have tc111 := f_eq (k := 0) (by decide) c111
                  exact J134  _ _ _  hH hS (lv_sub hl [0, 1, 2, 3, 4, 5, 6] rfl)
                · skip
                  have tc111 := f_ne (k := 0) (by decide) c111
                  refine lv_aload hx hb dX11_together_114 (lv_at hl 5 rfl) ?_
                  refine lv_iload hx hb dX11_together_116 (lv_at hl 3 rfl) ?_
                  refine lv_iload hx hb dX11_together_118 (lv_at hl 4 rfl) ?_
                  refine lv_iload hx hb dX11_together_120 (lv_at hl 1 rfl) ?_
                  refine lv_iconst (v := (-1)) hx hb dX11_together_122 (by decide) ?_
                  refine lv_ixor hx hb dX11_together_123 ?_
                  refine lv_topi (fun v123 ev123 => ?_)
                  refine lv_iand hx hb dX11_together_124 ?_
                  refine lv_topi (fun v124 ev124 => ?_)
                  have tv124 : 0 ≤ v124.toInt ∧ v124.toInt ≤ v47.toInt := by rw [ev124]; exact and_l (by omega)
                  refine lv_ior hx hb dX11_together_125 ?_
                  refine lv_topi (fun v125 ev125 => ?_)
                  have tv125 : 0 ≤ v125.toInt ∧ v125.toInt < 16384 := by rw [ev125]; exact or_b 14 (by decide) (by omega) (by omega) (by omega) (by omega)
                  refine tk_i hH hS hA (tr_V (n := 1) (As := [.int v125]) hx hb hml hown hts hkb hH hOX hks hE hS hA (s_Rows_getsUp l D cs kf T O X v27 v125 t_v27 (hO.sub (by decide))) kw_1059 kw_1060 kw_1061 kw_8 kw_1062 (by decide +kernel) ⟨Nat.le_of_ble_eq_true rfl, Nat.le_of_ble_eq_true rfl⟩ (HT.recv (ci := 5) hkb hH t_v27 (hO.no t_v27 (by decide)) rfl) rfl rfl hl.1 (Nat.le_of_ble_eq_true rfl) dX11_together_126 ⟨Nat.le_of_ble_eq_true rfl, Nat.le_of_ble_eq_true rfl⟩) (fun v126 u H locs hz9 hH hS => ?_)
                  obtain ⟨rfl, l_v126, u_v126⟩ := hz9
                  have hH : HT D cs A T O X H := hH
                  refine W.widen (k := 0) (n := 0) (Nat.le_of_ble_eq_true rfl) (Nat.le_of_ble_eq_true rfl) ?_
                  refine lv_if_eq (tgt := 134) hx hb dX11_together_129 (by decide) (fun c129 => ?_) (fun c129 => ?_)
                  · skip
                    have tc129 := f_eq (k := 0) (by decide) c129
                    exact J134  _ _ _  hH hS (lv_sub hl [0, 1, 2, 3, 4, 5, 6] rfl)
                  · skip
                    have tc129 := f_ne (k := 0) (by decide) c129
                    refine lv_iconst (v := 1) hx hb dX11_together_132 (by decide) ?_
                    exact te_i hx hb hr hlocks hH hS (⟨rfl, by decide, by decide⟩) dX11_together_133
          refine lv_istore (lv' := [(10, .int 0), (9, .int 0), (8, .int v86), (7, .int v56), (6, .int v47), (5, .int v33), (4, .ref v27), (3, .ref v21), (0, .ref a0), (1, .int x1), (2, .int x2)]) hx hb dX11_together_93 hl (by decide) rfl (fun ls hl => ?_)
          exact J95 _ 0 0 _ _ _ rfl (by decide) (by decide) (by decide) hH hS (lv_sub hl [0, 1, 2, 3, 4, 6, 7] rfl)
        · skip
          have tc75 := f_eq (k := 0) (by decide) c75
          exact J78  _ _ _  hH hS (lv_sub hl [] rfl)
    · skip
      have tc13 := f_eq (k := 0) (by decide) c13
      exact J16  _ _ _  hH hS (lv_sub hl [] rfl)
set_option maxHeartbeats 4000000 in
set_option maxRecDepth 100000 in
theorem s_FW_leastLeg (l : Launch) (D : va_G) (cs : CS) (kf : KF) (T : TF) (O : List Nat) (X : va_W) (a0 w hw gw ch gq : Nat) (x1 : Int32) (t_a0 : T a0 = some (21, w, ch)) (t_w : isW T w hw gw) (t_ch : T ch = some (10, gq, 0)) (hO : okO T O [1, 12, 15, 16, 19, 21]) : TK l D cs kf yX11_leastLeg cX11_leastLeg 4 (some (.int)) { frames := 6, cells := 0, slots := 0, locals := 150 } [.ref a0, .int x1] T O X (Ti D cs (fun r u => u = (T, O, X) ∧ -2 ≤ r.toInt ∧ r.toInt ≤ 99)) := by
  refine tk_of (by decide) (Nat.le_of_ble_eq_true rfl) (fun p e s m below meth c ls A H locs hx hb hr hml hown hts hlocks hnm hkb hH hS hA hOX hks hE hl => ?_)
  have hown : s.vm.findClass RX11 = some m.cls := hown
  have hl : lv_has ls 4 [(0, .ref a0), (1, .int x1)] := hl
  have b1_w := t_w.2.1
  have b2_w := t_w.2.2
  refine lv_aload_n hx hb dX11_leastLeg_0 rfl (lv_at hl 0 rfl) ?_
  refine lv_iload_n hx hb dX11_leastLeg_1 rfl (lv_at hl 1 rfl) ?_
  refine tk_i hH hS hA (tr_V (n := 1) (As := [.int x1]) hx hb hml hown hts hkb hH hOX hks hE hS hA (s_FW_isGuide l D cs kf T O X a0 w hw gw ch gq x1 t_a0 t_w t_ch (hO.sub (by decide))) kw_794 kw_796 ks_20 kw_1 kw_797 (by decide +kernel) ⟨Nat.le_of_ble_eq_true rfl, Nat.le_of_ble_eq_true rfl⟩ (HT.recv (ci := 11) hkb hH t_a0 (hO.no t_a0 (by decide)) rfl) rfl rfl hl.1 (Nat.le_of_ble_eq_true rfl) dX11_leastLeg_2 ⟨Nat.le_of_ble_eq_true rfl, Nat.le_of_ble_eq_true rfl⟩) (fun v2 u H locs hz9 hH hS => ?_)
  obtain ⟨rfl, l_v2, u_v2, x_v20⟩ := hz9
  have hH : HT D cs A T O X H := hH
  refine W.widen (k := 0) (n := 0) (Nat.le_of_ble_eq_true rfl) (Nat.le_of_ble_eq_true rfl) ?_
  refine lv_if_ne (tgt := 11) hx hb dX11_leastLeg_5 (by decide) (fun c5 => ?_) (fun c5 => ?_)
  · skip
    have tc5 := f_ne (k := 0) (by decide) c5
    refine lv_aload_n hx hb dX11_leastLeg_11 rfl (lv_at hl 0 rfl) ?_
    refine tk_i hH hS hA (tr_V (n := 0) (As := []) hx hb hml hown hts hkb hH hOX hks hE hS hA (s_FW_openNow l D cs kf T O X a0 w hw gw ch gq t_a0 t_w t_ch (hO.sub (by decide))) kw_846 kw_848 ks_22 kw_1 kw_849 (by decide +kernel) ⟨Nat.le_of_ble_eq_true rfl, Nat.le_of_ble_eq_true rfl⟩ (HT.recv (ci := 11) hkb hH t_a0 (hO.no t_a0 (by decide)) rfl) rfl rfl hl.1 (Nat.le_of_ble_eq_true rfl) dX11_leastLeg_12 ⟨Nat.le_of_ble_eq_true rfl, Nat.le_of_ble_eq_true rfl⟩) (fun v12 u H locs hz9 hH hS => ?_)
    obtain ⟨rfl, l_v12, u_v12⟩ := hz9
    have hH : HT D cs A T O X H := hH
    refine W.widen (k := 0) (n := 0) (Nat.le_of_ble_eq_true rfl) (Nat.le_of_ble_eq_true rfl) ?_
    refine lv_istore_n (lv' := [(2, .int v12), (0, .ref a0), (1, .int x1)]) hx hb dX11_leastLeg_15 rfl hl (by decide) rfl (fun ls hl => ?_)
    refine lv_iconst (v := 0) hx hb dX11_leastLeg_16 (by decide) ?_
    have J18 : ∀ (n : Nat) (p18_3 : Int32) (H : Heap) (locs : List Loc) (ls : Array Slot), (100 - p18_3.toInt).toNat = n → (0 ≤ p18_3.toInt) → (p18_3.toInt ≤ 100) → HT D cs A T O X H → va_S A s.heap H locs → lv_has ls 4 [(3, .int p18_3), (2, .int v12), (0, .ref a0), (1, .int x1)] → W p l e { frames := 6, cells := 0, slots := 0, locals := 150 } s m [.ref a0, .int x1].toArray below meth c H locs 0 0 (MQ below (Ti D cs (fun r u => u = (T, O, X) ∧ -2 ≤ r.toInt ∧ r.toInt ≤ 99) A) [.ref a0, .int x1].toArray s 0 0 A) (F0 m 18 ls []) := by
      intro n
      induction n using Nat.strongRecOn with
      | _ n ih18 =>
        intro p18_3 H locs ls hm18 l_p18_3 u_p18_3 hH hS hl
        refine lv_iload_n hx hb dX11_leastLeg_18 rfl (lv_at hl 0 rfl) ?_
        refine lv_bipush (v := 100) hx hb dX11_leastLeg_19 (by decide) ?_
        refine lv_icmp_ge (tgt := 71) hx hb dX11_leastLeg_21 (by decide) (fun c21 => ?_) (fun c21 => ?_)
        · skip
          have tc21 := f_ge (k := 100) (by decide) c21
          refine lv_iconst (v := (-1)) hx hb dX11_leastLeg_71 (by decide) ?_
          exact te_i hx hb hr hlocks hH hS (⟨rfl, by decide, by decide⟩) dX11_leastLeg_72
        · skip
          have tc21 := f_nge (k := 100) (by decide) c21
          refine lv_aload_n hx hb dX11_leastLeg_24 rfl (lv_at hl 2 rfl) ?_
          refine t_get (ci := 11) (lst := ft11 w ch) (C := RX11) (F := TX11) (N := 20) hx hb hts uX11 hown hkb hH t_a0 (hO.no t_a0 (by decide)) (fun _ h9 => h9) rfl rfl 13 (by decide) rfl kw_373 (fun _ h9 => h9) dX11_leastLeg_25 (fun v9 h9 => ?_)
          obtain ⟨v25, rfl, t_v25⟩ := h9
          refine lv_aload_n hx hb dX11_leastLeg_28 rfl (lv_at hl 2 rfl) ?_
          refine t_get (ci := 11) (lst := ft11 w ch) (C := RX11) (F := TX11) (N := 20) hx hb hts uX11 hown hkb hH t_a0 (hO.no t_a0 (by decide)) (fun _ h9 => h9) rfl rfl 3 (by decide) rfl kw_363 (fun _ h9 => h9) dX11_leastLeg_29 (fun v9 h9 => ?_)
          have h9 : v9 = .ref w := h9
          subst h9
          refine lv_iload_n hx hb dX11_leastLeg_32 rfl (lv_at hl 0 rfl) ?_
          refine lv_aload_n hx hb dX11_leastLeg_33 rfl (lv_at hl 2 rfl) ?_
          refine t_get (ci := 11) (lst := ft11 w ch) (C := RX11) (F := TX11) (N := 20) hx hb hts uX11 hown hkb hH t_a0 (hO.no t_a0 (by decide)) (fun _ h9 => h9) rfl rfl 3 (by decide) rfl kw_363 (fun _ h9 => h9) dX11_leastLeg_34 (fun v9 h9 => ?_)
          have h9 : v9 = .ref w := h9
          subst h9
          refine t_get (ci := 9) (lst := ft9w hw gw) (C := RX9) (F := TX9) (N := 14) hx hb hts uX9 hown hkb hH t_w.1 (hO.no t_w.1 (by decide)) (fun fs => (ob9w t_w fs).mp) rfl rfl 10 (by decide) rfl kw_145 (fun _ h9 => h9) dX11_leastLeg_37 (fun v9 h9 => ?_)
          obtain ⟨v37, rfl, t_v37⟩ := h9
          refine lv_iload_n hx hb dX11_leastLeg_40 rfl (lv_at hl 3 rfl) ?_
          refine t_ild hx hb hkb hH t_v37 (hO.no t_v37 (by decide)) (by omega) (by omega) dX11_leastLeg_41 (fun v41 h9 => ?_)
          refine lv_aload_n hx hb dX11_leastLeg_42 rfl (lv_at hl 2 rfl) ?_
          refine t_get (ci := 11) (lst := ft11 w ch) (C := RX11) (F := TX11) (N := 20) hx hb hts uX11 hown hkb hH t_a0 (hO.no t_a0 (by decide)) (fun _ h9 => h9) rfl rfl 4 (by decide) rfl kw_364 (fun _ h9 => h9) dX11_leastLeg_43 (fun v9 h9 => ?_)
          obtain ⟨v43, rfl, t_v43⟩ := h9
          refine t_get (ci := 6) (lst := ft6 0 0) (C := RX6) (F := TX6) (N := 6) hx hb hts uX6 hown hkb hH t_v43 (hO.no t_v43 (by decide)) (fun _ h9 => h9) rfl rfl 2 (by decide) rfl kw_191 (fun _ h9 => h9) dX11_leastLeg_46 (fun v9 h9 => ?_)
          obtain ⟨v46, rfl⟩ := h9
          refine tk_v hH hS hA (tr_V (n := 4) (As := [.ref w, .int p18_3, .int v41, .int v46]) hx hb hml hown hts hkb hH hOX hks hE hS hA (s_Rows_aim l D cs kf T O X v25 w hw gw p18_3 v41 v46 t_v25 t_w (hO.sub (by decide))) kw_834 kw_835 kw_836 kw_8 kw_837 (by decide +kernel) ⟨Nat.le_of_ble_eq_true rfl, Nat.le_of_ble_eq_true rfl⟩ (HT.recv (ci := 5) hkb hH t_v25 (hO.no t_v25 (by decide)) rfl) rfl rfl hl.1 (Nat.le_of_ble_eq_true rfl) dX11_leastLeg_49 ⟨Nat.le_of_ble_eq_true rfl, Nat.le_of_ble_eq_true rfl⟩) (fun u H locs hz9 hH hS => ?_)
          have hz9 : u = (T, O, X) := hz9
          subst hz9
          have hH : HT D cs A T O X H := hH
          refine W.widen (k := 0) (n := 0) (Nat.le_of_ble_eq_true rfl) (Nat.le_of_ble_eq_true rfl) ?_
          refine lv_aload_n hx hb dX11_leastLeg_52 rfl (lv_at hl 2 rfl) ?_
          refine t_get (ci := 11) (lst := ft11 w ch) (C := RX11) (F := TX11) (N := 20) hx hb hts uX11 hown hkb hH t_a0 (hO.no t_a0 (by decide)) (fun _ h9 => h9) rfl rfl 13 (by decide) rfl kw_373 (fun _ h9 => h9) dX11_leastLeg_53 (fun v9 h9 => ?_)
          obtain ⟨v53, rfl, t_v53⟩ := h9
          refine lv_iload_n hx hb dX11_leastLeg_56 rfl (lv_at hl 1 rfl) ?_
          refine tk_i hH hS hA (tr_V (n := 1) (As := [.int v12]) hx hb hml hown hts hkb hH hOX hks hE hS hA (s_Rows_getsUp l D cs kf T O X v53 v12 t_v53 (hO.sub (by decide))) kw_1059 kw_1060 kw_1061 kw_8 kw_1062 (by decide +kernel) ⟨Nat.le_of_ble_eq_true rfl, Nat.le_of_ble_eq_true rfl⟩ (HT.recv (ci := 5) hkb hH t_v53 (hO.no t_v53 (by decide)) rfl) rfl rfl hl.1 (Nat.le_of_ble_eq_true rfl) dX11_leastLeg_57 ⟨Nat.le_of_ble_eq_true rfl, Nat.le_of_ble_eq_true rfl⟩) (fun v57 u H locs hz9 hH hS => ?_)
          obtain ⟨rfl, l_v57, u_v57⟩ := hz9
          have hH : HT D cs A T O X H := hH
          refine W.widen (k := 0) (n := 0) (Nat.le_of_ble_eq_true rfl) (Nat.le_of_ble_eq_true rfl) ?_
          refine lv_if_eq (tgt := 65) hx hb dX11_leastLeg_60 (by decide) (fun c60 => ?_) (fun c60 => ?_)
          · skip
            have tc60 := f_eq (k := 0) (by decide) c60
            obtain ⟨v65, ev65⟩ : ∃ y : Int32, y = p18_3 + 1 := ⟨_, rfl⟩
            have tv65 : v65.toInt = p18_3.toInt + (1) := by rw [ev65]; exact add_i rfl (by decide) (by omega) (by omega)
            refine lv_iinc (v := v65) (lv' := [(3, .int v65), (2, .int v12), (0, .ref a0), (1, .int x1)]) hx hb dX11_leastLeg_65 hl (k := 0) rfl (by rw [ev65]; rfl) (by decide) rfl (fun ls hl => ?_)
            refine lv_goto (tgt := 18) hx hb dX11_leastLeg_68 (by decide) ?_
            exact ih18 _ (by omega) v65 _ _ _ rfl (by omega) (by omega) hH hS (lv_sub hl [0, 1, 2, 3] rfl)
          · skip
            have tc60 := f_ne (k := 0) (by decide) c60
            refine lv_iload_n hx hb dX11_leastLeg_63 rfl (lv_at hl 0 rfl) ?_
            exact te_i hx hb hr hlocks hH hS (⟨rfl, by omega, by omega⟩) dX11_leastLeg_64
    refine lv_istore_n (lv' := [(3, .int 0), (2, .int v12), (0, .ref a0), (1, .int x1)]) hx hb dX11_leastLeg_17 rfl hl (by decide) rfl (fun ls hl => ?_)
    exact J18 _ 0 _ _ _ rfl (by decide) (by decide) hH hS (lv_sub hl [0, 1, 2, 3] rfl)
  · skip
    have tc5 := f_eq (k := 0) (by decide) c5
    refine lv_bipush (v := (-2)) hx hb dX11_leastLeg_8 (by decide) ?_
    exact te_i hx hb hr hlocks hH hS (⟨rfl, by decide, by decide⟩) dX11_leastLeg_10
set_option maxHeartbeats 4000000 in
set_option maxRecDepth 100000 in
theorem s_FW_opens (l : Launch) (D : va_G) (cs : CS) (kf : KF) (T : TF) (O : List Nat) (X : va_W) (a0 w hw gw ch gq : Nat) (x1 : Int32) (t_a0 : T a0 = some (21, w, ch)) (t_w : isW T w hw gw) (t_ch : T ch = some (10, gq, 0)) (hO : okO T O [1, 12, 15, 16, 19, 21]) : TK l D cs kf yX11_opens cX11_opens 6 (some (.int)) { frames := 6, cells := 0, slots := 0, locals := 150 } [.ref a0, .int x1] T O X (Ti D cs (fun r u => u = (T, O, X))) := by
  refine tk_of (by decide) (Nat.le_of_ble_eq_true rfl) (fun p e s m below meth c ls A H locs hx hb hr hml hown hts hlocks hnm hkb hH hS hA hOX hks hE hl => ?_)
  have hown : s.vm.findClass RX11 = some m.cls := hown
  have hl : lv_has ls 6 [(0, .ref a0), (1, .int x1)] := hl
  have b1_w := t_w.2.1
  have b2_w := t_w.2.2
  refine lv_aload_n hx hb dX11_opens_0 rfl (lv_at hl 0 rfl) ?_
  refine lv_iload_n hx hb dX11_opens_1 rfl (lv_at hl 1 rfl) ?_
  refine tk_i hH hS hA (tr_V (n := 1) (As := [.int x1]) hx hb hml hown hts hkb hH hOX hks hE hS hA (s_FW_isGuide l D cs kf T O X a0 w hw gw ch gq x1 t_a0 t_w t_ch (hO.sub (by decide))) kw_794 kw_796 ks_20 kw_1 kw_797 (by decide +kernel) ⟨Nat.le_of_ble_eq_true rfl, Nat.le_of_ble_eq_true rfl⟩ (HT.recv (ci := 11) hkb hH t_a0 (hO.no t_a0 (by decide)) rfl) rfl rfl hl.1 (Nat.le_of_ble_eq_true rfl) dX11_opens_2 ⟨Nat.le_of_ble_eq_true rfl, Nat.le_of_ble_eq_true rfl⟩) (fun v2 u H locs hz9 hH hS => ?_)
  obtain ⟨rfl, l_v2, u_v2, x_v20⟩ := hz9
  have hH : HT D cs A T O X H := hH
  refine W.widen (k := 0) (n := 0) (Nat.le_of_ble_eq_true rfl) (Nat.le_of_ble_eq_true rfl) ?_
  refine lv_if_ne (tgt := 11) hx hb dX11_opens_5 (by decide) (fun c5 => ?_) (fun c5 => ?_)
  · skip
    have tc5 := f_ne (k := 0) (by decide) c5
    refine lv_iconst (v := 0) hx hb dX11_opens_11 (by decide) ?_
    refine lv_istore_n (lv' := [(2, .int 0), (0, .ref a0), (1, .int x1)]) hx hb dX11_opens_12 rfl hl (by decide) rfl (fun ls hl => ?_)
    refine lv_iconst (v := 0) hx hb dX11_opens_13 (by decide) ?_
    have J15 : ∀ (n : Nat) (p15_3 : Int32) (p15_2 : Int32) (H : Heap) (locs : List Loc) (ls : Array Slot), (200 - p15_3.toInt).toNat = n → (0 ≤ p15_3.toInt) → (p15_3.toInt ≤ 200) → (0 ≤ p15_2.toInt) → (p15_2.toInt ≤ 16383) → HT D cs A T O X H → va_S A s.heap H locs → lv_has ls 6 [(3, .int p15_3), (2, .int p15_2), (0, .ref a0), (1, .int x1)] → W p l e { frames := 6, cells := 0, slots := 0, locals := 150 } s m [.ref a0, .int x1].toArray below meth c H locs 0 0 (MQ below (Ti D cs (fun r u => u = (T, O, X)) A) [.ref a0, .int x1].toArray s 0 0 A) (F0 m 15 ls []) := by
      intro n
      induction n using Nat.strongRecOn with
      | _ n ih15 =>
        intro p15_3 p15_2 H locs ls hm15 l_p15_3 u_p15_3 l_p15_2 u_p15_2 hH hS hl
        refine lv_iload_n hx hb dX11_opens_15 rfl (lv_at hl 0 rfl) ?_
        refine lv_sipush (v := 200) hx hb dX11_opens_16 (by decide) ?_
        refine lv_icmp_ge (tgt := 116) hx hb dX11_opens_19 (by decide) (fun c19 => ?_) (fun c19 => ?_)
        · skip
          have tc19 := f_ge (k := 200) (by decide) c19
          refine lv_iconst (v := (-1)) hx hb dX11_opens_116 (by decide) ?_
          exact te_i hx hb hr hlocks hH hS (rfl) dX11_opens_117
        · skip
          have tc19 := f_nge (k := 200) (by decide) c19
          refine lv_aload_n hx hb dX11_opens_22 rfl (lv_at hl 2 rfl) ?_
          refine t_get (ci := 11) (lst := ft11 w ch) (C := RX11) (F := TX11) (N := 20) hx hb hts uX11 hown hkb hH t_a0 (hO.no t_a0 (by decide)) (fun _ h9 => h9) rfl rfl 4 (by decide) rfl kw_364 (fun _ h9 => h9) dX11_opens_23 (fun v9 h9 => ?_)
          obtain ⟨v23, rfl, t_v23⟩ := h9
          refine t_get (ci := 6) (lst := ft6 0 0) (C := RX6) (F := TX6) (N := 6) hx hb hts uX6 hown hkb hH t_v23 (hO.no t_v23 (by decide)) (fun _ h9 => h9) rfl rfl 2 (by decide) rfl kw_191 (fun _ h9 => h9) dX11_opens_26 (fun v9 h9 => ?_)
          obtain ⟨v26, rfl⟩ := h9
          refine lv_iload_n hx hb dX11_opens_29 rfl (lv_at hl 0 rfl) ?_
          refine lv_iadd hx hb dX11_opens_30 ?_
          refine lv_topi (fun v30 ev30 => ?_)
          refine lv_istore (lv' := [(4, .int v30), (3, .int p15_3), (2, .int p15_2), (0, .ref a0), (1, .int x1)]) hx hb dX11_opens_31 hl (by decide) rfl (fun ls hl => ?_)
          refine lv_aload_n hx hb dX11_opens_33 rfl (lv_at hl 3 rfl) ?_
          refine lv_iload hx hb dX11_opens_34 (lv_at hl 0 rfl) ?_
          refine tk_i hH hS hA (tr_V (n := 1) (As := [.int v30]) hx hb hml hown hts hkb hH hOX hks hE hS hA (s_FW_openOn l D cs kf T O X a0 w hw gw ch gq v30 t_a0 t_w t_ch (hO.sub (by decide))) kw_782 kw_784 ks_19 kw_1 kw_785 (by decide +kernel) ⟨Nat.le_of_ble_eq_true rfl, Nat.le_of_ble_eq_true rfl⟩ (HT.recv (ci := 11) hkb hH t_a0 (hO.no t_a0 (by decide)) rfl) rfl rfl hl.1 (Nat.le_of_ble_eq_true rfl) dX11_opens_36 ⟨Nat.le_of_ble_eq_true rfl, Nat.le_of_ble_eq_true rfl⟩) (fun v36 u H locs hz9 hH hS => ?_)
          obtain ⟨rfl, l_v36, u_v36⟩ := hz9
          have hH : HT D cs A T O X H := hH
          refine W.widen (k := 0) (n := 0) (Nat.le_of_ble_eq_true rfl) (Nat.le_of_ble_eq_true rfl) ?_
          refine lv_istore (lv' := [(5, .int v36), (4, .int v30), (3, .int p15_3), (2, .int p15_2), (0, .ref a0), (1, .int x1)]) hx hb dX11_opens_39 hl (by decide) rfl (fun ls hl => ?_)
          refine lv_iload_n hx hb dX11_opens_41 rfl (lv_at hl 2 rfl) ?_
          have J107 : ∀  (H : Heap) (locs : List Loc) (ls : Array Slot), HT D cs A T O X H → va_S A s.heap H locs → lv_has ls 6 [(5, .int v36), (3, .int p15_3), (0, .ref a0), (1, .int x1)] → W p l e { frames := 6, cells := 0, slots := 0, locals := 150 } s m [.ref a0, .int x1].toArray below meth c H locs 0 0 (MQ below (Ti D cs (fun r u => u = (T, O, X)) A) [.ref a0, .int x1].toArray s 0 0 A) (F0 m 107 ls []) := by
            intro  H locs ls  hH hS hl
            refine lv_iload hx hb dX11_opens_107 (lv_at hl 0 rfl) ?_
            refine lv_istore_n (lv' := [(2, .int v36), (5, .int v36), (3, .int p15_3), (0, .ref a0), (1, .int x1)]) hx hb dX11_opens_109 rfl hl (by decide) rfl (fun ls hl => ?_)
            obtain ⟨v110, ev110⟩ : ∃ y : Int32, y = p15_3 + 1 := ⟨_, rfl⟩
            have tv110 : v110.toInt = p15_3.toInt + (1) := by rw [ev110]; exact add_i rfl (by decide) (by omega) (by omega)
            refine lv_iinc (v := v110) (lv' := [(3, .int v110), (2, .int v36), (5, .int v36), (0, .ref a0), (1, .int x1)]) hx hb dX11_opens_110 hl (k := 2) rfl (by rw [ev110]; rfl) (by decide) rfl (fun ls hl => ?_)
            refine lv_goto (tgt := 15) hx hb dX11_opens_113 (by decide) ?_
            exact ih15 _ (by omega) v110 v36 _ _ _ rfl (by omega) (by omega) (by omega) (by omega) hH hS (lv_sub hl [0, 1, 3, 4] rfl)
          have J61 : ∀  (H : Heap) (locs : List Loc) (ls : Array Slot), HT D cs A T O X H → va_S A s.heap H locs → lv_has ls 6 [(5, .int v36), (4, .int v30), (3, .int p15_3), (0, .ref a0), (1, .int x1)] → W p l e { frames := 6, cells := 0, slots := 0, locals := 150 } s m [.ref a0, .int x1].toArray below meth c H locs 0 0 (MQ below (Ti D cs (fun r u => u = (T, O, X)) A) [.ref a0, .int x1].toArray s 0 0 A) (F0 m 61 ls []) := by
            intro  H locs ls  hH hS hl
            refine lv_aload_n hx hb dX11_opens_61 rfl (lv_at hl 3 rfl) ?_
            refine t_get (ci := 11) (lst := ft11 w ch) (C := RX11) (F := TX11) (N := 20) hx hb hts uX11 hown hkb hH t_a0 (hO.no t_a0 (by decide)) (fun _ h9 => h9) rfl rfl 13 (by decide) rfl kw_373 (fun _ h9 => h9) dX11_opens_62 (fun v9 h9 => ?_)
            obtain ⟨v62, rfl, t_v62⟩ := h9
            refine lv_aload_n hx hb dX11_opens_65 rfl (lv_at hl 3 rfl) ?_
            refine t_get (ci := 11) (lst := ft11 w ch) (C := RX11) (F := TX11) (N := 20) hx hb hts uX11 hown hkb hH t_a0 (hO.no t_a0 (by decide)) (fun _ h9 => h9) rfl rfl 3 (by decide) rfl kw_363 (fun _ h9 => h9) dX11_opens_66 (fun v9 h9 => ?_)
            have h9 : v9 = .ref w := h9
            subst h9
            refine lv_aload_n hx hb dX11_opens_69 rfl (lv_at hl 3 rfl) ?_
            refine t_get (ci := 11) (lst := ft11 w ch) (C := RX11) (F := TX11) (N := 20) hx hb hts uX11 hown hkb hH t_a0 (hO.no t_a0 (by decide)) (fun _ h9 => h9) rfl rfl 3 (by decide) rfl kw_363 (fun _ h9 => h9) dX11_opens_70 (fun v9 h9 => ?_)
            have h9 : v9 = .ref w := h9
            subst h9
            refine t_get (ci := 9) (lst := ft9w hw gw) (C := RX9) (F := TX9) (N := 14) hx hb hts uX9 hown hkb hH t_w.1 (hO.no t_w.1 (by decide)) (fun fs => (ob9w t_w fs).mp) rfl rfl 9 (by decide) rfl kw_142 (fun _ h9 => h9) dX11_opens_73 (fun v9 h9 => ?_)
            obtain ⟨v73, rfl, t_v73⟩ := h9
            refine lv_iload_n hx hb dX11_opens_76 rfl (lv_at hl 4 rfl) ?_
            refine t_ild hx hb hkb hH t_v73 (hO.no t_v73 (by decide)) (by omega) (by omega) dX11_opens_77 (fun v77 h9 => ?_)
            refine lv_aload_n hx hb dX11_opens_78 rfl (lv_at hl 3 rfl) ?_
            refine t_get (ci := 11) (lst := ft11 w ch) (C := RX11) (F := TX11) (N := 20) hx hb hts uX11 hown hkb hH t_a0 (hO.no t_a0 (by decide)) (fun _ h9 => h9) rfl rfl 3 (by decide) rfl kw_363 (fun _ h9 => h9) dX11_opens_79 (fun v9 h9 => ?_)
            have h9 : v9 = .ref w := h9
            subst h9
            refine t_get (ci := 9) (lst := ft9w hw gw) (C := RX9) (F := TX9) (N := 14) hx hb hts uX9 hown hkb hH t_w.1 (hO.no t_w.1 (by decide)) (fun fs => (ob9w t_w fs).mp) rfl rfl 10 (by decide) rfl kw_145 (fun _ h9 => h9) dX11_opens_82 (fun v9 h9 => ?_)
            obtain ⟨v82, rfl, t_v82⟩ := h9
            refine lv_iload_n hx hb dX11_opens_85 rfl (lv_at hl 4 rfl) ?_
            refine t_ild hx hb hkb hH t_v82 (hO.no t_v82 (by decide)) (by omega) (by omega) dX11_opens_86 (fun v86 h9 => ?_)
            refine lv_iload hx hb dX11_opens_87 (lv_at hl 1 rfl) ?_
            refine tk_v hH hS hA (tr_V (n := 4) (As := [.ref w, .int v77, .int v86, .int v30]) hx hb hml hown hts hkb hH hOX hks hE hS hA (s_Rows_aim l D cs kf T O X v62 w hw gw v77 v86 v30 t_v62 t_w (hO.sub (by decide))) kw_834 kw_835 kw_836 kw_8 kw_837 (by decide +kernel) ⟨Nat.le_of_ble_eq_true rfl, Nat.le_of_ble_eq_true rfl⟩ (HT.recv (ci := 5) hkb hH t_v62 (hO.no t_v62 (by decide)) rfl) rfl rfl hl.1 (Nat.le_of_ble_eq_true rfl) dX11_opens_89 ⟨Nat.le_of_ble_eq_true rfl, Nat.le_of_ble_eq_true rfl⟩) (fun u H locs hz9 hH hS => ?_)
            have hz9 : u = (T, O, X) := hz9
            subst hz9
            have hH : HT D cs A T O X H := hH
            refine W.widen (k := 0) (n := 0) (Nat.le_of_ble_eq_true rfl) (Nat.le_of_ble_eq_true rfl) ?_
            refine lv_aload_n hx hb dX11_opens_92 rfl (lv_at hl 3 rfl) ?_
            refine t_get (ci := 11) (lst := ft11 w ch) (C := RX11) (F := TX11) (N := 20) hx hb hts uX11 hown hkb hH t_a0 (hO.no t_a0 (by decide)) (fun _ h9 => h9) rfl rfl 13 (by decide) rfl kw_373 (fun _ h9 => h9) dX11_opens_93 (fun v9 h9 => ?_)
            obtain ⟨v93, rfl, t_v93⟩ := h9
            refine lv_iload hx hb dX11_opens_96 (lv_at hl 0 rfl) ?_
            refine tk_i hH hS hA (tr_V (n := 1) (As := [.int v36]) hx hb hml hown hts hkb hH hOX hks hE hS hA (s_Rows_getsUp l D cs kf T O X v93 v36 t_v93 (hO.sub (by decide))) kw_1059 kw_1060 kw_1061 kw_8 kw_1062 (by decide +kernel) ⟨Nat.le_of_ble_eq_true rfl, Nat.le_of_ble_eq_true rfl⟩ (HT.recv (ci := 5) hkb hH t_v93 (hO.no t_v93 (by decide)) rfl) rfl rfl hl.1 (Nat.le_of_ble_eq_true rfl) dX11_opens_98 ⟨Nat.le_of_ble_eq_true rfl, Nat.le_of_ble_eq_true rfl⟩) (fun v98 u H locs hz9 hH hS => ?_)
            obtain ⟨rfl, l_v98, u_v98⟩ := hz9
            have hH : HT D cs A T O X H := hH
            refine W.widen (k := 0) (n := 0) (Nat.le_of_ble_eq_true rfl) (Nat.le_of_ble_eq_true rfl) ?_
            refine lv_if_eq (tgt := 107) hx hb dX11_opens_101 (by decide) (fun c101 => ?_) (fun c101 => ?_)
            · skip
              have tc101 := f_eq (k := 0) (by decide) c101
              exact J107  _ _ _  hH hS (lv_sub hl [0, 2, 3, 4] rfl)
            · skip
              have tc101 := f_ne (k := 0) (by decide) c101
              refine lv_iload hx hb dX11_opens_104 (lv_at hl 1 rfl) ?_
              exact te_i hx hb hr hlocks hH hS (rfl) dX11_opens_106
          refine lv_if_eq (tgt := 61) hx hb dX11_opens_42 (by decide) (fun c42 => ?_) (fun c42 => ?_)
          · skip
            have tc42 := f_eq (k := 0) (by decide) c42
            exact J61  _ _ _  hH hS (lv_sub hl [0, 1, 2, 4, 5] rfl)
          · skip
            have tc42 := f_ne (k := 0) (by decide) c42
            refine lv_iload hx hb dX11_opens_45 (lv_at hl 0 rfl) ?_
            refine lv_iload_n hx hb dX11_opens_47 rfl (lv_at hl 3 rfl) ?_
            refine lv_icmp_ne (tgt := 61) hx hb dX11_opens_48 (by decide) (fun c48 => ?_) (fun c48 => ?_)
            · skip
              have fuc48 := full_i v36
              have fvc48 := full_i p15_2
              have tc48 := g_ne c48
              exact J61  _ _ _  hH hS (lv_sub hl [0, 1, 2, 4, 5] rfl)
            · skip
              have fuc48 := full_i v36
              have fvc48 := full_i p15_2
              have tc48 := g_eq c48
              refine lv_aload_n hx hb dX11_opens_51 rfl (lv_at hl 4 rfl) ?_
              refine t_get (ci := 11) (lst := ft11 w ch) (C := RX11) (F := TX11) (N := 20) hx hb hts uX11 hown hkb hH t_a0 (hO.no t_a0 (by decide)) (fun _ h9 => h9) rfl rfl 3 (by decide) rfl kw_363 (fun _ h9 => h9) dX11_opens_52 (fun v9 h9 => ?_)
              have h9 : v9 = .ref w := h9
              subst h9
              refine tk_i hH hS hA (tr_V (n := 0) (As := []) hx hb hml hown hts hkb hH hOX hks hE hS hA (s_Wall_asksDay l D cs kf T O X w hw gw t_w (hO.sub (by decide))) kw_1118 kw_843 kw_844 kw_5 kw_845 (by decide +kernel) ⟨Nat.le_of_ble_eq_true rfl, Nat.le_of_ble_eq_true rfl⟩ (HT.recv (ci := 9) hkb hH t_w.1 (hO.no t_w.1 (by decide)) rfl) rfl rfl hl.1 (Nat.le_of_ble_eq_true rfl) dX11_opens_55 ⟨Nat.le_of_ble_eq_true rfl, Nat.le_of_ble_eq_true rfl⟩) (fun v55 u H locs hz9 hH hS => ?_)
              obtain ⟨rfl, l_v55, u_v55⟩ := hz9
              have hH : HT D cs A T O X H := hH
              refine W.widen (k := 0) (n := 0) (Nat.le_of_ble_eq_true rfl) (Nat.le_of_ble_eq_true rfl) ?_
              refine lv_if_eq (tgt := 107) hx hb dX11_opens_58 (by decide) (fun c58 => ?_) (fun c58 => ?_)
              · skip
                have tc58 := f_eq (k := 0) (by decide) c58
                exact J107  _ _ _  hH hS (lv_sub hl [0, 2, 4, 5] rfl)
              · skip
                have tc58 := f_ne (k := 0) (by decide) c58
                exact J61  _ _ _  hH hS (lv_sub hl [0, 1, 2, 4, 5] rfl)
    refine lv_istore_n (lv' := [(3, .int 0), (2, .int 0), (0, .ref a0), (1, .int x1)]) hx hb dX11_opens_14 rfl hl (by decide) rfl (fun ls hl => ?_)
    exact J15 _ 0 0 _ _ _ rfl (by decide) (by decide) (by decide) (by decide) hH hS (lv_sub hl [0, 1, 2, 3] rfl)
  · skip
    have tc5 := f_eq (k := 0) (by decide) c5
    refine lv_bipush (v := (-2)) hx hb dX11_opens_8 (by decide) ?_
    exact te_i hx hb hr hlocks hH hS (rfl) dX11_opens_10
set_option maxHeartbeats 4000000 in
set_option maxRecDepth 100000 in
theorem s_FW_dearest (l : Launch) (D : va_G) (cs : CS) (kf : KF) (T : TF) (O : List Nat) (X : va_W) (a0 w hw gw ch gq : Nat) (x1 : Int32) (t_a0 : T a0 = some (21, w, ch)) (t_w : isW T w hw gw) (t_ch : T ch = some (10, gq, 0)) (hO : okO T O [1, 7, 11, 12, 15, 16, 19, 21]) : TK l D cs kf yX11_dearest cX11_dearest 7 (some (.int)) { frames := 6, cells := 0, slots := 0, locals := 156 } [.ref a0, .int x1] T O X (Ti D cs (fun r u => u = (T, O, X) ∧ -2 ≤ r.toInt ∧ r.toInt ≤ 13)) := by
  refine tk_of (by decide) (Nat.le_of_ble_eq_true rfl) (fun p e s m below meth c ls A H locs hx hb hr hml hown hts hlocks hnm hkb hH hS hA hOX hks hE hl => ?_)
  have hown : s.vm.findClass RX11 = some m.cls := hown
  have hl : lv_has ls 7 [(0, .ref a0), (1, .int x1)] := hl
  have b1_w := t_w.2.1
  have b2_w := t_w.2.2
  refine lv_aload_n hx hb dX11_dearest_0 rfl (lv_at hl 0 rfl) ?_
  refine lv_iload_n hx hb dX11_dearest_1 rfl (lv_at hl 1 rfl) ?_
  refine tk_i hH hS hA (tr_V (n := 1) (As := [.int x1]) hx hb hml hown hts hkb hH hOX hks hE hS hA (s_FW_isGuide l D cs kf T O X a0 w hw gw ch gq x1 t_a0 t_w t_ch (hO.sub (by decide))) kw_794 kw_796 ks_20 kw_1 kw_797 (by decide +kernel) ⟨Nat.le_of_ble_eq_true rfl, Nat.le_of_ble_eq_true rfl⟩ (HT.recv (ci := 11) hkb hH t_a0 (hO.no t_a0 (by decide)) rfl) rfl rfl hl.1 (Nat.le_of_ble_eq_true rfl) dX11_dearest_2 ⟨Nat.le_of_ble_eq_true rfl, Nat.le_of_ble_eq_true rfl⟩) (fun v2 u H locs hz9 hH hS => ?_)
  obtain ⟨rfl, l_v2, u_v2, x_v20⟩ := hz9
  have hH : HT D cs A T O X H := hH
  refine W.widen (k := 0) (n := 0) (Nat.le_of_ble_eq_true rfl) (Nat.le_of_ble_eq_true rfl) ?_
  refine lv_if_ne (tgt := 11) hx hb dX11_dearest_5 (by decide) (fun c5 => ?_) (fun c5 => ?_)
  · skip
    have tc5 := f_ne (k := 0) (by decide) c5
    refine lv_aload_n hx hb dX11_dearest_11 rfl (lv_at hl 0 rfl) ?_
    refine lv_iload_n hx hb dX11_dearest_12 rfl (lv_at hl 1 rfl) ?_
    refine tk_r hH hS hA (tr_V (n := 1) (As := [.int x1]) hx hb hml hown hts hkb hH hOX hks hE hS hA (s_FW_rowsOf l D cs kf T O X a0 w hw gw ch gq x1 t_a0 t_w t_ch (by omega) (by omega) (hO.sub (by decide))) kw_830 kw_832 ks_21 kw_1 kw_833 (by decide +kernel) ⟨Nat.le_of_ble_eq_true rfl, Nat.le_of_ble_eq_true rfl⟩ (HT.recv (ci := 11) hkb hH t_a0 (hO.no t_a0 (by decide)) rfl) rfl rfl hl.1 (Nat.le_of_ble_eq_true rfl) dX11_dearest_13 ⟨Nat.le_of_ble_eq_true rfl, Nat.le_of_ble_eq_true rfl⟩) (fun v13 u H locs hz9 hH hS => ?_)
    obtain ⟨hu9, t_v13⟩ := hz9
    have hu9 : u = (T, O, X) := hu9
    subst hu9
    have hH : HT D cs A T O X H := hH
    refine W.widen (k := 0) (n := 0) (Nat.le_of_ble_eq_true rfl) (Nat.le_of_ble_eq_true rfl) ?_
    refine lv_astore_n (lv' := [(2, .ref v13), (0, .ref a0), (1, .int x1)]) hx hb dX11_dearest_16 rfl hl (by decide) rfl (fun ls hl => ?_)
    refine lv_aload_n hx hb dX11_dearest_17 rfl (lv_at hl 1 rfl) ?_
    refine tk_i hH hS hA (tr_V (n := 0) (As := []) hx hb hml hown hts hkb hH hOX hks hE hS hA (s_FW_openNow l D cs kf T O X a0 w hw gw ch gq t_a0 t_w t_ch (hO.sub (by decide))) kw_846 kw_848 ks_22 kw_1 kw_849 (by decide +kernel) ⟨Nat.le_of_ble_eq_true rfl, Nat.le_of_ble_eq_true rfl⟩ (HT.recv (ci := 11) hkb hH t_a0 (hO.no t_a0 (by decide)) rfl) rfl rfl hl.1 (Nat.le_of_ble_eq_true rfl) dX11_dearest_18 ⟨Nat.le_of_ble_eq_true rfl, Nat.le_of_ble_eq_true rfl⟩) (fun v18 u H locs hz9 hH hS => ?_)
    obtain ⟨rfl, l_v18, u_v18⟩ := hz9
    have hH : HT D cs A T O X H := hH
    refine W.widen (k := 0) (n := 0) (Nat.le_of_ble_eq_true rfl) (Nat.le_of_ble_eq_true rfl) ?_
    refine lv_istore_n (lv' := [(3, .int v18), (2, .ref v13), (0, .ref a0), (1, .int x1)]) hx hb dX11_dearest_21 rfl hl (by decide) rfl (fun ls hl => ?_)
    refine lv_iload_n hx hb dX11_dearest_22 rfl (lv_at hl 0 rfl) ?_
    refine lv_aload_n hx hb dX11_dearest_23 rfl (lv_at hl 2 rfl) ?_
    refine t_get (ci := 11) (lst := ft11 w ch) (C := RX11) (F := TX11) (N := 20) hx hb hts uX11 hown hkb hH t_a0 (hO.no t_a0 (by decide)) (fun _ h9 => h9) rfl rfl 3 (by decide) rfl kw_363 (fun _ h9 => h9) dX11_dearest_24 (fun v9 h9 => ?_)
    have h9 : v9 = .ref w := h9
    subst h9
    refine tk_i hH hS hA (tr_V (n := 0) (As := []) hx hb hml hown hts hkb hH hOX hks hE hS hA (s_Wall_middles l D cs kf T O X w hw gw t_w (hO.sub (by decide))) kw_892 kw_683 kw_684 kw_5 kw_685 (by decide +kernel) ⟨Nat.le_of_ble_eq_true rfl, Nat.le_of_ble_eq_true rfl⟩ (HT.recv (ci := 9) hkb hH t_w.1 (hO.no t_w.1 (by decide)) rfl) rfl rfl hl.1 (Nat.le_of_ble_eq_true rfl) dX11_dearest_27 ⟨Nat.le_of_ble_eq_true rfl, Nat.le_of_ble_eq_true rfl⟩) (fun v27 u H locs hz9 hH hS => ?_)
    obtain ⟨rfl, l_v27, u_v27⟩ := hz9
    have hH : HT D cs A T O X H := hH
    refine W.widen (k := 0) (n := 0) (Nat.le_of_ble_eq_true rfl) (Nat.le_of_ble_eq_true rfl) ?_
    refine lv_iand hx hb dX11_dearest_30 ?_
    refine lv_topi (fun v30 ev30 => ?_)
    have tv30 : 0 ≤ v30.toInt ∧ v30.toInt ≤ v18.toInt := by rw [ev30]; exact and_l (by omega)
    have ttv30 : 0 ≤ v30.toInt ∧ v30.toInt ≤ v27.toInt := by rw [ev30]; exact and_r (by omega)
    refine lv_istore (lv' := [(4, .int v30), (3, .int v18), (2, .ref v13), (0, .ref a0), (1, .int x1)]) hx hb dX11_dearest_31 hl (by decide) rfl (fun ls hl => ?_)
    refine lv_aload_n hx hb dX11_dearest_33 rfl (lv_at hl 3 rfl) ?_
    refine t_get (ci := 11) (lst := ft11 w ch) (C := RX11) (F := TX11) (N := 20) hx hb hts uX11 hown hkb hH t_a0 (hO.no t_a0 (by decide)) (fun _ h9 => h9) rfl rfl 15 (by decide) rfl kw_375 (fun _ h9 => h9) dX11_dearest_34 (fun v9 h9 => ?_)
    obtain ⟨v34, rfl, t_v34⟩ := h9
    refine lv_aload_n hx hb dX11_dearest_37 rfl (lv_at hl 2 rfl) ?_
    refine lv_iload_n hx hb dX11_dearest_38 rfl (lv_at hl 1 rfl) ?_
    refine lv_iload hx hb dX11_dearest_39 (lv_at hl 0 rfl) ?_
    refine tk_i hH hS hA (tr_V (n := 3) (As := [.ref v13, .int v18, .int v30]) hx hb hml hown hts hkb hH hOX hks hE hS hA (s_Cut_fewest l D cs kf T O X v34 v13 v18 v30 t_v34 t_v13 (hO.sub (by decide))) kw_1014 kw_1015 kw_1016 kw_10 kw_1017 (by decide +kernel) ⟨Nat.le_of_ble_eq_true rfl, Nat.le_of_ble_eq_true rfl⟩ (HT.recv (ci := 1) hkb hH t_v34 (hO.no t_v34 (by decide)) rfl) rfl rfl hl.1 (Nat.le_of_ble_eq_true rfl) dX11_dearest_41 ⟨Nat.le_of_ble_eq_true rfl, Nat.le_of_ble_eq_true rfl⟩) (fun v41 u H locs hz9 hH hS => ?_)
    obtain ⟨rfl, l_v41, u_v41⟩ := hz9
    have hH : HT D cs A T O X H := hH
    refine W.widen (k := 0) (n := 0) (Nat.le_of_ble_eq_true rfl) (Nat.le_of_ble_eq_true rfl) ?_
    refine lv_istore (lv' := [(5, .int v41), (4, .int v30), (3, .int v18), (2, .ref v13), (0, .ref a0), (1, .int x1)]) hx hb dX11_dearest_44 hl (by decide) rfl (fun ls hl => ?_)
    refine lv_iload hx hb dX11_dearest_46 (lv_at hl 0 rfl) ?_
    have J58 : ∀  (H : Heap) (locs : List Loc) (ls : Array Slot), HT D cs A T O X H → va_S A s.heap H locs → lv_has ls 7 [] → W p l e { frames := 6, cells := 0, slots := 0, locals := 156 } s m [.ref a0, .int x1].toArray below meth c H locs 0 0 (MQ below (Ti D cs (fun r u => u = (T, O, X) ∧ -2 ≤ r.toInt ∧ r.toInt ≤ 13) A) [.ref a0, .int x1].toArray s 0 0 A) (F0 m 58 ls []) := by
      intro  H locs ls  hH hS hl
      refine lv_iconst (v := (-1)) hx hb dX11_dearest_58 (by decide) ?_
      exact te_i hx hb hr hlocks hH hS (⟨rfl, by decide, by decide⟩) dX11_dearest_59
    refine lv_if_eq (tgt := 58) hx hb dX11_dearest_48 (by decide) (fun c48 => ?_) (fun c48 => ?_)
    · skip
      have tc48 := f_eq (k := 0) (by decide) c48
      exact J58  _ _ _  hH hS (lv_sub hl [] rfl)
    · skip
      have tc48 := f_ne (k := 0) (by decide) c48
      refine lv_iload hx hb dX11_dearest_51 (lv_at hl 0 rfl) ?_
      refine lv_bipush (v := 99) hx hb dX11_dearest_53 (by decide) ?_
      refine lv_icmp_ne (tgt := 60) hx hb dX11_dearest_55 (by decide) (fun c55 => ?_) (fun c55 => ?_)
      · skip
        have tc55 := f_ne (k := 99) (by decide) c55
        refine lv_iconst (v := 0) hx hb dX11_dearest_60 (by decide) ?_
        have J63 : ∀ (n : Nat) (p63_6 : Int32) (H : Heap) (locs : List Loc) (ls : Array Slot), (14 - p63_6.toInt).toNat = n → (0 ≤ p63_6.toInt) → (p63_6.toInt ≤ 14) → HT D cs A T O X H → va_S A s.heap H locs → lv_has ls 7 [(6, .int p63_6), (5, .int v41), (4, .int v30), (3, .int v18), (2, .ref v13), (0, .ref a0)] → W p l e { frames := 6, cells := 0, slots := 0, locals := 156 } s m [.ref a0, .int x1].toArray below meth c H locs 0 0 (MQ below (Ti D cs (fun r u => u = (T, O, X) ∧ -2 ≤ r.toInt ∧ r.toInt ≤ 13) A) [.ref a0, .int x1].toArray s 0 0 A) (F0 m 63 ls []) := by
          intro n
          induction n using Nat.strongRecOn with
          | _ n ih63 =>
            intro p63_6 H locs ls hm63 l_p63_6 u_p63_6 hH hS hl
            refine lv_iload hx hb dX11_dearest_63 (lv_at hl 0 rfl) ?_
            refine lv_aload_n hx hb dX11_dearest_65 rfl (lv_at hl 5 rfl) ?_
            refine t_get (ci := 11) (lst := ft11 w ch) (C := RX11) (F := TX11) (N := 20) hx hb hts uX11 hown hkb hH t_a0 (hO.no t_a0 (by decide)) (fun _ h9 => h9) rfl rfl 3 (by decide) rfl kw_363 (fun _ h9 => h9) dX11_dearest_66 (fun v9 h9 => ?_)
            have h9 : v9 = .ref w := h9
            subst h9
            refine t_get (ci := 9) (lst := ft9w hw gw) (C := RX9) (F := TX9) (N := 14) hx hb hts uX9 hown hkb hH t_w.1 (hO.no t_w.1 (by decide)) (fun fs => (ob9w t_w fs).mp) rfl rfl 0 (by decide) rfl kw_109 (fun _ h9 => h9) dX11_dearest_69 (fun v9 h9 => ?_)
            have h9 : v9 = .int (nI hw) := h9
            subst h9
            have e_hw : (nI hw).toInt = hw := nI_toInt (by have := t_w.2.1; omega)
            have b_hw := t_w.2.1
            refine lv_icmp_ge (tgt := 117) hx hb dX11_dearest_72 (by decide) (fun c72 => ?_) (fun c72 => ?_)
            · skip
              have fuc72 := full_i p63_6
              have fvc72 := full_i (nI hw)
              have tc72 := g_le c72
              refine lv_iconst (v := (-1)) hx hb dX11_dearest_117 (by decide) ?_
              exact te_i hx hb hr hlocks hH hS (⟨rfl, by decide, by decide⟩) dX11_dearest_118
            · skip
              have fuc72 := full_i p63_6
              have fvc72 := full_i (nI hw)
              have tc72 := g_nle c72
              refine lv_iload hx hb dX11_dearest_75 (lv_at hl 2 rfl) ?_
              refine lv_iload hx hb dX11_dearest_77 (lv_at hl 0 rfl) ?_
              refine lv_ishr hx hb dX11_dearest_79 ?_
              refine lv_topi (fun v79 ev79 => ?_)
              have tv79 : 0 ≤ v79.toInt ∧ v79.toInt ≤ v30.toInt := by rw [ev79]; exact shr_b (by omega)
              refine lv_iconst (v := 1) hx hb dX11_dearest_80 (by decide) ?_
              refine lv_iand hx hb dX11_dearest_81 ?_
              refine lv_topi (fun v81 ev81 => ?_)
              have tv81 : 0 ≤ v81.toInt ∧ v81.toInt ≤ 1 := by rw [ev81]; exact and_r (by decide)
              have J111 : ∀  (H : Heap) (locs : List Loc) (ls : Array Slot), HT D cs A T O X H → va_S A s.heap H locs → lv_has ls 7 [(6, .int p63_6), (5, .int v41), (4, .int v30), (3, .int v18), (2, .ref v13), (0, .ref a0)] → W p l e { frames := 6, cells := 0, slots := 0, locals := 156 } s m [.ref a0, .int x1].toArray below meth c H locs 0 0 (MQ below (Ti D cs (fun r u => u = (T, O, X) ∧ -2 ≤ r.toInt ∧ r.toInt ≤ 13) A) [.ref a0, .int x1].toArray s 0 0 A) (F0 m 111 ls []) := by
                intro  H locs ls  hH hS hl
                obtain ⟨v111, ev111⟩ : ∃ y : Int32, y = p63_6 + 1 := ⟨_, rfl⟩
                have tv111 : v111.toInt = p63_6.toInt + (1) := by rw [ev111]; exact add_i rfl (by decide) (by omega) (by omega)
                refine lv_iinc (v := v111) (lv' := [(6, .int v111), (5, .int v41), (4, .int v30), (3, .int v18), (2, .ref v13), (0, .ref a0)]) hx hb dX11_dearest_111 hl (k := 0) rfl (by rw [ev111]; rfl) (by decide) rfl (fun ls hl => ?_)
                refine lv_goto (tgt := 63) hx hb dX11_dearest_114 (by decide) ?_
                exact ih63 _ (by omega) v111 _ _ _ rfl (by omega) (by omega) hH hS (lv_sub hl [0, 1, 2, 3, 4, 5] rfl)
              refine lv_if_eq (tgt := 111) hx hb dX11_dearest_82 (by decide) (fun c82 => ?_) (fun c82 => ?_)
              · skip
                have tc82 := f_eq (k := 0) (by decide) c82
                exact J111  _ _ _  hH hS (lv_sub hl [0, 1, 2, 3, 4, 5] rfl)
              · skip
                have tc82 := f_ne (k := 0) (by decide) c82
                refine lv_aload_n hx hb dX11_dearest_85 rfl (lv_at hl 5 rfl) ?_
                refine t_get (ci := 11) (lst := ft11 w ch) (C := RX11) (F := TX11) (N := 20) hx hb hts uX11 hown hkb hH t_a0 (hO.no t_a0 (by decide)) (fun _ h9 => h9) rfl rfl 15 (by decide) rfl kw_375 (fun _ h9 => h9) dX11_dearest_86 (fun v9 h9 => ?_)
                obtain ⟨v86, rfl, t_v86⟩ := h9
                refine lv_aload_n hx hb dX11_dearest_89 rfl (lv_at hl 4 rfl) ?_
                refine lv_iload_n hx hb dX11_dearest_90 rfl (lv_at hl 3 rfl) ?_
                refine lv_iconst (v := 1) hx hb dX11_dearest_91 (by decide) ?_
                refine lv_iload hx hb dX11_dearest_92 (lv_at hl 0 rfl) ?_
                refine lv_ishl hx hb dX11_dearest_94 ?_
                refine lv_topi (fun v94 ev94 => ?_)
                have tv94 : 1 ≤ v94.toInt ∧ v94.toInt ≤ 8192 := by rw [ev94]; exact shl_b 13 (by decide) (by omega) (by omega)
                refine lv_iconst (v := (-1)) hx hb dX11_dearest_95 (by decide) ?_
                refine lv_ixor hx hb dX11_dearest_96 ?_
                refine lv_topi (fun v96 ev96 => ?_)
                refine lv_iand hx hb dX11_dearest_97 ?_
                refine lv_topi (fun v97 ev97 => ?_)
                have tv97 : 0 ≤ v97.toInt ∧ v97.toInt ≤ v18.toInt := by rw [ev97]; exact and_l (by omega)
                refine lv_iload hx hb dX11_dearest_98 (lv_at hl 2 rfl) ?_
                refine tk_i hH hS hA (tr_V (n := 3) (As := [.ref v13, .int v97, .int v30]) hx hb hml hown hts hkb hH hOX hks hE hS hA (s_Cut_fewest l D cs kf T O X v86 v13 v97 v30 t_v86 t_v13 (hO.sub (by decide))) kw_1014 kw_1015 kw_1016 kw_10 kw_1017 (by decide +kernel) ⟨Nat.le_of_ble_eq_true rfl, Nat.le_of_ble_eq_true rfl⟩ (HT.recv (ci := 1) hkb hH t_v86 (hO.no t_v86 (by decide)) rfl) rfl rfl hl.1 (Nat.le_of_ble_eq_true rfl) dX11_dearest_100 ⟨Nat.le_of_ble_eq_true rfl, Nat.le_of_ble_eq_true rfl⟩) (fun v100 u H locs hz9 hH hS => ?_)
                obtain ⟨rfl, l_v100, u_v100⟩ := hz9
                have hH : HT D cs A T O X H := hH
                refine W.widen (k := 0) (n := 0) (Nat.le_of_ble_eq_true rfl) (Nat.le_of_ble_eq_true rfl) ?_
                refine lv_iload hx hb dX11_dearest_103 (lv_at hl 1 rfl) ?_
                refine lv_icmp_ge (tgt := 111) hx hb dX11_dearest_105 (by decide) (fun c105 => ?_) (fun c105 => ?_)
                · skip
                  have fuc105 := full_i v100
                  have fvc105 := full_i v41
                  have tc105 := g_le c105
                  exact J111  _ _ _  hH hS (lv_sub hl [0, 1, 2, 3, 4, 5] rfl)
                · skip
                  have fuc105 := full_i v100
                  have fvc105 := full_i v41
                  have tc105 := g_nle c105
                  refine lv_iload hx hb dX11_dearest_108 (lv_at hl 0 rfl) ?_
                  exact te_i hx hb hr hlocks hH hS (⟨rfl, by omega, by omega⟩) dX11_dearest_110
        refine lv_istore (lv' := [(6, .int 0), (5, .int v41), (4, .int v30), (3, .int v18), (2, .ref v13), (0, .ref a0), (1, .int x1)]) hx hb dX11_dearest_61 hl (by decide) rfl (fun ls hl => ?_)
        exact J63 _ 0 _ _ _ rfl (by decide) (by decide) hH hS (lv_sub hl [0, 1, 2, 3, 4, 5] rfl)
      · skip
        have tc55 := f_eq (k := 99) (by decide) c55
        exact J58  _ _ _  hH hS (lv_sub hl [] rfl)
  · skip
    have tc5 := f_eq (k := 0) (by decide) c5
    refine lv_bipush (v := (-2)) hx hb dX11_dearest_8 (by decide) ?_
    exact te_i hx hb hr hlocks hH hS (⟨rfl, by decide, by decide⟩) dX11_dearest_10
set_option maxHeartbeats 4000000 in
set_option maxRecDepth 100000 in
theorem s_FW_saved (l : Launch) (D : va_G) (cs : CS) (kf : KF) (T : TF) (O : List Nat) (X : va_W) (a0 w hw gw ch gq : Nat) (x1 : Int32) (t_a0 : T a0 = some (21, w, ch)) (t_w : isW T w hw gw) (t_ch : T ch = some (10, gq, 0)) (hO : okO T O [1, 7, 12, 15, 16, 19, 20, 21]) : TK l D cs kf yX11_saved cX11_saved 2 (some (.int)) { frames := 6, cells := 0, slots := 0, locals := 154 } [.ref a0, .int x1] T O X (Ti D cs (fun r u => u = (T, O, X) ∧ r.toInt ≤ 16384)) := by
  refine tk_of (by decide) (Nat.le_of_ble_eq_true rfl) (fun p e s m below meth c ls A H locs hx hb hr hml hown hts hlocks hnm hkb hH hS hA hOX hks hE hl => ?_)
  have hown : s.vm.findClass RX11 = some m.cls := hown
  have hl : lv_has ls 2 [(0, .ref a0), (1, .int x1)] := hl
  have b1_w := t_w.2.1
  have b2_w := t_w.2.2
  refine lv_aload_n hx hb dX11_saved_0 rfl (lv_at hl 0 rfl) ?_
  refine lv_iload_n hx hb dX11_saved_1 rfl (lv_at hl 1 rfl) ?_
  refine tk_i hH hS hA (tr_V (n := 1) (As := [.int x1]) hx hb hml hown hts hkb hH hOX hks hE hS hA (s_FW_isGuide l D cs kf T O X a0 w hw gw ch gq x1 t_a0 t_w t_ch (hO.sub (by decide))) kw_794 kw_796 ks_20 kw_1 kw_797 (by decide +kernel) ⟨Nat.le_of_ble_eq_true rfl, Nat.le_of_ble_eq_true rfl⟩ (HT.recv (ci := 11) hkb hH t_a0 (hO.no t_a0 (by decide)) rfl) rfl rfl hl.1 (Nat.le_of_ble_eq_true rfl) dX11_saved_2 ⟨Nat.le_of_ble_eq_true rfl, Nat.le_of_ble_eq_true rfl⟩) (fun v2 u H locs hz9 hH hS => ?_)
  obtain ⟨rfl, l_v2, u_v2, x_v20⟩ := hz9
  have hH : HT D cs A T O X H := hH
  refine W.widen (k := 0) (n := 0) (Nat.le_of_ble_eq_true rfl) (Nat.le_of_ble_eq_true rfl) ?_
  have J29 : ∀ (k29_0 : Int32) (H : Heap) (locs : List Loc) (ls : Array Slot), (k29_0.toInt ≤ 16384) → HT D cs A T O X H → va_S A s.heap H locs → lv_has ls 2 [] → W p l e { frames := 6, cells := 0, slots := 0, locals := 154 } s m [.ref a0, .int x1].toArray below meth c H locs 0 0 (MQ below (Ti D cs (fun r u => u = (T, O, X) ∧ r.toInt ≤ 16384) A) [.ref a0, .int x1].toArray s 0 0 A) (F0 m 29 ls [.int k29_0]) := by
    intro k29_0 H locs ls u_k29_0 hH hS hl
    exact te_i hx hb hr hlocks hH hS (⟨rfl, by omega⟩) dX11_saved_29
  refine lv_if_eq (tgt := 27) hx hb dX11_saved_5 (by decide) (fun c5 => ?_) (fun c5 => ?_)
  · skip
    have tc5 := f_eq (k := 0) (by decide) c5
    refine lv_bipush (v := (-2)) hx hb dX11_saved_27 (by decide) ?_
    exact J29 (-2) _ _ _ (by decide) hH hS (lv_sub hl [] rfl)
  · skip
    have tc5 := f_ne (k := 0) (by decide) c5
    refine lv_aload_n hx hb dX11_saved_8 rfl (lv_at hl 0 rfl) ?_
    refine t_get (ci := 11) (lst := ft11 w ch) (C := RX11) (F := TX11) (N := 20) hx hb hts uX11 hown hkb hH t_a0 (hO.no t_a0 (by decide)) (fun _ h9 => h9) rfl rfl 14 (by decide) rfl kw_374 (fun _ h9 => h9) dX11_saved_9 (fun v9 h9 => ?_)
    obtain ⟨v9, rfl, t_v9⟩ := h9
    refine lv_aload_n hx hb dX11_saved_12 rfl (lv_at hl 0 rfl) ?_
    refine lv_iload_n hx hb dX11_saved_13 rfl (lv_at hl 1 rfl) ?_
    refine tk_r hH hS hA (tr_V (n := 1) (As := [.int x1]) hx hb hml hown hts hkb hH hOX hks hE hS hA (s_FW_rowsOf l D cs kf T O X a0 w hw gw ch gq x1 t_a0 t_w t_ch (by omega) (by omega) (hO.sub (by decide))) kw_830 kw_832 ks_21 kw_1 kw_833 (by decide +kernel) ⟨Nat.le_of_ble_eq_true rfl, Nat.le_of_ble_eq_true rfl⟩ (HT.recv (ci := 11) hkb hH t_a0 (hO.no t_a0 (by decide)) rfl) rfl rfl hl.1 (Nat.le_of_ble_eq_true rfl) dX11_saved_14 ⟨Nat.le_of_ble_eq_true rfl, Nat.le_of_ble_eq_true rfl⟩) (fun v14 u H locs hz9 hH hS => ?_)
    obtain ⟨hu9, t_v14⟩ := hz9
    have hu9 : u = (T, O, X) := hu9
    subst hu9
    have hH : HT D cs A T O X H := hH
    refine W.widen (k := 0) (n := 0) (Nat.le_of_ble_eq_true rfl) (Nat.le_of_ble_eq_true rfl) ?_
    refine lv_aload_n hx hb dX11_saved_17 rfl (lv_at hl 0 rfl) ?_
    refine tk_i hH hS hA (tr_V (n := 0) (As := []) hx hb hml hown hts hkb hH hOX hks hE hS hA (s_FW_openNow l D cs kf T O X a0 w hw gw ch gq t_a0 t_w t_ch (hO.sub (by decide))) kw_846 kw_848 ks_22 kw_1 kw_849 (by decide +kernel) ⟨Nat.le_of_ble_eq_true rfl, Nat.le_of_ble_eq_true rfl⟩ (HT.recv (ci := 11) hkb hH t_a0 (hO.no t_a0 (by decide)) rfl) rfl rfl hl.1 (Nat.le_of_ble_eq_true rfl) dX11_saved_18 ⟨Nat.le_of_ble_eq_true rfl, Nat.le_of_ble_eq_true rfl⟩) (fun v18 u H locs hz9 hH hS => ?_)
    obtain ⟨rfl, l_v18, u_v18⟩ := hz9
    have hH : HT D cs A T O X H := hH
    refine W.widen (k := 0) (n := 0) (Nat.le_of_ble_eq_true rfl) (Nat.le_of_ble_eq_true rfl) ?_
    refine tk_i hH hS hA (tr_V (n := 2) (As := [.ref v14, .int v18]) hx hb hml hown hts hkb hH hOX hks hE hS hA (s_Ways_leastUsed l D cs kf T O X v9 v14 v18 t_v9 t_v14 (hO.sub (by decide))) kw_1150 kw_1151 kw_1152 kw_9 kw_1153 (by decide +kernel) ⟨Nat.le_of_ble_eq_true rfl, Nat.le_of_ble_eq_true rfl⟩ (HT.recv (ci := 10) hkb hH t_v9 (hO.no t_v9 (by decide)) rfl) rfl rfl hl.1 (Nat.le_of_ble_eq_true rfl) dX11_saved_21 ⟨Nat.le_of_ble_eq_true rfl, Nat.le_of_ble_eq_true rfl⟩) (fun v21 u H locs hz9 hH hS => ?_)
    obtain ⟨rfl, u_v21⟩ := hz9
    have hH : HT D cs A T O X H := hH
    refine W.widen (k := 0) (n := 0) (Nat.le_of_ble_eq_true rfl) (Nat.le_of_ble_eq_true rfl) ?_
    refine lv_goto (tgt := 29) hx hb dX11_saved_24 (by decide) ?_
    exact J29 v21 _ _ _ (by omega) hH hS (lv_sub hl [] rfl)
set_option maxHeartbeats 4000000 in
set_option maxRecDepth 100000 in
theorem s_FW_leaves (l : Launch) (D : va_G) (cs : CS) (kf : KF) (T : TF) (O : List Nat) (X : va_W) (a0 w hw gw ch gq : Nat) (x1 : Int32) (x2 : Int32) (t_a0 : T a0 = some (21, w, ch)) (t_w : isW T w hw gw) (t_ch : T ch = some (10, gq, 0)) (hO : okO T O [1, 7, 12, 15, 16, 19, 20, 21]) : TK l D cs kf yX11_leaves cX11_leaves 5 (some (.int)) { frames := 6, cells := 0, slots := 0, locals := 152 } [.ref a0, .int x1, .int x2] T O X (Ti D cs (fun r u => u = (T, O, X) ∧ -5 ≤ r.toInt ∧ r.toInt ≤ 1)) := by
  refine tk_of (by decide) (Nat.le_of_ble_eq_true rfl) (fun p e s m below meth c ls A H locs hx hb hr hml hown hts hlocks hnm hkb hH hS hA hOX hks hE hl => ?_)
  have hown : s.vm.findClass RX11 = some m.cls := hown
  have hl : lv_has ls 5 [(0, .ref a0), (1, .int x1), (2, .int x2)] := hl
  have b1_w := t_w.2.1
  have b2_w := t_w.2.2
  refine lv_aload_n hx hb dX11_leaves_0 rfl (lv_at hl 0 rfl) ?_
  refine lv_iload_n hx hb dX11_leaves_1 rfl (lv_at hl 1 rfl) ?_
  refine tk_i hH hS hA (tr_V (n := 1) (As := [.int x1]) hx hb hml hown hts hkb hH hOX hks hE hS hA (s_FW_isGuide l D cs kf T O X a0 w hw gw ch gq x1 t_a0 t_w t_ch (hO.sub (by decide))) kw_794 kw_796 ks_20 kw_1 kw_797 (by decide +kernel) ⟨Nat.le_of_ble_eq_true rfl, Nat.le_of_ble_eq_true rfl⟩ (HT.recv (ci := 11) hkb hH t_a0 (hO.no t_a0 (by decide)) rfl) rfl rfl hl.1 (Nat.le_of_ble_eq_true rfl) dX11_leaves_2 ⟨Nat.le_of_ble_eq_true rfl, Nat.le_of_ble_eq_true rfl⟩) (fun v2 u H locs hz9 hH hS => ?_)
  obtain ⟨rfl, l_v2, u_v2, x_v20⟩ := hz9
  have hH : HT D cs A T O X H := hH
  refine W.widen (k := 0) (n := 0) (Nat.le_of_ble_eq_true rfl) (Nat.le_of_ble_eq_true rfl) ?_
  have J16 : ∀  (H : Heap) (locs : List Loc) (ls : Array Slot), HT D cs A T O X H → va_S A s.heap H locs → lv_has ls 5 [] → W p l e { frames := 6, cells := 0, slots := 0, locals := 152 } s m [.ref a0, .int x1, .int x2].toArray below meth c H locs 0 0 (MQ below (Ti D cs (fun r u => u = (T, O, X) ∧ -5 ≤ r.toInt ∧ r.toInt ≤ 1) A) [.ref a0, .int x1, .int x2].toArray s 0 0 A) (F0 m 16 ls []) := by
    intro  H locs ls  hH hS hl
    refine lv_bipush (v := (-2)) hx hb dX11_leaves_16 (by decide) ?_
    exact te_i hx hb hr hlocks hH hS (⟨rfl, by decide, by decide⟩) dX11_leaves_18
  refine lv_if_eq (tgt := 16) hx hb dX11_leaves_5 (by decide) (fun c5 => ?_) (fun c5 => ?_)
  · skip
    have tc5 := f_eq (k := 0) (by decide) c5
    exact J16  _ _ _  hH hS (lv_sub hl [] rfl)
  · skip
    have tc5 := f_ne (k := 0) (by decide) c5
    refine lv_aload_n hx hb dX11_leaves_8 rfl (lv_at hl 0 rfl) ?_
    refine lv_iload_n hx hb dX11_leaves_9 rfl (lv_at hl 2 rfl) ?_
    refine tk_i hH hS hA (tr_V (n := 1) (As := [.int x2]) hx hb hml hown hts hkb hH hOX hks hE hS hA (s_FW_isGuide l D cs kf T O X a0 w hw gw ch gq x2 t_a0 t_w t_ch (hO.sub (by decide))) kw_794 kw_796 ks_20 kw_1 kw_797 (by decide +kernel) ⟨Nat.le_of_ble_eq_true rfl, Nat.le_of_ble_eq_true rfl⟩ (HT.recv (ci := 11) hkb hH t_a0 (hO.no t_a0 (by decide)) rfl) rfl rfl hl.1 (Nat.le_of_ble_eq_true rfl) dX11_leaves_10 ⟨Nat.le_of_ble_eq_true rfl, Nat.le_of_ble_eq_true rfl⟩) (fun v10 u H locs hz9 hH hS => ?_)
    obtain ⟨rfl, l_v10, u_v10, x_v100⟩ := hz9
    have hH : HT D cs A T O X H := hH
    refine W.widen (k := 0) (n := 0) (Nat.le_of_ble_eq_true rfl) (Nat.le_of_ble_eq_true rfl) ?_
    refine lv_if_ne (tgt := 19) hx hb dX11_leaves_13 (by decide) (fun c13 => ?_) (fun c13 => ?_)
    · skip
      have tc13 := f_ne (k := 0) (by decide) c13
      refine lv_aload_n hx hb dX11_leaves_19 rfl (lv_at hl 0 rfl) ?_
      refine tk_i hH hS hA (tr_V (n := 0) (As := []) hx hb hml hown hts hkb hH hOX hks hE hS hA (s_FW_openNow l D cs kf T O X a0 w hw gw ch gq t_a0 t_w t_ch (hO.sub (by decide))) kw_846 kw_848 ks_22 kw_1 kw_849 (by decide +kernel) ⟨Nat.le_of_ble_eq_true rfl, Nat.le_of_ble_eq_true rfl⟩ (HT.recv (ci := 11) hkb hH t_a0 (hO.no t_a0 (by decide)) rfl) rfl rfl hl.1 (Nat.le_of_ble_eq_true rfl) dX11_leaves_20 ⟨Nat.le_of_ble_eq_true rfl, Nat.le_of_ble_eq_true rfl⟩) (fun v20 u H locs hz9 hH hS => ?_)
      obtain ⟨rfl, l_v20, u_v20⟩ := hz9
      have hH : HT D cs A T O X H := hH
      refine W.widen (k := 0) (n := 0) (Nat.le_of_ble_eq_true rfl) (Nat.le_of_ble_eq_true rfl) ?_
      refine lv_istore_n (lv' := [(3, .int v20), (0, .ref a0), (1, .int x1), (2, .int x2)]) hx hb dX11_leaves_23 rfl hl (by decide) rfl (fun ls hl => ?_)
      refine lv_aload_n hx hb dX11_leaves_24 rfl (lv_at hl 1 rfl) ?_
      refine t_get (ci := 11) (lst := ft11 w ch) (C := RX11) (F := TX11) (N := 20) hx hb hts uX11 hown hkb hH t_a0 (hO.no t_a0 (by decide)) (fun _ h9 => h9) rfl rfl 14 (by decide) rfl kw_374 (fun _ h9 => h9) dX11_leaves_25 (fun v9 h9 => ?_)
      obtain ⟨v25, rfl, t_v25⟩ := h9
      refine lv_aload_n hx hb dX11_leaves_28 rfl (lv_at hl 1 rfl) ?_
      refine lv_iload_n hx hb dX11_leaves_29 rfl (lv_at hl 3 rfl) ?_
      refine tk_r hH hS hA (tr_V (n := 1) (As := [.int x2]) hx hb hml hown hts hkb hH hOX hks hE hS hA (s_FW_rowsOf l D cs kf T O X a0 w hw gw ch gq x2 t_a0 t_w t_ch (by omega) (by omega) (hO.sub (by decide))) kw_830 kw_832 ks_21 kw_1 kw_833 (by decide +kernel) ⟨Nat.le_of_ble_eq_true rfl, Nat.le_of_ble_eq_true rfl⟩ (HT.recv (ci := 11) hkb hH t_a0 (hO.no t_a0 (by decide)) rfl) rfl rfl hl.1 (Nat.le_of_ble_eq_true rfl) dX11_leaves_30 ⟨Nat.le_of_ble_eq_true rfl, Nat.le_of_ble_eq_true rfl⟩) (fun v30 u H locs hz9 hH hS => ?_)
      obtain ⟨hu9, t_v30⟩ := hz9
      have hu9 : u = (T, O, X) := hu9
      subst hu9
      have hH : HT D cs A T O X H := hH
      refine W.widen (k := 0) (n := 0) (Nat.le_of_ble_eq_true rfl) (Nat.le_of_ble_eq_true rfl) ?_
      refine lv_iload_n hx hb dX11_leaves_33 rfl (lv_at hl 0 rfl) ?_
      refine tk_i hH hS hA (tr_V (n := 2) (As := [.ref v30, .int v20]) hx hb hml hown hts hkb hH hOX hks hE hS hA (s_Ways_find l D cs kf T O X v25 v30 v20 t_v25 t_v30 (hO.sub (by decide))) kw_912 kw_913 kw_914 kw_9 kw_915 (by decide +kernel) ⟨Nat.le_of_ble_eq_true rfl, Nat.le_of_ble_eq_true rfl⟩ (HT.recv (ci := 10) hkb hH t_v25 (hO.no t_v25 (by decide)) rfl) rfl rfl hl.1 (Nat.le_of_ble_eq_true rfl) dX11_leaves_34 ⟨Nat.le_of_ble_eq_true rfl, Nat.le_of_ble_eq_true rfl⟩) (fun v34 u H locs hz9 hH hS => ?_)
      obtain ⟨rfl, l_v34, u_v34⟩ := hz9
      have hH : HT D cs A T O X H := hH
      refine W.widen (k := 0) (n := 0) (Nat.le_of_ble_eq_true rfl) (Nat.le_of_ble_eq_true rfl) ?_
      refine lv_if_ne (tgt := 43) hx hb dX11_leaves_37 (by decide) (fun c37 => ?_) (fun c37 => ?_)
      · skip
        have tc37 := f_ne (k := 0) (by decide) c37
        refine lv_iload_n hx hb dX11_leaves_43 rfl (lv_at hl 0 rfl) ?_
        refine lv_aload_n hx hb dX11_leaves_44 rfl (lv_at hl 1 rfl) ?_
        refine t_get (ci := 11) (lst := ft11 w ch) (C := RX11) (F := TX11) (N := 20) hx hb hts uX11 hown hkb hH t_a0 (hO.no t_a0 (by decide)) (fun _ h9 => h9) rfl rfl 14 (by decide) rfl kw_374 (fun _ h9 => h9) dX11_leaves_45 (fun v9 h9 => ?_)
        obtain ⟨v45, rfl, t_v45⟩ := h9
        refine tk_i hH hS hA (tr_V (n := 0) (As := []) hx hb hml hown hts hkb hH hOX hks hE hS hA (s_Ways_pathSet l D cs kf T O X v45 t_v45 (hO.sub (by decide))) kw_926 kw_927 kw_928 kw_9 kw_929 (by decide +kernel) ⟨Nat.le_of_ble_eq_true rfl, Nat.le_of_ble_eq_true rfl⟩ (HT.recv (ci := 10) hkb hH t_v45 (hO.no t_v45 (by decide)) rfl) rfl rfl hl.1 (Nat.le_of_ble_eq_true rfl) dX11_leaves_48 ⟨Nat.le_of_ble_eq_true rfl, Nat.le_of_ble_eq_true rfl⟩) (fun v48 u H locs hz9 hH hS => ?_)
        have hz9 : u = (T, O, X) := hz9
        subst hz9
        have hH : HT D cs A T O X H := hH
        refine W.widen (k := 0) (n := 0) (Nat.le_of_ble_eq_true rfl) (Nat.le_of_ble_eq_true rfl) ?_
        refine lv_aload_n hx hb dX11_leaves_51 rfl (lv_at hl 1 rfl) ?_
        refine t_get (ci := 11) (lst := ft11 w ch) (C := RX11) (F := TX11) (N := 20) hx hb hts uX11 hown hkb hH t_a0 (hO.no t_a0 (by decide)) (fun _ h9 => h9) rfl rfl 3 (by decide) rfl kw_363 (fun _ h9 => h9) dX11_leaves_52 (fun v9 h9 => ?_)
        have h9 : v9 = .ref w := h9
        subst h9
        refine tk_i hH hS hA (tr_V (n := 0) (As := []) hx hb hml hown hts hkb hH hOX hks hE hS hA (s_Wall_middles l D cs kf T O X w hw gw t_w (hO.sub (by decide))) kw_892 kw_683 kw_684 kw_5 kw_685 (by decide +kernel) ⟨Nat.le_of_ble_eq_true rfl, Nat.le_of_ble_eq_true rfl⟩ (HT.recv (ci := 9) hkb hH t_w.1 (hO.no t_w.1 (by decide)) rfl) rfl rfl hl.1 (Nat.le_of_ble_eq_true rfl) dX11_leaves_55 ⟨Nat.le_of_ble_eq_true rfl, Nat.le_of_ble_eq_true rfl⟩) (fun v55 u H locs hz9 hH hS => ?_)
        obtain ⟨rfl, l_v55, u_v55⟩ := hz9
        have hH : HT D cs A T O X H := hH
        refine W.widen (k := 0) (n := 0) (Nat.le_of_ble_eq_true rfl) (Nat.le_of_ble_eq_true rfl) ?_
        refine lv_iand hx hb dX11_leaves_58 ?_
        refine lv_topi (fun v58 ev58 => ?_)
        have tv58 : 0 ≤ v58.toInt ∧ v58.toInt ≤ v55.toInt := by rw [ev58]; exact and_r (by omega)
        refine lv_iconst (v := (-1)) hx hb dX11_leaves_59 (by decide) ?_
        refine lv_ixor hx hb dX11_leaves_60 ?_
        refine lv_topi (fun v60 ev60 => ?_)
        refine lv_iand hx hb dX11_leaves_61 ?_
        refine lv_topi (fun v61 ev61 => ?_)
        have tv61 : 0 ≤ v61.toInt ∧ v61.toInt ≤ v20.toInt := by rw [ev61]; exact and_l (by omega)
        refine lv_istore (lv' := [(4, .int v61), (3, .int v20), (0, .ref a0), (1, .int x1), (2, .int x2)]) hx hb dX11_leaves_62 hl (by decide) rfl (fun ls hl => ?_)
        refine lv_aload_n hx hb dX11_leaves_64 rfl (lv_at hl 2 rfl) ?_
        refine lv_iload_n hx hb dX11_leaves_65 rfl (lv_at hl 3 rfl) ?_
        refine tk_r hH hS hA (tr_V (n := 1) (As := [.int x1]) hx hb hml hown hts hkb hH hOX hks hE hS hA (s_FW_rowsOf l D cs kf T O X a0 w hw gw ch gq x1 t_a0 t_w t_ch (by omega) (by omega) (hO.sub (by decide))) kw_830 kw_832 ks_21 kw_1 kw_833 (by decide +kernel) ⟨Nat.le_of_ble_eq_true rfl, Nat.le_of_ble_eq_true rfl⟩ (HT.recv (ci := 11) hkb hH t_a0 (hO.no t_a0 (by decide)) rfl) rfl rfl hl.1 (Nat.le_of_ble_eq_true rfl) dX11_leaves_66 ⟨Nat.le_of_ble_eq_true rfl, Nat.le_of_ble_eq_true rfl⟩) (fun v66 u H locs hz9 hH hS => ?_)
        obtain ⟨hu9, t_v66⟩ := hz9
        have hu9 : u = (T, O, X) := hu9
        subst hu9
        have hH : HT D cs A T O X H := hH
        refine W.widen (k := 0) (n := 0) (Nat.le_of_ble_eq_true rfl) (Nat.le_of_ble_eq_true rfl) ?_
        refine lv_iload hx hb dX11_leaves_69 (lv_at hl 0 rfl) ?_
        refine tk_i hH hS hA (tr_V (n := 1) (As := [.int v61]) hx hb hml hown hts hkb hH hOX hks hE hS hA (s_Rows_getsUp l D cs kf T O X v66 v61 t_v66 (hO.sub (by decide))) kw_1059 kw_1060 kw_1061 kw_8 kw_1062 (by decide +kernel) ⟨Nat.le_of_ble_eq_true rfl, Nat.le_of_ble_eq_true rfl⟩ (HT.recv (ci := 5) hkb hH t_v66 (hO.no t_v66 (by decide)) rfl) rfl rfl hl.1 (Nat.le_of_ble_eq_true rfl) dX11_leaves_71 ⟨Nat.le_of_ble_eq_true rfl, Nat.le_of_ble_eq_true rfl⟩) (fun v71 u H locs hz9 hH hS => ?_)
        obtain ⟨rfl, l_v71, u_v71⟩ := hz9
        have hH : HT D cs A T O X H := hH
        refine W.widen (k := 0) (n := 0) (Nat.le_of_ble_eq_true rfl) (Nat.le_of_ble_eq_true rfl) ?_
        have J82 : ∀ (k82_0 : Int32) (H : Heap) (locs : List Loc) (ls : Array Slot), (0 ≤ k82_0.toInt) → (k82_0.toInt ≤ 1) → HT D cs A T O X H → va_S A s.heap H locs → lv_has ls 5 [] → W p l e { frames := 6, cells := 0, slots := 0, locals := 152 } s m [.ref a0, .int x1, .int x2].toArray below meth c H locs 0 0 (MQ below (Ti D cs (fun r u => u = (T, O, X) ∧ -5 ≤ r.toInt ∧ r.toInt ≤ 1) A) [.ref a0, .int x1, .int x2].toArray s 0 0 A) (F0 m 82 ls [.int k82_0]) := by
          intro k82_0 H locs ls l_k82_0 u_k82_0 hH hS hl
          exact te_i hx hb hr hlocks hH hS (⟨rfl, by omega, by omega⟩) dX11_leaves_82
        refine lv_if_eq (tgt := 81) hx hb dX11_leaves_74 (by decide) (fun c74 => ?_) (fun c74 => ?_)
        · skip
          have tc74 := f_eq (k := 0) (by decide) c74
          refine lv_iconst (v := 0) hx hb dX11_leaves_81 (by decide) ?_
          exact J82 0 _ _ _ (by decide) (by decide) hH hS (lv_sub hl [] rfl)
        · skip
          have tc74 := f_ne (k := 0) (by decide) c74
          refine lv_iconst (v := 1) hx hb dX11_leaves_77 (by decide) ?_
          refine lv_goto (tgt := 82) hx hb dX11_leaves_78 (by decide) ?_
          exact J82 1 _ _ _ (by decide) (by decide) hH hS (lv_sub hl [] rfl)
      · skip
        have tc37 := f_eq (k := 0) (by decide) c37
        refine lv_bipush (v := (-5)) hx hb dX11_leaves_40 (by decide) ?_
        exact te_i hx hb hr hlocks hH hS (⟨rfl, by decide, by decide⟩) dX11_leaves_42
    · skip
      have tc13 := f_eq (k := 0) (by decide) c13
      exact J16  _ _ _  hH hS (lv_sub hl [] rfl)
theorem dX11_inTurn_0 : decode cX11_inTurn 0 = .ok (.iload_n 1, 1) := by decide +kernel
theorem dX11_inTurn_1 : decode cX11_inTurn 1 = .ok (.aload_n 0, 1) := by decide +kernel
theorem dX11_inTurn_2 : decode cX11_inTurn 2 = .ok (.getfield 29, 3) := by decide +kernel
theorem dX11_inTurn_5 : decode cX11_inTurn 5 = .ok (.getfield 216, 3) := by decide +kernel
theorem dX11_inTurn_8 : decode cX11_inTurn 8 = .ok (.iushr, 1) := by decide +kernel
theorem dX11_inTurn_9 : decode cX11_inTurn 9 = .ok (.ifCond .eq 6, 3) := by decide +kernel
theorem dX11_inTurn_12 : decode cX11_inTurn 12 = .ok (.bipush (-3), 2) := by decide +kernel
theorem dX11_inTurn_14 : decode cX11_inTurn 14 = .ok (.ireturn, 1) := by decide +kernel
theorem dX11_inTurn_15 : decode cX11_inTurn 15 = .ok (.iload_n 2, 1) := by decide +kernel
theorem dX11_inTurn_16 : decode cX11_inTurn 16 = .ok (.iconst 5, 1) := by decide +kernel
theorem dX11_inTurn_17 : decode cX11_inTurn 17 = .ok (.invokestatic 299, 3) := by decide +kernel
theorem dX11_inTurn_20 : decode cX11_inTurn 20 = .ok (.ifCond .ne 6, 3) := by decide +kernel
theorem dX11_inTurn_23 : decode cX11_inTurn 23 = .ok (.bipush (-2), 2) := by decide +kernel
theorem dX11_inTurn_25 : decode cX11_inTurn 25 = .ok (.ireturn, 1) := by decide +kernel
theorem dX11_inTurn_26 : decode cX11_inTurn 26 = .ok (.aload_n 0, 1) := by decide +kernel
theorem dX11_inTurn_27 : decode cX11_inTurn 27 = .ok (.iconst (-1), 1) := by decide +kernel
theorem dX11_inTurn_28 : decode cX11_inTurn 28 = .ok (.putfield 107, 3) := by decide +kernel
theorem dX11_inTurn_31 : decode cX11_inTurn 31 = .ok (.aload_n 0, 1) := by decide +kernel
theorem dX11_inTurn_32 : decode cX11_inTurn 32 = .ok (.iconst 0, 1) := by decide +kernel
theorem dX11_inTurn_33 : decode cX11_inTurn 33 = .ok (.iload_n 1, 1) := by decide +kernel
theorem dX11_inTurn_34 : decode cX11_inTurn 34 = .ok (.aload_n 0, 1) := by decide +kernel
theorem dX11_inTurn_35 : decode cX11_inTurn 35 = .ok (.invokevirtual 206, 3) := by decide +kernel
theorem dX11_inTurn_38 : decode cX11_inTurn 38 = .ok (.iconst 0, 1) := by decide +kernel
theorem dX11_inTurn_39 : decode cX11_inTurn 39 = .ok (.invokevirtual 352, 3) := by decide +kernel
theorem dX11_inTurn_42 : decode cX11_inTurn 42 = .ok (.iload_n 2, 1) := by decide +kernel
theorem dX11_inTurn_43 : decode cX11_inTurn 43 = .ok (.ifCond .ne 8, 3) := by decide +kernel
theorem dX11_inTurn_46 : decode cX11_inTurn 46 = .ok (.aload_n 0, 1) := by decide +kernel
theorem dX11_inTurn_47 : decode cX11_inTurn 47 = .ok (.getfield 107, 3) := by decide +kernel
theorem dX11_inTurn_50 : decode cX11_inTurn 50 = .ok (.ireturn, 1) := by decide +kernel
theorem dX11_inTurn_51 : decode cX11_inTurn 51 = .ok (.aload_n 0, 1) := by decide +kernel
theorem dX11_inTurn_52 : decode cX11_inTurn 52 = .ok (.getfield 104, 3) := by decide +kernel
theorem dX11_inTurn_55 : decode cX11_inTurn 55 = .ok (.iload_n 1, 1) := by decide +kernel
theorem dX11_inTurn_56 : decode cX11_inTurn 56 = .ok (.invokestatic 243, 3) := by decide +kernel
theorem dX11_inTurn_59 : decode cX11_inTurn 59 = .ok (.iload_n 2, 1) := by decide +kernel
theorem dX11_inTurn_60 : decode cX11_inTurn 60 = .ok (.invokestatic 306, 3) := by decide +kernel
theorem dX11_inTurn_63 : decode cX11_inTurn 63 = .ok (.ireturn, 1) := by decide +kernel
theorem dX11_takeTurns_0 : decode cX11_takeTurns 0 = .ok (.iload 4, 2) := by decide +kernel
theorem dX11_takeTurns_2 : decode cX11_takeTurns 2 = .ok (.iload_n 2, 1) := by decide +kernel
theorem dX11_takeTurns_3 : decode cX11_takeTurns 3 = .ok (.invokestatic 243, 3) := by decide +kernel
theorem dX11_takeTurns_6 : decode cX11_takeTurns 6 = .ok (.iadd, 1) := by decide +kernel
theorem dX11_takeTurns_7 : decode cX11_takeTurns 7 = .ok (.aload_n 0, 1) := by decide +kernel
theorem dX11_takeTurns_8 : decode cX11_takeTurns 8 = .ok (.getfield 107, 3) := by decide +kernel
theorem dX11_takeTurns_11 : decode cX11_takeTurns 11 = .ok (.if_icmp .gt 4, 3) := by decide +kernel
theorem dX11_takeTurns_14 : decode cX11_takeTurns 14 = .ok (.return_, 1) := by decide +kernel
theorem dX11_takeTurns_15 : decode cX11_takeTurns 15 = .ok (.iload_n 2, 1) := by decide +kernel
theorem dX11_takeTurns_16 : decode cX11_takeTurns 16 = .ok (.ifCond .eq 8, 3) := by decide +kernel
theorem dX11_takeTurns_19 : decode cX11_takeTurns 19 = .ok (.iload_n 1, 1) := by decide +kernel
theorem dX11_takeTurns_20 : decode cX11_takeTurns 20 = .ok (.iconst 5, 1) := by decide +kernel
theorem dX11_takeTurns_21 : decode cX11_takeTurns 21 = .ok (.if_icmp .lt 24, 3) := by decide +kernel
theorem dX11_takeTurns_24 : decode cX11_takeTurns 24 = .ok (.aload_n 0, 1) := by decide +kernel
theorem dX11_takeTurns_25 : decode cX11_takeTurns 25 = .ok (.iload 4, 2) := by decide +kernel
theorem dX11_takeTurns_27 : decode cX11_takeTurns 27 = .ok (.putfield 107, 3) := by decide +kernel
theorem dX11_takeTurns_30 : decode cX11_takeTurns 30 = .ok (.aload_n 0, 1) := by decide +kernel
theorem dX11_takeTurns_31 : decode cX11_takeTurns 31 = .ok (.getfield 100, 3) := by decide +kernel
theorem dX11_takeTurns_34 : decode cX11_takeTurns 34 = .ok (.iconst 0, 1) := by decide +kernel
theorem dX11_takeTurns_35 : decode cX11_takeTurns 35 = .ok (.aload_n 0, 1) := by decide +kernel
theorem dX11_takeTurns_36 : decode cX11_takeTurns 36 = .ok (.getfield 104, 3) := by decide +kernel
theorem dX11_takeTurns_39 : decode cX11_takeTurns 39 = .ok (.iconst 0, 1) := by decide +kernel
theorem dX11_takeTurns_40 : decode cX11_takeTurns 40 = .ok (.iconst 5, 1) := by decide +kernel
theorem dX11_takeTurns_41 : decode cX11_takeTurns 41 = .ok (.invokestatic 356, 3) := by decide +kernel
theorem dX11_takeTurns_44 : decode cX11_takeTurns 44 = .ok (.return_, 1) := by decide +kernel
theorem dX11_takeTurns_45 : decode cX11_takeTurns 45 = .ok (.iconst 0, 1) := by decide +kernel
theorem dX11_takeTurns_46 : decode cX11_takeTurns 46 = .ok (.istore 5, 2) := by decide +kernel
theorem dX11_takeTurns_48 : decode cX11_takeTurns 48 = .ok (.iload 5, 2) := by decide +kernel
theorem dX11_takeTurns_50 : decode cX11_takeTurns 50 = .ok (.aload_n 0, 1) := by decide +kernel
theorem dX11_takeTurns_51 : decode cX11_takeTurns 51 = .ok (.getfield 29, 3) := by decide +kernel
theorem dX11_takeTurns_54 : decode cX11_takeTurns 54 = .ok (.getfield 216, 3) := by decide +kernel
theorem dX11_takeTurns_57 : decode cX11_takeTurns 57 = .ok (.if_icmp .ge 110, 3) := by decide +kernel
theorem dX11_takeTurns_60 : decode cX11_takeTurns 60 = .ok (.iload_n 2, 1) := by decide +kernel
theorem dX11_takeTurns_61 : decode cX11_takeTurns 61 = .ok (.iload 5, 2) := by decide +kernel
theorem dX11_takeTurns_63 : decode cX11_takeTurns 63 = .ok (.ishr, 1) := by decide +kernel
theorem dX11_takeTurns_64 : decode cX11_takeTurns 64 = .ok (.iconst 1, 1) := by decide +kernel
theorem dX11_takeTurns_65 : decode cX11_takeTurns 65 = .ok (.iand, 1) := by decide +kernel
theorem dX11_takeTurns_66 : decode cX11_takeTurns 66 = .ok (.ifCond .eq 95, 3) := by decide +kernel
theorem dX11_takeTurns_69 : decode cX11_takeTurns 69 = .ok (.aload_n 0, 1) := by decide +kernel
theorem dX11_takeTurns_70 : decode cX11_takeTurns 70 = .ok (.getfield 100, 3) := by decide +kernel
theorem dX11_takeTurns_73 : decode cX11_takeTurns 73 = .ok (.iload_n 1, 1) := by decide +kernel
theorem dX11_takeTurns_74 : decode cX11_takeTurns 74 = .ok (.iload 5, 2) := by decide +kernel
theorem dX11_takeTurns_76 : decode cX11_takeTurns 76 = .ok (.iastore, 1) := by decide +kernel
theorem dX11_takeTurns_77 : decode cX11_takeTurns 77 = .ok (.aload_n 0, 1) := by decide +kernel
theorem dX11_takeTurns_78 : decode cX11_takeTurns 78 = .ok (.getfield 82, 3) := by decide +kernel
theorem dX11_takeTurns_81 : decode cX11_takeTurns 81 = .ok (.aload_n 0, 1) := by decide +kernel
theorem dX11_takeTurns_82 : decode cX11_takeTurns 82 = .ok (.iload 5, 2) := by decide +kernel
theorem dX11_takeTurns_84 : decode cX11_takeTurns 84 = .ok (.invokevirtual 202, 3) := by decide +kernel
theorem dX11_takeTurns_87 : decode cX11_takeTurns 87 = .ok (.iload_n 3, 1) := by decide +kernel
theorem dX11_takeTurns_88 : decode cX11_takeTurns 88 = .ok (.invokevirtual 271, 3) := by decide +kernel
theorem dX11_takeTurns_91 : decode cX11_takeTurns 91 = .ok (.ifCond .le 7, 3) := by decide +kernel
theorem dX11_takeTurns_94 : decode cX11_takeTurns 94 = .ok (.iconst 1, 1) := by decide +kernel
theorem dX11_takeTurns_95 : decode cX11_takeTurns 95 = .ok (.goto 4, 3) := by decide +kernel
theorem dX11_takeTurns_98 : decode cX11_takeTurns 98 = .ok (.iconst 0, 1) := by decide +kernel
theorem dX11_takeTurns_99 : decode cX11_takeTurns 99 = .ok (.istore 6, 2) := by decide +kernel
theorem dX11_takeTurns_101 : decode cX11_takeTurns 101 = .ok (.iload 6, 2) := by decide +kernel
theorem dX11_takeTurns_103 : decode cX11_takeTurns 103 = .ok (.ifCond .eq 25, 3) := by decide +kernel
theorem dX11_takeTurns_106 : decode cX11_takeTurns 106 = .ok (.iload_n 3, 1) := by decide +kernel
theorem dX11_takeTurns_107 : decode cX11_takeTurns 107 = .ok (.aload_n 0, 1) := by decide +kernel
theorem dX11_takeTurns_108 : decode cX11_takeTurns 108 = .ok (.getfield 82, 3) := by decide +kernel
theorem dX11_takeTurns_111 : decode cX11_takeTurns 111 = .ok (.invokevirtual 275, 3) := by decide +kernel
theorem dX11_takeTurns_114 : decode cX11_takeTurns 114 = .ok (.aload_n 0, 1) := by decide +kernel
theorem dX11_takeTurns_115 : decode cX11_takeTurns 115 = .ok (.getfield 29, 3) := by decide +kernel
theorem dX11_takeTurns_118 : decode cX11_takeTurns 118 = .ok (.invokevirtual 265, 3) := by decide +kernel
theorem dX11_takeTurns_121 : decode cX11_takeTurns 121 = .ok (.iand, 1) := by decide +kernel
theorem dX11_takeTurns_122 : decode cX11_takeTurns 122 = .ok (.iconst (-1), 1) := by decide +kernel
theorem dX11_takeTurns_123 : decode cX11_takeTurns 123 = .ok (.ixor, 1) := by decide +kernel
theorem dX11_takeTurns_124 : decode cX11_takeTurns 124 = .ok (.iand, 1) := by decide +kernel
theorem dX11_takeTurns_125 : decode cX11_takeTurns 125 = .ok (.goto 4, 3) := by decide +kernel
theorem dX11_takeTurns_128 : decode cX11_takeTurns 128 = .ok (.iload_n 3, 1) := by decide +kernel
theorem dX11_takeTurns_129 : decode cX11_takeTurns 129 = .ok (.istore 7, 2) := by decide +kernel
theorem dX11_takeTurns_131 : decode cX11_takeTurns 131 = .ok (.aload_n 0, 1) := by decide +kernel
theorem dX11_takeTurns_132 : decode cX11_takeTurns 132 = .ok (.iload_n 1, 1) := by decide +kernel
theorem dX11_takeTurns_133 : decode cX11_takeTurns 133 = .ok (.iconst 1, 1) := by decide +kernel
theorem dX11_takeTurns_134 : decode cX11_takeTurns 134 = .ok (.iadd, 1) := by decide +kernel
theorem dX11_takeTurns_135 : decode cX11_takeTurns 135 = .ok (.iload_n 2, 1) := by decide +kernel
theorem dX11_takeTurns_136 : decode cX11_takeTurns 136 = .ok (.iconst 1, 1) := by decide +kernel
theorem dX11_takeTurns_137 : decode cX11_takeTurns 137 = .ok (.iload 5, 2) := by decide +kernel
theorem dX11_takeTurns_139 : decode cX11_takeTurns 139 = .ok (.ishl, 1) := by decide +kernel
theorem dX11_takeTurns_140 : decode cX11_takeTurns 140 = .ok (.iconst (-1), 1) := by decide +kernel
theorem dX11_takeTurns_141 : decode cX11_takeTurns 141 = .ok (.ixor, 1) := by decide +kernel
theorem dX11_takeTurns_142 : decode cX11_takeTurns 142 = .ok (.iand, 1) := by decide +kernel
theorem dX11_takeTurns_143 : decode cX11_takeTurns 143 = .ok (.iload 7, 2) := by decide +kernel
theorem dX11_takeTurns_145 : decode cX11_takeTurns 145 = .ok (.iload 4, 2) := by decide +kernel
theorem dX11_takeTurns_147 : decode cX11_takeTurns 147 = .ok (.iload 6, 2) := by decide +kernel
theorem dX11_takeTurns_149 : decode cX11_takeTurns 149 = .ok (.ifCond .eq 7, 3) := by decide +kernel
theorem dX11_takeTurns_152 : decode cX11_takeTurns 152 = .ok (.iconst 1, 1) := by decide +kernel
theorem dX11_takeTurns_153 : decode cX11_takeTurns 153 = .ok (.goto 4, 3) := by decide +kernel
theorem dX11_takeTurns_156 : decode cX11_takeTurns 156 = .ok (.iconst 0, 1) := by decide +kernel
theorem dX11_takeTurns_157 : decode cX11_takeTurns 157 = .ok (.iadd, 1) := by decide +kernel
theorem dX11_takeTurns_158 : decode cX11_takeTurns 158 = .ok (.invokevirtual 352, 3) := by decide +kernel
theorem dX11_takeTurns_161 : decode cX11_takeTurns 161 = .ok (.iinc 5 1, 3) := by decide +kernel
theorem dX11_takeTurns_164 : decode cX11_takeTurns 164 = .ok (.goto (-116), 3) := by decide +kernel
theorem dX11_takeTurns_167 : decode cX11_takeTurns 167 = .ok (.return_, 1) := by decide +kernel
theorem kw_377 : Cond.fieldLink "FootholdWall" 100 "FootholdWall" "turn" "[I" ∈ gw := gw_of (tb_of 377 (by decide +kernel)) (by decide +kernel)
theorem kw_378 : Cond.fieldLink "FootholdWall" 104 "FootholdWall" "bestTurn" "[I" ∈ gw := gw_of (tb_of 378 (by decide +kernel)) (by decide +kernel)
theorem kw_379 : Cond.fieldLink "FootholdWall" 107 "FootholdWall" "bestUp" "I" ∈ gw := gw_of (tb_of 379 (by decide +kernel)) (by decide +kernel)
theorem kw_1168 : Cond.methodLink "FootholdWall" 352 yX11_takeTurns ∈ gw := gw_of (tb_of 1168 (by decide +kernel)) (by decide +kernel)
theorem kw_1170 : Cond.instanceMethod yX11_takeTurns ∈ gw := gw_of (tb_of 1170 (by decide +kernel)) (by decide +kernel)
theorem kw_1171 : Cond.code yX11_takeTurns cX11_takeTurns 8 none ∈ gw := gw_of (tb_of 1171 (by decide +kernel)) (by decide +kernel)
theorem kw_1172 : Cond.methodLink "FootholdWall" 356 arraycopyName ∈ gw := gw_of (tb_of 1172 (by decide +kernel)) (by decide +kernel)
theorem ks_42 : Cond.selects RX11 yX11_takeTurns yX11_takeTurns ∈ gw := gw_of (pv_of 42 (by decide +kernel)) (by decide +kernel)
set_option maxHeartbeats 4000000 in
set_option maxRecDepth 100000 in
theorem s_FW_takeTurns5 (l : Launch) (D : va_G) (cs : CS) (kf : KF) (T : TF) (O : List Nat) (X : va_W) (a0 w hw gw ch gq : Nat) (x1 : Int32) (x2 : Int32) (x3 : Int32) (x4 : Int32) (t_a0 : T a0 = some (21, w, ch)) (t_w : isW T w hw gw) (t_ch : T ch = some (10, gq, 0)) (l_x1 : 5 ≤ x1.toInt) (u_x1 : x1.toInt ≤ 5) (hO : okO T O [1, 21]) : TK l D cs kf yX11_takeTurns cX11_takeTurns 8 none { frames := 1, cells := 0, slots := 0, locals := 60 } [.ref a0, .int x1, .int x2, .int x3, .int x4] T O X (Tv D cs (fun u => u = (T, O, X))) := by
  refine tk_of (by decide) (Nat.le_of_ble_eq_true rfl) (fun p e s m below meth c ls A H locs hx hb hr hml hown hts hlocks hnm hkb hH hS hA hOX hks hE hl => ?_)
  have hown : s.vm.findClass RX11 = some m.cls := hown
  have hl : lv_has ls 8 [(0, .ref a0), (1, .int x1), (2, .int x2), (3, .int x3), (4, .int x4)] := hl
  have b1_w := t_w.2.1
  have b2_w := t_w.2.2
  refine lv_iload hx hb dX11_takeTurns_0 (lv_at hl 4 rfl) ?_
  refine lv_iload_n hx hb dX11_takeTurns_2 rfl (lv_at hl 2 rfl) ?_
  refine tk_i hH hS hA (tr_S (n := 1) (As := [.int x2]) hx hb hml hown hts hkb hH hOX hks hE hS hA (s_bitCount l D cs kf T O X x2  (hO.sub (by decide))) kw_893 kw_692 kw_20 kw_693 (by decide +kernel) ⟨Nat.le_of_ble_eq_true rfl, Nat.le_of_ble_eq_true rfl⟩ rfl rfl hl.1 (Nat.le_of_ble_eq_true rfl) dX11_takeTurns_3 ⟨Nat.le_of_ble_eq_true rfl, Nat.le_of_ble_eq_true rfl⟩) (fun v3 u H locs hz9 hH hS => ?_)
  obtain ⟨rfl, l_v3, u_v3⟩ := hz9
  have hH : HT D cs A T O X H := hH
  refine W.widen (k := 0) (n := 0) (Nat.le_of_ble_eq_true rfl) (Nat.le_of_ble_eq_true rfl) ?_
  refine lv_iadd hx hb dX11_takeTurns_6 ?_
  refine lv_topi (fun v6 ev6 => ?_)
  refine lv_aload_n hx hb dX11_takeTurns_7 rfl (lv_at hl 0 rfl) ?_
  refine t_get (ci := 11) (lst := ft11 w ch) (C := RX11) (F := TX11) (N := 20) hx hb hts uX11 hown hkb hH t_a0 (hO.no t_a0 (by decide)) (fun _ h9 => h9) rfl rfl 19 (by decide) rfl kw_379 (fun _ h9 => h9) dX11_takeTurns_8 (fun v9 h9 => ?_)
  obtain ⟨v8, rfl⟩ := h9
  refine lv_icmp_gt (tgt := 15) hx hb dX11_takeTurns_11 (by decide) (fun c11 => ?_) (fun c11 => ?_)
  · skip
    have fuc11 := full_i v6
    have fvc11 := full_i v8
    have tc11 := g_lt c11
    refine lv_iload_n hx hb dX11_takeTurns_15 rfl (lv_at hl 2 rfl) ?_
    have J24 : ∀  (H : Heap) (locs : List Loc) (ls : Array Slot), HT D cs A T O X H → va_S A s.heap H locs → lv_has ls 8 [(0, .ref a0), (4, .int x4)] → W p l e { frames := 1, cells := 0, slots := 0, locals := 60 } s m [.ref a0, .int x1, .int x2, .int x3, .int x4].toArray below meth c H locs 0 0 (MQ below (Tv D cs (fun u => u = (T, O, X)) A) [.ref a0, .int x1, .int x2, .int x3, .int x4].toArray s 0 0 A) (F0 m 24 ls []) := by
      intro  H locs ls  hH hS hl
      refine lv_aload_n hx hb dX11_takeTurns_24 rfl (lv_at hl 0 rfl) ?_
      refine lv_iload hx hb dX11_takeTurns_25 (lv_at hl 1 rfl) ?_
      refine t_put (ci := 11) (lst := ft11 w ch) (v := .int x4) (ty := tyX11 19) (C := RX11) (F := TX11) (N := 20) hx hb hts uX11 tyX11 tyX11_ok nmX11 hown hkb hH hS t_a0 (hO.no t_a0 (by decide)) (fun _ => Iff.rfl) rfl rfl 19 (by decide) rfl (⟨_, rfl⟩) kw_379 (fun _ h9 => h9) rfl (tyX11_ok 19 (by decide)) rfl rfl dX11_takeTurns_27 (fun H locs hH hS => ?_)
      refine lv_aload_n hx hb dX11_takeTurns_30 rfl (lv_at hl 0 rfl) ?_
      refine t_get (ci := 11) (lst := ft11 w ch) (C := RX11) (F := TX11) (N := 20) hx hb hts uX11 hown hkb hH t_a0 (hO.no t_a0 (by decide)) (fun _ h9 => h9) rfl rfl 17 (by decide) rfl kw_377 (fun _ h9 => h9) dX11_takeTurns_31 (fun v9 h9 => ?_)
      obtain ⟨v31, rfl, t_v31⟩ := h9
      refine lv_iconst (v := 0) hx hb dX11_takeTurns_34 (by decide) ?_
      refine lv_aload_n hx hb dX11_takeTurns_35 rfl (lv_at hl 0 rfl) ?_
      refine t_get (ci := 11) (lst := ft11 w ch) (C := RX11) (F := TX11) (N := 20) hx hb hts uX11 hown hkb hH t_a0 (hO.no t_a0 (by decide)) (fun _ h9 => h9) rfl rfl 18 (by decide) rfl kw_378 (fun _ h9 => h9) dX11_takeTurns_36 (fun v9 h9 => ?_)
      obtain ⟨v36, rfl, t_v36⟩ := h9
      refine lv_iconst (v := 0) hx hb dX11_takeTurns_39 (by decide) ?_
      refine lv_iconst (v := 5) hx hb dX11_takeTurns_40 (by decide) ?_
      refine t_copy hx hb (by rw [hml]; exact hl.1.symm) hown (hts _ kw_1172) (hts _ kw_734) (hts _ kw_733) (hts _ kw_23) hkb hH hS t_v31 (hO.no t_v31 (by decide)) t_v36 (hO.no t_v36 (by decide)) (by decide) (by decide) (by decide) (by decide) (by decide) (Nat.le_of_ble_eq_true rfl) (Nat.le_of_ble_eq_true rfl) dX11_takeTurns_41 (fun H locs hH hS => ?_)
      exact te_v hx hb hr hlocks hH hS rfl dX11_takeTurns_44
    refine lv_if_eq (tgt := 24) hx hb dX11_takeTurns_16 (by decide) (fun c16 => ?_) (fun c16 => ?_)
    · skip
      have tc16 := f_eq (k := 0) (by decide) c16
      exact J24  _ _ _  hH hS (lv_sub hl [0, 4] rfl)
    · skip
      have tc16 := f_ne (k := 0) (by decide) c16
      refine lv_iload_n hx hb dX11_takeTurns_19 rfl (lv_at hl 1 rfl) ?_
      refine lv_iconst (v := 5) hx hb dX11_takeTurns_20 (by decide) ?_
      refine lv_icmp_lt (tgt := 45) hx hb dX11_takeTurns_21 (by decide) (fun c21 => ?_) (fun c21 => ?_)
      · skip
        have tc21 := f_lt (k := 5) (by decide) c21
        exfalso; omega
      · skip
        have tc21 := f_nlt (k := 5) (by decide) c21
        exact J24  _ _ _  hH hS (lv_sub hl [0, 4] rfl)
  · skip
    have fuc11 := full_i v6
    have fvc11 := full_i v8
    have tc11 := g_nlt c11
    exact te_v hx hb hr hlocks hH hS rfl dX11_takeTurns_14
set_option maxHeartbeats 4000000 in
set_option maxRecDepth 100000 in
theorem s_FW_takeTurns4 (l : Launch) (D : va_G) (cs : CS) (kf : KF) (T : TF) (O : List Nat) (X : va_W) (a0 w hw gw ch gq : Nat) (x1 : Int32) (x2 : Int32) (x3 : Int32) (x4 : Int32) (t_a0 : T a0 = some (21, w, ch)) (t_w : isW T w hw gw) (t_ch : T ch = some (10, gq, 0)) (l_x1 : 4 ≤ x1.toInt) (u_x1 : x1.toInt ≤ 4) (hO : okO T O [1, 7, 12, 15, 16, 19, 20, 21]) : TK l D cs kf yX11_takeTurns cX11_takeTurns 8 none { frames := 6, cells := 0, slots := 0, locals := 152 } [.ref a0, .int x1, .int x2, .int x3, .int x4] T O X (Tv D cs (fun u => u = (T, O, X))) := by
  refine tk_of (by decide) (Nat.le_of_ble_eq_true rfl) (fun p e s m below meth c ls A H locs hx hb hr hml hown hts hlocks hnm hkb hH hS hA hOX hks hE hl => ?_)
  have hown : s.vm.findClass RX11 = some m.cls := hown
  have hl : lv_has ls 8 [(0, .ref a0), (1, .int x1), (2, .int x2), (3, .int x3), (4, .int x4)] := hl
  have b1_w := t_w.2.1
  have b2_w := t_w.2.2
  refine lv_iload hx hb dX11_takeTurns_0 (lv_at hl 4 rfl) ?_
  refine lv_iload_n hx hb dX11_takeTurns_2 rfl (lv_at hl 2 rfl) ?_
  refine tk_i hH hS hA (tr_S (n := 1) (As := [.int x2]) hx hb hml hown hts hkb hH hOX hks hE hS hA (s_bitCount l D cs kf T O X x2  (hO.sub (by decide))) kw_893 kw_692 kw_20 kw_693 (by decide +kernel) ⟨Nat.le_of_ble_eq_true rfl, Nat.le_of_ble_eq_true rfl⟩ rfl rfl hl.1 (Nat.le_of_ble_eq_true rfl) dX11_takeTurns_3 ⟨Nat.le_of_ble_eq_true rfl, Nat.le_of_ble_eq_true rfl⟩) (fun v3 u H locs hz9 hH hS => ?_)
  obtain ⟨rfl, l_v3, u_v3⟩ := hz9
  have hH : HT D cs A T O X H := hH
  refine W.widen (k := 0) (n := 0) (Nat.le_of_ble_eq_true rfl) (Nat.le_of_ble_eq_true rfl) ?_
  refine lv_iadd hx hb dX11_takeTurns_6 ?_
  refine lv_topi (fun v6 ev6 => ?_)
  refine lv_aload_n hx hb dX11_takeTurns_7 rfl (lv_at hl 0 rfl) ?_
  refine t_get (ci := 11) (lst := ft11 w ch) (C := RX11) (F := TX11) (N := 20) hx hb hts uX11 hown hkb hH t_a0 (hO.no t_a0 (by decide)) (fun _ h9 => h9) rfl rfl 19 (by decide) rfl kw_379 (fun _ h9 => h9) dX11_takeTurns_8 (fun v9 h9 => ?_)
  obtain ⟨v8, rfl⟩ := h9
  refine lv_icmp_gt (tgt := 15) hx hb dX11_takeTurns_11 (by decide) (fun c11 => ?_) (fun c11 => ?_)
  · skip
    have fuc11 := full_i v6
    have fvc11 := full_i v8
    have tc11 := g_lt c11
    refine lv_iload_n hx hb dX11_takeTurns_15 rfl (lv_at hl 2 rfl) ?_
    refine lv_if_eq (tgt := 24) hx hb dX11_takeTurns_16 (by decide) (fun c16 => ?_) (fun c16 => ?_)
    · skip
      have tc16 := f_eq (k := 0) (by decide) c16
      refine lv_aload_n hx hb dX11_takeTurns_24 rfl (lv_at hl 0 rfl) ?_
      refine lv_iload hx hb dX11_takeTurns_25 (lv_at hl 4 rfl) ?_
      refine t_put (ci := 11) (lst := ft11 w ch) (v := .int x4) (ty := tyX11 19) (C := RX11) (F := TX11) (N := 20) hx hb hts uX11 tyX11 tyX11_ok nmX11 hown hkb hH hS t_a0 (hO.no t_a0 (by decide)) (fun _ => Iff.rfl) rfl rfl 19 (by decide) rfl (⟨_, rfl⟩) kw_379 (fun _ h9 => h9) rfl (tyX11_ok 19 (by decide)) rfl rfl dX11_takeTurns_27 (fun H locs hH hS => ?_)
      refine lv_aload_n hx hb dX11_takeTurns_30 rfl (lv_at hl 0 rfl) ?_
      refine t_get (ci := 11) (lst := ft11 w ch) (C := RX11) (F := TX11) (N := 20) hx hb hts uX11 hown hkb hH t_a0 (hO.no t_a0 (by decide)) (fun _ h9 => h9) rfl rfl 17 (by decide) rfl kw_377 (fun _ h9 => h9) dX11_takeTurns_31 (fun v9 h9 => ?_)
      obtain ⟨v31, rfl, t_v31⟩ := h9
      refine lv_iconst (v := 0) hx hb dX11_takeTurns_34 (by decide) ?_
      refine lv_aload_n hx hb dX11_takeTurns_35 rfl (lv_at hl 0 rfl) ?_
      refine t_get (ci := 11) (lst := ft11 w ch) (C := RX11) (F := TX11) (N := 20) hx hb hts uX11 hown hkb hH t_a0 (hO.no t_a0 (by decide)) (fun _ h9 => h9) rfl rfl 18 (by decide) rfl kw_378 (fun _ h9 => h9) dX11_takeTurns_36 (fun v9 h9 => ?_)
      obtain ⟨v36, rfl, t_v36⟩ := h9
      refine lv_iconst (v := 0) hx hb dX11_takeTurns_39 (by decide) ?_
      refine lv_iconst (v := 5) hx hb dX11_takeTurns_40 (by decide) ?_
      refine t_copy hx hb (by rw [hml]; exact hl.1.symm) hown (hts _ kw_1172) (hts _ kw_734) (hts _ kw_733) (hts _ kw_23) hkb hH hS t_v31 (hO.no t_v31 (by decide)) t_v36 (hO.no t_v36 (by decide)) (by decide) (by decide) (by decide) (by decide) (by decide) (Nat.le_of_ble_eq_true rfl) (Nat.le_of_ble_eq_true rfl) dX11_takeTurns_41 (fun H locs hH hS => ?_)
      exact te_v hx hb hr hlocks hH hS rfl dX11_takeTurns_44
    · skip
      have tc16 := f_ne (k := 0) (by decide) c16
      refine lv_iload_n hx hb dX11_takeTurns_19 rfl (lv_at hl 1 rfl) ?_
      refine lv_iconst (v := 5) hx hb dX11_takeTurns_20 (by decide) ?_
      refine lv_icmp_lt (tgt := 45) hx hb dX11_takeTurns_21 (by decide) (fun c21 => ?_) (fun c21 => ?_)
      · skip
        have tc21 := f_lt (k := 5) (by decide) c21
        refine lv_iconst (v := 0) hx hb dX11_takeTurns_45 (by decide) ?_
        have J48 : ∀ (n : Nat) (p48_5 : Int32) (H : Heap) (locs : List Loc) (ls : Array Slot), (5 - p48_5.toInt).toNat = n → (0 ≤ p48_5.toInt) → (p48_5.toInt ≤ 5) → HT D cs A T O X H → va_S A s.heap H locs → lv_has ls 8 [(5, .int p48_5), (0, .ref a0), (1, .int x1), (2, .int x2), (3, .int x3), (4, .int x4)] → W p l e { frames := 6, cells := 0, slots := 0, locals := 152 } s m [.ref a0, .int x1, .int x2, .int x3, .int x4].toArray below meth c H locs 0 0 (MQ below (Tv D cs (fun u => u = (T, O, X)) A) [.ref a0, .int x1, .int x2, .int x3, .int x4].toArray s 0 0 A) (F0 m 48 ls []) := by
          intro n
          induction n using Nat.strongRecOn with
          | _ n ih48 =>
            intro p48_5 H locs ls hm48 l_p48_5 u_p48_5 hH hS hl
            refine lv_iload hx hb dX11_takeTurns_48 (lv_at hl 0 rfl) ?_
            refine lv_aload_n hx hb dX11_takeTurns_50 rfl (lv_at hl 1 rfl) ?_
            refine t_get (ci := 11) (lst := ft11 w ch) (C := RX11) (F := TX11) (N := 20) hx hb hts uX11 hown hkb hH t_a0 (hO.no t_a0 (by decide)) (fun _ h9 => h9) rfl rfl 3 (by decide) rfl kw_363 (fun _ h9 => h9) dX11_takeTurns_51 (fun v9 h9 => ?_)
            have h9 : v9 = .ref w := h9
            subst h9
            refine t_get (ci := 9) (lst := ft9w hw gw) (C := RX9) (F := TX9) (N := 14) hx hb hts uX9 hown hkb hH t_w.1 (hO.no t_w.1 (by decide)) (fun fs => (ob9w t_w fs).mp) rfl rfl 1 (by decide) rfl kw_112 (fun _ h9 => h9) dX11_takeTurns_54 (fun v9 h9 => ?_)
            have h9 : v9 = .int (nI gw) := h9
            subst h9
            have e_gw : (nI gw).toInt = gw := nI_toInt (by have := t_w.2.2; omega)
            have b_gw := t_w.2.2
            refine lv_icmp_ge (tgt := 167) hx hb dX11_takeTurns_57 (by decide) (fun c57 => ?_) (fun c57 => ?_)
            · skip
              have fuc57 := full_i p48_5
              have fvc57 := full_i (nI gw)
              have tc57 := g_le c57
              exact te_v hx hb hr hlocks hH hS rfl dX11_takeTurns_167
            · skip
              have fuc57 := full_i p48_5
              have fvc57 := full_i (nI gw)
              have tc57 := g_nle c57
              refine lv_iload_n hx hb dX11_takeTurns_60 rfl (lv_at hl 3 rfl) ?_
              refine lv_iload hx hb dX11_takeTurns_61 (lv_at hl 0 rfl) ?_
              refine lv_ishr hx hb dX11_takeTurns_63 ?_
              refine lv_topi (fun v63 ev63 => ?_)
              refine lv_iconst (v := 1) hx hb dX11_takeTurns_64 (by decide) ?_
              refine lv_iand hx hb dX11_takeTurns_65 ?_
              refine lv_topi (fun v65 ev65 => ?_)
              have tv65 : 0 ≤ v65.toInt ∧ v65.toInt ≤ 1 := by rw [ev65]; exact and_r (by decide)
              have J161 : ∀  (H : Heap) (locs : List Loc) (ls : Array Slot), HT D cs A T O X H → va_S A s.heap H locs → lv_has ls 8 [(5, .int p48_5), (0, .ref a0), (1, .int x1), (2, .int x2), (3, .int x3), (4, .int x4)] → W p l e { frames := 6, cells := 0, slots := 0, locals := 152 } s m [.ref a0, .int x1, .int x2, .int x3, .int x4].toArray below meth c H locs 0 0 (MQ below (Tv D cs (fun u => u = (T, O, X)) A) [.ref a0, .int x1, .int x2, .int x3, .int x4].toArray s 0 0 A) (F0 m 161 ls []) := by
                intro  H locs ls  hH hS hl
                obtain ⟨v161, ev161⟩ : ∃ y : Int32, y = p48_5 + 1 := ⟨_, rfl⟩
                have tv161 : v161.toInt = p48_5.toInt + (1) := by rw [ev161]; exact add_i rfl (by decide) (by omega) (by omega)
                refine lv_iinc (v := v161) (lv' := [(5, .int v161), (0, .ref a0), (1, .int x1), (2, .int x2), (3, .int x3), (4, .int x4)]) hx hb dX11_takeTurns_161 hl (k := 0) rfl (by rw [ev161]; rfl) (by decide) rfl (fun ls hl => ?_)
                refine lv_goto (tgt := 48) hx hb dX11_takeTurns_164 (by decide) ?_
                exact ih48 _ (by omega) v161 _ _ _ rfl (by omega) (by omega) hH hS (lv_sub hl [0, 1, 2, 3, 4, 5] rfl)
              refine lv_if_eq (tgt := 161) hx hb dX11_takeTurns_66 (by decide) (fun c66 => ?_) (fun c66 => ?_)
              · skip
                have tc66 := f_eq (k := 0) (by decide) c66
                exact J161  _ _ _  hH hS (lv_sub hl [0, 1, 2, 3, 4, 5] rfl)
              · skip
                have tc66 := f_ne (k := 0) (by decide) c66
                refine lv_aload_n hx hb dX11_takeTurns_69 rfl (lv_at hl 1 rfl) ?_
                refine t_get (ci := 11) (lst := ft11 w ch) (C := RX11) (F := TX11) (N := 20) hx hb hts uX11 hown hkb hH t_a0 (hO.no t_a0 (by decide)) (fun _ h9 => h9) rfl rfl 17 (by decide) rfl kw_377 (fun _ h9 => h9) dX11_takeTurns_70 (fun v9 h9 => ?_)
                obtain ⟨v70, rfl, t_v70⟩ := h9
                refine lv_iload_n hx hb dX11_takeTurns_73 rfl (lv_at hl 2 rfl) ?_
                refine lv_iload hx hb dX11_takeTurns_74 (lv_at hl 0 rfl) ?_
                refine t_ist hx hb hkb hH hS t_v70 (hO.no t_v70 (by decide)) (by omega) (by omega) (cp_0 _) dX11_takeTurns_76 (fun H locs hH hS => ?_)
                refine lv_aload_n hx hb dX11_takeTurns_77 rfl (lv_at hl 1 rfl) ?_
                refine t_get (ci := 11) (lst := ft11 w ch) (C := RX11) (F := TX11) (N := 20) hx hb hts uX11 hown hkb hH t_a0 (hO.no t_a0 (by decide)) (fun _ h9 => h9) rfl rfl 14 (by decide) rfl kw_374 (fun _ h9 => h9) dX11_takeTurns_78 (fun v9 h9 => ?_)
                obtain ⟨v78, rfl, t_v78⟩ := h9
                refine lv_aload_n hx hb dX11_takeTurns_81 rfl (lv_at hl 1 rfl) ?_
                refine lv_iload hx hb dX11_takeTurns_82 (lv_at hl 0 rfl) ?_
                refine tk_r hH hS hA (tr_V (n := 1) (As := [.int p48_5]) hx hb hml hown hts hkb hH hOX hks hE hS hA (s_FW_rowsOf l D cs kf T O X a0 w hw gw ch gq p48_5 t_a0 t_w t_ch (by omega) (by omega) (hO.sub (by decide))) kw_830 kw_832 ks_21 kw_1 kw_833 (by decide +kernel) ⟨Nat.le_of_ble_eq_true rfl, Nat.le_of_ble_eq_true rfl⟩ (HT.recv (ci := 11) hkb hH t_a0 (hO.no t_a0 (by decide)) rfl) rfl rfl hl.1 (Nat.le_of_ble_eq_true rfl) dX11_takeTurns_84 ⟨Nat.le_of_ble_eq_true rfl, Nat.le_of_ble_eq_true rfl⟩) (fun v84 u H locs hz9 hH hS => ?_)
                obtain ⟨hu9, t_v84⟩ := hz9
                have hu9 : u = (T, O, X) := hu9
                subst hu9
                have hH : HT D cs A T O X H := hH
                refine W.widen (k := 0) (n := 0) (Nat.le_of_ble_eq_true rfl) (Nat.le_of_ble_eq_true rfl) ?_
                refine lv_iload_n hx hb dX11_takeTurns_87 rfl (lv_at hl 4 rfl) ?_
                refine tk_i hH hS hA (tr_V (n := 2) (As := [.ref v84, .int x3]) hx hb hml hown hts hkb hH hOX hks hE hS hA (s_Ways_find l D cs kf T O X v78 v84 x3 t_v78 t_v84 (hO.sub (by decide))) kw_912 kw_913 kw_914 kw_9 kw_915 (by decide +kernel) ⟨Nat.le_of_ble_eq_true rfl, Nat.le_of_ble_eq_true rfl⟩ (HT.recv (ci := 10) hkb hH t_v78 (hO.no t_v78 (by decide)) rfl) rfl rfl hl.1 (Nat.le_of_ble_eq_true rfl) dX11_takeTurns_88 ⟨Nat.le_of_ble_eq_true rfl, Nat.le_of_ble_eq_true rfl⟩) (fun v88 u H locs hz9 hH hS => ?_)
                obtain ⟨rfl, l_v88, u_v88⟩ := hz9
                have hH : HT D cs A T O X H := hH
                refine W.widen (k := 0) (n := 0) (Nat.le_of_ble_eq_true rfl) (Nat.le_of_ble_eq_true rfl) ?_
                have J99 : ∀ (k99_0 : Int32) (H : Heap) (locs : List Loc) (ls : Array Slot), (0 ≤ k99_0.toInt) → (k99_0.toInt ≤ 1) → HT D cs A T O X H → va_S A s.heap H locs → lv_has ls 8 [(5, .int p48_5), (0, .ref a0), (1, .int x1), (2, .int x2), (3, .int x3), (4, .int x4)] → W p l e { frames := 6, cells := 0, slots := 0, locals := 152 } s m [.ref a0, .int x1, .int x2, .int x3, .int x4].toArray below meth c H locs 0 0 (MQ below (Tv D cs (fun u => u = (T, O, X)) A) [.ref a0, .int x1, .int x2, .int x3, .int x4].toArray s 0 0 A) (F0 m 99 ls [.int k99_0]) := by
                  intro k99_0 H locs ls l_k99_0 u_k99_0 hH hS hl
                  refine lv_istore (lv' := [(6, .int k99_0), (5, .int p48_5), (0, .ref a0), (1, .int x1), (2, .int x2), (3, .int x3), (4, .int x4)]) hx hb dX11_takeTurns_99 hl (by decide) rfl (fun ls hl => ?_)
                  refine lv_iload hx hb dX11_takeTurns_101 (lv_at hl 0 rfl) ?_
                  have J129 : ∀ (k129_0 : Int32) (H : Heap) (locs : List Loc) (ls : Array Slot), HT D cs A T O X H → va_S A s.heap H locs → lv_has ls 8 [(6, .int k99_0), (5, .int p48_5), (0, .ref a0), (1, .int x1), (2, .int x2), (3, .int x3), (4, .int x4)] → W p l e { frames := 6, cells := 0, slots := 0, locals := 152 } s m [.ref a0, .int x1, .int x2, .int x3, .int x4].toArray below meth c H locs 0 0 (MQ below (Tv D cs (fun u => u = (T, O, X)) A) [.ref a0, .int x1, .int x2, .int x3, .int x4].toArray s 0 0 A) (F0 m 129 ls [.int k129_0]) := by
                    intro k129_0 H locs ls  hH hS hl
                    refine lv_istore (lv' := [(7, .int k129_0), (6, .int k99_0), (5, .int p48_5), (0, .ref a0), (1, .int x1), (2, .int x2), (3, .int x3), (4, .int x4)]) hx hb dX11_takeTurns_129 hl (by decide) rfl (fun ls hl => ?_)
                    refine lv_aload_n hx hb dX11_takeTurns_131 rfl (lv_at hl 3 rfl) ?_
                    refine lv_iload_n hx hb dX11_takeTurns_132 rfl (lv_at hl 4 rfl) ?_
                    refine lv_iconst (v := 1) hx hb dX11_takeTurns_133 (by decide) ?_
                    refine lv_iadd hx hb dX11_takeTurns_134 ?_
                    refine lv_topi (fun v134 ev134 => ?_)
                    have tv134 : v134.toInt = x1.toInt + (1) := by rw [ev134]; exact add_i rfl (by decide : (1 : Int32).toInt = 1) (by omega) (by omega)
                    refine lv_iload_n hx hb dX11_takeTurns_135 rfl (lv_at hl 5 rfl) ?_
                    refine lv_iconst (v := 1) hx hb dX11_takeTurns_136 (by decide) ?_
                    refine lv_iload hx hb dX11_takeTurns_137 (lv_at hl 2 rfl) ?_
                    refine lv_ishl hx hb dX11_takeTurns_139 ?_
                    refine lv_topi (fun v139 ev139 => ?_)
                    have tv139 : 1 ≤ v139.toInt ∧ v139.toInt ≤ 16 := by rw [ev139]; exact shl_b 4 (by decide) (by omega) (by omega)
                    refine lv_iconst (v := (-1)) hx hb dX11_takeTurns_140 (by decide) ?_
                    refine lv_ixor hx hb dX11_takeTurns_141 ?_
                    refine lv_topi (fun v141 ev141 => ?_)
                    refine lv_iand hx hb dX11_takeTurns_142 ?_
                    refine lv_topi (fun v142 ev142 => ?_)
                    refine lv_iload hx hb dX11_takeTurns_143 (lv_at hl 0 rfl) ?_
                    refine lv_iload hx hb dX11_takeTurns_145 (lv_at hl 7 rfl) ?_
                    refine lv_iload hx hb dX11_takeTurns_147 (lv_at hl 1 rfl) ?_
                    have J157 : ∀ (k157_0 : Int32) (H : Heap) (locs : List Loc) (ls : Array Slot), (0 ≤ k157_0.toInt) → (k157_0.toInt ≤ 1) → HT D cs A T O X H → va_S A s.heap H locs → lv_has ls 8 [(5, .int p48_5), (0, .ref a0), (1, .int x1), (2, .int x2), (3, .int x3), (4, .int x4)] → W p l e { frames := 6, cells := 0, slots := 0, locals := 152 } s m [.ref a0, .int x1, .int x2, .int x3, .int x4].toArray below meth c H locs 0 0 (MQ below (Tv D cs (fun u => u = (T, O, X)) A) [.ref a0, .int x1, .int x2, .int x3, .int x4].toArray s 0 0 A) (F0 m 157 ls [.int k157_0, .int x4, .int k129_0, .int v142, .int v134, .ref a0]) := by
                      intro k157_0 H locs ls l_k157_0 u_k157_0 hH hS hl
                      refine lv_iadd hx hb dX11_takeTurns_157 ?_
                      refine lv_topi (fun v157 ev157 => ?_)
                      refine tk_v hH hS hA (tr_V (n := 4) (As := [.int v134, .int v142, .int k129_0, .int v157]) hx hb hml hown hts hkb hH hOX hks hE hS hA (s_FW_takeTurns5 l D cs kf T O X a0 w hw gw ch gq v134 v142 k129_0 v157 t_a0 t_w t_ch (by omega) (by omega) (hO.sub (by decide))) kw_1168 kw_1170 ks_42 kw_1 kw_1171 (by decide +kernel) ⟨Nat.le_of_ble_eq_true rfl, Nat.le_of_ble_eq_true rfl⟩ (HT.recv (ci := 11) hkb hH t_a0 (hO.no t_a0 (by decide)) rfl) rfl rfl hl.1 (Nat.le_of_ble_eq_true rfl) dX11_takeTurns_158 ⟨Nat.le_of_ble_eq_true rfl, Nat.le_of_ble_eq_true rfl⟩) (fun u H locs hz9 hH hS => ?_)
                      have hz9 : u = (T, O, X) := hz9
                      subst hz9
                      have hH : HT D cs A T O X H := hH
                      refine W.widen (k := 0) (n := 0) (Nat.le_of_ble_eq_true rfl) (Nat.le_of_ble_eq_true rfl) ?_
                      exact J161  _ _ _  hH hS (lv_sub hl [0, 1, 2, 3, 4, 5] rfl)
                    refine lv_if_eq (tgt := 156) hx hb dX11_takeTurns_149 (by decide) (fun c149 => ?_) (fun c149 => ?_)
                    · skip
                      have tc149 := f_eq (k := 0) (by decide) c149
                      refine lv_iconst (v := 0) hx hb dX11_takeTurns_156 (by decide) ?_
                      exact J157 0 _ _ _ (by decide) (by decide) hH hS (lv_sub hl [2, 3, 4, 5, 6, 7] rfl)
                    · skip
                      have tc149 := f_ne (k := 0) (by decide) c149
                      refine lv_iconst (v := 1) hx hb dX11_takeTurns_152 (by decide) ?_
                      refine lv_goto (tgt := 157) hx hb dX11_takeTurns_153 (by decide) ?_
                      exact J157 1 _ _ _ (by decide) (by decide) hH hS (lv_sub hl [2, 3, 4, 5, 6, 7] rfl)
                  refine lv_if_eq (tgt := 128) hx hb dX11_takeTurns_103 (by decide) (fun c103 => ?_) (fun c103 => ?_)
                  · skip
                    have tc103 := f_eq (k := 0) (by decide) c103
                    refine lv_iload_n hx hb dX11_takeTurns_128 rfl (lv_at hl 5 rfl) ?_
                    exact J129 x3 _ _ _  hH hS (lv_sub hl [0, 1, 2, 3, 4, 5, 6] rfl)
                  · skip
                    have tc103 := f_ne (k := 0) (by decide) c103
                    refine lv_iload_n hx hb dX11_takeTurns_106 rfl (lv_at hl 5 rfl) ?_
                    refine lv_aload_n hx hb dX11_takeTurns_107 rfl (lv_at hl 2 rfl) ?_
                    refine t_get (ci := 11) (lst := ft11 w ch) (C := RX11) (F := TX11) (N := 20) hx hb hts uX11 hown hkb hH t_a0 (hO.no t_a0 (by decide)) (fun _ h9 => h9) rfl rfl 14 (by decide) rfl kw_374 (fun _ h9 => h9) dX11_takeTurns_108 (fun v9 h9 => ?_)
                    obtain ⟨v108, rfl, t_v108⟩ := h9
                    refine tk_i hH hS hA (tr_V (n := 0) (As := []) hx hb hml hown hts hkb hH hOX hks hE hS hA (s_Ways_pathSet l D cs kf T O X v108 t_v108 (hO.sub (by decide))) kw_926 kw_927 kw_928 kw_9 kw_929 (by decide +kernel) ⟨Nat.le_of_ble_eq_true rfl, Nat.le_of_ble_eq_true rfl⟩ (HT.recv (ci := 10) hkb hH t_v108 (hO.no t_v108 (by decide)) rfl) rfl rfl hl.1 (Nat.le_of_ble_eq_true rfl) dX11_takeTurns_111 ⟨Nat.le_of_ble_eq_true rfl, Nat.le_of_ble_eq_true rfl⟩) (fun v111 u H locs hz9 hH hS => ?_)
                    have hz9 : u = (T, O, X) := hz9
                    subst hz9
                    have hH : HT D cs A T O X H := hH
                    refine W.widen (k := 0) (n := 0) (Nat.le_of_ble_eq_true rfl) (Nat.le_of_ble_eq_true rfl) ?_
                    refine lv_aload_n hx hb dX11_takeTurns_114 rfl (lv_at hl 2 rfl) ?_
                    refine t_get (ci := 11) (lst := ft11 w ch) (C := RX11) (F := TX11) (N := 20) hx hb hts uX11 hown hkb hH t_a0 (hO.no t_a0 (by decide)) (fun _ h9 => h9) rfl rfl 3 (by decide) rfl kw_363 (fun _ h9 => h9) dX11_takeTurns_115 (fun v9 h9 => ?_)
                    have h9 : v9 = .ref w := h9
                    subst h9
                    refine tk_i hH hS hA (tr_V (n := 0) (As := []) hx hb hml hown hts hkb hH hOX hks hE hS hA (s_Wall_middles l D cs kf T O X w hw gw t_w (hO.sub (by decide))) kw_892 kw_683 kw_684 kw_5 kw_685 (by decide +kernel) ⟨Nat.le_of_ble_eq_true rfl, Nat.le_of_ble_eq_true rfl⟩ (HT.recv (ci := 9) hkb hH t_w.1 (hO.no t_w.1 (by decide)) rfl) rfl rfl hl.1 (Nat.le_of_ble_eq_true rfl) dX11_takeTurns_118 ⟨Nat.le_of_ble_eq_true rfl, Nat.le_of_ble_eq_true rfl⟩) (fun v118 u H locs hz9 hH hS => ?_)
                    obtain ⟨rfl, l_v118, u_v118⟩ := hz9
                    have hH : HT D cs A T O X H := hH
                    refine W.widen (k := 0) (n := 0) (Nat.le_of_ble_eq_true rfl) (Nat.le_of_ble_eq_true rfl) ?_
                    refine lv_iand hx hb dX11_takeTurns_121 ?_
                    refine lv_topi (fun v121 ev121 => ?_)
                    have tv121 : 0 ≤ v121.toInt ∧ v121.toInt ≤ v118.toInt := by rw [ev121]; exact and_r (by omega)
                    refine lv_iconst (v := (-1)) hx hb dX11_takeTurns_122 (by decide) ?_
                    refine lv_ixor hx hb dX11_takeTurns_123 ?_
                    refine lv_topi (fun v123 ev123 => ?_)
                    refine lv_iand hx hb dX11_takeTurns_124 ?_
                    refine lv_topi (fun v124 ev124 => ?_)
                    refine lv_goto (tgt := 129) hx hb dX11_takeTurns_125 (by decide) ?_
                    exact J129 v124 _ _ _  hH hS (lv_sub hl [0, 1, 2, 3, 4, 5, 6] rfl)
                refine lv_if_le (tgt := 98) hx hb dX11_takeTurns_91 (by decide) (fun c91 => ?_) (fun c91 => ?_)
                · skip
                  have tc91 := f_le (k := 0) (by decide) c91
                  refine lv_iconst (v := 0) hx hb dX11_takeTurns_98 (by decide) ?_
                  exact J99 0 _ _ _ (by decide) (by decide) hH hS (lv_sub hl [0, 1, 2, 3, 4, 5] rfl)
                · skip
                  have tc91 := f_nle (k := 0) (by decide) c91
                  refine lv_iconst (v := 1) hx hb dX11_takeTurns_94 (by decide) ?_
                  refine lv_goto (tgt := 99) hx hb dX11_takeTurns_95 (by decide) ?_
                  exact J99 1 _ _ _ (by decide) (by decide) hH hS (lv_sub hl [0, 1, 2, 3, 4, 5] rfl)
        refine lv_istore (lv' := [(5, .int 0), (0, .ref a0), (1, .int x1), (2, .int x2), (3, .int x3), (4, .int x4)]) hx hb dX11_takeTurns_46 hl (by decide) rfl (fun ls hl => ?_)
        exact J48 _ 0 _ _ _ rfl (by decide) (by decide) hH hS (lv_sub hl [0, 1, 2, 3, 4, 5] rfl)
      · skip
        have tc21 := f_nlt (k := 5) (by decide) c21
        exfalso; omega
  · skip
    have fuc11 := full_i v6
    have fvc11 := full_i v8
    have tc11 := g_nlt c11
    exact te_v hx hb hr hlocks hH hS rfl dX11_takeTurns_14
set_option maxHeartbeats 4000000 in
set_option maxRecDepth 100000 in
theorem s_FW_takeTurns3 (l : Launch) (D : va_G) (cs : CS) (kf : KF) (T : TF) (O : List Nat) (X : va_W) (a0 w hw gw ch gq : Nat) (x1 : Int32) (x2 : Int32) (x3 : Int32) (x4 : Int32) (t_a0 : T a0 = some (21, w, ch)) (t_w : isW T w hw gw) (t_ch : T ch = some (10, gq, 0)) (l_x1 : 3 ≤ x1.toInt) (u_x1 : x1.toInt ≤ 3) (hO : okO T O [1, 7, 12, 15, 16, 19, 20, 21]) : TK l D cs kf yX11_takeTurns cX11_takeTurns 8 none { frames := 7, cells := 0, slots := 0, locals := 179 } [.ref a0, .int x1, .int x2, .int x3, .int x4] T O X (Tv D cs (fun u => u = (T, O, X))) := by
  refine tk_of (by decide) (Nat.le_of_ble_eq_true rfl) (fun p e s m below meth c ls A H locs hx hb hr hml hown hts hlocks hnm hkb hH hS hA hOX hks hE hl => ?_)
  have hown : s.vm.findClass RX11 = some m.cls := hown
  have hl : lv_has ls 8 [(0, .ref a0), (1, .int x1), (2, .int x2), (3, .int x3), (4, .int x4)] := hl
  have b1_w := t_w.2.1
  have b2_w := t_w.2.2
  refine lv_iload hx hb dX11_takeTurns_0 (lv_at hl 4 rfl) ?_
  refine lv_iload_n hx hb dX11_takeTurns_2 rfl (lv_at hl 2 rfl) ?_
  refine tk_i hH hS hA (tr_S (n := 1) (As := [.int x2]) hx hb hml hown hts hkb hH hOX hks hE hS hA (s_bitCount l D cs kf T O X x2  (hO.sub (by decide))) kw_893 kw_692 kw_20 kw_693 (by decide +kernel) ⟨Nat.le_of_ble_eq_true rfl, Nat.le_of_ble_eq_true rfl⟩ rfl rfl hl.1 (Nat.le_of_ble_eq_true rfl) dX11_takeTurns_3 ⟨Nat.le_of_ble_eq_true rfl, Nat.le_of_ble_eq_true rfl⟩) (fun v3 u H locs hz9 hH hS => ?_)
  obtain ⟨rfl, l_v3, u_v3⟩ := hz9
  have hH : HT D cs A T O X H := hH
  refine W.widen (k := 0) (n := 0) (Nat.le_of_ble_eq_true rfl) (Nat.le_of_ble_eq_true rfl) ?_
  refine lv_iadd hx hb dX11_takeTurns_6 ?_
  refine lv_topi (fun v6 ev6 => ?_)
  refine lv_aload_n hx hb dX11_takeTurns_7 rfl (lv_at hl 0 rfl) ?_
  refine t_get (ci := 11) (lst := ft11 w ch) (C := RX11) (F := TX11) (N := 20) hx hb hts uX11 hown hkb hH t_a0 (hO.no t_a0 (by decide)) (fun _ h9 => h9) rfl rfl 19 (by decide) rfl kw_379 (fun _ h9 => h9) dX11_takeTurns_8 (fun v9 h9 => ?_)
  obtain ⟨v8, rfl⟩ := h9
  refine lv_icmp_gt (tgt := 15) hx hb dX11_takeTurns_11 (by decide) (fun c11 => ?_) (fun c11 => ?_)
  · skip
    have fuc11 := full_i v6
    have fvc11 := full_i v8
    have tc11 := g_lt c11
    refine lv_iload_n hx hb dX11_takeTurns_15 rfl (lv_at hl 2 rfl) ?_
    refine lv_if_eq (tgt := 24) hx hb dX11_takeTurns_16 (by decide) (fun c16 => ?_) (fun c16 => ?_)
    · skip
      have tc16 := f_eq (k := 0) (by decide) c16
      refine lv_aload_n hx hb dX11_takeTurns_24 rfl (lv_at hl 0 rfl) ?_
      refine lv_iload hx hb dX11_takeTurns_25 (lv_at hl 4 rfl) ?_
      refine t_put (ci := 11) (lst := ft11 w ch) (v := .int x4) (ty := tyX11 19) (C := RX11) (F := TX11) (N := 20) hx hb hts uX11 tyX11 tyX11_ok nmX11 hown hkb hH hS t_a0 (hO.no t_a0 (by decide)) (fun _ => Iff.rfl) rfl rfl 19 (by decide) rfl (⟨_, rfl⟩) kw_379 (fun _ h9 => h9) rfl (tyX11_ok 19 (by decide)) rfl rfl dX11_takeTurns_27 (fun H locs hH hS => ?_)
      refine lv_aload_n hx hb dX11_takeTurns_30 rfl (lv_at hl 0 rfl) ?_
      refine t_get (ci := 11) (lst := ft11 w ch) (C := RX11) (F := TX11) (N := 20) hx hb hts uX11 hown hkb hH t_a0 (hO.no t_a0 (by decide)) (fun _ h9 => h9) rfl rfl 17 (by decide) rfl kw_377 (fun _ h9 => h9) dX11_takeTurns_31 (fun v9 h9 => ?_)
      obtain ⟨v31, rfl, t_v31⟩ := h9
      refine lv_iconst (v := 0) hx hb dX11_takeTurns_34 (by decide) ?_
      refine lv_aload_n hx hb dX11_takeTurns_35 rfl (lv_at hl 0 rfl) ?_
      refine t_get (ci := 11) (lst := ft11 w ch) (C := RX11) (F := TX11) (N := 20) hx hb hts uX11 hown hkb hH t_a0 (hO.no t_a0 (by decide)) (fun _ h9 => h9) rfl rfl 18 (by decide) rfl kw_378 (fun _ h9 => h9) dX11_takeTurns_36 (fun v9 h9 => ?_)
      obtain ⟨v36, rfl, t_v36⟩ := h9
      refine lv_iconst (v := 0) hx hb dX11_takeTurns_39 (by decide) ?_
      refine lv_iconst (v := 5) hx hb dX11_takeTurns_40 (by decide) ?_
      refine t_copy hx hb (by rw [hml]; exact hl.1.symm) hown (hts _ kw_1172) (hts _ kw_734) (hts _ kw_733) (hts _ kw_23) hkb hH hS t_v31 (hO.no t_v31 (by decide)) t_v36 (hO.no t_v36 (by decide)) (by decide) (by decide) (by decide) (by decide) (by decide) (Nat.le_of_ble_eq_true rfl) (Nat.le_of_ble_eq_true rfl) dX11_takeTurns_41 (fun H locs hH hS => ?_)
      exact te_v hx hb hr hlocks hH hS rfl dX11_takeTurns_44
    · skip
      have tc16 := f_ne (k := 0) (by decide) c16
      refine lv_iload_n hx hb dX11_takeTurns_19 rfl (lv_at hl 1 rfl) ?_
      refine lv_iconst (v := 5) hx hb dX11_takeTurns_20 (by decide) ?_
      refine lv_icmp_lt (tgt := 45) hx hb dX11_takeTurns_21 (by decide) (fun c21 => ?_) (fun c21 => ?_)
      · skip
        have tc21 := f_lt (k := 5) (by decide) c21
        refine lv_iconst (v := 0) hx hb dX11_takeTurns_45 (by decide) ?_
        have J48 : ∀ (n : Nat) (p48_5 : Int32) (H : Heap) (locs : List Loc) (ls : Array Slot), (5 - p48_5.toInt).toNat = n → (0 ≤ p48_5.toInt) → (p48_5.toInt ≤ 5) → HT D cs A T O X H → va_S A s.heap H locs → lv_has ls 8 [(5, .int p48_5), (0, .ref a0), (1, .int x1), (2, .int x2), (3, .int x3), (4, .int x4)] → W p l e { frames := 7, cells := 0, slots := 0, locals := 179 } s m [.ref a0, .int x1, .int x2, .int x3, .int x4].toArray below meth c H locs 0 0 (MQ below (Tv D cs (fun u => u = (T, O, X)) A) [.ref a0, .int x1, .int x2, .int x3, .int x4].toArray s 0 0 A) (F0 m 48 ls []) := by
          intro n
          induction n using Nat.strongRecOn with
          | _ n ih48 =>
            intro p48_5 H locs ls hm48 l_p48_5 u_p48_5 hH hS hl
            refine lv_iload hx hb dX11_takeTurns_48 (lv_at hl 0 rfl) ?_
            refine lv_aload_n hx hb dX11_takeTurns_50 rfl (lv_at hl 1 rfl) ?_
            refine t_get (ci := 11) (lst := ft11 w ch) (C := RX11) (F := TX11) (N := 20) hx hb hts uX11 hown hkb hH t_a0 (hO.no t_a0 (by decide)) (fun _ h9 => h9) rfl rfl 3 (by decide) rfl kw_363 (fun _ h9 => h9) dX11_takeTurns_51 (fun v9 h9 => ?_)
            have h9 : v9 = .ref w := h9
            subst h9
            refine t_get (ci := 9) (lst := ft9w hw gw) (C := RX9) (F := TX9) (N := 14) hx hb hts uX9 hown hkb hH t_w.1 (hO.no t_w.1 (by decide)) (fun fs => (ob9w t_w fs).mp) rfl rfl 1 (by decide) rfl kw_112 (fun _ h9 => h9) dX11_takeTurns_54 (fun v9 h9 => ?_)
            have h9 : v9 = .int (nI gw) := h9
            subst h9
            have e_gw : (nI gw).toInt = gw := nI_toInt (by have := t_w.2.2; omega)
            have b_gw := t_w.2.2
            refine lv_icmp_ge (tgt := 167) hx hb dX11_takeTurns_57 (by decide) (fun c57 => ?_) (fun c57 => ?_)
            · skip
              have fuc57 := full_i p48_5
              have fvc57 := full_i (nI gw)
              have tc57 := g_le c57
              exact te_v hx hb hr hlocks hH hS rfl dX11_takeTurns_167
            · skip
              have fuc57 := full_i p48_5
              have fvc57 := full_i (nI gw)
              have tc57 := g_nle c57
              refine lv_iload_n hx hb dX11_takeTurns_60 rfl (lv_at hl 3 rfl) ?_
              refine lv_iload hx hb dX11_takeTurns_61 (lv_at hl 0 rfl) ?_
              refine lv_ishr hx hb dX11_takeTurns_63 ?_
              refine lv_topi (fun v63 ev63 => ?_)
              refine lv_iconst (v := 1) hx hb dX11_takeTurns_64 (by decide) ?_
              refine lv_iand hx hb dX11_takeTurns_65 ?_
              refine lv_topi (fun v65 ev65 => ?_)
              have tv65 : 0 ≤ v65.toInt ∧ v65.toInt ≤ 1 := by rw [ev65]; exact and_r (by decide)
              have J161 : ∀  (H : Heap) (locs : List Loc) (ls : Array Slot), HT D cs A T O X H → va_S A s.heap H locs → lv_has ls 8 [(5, .int p48_5), (0, .ref a0), (1, .int x1), (2, .int x2), (3, .int x3), (4, .int x4)] → W p l e { frames := 7, cells := 0, slots := 0, locals := 179 } s m [.ref a0, .int x1, .int x2, .int x3, .int x4].toArray below meth c H locs 0 0 (MQ below (Tv D cs (fun u => u = (T, O, X)) A) [.ref a0, .int x1, .int x2, .int x3, .int x4].toArray s 0 0 A) (F0 m 161 ls []) := by
                intro  H locs ls  hH hS hl
                obtain ⟨v161, ev161⟩ : ∃ y : Int32, y = p48_5 + 1 := ⟨_, rfl⟩
                have tv161 : v161.toInt = p48_5.toInt + (1) := by rw [ev161]; exact add_i rfl (by decide) (by omega) (by omega)
                refine lv_iinc (v := v161) (lv' := [(5, .int v161), (0, .ref a0), (1, .int x1), (2, .int x2), (3, .int x3), (4, .int x4)]) hx hb dX11_takeTurns_161 hl (k := 0) rfl (by rw [ev161]; rfl) (by decide) rfl (fun ls hl => ?_)
                refine lv_goto (tgt := 48) hx hb dX11_takeTurns_164 (by decide) ?_
                exact ih48 _ (by omega) v161 _ _ _ rfl (by omega) (by omega) hH hS (lv_sub hl [0, 1, 2, 3, 4, 5] rfl)
              refine lv_if_eq (tgt := 161) hx hb dX11_takeTurns_66 (by decide) (fun c66 => ?_) (fun c66 => ?_)
              · skip
                have tc66 := f_eq (k := 0) (by decide) c66
                exact J161  _ _ _  hH hS (lv_sub hl [0, 1, 2, 3, 4, 5] rfl)
              · skip
                have tc66 := f_ne (k := 0) (by decide) c66
                refine lv_aload_n hx hb dX11_takeTurns_69 rfl (lv_at hl 1 rfl) ?_
                refine t_get (ci := 11) (lst := ft11 w ch) (C := RX11) (F := TX11) (N := 20) hx hb hts uX11 hown hkb hH t_a0 (hO.no t_a0 (by decide)) (fun _ h9 => h9) rfl rfl 17 (by decide) rfl kw_377 (fun _ h9 => h9) dX11_takeTurns_70 (fun v9 h9 => ?_)
                obtain ⟨v70, rfl, t_v70⟩ := h9
                refine lv_iload_n hx hb dX11_takeTurns_73 rfl (lv_at hl 2 rfl) ?_
                refine lv_iload hx hb dX11_takeTurns_74 (lv_at hl 0 rfl) ?_
                refine t_ist hx hb hkb hH hS t_v70 (hO.no t_v70 (by decide)) (by omega) (by omega) (cp_0 _) dX11_takeTurns_76 (fun H locs hH hS => ?_)
                refine lv_aload_n hx hb dX11_takeTurns_77 rfl (lv_at hl 1 rfl) ?_
                refine t_get (ci := 11) (lst := ft11 w ch) (C := RX11) (F := TX11) (N := 20) hx hb hts uX11 hown hkb hH t_a0 (hO.no t_a0 (by decide)) (fun _ h9 => h9) rfl rfl 14 (by decide) rfl kw_374 (fun _ h9 => h9) dX11_takeTurns_78 (fun v9 h9 => ?_)
                obtain ⟨v78, rfl, t_v78⟩ := h9
                refine lv_aload_n hx hb dX11_takeTurns_81 rfl (lv_at hl 1 rfl) ?_
                refine lv_iload hx hb dX11_takeTurns_82 (lv_at hl 0 rfl) ?_
                refine tk_r hH hS hA (tr_V (n := 1) (As := [.int p48_5]) hx hb hml hown hts hkb hH hOX hks hE hS hA (s_FW_rowsOf l D cs kf T O X a0 w hw gw ch gq p48_5 t_a0 t_w t_ch (by omega) (by omega) (hO.sub (by decide))) kw_830 kw_832 ks_21 kw_1 kw_833 (by decide +kernel) ⟨Nat.le_of_ble_eq_true rfl, Nat.le_of_ble_eq_true rfl⟩ (HT.recv (ci := 11) hkb hH t_a0 (hO.no t_a0 (by decide)) rfl) rfl rfl hl.1 (Nat.le_of_ble_eq_true rfl) dX11_takeTurns_84 ⟨Nat.le_of_ble_eq_true rfl, Nat.le_of_ble_eq_true rfl⟩) (fun v84 u H locs hz9 hH hS => ?_)
                obtain ⟨hu9, t_v84⟩ := hz9
                have hu9 : u = (T, O, X) := hu9
                subst hu9
                have hH : HT D cs A T O X H := hH
                refine W.widen (k := 0) (n := 0) (Nat.le_of_ble_eq_true rfl) (Nat.le_of_ble_eq_true rfl) ?_
                refine lv_iload_n hx hb dX11_takeTurns_87 rfl (lv_at hl 4 rfl) ?_
                refine tk_i hH hS hA (tr_V (n := 2) (As := [.ref v84, .int x3]) hx hb hml hown hts hkb hH hOX hks hE hS hA (s_Ways_find l D cs kf T O X v78 v84 x3 t_v78 t_v84 (hO.sub (by decide))) kw_912 kw_913 kw_914 kw_9 kw_915 (by decide +kernel) ⟨Nat.le_of_ble_eq_true rfl, Nat.le_of_ble_eq_true rfl⟩ (HT.recv (ci := 10) hkb hH t_v78 (hO.no t_v78 (by decide)) rfl) rfl rfl hl.1 (Nat.le_of_ble_eq_true rfl) dX11_takeTurns_88 ⟨Nat.le_of_ble_eq_true rfl, Nat.le_of_ble_eq_true rfl⟩) (fun v88 u H locs hz9 hH hS => ?_)
                obtain ⟨rfl, l_v88, u_v88⟩ := hz9
                have hH : HT D cs A T O X H := hH
                refine W.widen (k := 0) (n := 0) (Nat.le_of_ble_eq_true rfl) (Nat.le_of_ble_eq_true rfl) ?_
                have J99 : ∀ (k99_0 : Int32) (H : Heap) (locs : List Loc) (ls : Array Slot), (0 ≤ k99_0.toInt) → (k99_0.toInt ≤ 1) → HT D cs A T O X H → va_S A s.heap H locs → lv_has ls 8 [(5, .int p48_5), (0, .ref a0), (1, .int x1), (2, .int x2), (3, .int x3), (4, .int x4)] → W p l e { frames := 7, cells := 0, slots := 0, locals := 179 } s m [.ref a0, .int x1, .int x2, .int x3, .int x4].toArray below meth c H locs 0 0 (MQ below (Tv D cs (fun u => u = (T, O, X)) A) [.ref a0, .int x1, .int x2, .int x3, .int x4].toArray s 0 0 A) (F0 m 99 ls [.int k99_0]) := by
                  intro k99_0 H locs ls l_k99_0 u_k99_0 hH hS hl
                  refine lv_istore (lv' := [(6, .int k99_0), (5, .int p48_5), (0, .ref a0), (1, .int x1), (2, .int x2), (3, .int x3), (4, .int x4)]) hx hb dX11_takeTurns_99 hl (by decide) rfl (fun ls hl => ?_)
                  refine lv_iload hx hb dX11_takeTurns_101 (lv_at hl 0 rfl) ?_
                  have J129 : ∀ (k129_0 : Int32) (H : Heap) (locs : List Loc) (ls : Array Slot), HT D cs A T O X H → va_S A s.heap H locs → lv_has ls 8 [(6, .int k99_0), (5, .int p48_5), (0, .ref a0), (1, .int x1), (2, .int x2), (3, .int x3), (4, .int x4)] → W p l e { frames := 7, cells := 0, slots := 0, locals := 179 } s m [.ref a0, .int x1, .int x2, .int x3, .int x4].toArray below meth c H locs 0 0 (MQ below (Tv D cs (fun u => u = (T, O, X)) A) [.ref a0, .int x1, .int x2, .int x3, .int x4].toArray s 0 0 A) (F0 m 129 ls [.int k129_0]) := by
                    intro k129_0 H locs ls  hH hS hl
                    refine lv_istore (lv' := [(7, .int k129_0), (6, .int k99_0), (5, .int p48_5), (0, .ref a0), (1, .int x1), (2, .int x2), (3, .int x3), (4, .int x4)]) hx hb dX11_takeTurns_129 hl (by decide) rfl (fun ls hl => ?_)
                    refine lv_aload_n hx hb dX11_takeTurns_131 rfl (lv_at hl 3 rfl) ?_
                    refine lv_iload_n hx hb dX11_takeTurns_132 rfl (lv_at hl 4 rfl) ?_
                    refine lv_iconst (v := 1) hx hb dX11_takeTurns_133 (by decide) ?_
                    refine lv_iadd hx hb dX11_takeTurns_134 ?_
                    refine lv_topi (fun v134 ev134 => ?_)
                    have tv134 : v134.toInt = x1.toInt + (1) := by rw [ev134]; exact add_i rfl (by decide : (1 : Int32).toInt = 1) (by omega) (by omega)
                    refine lv_iload_n hx hb dX11_takeTurns_135 rfl (lv_at hl 5 rfl) ?_
                    refine lv_iconst (v := 1) hx hb dX11_takeTurns_136 (by decide) ?_
                    refine lv_iload hx hb dX11_takeTurns_137 (lv_at hl 2 rfl) ?_
                    refine lv_ishl hx hb dX11_takeTurns_139 ?_
                    refine lv_topi (fun v139 ev139 => ?_)
                    have tv139 : 1 ≤ v139.toInt ∧ v139.toInt ≤ 16 := by rw [ev139]; exact shl_b 4 (by decide) (by omega) (by omega)
                    refine lv_iconst (v := (-1)) hx hb dX11_takeTurns_140 (by decide) ?_
                    refine lv_ixor hx hb dX11_takeTurns_141 ?_
                    refine lv_topi (fun v141 ev141 => ?_)
                    refine lv_iand hx hb dX11_takeTurns_142 ?_
                    refine lv_topi (fun v142 ev142 => ?_)
                    refine lv_iload hx hb dX11_takeTurns_143 (lv_at hl 0 rfl) ?_
                    refine lv_iload hx hb dX11_takeTurns_145 (lv_at hl 7 rfl) ?_
                    refine lv_iload hx hb dX11_takeTurns_147 (lv_at hl 1 rfl) ?_
                    have J157 : ∀ (k157_0 : Int32) (H : Heap) (locs : List Loc) (ls : Array Slot), (0 ≤ k157_0.toInt) → (k157_0.toInt ≤ 1) → HT D cs A T O X H → va_S A s.heap H locs → lv_has ls 8 [(5, .int p48_5), (0, .ref a0), (1, .int x1), (2, .int x2), (3, .int x3), (4, .int x4)] → W p l e { frames := 7, cells := 0, slots := 0, locals := 179 } s m [.ref a0, .int x1, .int x2, .int x3, .int x4].toArray below meth c H locs 0 0 (MQ below (Tv D cs (fun u => u = (T, O, X)) A) [.ref a0, .int x1, .int x2, .int x3, .int x4].toArray s 0 0 A) (F0 m 157 ls [.int k157_0, .int x4, .int k129_0, .int v142, .int v134, .ref a0]) := by
                      intro k157_0 H locs ls l_k157_0 u_k157_0 hH hS hl
                      refine lv_iadd hx hb dX11_takeTurns_157 ?_
                      refine lv_topi (fun v157 ev157 => ?_)
                      refine tk_v hH hS hA (tr_V (n := 4) (As := [.int v134, .int v142, .int k129_0, .int v157]) hx hb hml hown hts hkb hH hOX hks hE hS hA (s_FW_takeTurns4 l D cs kf T O X a0 w hw gw ch gq v134 v142 k129_0 v157 t_a0 t_w t_ch (by omega) (by omega) (hO.sub (by decide))) kw_1168 kw_1170 ks_42 kw_1 kw_1171 (by decide +kernel) ⟨Nat.le_of_ble_eq_true rfl, Nat.le_of_ble_eq_true rfl⟩ (HT.recv (ci := 11) hkb hH t_a0 (hO.no t_a0 (by decide)) rfl) rfl rfl hl.1 (Nat.le_of_ble_eq_true rfl) dX11_takeTurns_158 ⟨Nat.le_of_ble_eq_true rfl, Nat.le_of_ble_eq_true rfl⟩) (fun u H locs hz9 hH hS => ?_)
                      have hz9 : u = (T, O, X) := hz9
                      subst hz9
                      have hH : HT D cs A T O X H := hH
                      refine W.widen (k := 0) (n := 0) (Nat.le_of_ble_eq_true rfl) (Nat.le_of_ble_eq_true rfl) ?_
                      exact J161  _ _ _  hH hS (lv_sub hl [0, 1, 2, 3, 4, 5] rfl)
                    refine lv_if_eq (tgt := 156) hx hb dX11_takeTurns_149 (by decide) (fun c149 => ?_) (fun c149 => ?_)
                    · skip
                      have tc149 := f_eq (k := 0) (by decide) c149
                      refine lv_iconst (v := 0) hx hb dX11_takeTurns_156 (by decide) ?_
                      exact J157 0 _ _ _ (by decide) (by decide) hH hS (lv_sub hl [2, 3, 4, 5, 6, 7] rfl)
                    · skip
                      have tc149 := f_ne (k := 0) (by decide) c149
                      refine lv_iconst (v := 1) hx hb dX11_takeTurns_152 (by decide) ?_
                      refine lv_goto (tgt := 157) hx hb dX11_takeTurns_153 (by decide) ?_
                      exact J157 1 _ _ _ (by decide) (by decide) hH hS (lv_sub hl [2, 3, 4, 5, 6, 7] rfl)
                  refine lv_if_eq (tgt := 128) hx hb dX11_takeTurns_103 (by decide) (fun c103 => ?_) (fun c103 => ?_)
                  · skip
                    have tc103 := f_eq (k := 0) (by decide) c103
                    refine lv_iload_n hx hb dX11_takeTurns_128 rfl (lv_at hl 5 rfl) ?_
                    exact J129 x3 _ _ _  hH hS (lv_sub hl [0, 1, 2, 3, 4, 5, 6] rfl)
                  · skip
                    have tc103 := f_ne (k := 0) (by decide) c103
                    refine lv_iload_n hx hb dX11_takeTurns_106 rfl (lv_at hl 5 rfl) ?_
                    refine lv_aload_n hx hb dX11_takeTurns_107 rfl (lv_at hl 2 rfl) ?_
                    refine t_get (ci := 11) (lst := ft11 w ch) (C := RX11) (F := TX11) (N := 20) hx hb hts uX11 hown hkb hH t_a0 (hO.no t_a0 (by decide)) (fun _ h9 => h9) rfl rfl 14 (by decide) rfl kw_374 (fun _ h9 => h9) dX11_takeTurns_108 (fun v9 h9 => ?_)
                    obtain ⟨v108, rfl, t_v108⟩ := h9
                    refine tk_i hH hS hA (tr_V (n := 0) (As := []) hx hb hml hown hts hkb hH hOX hks hE hS hA (s_Ways_pathSet l D cs kf T O X v108 t_v108 (hO.sub (by decide))) kw_926 kw_927 kw_928 kw_9 kw_929 (by decide +kernel) ⟨Nat.le_of_ble_eq_true rfl, Nat.le_of_ble_eq_true rfl⟩ (HT.recv (ci := 10) hkb hH t_v108 (hO.no t_v108 (by decide)) rfl) rfl rfl hl.1 (Nat.le_of_ble_eq_true rfl) dX11_takeTurns_111 ⟨Nat.le_of_ble_eq_true rfl, Nat.le_of_ble_eq_true rfl⟩) (fun v111 u H locs hz9 hH hS => ?_)
                    have hz9 : u = (T, O, X) := hz9
                    subst hz9
                    have hH : HT D cs A T O X H := hH
                    refine W.widen (k := 0) (n := 0) (Nat.le_of_ble_eq_true rfl) (Nat.le_of_ble_eq_true rfl) ?_
                    refine lv_aload_n hx hb dX11_takeTurns_114 rfl (lv_at hl 2 rfl) ?_
                    refine t_get (ci := 11) (lst := ft11 w ch) (C := RX11) (F := TX11) (N := 20) hx hb hts uX11 hown hkb hH t_a0 (hO.no t_a0 (by decide)) (fun _ h9 => h9) rfl rfl 3 (by decide) rfl kw_363 (fun _ h9 => h9) dX11_takeTurns_115 (fun v9 h9 => ?_)
                    have h9 : v9 = .ref w := h9
                    subst h9
                    refine tk_i hH hS hA (tr_V (n := 0) (As := []) hx hb hml hown hts hkb hH hOX hks hE hS hA (s_Wall_middles l D cs kf T O X w hw gw t_w (hO.sub (by decide))) kw_892 kw_683 kw_684 kw_5 kw_685 (by decide +kernel) ⟨Nat.le_of_ble_eq_true rfl, Nat.le_of_ble_eq_true rfl⟩ (HT.recv (ci := 9) hkb hH t_w.1 (hO.no t_w.1 (by decide)) rfl) rfl rfl hl.1 (Nat.le_of_ble_eq_true rfl) dX11_takeTurns_118 ⟨Nat.le_of_ble_eq_true rfl, Nat.le_of_ble_eq_true rfl⟩) (fun v118 u H locs hz9 hH hS => ?_)
                    obtain ⟨rfl, l_v118, u_v118⟩ := hz9
                    have hH : HT D cs A T O X H := hH
                    refine W.widen (k := 0) (n := 0) (Nat.le_of_ble_eq_true rfl) (Nat.le_of_ble_eq_true rfl) ?_
                    refine lv_iand hx hb dX11_takeTurns_121 ?_
                    refine lv_topi (fun v121 ev121 => ?_)
                    have tv121 : 0 ≤ v121.toInt ∧ v121.toInt ≤ v118.toInt := by rw [ev121]; exact and_r (by omega)
                    refine lv_iconst (v := (-1)) hx hb dX11_takeTurns_122 (by decide) ?_
                    refine lv_ixor hx hb dX11_takeTurns_123 ?_
                    refine lv_topi (fun v123 ev123 => ?_)
                    refine lv_iand hx hb dX11_takeTurns_124 ?_
                    refine lv_topi (fun v124 ev124 => ?_)
                    refine lv_goto (tgt := 129) hx hb dX11_takeTurns_125 (by decide) ?_
                    exact J129 v124 _ _ _  hH hS (lv_sub hl [0, 1, 2, 3, 4, 5, 6] rfl)
                refine lv_if_le (tgt := 98) hx hb dX11_takeTurns_91 (by decide) (fun c91 => ?_) (fun c91 => ?_)
                · skip
                  have tc91 := f_le (k := 0) (by decide) c91
                  refine lv_iconst (v := 0) hx hb dX11_takeTurns_98 (by decide) ?_
                  exact J99 0 _ _ _ (by decide) (by decide) hH hS (lv_sub hl [0, 1, 2, 3, 4, 5] rfl)
                · skip
                  have tc91 := f_nle (k := 0) (by decide) c91
                  refine lv_iconst (v := 1) hx hb dX11_takeTurns_94 (by decide) ?_
                  refine lv_goto (tgt := 99) hx hb dX11_takeTurns_95 (by decide) ?_
                  exact J99 1 _ _ _ (by decide) (by decide) hH hS (lv_sub hl [0, 1, 2, 3, 4, 5] rfl)
        refine lv_istore (lv' := [(5, .int 0), (0, .ref a0), (1, .int x1), (2, .int x2), (3, .int x3), (4, .int x4)]) hx hb dX11_takeTurns_46 hl (by decide) rfl (fun ls hl => ?_)
        exact J48 _ 0 _ _ _ rfl (by decide) (by decide) hH hS (lv_sub hl [0, 1, 2, 3, 4, 5] rfl)
      · skip
        have tc21 := f_nlt (k := 5) (by decide) c21
        exfalso; omega
  · skip
    have fuc11 := full_i v6
    have fvc11 := full_i v8
    have tc11 := g_nlt c11
    exact te_v hx hb hr hlocks hH hS rfl dX11_takeTurns_14
set_option maxHeartbeats 4000000 in
set_option maxRecDepth 100000 in
theorem s_FW_takeTurns2 (l : Launch) (D : va_G) (cs : CS) (kf : KF) (T : TF) (O : List Nat) (X : va_W) (a0 w hw gw ch gq : Nat) (x1 : Int32) (x2 : Int32) (x3 : Int32) (x4 : Int32) (t_a0 : T a0 = some (21, w, ch)) (t_w : isW T w hw gw) (t_ch : T ch = some (10, gq, 0)) (l_x1 : 2 ≤ x1.toInt) (u_x1 : x1.toInt ≤ 2) (hO : okO T O [1, 7, 12, 15, 16, 19, 20, 21]) : TK l D cs kf yX11_takeTurns cX11_takeTurns 8 none { frames := 8, cells := 0, slots := 0, locals := 206 } [.ref a0, .int x1, .int x2, .int x3, .int x4] T O X (Tv D cs (fun u => u = (T, O, X))) := by
  refine tk_of (by decide) (Nat.le_of_ble_eq_true rfl) (fun p e s m below meth c ls A H locs hx hb hr hml hown hts hlocks hnm hkb hH hS hA hOX hks hE hl => ?_)
  have hown : s.vm.findClass RX11 = some m.cls := hown
  have hl : lv_has ls 8 [(0, .ref a0), (1, .int x1), (2, .int x2), (3, .int x3), (4, .int x4)] := hl
  have b1_w := t_w.2.1
  have b2_w := t_w.2.2
  refine lv_iload hx hb dX11_takeTurns_0 (lv_at hl 4 rfl) ?_
  refine lv_iload_n hx hb dX11_takeTurns_2 rfl (lv_at hl 2 rfl) ?_
  refine tk_i hH hS hA (tr_S (n := 1) (As := [.int x2]) hx hb hml hown hts hkb hH hOX hks hE hS hA (s_bitCount l D cs kf T O X x2  (hO.sub (by decide))) kw_893 kw_692 kw_20 kw_693 (by decide +kernel) ⟨Nat.le_of_ble_eq_true rfl, Nat.le_of_ble_eq_true rfl⟩ rfl rfl hl.1 (Nat.le_of_ble_eq_true rfl) dX11_takeTurns_3 ⟨Nat.le_of_ble_eq_true rfl, Nat.le_of_ble_eq_true rfl⟩) (fun v3 u H locs hz9 hH hS => ?_)
  obtain ⟨rfl, l_v3, u_v3⟩ := hz9
  have hH : HT D cs A T O X H := hH
  refine W.widen (k := 0) (n := 0) (Nat.le_of_ble_eq_true rfl) (Nat.le_of_ble_eq_true rfl) ?_
  refine lv_iadd hx hb dX11_takeTurns_6 ?_
  refine lv_topi (fun v6 ev6 => ?_)
  refine lv_aload_n hx hb dX11_takeTurns_7 rfl (lv_at hl 0 rfl) ?_
  refine t_get (ci := 11) (lst := ft11 w ch) (C := RX11) (F := TX11) (N := 20) hx hb hts uX11 hown hkb hH t_a0 (hO.no t_a0 (by decide)) (fun _ h9 => h9) rfl rfl 19 (by decide) rfl kw_379 (fun _ h9 => h9) dX11_takeTurns_8 (fun v9 h9 => ?_)
  obtain ⟨v8, rfl⟩ := h9
  refine lv_icmp_gt (tgt := 15) hx hb dX11_takeTurns_11 (by decide) (fun c11 => ?_) (fun c11 => ?_)
  · skip
    have fuc11 := full_i v6
    have fvc11 := full_i v8
    have tc11 := g_lt c11
    refine lv_iload_n hx hb dX11_takeTurns_15 rfl (lv_at hl 2 rfl) ?_
    refine lv_if_eq (tgt := 24) hx hb dX11_takeTurns_16 (by decide) (fun c16 => ?_) (fun c16 => ?_)
    · skip
      have tc16 := f_eq (k := 0) (by decide) c16
      refine lv_aload_n hx hb dX11_takeTurns_24 rfl (lv_at hl 0 rfl) ?_
      refine lv_iload hx hb dX11_takeTurns_25 (lv_at hl 4 rfl) ?_
      refine t_put (ci := 11) (lst := ft11 w ch) (v := .int x4) (ty := tyX11 19) (C := RX11) (F := TX11) (N := 20) hx hb hts uX11 tyX11 tyX11_ok nmX11 hown hkb hH hS t_a0 (hO.no t_a0 (by decide)) (fun _ => Iff.rfl) rfl rfl 19 (by decide) rfl (⟨_, rfl⟩) kw_379 (fun _ h9 => h9) rfl (tyX11_ok 19 (by decide)) rfl rfl dX11_takeTurns_27 (fun H locs hH hS => ?_)
      refine lv_aload_n hx hb dX11_takeTurns_30 rfl (lv_at hl 0 rfl) ?_
      refine t_get (ci := 11) (lst := ft11 w ch) (C := RX11) (F := TX11) (N := 20) hx hb hts uX11 hown hkb hH t_a0 (hO.no t_a0 (by decide)) (fun _ h9 => h9) rfl rfl 17 (by decide) rfl kw_377 (fun _ h9 => h9) dX11_takeTurns_31 (fun v9 h9 => ?_)
      obtain ⟨v31, rfl, t_v31⟩ := h9
      refine lv_iconst (v := 0) hx hb dX11_takeTurns_34 (by decide) ?_
      refine lv_aload_n hx hb dX11_takeTurns_35 rfl (lv_at hl 0 rfl) ?_
      refine t_get (ci := 11) (lst := ft11 w ch) (C := RX11) (F := TX11) (N := 20) hx hb hts uX11 hown hkb hH t_a0 (hO.no t_a0 (by decide)) (fun _ h9 => h9) rfl rfl 18 (by decide) rfl kw_378 (fun _ h9 => h9) dX11_takeTurns_36 (fun v9 h9 => ?_)
      obtain ⟨v36, rfl, t_v36⟩ := h9
      refine lv_iconst (v := 0) hx hb dX11_takeTurns_39 (by decide) ?_
      refine lv_iconst (v := 5) hx hb dX11_takeTurns_40 (by decide) ?_
      refine t_copy hx hb (by rw [hml]; exact hl.1.symm) hown (hts _ kw_1172) (hts _ kw_734) (hts _ kw_733) (hts _ kw_23) hkb hH hS t_v31 (hO.no t_v31 (by decide)) t_v36 (hO.no t_v36 (by decide)) (by decide) (by decide) (by decide) (by decide) (by decide) (Nat.le_of_ble_eq_true rfl) (Nat.le_of_ble_eq_true rfl) dX11_takeTurns_41 (fun H locs hH hS => ?_)
      exact te_v hx hb hr hlocks hH hS rfl dX11_takeTurns_44
    · skip
      have tc16 := f_ne (k := 0) (by decide) c16
      refine lv_iload_n hx hb dX11_takeTurns_19 rfl (lv_at hl 1 rfl) ?_
      refine lv_iconst (v := 5) hx hb dX11_takeTurns_20 (by decide) ?_
      refine lv_icmp_lt (tgt := 45) hx hb dX11_takeTurns_21 (by decide) (fun c21 => ?_) (fun c21 => ?_)
      · skip
        have tc21 := f_lt (k := 5) (by decide) c21
        refine lv_iconst (v := 0) hx hb dX11_takeTurns_45 (by decide) ?_
        have J48 : ∀ (n : Nat) (p48_5 : Int32) (H : Heap) (locs : List Loc) (ls : Array Slot), (5 - p48_5.toInt).toNat = n → (0 ≤ p48_5.toInt) → (p48_5.toInt ≤ 5) → HT D cs A T O X H → va_S A s.heap H locs → lv_has ls 8 [(5, .int p48_5), (0, .ref a0), (1, .int x1), (2, .int x2), (3, .int x3), (4, .int x4)] → W p l e { frames := 8, cells := 0, slots := 0, locals := 206 } s m [.ref a0, .int x1, .int x2, .int x3, .int x4].toArray below meth c H locs 0 0 (MQ below (Tv D cs (fun u => u = (T, O, X)) A) [.ref a0, .int x1, .int x2, .int x3, .int x4].toArray s 0 0 A) (F0 m 48 ls []) := by
          intro n
          induction n using Nat.strongRecOn with
          | _ n ih48 =>
            intro p48_5 H locs ls hm48 l_p48_5 u_p48_5 hH hS hl
            refine lv_iload hx hb dX11_takeTurns_48 (lv_at hl 0 rfl) ?_
            refine lv_aload_n hx hb dX11_takeTurns_50 rfl (lv_at hl 1 rfl) ?_
            refine t_get (ci := 11) (lst := ft11 w ch) (C := RX11) (F := TX11) (N := 20) hx hb hts uX11 hown hkb hH t_a0 (hO.no t_a0 (by decide)) (fun _ h9 => h9) rfl rfl 3 (by decide) rfl kw_363 (fun _ h9 => h9) dX11_takeTurns_51 (fun v9 h9 => ?_)
            have h9 : v9 = .ref w := h9
            subst h9
            refine t_get (ci := 9) (lst := ft9w hw gw) (C := RX9) (F := TX9) (N := 14) hx hb hts uX9 hown hkb hH t_w.1 (hO.no t_w.1 (by decide)) (fun fs => (ob9w t_w fs).mp) rfl rfl 1 (by decide) rfl kw_112 (fun _ h9 => h9) dX11_takeTurns_54 (fun v9 h9 => ?_)
            have h9 : v9 = .int (nI gw) := h9
            subst h9
            have e_gw : (nI gw).toInt = gw := nI_toInt (by have := t_w.2.2; omega)
            have b_gw := t_w.2.2
            refine lv_icmp_ge (tgt := 167) hx hb dX11_takeTurns_57 (by decide) (fun c57 => ?_) (fun c57 => ?_)
            · skip
              have fuc57 := full_i p48_5
              have fvc57 := full_i (nI gw)
              have tc57 := g_le c57
              exact te_v hx hb hr hlocks hH hS rfl dX11_takeTurns_167
            · skip
              have fuc57 := full_i p48_5
              have fvc57 := full_i (nI gw)
              have tc57 := g_nle c57
              refine lv_iload_n hx hb dX11_takeTurns_60 rfl (lv_at hl 3 rfl) ?_
              refine lv_iload hx hb dX11_takeTurns_61 (lv_at hl 0 rfl) ?_
              refine lv_ishr hx hb dX11_takeTurns_63 ?_
              refine lv_topi (fun v63 ev63 => ?_)
              refine lv_iconst (v := 1) hx hb dX11_takeTurns_64 (by decide) ?_
              refine lv_iand hx hb dX11_takeTurns_65 ?_
              refine lv_topi (fun v65 ev65 => ?_)
              have tv65 : 0 ≤ v65.toInt ∧ v65.toInt ≤ 1 := by rw [ev65]; exact and_r (by decide)
              have J161 : ∀  (H : Heap) (locs : List Loc) (ls : Array Slot), HT D cs A T O X H → va_S A s.heap H locs → lv_has ls 8 [(5, .int p48_5), (0, .ref a0), (1, .int x1), (2, .int x2), (3, .int x3), (4, .int x4)] → W p l e { frames := 8, cells := 0, slots := 0, locals := 206 } s m [.ref a0, .int x1, .int x2, .int x3, .int x4].toArray below meth c H locs 0 0 (MQ below (Tv D cs (fun u => u = (T, O, X)) A) [.ref a0, .int x1, .int x2, .int x3, .int x4].toArray s 0 0 A) (F0 m 161 ls []) := by
                intro  H locs ls  hH hS hl
                obtain ⟨v161, ev161⟩ : ∃ y : Int32, y = p48_5 + 1 := ⟨_, rfl⟩
                have tv161 : v161.toInt = p48_5.toInt + (1) := by rw [ev161]; exact add_i rfl (by decide) (by omega) (by omega)
                refine lv_iinc (v := v161) (lv' := [(5, .int v161), (0, .ref a0), (1, .int x1), (2, .int x2), (3, .int x3), (4, .int x4)]) hx hb dX11_takeTurns_161 hl (k := 0) rfl (by rw [ev161]; rfl) (by decide) rfl (fun ls hl => ?_)
                refine lv_goto (tgt := 48) hx hb dX11_takeTurns_164 (by decide) ?_
                exact ih48 _ (by omega) v161 _ _ _ rfl (by omega) (by omega) hH hS (lv_sub hl [0, 1, 2, 3, 4, 5] rfl)
              refine lv_if_eq (tgt := 161) hx hb dX11_takeTurns_66 (by decide) (fun c66 => ?_) (fun c66 => ?_)
              · skip
                have tc66 := f_eq (k := 0) (by decide) c66
                exact J161  _ _ _  hH hS (lv_sub hl [0, 1, 2, 3, 4, 5] rfl)
              · skip
                have tc66 := f_ne (k := 0) (by decide) c66
                refine lv_aload_n hx hb dX11_takeTurns_69 rfl (lv_at hl 1 rfl) ?_
                refine t_get (ci := 11) (lst := ft11 w ch) (C := RX11) (F := TX11) (N := 20) hx hb hts uX11 hown hkb hH t_a0 (hO.no t_a0 (by decide)) (fun _ h9 => h9) rfl rfl 17 (by decide) rfl kw_377 (fun _ h9 => h9) dX11_takeTurns_70 (fun v9 h9 => ?_)
                obtain ⟨v70, rfl, t_v70⟩ := h9
                refine lv_iload_n hx hb dX11_takeTurns_73 rfl (lv_at hl 2 rfl) ?_
                refine lv_iload hx hb dX11_takeTurns_74 (lv_at hl 0 rfl) ?_
                refine t_ist hx hb hkb hH hS t_v70 (hO.no t_v70 (by decide)) (by omega) (by omega) (cp_0 _) dX11_takeTurns_76 (fun H locs hH hS => ?_)
                refine lv_aload_n hx hb dX11_takeTurns_77 rfl (lv_at hl 1 rfl) ?_
                refine t_get (ci := 11) (lst := ft11 w ch) (C := RX11) (F := TX11) (N := 20) hx hb hts uX11 hown hkb hH t_a0 (hO.no t_a0 (by decide)) (fun _ h9 => h9) rfl rfl 14 (by decide) rfl kw_374 (fun _ h9 => h9) dX11_takeTurns_78 (fun v9 h9 => ?_)
                obtain ⟨v78, rfl, t_v78⟩ := h9
                refine lv_aload_n hx hb dX11_takeTurns_81 rfl (lv_at hl 1 rfl) ?_
                refine lv_iload hx hb dX11_takeTurns_82 (lv_at hl 0 rfl) ?_
                refine tk_r hH hS hA (tr_V (n := 1) (As := [.int p48_5]) hx hb hml hown hts hkb hH hOX hks hE hS hA (s_FW_rowsOf l D cs kf T O X a0 w hw gw ch gq p48_5 t_a0 t_w t_ch (by omega) (by omega) (hO.sub (by decide))) kw_830 kw_832 ks_21 kw_1 kw_833 (by decide +kernel) ⟨Nat.le_of_ble_eq_true rfl, Nat.le_of_ble_eq_true rfl⟩ (HT.recv (ci := 11) hkb hH t_a0 (hO.no t_a0 (by decide)) rfl) rfl rfl hl.1 (Nat.le_of_ble_eq_true rfl) dX11_takeTurns_84 ⟨Nat.le_of_ble_eq_true rfl, Nat.le_of_ble_eq_true rfl⟩) (fun v84 u H locs hz9 hH hS => ?_)
                obtain ⟨hu9, t_v84⟩ := hz9
                have hu9 : u = (T, O, X) := hu9
                subst hu9
                have hH : HT D cs A T O X H := hH
                refine W.widen (k := 0) (n := 0) (Nat.le_of_ble_eq_true rfl) (Nat.le_of_ble_eq_true rfl) ?_
                refine lv_iload_n hx hb dX11_takeTurns_87 rfl (lv_at hl 4 rfl) ?_
                refine tk_i hH hS hA (tr_V (n := 2) (As := [.ref v84, .int x3]) hx hb hml hown hts hkb hH hOX hks hE hS hA (s_Ways_find l D cs kf T O X v78 v84 x3 t_v78 t_v84 (hO.sub (by decide))) kw_912 kw_913 kw_914 kw_9 kw_915 (by decide +kernel) ⟨Nat.le_of_ble_eq_true rfl, Nat.le_of_ble_eq_true rfl⟩ (HT.recv (ci := 10) hkb hH t_v78 (hO.no t_v78 (by decide)) rfl) rfl rfl hl.1 (Nat.le_of_ble_eq_true rfl) dX11_takeTurns_88 ⟨Nat.le_of_ble_eq_true rfl, Nat.le_of_ble_eq_true rfl⟩) (fun v88 u H locs hz9 hH hS => ?_)
                obtain ⟨rfl, l_v88, u_v88⟩ := hz9
                have hH : HT D cs A T O X H := hH
                refine W.widen (k := 0) (n := 0) (Nat.le_of_ble_eq_true rfl) (Nat.le_of_ble_eq_true rfl) ?_
                have J99 : ∀ (k99_0 : Int32) (H : Heap) (locs : List Loc) (ls : Array Slot), (0 ≤ k99_0.toInt) → (k99_0.toInt ≤ 1) → HT D cs A T O X H → va_S A s.heap H locs → lv_has ls 8 [(5, .int p48_5), (0, .ref a0), (1, .int x1), (2, .int x2), (3, .int x3), (4, .int x4)] → W p l e { frames := 8, cells := 0, slots := 0, locals := 206 } s m [.ref a0, .int x1, .int x2, .int x3, .int x4].toArray below meth c H locs 0 0 (MQ below (Tv D cs (fun u => u = (T, O, X)) A) [.ref a0, .int x1, .int x2, .int x3, .int x4].toArray s 0 0 A) (F0 m 99 ls [.int k99_0]) := by
                  intro k99_0 H locs ls l_k99_0 u_k99_0 hH hS hl
                  refine lv_istore (lv' := [(6, .int k99_0), (5, .int p48_5), (0, .ref a0), (1, .int x1), (2, .int x2), (3, .int x3), (4, .int x4)]) hx hb dX11_takeTurns_99 hl (by decide) rfl (fun ls hl => ?_)
                  refine lv_iload hx hb dX11_takeTurns_101 (lv_at hl 0 rfl) ?_
                  have J129 : ∀ (k129_0 : Int32) (H : Heap) (locs : List Loc) (ls : Array Slot), HT D cs A T O X H → va_S A s.heap H locs → lv_has ls 8 [(6, .int k99_0), (5, .int p48_5), (0, .ref a0), (1, .int x1), (2, .int x2), (3, .int x3), (4, .int x4)] → W p l e { frames := 8, cells := 0, slots := 0, locals := 206 } s m [.ref a0, .int x1, .int x2, .int x3, .int x4].toArray below meth c H locs 0 0 (MQ below (Tv D cs (fun u => u = (T, O, X)) A) [.ref a0, .int x1, .int x2, .int x3, .int x4].toArray s 0 0 A) (F0 m 129 ls [.int k129_0]) := by
                    intro k129_0 H locs ls  hH hS hl
                    refine lv_istore (lv' := [(7, .int k129_0), (6, .int k99_0), (5, .int p48_5), (0, .ref a0), (1, .int x1), (2, .int x2), (3, .int x3), (4, .int x4)]) hx hb dX11_takeTurns_129 hl (by decide) rfl (fun ls hl => ?_)
                    refine lv_aload_n hx hb dX11_takeTurns_131 rfl (lv_at hl 3 rfl) ?_
                    refine lv_iload_n hx hb dX11_takeTurns_132 rfl (lv_at hl 4 rfl) ?_
                    refine lv_iconst (v := 1) hx hb dX11_takeTurns_133 (by decide) ?_
                    refine lv_iadd hx hb dX11_takeTurns_134 ?_
                    refine lv_topi (fun v134 ev134 => ?_)
                    have tv134 : v134.toInt = x1.toInt + (1) := by rw [ev134]; exact add_i rfl (by decide : (1 : Int32).toInt = 1) (by omega) (by omega)
                    refine lv_iload_n hx hb dX11_takeTurns_135 rfl (lv_at hl 5 rfl) ?_
                    refine lv_iconst (v := 1) hx hb dX11_takeTurns_136 (by decide) ?_
                    refine lv_iload hx hb dX11_takeTurns_137 (lv_at hl 2 rfl) ?_
                    refine lv_ishl hx hb dX11_takeTurns_139 ?_
                    refine lv_topi (fun v139 ev139 => ?_)
                    have tv139 : 1 ≤ v139.toInt ∧ v139.toInt ≤ 16 := by rw [ev139]; exact shl_b 4 (by decide) (by omega) (by omega)
                    refine lv_iconst (v := (-1)) hx hb dX11_takeTurns_140 (by decide) ?_
                    refine lv_ixor hx hb dX11_takeTurns_141 ?_
                    refine lv_topi (fun v141 ev141 => ?_)
                    refine lv_iand hx hb dX11_takeTurns_142 ?_
                    refine lv_topi (fun v142 ev142 => ?_)
                    refine lv_iload hx hb dX11_takeTurns_143 (lv_at hl 0 rfl) ?_
                    refine lv_iload hx hb dX11_takeTurns_145 (lv_at hl 7 rfl) ?_
                    refine lv_iload hx hb dX11_takeTurns_147 (lv_at hl 1 rfl) ?_
                    have J157 : ∀ (k157_0 : Int32) (H : Heap) (locs : List Loc) (ls : Array Slot), (0 ≤ k157_0.toInt) → (k157_0.toInt ≤ 1) → HT D cs A T O X H → va_S A s.heap H locs → lv_has ls 8 [(5, .int p48_5), (0, .ref a0), (1, .int x1), (2, .int x2), (3, .int x3), (4, .int x4)] → W p l e { frames := 8, cells := 0, slots := 0, locals := 206 } s m [.ref a0, .int x1, .int x2, .int x3, .int x4].toArray below meth c H locs 0 0 (MQ below (Tv D cs (fun u => u = (T, O, X)) A) [.ref a0, .int x1, .int x2, .int x3, .int x4].toArray s 0 0 A) (F0 m 157 ls [.int k157_0, .int x4, .int k129_0, .int v142, .int v134, .ref a0]) := by
                      intro k157_0 H locs ls l_k157_0 u_k157_0 hH hS hl
                      refine lv_iadd hx hb dX11_takeTurns_157 ?_
                      refine lv_topi (fun v157 ev157 => ?_)
                      refine tk_v hH hS hA (tr_V (n := 4) (As := [.int v134, .int v142, .int k129_0, .int v157]) hx hb hml hown hts hkb hH hOX hks hE hS hA (s_FW_takeTurns3 l D cs kf T O X a0 w hw gw ch gq v134 v142 k129_0 v157 t_a0 t_w t_ch (by omega) (by omega) (hO.sub (by decide))) kw_1168 kw_1170 ks_42 kw_1 kw_1171 (by decide +kernel) ⟨Nat.le_of_ble_eq_true rfl, Nat.le_of_ble_eq_true rfl⟩ (HT.recv (ci := 11) hkb hH t_a0 (hO.no t_a0 (by decide)) rfl) rfl rfl hl.1 (Nat.le_of_ble_eq_true rfl) dX11_takeTurns_158 ⟨Nat.le_of_ble_eq_true rfl, Nat.le_of_ble_eq_true rfl⟩) (fun u H locs hz9 hH hS => ?_)
                      have hz9 : u = (T, O, X) := hz9
                      subst hz9
                      have hH : HT D cs A T O X H := hH
                      refine W.widen (k := 0) (n := 0) (Nat.le_of_ble_eq_true rfl) (Nat.le_of_ble_eq_true rfl) ?_
                      exact J161  _ _ _  hH hS (lv_sub hl [0, 1, 2, 3, 4, 5] rfl)
                    refine lv_if_eq (tgt := 156) hx hb dX11_takeTurns_149 (by decide) (fun c149 => ?_) (fun c149 => ?_)
                    · skip
                      have tc149 := f_eq (k := 0) (by decide) c149
                      refine lv_iconst (v := 0) hx hb dX11_takeTurns_156 (by decide) ?_
                      exact J157 0 _ _ _ (by decide) (by decide) hH hS (lv_sub hl [2, 3, 4, 5, 6, 7] rfl)
                    · skip
                      have tc149 := f_ne (k := 0) (by decide) c149
                      refine lv_iconst (v := 1) hx hb dX11_takeTurns_152 (by decide) ?_
                      refine lv_goto (tgt := 157) hx hb dX11_takeTurns_153 (by decide) ?_
                      exact J157 1 _ _ _ (by decide) (by decide) hH hS (lv_sub hl [2, 3, 4, 5, 6, 7] rfl)
                  refine lv_if_eq (tgt := 128) hx hb dX11_takeTurns_103 (by decide) (fun c103 => ?_) (fun c103 => ?_)
                  · skip
                    have tc103 := f_eq (k := 0) (by decide) c103
                    refine lv_iload_n hx hb dX11_takeTurns_128 rfl (lv_at hl 5 rfl) ?_
                    exact J129 x3 _ _ _  hH hS (lv_sub hl [0, 1, 2, 3, 4, 5, 6] rfl)
                  · skip
                    have tc103 := f_ne (k := 0) (by decide) c103
                    refine lv_iload_n hx hb dX11_takeTurns_106 rfl (lv_at hl 5 rfl) ?_
                    refine lv_aload_n hx hb dX11_takeTurns_107 rfl (lv_at hl 2 rfl) ?_
                    refine t_get (ci := 11) (lst := ft11 w ch) (C := RX11) (F := TX11) (N := 20) hx hb hts uX11 hown hkb hH t_a0 (hO.no t_a0 (by decide)) (fun _ h9 => h9) rfl rfl 14 (by decide) rfl kw_374 (fun _ h9 => h9) dX11_takeTurns_108 (fun v9 h9 => ?_)
                    obtain ⟨v108, rfl, t_v108⟩ := h9
                    refine tk_i hH hS hA (tr_V (n := 0) (As := []) hx hb hml hown hts hkb hH hOX hks hE hS hA (s_Ways_pathSet l D cs kf T O X v108 t_v108 (hO.sub (by decide))) kw_926 kw_927 kw_928 kw_9 kw_929 (by decide +kernel) ⟨Nat.le_of_ble_eq_true rfl, Nat.le_of_ble_eq_true rfl⟩ (HT.recv (ci := 10) hkb hH t_v108 (hO.no t_v108 (by decide)) rfl) rfl rfl hl.1 (Nat.le_of_ble_eq_true rfl) dX11_takeTurns_111 ⟨Nat.le_of_ble_eq_true rfl, Nat.le_of_ble_eq_true rfl⟩) (fun v111 u H locs hz9 hH hS => ?_)
                    have hz9 : u = (T, O, X) := hz9
                    subst hz9
                    have hH : HT D cs A T O X H := hH
                    refine W.widen (k := 0) (n := 0) (Nat.le_of_ble_eq_true rfl) (Nat.le_of_ble_eq_true rfl) ?_
                    refine lv_aload_n hx hb dX11_takeTurns_114 rfl (lv_at hl 2 rfl) ?_
                    refine t_get (ci := 11) (lst := ft11 w ch) (C := RX11) (F := TX11) (N := 20) hx hb hts uX11 hown hkb hH t_a0 (hO.no t_a0 (by decide)) (fun _ h9 => h9) rfl rfl 3 (by decide) rfl kw_363 (fun _ h9 => h9) dX11_takeTurns_115 (fun v9 h9 => ?_)
                    have h9 : v9 = .ref w := h9
                    subst h9
                    refine tk_i hH hS hA (tr_V (n := 0) (As := []) hx hb hml hown hts hkb hH hOX hks hE hS hA (s_Wall_middles l D cs kf T O X w hw gw t_w (hO.sub (by decide))) kw_892 kw_683 kw_684 kw_5 kw_685 (by decide +kernel) ⟨Nat.le_of_ble_eq_true rfl, Nat.le_of_ble_eq_true rfl⟩ (HT.recv (ci := 9) hkb hH t_w.1 (hO.no t_w.1 (by decide)) rfl) rfl rfl hl.1 (Nat.le_of_ble_eq_true rfl) dX11_takeTurns_118 ⟨Nat.le_of_ble_eq_true rfl, Nat.le_of_ble_eq_true rfl⟩) (fun v118 u H locs hz9 hH hS => ?_)
                    obtain ⟨rfl, l_v118, u_v118⟩ := hz9
                    have hH : HT D cs A T O X H := hH
                    refine W.widen (k := 0) (n := 0) (Nat.le_of_ble_eq_true rfl) (Nat.le_of_ble_eq_true rfl) ?_
                    refine lv_iand hx hb dX11_takeTurns_121 ?_
                    refine lv_topi (fun v121 ev121 => ?_)
                    have tv121 : 0 ≤ v121.toInt ∧ v121.toInt ≤ v118.toInt := by rw [ev121]; exact and_r (by omega)
                    refine lv_iconst (v := (-1)) hx hb dX11_takeTurns_122 (by decide) ?_
                    refine lv_ixor hx hb dX11_takeTurns_123 ?_
                    refine lv_topi (fun v123 ev123 => ?_)
                    refine lv_iand hx hb dX11_takeTurns_124 ?_
                    refine lv_topi (fun v124 ev124 => ?_)
                    refine lv_goto (tgt := 129) hx hb dX11_takeTurns_125 (by decide) ?_
                    exact J129 v124 _ _ _  hH hS (lv_sub hl [0, 1, 2, 3, 4, 5, 6] rfl)
                refine lv_if_le (tgt := 98) hx hb dX11_takeTurns_91 (by decide) (fun c91 => ?_) (fun c91 => ?_)
                · skip
                  have tc91 := f_le (k := 0) (by decide) c91
                  refine lv_iconst (v := 0) hx hb dX11_takeTurns_98 (by decide) ?_
                  exact J99 0 _ _ _ (by decide) (by decide) hH hS (lv_sub hl [0, 1, 2, 3, 4, 5] rfl)
                · skip
                  have tc91 := f_nle (k := 0) (by decide) c91
                  refine lv_iconst (v := 1) hx hb dX11_takeTurns_94 (by decide) ?_
                  refine lv_goto (tgt := 99) hx hb dX11_takeTurns_95 (by decide) ?_
                  exact J99 1 _ _ _ (by decide) (by decide) hH hS (lv_sub hl [0, 1, 2, 3, 4, 5] rfl)
        refine lv_istore (lv' := [(5, .int 0), (0, .ref a0), (1, .int x1), (2, .int x2), (3, .int x3), (4, .int x4)]) hx hb dX11_takeTurns_46 hl (by decide) rfl (fun ls hl => ?_)
        exact J48 _ 0 _ _ _ rfl (by decide) (by decide) hH hS (lv_sub hl [0, 1, 2, 3, 4, 5] rfl)
      · skip
        have tc21 := f_nlt (k := 5) (by decide) c21
        exfalso; omega
  · skip
    have fuc11 := full_i v6
    have fvc11 := full_i v8
    have tc11 := g_nlt c11
    exact te_v hx hb hr hlocks hH hS rfl dX11_takeTurns_14
set_option maxHeartbeats 4000000 in
set_option maxRecDepth 100000 in
theorem s_FW_takeTurns1 (l : Launch) (D : va_G) (cs : CS) (kf : KF) (T : TF) (O : List Nat) (X : va_W) (a0 w hw gw ch gq : Nat) (x1 : Int32) (x2 : Int32) (x3 : Int32) (x4 : Int32) (t_a0 : T a0 = some (21, w, ch)) (t_w : isW T w hw gw) (t_ch : T ch = some (10, gq, 0)) (l_x1 : 1 ≤ x1.toInt) (u_x1 : x1.toInt ≤ 1) (hO : okO T O [1, 7, 12, 15, 16, 19, 20, 21]) : TK l D cs kf yX11_takeTurns cX11_takeTurns 8 none { frames := 9, cells := 0, slots := 0, locals := 233 } [.ref a0, .int x1, .int x2, .int x3, .int x4] T O X (Tv D cs (fun u => u = (T, O, X))) := by
  refine tk_of (by decide) (Nat.le_of_ble_eq_true rfl) (fun p e s m below meth c ls A H locs hx hb hr hml hown hts hlocks hnm hkb hH hS hA hOX hks hE hl => ?_)
  have hown : s.vm.findClass RX11 = some m.cls := hown
  have hl : lv_has ls 8 [(0, .ref a0), (1, .int x1), (2, .int x2), (3, .int x3), (4, .int x4)] := hl
  have b1_w := t_w.2.1
  have b2_w := t_w.2.2
  refine lv_iload hx hb dX11_takeTurns_0 (lv_at hl 4 rfl) ?_
  refine lv_iload_n hx hb dX11_takeTurns_2 rfl (lv_at hl 2 rfl) ?_
  refine tk_i hH hS hA (tr_S (n := 1) (As := [.int x2]) hx hb hml hown hts hkb hH hOX hks hE hS hA (s_bitCount l D cs kf T O X x2  (hO.sub (by decide))) kw_893 kw_692 kw_20 kw_693 (by decide +kernel) ⟨Nat.le_of_ble_eq_true rfl, Nat.le_of_ble_eq_true rfl⟩ rfl rfl hl.1 (Nat.le_of_ble_eq_true rfl) dX11_takeTurns_3 ⟨Nat.le_of_ble_eq_true rfl, Nat.le_of_ble_eq_true rfl⟩) (fun v3 u H locs hz9 hH hS => ?_)
  obtain ⟨rfl, l_v3, u_v3⟩ := hz9
  have hH : HT D cs A T O X H := hH
  refine W.widen (k := 0) (n := 0) (Nat.le_of_ble_eq_true rfl) (Nat.le_of_ble_eq_true rfl) ?_
  refine lv_iadd hx hb dX11_takeTurns_6 ?_
  refine lv_topi (fun v6 ev6 => ?_)
  refine lv_aload_n hx hb dX11_takeTurns_7 rfl (lv_at hl 0 rfl) ?_
  refine t_get (ci := 11) (lst := ft11 w ch) (C := RX11) (F := TX11) (N := 20) hx hb hts uX11 hown hkb hH t_a0 (hO.no t_a0 (by decide)) (fun _ h9 => h9) rfl rfl 19 (by decide) rfl kw_379 (fun _ h9 => h9) dX11_takeTurns_8 (fun v9 h9 => ?_)
  obtain ⟨v8, rfl⟩ := h9
  refine lv_icmp_gt (tgt := 15) hx hb dX11_takeTurns_11 (by decide) (fun c11 => ?_) (fun c11 => ?_)
  · skip
    have fuc11 := full_i v6
    have fvc11 := full_i v8
    have tc11 := g_lt c11
    refine lv_iload_n hx hb dX11_takeTurns_15 rfl (lv_at hl 2 rfl) ?_
    refine lv_if_eq (tgt := 24) hx hb dX11_takeTurns_16 (by decide) (fun c16 => ?_) (fun c16 => ?_)
    · skip
      have tc16 := f_eq (k := 0) (by decide) c16
      refine lv_aload_n hx hb dX11_takeTurns_24 rfl (lv_at hl 0 rfl) ?_
      refine lv_iload hx hb dX11_takeTurns_25 (lv_at hl 4 rfl) ?_
      refine t_put (ci := 11) (lst := ft11 w ch) (v := .int x4) (ty := tyX11 19) (C := RX11) (F := TX11) (N := 20) hx hb hts uX11 tyX11 tyX11_ok nmX11 hown hkb hH hS t_a0 (hO.no t_a0 (by decide)) (fun _ => Iff.rfl) rfl rfl 19 (by decide) rfl (⟨_, rfl⟩) kw_379 (fun _ h9 => h9) rfl (tyX11_ok 19 (by decide)) rfl rfl dX11_takeTurns_27 (fun H locs hH hS => ?_)
      refine lv_aload_n hx hb dX11_takeTurns_30 rfl (lv_at hl 0 rfl) ?_
      refine t_get (ci := 11) (lst := ft11 w ch) (C := RX11) (F := TX11) (N := 20) hx hb hts uX11 hown hkb hH t_a0 (hO.no t_a0 (by decide)) (fun _ h9 => h9) rfl rfl 17 (by decide) rfl kw_377 (fun _ h9 => h9) dX11_takeTurns_31 (fun v9 h9 => ?_)
      obtain ⟨v31, rfl, t_v31⟩ := h9
      refine lv_iconst (v := 0) hx hb dX11_takeTurns_34 (by decide) ?_
      refine lv_aload_n hx hb dX11_takeTurns_35 rfl (lv_at hl 0 rfl) ?_
      refine t_get (ci := 11) (lst := ft11 w ch) (C := RX11) (F := TX11) (N := 20) hx hb hts uX11 hown hkb hH t_a0 (hO.no t_a0 (by decide)) (fun _ h9 => h9) rfl rfl 18 (by decide) rfl kw_378 (fun _ h9 => h9) dX11_takeTurns_36 (fun v9 h9 => ?_)
      obtain ⟨v36, rfl, t_v36⟩ := h9
      refine lv_iconst (v := 0) hx hb dX11_takeTurns_39 (by decide) ?_
      refine lv_iconst (v := 5) hx hb dX11_takeTurns_40 (by decide) ?_
      refine t_copy hx hb (by rw [hml]; exact hl.1.symm) hown (hts _ kw_1172) (hts _ kw_734) (hts _ kw_733) (hts _ kw_23) hkb hH hS t_v31 (hO.no t_v31 (by decide)) t_v36 (hO.no t_v36 (by decide)) (by decide) (by decide) (by decide) (by decide) (by decide) (Nat.le_of_ble_eq_true rfl) (Nat.le_of_ble_eq_true rfl) dX11_takeTurns_41 (fun H locs hH hS => ?_)
      exact te_v hx hb hr hlocks hH hS rfl dX11_takeTurns_44
    · skip
      have tc16 := f_ne (k := 0) (by decide) c16
      refine lv_iload_n hx hb dX11_takeTurns_19 rfl (lv_at hl 1 rfl) ?_
      refine lv_iconst (v := 5) hx hb dX11_takeTurns_20 (by decide) ?_
      refine lv_icmp_lt (tgt := 45) hx hb dX11_takeTurns_21 (by decide) (fun c21 => ?_) (fun c21 => ?_)
      · skip
        have tc21 := f_lt (k := 5) (by decide) c21
        refine lv_iconst (v := 0) hx hb dX11_takeTurns_45 (by decide) ?_
        have J48 : ∀ (n : Nat) (p48_5 : Int32) (H : Heap) (locs : List Loc) (ls : Array Slot), (5 - p48_5.toInt).toNat = n → (0 ≤ p48_5.toInt) → (p48_5.toInt ≤ 5) → HT D cs A T O X H → va_S A s.heap H locs → lv_has ls 8 [(5, .int p48_5), (0, .ref a0), (1, .int x1), (2, .int x2), (3, .int x3), (4, .int x4)] → W p l e { frames := 9, cells := 0, slots := 0, locals := 233 } s m [.ref a0, .int x1, .int x2, .int x3, .int x4].toArray below meth c H locs 0 0 (MQ below (Tv D cs (fun u => u = (T, O, X)) A) [.ref a0, .int x1, .int x2, .int x3, .int x4].toArray s 0 0 A) (F0 m 48 ls []) := by
          intro n
          induction n using Nat.strongRecOn with
          | _ n ih48 =>
            intro p48_5 H locs ls hm48 l_p48_5 u_p48_5 hH hS hl
            refine lv_iload hx hb dX11_takeTurns_48 (lv_at hl 0 rfl) ?_
            refine lv_aload_n hx hb dX11_takeTurns_50 rfl (lv_at hl 1 rfl) ?_
            refine t_get (ci := 11) (lst := ft11 w ch) (C := RX11) (F := TX11) (N := 20) hx hb hts uX11 hown hkb hH t_a0 (hO.no t_a0 (by decide)) (fun _ h9 => h9) rfl rfl 3 (by decide) rfl kw_363 (fun _ h9 => h9) dX11_takeTurns_51 (fun v9 h9 => ?_)
            have h9 : v9 = .ref w := h9
            subst h9
            refine t_get (ci := 9) (lst := ft9w hw gw) (C := RX9) (F := TX9) (N := 14) hx hb hts uX9 hown hkb hH t_w.1 (hO.no t_w.1 (by decide)) (fun fs => (ob9w t_w fs).mp) rfl rfl 1 (by decide) rfl kw_112 (fun _ h9 => h9) dX11_takeTurns_54 (fun v9 h9 => ?_)
            have h9 : v9 = .int (nI gw) := h9
            subst h9
            have e_gw : (nI gw).toInt = gw := nI_toInt (by have := t_w.2.2; omega)
            have b_gw := t_w.2.2
            refine lv_icmp_ge (tgt := 167) hx hb dX11_takeTurns_57 (by decide) (fun c57 => ?_) (fun c57 => ?_)
            · skip
              have fuc57 := full_i p48_5
              have fvc57 := full_i (nI gw)
              have tc57 := g_le c57
              exact te_v hx hb hr hlocks hH hS rfl dX11_takeTurns_167
            · skip
              have fuc57 := full_i p48_5
              have fvc57 := full_i (nI gw)
              have tc57 := g_nle c57
              refine lv_iload_n hx hb dX11_takeTurns_60 rfl (lv_at hl 3 rfl) ?_
              refine lv_iload hx hb dX11_takeTurns_61 (lv_at hl 0 rfl) ?_
              refine lv_ishr hx hb dX11_takeTurns_63 ?_
              refine lv_topi (fun v63 ev63 => ?_)
              refine lv_iconst (v := 1) hx hb dX11_takeTurns_64 (by decide) ?_
              refine lv_iand hx hb dX11_takeTurns_65 ?_
              refine lv_topi (fun v65 ev65 => ?_)
              have tv65 : 0 ≤ v65.toInt ∧ v65.toInt ≤ 1 := by rw [ev65]; exact and_r (by decide)
              have J161 : ∀  (H : Heap) (locs : List Loc) (ls : Array Slot), HT D cs A T O X H → va_S A s.heap H locs → lv_has ls 8 [(5, .int p48_5), (0, .ref a0), (1, .int x1), (2, .int x2), (3, .int x3), (4, .int x4)] → W p l e { frames := 9, cells := 0, slots := 0, locals := 233 } s m [.ref a0, .int x1, .int x2, .int x3, .int x4].toArray below meth c H locs 0 0 (MQ below (Tv D cs (fun u => u = (T, O, X)) A) [.ref a0, .int x1, .int x2, .int x3, .int x4].toArray s 0 0 A) (F0 m 161 ls []) := by
                intro  H locs ls  hH hS hl
                obtain ⟨v161, ev161⟩ : ∃ y : Int32, y = p48_5 + 1 := ⟨_, rfl⟩
                have tv161 : v161.toInt = p48_5.toInt + (1) := by rw [ev161]; exact add_i rfl (by decide) (by omega) (by omega)
                refine lv_iinc (v := v161) (lv' := [(5, .int v161), (0, .ref a0), (1, .int x1), (2, .int x2), (3, .int x3), (4, .int x4)]) hx hb dX11_takeTurns_161 hl (k := 0) rfl (by rw [ev161]; rfl) (by decide) rfl (fun ls hl => ?_)
                refine lv_goto (tgt := 48) hx hb dX11_takeTurns_164 (by decide) ?_
                exact ih48 _ (by omega) v161 _ _ _ rfl (by omega) (by omega) hH hS (lv_sub hl [0, 1, 2, 3, 4, 5] rfl)
              refine lv_if_eq (tgt := 161) hx hb dX11_takeTurns_66 (by decide) (fun c66 => ?_) (fun c66 => ?_)
              · skip
                have tc66 := f_eq (k := 0) (by decide) c66
                exact J161  _ _ _  hH hS (lv_sub hl [0, 1, 2, 3, 4, 5] rfl)
              · skip
                have tc66 := f_ne (k := 0) (by decide) c66
                refine lv_aload_n hx hb dX11_takeTurns_69 rfl (lv_at hl 1 rfl) ?_
                refine t_get (ci := 11) (lst := ft11 w ch) (C := RX11) (F := TX11) (N := 20) hx hb hts uX11 hown hkb hH t_a0 (hO.no t_a0 (by decide)) (fun _ h9 => h9) rfl rfl 17 (by decide) rfl kw_377 (fun _ h9 => h9) dX11_takeTurns_70 (fun v9 h9 => ?_)
                obtain ⟨v70, rfl, t_v70⟩ := h9
                refine lv_iload_n hx hb dX11_takeTurns_73 rfl (lv_at hl 2 rfl) ?_
                refine lv_iload hx hb dX11_takeTurns_74 (lv_at hl 0 rfl) ?_
                refine t_ist hx hb hkb hH hS t_v70 (hO.no t_v70 (by decide)) (by omega) (by omega) (cp_0 _) dX11_takeTurns_76 (fun H locs hH hS => ?_)
                refine lv_aload_n hx hb dX11_takeTurns_77 rfl (lv_at hl 1 rfl) ?_
                refine t_get (ci := 11) (lst := ft11 w ch) (C := RX11) (F := TX11) (N := 20) hx hb hts uX11 hown hkb hH t_a0 (hO.no t_a0 (by decide)) (fun _ h9 => h9) rfl rfl 14 (by decide) rfl kw_374 (fun _ h9 => h9) dX11_takeTurns_78 (fun v9 h9 => ?_)
                obtain ⟨v78, rfl, t_v78⟩ := h9
                refine lv_aload_n hx hb dX11_takeTurns_81 rfl (lv_at hl 1 rfl) ?_
                refine lv_iload hx hb dX11_takeTurns_82 (lv_at hl 0 rfl) ?_
                refine tk_r hH hS hA (tr_V (n := 1) (As := [.int p48_5]) hx hb hml hown hts hkb hH hOX hks hE hS hA (s_FW_rowsOf l D cs kf T O X a0 w hw gw ch gq p48_5 t_a0 t_w t_ch (by omega) (by omega) (hO.sub (by decide))) kw_830 kw_832 ks_21 kw_1 kw_833 (by decide +kernel) ⟨Nat.le_of_ble_eq_true rfl, Nat.le_of_ble_eq_true rfl⟩ (HT.recv (ci := 11) hkb hH t_a0 (hO.no t_a0 (by decide)) rfl) rfl rfl hl.1 (Nat.le_of_ble_eq_true rfl) dX11_takeTurns_84 ⟨Nat.le_of_ble_eq_true rfl, Nat.le_of_ble_eq_true rfl⟩) (fun v84 u H locs hz9 hH hS => ?_)
                obtain ⟨hu9, t_v84⟩ := hz9
                have hu9 : u = (T, O, X) := hu9
                subst hu9
                have hH : HT D cs A T O X H := hH
                refine W.widen (k := 0) (n := 0) (Nat.le_of_ble_eq_true rfl) (Nat.le_of_ble_eq_true rfl) ?_
                refine lv_iload_n hx hb dX11_takeTurns_87 rfl (lv_at hl 4 rfl) ?_
                refine tk_i hH hS hA (tr_V (n := 2) (As := [.ref v84, .int x3]) hx hb hml hown hts hkb hH hOX hks hE hS hA (s_Ways_find l D cs kf T O X v78 v84 x3 t_v78 t_v84 (hO.sub (by decide))) kw_912 kw_913 kw_914 kw_9 kw_915 (by decide +kernel) ⟨Nat.le_of_ble_eq_true rfl, Nat.le_of_ble_eq_true rfl⟩ (HT.recv (ci := 10) hkb hH t_v78 (hO.no t_v78 (by decide)) rfl) rfl rfl hl.1 (Nat.le_of_ble_eq_true rfl) dX11_takeTurns_88 ⟨Nat.le_of_ble_eq_true rfl, Nat.le_of_ble_eq_true rfl⟩) (fun v88 u H locs hz9 hH hS => ?_)
                obtain ⟨rfl, l_v88, u_v88⟩ := hz9
                have hH : HT D cs A T O X H := hH
                refine W.widen (k := 0) (n := 0) (Nat.le_of_ble_eq_true rfl) (Nat.le_of_ble_eq_true rfl) ?_
                have J99 : ∀ (k99_0 : Int32) (H : Heap) (locs : List Loc) (ls : Array Slot), (0 ≤ k99_0.toInt) → (k99_0.toInt ≤ 1) → HT D cs A T O X H → va_S A s.heap H locs → lv_has ls 8 [(5, .int p48_5), (0, .ref a0), (1, .int x1), (2, .int x2), (3, .int x3), (4, .int x4)] → W p l e { frames := 9, cells := 0, slots := 0, locals := 233 } s m [.ref a0, .int x1, .int x2, .int x3, .int x4].toArray below meth c H locs 0 0 (MQ below (Tv D cs (fun u => u = (T, O, X)) A) [.ref a0, .int x1, .int x2, .int x3, .int x4].toArray s 0 0 A) (F0 m 99 ls [.int k99_0]) := by
                  intro k99_0 H locs ls l_k99_0 u_k99_0 hH hS hl
                  refine lv_istore (lv' := [(6, .int k99_0), (5, .int p48_5), (0, .ref a0), (1, .int x1), (2, .int x2), (3, .int x3), (4, .int x4)]) hx hb dX11_takeTurns_99 hl (by decide) rfl (fun ls hl => ?_)
                  refine lv_iload hx hb dX11_takeTurns_101 (lv_at hl 0 rfl) ?_
                  have J129 : ∀ (k129_0 : Int32) (H : Heap) (locs : List Loc) (ls : Array Slot), HT D cs A T O X H → va_S A s.heap H locs → lv_has ls 8 [(6, .int k99_0), (5, .int p48_5), (0, .ref a0), (1, .int x1), (2, .int x2), (3, .int x3), (4, .int x4)] → W p l e { frames := 9, cells := 0, slots := 0, locals := 233 } s m [.ref a0, .int x1, .int x2, .int x3, .int x4].toArray below meth c H locs 0 0 (MQ below (Tv D cs (fun u => u = (T, O, X)) A) [.ref a0, .int x1, .int x2, .int x3, .int x4].toArray s 0 0 A) (F0 m 129 ls [.int k129_0]) := by
                    intro k129_0 H locs ls  hH hS hl
                    refine lv_istore (lv' := [(7, .int k129_0), (6, .int k99_0), (5, .int p48_5), (0, .ref a0), (1, .int x1), (2, .int x2), (3, .int x3), (4, .int x4)]) hx hb dX11_takeTurns_129 hl (by decide) rfl (fun ls hl => ?_)
                    refine lv_aload_n hx hb dX11_takeTurns_131 rfl (lv_at hl 3 rfl) ?_
                    refine lv_iload_n hx hb dX11_takeTurns_132 rfl (lv_at hl 4 rfl) ?_
                    refine lv_iconst (v := 1) hx hb dX11_takeTurns_133 (by decide) ?_
                    refine lv_iadd hx hb dX11_takeTurns_134 ?_
                    refine lv_topi (fun v134 ev134 => ?_)
                    have tv134 : v134.toInt = x1.toInt + (1) := by rw [ev134]; exact add_i rfl (by decide : (1 : Int32).toInt = 1) (by omega) (by omega)
                    refine lv_iload_n hx hb dX11_takeTurns_135 rfl (lv_at hl 5 rfl) ?_
                    refine lv_iconst (v := 1) hx hb dX11_takeTurns_136 (by decide) ?_
                    refine lv_iload hx hb dX11_takeTurns_137 (lv_at hl 2 rfl) ?_
                    refine lv_ishl hx hb dX11_takeTurns_139 ?_
                    refine lv_topi (fun v139 ev139 => ?_)
                    have tv139 : 1 ≤ v139.toInt ∧ v139.toInt ≤ 16 := by rw [ev139]; exact shl_b 4 (by decide) (by omega) (by omega)
                    refine lv_iconst (v := (-1)) hx hb dX11_takeTurns_140 (by decide) ?_
                    refine lv_ixor hx hb dX11_takeTurns_141 ?_
                    refine lv_topi (fun v141 ev141 => ?_)
                    refine lv_iand hx hb dX11_takeTurns_142 ?_
                    refine lv_topi (fun v142 ev142 => ?_)
                    refine lv_iload hx hb dX11_takeTurns_143 (lv_at hl 0 rfl) ?_
                    refine lv_iload hx hb dX11_takeTurns_145 (lv_at hl 7 rfl) ?_
                    refine lv_iload hx hb dX11_takeTurns_147 (lv_at hl 1 rfl) ?_
                    have J157 : ∀ (k157_0 : Int32) (H : Heap) (locs : List Loc) (ls : Array Slot), (0 ≤ k157_0.toInt) → (k157_0.toInt ≤ 1) → HT D cs A T O X H → va_S A s.heap H locs → lv_has ls 8 [(5, .int p48_5), (0, .ref a0), (1, .int x1), (2, .int x2), (3, .int x3), (4, .int x4)] → W p l e { frames := 9, cells := 0, slots := 0, locals := 233 } s m [.ref a0, .int x1, .int x2, .int x3, .int x4].toArray below meth c H locs 0 0 (MQ below (Tv D cs (fun u => u = (T, O, X)) A) [.ref a0, .int x1, .int x2, .int x3, .int x4].toArray s 0 0 A) (F0 m 157 ls [.int k157_0, .int x4, .int k129_0, .int v142, .int v134, .ref a0]) := by
                      intro k157_0 H locs ls l_k157_0 u_k157_0 hH hS hl
                      refine lv_iadd hx hb dX11_takeTurns_157 ?_
                      refine lv_topi (fun v157 ev157 => ?_)
                      refine tk_v hH hS hA (tr_V (n := 4) (As := [.int v134, .int v142, .int k129_0, .int v157]) hx hb hml hown hts hkb hH hOX hks hE hS hA (s_FW_takeTurns2 l D cs kf T O X a0 w hw gw ch gq v134 v142 k129_0 v157 t_a0 t_w t_ch (by omega) (by omega) (hO.sub (by decide))) kw_1168 kw_1170 ks_42 kw_1 kw_1171 (by decide +kernel) ⟨Nat.le_of_ble_eq_true rfl, Nat.le_of_ble_eq_true rfl⟩ (HT.recv (ci := 11) hkb hH t_a0 (hO.no t_a0 (by decide)) rfl) rfl rfl hl.1 (Nat.le_of_ble_eq_true rfl) dX11_takeTurns_158 ⟨Nat.le_of_ble_eq_true rfl, Nat.le_of_ble_eq_true rfl⟩) (fun u H locs hz9 hH hS => ?_)
                      have hz9 : u = (T, O, X) := hz9
                      subst hz9
                      have hH : HT D cs A T O X H := hH
                      refine W.widen (k := 0) (n := 0) (Nat.le_of_ble_eq_true rfl) (Nat.le_of_ble_eq_true rfl) ?_
                      exact J161  _ _ _  hH hS (lv_sub hl [0, 1, 2, 3, 4, 5] rfl)
                    refine lv_if_eq (tgt := 156) hx hb dX11_takeTurns_149 (by decide) (fun c149 => ?_) (fun c149 => ?_)
                    · skip
                      have tc149 := f_eq (k := 0) (by decide) c149
                      refine lv_iconst (v := 0) hx hb dX11_takeTurns_156 (by decide) ?_
                      exact J157 0 _ _ _ (by decide) (by decide) hH hS (lv_sub hl [2, 3, 4, 5, 6, 7] rfl)
                    · skip
                      have tc149 := f_ne (k := 0) (by decide) c149
                      refine lv_iconst (v := 1) hx hb dX11_takeTurns_152 (by decide) ?_
                      refine lv_goto (tgt := 157) hx hb dX11_takeTurns_153 (by decide) ?_
                      exact J157 1 _ _ _ (by decide) (by decide) hH hS (lv_sub hl [2, 3, 4, 5, 6, 7] rfl)
                  refine lv_if_eq (tgt := 128) hx hb dX11_takeTurns_103 (by decide) (fun c103 => ?_) (fun c103 => ?_)
                  · skip
                    have tc103 := f_eq (k := 0) (by decide) c103
                    refine lv_iload_n hx hb dX11_takeTurns_128 rfl (lv_at hl 5 rfl) ?_
                    exact J129 x3 _ _ _  hH hS (lv_sub hl [0, 1, 2, 3, 4, 5, 6] rfl)
                  · skip
                    have tc103 := f_ne (k := 0) (by decide) c103
                    refine lv_iload_n hx hb dX11_takeTurns_106 rfl (lv_at hl 5 rfl) ?_
                    refine lv_aload_n hx hb dX11_takeTurns_107 rfl (lv_at hl 2 rfl) ?_
                    refine t_get (ci := 11) (lst := ft11 w ch) (C := RX11) (F := TX11) (N := 20) hx hb hts uX11 hown hkb hH t_a0 (hO.no t_a0 (by decide)) (fun _ h9 => h9) rfl rfl 14 (by decide) rfl kw_374 (fun _ h9 => h9) dX11_takeTurns_108 (fun v9 h9 => ?_)
                    obtain ⟨v108, rfl, t_v108⟩ := h9
                    refine tk_i hH hS hA (tr_V (n := 0) (As := []) hx hb hml hown hts hkb hH hOX hks hE hS hA (s_Ways_pathSet l D cs kf T O X v108 t_v108 (hO.sub (by decide))) kw_926 kw_927 kw_928 kw_9 kw_929 (by decide +kernel) ⟨Nat.le_of_ble_eq_true rfl, Nat.le_of_ble_eq_true rfl⟩ (HT.recv (ci := 10) hkb hH t_v108 (hO.no t_v108 (by decide)) rfl) rfl rfl hl.1 (Nat.le_of_ble_eq_true rfl) dX11_takeTurns_111 ⟨Nat.le_of_ble_eq_true rfl, Nat.le_of_ble_eq_true rfl⟩) (fun v111 u H locs hz9 hH hS => ?_)
                    have hz9 : u = (T, O, X) := hz9
                    subst hz9
                    have hH : HT D cs A T O X H := hH
                    refine W.widen (k := 0) (n := 0) (Nat.le_of_ble_eq_true rfl) (Nat.le_of_ble_eq_true rfl) ?_
                    refine lv_aload_n hx hb dX11_takeTurns_114 rfl (lv_at hl 2 rfl) ?_
                    refine t_get (ci := 11) (lst := ft11 w ch) (C := RX11) (F := TX11) (N := 20) hx hb hts uX11 hown hkb hH t_a0 (hO.no t_a0 (by decide)) (fun _ h9 => h9) rfl rfl 3 (by decide) rfl kw_363 (fun _ h9 => h9) dX11_takeTurns_115 (fun v9 h9 => ?_)
                    have h9 : v9 = .ref w := h9
                    subst h9
                    refine tk_i hH hS hA (tr_V (n := 0) (As := []) hx hb hml hown hts hkb hH hOX hks hE hS hA (s_Wall_middles l D cs kf T O X w hw gw t_w (hO.sub (by decide))) kw_892 kw_683 kw_684 kw_5 kw_685 (by decide +kernel) ⟨Nat.le_of_ble_eq_true rfl, Nat.le_of_ble_eq_true rfl⟩ (HT.recv (ci := 9) hkb hH t_w.1 (hO.no t_w.1 (by decide)) rfl) rfl rfl hl.1 (Nat.le_of_ble_eq_true rfl) dX11_takeTurns_118 ⟨Nat.le_of_ble_eq_true rfl, Nat.le_of_ble_eq_true rfl⟩) (fun v118 u H locs hz9 hH hS => ?_)
                    obtain ⟨rfl, l_v118, u_v118⟩ := hz9
                    have hH : HT D cs A T O X H := hH
                    refine W.widen (k := 0) (n := 0) (Nat.le_of_ble_eq_true rfl) (Nat.le_of_ble_eq_true rfl) ?_
                    refine lv_iand hx hb dX11_takeTurns_121 ?_
                    refine lv_topi (fun v121 ev121 => ?_)
                    have tv121 : 0 ≤ v121.toInt ∧ v121.toInt ≤ v118.toInt := by rw [ev121]; exact and_r (by omega)
                    refine lv_iconst (v := (-1)) hx hb dX11_takeTurns_122 (by decide) ?_
                    refine lv_ixor hx hb dX11_takeTurns_123 ?_
                    refine lv_topi (fun v123 ev123 => ?_)
                    refine lv_iand hx hb dX11_takeTurns_124 ?_
                    refine lv_topi (fun v124 ev124 => ?_)
                    refine lv_goto (tgt := 129) hx hb dX11_takeTurns_125 (by decide) ?_
                    exact J129 v124 _ _ _  hH hS (lv_sub hl [0, 1, 2, 3, 4, 5, 6] rfl)
                refine lv_if_le (tgt := 98) hx hb dX11_takeTurns_91 (by decide) (fun c91 => ?_) (fun c91 => ?_)
                · skip
                  have tc91 := f_le (k := 0) (by decide) c91
                  refine lv_iconst (v := 0) hx hb dX11_takeTurns_98 (by decide) ?_
                  exact J99 0 _ _ _ (by decide) (by decide) hH hS (lv_sub hl [0, 1, 2, 3, 4, 5] rfl)
                · skip
                  have tc91 := f_nle (k := 0) (by decide) c91
                  refine lv_iconst (v := 1) hx hb dX11_takeTurns_94 (by decide) ?_
                  refine lv_goto (tgt := 99) hx hb dX11_takeTurns_95 (by decide) ?_
                  exact J99 1 _ _ _ (by decide) (by decide) hH hS (lv_sub hl [0, 1, 2, 3, 4, 5] rfl)
        refine lv_istore (lv' := [(5, .int 0), (0, .ref a0), (1, .int x1), (2, .int x2), (3, .int x3), (4, .int x4)]) hx hb dX11_takeTurns_46 hl (by decide) rfl (fun ls hl => ?_)
        exact J48 _ 0 _ _ _ rfl (by decide) (by decide) hH hS (lv_sub hl [0, 1, 2, 3, 4, 5] rfl)
      · skip
        have tc21 := f_nlt (k := 5) (by decide) c21
        exfalso; omega
  · skip
    have fuc11 := full_i v6
    have fvc11 := full_i v8
    have tc11 := g_nlt c11
    exact te_v hx hb hr hlocks hH hS rfl dX11_takeTurns_14
set_option maxHeartbeats 4000000 in
set_option maxRecDepth 100000 in
theorem s_FW_takeTurns0 (l : Launch) (D : va_G) (cs : CS) (kf : KF) (T : TF) (O : List Nat) (X : va_W) (a0 w hw gw ch gq : Nat) (x1 : Int32) (x2 : Int32) (x3 : Int32) (x4 : Int32) (t_a0 : T a0 = some (21, w, ch)) (t_w : isW T w hw gw) (t_ch : T ch = some (10, gq, 0)) (l_x1 : 0 ≤ x1.toInt) (u_x1 : x1.toInt ≤ 0) (hO : okO T O [1, 7, 12, 15, 16, 19, 20, 21]) : TK l D cs kf yX11_takeTurns cX11_takeTurns 8 none { frames := 10, cells := 0, slots := 0, locals := 260 } [.ref a0, .int x1, .int x2, .int x3, .int x4] T O X (Tv D cs (fun u => u = (T, O, X))) := by
  refine tk_of (by decide) (Nat.le_of_ble_eq_true rfl) (fun p e s m below meth c ls A H locs hx hb hr hml hown hts hlocks hnm hkb hH hS hA hOX hks hE hl => ?_)
  have hown : s.vm.findClass RX11 = some m.cls := hown
  have hl : lv_has ls 8 [(0, .ref a0), (1, .int x1), (2, .int x2), (3, .int x3), (4, .int x4)] := hl
  have b1_w := t_w.2.1
  have b2_w := t_w.2.2
  refine lv_iload hx hb dX11_takeTurns_0 (lv_at hl 4 rfl) ?_
  refine lv_iload_n hx hb dX11_takeTurns_2 rfl (lv_at hl 2 rfl) ?_
  refine tk_i hH hS hA (tr_S (n := 1) (As := [.int x2]) hx hb hml hown hts hkb hH hOX hks hE hS hA (s_bitCount l D cs kf T O X x2  (hO.sub (by decide))) kw_893 kw_692 kw_20 kw_693 (by decide +kernel) ⟨Nat.le_of_ble_eq_true rfl, Nat.le_of_ble_eq_true rfl⟩ rfl rfl hl.1 (Nat.le_of_ble_eq_true rfl) dX11_takeTurns_3 ⟨Nat.le_of_ble_eq_true rfl, Nat.le_of_ble_eq_true rfl⟩) (fun v3 u H locs hz9 hH hS => ?_)
  obtain ⟨rfl, l_v3, u_v3⟩ := hz9
  have hH : HT D cs A T O X H := hH
  refine W.widen (k := 0) (n := 0) (Nat.le_of_ble_eq_true rfl) (Nat.le_of_ble_eq_true rfl) ?_
  refine lv_iadd hx hb dX11_takeTurns_6 ?_
  refine lv_topi (fun v6 ev6 => ?_)
  refine lv_aload_n hx hb dX11_takeTurns_7 rfl (lv_at hl 0 rfl) ?_
  refine t_get (ci := 11) (lst := ft11 w ch) (C := RX11) (F := TX11) (N := 20) hx hb hts uX11 hown hkb hH t_a0 (hO.no t_a0 (by decide)) (fun _ h9 => h9) rfl rfl 19 (by decide) rfl kw_379 (fun _ h9 => h9) dX11_takeTurns_8 (fun v9 h9 => ?_)
  obtain ⟨v8, rfl⟩ := h9
  refine lv_icmp_gt (tgt := 15) hx hb dX11_takeTurns_11 (by decide) (fun c11 => ?_) (fun c11 => ?_)
  · skip
    have fuc11 := full_i v6
    have fvc11 := full_i v8
    have tc11 := g_lt c11
    refine lv_iload_n hx hb dX11_takeTurns_15 rfl (lv_at hl 2 rfl) ?_
    refine lv_if_eq (tgt := 24) hx hb dX11_takeTurns_16 (by decide) (fun c16 => ?_) (fun c16 => ?_)
    · skip
      have tc16 := f_eq (k := 0) (by decide) c16
      refine lv_aload_n hx hb dX11_takeTurns_24 rfl (lv_at hl 0 rfl) ?_
      refine lv_iload hx hb dX11_takeTurns_25 (lv_at hl 4 rfl) ?_
      refine t_put (ci := 11) (lst := ft11 w ch) (v := .int x4) (ty := tyX11 19) (C := RX11) (F := TX11) (N := 20) hx hb hts uX11 tyX11 tyX11_ok nmX11 hown hkb hH hS t_a0 (hO.no t_a0 (by decide)) (fun _ => Iff.rfl) rfl rfl 19 (by decide) rfl (⟨_, rfl⟩) kw_379 (fun _ h9 => h9) rfl (tyX11_ok 19 (by decide)) rfl rfl dX11_takeTurns_27 (fun H locs hH hS => ?_)
      refine lv_aload_n hx hb dX11_takeTurns_30 rfl (lv_at hl 0 rfl) ?_
      refine t_get (ci := 11) (lst := ft11 w ch) (C := RX11) (F := TX11) (N := 20) hx hb hts uX11 hown hkb hH t_a0 (hO.no t_a0 (by decide)) (fun _ h9 => h9) rfl rfl 17 (by decide) rfl kw_377 (fun _ h9 => h9) dX11_takeTurns_31 (fun v9 h9 => ?_)
      obtain ⟨v31, rfl, t_v31⟩ := h9
      refine lv_iconst (v := 0) hx hb dX11_takeTurns_34 (by decide) ?_
      refine lv_aload_n hx hb dX11_takeTurns_35 rfl (lv_at hl 0 rfl) ?_
      refine t_get (ci := 11) (lst := ft11 w ch) (C := RX11) (F := TX11) (N := 20) hx hb hts uX11 hown hkb hH t_a0 (hO.no t_a0 (by decide)) (fun _ h9 => h9) rfl rfl 18 (by decide) rfl kw_378 (fun _ h9 => h9) dX11_takeTurns_36 (fun v9 h9 => ?_)
      obtain ⟨v36, rfl, t_v36⟩ := h9
      refine lv_iconst (v := 0) hx hb dX11_takeTurns_39 (by decide) ?_
      refine lv_iconst (v := 5) hx hb dX11_takeTurns_40 (by decide) ?_
      refine t_copy hx hb (by rw [hml]; exact hl.1.symm) hown (hts _ kw_1172) (hts _ kw_734) (hts _ kw_733) (hts _ kw_23) hkb hH hS t_v31 (hO.no t_v31 (by decide)) t_v36 (hO.no t_v36 (by decide)) (by decide) (by decide) (by decide) (by decide) (by decide) (Nat.le_of_ble_eq_true rfl) (Nat.le_of_ble_eq_true rfl) dX11_takeTurns_41 (fun H locs hH hS => ?_)
      exact te_v hx hb hr hlocks hH hS rfl dX11_takeTurns_44
    · skip
      have tc16 := f_ne (k := 0) (by decide) c16
      refine lv_iload_n hx hb dX11_takeTurns_19 rfl (lv_at hl 1 rfl) ?_
      refine lv_iconst (v := 5) hx hb dX11_takeTurns_20 (by decide) ?_
      refine lv_icmp_lt (tgt := 45) hx hb dX11_takeTurns_21 (by decide) (fun c21 => ?_) (fun c21 => ?_)
      · skip
        have tc21 := f_lt (k := 5) (by decide) c21
        refine lv_iconst (v := 0) hx hb dX11_takeTurns_45 (by decide) ?_
        have J48 : ∀ (n : Nat) (p48_5 : Int32) (H : Heap) (locs : List Loc) (ls : Array Slot), (5 - p48_5.toInt).toNat = n → (0 ≤ p48_5.toInt) → (p48_5.toInt ≤ 5) → HT D cs A T O X H → va_S A s.heap H locs → lv_has ls 8 [(5, .int p48_5), (0, .ref a0), (1, .int x1), (2, .int x2), (3, .int x3), (4, .int x4)] → W p l e { frames := 10, cells := 0, slots := 0, locals := 260 } s m [.ref a0, .int x1, .int x2, .int x3, .int x4].toArray below meth c H locs 0 0 (MQ below (Tv D cs (fun u => u = (T, O, X)) A) [.ref a0, .int x1, .int x2, .int x3, .int x4].toArray s 0 0 A) (F0 m 48 ls []) := by
          intro n
          induction n using Nat.strongRecOn with
          | _ n ih48 =>
            intro p48_5 H locs ls hm48 l_p48_5 u_p48_5 hH hS hl
            refine lv_iload hx hb dX11_takeTurns_48 (lv_at hl 0 rfl) ?_
            refine lv_aload_n hx hb dX11_takeTurns_50 rfl (lv_at hl 1 rfl) ?_
            refine t_get (ci := 11) (lst := ft11 w ch) (C := RX11) (F := TX11) (N := 20) hx hb hts uX11 hown hkb hH t_a0 (hO.no t_a0 (by decide)) (fun _ h9 => h9) rfl rfl 3 (by decide) rfl kw_363 (fun _ h9 => h9) dX11_takeTurns_51 (fun v9 h9 => ?_)
            have h9 : v9 = .ref w := h9
            subst h9
            refine t_get (ci := 9) (lst := ft9w hw gw) (C := RX9) (F := TX9) (N := 14) hx hb hts uX9 hown hkb hH t_w.1 (hO.no t_w.1 (by decide)) (fun fs => (ob9w t_w fs).mp) rfl rfl 1 (by decide) rfl kw_112 (fun _ h9 => h9) dX11_takeTurns_54 (fun v9 h9 => ?_)
            have h9 : v9 = .int (nI gw) := h9
            subst h9
            have e_gw : (nI gw).toInt = gw := nI_toInt (by have := t_w.2.2; omega)
            have b_gw := t_w.2.2
            refine lv_icmp_ge (tgt := 167) hx hb dX11_takeTurns_57 (by decide) (fun c57 => ?_) (fun c57 => ?_)
            · skip
              have fuc57 := full_i p48_5
              have fvc57 := full_i (nI gw)
              have tc57 := g_le c57
              exact te_v hx hb hr hlocks hH hS rfl dX11_takeTurns_167
            · skip
              have fuc57 := full_i p48_5
              have fvc57 := full_i (nI gw)
              have tc57 := g_nle c57
              refine lv_iload_n hx hb dX11_takeTurns_60 rfl (lv_at hl 3 rfl) ?_
              refine lv_iload hx hb dX11_takeTurns_61 (lv_at hl 0 rfl) ?_
              refine lv_ishr hx hb dX11_takeTurns_63 ?_
              refine lv_topi (fun v63 ev63 => ?_)
              refine lv_iconst (v := 1) hx hb dX11_takeTurns_64 (by decide) ?_
              refine lv_iand hx hb dX11_takeTurns_65 ?_
              refine lv_topi (fun v65 ev65 => ?_)
              have tv65 : 0 ≤ v65.toInt ∧ v65.toInt ≤ 1 := by rw [ev65]; exact and_r (by decide)
              have J161 : ∀  (H : Heap) (locs : List Loc) (ls : Array Slot), HT D cs A T O X H → va_S A s.heap H locs → lv_has ls 8 [(5, .int p48_5), (0, .ref a0), (1, .int x1), (2, .int x2), (3, .int x3), (4, .int x4)] → W p l e { frames := 10, cells := 0, slots := 0, locals := 260 } s m [.ref a0, .int x1, .int x2, .int x3, .int x4].toArray below meth c H locs 0 0 (MQ below (Tv D cs (fun u => u = (T, O, X)) A) [.ref a0, .int x1, .int x2, .int x3, .int x4].toArray s 0 0 A) (F0 m 161 ls []) := by
                intro  H locs ls  hH hS hl
                obtain ⟨v161, ev161⟩ : ∃ y : Int32, y = p48_5 + 1 := ⟨_, rfl⟩
                have tv161 : v161.toInt = p48_5.toInt + (1) := by rw [ev161]; exact add_i rfl (by decide) (by omega) (by omega)
                refine lv_iinc (v := v161) (lv' := [(5, .int v161), (0, .ref a0), (1, .int x1), (2, .int x2), (3, .int x3), (4, .int x4)]) hx hb dX11_takeTurns_161 hl (k := 0) rfl (by rw [ev161]; rfl) (by decide) rfl (fun ls hl => ?_)
                refine lv_goto (tgt := 48) hx hb dX11_takeTurns_164 (by decide) ?_
                exact ih48 _ (by omega) v161 _ _ _ rfl (by omega) (by omega) hH hS (lv_sub hl [0, 1, 2, 3, 4, 5] rfl)
              refine lv_if_eq (tgt := 161) hx hb dX11_takeTurns_66 (by decide) (fun c66 => ?_) (fun c66 => ?_)
              · skip
                have tc66 := f_eq (k := 0) (by decide) c66
                exact J161  _ _ _  hH hS (lv_sub hl [0, 1, 2, 3, 4, 5] rfl)
              · skip
                have tc66 := f_ne (k := 0) (by decide) c66
                refine lv_aload_n hx hb dX11_takeTurns_69 rfl (lv_at hl 1 rfl) ?_
                refine t_get (ci := 11) (lst := ft11 w ch) (C := RX11) (F := TX11) (N := 20) hx hb hts uX11 hown hkb hH t_a0 (hO.no t_a0 (by decide)) (fun _ h9 => h9) rfl rfl 17 (by decide) rfl kw_377 (fun _ h9 => h9) dX11_takeTurns_70 (fun v9 h9 => ?_)
                obtain ⟨v70, rfl, t_v70⟩ := h9
                refine lv_iload_n hx hb dX11_takeTurns_73 rfl (lv_at hl 2 rfl) ?_
                refine lv_iload hx hb dX11_takeTurns_74 (lv_at hl 0 rfl) ?_
                refine t_ist hx hb hkb hH hS t_v70 (hO.no t_v70 (by decide)) (by omega) (by omega) (cp_0 _) dX11_takeTurns_76 (fun H locs hH hS => ?_)
                refine lv_aload_n hx hb dX11_takeTurns_77 rfl (lv_at hl 1 rfl) ?_
                refine t_get (ci := 11) (lst := ft11 w ch) (C := RX11) (F := TX11) (N := 20) hx hb hts uX11 hown hkb hH t_a0 (hO.no t_a0 (by decide)) (fun _ h9 => h9) rfl rfl 14 (by decide) rfl kw_374 (fun _ h9 => h9) dX11_takeTurns_78 (fun v9 h9 => ?_)
                obtain ⟨v78, rfl, t_v78⟩ := h9
                refine lv_aload_n hx hb dX11_takeTurns_81 rfl (lv_at hl 1 rfl) ?_
                refine lv_iload hx hb dX11_takeTurns_82 (lv_at hl 0 rfl) ?_
                refine tk_r hH hS hA (tr_V (n := 1) (As := [.int p48_5]) hx hb hml hown hts hkb hH hOX hks hE hS hA (s_FW_rowsOf l D cs kf T O X a0 w hw gw ch gq p48_5 t_a0 t_w t_ch (by omega) (by omega) (hO.sub (by decide))) kw_830 kw_832 ks_21 kw_1 kw_833 (by decide +kernel) ⟨Nat.le_of_ble_eq_true rfl, Nat.le_of_ble_eq_true rfl⟩ (HT.recv (ci := 11) hkb hH t_a0 (hO.no t_a0 (by decide)) rfl) rfl rfl hl.1 (Nat.le_of_ble_eq_true rfl) dX11_takeTurns_84 ⟨Nat.le_of_ble_eq_true rfl, Nat.le_of_ble_eq_true rfl⟩) (fun v84 u H locs hz9 hH hS => ?_)
                obtain ⟨hu9, t_v84⟩ := hz9
                have hu9 : u = (T, O, X) := hu9
                subst hu9
                have hH : HT D cs A T O X H := hH
                refine W.widen (k := 0) (n := 0) (Nat.le_of_ble_eq_true rfl) (Nat.le_of_ble_eq_true rfl) ?_
                refine lv_iload_n hx hb dX11_takeTurns_87 rfl (lv_at hl 4 rfl) ?_
                refine tk_i hH hS hA (tr_V (n := 2) (As := [.ref v84, .int x3]) hx hb hml hown hts hkb hH hOX hks hE hS hA (s_Ways_find l D cs kf T O X v78 v84 x3 t_v78 t_v84 (hO.sub (by decide))) kw_912 kw_913 kw_914 kw_9 kw_915 (by decide +kernel) ⟨Nat.le_of_ble_eq_true rfl, Nat.le_of_ble_eq_true rfl⟩ (HT.recv (ci := 10) hkb hH t_v78 (hO.no t_v78 (by decide)) rfl) rfl rfl hl.1 (Nat.le_of_ble_eq_true rfl) dX11_takeTurns_88 ⟨Nat.le_of_ble_eq_true rfl, Nat.le_of_ble_eq_true rfl⟩) (fun v88 u H locs hz9 hH hS => ?_)
                obtain ⟨rfl, l_v88, u_v88⟩ := hz9
                have hH : HT D cs A T O X H := hH
                refine W.widen (k := 0) (n := 0) (Nat.le_of_ble_eq_true rfl) (Nat.le_of_ble_eq_true rfl) ?_
                have J99 : ∀ (k99_0 : Int32) (H : Heap) (locs : List Loc) (ls : Array Slot), (0 ≤ k99_0.toInt) → (k99_0.toInt ≤ 1) → HT D cs A T O X H → va_S A s.heap H locs → lv_has ls 8 [(5, .int p48_5), (0, .ref a0), (1, .int x1), (2, .int x2), (3, .int x3), (4, .int x4)] → W p l e { frames := 10, cells := 0, slots := 0, locals := 260 } s m [.ref a0, .int x1, .int x2, .int x3, .int x4].toArray below meth c H locs 0 0 (MQ below (Tv D cs (fun u => u = (T, O, X)) A) [.ref a0, .int x1, .int x2, .int x3, .int x4].toArray s 0 0 A) (F0 m 99 ls [.int k99_0]) := by
                  intro k99_0 H locs ls l_k99_0 u_k99_0 hH hS hl
                  refine lv_istore (lv' := [(6, .int k99_0), (5, .int p48_5), (0, .ref a0), (1, .int x1), (2, .int x2), (3, .int x3), (4, .int x4)]) hx hb dX11_takeTurns_99 hl (by decide) rfl (fun ls hl => ?_)
                  refine lv_iload hx hb dX11_takeTurns_101 (lv_at hl 0 rfl) ?_
                  have J129 : ∀ (k129_0 : Int32) (H : Heap) (locs : List Loc) (ls : Array Slot), HT D cs A T O X H → va_S A s.heap H locs → lv_has ls 8 [(6, .int k99_0), (5, .int p48_5), (0, .ref a0), (1, .int x1), (2, .int x2), (3, .int x3), (4, .int x4)] → W p l e { frames := 10, cells := 0, slots := 0, locals := 260 } s m [.ref a0, .int x1, .int x2, .int x3, .int x4].toArray below meth c H locs 0 0 (MQ below (Tv D cs (fun u => u = (T, O, X)) A) [.ref a0, .int x1, .int x2, .int x3, .int x4].toArray s 0 0 A) (F0 m 129 ls [.int k129_0]) := by
                    intro k129_0 H locs ls  hH hS hl
                    refine lv_istore (lv' := [(7, .int k129_0), (6, .int k99_0), (5, .int p48_5), (0, .ref a0), (1, .int x1), (2, .int x2), (3, .int x3), (4, .int x4)]) hx hb dX11_takeTurns_129 hl (by decide) rfl (fun ls hl => ?_)
                    refine lv_aload_n hx hb dX11_takeTurns_131 rfl (lv_at hl 3 rfl) ?_
                    refine lv_iload_n hx hb dX11_takeTurns_132 rfl (lv_at hl 4 rfl) ?_
                    refine lv_iconst (v := 1) hx hb dX11_takeTurns_133 (by decide) ?_
                    refine lv_iadd hx hb dX11_takeTurns_134 ?_
                    refine lv_topi (fun v134 ev134 => ?_)
                    have tv134 : v134.toInt = x1.toInt + (1) := by rw [ev134]; exact add_i rfl (by decide : (1 : Int32).toInt = 1) (by omega) (by omega)
                    refine lv_iload_n hx hb dX11_takeTurns_135 rfl (lv_at hl 5 rfl) ?_
                    refine lv_iconst (v := 1) hx hb dX11_takeTurns_136 (by decide) ?_
                    refine lv_iload hx hb dX11_takeTurns_137 (lv_at hl 2 rfl) ?_
                    refine lv_ishl hx hb dX11_takeTurns_139 ?_
                    refine lv_topi (fun v139 ev139 => ?_)
                    have tv139 : 1 ≤ v139.toInt ∧ v139.toInt ≤ 16 := by rw [ev139]; exact shl_b 4 (by decide) (by omega) (by omega)
                    refine lv_iconst (v := (-1)) hx hb dX11_takeTurns_140 (by decide) ?_
                    refine lv_ixor hx hb dX11_takeTurns_141 ?_
                    refine lv_topi (fun v141 ev141 => ?_)
                    refine lv_iand hx hb dX11_takeTurns_142 ?_
                    refine lv_topi (fun v142 ev142 => ?_)
                    refine lv_iload hx hb dX11_takeTurns_143 (lv_at hl 0 rfl) ?_
                    refine lv_iload hx hb dX11_takeTurns_145 (lv_at hl 7 rfl) ?_
                    refine lv_iload hx hb dX11_takeTurns_147 (lv_at hl 1 rfl) ?_
                    have J157 : ∀ (k157_0 : Int32) (H : Heap) (locs : List Loc) (ls : Array Slot), (0 ≤ k157_0.toInt) → (k157_0.toInt ≤ 1) → HT D cs A T O X H → va_S A s.heap H locs → lv_has ls 8 [(5, .int p48_5), (0, .ref a0), (1, .int x1), (2, .int x2), (3, .int x3), (4, .int x4)] → W p l e { frames := 10, cells := 0, slots := 0, locals := 260 } s m [.ref a0, .int x1, .int x2, .int x3, .int x4].toArray below meth c H locs 0 0 (MQ below (Tv D cs (fun u => u = (T, O, X)) A) [.ref a0, .int x1, .int x2, .int x3, .int x4].toArray s 0 0 A) (F0 m 157 ls [.int k157_0, .int x4, .int k129_0, .int v142, .int v134, .ref a0]) := by
                      intro k157_0 H locs ls l_k157_0 u_k157_0 hH hS hl
                      refine lv_iadd hx hb dX11_takeTurns_157 ?_
                      refine lv_topi (fun v157 ev157 => ?_)
                      refine tk_v hH hS hA (tr_V (n := 4) (As := [.int v134, .int v142, .int k129_0, .int v157]) hx hb hml hown hts hkb hH hOX hks hE hS hA (s_FW_takeTurns1 l D cs kf T O X a0 w hw gw ch gq v134 v142 k129_0 v157 t_a0 t_w t_ch (by omega) (by omega) (hO.sub (by decide))) kw_1168 kw_1170 ks_42 kw_1 kw_1171 (by decide +kernel) ⟨Nat.le_of_ble_eq_true rfl, Nat.le_of_ble_eq_true rfl⟩ (HT.recv (ci := 11) hkb hH t_a0 (hO.no t_a0 (by decide)) rfl) rfl rfl hl.1 (Nat.le_of_ble_eq_true rfl) dX11_takeTurns_158 ⟨Nat.le_of_ble_eq_true rfl, Nat.le_of_ble_eq_true rfl⟩) (fun u H locs hz9 hH hS => ?_)
                      have hz9 : u = (T, O, X) := hz9
                      subst hz9
                      have hH : HT D cs A T O X H := hH
                      refine W.widen (k := 0) (n := 0) (Nat.le_of_ble_eq_true rfl) (Nat.le_of_ble_eq_true rfl) ?_
                      exact J161  _ _ _  hH hS (lv_sub hl [0, 1, 2, 3, 4, 5] rfl)
                    refine lv_if_eq (tgt := 156) hx hb dX11_takeTurns_149 (by decide) (fun c149 => ?_) (fun c149 => ?_)
                    · skip
                      have tc149 := f_eq (k := 0) (by decide) c149
                      refine lv_iconst (v := 0) hx hb dX11_takeTurns_156 (by decide) ?_
                      exact J157 0 _ _ _ (by decide) (by decide) hH hS (lv_sub hl [2, 3, 4, 5, 6, 7] rfl)
                    · skip
                      have tc149 := f_ne (k := 0) (by decide) c149
                      refine lv_iconst (v := 1) hx hb dX11_takeTurns_152 (by decide) ?_
                      refine lv_goto (tgt := 157) hx hb dX11_takeTurns_153 (by decide) ?_
                      exact J157 1 _ _ _ (by decide) (by decide) hH hS (lv_sub hl [2, 3, 4, 5, 6, 7] rfl)
                  refine lv_if_eq (tgt := 128) hx hb dX11_takeTurns_103 (by decide) (fun c103 => ?_) (fun c103 => ?_)
                  · skip
                    have tc103 := f_eq (k := 0) (by decide) c103
                    refine lv_iload_n hx hb dX11_takeTurns_128 rfl (lv_at hl 5 rfl) ?_
                    exact J129 x3 _ _ _  hH hS (lv_sub hl [0, 1, 2, 3, 4, 5, 6] rfl)
                  · skip
                    have tc103 := f_ne (k := 0) (by decide) c103
                    refine lv_iload_n hx hb dX11_takeTurns_106 rfl (lv_at hl 5 rfl) ?_
                    refine lv_aload_n hx hb dX11_takeTurns_107 rfl (lv_at hl 2 rfl) ?_
                    refine t_get (ci := 11) (lst := ft11 w ch) (C := RX11) (F := TX11) (N := 20) hx hb hts uX11 hown hkb hH t_a0 (hO.no t_a0 (by decide)) (fun _ h9 => h9) rfl rfl 14 (by decide) rfl kw_374 (fun _ h9 => h9) dX11_takeTurns_108 (fun v9 h9 => ?_)
                    obtain ⟨v108, rfl, t_v108⟩ := h9
                    refine tk_i hH hS hA (tr_V (n := 0) (As := []) hx hb hml hown hts hkb hH hOX hks hE hS hA (s_Ways_pathSet l D cs kf T O X v108 t_v108 (hO.sub (by decide))) kw_926 kw_927 kw_928 kw_9 kw_929 (by decide +kernel) ⟨Nat.le_of_ble_eq_true rfl, Nat.le_of_ble_eq_true rfl⟩ (HT.recv (ci := 10) hkb hH t_v108 (hO.no t_v108 (by decide)) rfl) rfl rfl hl.1 (Nat.le_of_ble_eq_true rfl) dX11_takeTurns_111 ⟨Nat.le_of_ble_eq_true rfl, Nat.le_of_ble_eq_true rfl⟩) (fun v111 u H locs hz9 hH hS => ?_)
                    have hz9 : u = (T, O, X) := hz9
                    subst hz9
                    have hH : HT D cs A T O X H := hH
                    refine W.widen (k := 0) (n := 0) (Nat.le_of_ble_eq_true rfl) (Nat.le_of_ble_eq_true rfl) ?_
                    refine lv_aload_n hx hb dX11_takeTurns_114 rfl (lv_at hl 2 rfl) ?_
                    refine t_get (ci := 11) (lst := ft11 w ch) (C := RX11) (F := TX11) (N := 20) hx hb hts uX11 hown hkb hH t_a0 (hO.no t_a0 (by decide)) (fun _ h9 => h9) rfl rfl 3 (by decide) rfl kw_363 (fun _ h9 => h9) dX11_takeTurns_115 (fun v9 h9 => ?_)
                    have h9 : v9 = .ref w := h9
                    subst h9
                    refine tk_i hH hS hA (tr_V (n := 0) (As := []) hx hb hml hown hts hkb hH hOX hks hE hS hA (s_Wall_middles l D cs kf T O X w hw gw t_w (hO.sub (by decide))) kw_892 kw_683 kw_684 kw_5 kw_685 (by decide +kernel) ⟨Nat.le_of_ble_eq_true rfl, Nat.le_of_ble_eq_true rfl⟩ (HT.recv (ci := 9) hkb hH t_w.1 (hO.no t_w.1 (by decide)) rfl) rfl rfl hl.1 (Nat.le_of_ble_eq_true rfl) dX11_takeTurns_118 ⟨Nat.le_of_ble_eq_true rfl, Nat.le_of_ble_eq_true rfl⟩) (fun v118 u H locs hz9 hH hS => ?_)
                    obtain ⟨rfl, l_v118, u_v118⟩ := hz9
                    have hH : HT D cs A T O X H := hH
                    refine W.widen (k := 0) (n := 0) (Nat.le_of_ble_eq_true rfl) (Nat.le_of_ble_eq_true rfl) ?_
                    refine lv_iand hx hb dX11_takeTurns_121 ?_
                    refine lv_topi (fun v121 ev121 => ?_)
                    have tv121 : 0 ≤ v121.toInt ∧ v121.toInt ≤ v118.toInt := by rw [ev121]; exact and_r (by omega)
                    refine lv_iconst (v := (-1)) hx hb dX11_takeTurns_122 (by decide) ?_
                    refine lv_ixor hx hb dX11_takeTurns_123 ?_
                    refine lv_topi (fun v123 ev123 => ?_)
                    refine lv_iand hx hb dX11_takeTurns_124 ?_
                    refine lv_topi (fun v124 ev124 => ?_)
                    refine lv_goto (tgt := 129) hx hb dX11_takeTurns_125 (by decide) ?_
                    exact J129 v124 _ _ _  hH hS (lv_sub hl [0, 1, 2, 3, 4, 5, 6] rfl)
                refine lv_if_le (tgt := 98) hx hb dX11_takeTurns_91 (by decide) (fun c91 => ?_) (fun c91 => ?_)
                · skip
                  have tc91 := f_le (k := 0) (by decide) c91
                  refine lv_iconst (v := 0) hx hb dX11_takeTurns_98 (by decide) ?_
                  exact J99 0 _ _ _ (by decide) (by decide) hH hS (lv_sub hl [0, 1, 2, 3, 4, 5] rfl)
                · skip
                  have tc91 := f_nle (k := 0) (by decide) c91
                  refine lv_iconst (v := 1) hx hb dX11_takeTurns_94 (by decide) ?_
                  refine lv_goto (tgt := 99) hx hb dX11_takeTurns_95 (by decide) ?_
                  exact J99 1 _ _ _ (by decide) (by decide) hH hS (lv_sub hl [0, 1, 2, 3, 4, 5] rfl)
        refine lv_istore (lv' := [(5, .int 0), (0, .ref a0), (1, .int x1), (2, .int x2), (3, .int x3), (4, .int x4)]) hx hb dX11_takeTurns_46 hl (by decide) rfl (fun ls hl => ?_)
        exact J48 _ 0 _ _ _ rfl (by decide) (by decide) hH hS (lv_sub hl [0, 1, 2, 3, 4, 5] rfl)
      · skip
        have tc21 := f_nlt (k := 5) (by decide) c21
        exfalso; omega
  · skip
    have fuc11 := full_i v6
    have fvc11 := full_i v8
    have tc11 := g_nlt c11
    exact te_v hx hb hr hlocks hH hS rfl dX11_takeTurns_14
set_option maxHeartbeats 4000000 in
set_option maxRecDepth 100000 in
theorem s_FW_inTurn (l : Launch) (D : va_G) (cs : CS) (kf : KF) (T : TF) (O : List Nat) (X : va_W) (a0 w hw gw ch gq : Nat) (x1 : Int32) (x2 : Int32) (t_a0 : T a0 = some (21, w, ch)) (t_w : isW T w hw gw) (t_ch : T ch = some (10, gq, 0)) (hO : okO T O [1, 7, 12, 15, 16, 19, 20, 21]) : TK l D cs kf yX11_inTurn cX11_inTurn 3 (some (.int)) { frames := 11, cells := 0, slots := 0, locals := 287 } [.ref a0, .int x1, .int x2] T O X (Ti D cs (fun r u => u = (T, O, X))) := by
  refine tk_of (by decide) (Nat.le_of_ble_eq_true rfl) (fun p e s m below meth c ls A H locs hx hb hr hml hown hts hlocks hnm hkb hH hS hA hOX hks hE hl => ?_)
  have hown : s.vm.findClass RX11 = some m.cls := hown
  have hl : lv_has ls 3 [(0, .ref a0), (1, .int x1), (2, .int x2)] := hl
  have b1_w := t_w.2.1
  have b2_w := t_w.2.2
  refine lv_iload_n hx hb dX11_inTurn_0 rfl (lv_at hl 1 rfl) ?_
  refine lv_aload_n hx hb dX11_inTurn_1 rfl (lv_at hl 0 rfl) ?_
  refine t_get (ci := 11) (lst := ft11 w ch) (C := RX11) (F := TX11) (N := 20) hx hb hts uX11 hown hkb hH t_a0 (hO.no t_a0 (by decide)) (fun _ h9 => h9) rfl rfl 3 (by decide) rfl kw_363 (fun _ h9 => h9) dX11_inTurn_2 (fun v9 h9 => ?_)
  have h9 : v9 = .ref w := h9
  subst h9
  refine t_get (ci := 9) (lst := ft9w hw gw) (C := RX9) (F := TX9) (N := 14) hx hb hts uX9 hown hkb hH t_w.1 (hO.no t_w.1 (by decide)) (fun fs => (ob9w t_w fs).mp) rfl rfl 1 (by decide) rfl kw_112 (fun _ h9 => h9) dX11_inTurn_5 (fun v9 h9 => ?_)
  have h9 : v9 = .int (nI gw) := h9
  subst h9
  have e_gw : (nI gw).toInt = gw := nI_toInt (by have := t_w.2.2; omega)
  have b_gw := t_w.2.2
  refine lv_iushr hx hb dX11_inTurn_8 rfl ?_
  refine lv_topi (fun v8 ev8 => ?_)
  refine lv_if_eq (tgt := 15) hx hb dX11_inTurn_9 (by decide) (fun c9 => ?_) (fun c9 => ?_)
  · skip
    have tc9 := f_eq (k := 0) (by decide) c9
    refine lv_iload_n hx hb dX11_inTurn_15 rfl (lv_at hl 2 rfl) ?_
    refine lv_iconst (v := 5) hx hb dX11_inTurn_16 (by decide) ?_
    refine tk_i hH hS hA (tr_S (n := 2) (As := [.int x2, .int 5]) hx hb hml hown hts hkb hH hOX hks hE hS hA (s_FW_asksRow l D cs kf T O X x2 (5) (by decide) (by decide) (hO.sub (by decide))) kw_970 kw_971 kw_1 kw_972 (by decide +kernel) ⟨Nat.le_of_ble_eq_true rfl, Nat.le_of_ble_eq_true rfl⟩ rfl rfl hl.1 (Nat.le_of_ble_eq_true rfl) dX11_inTurn_17 ⟨Nat.le_of_ble_eq_true rfl, Nat.le_of_ble_eq_true rfl⟩) (fun v17 u H locs hz9 hH hS => ?_)
    obtain ⟨rfl, l_v17, u_v17⟩ := hz9
    have hH : HT D cs A T O X H := hH
    refine W.widen (k := 0) (n := 0) (Nat.le_of_ble_eq_true rfl) (Nat.le_of_ble_eq_true rfl) ?_
    refine lv_if_ne (tgt := 26) hx hb dX11_inTurn_20 (by decide) (fun c20 => ?_) (fun c20 => ?_)
    · skip
      have tc20 := f_ne (k := 0) (by decide) c20
      refine lv_aload_n hx hb dX11_inTurn_26 rfl (lv_at hl 0 rfl) ?_
      refine lv_iconst (v := (-1)) hx hb dX11_inTurn_27 (by decide) ?_
      refine t_put (ci := 11) (lst := ft11 w ch) (v := .int (-1)) (ty := tyX11 19) (C := RX11) (F := TX11) (N := 20) hx hb hts uX11 tyX11 tyX11_ok nmX11 hown hkb hH hS t_a0 (hO.no t_a0 (by decide)) (fun _ => Iff.rfl) rfl rfl 19 (by decide) rfl (⟨_, rfl⟩) kw_379 (fun _ h9 => h9) rfl (tyX11_ok 19 (by decide)) rfl rfl dX11_inTurn_28 (fun H locs hH hS => ?_)
      refine lv_aload_n hx hb dX11_inTurn_31 rfl (lv_at hl 0 rfl) ?_
      refine lv_iconst (v := 0) hx hb dX11_inTurn_32 (by decide) ?_
      refine lv_iload_n hx hb dX11_inTurn_33 rfl (lv_at hl 1 rfl) ?_
      refine lv_aload_n hx hb dX11_inTurn_34 rfl (lv_at hl 0 rfl) ?_
      refine tk_i hH hS hA (tr_V (n := 0) (As := []) hx hb hml hown hts hkb hH hOX hks hE hS hA (s_FW_openNow l D cs kf T O X a0 w hw gw ch gq t_a0 t_w t_ch (hO.sub (by decide))) kw_846 kw_848 ks_22 kw_1 kw_849 (by decide +kernel) ⟨Nat.le_of_ble_eq_true rfl, Nat.le_of_ble_eq_true rfl⟩ (HT.recv (ci := 11) hkb hH t_a0 (hO.no t_a0 (by decide)) rfl) rfl rfl hl.1 (Nat.le_of_ble_eq_true rfl) dX11_inTurn_35 ⟨Nat.le_of_ble_eq_true rfl, Nat.le_of_ble_eq_true rfl⟩) (fun v35 u H locs hz9 hH hS => ?_)
      obtain ⟨rfl, l_v35, u_v35⟩ := hz9
      have hH : HT D cs A T O X H := hH
      refine W.widen (k := 0) (n := 0) (Nat.le_of_ble_eq_true rfl) (Nat.le_of_ble_eq_true rfl) ?_
      refine lv_iconst (v := 0) hx hb dX11_inTurn_38 (by decide) ?_
      refine tk_v hH hS hA (tr_V (n := 4) (As := [.int 0, .int x1, .int v35, .int 0]) hx hb hml hown hts hkb hH hOX hks hE hS hA (s_FW_takeTurns0 l D cs kf T O X a0 w hw gw ch gq (0) x1 v35 (0) t_a0 t_w t_ch (by decide) (by decide) (hO.sub (by decide))) kw_1168 kw_1170 ks_42 kw_1 kw_1171 (by decide +kernel) ⟨Nat.le_of_ble_eq_true rfl, Nat.le_of_ble_eq_true rfl⟩ (HT.recv (ci := 11) hkb hH t_a0 (hO.no t_a0 (by decide)) rfl) rfl rfl hl.1 (Nat.le_of_ble_eq_true rfl) dX11_inTurn_39 ⟨Nat.le_of_ble_eq_true rfl, Nat.le_of_ble_eq_true rfl⟩) (fun u H locs hz9 hH hS => ?_)
      have hz9 : u = (T, O, X) := hz9
      subst hz9
      have hH : HT D cs A T O X H := hH
      refine W.widen (k := 0) (n := 0) (Nat.le_of_ble_eq_true rfl) (Nat.le_of_ble_eq_true rfl) ?_
      refine lv_iload_n hx hb dX11_inTurn_42 rfl (lv_at hl 2 rfl) ?_
      refine lv_if_ne (tgt := 51) hx hb dX11_inTurn_43 (by decide) (fun c43 => ?_) (fun c43 => ?_)
      · skip
        have tc43 := f_ne (k := 0) (by decide) c43
        refine lv_aload_n hx hb dX11_inTurn_51 rfl (lv_at hl 0 rfl) ?_
        refine t_get (ci := 11) (lst := ft11 w ch) (C := RX11) (F := TX11) (N := 20) hx hb hts uX11 hown hkb hH t_a0 (hO.no t_a0 (by decide)) (fun _ h9 => h9) rfl rfl 18 (by decide) rfl kw_378 (fun _ h9 => h9) dX11_inTurn_52 (fun v9 h9 => ?_)
        obtain ⟨v52, rfl, t_v52⟩ := h9
        refine lv_iload_n hx hb dX11_inTurn_55 rfl (lv_at hl 1 rfl) ?_
        refine tk_i hH hS hA (tr_S (n := 1) (As := [.int x1]) hx hb hml hown hts hkb hH hOX hks hE hS hA (s_bitCount l D cs kf T O X x1  (hO.sub (by decide))) kw_893 kw_692 kw_20 kw_693 (by decide +kernel) ⟨Nat.le_of_ble_eq_true rfl, Nat.le_of_ble_eq_true rfl⟩ rfl rfl hl.1 (Nat.le_of_ble_eq_true rfl) dX11_inTurn_56 ⟨Nat.le_of_ble_eq_true rfl, Nat.le_of_ble_eq_true rfl⟩) (fun v56 u H locs hz9 hH hS => ?_)
        obtain ⟨rfl, l_v56, u_v56⟩ := hz9
        have hH : HT D cs A T O X H := hH
        refine W.widen (k := 0) (n := 0) (Nat.le_of_ble_eq_true rfl) (Nat.le_of_ble_eq_true rfl) ?_
        refine lv_iload_n hx hb dX11_inTurn_59 rfl (lv_at hl 2 rfl) ?_
        refine tk_i hH hS hA (tr_S (n := 3) (As := [.ref v52, .int v56, .int x2]) hx hb hml hown hts hkb hH hOX hks hE hS hA (s_FW_ofRow5 l D cs kf T O X v52 v56 x2 t_v52 (hO.sub (by decide))) kw_973 kw_974 kw_1 kw_975 (by decide +kernel) ⟨Nat.le_of_ble_eq_true rfl, Nat.le_of_ble_eq_true rfl⟩ rfl rfl hl.1 (Nat.le_of_ble_eq_true rfl) dX11_inTurn_60 ⟨Nat.le_of_ble_eq_true rfl, Nat.le_of_ble_eq_true rfl⟩) (fun v60 u H locs hz9 hH hS => ?_)
        have hz9 : u = (T, O, X) := hz9
        subst hz9
        have hH : HT D cs A T O X H := hH
        refine W.widen (k := 0) (n := 0) (Nat.le_of_ble_eq_true rfl) (Nat.le_of_ble_eq_true rfl) ?_
        exact te_i hx hb hr hlocks hH hS (rfl) dX11_inTurn_63
      · skip
        have tc43 := f_eq (k := 0) (by decide) c43
        refine lv_aload_n hx hb dX11_inTurn_46 rfl (lv_at hl 0 rfl) ?_
        refine t_get (ci := 11) (lst := ft11 w ch) (C := RX11) (F := TX11) (N := 20) hx hb hts uX11 hown hkb hH t_a0 (hO.no t_a0 (by decide)) (fun _ h9 => h9) rfl rfl 19 (by decide) rfl kw_379 (fun _ h9 => h9) dX11_inTurn_47 (fun v9 h9 => ?_)
        obtain ⟨v47, rfl⟩ := h9
        exact te_i hx hb hr hlocks hH hS (rfl) dX11_inTurn_50
    · skip
      have tc20 := f_eq (k := 0) (by decide) c20
      refine lv_bipush (v := (-2)) hx hb dX11_inTurn_23 (by decide) ?_
      exact te_i hx hb hr hlocks hH hS (rfl) dX11_inTurn_25
  · skip
    have tc9 := f_ne (k := 0) (by decide) c9
    refine lv_bipush (v := (-3)) hx hb dX11_inTurn_12 (by decide) ?_
    exact te_i hx hb hr hlocks hH hS (rfl) dX11_inTurn_14
theorem dX11_count_0 : decode cX11_count 0 = .ok (.iload_n 1, 1) := by decide +kernel
theorem dX11_count_1 : decode cX11_count 1 = .ok (.tableswitch 135 0 9 #[55, 63, 71, 79, 87, 98, 106, 111, 116, 124], 55) := by decide +kernel
theorem dX11_count_56 : decode cX11_count 56 = .ok (.aload_n 0, 1) := by decide +kernel
theorem dX11_count_57 : decode cX11_count 57 = .ok (.getfield 29, 3) := by decide +kernel
theorem dX11_count_60 : decode cX11_count 60 = .ok (.getfield 213, 3) := by decide +kernel
theorem dX11_count_63 : decode cX11_count 63 = .ok (.ireturn, 1) := by decide +kernel
theorem dX11_count_64 : decode cX11_count 64 = .ok (.aload_n 0, 1) := by decide +kernel
theorem dX11_count_65 : decode cX11_count 65 = .ok (.getfield 29, 3) := by decide +kernel
theorem dX11_count_68 : decode cX11_count 68 = .ok (.getfield 216, 3) := by decide +kernel
theorem dX11_count_71 : decode cX11_count 71 = .ok (.ireturn, 1) := by decide +kernel
theorem dX11_count_72 : decode cX11_count 72 = .ok (.aload_n 0, 1) := by decide +kernel
theorem dX11_count_73 : decode cX11_count 73 = .ok (.getfield 36, 3) := by decide +kernel
theorem dX11_count_76 : decode cX11_count 76 = .ok (.getfield 161, 3) := by decide +kernel
theorem dX11_count_79 : decode cX11_count 79 = .ok (.ireturn, 1) := by decide +kernel
theorem dX11_count_80 : decode cX11_count 80 = .ok (.aload_n 0, 1) := by decide +kernel
theorem dX11_count_81 : decode cX11_count 81 = .ok (.getfield 36, 3) := by decide +kernel
theorem dX11_count_84 : decode cX11_count 84 = .ok (.getfield 284, 3) := by decide +kernel
theorem dX11_count_87 : decode cX11_count 87 = .ok (.ireturn, 1) := by decide +kernel
theorem dX11_count_88 : decode cX11_count 88 = .ok (.aload_n 0, 1) := by decide +kernel
theorem dX11_count_89 : decode cX11_count 89 = .ok (.getfield 36, 3) := by decide +kernel
theorem dX11_count_92 : decode cX11_count 92 = .ok (.getfield 222, 3) := by decide +kernel
theorem dX11_count_95 : decode cX11_count 95 = .ok (.invokestatic 243, 3) := by decide +kernel
theorem dX11_count_98 : decode cX11_count 98 = .ok (.ireturn, 1) := by decide +kernel
theorem dX11_count_99 : decode cX11_count 99 = .ok (.aload_n 0, 1) := by decide +kernel
theorem dX11_count_100 : decode cX11_count 100 = .ok (.invokevirtual 206, 3) := by decide +kernel
theorem dX11_count_103 : decode cX11_count 103 = .ok (.invokestatic 243, 3) := by decide +kernel
theorem dX11_count_106 : decode cX11_count 106 = .ok (.ireturn, 1) := by decide +kernel
theorem dX11_count_107 : decode cX11_count 107 = .ok (.aload_n 0, 1) := by decide +kernel
theorem dX11_count_108 : decode cX11_count 108 = .ok (.getfield 47, 3) := by decide +kernel
theorem dX11_count_111 : decode cX11_count 111 = .ok (.ireturn, 1) := by decide +kernel
theorem dX11_count_112 : decode cX11_count 112 = .ok (.aload_n 0, 1) := by decide +kernel
theorem dX11_count_113 : decode cX11_count 113 = .ok (.getfield 13, 3) := by decide +kernel
theorem dX11_count_116 : decode cX11_count 116 = .ok (.ireturn, 1) := by decide +kernel
theorem dX11_count_117 : decode cX11_count 117 = .ok (.aload_n 0, 1) := by decide +kernel
theorem dX11_count_118 : decode cX11_count 118 = .ok (.getfield 29, 3) := by decide +kernel
theorem dX11_count_121 : decode cX11_count 121 = .ok (.getfield 139, 3) := by decide +kernel
theorem dX11_count_124 : decode cX11_count 124 = .ok (.ireturn, 1) := by decide +kernel
theorem dX11_count_125 : decode cX11_count 125 = .ok (.aload_n 0, 1) := by decide +kernel
theorem dX11_count_126 : decode cX11_count 126 = .ok (.getfield 36, 3) := by decide +kernel
theorem dX11_count_129 : decode cX11_count 129 = .ok (.getfield 180, 3) := by decide +kernel
theorem dX11_count_132 : decode cX11_count 132 = .ok (.invokestatic 243, 3) := by decide +kernel
theorem dX11_count_135 : decode cX11_count 135 = .ok (.ireturn, 1) := by decide +kernel
theorem dX11_count_136 : decode cX11_count 136 = .ok (.iconst (-1), 1) := by decide +kernel
theorem dX11_count_137 : decode cX11_count 137 = .ok (.ireturn, 1) := by decide +kernel
theorem dX11_image_0 : decode cX11_image 0 = .ok (.iload_n 1, 1) := by decide +kernel
theorem dX11_image_1 : decode cX11_image 1 = .ok (.invokestatic 374, 3) := by decide +kernel
theorem dX11_image_4 : decode cX11_image 4 = .ok (.ifCond .ne 6, 3) := by decide +kernel
theorem dX11_image_7 : decode cX11_image 7 = .ok (.bipush (-2), 2) := by decide +kernel
theorem dX11_image_9 : decode cX11_image 9 = .ok (.ireturn, 1) := by decide +kernel
theorem dX11_image_10 : decode cX11_image 10 = .ok (.aload_n 0, 1) := by decide +kernel
theorem dX11_image_11 : decode cX11_image 11 = .ok (.getfield 53, 3) := by decide +kernel
theorem dX11_image_14 : decode cX11_image 14 = .ok (.iload_n 1, 1) := by decide +kernel
theorem dX11_image_15 : decode cX11_image 15 = .ok (.aload_n 0, 1) := by decide +kernel
theorem dX11_image_16 : decode cX11_image 16 = .ok (.getfield 29, 3) := by decide +kernel
theorem dX11_image_19 : decode cX11_image 19 = .ok (.aastore, 1) := by decide +kernel
theorem dX11_image_20 : decode cX11_image 20 = .ok (.aload_n 0, 1) := by decide +kernel
theorem dX11_image_21 : decode cX11_image 21 = .ok (.getfield 57, 3) := by decide +kernel
theorem dX11_image_24 : decode cX11_image 24 = .ok (.iload_n 1, 1) := by decide +kernel
theorem dX11_image_25 : decode cX11_image 25 = .ok (.aaload, 1) := by decide +kernel
theorem dX11_image_26 : decode cX11_image 26 = .ok (.aload_n 0, 1) := by decide +kernel
theorem dX11_image_27 : decode cX11_image 27 = .ok (.getfield 36, 3) := by decide +kernel
theorem dX11_image_30 : decode cX11_image 30 = .ok (.invokevirtual 135, 3) := by decide +kernel
theorem dX11_image_33 : decode cX11_image 33 = .ok (.iconst 0, 1) := by decide +kernel
theorem dX11_image_34 : decode cX11_image 34 = .ok (.ireturn, 1) := by decide +kernel
theorem dX11_lists_0 : decode cX11_lists 0 = .ok (.iload_n 1, 1) := by decide +kernel
theorem dX11_lists_1 : decode cX11_lists 1 = .ok (.invokestatic 229, 3) := by decide +kernel
theorem dX11_lists_4 : decode cX11_lists 4 = .ok (.ifCond .eq 11, 3) := by decide +kernel
theorem dX11_lists_7 : decode cX11_lists 7 = .ok (.aload_n 0, 1) := by decide +kernel
theorem dX11_lists_8 : decode cX11_lists 8 = .ok (.iload_n 2, 1) := by decide +kernel
theorem dX11_lists_9 : decode cX11_lists 9 = .ok (.invokevirtual 186, 3) := by decide +kernel
theorem dX11_lists_12 : decode cX11_lists 12 = .ok (.ifCond .ne 6, 3) := by decide +kernel
theorem dX11_lists_15 : decode cX11_lists 15 = .ok (.bipush (-2), 2) := by decide +kernel
theorem dX11_lists_17 : decode cX11_lists 17 = .ok (.ireturn, 1) := by decide +kernel
theorem dX11_lists_18 : decode cX11_lists 18 = .ok (.aload_n 0, 1) := by decide +kernel
theorem dX11_lists_19 : decode cX11_lists 19 = .ok (.getfield 62, 3) := by decide +kernel
theorem dX11_lists_22 : decode cX11_lists 22 = .ok (.iload_n 1, 1) := by decide +kernel
theorem dX11_lists_23 : decode cX11_lists 23 = .ok (.aaload, 1) := by decide +kernel
theorem dX11_lists_24 : decode cX11_lists 24 = .ok (.astore_n 3, 1) := by decide +kernel
theorem dX11_lists_25 : decode cX11_lists 25 = .ok (.aload_n 3, 1) := by decide +kernel
theorem dX11_lists_26 : decode cX11_lists 26 = .ok (.invokevirtual 232, 3) := by decide +kernel
theorem dX11_lists_29 : decode cX11_lists 29 = .ok (.ifCond .eq 6, 3) := by decide +kernel
theorem dX11_lists_32 : decode cX11_lists 32 = .ok (.bipush (-6), 2) := by decide +kernel
theorem dX11_lists_34 : decode cX11_lists 34 = .ok (.ireturn, 1) := by decide +kernel
theorem dX11_lists_35 : decode cX11_lists 35 = .ok (.aload_n 0, 1) := by decide +kernel
theorem dX11_lists_36 : decode cX11_lists 36 = .ok (.getfield 82, 3) := by decide +kernel
theorem dX11_lists_39 : decode cX11_lists 39 = .ok (.aload_n 0, 1) := by decide +kernel
theorem dX11_lists_40 : decode cX11_lists 40 = .ok (.iload_n 2, 1) := by decide +kernel
theorem dX11_lists_41 : decode cX11_lists 41 = .ok (.invokevirtual 202, 3) := by decide +kernel
theorem dX11_lists_44 : decode cX11_lists 44 = .ok (.aload_n 0, 1) := by decide +kernel
theorem dX11_lists_45 : decode cX11_lists 45 = .ok (.invokevirtual 206, 3) := by decide +kernel
theorem dX11_lists_48 : decode cX11_lists 48 = .ok (.invokevirtual 271, 3) := by decide +kernel
theorem dX11_lists_51 : decode cX11_lists 51 = .ok (.istore 4, 2) := by decide +kernel
theorem dX11_lists_53 : decode cX11_lists 53 = .ok (.iload 4, 2) := by decide +kernel
theorem dX11_lists_55 : decode cX11_lists 55 = .ok (.ifCond .ne 6, 3) := by decide +kernel
theorem dX11_lists_58 : decode cX11_lists 58 = .ok (.bipush (-5), 2) := by decide +kernel
theorem dX11_lists_60 : decode cX11_lists 60 = .ok (.ireturn, 1) := by decide +kernel
theorem dX11_lists_61 : decode cX11_lists 61 = .ok (.iload 4, 2) := by decide +kernel
theorem dX11_lists_63 : decode cX11_lists 63 = .ok (.iconst 1, 1) := by decide +kernel
theorem dX11_lists_64 : decode cX11_lists 64 = .ok (.iadd, 1) := by decide +kernel
theorem dX11_lists_65 : decode cX11_lists 65 = .ok (.aload_n 3, 1) := by decide +kernel
theorem dX11_lists_66 : decode cX11_lists 66 = .ok (.getfield 259, 3) := by decide +kernel
theorem dX11_lists_69 : decode cX11_lists 69 = .ok (.invokestatic 292, 3) := by decide +kernel
theorem dX11_lists_72 : decode cX11_lists 72 = .ok (.istore 5, 2) := by decide +kernel
theorem dX11_lists_74 : decode cX11_lists 74 = .ok (.iconst 0, 1) := by decide +kernel
theorem dX11_lists_75 : decode cX11_lists 75 = .ok (.istore 6, 2) := by decide +kernel
theorem dX11_lists_77 : decode cX11_lists 77 = .ok (.iload 6, 2) := by decide +kernel
theorem dX11_lists_79 : decode cX11_lists 79 = .ok (.iload 5, 2) := by decide +kernel
theorem dX11_lists_81 : decode cX11_lists 81 = .ok (.if_icmp .ge 39, 3) := by decide +kernel
theorem dX11_lists_84 : decode cX11_lists 84 = .ok (.aload_n 3, 1) := by decide +kernel
theorem dX11_lists_85 : decode cX11_lists 85 = .ok (.iload 6, 2) := by decide +kernel
theorem dX11_lists_87 : decode cX11_lists 87 = .ok (.iload 6, 2) := by decide +kernel
theorem dX11_lists_89 : decode cX11_lists 89 = .ok (.ifCond .ne 8, 3) := by decide +kernel
theorem dX11_lists_92 : decode cX11_lists 92 = .ok (.iload_n 2, 1) := by decide +kernel
theorem dX11_lists_93 : decode cX11_lists 93 = .ok (.i2l, 1) := by decide +kernel
theorem dX11_lists_94 : decode cX11_lists 94 = .ok (.goto 16, 3) := by decide +kernel
theorem dX11_lists_97 : decode cX11_lists 97 = .ok (.aload_n 0, 1) := by decide +kernel
theorem dX11_lists_98 : decode cX11_lists 98 = .ok (.getfield 82, 3) := by decide +kernel
theorem dX11_lists_101 : decode cX11_lists 101 = .ok (.getfield 303, 3) := by decide +kernel
theorem dX11_lists_104 : decode cX11_lists 104 = .ok (.iload 6, 2) := by decide +kernel
theorem dX11_lists_106 : decode cX11_lists 106 = .ok (.iconst 1, 1) := by decide +kernel
theorem dX11_lists_107 : decode cX11_lists 107 = .ok (.isub, 1) := by decide +kernel
theorem dX11_lists_108 : decode cX11_lists 108 = .ok (.iaload, 1) := by decide +kernel
theorem dX11_lists_109 : decode cX11_lists 109 = .ok (.i2l, 1) := by decide +kernel
theorem dX11_lists_110 : decode cX11_lists 110 = .ok (.invokevirtual 370, 3) := by decide +kernel
theorem dX11_lists_113 : decode cX11_lists 113 = .ok (.pop2, 1) := by decide +kernel
theorem dX11_lists_114 : decode cX11_lists 114 = .ok (.iinc 6 1, 3) := by decide +kernel
theorem dX11_lists_117 : decode cX11_lists 117 = .ok (.goto (-40), 3) := by decide +kernel
theorem dX11_lists_120 : decode cX11_lists 120 = .ok (.iload 5, 2) := by decide +kernel
theorem dX11_lists_122 : decode cX11_lists 122 = .ok (.ireturn, 1) := by decide +kernel
theorem kw_115 : Cond.fieldLink "FootholdWall" 139 "FootholdWall$Wall" "lines" "I" ∈ gw := gw_of (tb_of 115 (by decide +kernel)) (by decide +kernel)
theorem kw_369 : Cond.fieldLink "FootholdWall" 53 "FootholdWall" "imageWalls" "[LFootholdWall$Wall;" ∈ gw := gw_of (tb_of 369 (by decide +kernel)) (by decide +kernel)
theorem kw_370 : Cond.fieldLink "FootholdWall" 57 "FootholdWall" "imageStates" "[LFootholdWall$State;" ∈ gw := gw_of (tb_of 370 (by decide +kernel)) (by decide +kernel)
theorem kw_1190 : Cond.methodLink "FootholdWall" 370 yX8_put ∈ gw := gw_of (tb_of 1190 (by decide +kernel)) (by decide +kernel)
theorem kw_1191 : Cond.instanceMethod yX8_put ∈ gw := gw_of (tb_of 1191 (by decide +kernel)) (by decide +kernel)
theorem kw_1192 : Cond.selects "FootholdWall$Tray" yX8_put yX8_put ∈ gw := gw_of (tb_of 1192 (by decide +kernel)) (by decide +kernel)
theorem kw_1193 : Cond.code yX8_put cX8_put 4 (some (.long)) ∈ gw := gw_of (tb_of 1193 (by decide +kernel)) (by decide +kernel)
theorem kw_1202 : Cond.methodLink "FootholdWall" 374 yX11_isImage ∈ gw := gw_of (tb_of 1202 (by decide +kernel)) (by decide +kernel)
theorem kw_1203 : Cond.static yX11_isImage ∈ gw := gw_of (tb_of 1203 (by decide +kernel)) (by decide +kernel)
theorem kw_1204 : Cond.code yX11_isImage cX11_isImage 1 (some (.boolean)) ∈ gw := gw_of (tb_of 1204 (by decide +kernel)) (by decide +kernel)
set_option maxHeartbeats 4000000 in
set_option maxRecDepth 100000 in
theorem s_FW_lists (l : Launch) (D : va_G) (cs : CS) (kf : KF) (T : TF) (O : List Nat) (X : va_W) (a0 w hw gw ch gq : Nat) (x1 : Int32) (x2 : Int32) (t_a0 : T a0 = some (21, w, ch)) (t_w : isW T w hw gw) (t_ch : T ch = some (10, gq, 0)) (hO : okO T O [1, 2, 6, 7, 12, 15, 16, 18, 19, 20, 21]) : TK l D cs kf yX11_lists cX11_lists 7 (some (.int)) { frames := 6, cells := 0, slots := 0, locals := 152 } [.ref a0, .int x1, .int x2] T O X (Ti D cs (fun r u => u = (T, O, X) ∧ -6 ≤ r.toInt ∧ r.toInt ≤ 15)) := by
  refine tk_of (by decide) (Nat.le_of_ble_eq_true rfl) (fun p e s m below meth c ls A H locs hx hb hr hml hown hts hlocks hnm hkb hH hS hA hOX hks hE hl => ?_)
  have hown : s.vm.findClass RX11 = some m.cls := hown
  have hl : lv_has ls 7 [(0, .ref a0), (1, .int x1), (2, .int x2)] := hl
  have b1_w := t_w.2.1
  have b2_w := t_w.2.2
  refine lv_iload_n hx hb dX11_lists_0 rfl (lv_at hl 1 rfl) ?_
  refine tk_i hH hS hA (tr_S (n := 1) (As := [.int x1]) hx hb hml hown hts hkb hH hOX hks hE hS hA (s_FW_isTray l D cs kf T O X x1  (hO.sub (by decide))) kw_871 kw_872 kw_1 kw_873 (by decide +kernel) ⟨Nat.le_of_ble_eq_true rfl, Nat.le_of_ble_eq_true rfl⟩ rfl rfl hl.1 (Nat.le_of_ble_eq_true rfl) dX11_lists_1 ⟨Nat.le_of_ble_eq_true rfl, Nat.le_of_ble_eq_true rfl⟩) (fun v1 u H locs hz9 hH hS => ?_)
  obtain ⟨rfl, l_v1, u_v1, x_v10⟩ := hz9
  have hH : HT D cs A T O X H := hH
  refine W.widen (k := 0) (n := 0) (Nat.le_of_ble_eq_true rfl) (Nat.le_of_ble_eq_true rfl) ?_
  have J15 : ∀  (H : Heap) (locs : List Loc) (ls : Array Slot), HT D cs A T O X H → va_S A s.heap H locs → lv_has ls 7 [] → W p l e { frames := 6, cells := 0, slots := 0, locals := 152 } s m [.ref a0, .int x1, .int x2].toArray below meth c H locs 0 0 (MQ below (Ti D cs (fun r u => u = (T, O, X) ∧ -6 ≤ r.toInt ∧ r.toInt ≤ 15) A) [.ref a0, .int x1, .int x2].toArray s 0 0 A) (F0 m 15 ls []) := by
    intro  H locs ls  hH hS hl
    refine lv_bipush (v := (-2)) hx hb dX11_lists_15 (by decide) ?_
    exact te_i hx hb hr hlocks hH hS (⟨rfl, by decide, by decide⟩) dX11_lists_17
  refine lv_if_eq (tgt := 15) hx hb dX11_lists_4 (by decide) (fun c4 => ?_) (fun c4 => ?_)
  · skip
    have tc4 := f_eq (k := 0) (by decide) c4
    exact J15  _ _ _  hH hS (lv_sub hl [] rfl)
  · skip
    have tc4 := f_ne (k := 0) (by decide) c4
    refine lv_aload_n hx hb dX11_lists_7 rfl (lv_at hl 0 rfl) ?_
    refine lv_iload_n hx hb dX11_lists_8 rfl (lv_at hl 2 rfl) ?_
    refine tk_i hH hS hA (tr_V (n := 1) (As := [.int x2]) hx hb hml hown hts hkb hH hOX hks hE hS hA (s_FW_isGuide l D cs kf T O X a0 w hw gw ch gq x2 t_a0 t_w t_ch (hO.sub (by decide))) kw_794 kw_796 ks_20 kw_1 kw_797 (by decide +kernel) ⟨Nat.le_of_ble_eq_true rfl, Nat.le_of_ble_eq_true rfl⟩ (HT.recv (ci := 11) hkb hH t_a0 (hO.no t_a0 (by decide)) rfl) rfl rfl hl.1 (Nat.le_of_ble_eq_true rfl) dX11_lists_9 ⟨Nat.le_of_ble_eq_true rfl, Nat.le_of_ble_eq_true rfl⟩) (fun v9 u H locs hz9 hH hS => ?_)
    obtain ⟨rfl, l_v9, u_v9, x_v90⟩ := hz9
    have hH : HT D cs A T O X H := hH
    refine W.widen (k := 0) (n := 0) (Nat.le_of_ble_eq_true rfl) (Nat.le_of_ble_eq_true rfl) ?_
    refine lv_if_ne (tgt := 18) hx hb dX11_lists_12 (by decide) (fun c12 => ?_) (fun c12 => ?_)
    · skip
      have tc12 := f_ne (k := 0) (by decide) c12
      refine lv_aload_n hx hb dX11_lists_18 rfl (lv_at hl 0 rfl) ?_
      refine t_get (ci := 11) (lst := ft11 w ch) (C := RX11) (F := TX11) (N := 20) hx hb hts uX11 hown hkb hH t_a0 (hO.no t_a0 (by decide)) (fun _ h9 => h9) rfl rfl 11 (by decide) rfl kw_371 (fun _ h9 => h9) dX11_lists_19 (fun v9 h9 => ?_)
      obtain ⟨v19, g9, rfl, t_v19, gt_v19⟩ := h9
      have q9 := tl_eq gt_v19 t_ch
      rw [q9] at t_v19
      refine lv_iload_n hx hb dX11_lists_22 rfl (lv_at hl 1 rfl) ?_
      refine t_qld6 hx hb hkb hH t_v19 (hO.no t_v19 (by decide)) (by omega) (by omega) dX11_lists_23 (fun v23 t_v23 => ?_)
      refine lv_astore_n (lv' := [(3, .ref v23), (0, .ref a0), (1, .int x1), (2, .int x2)]) hx hb dX11_lists_24 rfl hl (by decide) rfl (fun ls hl => ?_)
      refine lv_aload_n hx hb dX11_lists_25 rfl (lv_at hl 0 rfl) ?_
      refine tk_i hH hS hA (tr_V (n := 0) (As := []) hx hb hml hown hts hkb hH hOX hks hE hS hA (s_Tray_isMissing l D cs kf T O X v23 (cdv gq x1.toInt.toNat) t_v23 (hO.sub (by decide))) kw_874 kw_875 kw_876 kw_12 kw_877 (by decide +kernel) ⟨Nat.le_of_ble_eq_true rfl, Nat.le_of_ble_eq_true rfl⟩ (HT.recv (ci := 8) hkb hH t_v23 (hO.no t_v23 (by decide)) rfl) rfl rfl hl.1 (Nat.le_of_ble_eq_true rfl) dX11_lists_26 ⟨Nat.le_of_ble_eq_true rfl, Nat.le_of_ble_eq_true rfl⟩) (fun v26 u H locs hz9 hH hS => ?_)
      obtain ⟨rfl, l_v26, u_v26, x_v260, x_v261⟩ := hz9
      have hH : HT D cs A T O X H := hH
      refine W.widen (k := 0) (n := 0) (Nat.le_of_ble_eq_true rfl) (Nat.le_of_ble_eq_true rfl) ?_
      refine lv_if_eq (tgt := 35) hx hb dX11_lists_29 (by decide) (fun c29 => ?_) (fun c29 => ?_)
      · skip
        have tc29 := f_eq (k := 0) (by decide) c29
        clear x_v260
        replace x_v261 := x_v261.resolve_left (fun q9 => q9 tc29)
        refine lv_aload_n hx hb dX11_lists_35 rfl (lv_at hl 1 rfl) ?_
        refine t_get (ci := 11) (lst := ft11 w ch) (C := RX11) (F := TX11) (N := 20) hx hb hts uX11 hown hkb hH t_a0 (hO.no t_a0 (by decide)) (fun _ h9 => h9) rfl rfl 14 (by decide) rfl kw_374 (fun _ h9 => h9) dX11_lists_36 (fun v9 h9 => ?_)
        obtain ⟨v36, rfl, t_v36⟩ := h9
        refine lv_aload_n hx hb dX11_lists_39 rfl (lv_at hl 1 rfl) ?_
        refine lv_iload_n hx hb dX11_lists_40 rfl (lv_at hl 3 rfl) ?_
        refine tk_r hH hS hA (tr_V (n := 1) (As := [.int x2]) hx hb hml hown hts hkb hH hOX hks hE hS hA (s_FW_rowsOf l D cs kf T O X a0 w hw gw ch gq x2 t_a0 t_w t_ch (by omega) (by omega) (hO.sub (by decide))) kw_830 kw_832 ks_21 kw_1 kw_833 (by decide +kernel) ⟨Nat.le_of_ble_eq_true rfl, Nat.le_of_ble_eq_true rfl⟩ (HT.recv (ci := 11) hkb hH t_a0 (hO.no t_a0 (by decide)) rfl) rfl rfl hl.1 (Nat.le_of_ble_eq_true rfl) dX11_lists_41 ⟨Nat.le_of_ble_eq_true rfl, Nat.le_of_ble_eq_true rfl⟩) (fun v41 u H locs hz9 hH hS => ?_)
        obtain ⟨hu9, t_v41⟩ := hz9
        have hu9 : u = (T, O, X) := hu9
        subst hu9
        have hH : HT D cs A T O X H := hH
        refine W.widen (k := 0) (n := 0) (Nat.le_of_ble_eq_true rfl) (Nat.le_of_ble_eq_true rfl) ?_
        refine lv_aload_n hx hb dX11_lists_44 rfl (lv_at hl 1 rfl) ?_
        refine tk_i hH hS hA (tr_V (n := 0) (As := []) hx hb hml hown hts hkb hH hOX hks hE hS hA (s_FW_openNow l D cs kf T O X a0 w hw gw ch gq t_a0 t_w t_ch (hO.sub (by decide))) kw_846 kw_848 ks_22 kw_1 kw_849 (by decide +kernel) ⟨Nat.le_of_ble_eq_true rfl, Nat.le_of_ble_eq_true rfl⟩ (HT.recv (ci := 11) hkb hH t_a0 (hO.no t_a0 (by decide)) rfl) rfl rfl hl.1 (Nat.le_of_ble_eq_true rfl) dX11_lists_45 ⟨Nat.le_of_ble_eq_true rfl, Nat.le_of_ble_eq_true rfl⟩) (fun v45 u H locs hz9 hH hS => ?_)
        obtain ⟨rfl, l_v45, u_v45⟩ := hz9
        have hH : HT D cs A T O X H := hH
        refine W.widen (k := 0) (n := 0) (Nat.le_of_ble_eq_true rfl) (Nat.le_of_ble_eq_true rfl) ?_
        refine tk_i hH hS hA (tr_V (n := 2) (As := [.ref v41, .int v45]) hx hb hml hown hts hkb hH hOX hks hE hS hA (s_Ways_find l D cs kf T O X v36 v41 v45 t_v36 t_v41 (hO.sub (by decide))) kw_912 kw_913 kw_914 kw_9 kw_915 (by decide +kernel) ⟨Nat.le_of_ble_eq_true rfl, Nat.le_of_ble_eq_true rfl⟩ (HT.recv (ci := 10) hkb hH t_v36 (hO.no t_v36 (by decide)) rfl) rfl rfl hl.1 (Nat.le_of_ble_eq_true rfl) dX11_lists_48 ⟨Nat.le_of_ble_eq_true rfl, Nat.le_of_ble_eq_true rfl⟩) (fun v48 u H locs hz9 hH hS => ?_)
        obtain ⟨rfl, l_v48, u_v48⟩ := hz9
        have hH : HT D cs A T O X H := hH
        refine W.widen (k := 0) (n := 0) (Nat.le_of_ble_eq_true rfl) (Nat.le_of_ble_eq_true rfl) ?_
        refine lv_istore (lv' := [(4, .int v48), (3, .ref v23), (0, .ref a0), (1, .int x1), (2, .int x2)]) hx hb dX11_lists_51 hl (by decide) rfl (fun ls hl => ?_)
        refine lv_iload hx hb dX11_lists_53 (lv_at hl 0 rfl) ?_
        refine lv_if_ne (tgt := 61) hx hb dX11_lists_55 (by decide) (fun c55 => ?_) (fun c55 => ?_)
        · skip
          have tc55 := f_ne (k := 0) (by decide) c55
          refine lv_iload hx hb dX11_lists_61 (lv_at hl 0 rfl) ?_
          refine lv_iconst (v := 1) hx hb dX11_lists_63 (by decide) ?_
          refine lv_iadd hx hb dX11_lists_64 ?_
          refine lv_topi (fun v64 ev64 => ?_)
          have tv64 : v64.toInt = v48.toInt + (1) := by rw [ev64]; exact add_i rfl (by decide : (1 : Int32).toInt = 1) (by omega) (by omega)
          refine lv_aload_n hx hb dX11_lists_65 rfl (lv_at hl 1 rfl) ?_
          refine t_get (ci := 8) (lst := ft8 (cdv gq x1.toInt.toNat) 0) (C := RX8) (F := TX8) (N := 3) hx hb hts uX8 hown hkb hH t_v23 (hO.no t_v23 (by decide)) (fun _ h9 => h9) rfl rfl 2 (by decide) rfl kw_352 (fun _ h9 => h9) dX11_lists_66 (fun v9 h9 => ?_)
          obtain ⟨v66, rfl, l_v66, u_v66, sz_v66⟩ := h9
          refine va_mmin hx hb (by rw [hml]; exact hl.1.symm) hown (hts _ kw_903) (hts _ kw_450) (hts _ kw_6) (hts _ kw_451) (Nat.le_of_ble_eq_true rfl) (Nat.le_of_ble_eq_true rfl) (Nat.le_of_ble_eq_true rfl) (Nat.le_of_ble_eq_true rfl) dX11_lists_69 ?_
          refine lv_topi (fun v69 ev69 => ?_)
          have tv69 : v69.toInt = min v64.toInt v66.toInt := by rw [ev69]; exact min_i rfl rfl
          refine lv_istore (lv' := [(5, .int v69), (4, .int v48), (3, .ref v23), (0, .ref a0), (1, .int x1), (2, .int x2)]) hx hb dX11_lists_72 hl (by decide) rfl (fun ls hl => ?_)
          refine lv_iconst (v := 0) hx hb dX11_lists_74 (by decide) ?_
          have J77 : ∀ (n : Nat) (p77_6 : Int32) (H : Heap) (locs : List Loc) (ls : Array Slot), (15 - p77_6.toInt).toNat = n → (0 ≤ p77_6.toInt) → (p77_6.toInt ≤ 15) → HT D cs A T O X H → va_S A s.heap H locs → lv_has ls 7 [(6, .int p77_6), (5, .int v69), (3, .ref v23), (0, .ref a0), (2, .int x2)] → W p l e { frames := 6, cells := 0, slots := 0, locals := 152 } s m [.ref a0, .int x1, .int x2].toArray below meth c H locs 0 0 (MQ below (Ti D cs (fun r u => u = (T, O, X) ∧ -6 ≤ r.toInt ∧ r.toInt ≤ 15) A) [.ref a0, .int x1, .int x2].toArray s 0 0 A) (F0 m 77 ls []) := by
            intro n
            induction n using Nat.strongRecOn with
            | _ n ih77 =>
              intro p77_6 H locs ls hm77 l_p77_6 u_p77_6 hH hS hl
              refine lv_iload hx hb dX11_lists_77 (lv_at hl 0 rfl) ?_
              refine lv_iload hx hb dX11_lists_79 (lv_at hl 1 rfl) ?_
              refine lv_icmp_ge (tgt := 120) hx hb dX11_lists_81 (by decide) (fun c81 => ?_) (fun c81 => ?_)
              · skip
                have fuc81 := full_i p77_6
                have fvc81 := full_i v69
                have tc81 := g_le c81
                refine lv_iload hx hb dX11_lists_120 (lv_at hl 1 rfl) ?_
                exact te_i hx hb hr hlocks hH hS (⟨rfl, by omega, by omega⟩) dX11_lists_122
              · skip
                have fuc81 := full_i p77_6
                have fvc81 := full_i v69
                have tc81 := g_nle c81
                refine lv_aload_n hx hb dX11_lists_84 rfl (lv_at hl 2 rfl) ?_
                refine lv_iload hx hb dX11_lists_85 (lv_at hl 0 rfl) ?_
                refine lv_iload hx hb dX11_lists_87 (lv_at hl 0 rfl) ?_
                have J110 : ∀ (k110_0 : Int64) (H : Heap) (locs : List Loc) (ls : Array Slot), HT D cs A T O X H → va_S A s.heap H locs → lv_has ls 7 [(6, .int p77_6), (5, .int v69), (3, .ref v23), (0, .ref a0), (2, .int x2)] → W p l e { frames := 6, cells := 0, slots := 0, locals := 152 } s m [.ref a0, .int x1, .int x2].toArray below meth c H locs 0 0 (MQ below (Ti D cs (fun r u => u = (T, O, X) ∧ -6 ≤ r.toInt ∧ r.toInt ≤ 15) A) [.ref a0, .int x1, .int x2].toArray s 0 0 A) (F0 m 110 ls [.long k110_0, .int p77_6, .ref v23]) := by
                  intro k110_0 H locs ls  hH hS hl
                  refine tk_l hH hS hA (tr_V (n := 2) (As := [.int p77_6, .long k110_0]) hx hb hml hown hts hkb hH hOX hks hE hS hA (s_Tray_put l D cs kf T O X v23 (cdv gq x1.toInt.toNat) p77_6 k110_0 t_v23 (hO.sub (by decide))) kw_1190 kw_1191 kw_1192 kw_12 kw_1193 (by decide +kernel) ⟨Nat.le_of_ble_eq_true rfl, Nat.le_of_ble_eq_true rfl⟩ (HT.recv (ci := 8) hkb hH t_v23 (hO.no t_v23 (by decide)) rfl) rfl rfl hl.1 (Nat.le_of_ble_eq_true rfl) dX11_lists_110 ⟨Nat.le_of_ble_eq_true rfl, Nat.le_of_ble_eq_true rfl⟩) (fun v110 u H locs hz9 hH hS => ?_)
                  have hz9 : u = (T, O, X) := hz9
                  subst hz9
                  have hH : HT D cs A T O X H := hH
                  refine W.widen (k := 0) (n := 0) (Nat.le_of_ble_eq_true rfl) (Nat.le_of_ble_eq_true rfl) ?_
                  refine lv_pop2_2 hx hb dX11_lists_113 rfl ?_
                  obtain ⟨v114, ev114⟩ : ∃ y : Int32, y = p77_6 + 1 := ⟨_, rfl⟩
                  have tv114 : v114.toInt = p77_6.toInt + (1) := by rw [ev114]; exact add_i rfl (by decide) (by omega) (by omega)
                  refine lv_iinc (v := v114) (lv' := [(6, .int v114), (5, .int v69), (3, .ref v23), (0, .ref a0), (2, .int x2)]) hx hb dX11_lists_114 hl (k := 0) rfl (by rw [ev114]; rfl) (by decide) rfl (fun ls hl => ?_)
                  refine lv_goto (tgt := 77) hx hb dX11_lists_117 (by decide) ?_
                  exact ih77 _ (by omega) v114 _ _ _ rfl (by omega) (by omega) hH hS (lv_sub hl [0, 1, 2, 3, 4] rfl)
                refine lv_if_ne (tgt := 97) hx hb dX11_lists_89 (by decide) (fun c89 => ?_) (fun c89 => ?_)
                · skip
                  have tc89 := f_ne (k := 0) (by decide) c89
                  refine lv_aload_n hx hb dX11_lists_97 rfl (lv_at hl 3 rfl) ?_
                  refine t_get (ci := 11) (lst := ft11 w ch) (C := RX11) (F := TX11) (N := 20) hx hb hts uX11 hown hkb hH t_a0 (hO.no t_a0 (by decide)) (fun _ h9 => h9) rfl rfl 14 (by decide) rfl kw_374 (fun _ h9 => h9) dX11_lists_98 (fun v9 h9 => ?_)
                  obtain ⟨v98, rfl, t_v98⟩ := h9
                  refine t_get (ci := 10) (lst := ft10 0 0) (C := RX10) (F := TX10) (N := 7) hx hb hts uX10 hown hkb hH t_v98 (hO.no t_v98 (by decide)) (fun _ h9 => h9) rfl rfl 1 (by decide) rfl kw_274 (fun _ h9 => h9) dX11_lists_101 (fun v9 h9 => ?_)
                  obtain ⟨v101, rfl, t_v101⟩ := h9
                  refine lv_iload hx hb dX11_lists_104 (lv_at hl 0 rfl) ?_
                  refine lv_iconst (v := 1) hx hb dX11_lists_106 (by decide) ?_
                  refine lv_isub hx hb dX11_lists_107 ?_
                  refine lv_topi (fun v107 ev107 => ?_)
                  have tv107 : v107.toInt = p77_6.toInt - (1) := by rw [ev107]; exact sub_i rfl (by decide : (1 : Int32).toInt = 1) (by omega) (by omega)
                  refine t_ild hx hb hkb hH t_v101 (hO.no t_v101 (by decide)) (by omega) (by omega) dX11_lists_108 (fun v108 h9 => ?_)
                  refine lv_i2l hx hb dX11_lists_109 rfl ?_
                  exact J110 v108.toInt64 _ _ _  hH hS (lv_sub hl [0, 1, 2, 3, 4] rfl)
                · skip
                  have tc89 := f_eq (k := 0) (by decide) c89
                  refine lv_iload_n hx hb dX11_lists_92 rfl (lv_at hl 4 rfl) ?_
                  refine lv_i2l hx hb dX11_lists_93 rfl ?_
                  refine lv_goto (tgt := 110) hx hb dX11_lists_94 (by decide) ?_
                  exact J110 x2.toInt64 _ _ _  hH hS (lv_sub hl [0, 1, 2, 3, 4] rfl)
          refine lv_istore (lv' := [(6, .int 0), (5, .int v69), (4, .int v48), (3, .ref v23), (0, .ref a0), (1, .int x1), (2, .int x2)]) hx hb dX11_lists_75 hl (by decide) rfl (fun ls hl => ?_)
          exact J77 _ 0 _ _ _ rfl (by decide) (by decide) hH hS (lv_sub hl [0, 1, 3, 4, 6] rfl)
        · skip
          have tc55 := f_eq (k := 0) (by decide) c55
          refine lv_bipush (v := (-5)) hx hb dX11_lists_58 (by decide) ?_
          exact te_i hx hb hr hlocks hH hS (⟨rfl, by decide, by decide⟩) dX11_lists_60
      · skip
        have tc29 := f_ne (k := 0) (by decide) c29
        replace x_v260 := x_v260.resolve_left tc29
        clear x_v261
        refine lv_bipush (v := (-6)) hx hb dX11_lists_32 (by decide) ?_
        exact te_i hx hb hr hlocks hH hS (⟨rfl, by decide, by decide⟩) dX11_lists_34
    · skip
      have tc12 := f_eq (k := 0) (by decide) c12
      exact J15  _ _ _  hH hS (lv_sub hl [] rfl)
set_option maxHeartbeats 4000000 in
set_option maxRecDepth 100000 in
theorem s_FW_image (l : Launch) (D : va_G) (cs : CS) (kf : KF) (T : TF) (O : List Nat) (X : va_W) (a0 w hw gw ch gq : Nat) (x1 : Int32) (t_a0 : T a0 = some (21, w, ch)) (t_w : isW T w hw gw) (t_ch : T ch = some (10, gq, 0)) (hO : okO T O [1, 4, 5, 16, 19, 21]) : TK l D cs kf yX11_image cX11_image 2 (some (.int)) { frames := 2, cells := 0, slots := 0, locals := 81 } [.ref a0, .int x1] T O X (Ti D cs (fun r u => u = (T, O, X) ∧ -2 ≤ r.toInt ∧ r.toInt ≤ 0)) := by
  refine tk_of (by decide) (Nat.le_of_ble_eq_true rfl) (fun p e s m below meth c ls A H locs hx hb hr hml hown hts hlocks hnm hkb hH hS hA hOX hks hE hl => ?_)
  have hown : s.vm.findClass RX11 = some m.cls := hown
  have hl : lv_has ls 2 [(0, .ref a0), (1, .int x1)] := hl
  have b1_w := t_w.2.1
  have b2_w := t_w.2.2
  refine lv_iload_n hx hb dX11_image_0 rfl (lv_at hl 1 rfl) ?_
  refine tk_i hH hS hA (tr_S (n := 1) (As := [.int x1]) hx hb hml hown hts hkb hH hOX hks hE hS hA (s_FW_isImage l D cs kf T O X x1  (hO.sub (by decide))) kw_1202 kw_1203 kw_1 kw_1204 (by decide +kernel) ⟨Nat.le_of_ble_eq_true rfl, Nat.le_of_ble_eq_true rfl⟩ rfl rfl hl.1 (Nat.le_of_ble_eq_true rfl) dX11_image_1 ⟨Nat.le_of_ble_eq_true rfl, Nat.le_of_ble_eq_true rfl⟩) (fun v1 u H locs hz9 hH hS => ?_)
  obtain ⟨rfl, l_v1, u_v1, x_v10⟩ := hz9
  have hH : HT D cs A T O X H := hH
  refine W.widen (k := 0) (n := 0) (Nat.le_of_ble_eq_true rfl) (Nat.le_of_ble_eq_true rfl) ?_
  refine lv_if_ne (tgt := 10) hx hb dX11_image_4 (by decide) (fun c4 => ?_) (fun c4 => ?_)
  · skip
    have tc4 := f_ne (k := 0) (by decide) c4
    refine lv_aload_n hx hb dX11_image_10 rfl (lv_at hl 0 rfl) ?_
    refine t_get (ci := 11) (lst := ft11 w ch) (C := RX11) (F := TX11) (N := 20) hx hb hts uX11 hown hkb hH t_a0 (hO.no t_a0 (by decide)) (fun _ h9 => h9) rfl rfl 9 (by decide) rfl kw_369 (fun _ h9 => h9) dX11_image_11 (fun v9 h9 => ?_)
    obtain ⟨v11, rfl, t_v11⟩ := h9
    refine lv_iload_n hx hb dX11_image_14 rfl (lv_at hl 1 rfl) ?_
    refine lv_aload_n hx hb dX11_image_15 rfl (lv_at hl 0 rfl) ?_
    refine t_get (ci := 11) (lst := ft11 w ch) (C := RX11) (F := TX11) (N := 20) hx hb hts uX11 hown hkb hH t_a0 (hO.no t_a0 (by decide)) (fun _ h9 => h9) rfl rfl 3 (by decide) rfl kw_363 (fun _ h9 => h9) dX11_image_16 (fun v9 h9 => ?_)
    have h9 : v9 = .ref w := h9
    subst h9
    refine t_qst5 hx hb hkb hH hS t_v11 (hO.no t_v11 (by decide)) t_w (hO.no t_w.1 (by decide)) (by omega) (by omega) dX11_image_19 (fun H locs hH hS => ?_)
    refine lv_aload_n hx hb dX11_image_20 rfl (lv_at hl 0 rfl) ?_
    refine t_get (ci := 11) (lst := ft11 w ch) (C := RX11) (F := TX11) (N := 20) hx hb hts uX11 hown hkb hH t_a0 (hO.no t_a0 (by decide)) (fun _ h9 => h9) rfl rfl 10 (by decide) rfl kw_370 (fun _ h9 => h9) dX11_image_21 (fun v9 h9 => ?_)
    obtain ⟨v21, rfl, t_v21⟩ := h9
    refine lv_iload_n hx hb dX11_image_24 rfl (lv_at hl 1 rfl) ?_
    refine t_qld4 hx hb hkb hH t_v21 (hO.no t_v21 (by decide)) (by omega) (by omega) dX11_image_25 (fun v25 t_v25 => ?_)
    refine lv_aload_n hx hb dX11_image_26 rfl (lv_at hl 0 rfl) ?_
    refine t_get (ci := 11) (lst := ft11 w ch) (C := RX11) (F := TX11) (N := 20) hx hb hts uX11 hown hkb hH t_a0 (hO.no t_a0 (by decide)) (fun _ h9 => h9) rfl rfl 4 (by decide) rfl kw_364 (fun _ h9 => h9) dX11_image_27 (fun v9 h9 => ?_)
    obtain ⟨v27, rfl, t_v27⟩ := h9
    refine tk_v hH hS hA (tr_V (n := 1) (As := [.ref v27]) hx hb hml hown hts hkb hH hOX hks hE hS hA (s_State_take l D cs kf T O X v25 v27 t_v25 t_v27 (hO.sub (by decide))) kw_757 kw_758 kw_759 kw_7 kw_760 (by decide +kernel) ⟨Nat.le_of_ble_eq_true rfl, Nat.le_of_ble_eq_true rfl⟩ (HT.recv (ci := 6) hkb hH t_v25 (hO.no t_v25 (by decide)) rfl) rfl rfl hl.1 (Nat.le_of_ble_eq_true rfl) dX11_image_30 ⟨Nat.le_of_ble_eq_true rfl, Nat.le_of_ble_eq_true rfl⟩) (fun u H locs hz9 hH hS => ?_)
    have hz9 : u = (T, O, X) := hz9
    subst hz9
    have hH : HT D cs A T O X H := hH
    refine W.widen (k := 0) (n := 0) (Nat.le_of_ble_eq_true rfl) (Nat.le_of_ble_eq_true rfl) ?_
    refine lv_iconst (v := 0) hx hb dX11_image_33 (by decide) ?_
    exact te_i hx hb hr hlocks hH hS (⟨rfl, by decide, by decide⟩) dX11_image_34
  · skip
    have tc4 := f_eq (k := 0) (by decide) c4
    refine lv_bipush (v := (-2)) hx hb dX11_image_7 (by decide) ?_
    exact te_i hx hb hr hlocks hH hS (⟨rfl, by decide, by decide⟩) dX11_image_9
set_option maxHeartbeats 4000000 in
set_option maxRecDepth 100000 in
theorem s_FW_count (l : Launch) (D : va_G) (cs : CS) (kf : KF) (T : TF) (O : List Nat) (X : va_W) (a0 w hw gw ch gq : Nat) (x1 : Int32) (t_a0 : T a0 = some (21, w, ch)) (t_w : isW T w hw gw) (t_ch : T ch = some (10, gq, 0)) (hO : okO T O [1, 16, 19, 21]) : TK l D cs kf yX11_count cX11_count 2 (some (.int)) { frames := 4, cells := 0, slots := 0, locals := 85 } [.ref a0, .int x1] T O X (Ti D cs (fun r u => u = (T, O, X))) := by
  refine tk_of (by decide) (Nat.le_of_ble_eq_true rfl) (fun p e s m below meth c ls A H locs hx hb hr hml hown hts hlocks hnm hkb hH hS hA hOX hks hE hl => ?_)
  have hown : s.vm.findClass RX11 = some m.cls := hown
  have hl : lv_has ls 2 [(0, .ref a0), (1, .int x1)] := hl
  have b1_w := t_w.2.1
  have b2_w := t_w.2.2
  refine lv_iload_n hx hb dX11_count_0 rfl (lv_at hl 1 rfl) ?_
  by_cases c1_0 : x1 = 0
  · skip
    refine lv_topc c1_0 ?_
    have tc1_0 := f_eq (k := 0) (by decide) c1_0
    refine lv_tableIn (off := 55) (tgt := 56) hx hb dX11_count_1 (by decide) (by decide) (by decide) (by decide) ?_
    refine lv_aload_n hx hb dX11_count_56 rfl (lv_at hl 0 rfl) ?_
    refine t_get (ci := 11) (lst := ft11 w ch) (C := RX11) (F := TX11) (N := 20) hx hb hts uX11 hown hkb hH t_a0 (hO.no t_a0 (by decide)) (fun _ h9 => h9) rfl rfl 3 (by decide) rfl kw_363 (fun _ h9 => h9) dX11_count_57 (fun v9 h9 => ?_)
    have h9 : v9 = .ref w := h9
    subst h9
    refine t_get (ci := 9) (lst := ft9w hw gw) (C := RX9) (F := TX9) (N := 14) hx hb hts uX9 hown hkb hH t_w.1 (hO.no t_w.1 (by decide)) (fun fs => (ob9w t_w fs).mp) rfl rfl 0 (by decide) rfl kw_109 (fun _ h9 => h9) dX11_count_60 (fun v9 h9 => ?_)
    have h9 : v9 = .int (nI hw) := h9
    subst h9
    have e_hw : (nI hw).toInt = hw := nI_toInt (by have := t_w.2.1; omega)
    have b_hw := t_w.2.1
    exact te_i hx hb hr hlocks hH hS (rfl) dX11_count_63
  have tc1_0 := f_ne (k := 0) (by decide) c1_0
  by_cases c1_1 : x1 = 1
  · skip
    refine lv_topc c1_1 ?_
    have tc1_1 := f_eq (k := 1) (by decide) c1_1
    refine lv_tableIn (off := 63) (tgt := 64) hx hb dX11_count_1 (by decide) (by decide) (by decide) (by decide) ?_
    refine lv_aload_n hx hb dX11_count_64 rfl (lv_at hl 0 rfl) ?_
    refine t_get (ci := 11) (lst := ft11 w ch) (C := RX11) (F := TX11) (N := 20) hx hb hts uX11 hown hkb hH t_a0 (hO.no t_a0 (by decide)) (fun _ h9 => h9) rfl rfl 3 (by decide) rfl kw_363 (fun _ h9 => h9) dX11_count_65 (fun v9 h9 => ?_)
    have h9 : v9 = .ref w := h9
    subst h9
    refine t_get (ci := 9) (lst := ft9w hw gw) (C := RX9) (F := TX9) (N := 14) hx hb hts uX9 hown hkb hH t_w.1 (hO.no t_w.1 (by decide)) (fun fs => (ob9w t_w fs).mp) rfl rfl 1 (by decide) rfl kw_112 (fun _ h9 => h9) dX11_count_68 (fun v9 h9 => ?_)
    have h9 : v9 = .int (nI gw) := h9
    subst h9
    have e_gw : (nI gw).toInt = gw := nI_toInt (by have := t_w.2.2; omega)
    have b_gw := t_w.2.2
    exact te_i hx hb hr hlocks hH hS (rfl) dX11_count_71
  have tc1_1 := f_ne (k := 1) (by decide) c1_1
  by_cases c1_2 : x1 = 2
  · skip
    refine lv_topc c1_2 ?_
    have tc1_2 := f_eq (k := 2) (by decide) c1_2
    refine lv_tableIn (off := 71) (tgt := 72) hx hb dX11_count_1 (by decide) (by decide) (by decide) (by decide) ?_
    refine lv_aload_n hx hb dX11_count_72 rfl (lv_at hl 0 rfl) ?_
    refine t_get (ci := 11) (lst := ft11 w ch) (C := RX11) (F := TX11) (N := 20) hx hb hts uX11 hown hkb hH t_a0 (hO.no t_a0 (by decide)) (fun _ h9 => h9) rfl rfl 4 (by decide) rfl kw_364 (fun _ h9 => h9) dX11_count_73 (fun v9 h9 => ?_)
    obtain ⟨v73, rfl, t_v73⟩ := h9
    refine t_get (ci := 6) (lst := ft6 0 0) (C := RX6) (F := TX6) (N := 6) hx hb hts uX6 hown hkb hH t_v73 (hO.no t_v73 (by decide)) (fun _ h9 => h9) rfl rfl 2 (by decide) rfl kw_191 (fun _ h9 => h9) dX11_count_76 (fun v9 h9 => ?_)
    obtain ⟨v76, rfl⟩ := h9
    exact te_i hx hb hr hlocks hH hS (rfl) dX11_count_79
  have tc1_2 := f_ne (k := 2) (by decide) c1_2
  by_cases c1_3 : x1 = 3
  · skip
    refine lv_topc c1_3 ?_
    have tc1_3 := f_eq (k := 3) (by decide) c1_3
    refine lv_tableIn (off := 79) (tgt := 80) hx hb dX11_count_1 (by decide) (by decide) (by decide) (by decide) ?_
    refine lv_aload_n hx hb dX11_count_80 rfl (lv_at hl 0 rfl) ?_
    refine t_get (ci := 11) (lst := ft11 w ch) (C := RX11) (F := TX11) (N := 20) hx hb hts uX11 hown hkb hH t_a0 (hO.no t_a0 (by decide)) (fun _ h9 => h9) rfl rfl 4 (by decide) rfl kw_364 (fun _ h9 => h9) dX11_count_81 (fun v9 h9 => ?_)
    obtain ⟨v81, rfl, t_v81⟩ := h9
    refine t_get (ci := 6) (lst := ft6 0 0) (C := RX6) (F := TX6) (N := 6) hx hb hts uX6 hown hkb hH t_v81 (hO.no t_v81 (by decide)) (fun _ h9 => h9) rfl rfl 3 (by decide) rfl kw_193 (fun _ h9 => h9) dX11_count_84 (fun v9 h9 => ?_)
    obtain ⟨v84, rfl⟩ := h9
    exact te_i hx hb hr hlocks hH hS (rfl) dX11_count_87
  have tc1_3 := f_ne (k := 3) (by decide) c1_3
  by_cases c1_4 : x1 = 4
  · skip
    refine lv_topc c1_4 ?_
    have tc1_4 := f_eq (k := 4) (by decide) c1_4
    refine lv_tableIn (off := 87) (tgt := 88) hx hb dX11_count_1 (by decide) (by decide) (by decide) (by decide) ?_
    refine lv_aload_n hx hb dX11_count_88 rfl (lv_at hl 0 rfl) ?_
    refine t_get (ci := 11) (lst := ft11 w ch) (C := RX11) (F := TX11) (N := 20) hx hb hts uX11 hown hkb hH t_a0 (hO.no t_a0 (by decide)) (fun _ h9 => h9) rfl rfl 4 (by decide) rfl kw_364 (fun _ h9 => h9) dX11_count_89 (fun v9 h9 => ?_)
    obtain ⟨v89, rfl, t_v89⟩ := h9
    refine t_get (ci := 6) (lst := ft6 0 0) (C := RX6) (F := TX6) (N := 6) hx hb hts uX6 hown hkb hH t_v89 (hO.no t_v89 (by decide)) (fun _ h9 => h9) rfl rfl 0 (by decide) rfl kw_186 (fun _ h9 => h9) dX11_count_92 (fun v9 h9 => ?_)
    obtain ⟨v92, rfl⟩ := h9
    refine tk_i hH hS hA (tr_S (n := 1) (As := [.int v92]) hx hb hml hown hts hkb hH hOX hks hE hS hA (s_bitCount l D cs kf T O X v92  (hO.sub (by decide))) kw_893 kw_692 kw_20 kw_693 (by decide +kernel) ⟨Nat.le_of_ble_eq_true rfl, Nat.le_of_ble_eq_true rfl⟩ rfl rfl hl.1 (Nat.le_of_ble_eq_true rfl) dX11_count_95 ⟨Nat.le_of_ble_eq_true rfl, Nat.le_of_ble_eq_true rfl⟩) (fun v95 u H locs hz9 hH hS => ?_)
    obtain ⟨rfl, l_v95, u_v95⟩ := hz9
    have hH : HT D cs A T O X H := hH
    refine W.widen (k := 0) (n := 0) (Nat.le_of_ble_eq_true rfl) (Nat.le_of_ble_eq_true rfl) ?_
    exact te_i hx hb hr hlocks hH hS (rfl) dX11_count_98
  have tc1_4 := f_ne (k := 4) (by decide) c1_4
  by_cases c1_5 : x1 = 5
  · skip
    refine lv_topc c1_5 ?_
    have tc1_5 := f_eq (k := 5) (by decide) c1_5
    refine lv_tableIn (off := 98) (tgt := 99) hx hb dX11_count_1 (by decide) (by decide) (by decide) (by decide) ?_
    refine lv_aload_n hx hb dX11_count_99 rfl (lv_at hl 0 rfl) ?_
    refine tk_i hH hS hA (tr_V (n := 0) (As := []) hx hb hml hown hts hkb hH hOX hks hE hS hA (s_FW_openNow l D cs kf T O X a0 w hw gw ch gq t_a0 t_w t_ch (hO.sub (by decide))) kw_846 kw_848 ks_22 kw_1 kw_849 (by decide +kernel) ⟨Nat.le_of_ble_eq_true rfl, Nat.le_of_ble_eq_true rfl⟩ (HT.recv (ci := 11) hkb hH t_a0 (hO.no t_a0 (by decide)) rfl) rfl rfl hl.1 (Nat.le_of_ble_eq_true rfl) dX11_count_100 ⟨Nat.le_of_ble_eq_true rfl, Nat.le_of_ble_eq_true rfl⟩) (fun v100 u H locs hz9 hH hS => ?_)
    obtain ⟨rfl, l_v100, u_v100⟩ := hz9
    have hH : HT D cs A T O X H := hH
    refine W.widen (k := 0) (n := 0) (Nat.le_of_ble_eq_true rfl) (Nat.le_of_ble_eq_true rfl) ?_
    refine tk_i hH hS hA (tr_S (n := 1) (As := [.int v100]) hx hb hml hown hts hkb hH hOX hks hE hS hA (s_bitCount l D cs kf T O X v100  (hO.sub (by decide))) kw_893 kw_692 kw_20 kw_693 (by decide +kernel) ⟨Nat.le_of_ble_eq_true rfl, Nat.le_of_ble_eq_true rfl⟩ rfl rfl hl.1 (Nat.le_of_ble_eq_true rfl) dX11_count_103 ⟨Nat.le_of_ble_eq_true rfl, Nat.le_of_ble_eq_true rfl⟩) (fun v103 u H locs hz9 hH hS => ?_)
    obtain ⟨rfl, l_v103, u_v103⟩ := hz9
    have hH : HT D cs A T O X H := hH
    refine W.widen (k := 0) (n := 0) (Nat.le_of_ble_eq_true rfl) (Nat.le_of_ble_eq_true rfl) ?_
    exact te_i hx hb hr hlocks hH hS (rfl) dX11_count_106
  have tc1_5 := f_ne (k := 5) (by decide) c1_5
  by_cases c1_6 : x1 = 6
  · skip
    refine lv_topc c1_6 ?_
    have tc1_6 := f_eq (k := 6) (by decide) c1_6
    refine lv_tableIn (off := 106) (tgt := 107) hx hb dX11_count_1 (by decide) (by decide) (by decide) (by decide) ?_
    refine lv_aload_n hx hb dX11_count_107 rfl (lv_at hl 0 rfl) ?_
    refine t_get (ci := 11) (lst := ft11 w ch) (C := RX11) (F := TX11) (N := 20) hx hb hts uX11 hown hkb hH t_a0 (hO.no t_a0 (by decide)) (fun _ h9 => h9) rfl rfl 7 (by decide) rfl kw_367 (fun _ h9 => h9) dX11_count_108 (fun v9 h9 => ?_)
    obtain ⟨v108, rfl, l_v108, u_v108⟩ := h9
    exact te_i hx hb hr hlocks hH hS (rfl) dX11_count_111
  have tc1_6 := f_ne (k := 6) (by decide) c1_6
  by_cases c1_7 : x1 = 7
  · skip
    refine lv_topc c1_7 ?_
    have tc1_7 := f_eq (k := 7) (by decide) c1_7
    refine lv_tableIn (off := 111) (tgt := 112) hx hb dX11_count_1 (by decide) (by decide) (by decide) (by decide) ?_
    refine lv_aload_n hx hb dX11_count_112 rfl (lv_at hl 0 rfl) ?_
    refine t_get (ci := 11) (lst := ft11 w ch) (C := RX11) (F := TX11) (N := 20) hx hb hts uX11 hown hkb hH t_a0 (hO.no t_a0 (by decide)) (fun _ h9 => h9) rfl rfl 1 (by decide) rfl kw_361 (fun _ h9 => h9) dX11_count_113 (fun v9 h9 => ?_)
    obtain ⟨v113, rfl, l_v113, u_v113⟩ := h9
    exact te_i hx hb hr hlocks hH hS (rfl) dX11_count_116
  have tc1_7 := f_ne (k := 7) (by decide) c1_7
  by_cases c1_8 : x1 = 8
  · skip
    refine lv_topc c1_8 ?_
    have tc1_8 := f_eq (k := 8) (by decide) c1_8
    refine lv_tableIn (off := 116) (tgt := 117) hx hb dX11_count_1 (by decide) (by decide) (by decide) (by decide) ?_
    refine lv_aload_n hx hb dX11_count_117 rfl (lv_at hl 0 rfl) ?_
    refine t_get (ci := 11) (lst := ft11 w ch) (C := RX11) (F := TX11) (N := 20) hx hb hts uX11 hown hkb hH t_a0 (hO.no t_a0 (by decide)) (fun _ h9 => h9) rfl rfl 3 (by decide) rfl kw_363 (fun _ h9 => h9) dX11_count_118 (fun v9 h9 => ?_)
    have h9 : v9 = .ref w := h9
    subst h9
    refine t_get (ci := 9) (lst := ft9w hw gw) (C := RX9) (F := TX9) (N := 14) hx hb hts uX9 hown hkb hH t_w.1 (hO.no t_w.1 (by decide)) (fun fs => (ob9w t_w fs).mp) rfl rfl 2 (by decide) rfl kw_115 (fun _ h9 => h9) dX11_count_121 (fun v9 h9 => ?_)
    obtain ⟨v121, rfl⟩ := h9
    exact te_i hx hb hr hlocks hH hS (rfl) dX11_count_124
  have tc1_8 := f_ne (k := 8) (by decide) c1_8
  by_cases c1_9 : x1 = 9
  · skip
    refine lv_topc c1_9 ?_
    have tc1_9 := f_eq (k := 9) (by decide) c1_9
    refine lv_tableIn (off := 124) (tgt := 125) hx hb dX11_count_1 (by decide) (by decide) (by decide) (by decide) ?_
    refine lv_aload_n hx hb dX11_count_125 rfl (lv_at hl 0 rfl) ?_
    refine t_get (ci := 11) (lst := ft11 w ch) (C := RX11) (F := TX11) (N := 20) hx hb hts uX11 hown hkb hH t_a0 (hO.no t_a0 (by decide)) (fun _ h9 => h9) rfl rfl 4 (by decide) rfl kw_364 (fun _ h9 => h9) dX11_count_126 (fun v9 h9 => ?_)
    obtain ⟨v126, rfl, t_v126⟩ := h9
    refine t_get (ci := 6) (lst := ft6 0 0) (C := RX6) (F := TX6) (N := 6) hx hb hts uX6 hown hkb hH t_v126 (hO.no t_v126 (by decide)) (fun _ h9 => h9) rfl rfl 1 (by decide) rfl kw_188 (fun _ h9 => h9) dX11_count_129 (fun v9 h9 => ?_)
    obtain ⟨v129, rfl⟩ := h9
    refine tk_i hH hS hA (tr_S (n := 1) (As := [.int v129]) hx hb hml hown hts hkb hH hOX hks hE hS hA (s_bitCount l D cs kf T O X v129  (hO.sub (by decide))) kw_893 kw_692 kw_20 kw_693 (by decide +kernel) ⟨Nat.le_of_ble_eq_true rfl, Nat.le_of_ble_eq_true rfl⟩ rfl rfl hl.1 (Nat.le_of_ble_eq_true rfl) dX11_count_132 ⟨Nat.le_of_ble_eq_true rfl, Nat.le_of_ble_eq_true rfl⟩) (fun v132 u H locs hz9 hH hS => ?_)
    obtain ⟨rfl, l_v132, u_v132⟩ := hz9
    have hH : HT D cs A T O X H := hH
    refine W.widen (k := 0) (n := 0) (Nat.le_of_ble_eq_true rfl) (Nat.le_of_ble_eq_true rfl) ?_
    exact te_i hx hb hr hlocks hH hS (rfl) dX11_count_135
  have tc1_9 := f_ne (k := 9) (by decide) c1_9
  refine lv_tableOut (tgt := 136) hx hb dX11_count_1 (by omega) (by decide) ?_
  refine lv_iconst (v := (-1)) hx hb dX11_count_136 (by decide) ?_
  exact te_i hx hb hr hlocks hH hS (rfl) dX11_count_137
theorem dX10_climbsUpTo_0 : decode cX10_climbsUpTo 0 = .ok (.iload_n 2, 1) := by decide +kernel
theorem dX10_climbsUpTo_1 : decode cX10_climbsUpTo 1 = .ok (.aload_n 1, 1) := by decide +kernel
theorem dX10_climbsUpTo_2 : decode cX10_climbsUpTo 2 = .ok (.getfield 55, 3) := by decide +kernel
theorem dX10_climbsUpTo_5 : decode cX10_climbsUpTo 5 = .ok (.getfield 64, 3) := by decide +kernel
theorem dX10_climbsUpTo_8 : decode cX10_climbsUpTo 8 = .ok (.iand, 1) := by decide +kernel
theorem dX10_climbsUpTo_9 : decode cX10_climbsUpTo 9 = .ok (.istore 4, 2) := by decide +kernel
theorem dX10_climbsUpTo_11 : decode cX10_climbsUpTo 11 = .ok (.iload_n 2, 1) := by decide +kernel
theorem dX10_climbsUpTo_12 : decode cX10_climbsUpTo 12 = .ok (.aload_n 1, 1) := by decide +kernel
theorem dX10_climbsUpTo_13 : decode cX10_climbsUpTo 13 = .ok (.getfield 55, 3) := by decide +kernel
theorem dX10_climbsUpTo_16 : decode cX10_climbsUpTo 16 = .ok (.getfield 59, 3) := by decide +kernel
theorem dX10_climbsUpTo_19 : decode cX10_climbsUpTo 19 = .ok (.iand, 1) := by decide +kernel
theorem dX10_climbsUpTo_20 : decode cX10_climbsUpTo 20 = .ok (.istore 5, 2) := by decide +kernel
theorem dX10_climbsUpTo_22 : decode cX10_climbsUpTo 22 = .ok (.iload_n 2, 1) := by decide +kernel
theorem dX10_climbsUpTo_23 : decode cX10_climbsUpTo 23 = .ok (.iload 4, 2) := by decide +kernel
theorem dX10_climbsUpTo_25 : decode cX10_climbsUpTo 25 = .ok (.iconst (-1), 1) := by decide +kernel
theorem dX10_climbsUpTo_26 : decode cX10_climbsUpTo 26 = .ok (.ixor, 1) := by decide +kernel
theorem dX10_climbsUpTo_27 : decode cX10_climbsUpTo 27 = .ok (.iand, 1) := by decide +kernel
theorem dX10_climbsUpTo_28 : decode cX10_climbsUpTo 28 = .ok (.istore 6, 2) := by decide +kernel
theorem dX10_climbsUpTo_30 : decode cX10_climbsUpTo 30 = .ok (.aload_n 0, 1) := by decide +kernel
theorem dX10_climbsUpTo_31 : decode cX10_climbsUpTo 31 = .ok (.iconst 0, 1) := by decide +kernel
theorem dX10_climbsUpTo_32 : decode cX10_climbsUpTo 32 = .ok (.putfield 32, 3) := by decide +kernel
theorem dX10_climbsUpTo_35 : decode cX10_climbsUpTo 35 = .ok (.iconst 0, 1) := by decide +kernel
theorem dX10_climbsUpTo_36 : decode cX10_climbsUpTo 36 = .ok (.istore 7, 2) := by decide +kernel
theorem dX10_climbsUpTo_38 : decode cX10_climbsUpTo 38 = .ok (.iload 7, 2) := by decide +kernel
theorem dX10_climbsUpTo_40 : decode cX10_climbsUpTo 40 = .ok (.bipush 14, 2) := by decide +kernel
theorem dX10_climbsUpTo_42 : decode cX10_climbsUpTo 42 = .ok (.if_icmp .ge 46, 3) := by decide +kernel
theorem dX10_climbsUpTo_45 : decode cX10_climbsUpTo 45 = .ok (.iload 4, 2) := by decide +kernel
theorem dX10_climbsUpTo_47 : decode cX10_climbsUpTo 47 = .ok (.iload 7, 2) := by decide +kernel
theorem dX10_climbsUpTo_49 : decode cX10_climbsUpTo 49 = .ok (.ishr, 1) := by decide +kernel
theorem dX10_climbsUpTo_50 : decode cX10_climbsUpTo 50 = .ok (.iconst 1, 1) := by decide +kernel
theorem dX10_climbsUpTo_51 : decode cX10_climbsUpTo 51 = .ok (.iand, 1) := by decide +kernel
theorem dX10_climbsUpTo_52 : decode cX10_climbsUpTo 52 = .ok (.ifCond .eq 30, 3) := by decide +kernel
theorem dX10_climbsUpTo_55 : decode cX10_climbsUpTo 55 = .ok (.aload_n 0, 1) := by decide +kernel
theorem dX10_climbsUpTo_56 : decode cX10_climbsUpTo 56 = .ok (.getfield 29, 3) := by decide +kernel
theorem dX10_climbsUpTo_59 : decode cX10_climbsUpTo 59 = .ok (.aload_n 0, 1) := by decide +kernel
theorem dX10_climbsUpTo_60 : decode cX10_climbsUpTo 60 = .ok (.getfield 32, 3) := by decide +kernel
theorem dX10_climbsUpTo_63 : decode cX10_climbsUpTo 63 = .ok (.aload_n 1, 1) := by decide +kernel
theorem dX10_climbsUpTo_64 : decode cX10_climbsUpTo 64 = .ok (.iload 6, 2) := by decide +kernel
theorem dX10_climbsUpTo_66 : decode cX10_climbsUpTo 66 = .ok (.iload 7, 2) := by decide +kernel
theorem dX10_climbsUpTo_68 : decode cX10_climbsUpTo 68 = .ok (.invokestatic 81, 3) := by decide +kernel
theorem dX10_climbsUpTo_71 : decode cX10_climbsUpTo 71 = .ok (.iastore, 1) := by decide +kernel
theorem dX10_climbsUpTo_72 : decode cX10_climbsUpTo 72 = .ok (.aload_n 0, 1) := by decide +kernel
theorem dX10_climbsUpTo_73 : decode cX10_climbsUpTo 73 = .ok (.dup, 1) := by decide +kernel
theorem dX10_climbsUpTo_74 : decode cX10_climbsUpTo 74 = .ok (.getfield 32, 3) := by decide +kernel
theorem dX10_climbsUpTo_77 : decode cX10_climbsUpTo 77 = .ok (.iconst 1, 1) := by decide +kernel
theorem dX10_climbsUpTo_78 : decode cX10_climbsUpTo 78 = .ok (.iadd, 1) := by decide +kernel
theorem dX10_climbsUpTo_79 : decode cX10_climbsUpTo 79 = .ok (.putfield 32, 3) := by decide +kernel
theorem dX10_climbsUpTo_82 : decode cX10_climbsUpTo 82 = .ok (.iinc 7 1, 3) := by decide +kernel
theorem dX10_climbsUpTo_85 : decode cX10_climbsUpTo 85 = .ok (.goto (-47), 3) := by decide +kernel
theorem dX10_climbsUpTo_88 : decode cX10_climbsUpTo 88 = .ok (.iload 5, 2) := by decide +kernel
theorem dX10_climbsUpTo_90 : decode cX10_climbsUpTo 90 = .ok (.iload 4, 2) := by decide +kernel
theorem dX10_climbsUpTo_92 : decode cX10_climbsUpTo 92 = .ok (.iand, 1) := by decide +kernel
theorem dX10_climbsUpTo_93 : decode cX10_climbsUpTo 93 = .ok (.invokestatic 85, 3) := by decide +kernel
theorem dX10_climbsUpTo_96 : decode cX10_climbsUpTo 96 = .ok (.i2l, 1) := by decide +kernel
theorem dX10_climbsUpTo_97 : decode cX10_climbsUpTo 97 = .ok (.lstore 7, 2) := by decide +kernel
theorem dX10_climbsUpTo_99 : decode cX10_climbsUpTo 99 = .ok (.iconst 0, 1) := by decide +kernel
theorem dX10_climbsUpTo_100 : decode cX10_climbsUpTo 100 = .ok (.istore 9, 2) := by decide +kernel
theorem dX10_climbsUpTo_102 : decode cX10_climbsUpTo 102 = .ok (.iload 9, 2) := by decide +kernel
theorem dX10_climbsUpTo_104 : decode cX10_climbsUpTo 104 = .ok (.bipush 14, 2) := by decide +kernel
theorem dX10_climbsUpTo_106 : decode cX10_climbsUpTo 106 = .ok (.if_icmp .ge 46, 3) := by decide +kernel
theorem dX10_climbsUpTo_109 : decode cX10_climbsUpTo 109 = .ok (.iload 5, 2) := by decide +kernel
theorem dX10_climbsUpTo_111 : decode cX10_climbsUpTo 111 = .ok (.iload 6, 2) := by decide +kernel
theorem dX10_climbsUpTo_113 : decode cX10_climbsUpTo 113 = .ok (.iand, 1) := by decide +kernel
theorem dX10_climbsUpTo_114 : decode cX10_climbsUpTo 114 = .ok (.iload 9, 2) := by decide +kernel
theorem dX10_climbsUpTo_116 : decode cX10_climbsUpTo 116 = .ok (.ishr, 1) := by decide +kernel
theorem dX10_climbsUpTo_117 : decode cX10_climbsUpTo 117 = .ok (.iconst 1, 1) := by decide +kernel
theorem dX10_climbsUpTo_118 : decode cX10_climbsUpTo 118 = .ok (.iand, 1) := by decide +kernel
theorem dX10_climbsUpTo_119 : decode cX10_climbsUpTo 119 = .ok (.ifCond .eq 27, 3) := by decide +kernel
theorem dX10_climbsUpTo_122 : decode cX10_climbsUpTo 122 = .ok (.lload 7, 2) := by decide +kernel
theorem dX10_climbsUpTo_124 : decode cX10_climbsUpTo 124 = .ok (.aload_n 0, 1) := by decide +kernel
theorem dX10_climbsUpTo_125 : decode cX10_climbsUpTo 125 = .ok (.aload_n 1, 1) := by decide +kernel
theorem dX10_climbsUpTo_126 : decode cX10_climbsUpTo 126 = .ok (.iload 9, 2) := by decide +kernel
theorem dX10_climbsUpTo_128 : decode cX10_climbsUpTo 128 = .ok (.iload 6, 2) := by decide +kernel
theorem dX10_climbsUpTo_130 : decode cX10_climbsUpTo 130 = .ok (.iconst 1, 1) := by decide +kernel
theorem dX10_climbsUpTo_131 : decode cX10_climbsUpTo 131 = .ok (.iload 9, 2) := by decide +kernel
theorem dX10_climbsUpTo_133 : decode cX10_climbsUpTo 133 = .ok (.ishl, 1) := by decide +kernel
theorem dX10_climbsUpTo_134 : decode cX10_climbsUpTo 134 = .ok (.iconst (-1), 1) := by decide +kernel
theorem dX10_climbsUpTo_135 : decode cX10_climbsUpTo 135 = .ok (.ixor, 1) := by decide +kernel
theorem dX10_climbsUpTo_136 : decode cX10_climbsUpTo 136 = .ok (.iand, 1) := by decide +kernel
theorem dX10_climbsUpTo_137 : decode cX10_climbsUpTo 137 = .ok (.iload_n 3, 1) := by decide +kernel
theorem dX10_climbsUpTo_138 : decode cX10_climbsUpTo 138 = .ok (.iconst 1, 1) := by decide +kernel
theorem dX10_climbsUpTo_139 : decode cX10_climbsUpTo 139 = .ok (.isub, 1) := by decide +kernel
theorem dX10_climbsUpTo_140 : decode cX10_climbsUpTo 140 = .ok (.invokevirtual 88, 3) := by decide +kernel
theorem dX10_climbsUpTo_143 : decode cX10_climbsUpTo 143 = .ok (.ladd, 1) := by decide +kernel
theorem dX10_climbsUpTo_144 : decode cX10_climbsUpTo 144 = .ok (.lstore 7, 2) := by decide +kernel
theorem dX10_climbsUpTo_146 : decode cX10_climbsUpTo 146 = .ok (.iinc 9 1, 3) := by decide +kernel
theorem dX10_climbsUpTo_149 : decode cX10_climbsUpTo 149 = .ok (.goto (-47), 3) := by decide +kernel
theorem dX10_climbsUpTo_152 : decode cX10_climbsUpTo 152 = .ok (.lload 7, 2) := by decide +kernel
theorem dX10_climbsUpTo_154 : decode cX10_climbsUpTo 154 = .ok (.lreturn, 1) := by decide +kernel
theorem dX11_climbs_0 : decode cX11_climbs 0 = .ok (.aload_n 0, 1) := by decide +kernel
theorem dX11_climbs_1 : decode cX11_climbs 1 = .ok (.iload_n 1, 1) := by decide +kernel
theorem dX11_climbs_2 : decode cX11_climbs 2 = .ok (.invokevirtual 186, 3) := by decide +kernel
theorem dX11_climbs_5 : decode cX11_climbs 5 = .ok (.ifCond .ne 7, 3) := by decide +kernel
theorem dX11_climbs_8 : decode cX11_climbs 8 = .ok (.ldc2_w 314, 3) := by decide +kernel
theorem dX11_climbs_11 : decode cX11_climbs 11 = .ok (.lreturn, 1) := by decide +kernel
theorem dX11_climbs_12 : decode cX11_climbs 12 = .ok (.iload_n 2, 1) := by decide +kernel
theorem dX11_climbs_13 : decode cX11_climbs 13 = .ok (.iconst 1, 1) := by decide +kernel
theorem dX11_climbs_14 : decode cX11_climbs 14 = .ok (.if_icmp .lt 9, 3) := by decide +kernel
theorem dX11_climbs_17 : decode cX11_climbs 17 = .ok (.iload_n 2, 1) := by decide +kernel
theorem dX11_climbs_18 : decode cX11_climbs 18 = .ok (.bipush 7, 2) := by decide +kernel
theorem dX11_climbs_20 : decode cX11_climbs 20 = .ok (.if_icmp .le 7, 3) := by decide +kernel
theorem dX11_climbs_23 : decode cX11_climbs 23 = .ok (.ldc2_w 316, 3) := by decide +kernel
theorem dX11_climbs_26 : decode cX11_climbs 26 = .ok (.lreturn, 1) := by decide +kernel
theorem dX11_climbs_27 : decode cX11_climbs 27 = .ok (.aload_n 0, 1) := by decide +kernel
theorem dX11_climbs_28 : decode cX11_climbs 28 = .ok (.getfield 82, 3) := by decide +kernel
theorem dX11_climbs_31 : decode cX11_climbs 31 = .ok (.aload_n 0, 1) := by decide +kernel
theorem dX11_climbs_32 : decode cX11_climbs 32 = .ok (.iload_n 1, 1) := by decide +kernel
theorem dX11_climbs_33 : decode cX11_climbs 33 = .ok (.invokevirtual 202, 3) := by decide +kernel
theorem dX11_climbs_36 : decode cX11_climbs 36 = .ok (.aload_n 0, 1) := by decide +kernel
theorem dX11_climbs_37 : decode cX11_climbs 37 = .ok (.invokevirtual 206, 3) := by decide +kernel
theorem dX11_climbs_40 : decode cX11_climbs 40 = .ok (.iload_n 2, 1) := by decide +kernel
theorem dX11_climbs_41 : decode cX11_climbs 41 = .ok (.invokevirtual 318, 3) := by decide +kernel
theorem dX11_climbs_44 : decode cX11_climbs 44 = .ok (.lreturn, 1) := by decide +kernel
theorem kw_993 : Cond.constantLong "FootholdWall" 316 (-3) ∈ gw := gw_of (tb_of 993 (by decide +kernel)) (by decide +kernel)
theorem kw_994 : Cond.methodLink "FootholdWall" 318 yX10_climbsUpTo ∈ gw := gw_of (tb_of 994 (by decide +kernel)) (by decide +kernel)
theorem kw_995 : Cond.instanceMethod yX10_climbsUpTo ∈ gw := gw_of (tb_of 995 (by decide +kernel)) (by decide +kernel)
theorem kw_996 : Cond.selects "FootholdWall$Ways" yX10_climbsUpTo yX10_climbsUpTo ∈ gw := gw_of (tb_of 996 (by decide +kernel)) (by decide +kernel)
theorem kw_997 : Cond.code yX10_climbsUpTo cX10_climbsUpTo 10 (some (.long)) ∈ gw := gw_of (tb_of 997 (by decide +kernel)) (by decide +kernel)
theorem kw_998 : Cond.methodLink "FootholdWall$Ways" 81 yX10_leadingTo ∈ gw := gw_of (tb_of 998 (by decide +kernel)) (by decide +kernel)
theorem kw_999 : Cond.static yX10_leadingTo ∈ gw := gw_of (tb_of 999 (by decide +kernel)) (by decide +kernel)
theorem kw_1000 : Cond.code yX10_leadingTo cX10_leadingTo 5 (some (.int)) ∈ gw := gw_of (tb_of 1000 (by decide +kernel)) (by decide +kernel)
set_option maxHeartbeats 4000000 in
set_option maxRecDepth 100000 in
theorem s_Ways_climbsUpTo (l : Launch) (D : va_G) (cs : CS) (kf : KF) (T : TF) (O : List Nat) (X : va_W) (a0 : Nat) (a1 : Nat) (x2 : Int32) (x3 : Int32) (t_a0 : T a0 = some (20, 0, 0)) (t_a1 : T a1 = some (15, 0, 0)) (l_x3 : 1 ≤ x3.toInt) (u_x3 : x3.toInt ≤ 7) (hO : okO T O [1, 12, 15, 19, 20]) : TK l D cs kf yX10_climbsUpTo cX10_climbsUpTo 10 (some (.long)) { frames := 9, cells := 0, slots := 0, locals := 241 } [.ref a0, .ref a1, .int x2, .int x3] T O X (Tl D cs (fun _ u => u = (T, O, X))) := by
  refine tk_of (by decide) (Nat.le_of_ble_eq_true rfl) (fun p e s m below meth c ls A H locs hx hb hr hml hown hts hlocks hnm hkb hH hS hA hOX hks hE hl => ?_)
  have hown : s.vm.findClass RX10 = some m.cls := hown
  have hl : lv_has ls 10 [(0, .ref a0), (1, .ref a1), (2, .int x2), (3, .int x3)] := hl
  have hO0 := hO
  obtain ⟨fs9, ho9, hH⟩ := hH.take t_a0 (hO0.no t_a0 (by decide))
  have hp0 : okL T (ft10 0 0) fs9 := ho9
  clear ho9
  obtain ⟨v9, fs9, rfl, h9, hp1⟩ := okL_i hp0
  obtain ⟨q0_0, rfl, t_q0_0⟩ := h9
  obtain ⟨v9, fs9, rfl, h9, hp2⟩ := okL_i hp1
  obtain ⟨q0_1, rfl, t_q0_1⟩ := h9
  obtain ⟨v9, fs9, rfl, h9, hp3⟩ := okL_i hp2
  obtain ⟨q0_2, rfl, l_q0_2, u_q0_2⟩ := h9
  obtain ⟨v9, fs9, rfl, h9, hp4⟩ := okL_i hp3
  obtain ⟨q0_3, rfl, t_q0_3⟩ := h9
  obtain ⟨v9, fs9, rfl, h9, hp5⟩ := okL_i hp4
  obtain ⟨q0_4, rfl, t_q0_4⟩ := h9
  obtain ⟨v9, fs9, rfl, h9, hp6⟩ := okL_i hp5
  obtain ⟨q0_5, rfl, t_q0_5⟩ := h9
  obtain ⟨v9, fs9, rfl, h9, hp7⟩ := okL_i hp6
  obtain ⟨q0_6, rfl, l_q0_6, u_q0_6⟩ := h9
  have hpz := okL_z hp7
  subst hpz
  have hH : HT D cs A T (a0 :: O) ((a0, .inr (10, [.ref q0_0, .ref q0_1, .int q0_2, .ref q0_3, .ref q0_4, .ref q0_5, .int q0_6])) :: X) H := hH
  have hO : okO T (a0 :: O) [1, 12, 15, 19] := okO.cons (hO0.sub (by decide)) t_a0 (by decide)
  refine lv_iload_n hx hb dX10_climbsUpTo_0 rfl (lv_at hl 2 rfl) ?_
  refine lv_aload_n hx hb dX10_climbsUpTo_1 rfl (lv_at hl 1 rfl) ?_
  refine t_get (ci := 5) (lst := ft5 0 0) (C := RX5) (F := TX5) (N := 6) hx hb hts uX5 hown hkb hH t_a1 (hO.no t_a1 (by decide)) (fun _ h9 => h9) rfl rfl 0 (by decide) rfl kw_246 (fun _ h9 => h9) dX10_climbsUpTo_2 (fun v9 h9 => ?_)
  obtain ⟨v2, hv2, gv2, rfl, t_v2⟩ := h9
  refine t_get (ci := 9) (lst := ft9w hv2 gv2) (C := RX9) (F := TX9) (N := 14) hx hb hts uX9 hown hkb hH t_v2.1 (hO.no t_v2.1 (by decide)) (fun fs => (ob9w t_v2 fs).mp) rfl rfl 4 (by decide) rfl kw_126 (fun _ h9 => h9) dX10_climbsUpTo_5 (fun v9 h9 => ?_)
  obtain ⟨v5, rfl, l_v5, u_v5⟩ := h9
  refine lv_iand hx hb dX10_climbsUpTo_8 ?_
  refine lv_topi (fun v8 ev8 => ?_)
  have tv8 : 0 ≤ v8.toInt ∧ v8.toInt ≤ v5.toInt := by rw [ev8]; exact and_r (by omega)
  refine lv_istore (lv' := [(4, .int v8), (0, .ref a0), (1, .ref a1), (2, .int x2), (3, .int x3)]) hx hb dX10_climbsUpTo_9 hl (by decide) rfl (fun ls hl => ?_)
  refine lv_iload_n hx hb dX10_climbsUpTo_11 rfl (lv_at hl 3 rfl) ?_
  refine lv_aload_n hx hb dX10_climbsUpTo_12 rfl (lv_at hl 2 rfl) ?_
  refine t_get (ci := 5) (lst := ft5 0 0) (C := RX5) (F := TX5) (N := 6) hx hb hts uX5 hown hkb hH t_a1 (hO.no t_a1 (by decide)) (fun _ h9 => h9) rfl rfl 0 (by decide) rfl kw_246 (fun _ h9 => h9) dX10_climbsUpTo_13 (fun v9 h9 => ?_)
  obtain ⟨v13, hv13, gv13, rfl, t_v13⟩ := h9
  refine t_get (ci := 9) (lst := ft9w hv13 gv13) (C := RX9) (F := TX9) (N := 14) hx hb hts uX9 hown hkb hH t_v13.1 (hO.no t_v13.1 (by decide)) (fun fs => (ob9w t_v13 fs).mp) rfl rfl 3 (by decide) rfl kw_118 (fun _ h9 => h9) dX10_climbsUpTo_16 (fun v9 h9 => ?_)
  obtain ⟨v16, rfl, l_v16, u_v16⟩ := h9
  refine lv_iand hx hb dX10_climbsUpTo_19 ?_
  refine lv_topi (fun v19 ev19 => ?_)
  have tv19 : 0 ≤ v19.toInt ∧ v19.toInt ≤ v16.toInt := by rw [ev19]; exact and_r (by omega)
  refine lv_istore (lv' := [(5, .int v19), (4, .int v8), (0, .ref a0), (1, .ref a1), (2, .int x2), (3, .int x3)]) hx hb dX10_climbsUpTo_20 hl (by decide) rfl (fun ls hl => ?_)
  refine lv_iload_n hx hb dX10_climbsUpTo_22 rfl (lv_at hl 4 rfl) ?_
  refine lv_iload hx hb dX10_climbsUpTo_23 (lv_at hl 1 rfl) ?_
  refine lv_iconst (v := (-1)) hx hb dX10_climbsUpTo_25 (by decide) ?_
  refine lv_ixor hx hb dX10_climbsUpTo_26 ?_
  refine lv_topi (fun v26 ev26 => ?_)
  refine lv_iand hx hb dX10_climbsUpTo_27 ?_
  refine lv_topi (fun v27 ev27 => ?_)
  refine lv_istore (lv' := [(6, .int v27), (5, .int v19), (4, .int v8), (0, .ref a0), (1, .ref a1), (2, .int x2), (3, .int x3)]) hx hb dX10_climbsUpTo_28 hl (by decide) rfl (fun ls hl => ?_)
  refine lv_aload_n hx hb dX10_climbsUpTo_30 rfl (lv_at hl 3 rfl) ?_
  refine lv_iconst (v := 0) hx hb dX10_climbsUpTo_31 (by decide) ?_
  refine x_put (ci := 10) (v := .int 0) (ty := tyX10 6) (C := RX10) (F := TX10) (N := 7) hx hb hts uX10 tyX10 tyX10_ok nmX10 hown hkb hH hS rfl 6 (by decide) kw_279 (fun _ h9 => h9) rfl (tyX10_ok 6 (by decide)) rfl rfl (Nat.le_of_ble_eq_true rfl) dX10_climbsUpTo_32 (fun H locs hH hS => ?_)
  have hH : HT D cs A T (a0 :: O) ((a0, .inr (10, [.ref q0_0, .ref q0_1, .int q0_2, .ref q0_3, .ref q0_4, .ref q0_5, .int 0])) :: X) H := hH
  refine lv_iconst (v := 0) hx hb dX10_climbsUpTo_35 (by decide) ?_
  have J38 : ∀ (n : Nat) (p38_7 : Int32) (f38_6 : Int32) (H : Heap) (locs : List Loc) (ls : Array Slot), (14 - p38_7.toInt).toNat = n → (0 ≤ p38_7.toInt) → (p38_7.toInt ≤ 14) → (0 ≤ f38_6.toInt) → (f38_6.toInt ≤ 14) → (f38_6.toInt ≤ p38_7.toInt) → HT D cs A T (a0 :: O) ((a0, .inr (10, [.ref q0_0, .ref q0_1, .int q0_2, .ref q0_3, .ref q0_4, .ref q0_5, .int f38_6])) :: X) H → va_S A s.heap H locs → lv_has ls 10 [(7, .int p38_7), (6, .int v27), (5, .int v19), (4, .int v8), (0, .ref a0), (1, .ref a1), (3, .int x3)] → W p l e { frames := 9, cells := 0, slots := 0, locals := 241 } s m [.ref a0, .ref a1, .int x2, .int x3].toArray below meth c H locs 0 0 (MQ below (Tl D cs (fun _ u => u = (T, O, X)) A) [.ref a0, .ref a1, .int x2, .int x3].toArray s 0 0 A) (F0 m 38 ls []) := by
    intro n
    induction n using Nat.strongRecOn with
    | _ n ih38 =>
      intro p38_7 f38_6 H locs ls hm38 l_p38_7 u_p38_7 l_f38_6 u_f38_6 i38 hH hS hl
      refine lv_iload hx hb dX10_climbsUpTo_38 (lv_at hl 0 rfl) ?_
      refine lv_bipush (v := 14) hx hb dX10_climbsUpTo_40 (by decide) ?_
      refine lv_icmp_ge (tgt := 88) hx hb dX10_climbsUpTo_42 (by decide) (fun c42 => ?_) (fun c42 => ?_)
      · skip
        have tc42 := f_ge (k := 14) (by decide) c42
        refine lv_iload hx hb dX10_climbsUpTo_88 (lv_at hl 2 rfl) ?_
        refine lv_iload hx hb dX10_climbsUpTo_90 (lv_at hl 3 rfl) ?_
        refine lv_iand hx hb dX10_climbsUpTo_92 ?_
        refine lv_topi (fun v92 ev92 => ?_)
        have tv92 : 0 ≤ v92.toInt ∧ v92.toInt ≤ v19.toInt := by rw [ev92]; exact and_l (by omega)
        have ttv92 : 0 ≤ v92.toInt ∧ v92.toInt ≤ v8.toInt := by rw [ev92]; exact and_r (by omega)
        refine tk_i hH hS hA (tr_S (n := 1) (As := [.int v92]) hx hb hml hown hts hkb hH (ox_c hOX) hks hE hS hA (s_bitCount l D cs kf T (a0 :: O) ((a0, .inr (10, [.ref q0_0, .ref q0_1, .int q0_2, .ref q0_3, .ref q0_4, .ref q0_5, .int f38_6])) :: X) v92  (hO.sub (by decide))) kw_1001 kw_692 kw_20 kw_693 (by decide +kernel) ⟨Nat.le_of_ble_eq_true rfl, Nat.le_of_ble_eq_true rfl⟩ rfl rfl hl.1 (Nat.le_of_ble_eq_true rfl) dX10_climbsUpTo_93 ⟨Nat.le_of_ble_eq_true rfl, Nat.le_of_ble_eq_true rfl⟩) (fun v93 u H locs hz9 hH hS => ?_)
        obtain ⟨rfl, l_v93, u_v93⟩ := hz9
        have hH : HT D cs A T (a0 :: O) ((a0, .inr (10, [.ref q0_0, .ref q0_1, .int q0_2, .ref q0_3, .ref q0_4, .ref q0_5, .int f38_6])) :: X) H := hH
        refine W.widen (k := 0) (n := 0) (Nat.le_of_ble_eq_true rfl) (Nat.le_of_ble_eq_true rfl) ?_
        refine lv_i2l hx hb dX10_climbsUpTo_96 rfl ?_
        refine lv_lstore (lv' := [(7, .long v93.toInt64), (6, .int v27), (5, .int v19), (4, .int v8), (0, .ref a0), (1, .ref a1), (3, .int x3)]) hx hb dX10_climbsUpTo_97 hl (by decide) rfl (fun ls hl => ?_)
        refine lv_iconst (v := 0) hx hb dX10_climbsUpTo_99 (by decide) ?_
        have J102 : ∀ (n : Nat) (p102_9 : Int32) (p102_7 : Int64) (f102_0 : Nat) (f102_1 : Nat) (f102_2 : Int32) (f102_3 : Nat) (f102_4 : Nat) (f102_5 : Nat) (f102_6 : Int32) (H : Heap) (locs : List Loc) (ls : Array Slot), (14 - p102_9.toInt).toNat = n → (T f102_0 = some (1, 14, 1)) → (T f102_1 = some (1, 14, 0)) → (T f102_3 = some (2, 14, 0)) → (T f102_4 = some (1, 14, 0)) → (T f102_5 = some (1, 14, 0)) → (0 ≤ p102_9.toInt) → (p102_9.toInt ≤ 14) → (0 ≤ f102_2.toInt) → (f102_2.toInt ≤ 14) → (0 ≤ f102_6.toInt) → (f102_6.toInt ≤ 14) → HT D cs A T (a0 :: O) ((a0, .inr (10, [.ref f102_0, .ref f102_1, .int f102_2, .ref f102_3, .ref f102_4, .ref f102_5, .int f102_6])) :: X) H → va_S A s.heap H locs → lv_has ls 10 [(9, .int p102_9), (7, .long p102_7), (6, .int v27), (5, .int v19), (0, .ref a0), (1, .ref a1), (3, .int x3)] → W p l e { frames := 9, cells := 0, slots := 0, locals := 241 } s m [.ref a0, .ref a1, .int x2, .int x3].toArray below meth c H locs 0 0 (MQ below (Tl D cs (fun _ u => u = (T, O, X)) A) [.ref a0, .ref a1, .int x2, .int x3].toArray s 0 0 A) (F0 m 102 ls []) := by
          intro n
          induction n using Nat.strongRecOn with
          | _ n ih102 =>
            intro p102_9 p102_7 f102_0 f102_1 f102_2 f102_3 f102_4 f102_5 f102_6 H locs ls hm102 t_f102_0 t_f102_1 t_f102_3 t_f102_4 t_f102_5 l_p102_9 u_p102_9 l_f102_2 u_f102_2 l_f102_6 u_f102_6 hH hS hl
            refine lv_iload hx hb dX10_climbsUpTo_102 (lv_at hl 0 rfl) ?_
            refine lv_bipush (v := 14) hx hb dX10_climbsUpTo_104 (by decide) ?_
            refine lv_icmp_ge (tgt := 152) hx hb dX10_climbsUpTo_106 (by decide) (fun c106 => ?_) (fun c106 => ?_)
            · skip
              have tc106 := f_ge (k := 14) (by decide) c106
              refine lv_lload hx hb dX10_climbsUpTo_152 (lv_at hl 1 rfl) ?_
              have hH : HT D cs A T O X H := HT.lay (ci := 10) hH t_a0 (okL_c (⟨_, rfl, t_f102_0⟩) (okL_c (⟨_, rfl, t_f102_1⟩) (okL_c (⟨_, rfl, by omega, by omega⟩) (okL_c (⟨_, rfl, t_f102_3⟩) (okL_c (⟨_, rfl, t_f102_4⟩) (okL_c (⟨_, rfl, t_f102_5⟩) (okL_c (⟨_, rfl, by omega, by omega⟩) (okL_n))))))))
              have hO := hO0
              exact te_l hx hb hr hlocks hH hS rfl dX10_climbsUpTo_154
            · skip
              have tc106 := f_nge (k := 14) (by decide) c106
              refine lv_iload hx hb dX10_climbsUpTo_109 (lv_at hl 3 rfl) ?_
              refine lv_iload hx hb dX10_climbsUpTo_111 (lv_at hl 2 rfl) ?_
              refine lv_iand hx hb dX10_climbsUpTo_113 ?_
              refine lv_topi (fun v113 ev113 => ?_)
              have tv113 : 0 ≤ v113.toInt ∧ v113.toInt ≤ v19.toInt := by rw [ev113]; exact and_l (by omega)
              refine lv_iload hx hb dX10_climbsUpTo_114 (lv_at hl 0 rfl) ?_
              refine lv_ishr hx hb dX10_climbsUpTo_116 ?_
              refine lv_topi (fun v116 ev116 => ?_)
              have tv116 : 0 ≤ v116.toInt ∧ v116.toInt ≤ v113.toInt := by rw [ev116]; exact shr_b (by omega)
              refine lv_iconst (v := 1) hx hb dX10_climbsUpTo_117 (by decide) ?_
              refine lv_iand hx hb dX10_climbsUpTo_118 ?_
              refine lv_topi (fun v118 ev118 => ?_)
              have tv118 : 0 ≤ v118.toInt ∧ v118.toInt ≤ 1 := by rw [ev118]; exact and_r (by decide)
              have J146 : ∀ (p146_7 : Int64) (f146_0 : Nat) (f146_1 : Nat) (f146_2 : Int32) (f146_3 : Nat) (f146_4 : Nat) (f146_5 : Nat) (f146_6 : Int32) (H : Heap) (locs : List Loc) (ls : Array Slot), (T f146_0 = some (1, 14, 1)) → (T f146_1 = some (1, 14, 0)) → (T f146_3 = some (2, 14, 0)) → (T f146_4 = some (1, 14, 0)) → (T f146_5 = some (1, 14, 0)) → (0 ≤ f146_2.toInt) → (f146_2.toInt ≤ 14) → (0 ≤ f146_6.toInt) → (f146_6.toInt ≤ 14) → HT D cs A T (a0 :: O) ((a0, .inr (10, [.ref f146_0, .ref f146_1, .int f146_2, .ref f146_3, .ref f146_4, .ref f146_5, .int f146_6])) :: X) H → va_S A s.heap H locs → lv_has ls 10 [(9, .int p102_9), (7, .long p146_7), (6, .int v27), (5, .int v19), (0, .ref a0), (1, .ref a1), (3, .int x3)] → W p l e { frames := 9, cells := 0, slots := 0, locals := 241 } s m [.ref a0, .ref a1, .int x2, .int x3].toArray below meth c H locs 0 0 (MQ below (Tl D cs (fun _ u => u = (T, O, X)) A) [.ref a0, .ref a1, .int x2, .int x3].toArray s 0 0 A) (F0 m 146 ls []) := by
                intro p146_7 f146_0 f146_1 f146_2 f146_3 f146_4 f146_5 f146_6 H locs ls t_f146_0 t_f146_1 t_f146_3 t_f146_4 t_f146_5 l_f146_2 u_f146_2 l_f146_6 u_f146_6 hH hS hl
                obtain ⟨v146, ev146⟩ : ∃ y : Int32, y = p102_9 + 1 := ⟨_, rfl⟩
                have tv146 : v146.toInt = p102_9.toInt + (1) := by rw [ev146]; exact add_i rfl (by decide) (by omega) (by omega)
                refine lv_iinc (v := v146) (lv' := [(9, .int v146), (7, .long p146_7), (6, .int v27), (5, .int v19), (0, .ref a0), (1, .ref a1), (3, .int x3)]) hx hb dX10_climbsUpTo_146 hl (k := 0) rfl (by rw [ev146]; rfl) (by decide) rfl (fun ls hl => ?_)
                refine lv_goto (tgt := 102) hx hb dX10_climbsUpTo_149 (by decide) ?_
                exact ih102 _ (by omega) v146 p146_7 f146_0 f146_1 f146_2 f146_3 f146_4 f146_5 f146_6 _ _ _ rfl t_f146_0 t_f146_1 t_f146_3 t_f146_4 t_f146_5 (by omega) (by omega) (by omega) (by omega) (by omega) (by omega) hH hS (lv_sub hl [0, 1, 2, 3, 4, 5, 6] rfl)
              refine lv_if_eq (tgt := 146) hx hb dX10_climbsUpTo_119 (by decide) (fun c119 => ?_) (fun c119 => ?_)
              · skip
                have tc119 := f_eq (k := 0) (by decide) c119
                exact J146 p102_7 f102_0 f102_1 f102_2 f102_3 f102_4 f102_5 f102_6 _ _ _ t_f102_0 t_f102_1 t_f102_3 t_f102_4 t_f102_5 (by omega) (by omega) (by omega) (by omega) hH hS (lv_sub hl [0, 1, 2, 3, 4, 5, 6] rfl)
              · skip
                have tc119 := f_ne (k := 0) (by decide) c119
                refine lv_lload hx hb dX10_climbsUpTo_122 (lv_at hl 1 rfl) ?_
                refine lv_aload_n hx hb dX10_climbsUpTo_124 rfl (lv_at hl 4 rfl) ?_
                refine lv_aload_n hx hb dX10_climbsUpTo_125 rfl (lv_at hl 5 rfl) ?_
                refine lv_iload hx hb dX10_climbsUpTo_126 (lv_at hl 0 rfl) ?_
                refine lv_iload hx hb dX10_climbsUpTo_128 (lv_at hl 2 rfl) ?_
                refine lv_iconst (v := 1) hx hb dX10_climbsUpTo_130 (by decide) ?_
                refine lv_iload hx hb dX10_climbsUpTo_131 (lv_at hl 0 rfl) ?_
                refine lv_ishl hx hb dX10_climbsUpTo_133 ?_
                refine lv_topi (fun v133 ev133 => ?_)
                have tv133 : 1 ≤ v133.toInt ∧ v133.toInt ≤ 8192 := by rw [ev133]; exact shl_b 13 (by decide) (by omega) (by omega)
                refine lv_iconst (v := (-1)) hx hb dX10_climbsUpTo_134 (by decide) ?_
                refine lv_ixor hx hb dX10_climbsUpTo_135 ?_
                refine lv_topi (fun v135 ev135 => ?_)
                refine lv_iand hx hb dX10_climbsUpTo_136 ?_
                refine lv_topi (fun v136 ev136 => ?_)
                refine lv_iload_n hx hb dX10_climbsUpTo_137 rfl (lv_at hl 6 rfl) ?_
                refine lv_iconst (v := 1) hx hb dX10_climbsUpTo_138 (by decide) ?_
                refine lv_isub hx hb dX10_climbsUpTo_139 ?_
                refine lv_topi (fun v139 ev139 => ?_)
                have tv139 : v139.toInt = x3.toInt - (1) := by rw [ev139]; exact sub_i rfl (by decide : (1 : Int32).toInt = 1) (by omega) (by omega)
                have hH : HT D cs A T O X H := HT.lay (ci := 10) hH t_a0 (okL_c (⟨_, rfl, t_f102_0⟩) (okL_c (⟨_, rfl, t_f102_1⟩) (okL_c (⟨_, rfl, by omega, by omega⟩) (okL_c (⟨_, rfl, t_f102_3⟩) (okL_c (⟨_, rfl, t_f102_4⟩) (okL_c (⟨_, rfl, t_f102_5⟩) (okL_c (⟨_, rfl, by omega, by omega⟩) (okL_n))))))))
                have hO := hO0
                refine tk_l hH hS hA (tr_V (n := 4) (As := [.ref a1, .int p102_9, .int v136, .int v139]) hx hb hml hown hts hkb hH hOX hks hE hS hA (s_Ways_climbsOn6 l D cs kf T O X a0 a1 p102_9 v136 v139 t_a0 t_a1 (by omega) (hO.sub (by decide))) kw_1002 kw_1004 ks_30 kw_9 kw_1005 (by decide +kernel) ⟨Nat.le_of_ble_eq_true rfl, Nat.le_of_ble_eq_true rfl⟩ (HT.recv (ci := 10) hkb hH t_a0 (hO.no t_a0 (by decide)) rfl) rfl rfl hl.1 (Nat.le_of_ble_eq_true rfl) dX10_climbsUpTo_140 ⟨Nat.le_of_ble_eq_true rfl, Nat.le_of_ble_eq_true rfl⟩) (fun v140 u H locs hz9 hH hS => ?_)
                have hz9 : u = (T, O, X) := hz9
                subst hz9
                have hH : HT D cs A T O X H := hH
                obtain ⟨fs9, ho9, hH⟩ := hH.take t_a0 (hO0.no t_a0 (by decide))
                have hp0 : okL T (ft10 0 0) fs9 := ho9
                clear ho9
                obtain ⟨v9, fs9, rfl, h9, hp1⟩ := okL_i hp0
                obtain ⟨q140_0, rfl, t_q140_0⟩ := h9
                obtain ⟨v9, fs9, rfl, h9, hp2⟩ := okL_i hp1
                obtain ⟨q140_1, rfl, t_q140_1⟩ := h9
                obtain ⟨v9, fs9, rfl, h9, hp3⟩ := okL_i hp2
                obtain ⟨q140_2, rfl, l_q140_2, u_q140_2⟩ := h9
                obtain ⟨v9, fs9, rfl, h9, hp4⟩ := okL_i hp3
                obtain ⟨q140_3, rfl, t_q140_3⟩ := h9
                obtain ⟨v9, fs9, rfl, h9, hp5⟩ := okL_i hp4
                obtain ⟨q140_4, rfl, t_q140_4⟩ := h9
                obtain ⟨v9, fs9, rfl, h9, hp6⟩ := okL_i hp5
                obtain ⟨q140_5, rfl, t_q140_5⟩ := h9
                obtain ⟨v9, fs9, rfl, h9, hp7⟩ := okL_i hp6
                obtain ⟨q140_6, rfl, l_q140_6, u_q140_6⟩ := h9
                have hpz := okL_z hp7
                subst hpz
                have hH : HT D cs A T (a0 :: O) ((a0, .inr (10, [.ref q140_0, .ref q140_1, .int q140_2, .ref q140_3, .ref q140_4, .ref q140_5, .int q140_6])) :: X) H := hH
                have hO : okO T (a0 :: O) [1, 12, 15, 19] := okO.cons (hO0.sub (by decide)) t_a0 (by decide)
                refine W.widen (k := 0) (n := 0) (Nat.le_of_ble_eq_true rfl) (Nat.le_of_ble_eq_true rfl) ?_
                refine lv_ladd hx hb dX10_climbsUpTo_143 ?_
                refine lv_topl (fun v143 ev143 => ?_)
                refine lv_lstore (lv' := [(7, .long v143), (9, .int p102_9), (6, .int v27), (5, .int v19), (0, .ref a0), (1, .ref a1), (3, .int x3)]) hx hb dX10_climbsUpTo_144 hl (by decide) rfl (fun ls hl => ?_)
                exact J146 v143 q140_0 q140_1 q140_2 q140_3 q140_4 q140_5 q140_6 _ _ _ t_q140_0 t_q140_1 t_q140_3 t_q140_4 t_q140_5 (by omega) (by omega) (by omega) (by omega) hH hS (lv_sub hl [1, 0, 2, 3, 4, 5, 6] rfl)
        refine lv_istore (lv' := [(9, .int 0), (7, .long v93.toInt64), (6, .int v27), (5, .int v19), (4, .int v8), (0, .ref a0), (1, .ref a1), (3, .int x3)]) hx hb dX10_climbsUpTo_100 hl (by decide) rfl (fun ls hl => ?_)
        exact J102 _ 0 v93.toInt64 q0_0 q0_1 q0_2 q0_3 q0_4 q0_5 f38_6 _ _ _ rfl t_q0_0 t_q0_1 t_q0_3 t_q0_4 t_q0_5 (by decide) (by decide) (by omega) (by omega) (by omega) (by omega) hH hS (lv_sub hl [0, 1, 2, 3, 5, 6, 7] rfl)
      · skip
        have tc42 := f_nge (k := 14) (by decide) c42
        refine lv_iload hx hb dX10_climbsUpTo_45 (lv_at hl 3 rfl) ?_
        refine lv_iload hx hb dX10_climbsUpTo_47 (lv_at hl 0 rfl) ?_
        refine lv_ishr hx hb dX10_climbsUpTo_49 ?_
        refine lv_topi (fun v49 ev49 => ?_)
        have tv49 : 0 ≤ v49.toInt ∧ v49.toInt ≤ v8.toInt := by rw [ev49]; exact shr_b (by omega)
        refine lv_iconst (v := 1) hx hb dX10_climbsUpTo_50 (by decide) ?_
        refine lv_iand hx hb dX10_climbsUpTo_51 ?_
        refine lv_topi (fun v51 ev51 => ?_)
        have tv51 : 0 ≤ v51.toInt ∧ v51.toInt ≤ 1 := by rw [ev51]; exact and_r (by decide)
        have J82 : ∀ (f82_6 : Int32) (H : Heap) (locs : List Loc) (ls : Array Slot), (0 ≤ f82_6.toInt) → (f82_6.toInt ≤ 14) → (f82_6.toInt ≤ p38_7.toInt + 1) → HT D cs A T (a0 :: O) ((a0, .inr (10, [.ref q0_0, .ref q0_1, .int q0_2, .ref q0_3, .ref q0_4, .ref q0_5, .int f82_6])) :: X) H → va_S A s.heap H locs → lv_has ls 10 [(7, .int p38_7), (6, .int v27), (5, .int v19), (4, .int v8), (0, .ref a0), (1, .ref a1), (3, .int x3)] → W p l e { frames := 9, cells := 0, slots := 0, locals := 241 } s m [.ref a0, .ref a1, .int x2, .int x3].toArray below meth c H locs 0 0 (MQ below (Tl D cs (fun _ u => u = (T, O, X)) A) [.ref a0, .ref a1, .int x2, .int x3].toArray s 0 0 A) (F0 m 82 ls []) := by
          intro f82_6 H locs ls l_f82_6 u_f82_6 i82 hH hS hl
          obtain ⟨v82, ev82⟩ : ∃ y : Int32, y = p38_7 + 1 := ⟨_, rfl⟩
          have tv82 : v82.toInt = p38_7.toInt + (1) := by rw [ev82]; exact add_i rfl (by decide) (by omega) (by omega)
          refine lv_iinc (v := v82) (lv' := [(7, .int v82), (6, .int v27), (5, .int v19), (4, .int v8), (0, .ref a0), (1, .ref a1), (3, .int x3)]) hx hb dX10_climbsUpTo_82 hl (k := 0) rfl (by rw [ev82]; rfl) (by decide) rfl (fun ls hl => ?_)
          refine lv_goto (tgt := 38) hx hb dX10_climbsUpTo_85 (by decide) ?_
          exact ih38 _ (by omega) v82 f82_6 _ _ _ rfl (by omega) (by omega) (by omega) (by omega) (by omega) hH hS (lv_sub hl [0, 1, 2, 3, 4, 5, 6] rfl)
        refine lv_if_eq (tgt := 82) hx hb dX10_climbsUpTo_52 (by decide) (fun c52 => ?_) (fun c52 => ?_)
        · skip
          have tc52 := f_eq (k := 0) (by decide) c52
          exact J82 f38_6 _ _ _ (by omega) (by omega) (by omega) hH hS (lv_sub hl [0, 1, 2, 3, 4, 5, 6] rfl)
        · skip
          have tc52 := f_ne (k := 0) (by decide) c52
          refine lv_aload_n hx hb dX10_climbsUpTo_55 rfl (lv_at hl 4 rfl) ?_
          refine x_get (ci := 10) (C := RX10) (F := TX10) (N := 7) (v := .ref q0_5) hx hb hts uX10 hown hkb hH rfl 5 (by decide) rfl kw_278 (fun _ h9 => h9) dX10_climbsUpTo_56 ?_
          refine lv_aload_n hx hb dX10_climbsUpTo_59 rfl (lv_at hl 4 rfl) ?_
          refine x_get (ci := 10) (C := RX10) (F := TX10) (N := 7) (v := .int f38_6) hx hb hts uX10 hown hkb hH rfl 6 (by decide) rfl kw_279 (fun _ h9 => h9) dX10_climbsUpTo_60 ?_
          refine lv_aload_n hx hb dX10_climbsUpTo_63 rfl (lv_at hl 5 rfl) ?_
          refine lv_iload hx hb dX10_climbsUpTo_64 (lv_at hl 1 rfl) ?_
          refine lv_iload hx hb dX10_climbsUpTo_66 (lv_at hl 0 rfl) ?_
          refine tk_i hH hS hA (tr_S (n := 3) (As := [.ref a1, .int v27, .int p38_7]) hx hb hml hown hts hkb hH (ox_c hOX) hks hE hS hA (s_Ways_leadingTo l D cs kf T (a0 :: O) ((a0, .inr (10, [.ref q0_0, .ref q0_1, .int q0_2, .ref q0_3, .ref q0_4, .ref q0_5, .int f38_6])) :: X) a1 v27 p38_7 t_a1 (hO.sub (by decide))) kw_998 kw_999 kw_9 kw_1000 (by decide +kernel) ⟨Nat.le_of_ble_eq_true rfl, Nat.le_of_ble_eq_true rfl⟩ rfl rfl hl.1 (Nat.le_of_ble_eq_true rfl) dX10_climbsUpTo_68 ⟨Nat.le_of_ble_eq_true rfl, Nat.le_of_ble_eq_true rfl⟩) (fun v68 u H locs hz9 hH hS => ?_)
          obtain ⟨rfl, l_v68, u_v68⟩ := hz9
          have hH : HT D cs A T (a0 :: O) ((a0, .inr (10, [.ref q0_0, .ref q0_1, .int q0_2, .ref q0_3, .ref q0_4, .ref q0_5, .int f38_6])) :: X) H := hH
          refine W.widen (k := 0) (n := 0) (Nat.le_of_ble_eq_true rfl) (Nat.le_of_ble_eq_true rfl) ?_
          refine t_ist hx hb hkb hH hS t_q0_5 (hO.no t_q0_5 (by decide)) (by omega) (by omega) (cp_0 _) dX10_climbsUpTo_71 (fun H locs hH hS => ?_)
          refine lv_aload_n hx hb dX10_climbsUpTo_72 rfl (lv_at hl 4 rfl) ?_
          refine lv_dup hx hb dX10_climbsUpTo_73 rfl ?_
          refine x_get (ci := 10) (C := RX10) (F := TX10) (N := 7) (v := .int f38_6) hx hb hts uX10 hown hkb hH rfl 6 (by decide) rfl kw_279 (fun _ h9 => h9) dX10_climbsUpTo_74 ?_
          refine lv_iconst (v := 1) hx hb dX10_climbsUpTo_77 (by decide) ?_
          refine lv_iadd hx hb dX10_climbsUpTo_78 ?_
          refine lv_topi (fun v78 ev78 => ?_)
          have tv78 : v78.toInt = f38_6.toInt + (1) := by rw [ev78]; exact add_i rfl (by decide : (1 : Int32).toInt = 1) (by omega) (by omega)
          refine x_put (ci := 10) (v := .int v78) (ty := tyX10 6) (C := RX10) (F := TX10) (N := 7) hx hb hts uX10 tyX10 tyX10_ok nmX10 hown hkb hH hS rfl 6 (by decide) kw_279 (fun _ h9 => h9) rfl (tyX10_ok 6 (by decide)) rfl rfl (Nat.le_of_ble_eq_true rfl) dX10_climbsUpTo_79 (fun H locs hH hS => ?_)
          have hH : HT D cs A T (a0 :: O) ((a0, .inr (10, [.ref q0_0, .ref q0_1, .int q0_2, .ref q0_3, .ref q0_4, .ref q0_5, .int v78])) :: X) H := hH
          exact J82 v78 _ _ _ (by omega) (by omega) (by omega) hH hS (lv_sub hl [0, 1, 2, 3, 4, 5, 6] rfl)
  refine lv_istore (lv' := [(7, .int 0), (6, .int v27), (5, .int v19), (4, .int v8), (0, .ref a0), (1, .ref a1), (2, .int x2), (3, .int x3)]) hx hb dX10_climbsUpTo_36 hl (by decide) rfl (fun ls hl => ?_)
  have z_0 : (0 : Int32).toInt = 0 := by decide
  exact J38 _ 0 0 _ _ _ rfl (by decide) (by decide) (by decide) (by decide) (by omega) hH hS (lv_sub hl [0, 1, 2, 3, 4, 5, 7] rfl)
set_option maxHeartbeats 4000000 in
set_option maxRecDepth 100000 in
theorem s_FW_climbs (l : Launch) (D : va_G) (cs : CS) (kf : KF) (T : TF) (O : List Nat) (X : va_W) (a0 w hw gw ch gq : Nat) (x1 : Int32) (x2 : Int32) (t_a0 : T a0 = some (21, w, ch)) (t_w : isW T w hw gw) (t_ch : T ch = some (10, gq, 0)) (hO : okO T O [1, 7, 12, 15, 16, 19, 20, 21]) : TK l D cs kf yX11_climbs cX11_climbs 3 (some (.long)) { frames := 10, cells := 0, slots := 0, locals := 270 } [.ref a0, .int x1, .int x2] T O X (Tl D cs (fun _ u => u = (T, O, X))) := by
  refine tk_of (by decide) (Nat.le_of_ble_eq_true rfl) (fun p e s m below meth c ls A H locs hx hb hr hml hown hts hlocks hnm hkb hH hS hA hOX hks hE hl => ?_)
  have hown : s.vm.findClass RX11 = some m.cls := hown
  have hl : lv_has ls 3 [(0, .ref a0), (1, .int x1), (2, .int x2)] := hl
  have b1_w := t_w.2.1
  have b2_w := t_w.2.2
  refine lv_aload_n hx hb dX11_climbs_0 rfl (lv_at hl 0 rfl) ?_
  refine lv_iload_n hx hb dX11_climbs_1 rfl (lv_at hl 1 rfl) ?_
  refine tk_i hH hS hA (tr_V (n := 1) (As := [.int x1]) hx hb hml hown hts hkb hH hOX hks hE hS hA (s_FW_isGuide l D cs kf T O X a0 w hw gw ch gq x1 t_a0 t_w t_ch (hO.sub (by decide))) kw_794 kw_796 ks_20 kw_1 kw_797 (by decide +kernel) ⟨Nat.le_of_ble_eq_true rfl, Nat.le_of_ble_eq_true rfl⟩ (HT.recv (ci := 11) hkb hH t_a0 (hO.no t_a0 (by decide)) rfl) rfl rfl hl.1 (Nat.le_of_ble_eq_true rfl) dX11_climbs_2 ⟨Nat.le_of_ble_eq_true rfl, Nat.le_of_ble_eq_true rfl⟩) (fun v2 u H locs hz9 hH hS => ?_)
  obtain ⟨rfl, l_v2, u_v2, x_v20⟩ := hz9
  have hH : HT D cs A T O X H := hH
  refine W.widen (k := 0) (n := 0) (Nat.le_of_ble_eq_true rfl) (Nat.le_of_ble_eq_true rfl) ?_
  refine lv_if_ne (tgt := 12) hx hb dX11_climbs_5 (by decide) (fun c5 => ?_) (fun c5 => ?_)
  · skip
    have tc5 := f_ne (k := 0) (by decide) c5
    refine lv_iload_n hx hb dX11_climbs_12 rfl (lv_at hl 2 rfl) ?_
    refine lv_iconst (v := 1) hx hb dX11_climbs_13 (by decide) ?_
    have J23 : ∀  (H : Heap) (locs : List Loc) (ls : Array Slot), HT D cs A T O X H → va_S A s.heap H locs → lv_has ls 3 [] → W p l e { frames := 10, cells := 0, slots := 0, locals := 270 } s m [.ref a0, .int x1, .int x2].toArray below meth c H locs 0 0 (MQ below (Tl D cs (fun _ u => u = (T, O, X)) A) [.ref a0, .int x1, .int x2].toArray s 0 0 A) (F0 m 23 ls []) := by
      intro  H locs ls  hH hS hl
      refine lv_ldc2 hx hb hown (hts _ kw_993) dX11_climbs_23 ?_
      exact te_l hx hb hr hlocks hH hS rfl dX11_climbs_26
    refine lv_icmp_lt (tgt := 23) hx hb dX11_climbs_14 (by decide) (fun c14 => ?_) (fun c14 => ?_)
    · skip
      have tc14 := f_lt (k := 1) (by decide) c14
      exact J23  _ _ _  hH hS (lv_sub hl [] rfl)
    · skip
      have tc14 := f_nlt (k := 1) (by decide) c14
      refine lv_iload_n hx hb dX11_climbs_17 rfl (lv_at hl 2 rfl) ?_
      refine lv_bipush (v := 7) hx hb dX11_climbs_18 (by decide) ?_
      refine lv_icmp_le (tgt := 27) hx hb dX11_climbs_20 (by decide) (fun c20 => ?_) (fun c20 => ?_)
      · skip
        have tc20 := f_le (k := 7) (by decide) c20
        refine lv_aload_n hx hb dX11_climbs_27 rfl (lv_at hl 0 rfl) ?_
        refine t_get (ci := 11) (lst := ft11 w ch) (C := RX11) (F := TX11) (N := 20) hx hb hts uX11 hown hkb hH t_a0 (hO.no t_a0 (by decide)) (fun _ h9 => h9) rfl rfl 14 (by decide) rfl kw_374 (fun _ h9 => h9) dX11_climbs_28 (fun v9 h9 => ?_)
        obtain ⟨v28, rfl, t_v28⟩ := h9
        refine lv_aload_n hx hb dX11_climbs_31 rfl (lv_at hl 0 rfl) ?_
        refine lv_iload_n hx hb dX11_climbs_32 rfl (lv_at hl 1 rfl) ?_
        refine tk_r hH hS hA (tr_V (n := 1) (As := [.int x1]) hx hb hml hown hts hkb hH hOX hks hE hS hA (s_FW_rowsOf l D cs kf T O X a0 w hw gw ch gq x1 t_a0 t_w t_ch (by omega) (by omega) (hO.sub (by decide))) kw_830 kw_832 ks_21 kw_1 kw_833 (by decide +kernel) ⟨Nat.le_of_ble_eq_true rfl, Nat.le_of_ble_eq_true rfl⟩ (HT.recv (ci := 11) hkb hH t_a0 (hO.no t_a0 (by decide)) rfl) rfl rfl hl.1 (Nat.le_of_ble_eq_true rfl) dX11_climbs_33 ⟨Nat.le_of_ble_eq_true rfl, Nat.le_of_ble_eq_true rfl⟩) (fun v33 u H locs hz9 hH hS => ?_)
        obtain ⟨hu9, t_v33⟩ := hz9
        have hu9 : u = (T, O, X) := hu9
        subst hu9
        have hH : HT D cs A T O X H := hH
        refine W.widen (k := 0) (n := 0) (Nat.le_of_ble_eq_true rfl) (Nat.le_of_ble_eq_true rfl) ?_
        refine lv_aload_n hx hb dX11_climbs_36 rfl (lv_at hl 0 rfl) ?_
        refine tk_i hH hS hA (tr_V (n := 0) (As := []) hx hb hml hown hts hkb hH hOX hks hE hS hA (s_FW_openNow l D cs kf T O X a0 w hw gw ch gq t_a0 t_w t_ch (hO.sub (by decide))) kw_846 kw_848 ks_22 kw_1 kw_849 (by decide +kernel) ⟨Nat.le_of_ble_eq_true rfl, Nat.le_of_ble_eq_true rfl⟩ (HT.recv (ci := 11) hkb hH t_a0 (hO.no t_a0 (by decide)) rfl) rfl rfl hl.1 (Nat.le_of_ble_eq_true rfl) dX11_climbs_37 ⟨Nat.le_of_ble_eq_true rfl, Nat.le_of_ble_eq_true rfl⟩) (fun v37 u H locs hz9 hH hS => ?_)
        obtain ⟨rfl, l_v37, u_v37⟩ := hz9
        have hH : HT D cs A T O X H := hH
        refine W.widen (k := 0) (n := 0) (Nat.le_of_ble_eq_true rfl) (Nat.le_of_ble_eq_true rfl) ?_
        refine lv_iload_n hx hb dX11_climbs_40 rfl (lv_at hl 2 rfl) ?_
        refine tk_l hH hS hA (tr_V (n := 3) (As := [.ref v33, .int v37, .int x2]) hx hb hml hown hts hkb hH hOX hks hE hS hA (s_Ways_climbsUpTo l D cs kf T O X v28 v33 v37 x2 t_v28 t_v33 (by omega) (by omega) (hO.sub (by decide))) kw_994 kw_995 kw_996 kw_9 kw_997 (by decide +kernel) ⟨Nat.le_of_ble_eq_true rfl, Nat.le_of_ble_eq_true rfl⟩ (HT.recv (ci := 10) hkb hH t_v28 (hO.no t_v28 (by decide)) rfl) rfl rfl hl.1 (Nat.le_of_ble_eq_true rfl) dX11_climbs_41 ⟨Nat.le_of_ble_eq_true rfl, Nat.le_of_ble_eq_true rfl⟩) (fun v41 u H locs hz9 hH hS => ?_)
        have hz9 : u = (T, O, X) := hz9
        subst hz9
        have hH : HT D cs A T O X H := hH
        refine W.widen (k := 0) (n := 0) (Nat.le_of_ble_eq_true rfl) (Nat.le_of_ble_eq_true rfl) ?_
        exact te_l hx hb hr hlocks hH hS rfl dX11_climbs_44
      · skip
        have tc20 := f_nle (k := 7) (by decide) c20
        exact J23  _ _ _  hH hS (lv_sub hl [] rfl)
  · skip
    have tc5 := f_eq (k := 0) (by decide) c5
    refine lv_ldc2 hx hb hown (hts _ kw_988) dX11_climbs_8 ?_
    exact te_l hx hb hr hlocks hH hS rfl dX11_climbs_11
theorem dJ0_charAt_5068e_0 : decode cJ0_charAt_5068e 0 = .ok (.aload_n 0, 1) := by decide +kernel
theorem dJ0_charAt_5068e_1 : decode cJ0_charAt_5068e 1 = .ok (.invokevirtual 492, 3) := by decide +kernel
theorem dJ0_charAt_5068e_4 : decode cJ0_charAt_5068e 4 = .ok (.ifCond .eq 12, 3) := by decide +kernel
theorem dJ0_charAt_5068e_7 : decode cJ0_charAt_5068e 7 = .ok (.aload_n 0, 1) := by decide +kernel
theorem dJ0_charAt_5068e_8 : decode cJ0_charAt_5068e 8 = .ok (.getfield 9, 3) := by decide +kernel
theorem dJ0_charAt_5068e_11 : decode cJ0_charAt_5068e 11 = .ok (.iload_n 1, 1) := by decide +kernel
theorem dJ0_charAt_5068e_12 : decode cJ0_charAt_5068e 12 = .ok (.invokestatic 495, 3) := by decide +kernel
theorem dJ0_charAt_5068e_15 : decode cJ0_charAt_5068e 15 = .ok (.ireturn, 1) := by decide +kernel
theorem dJ0_checkIndex_df160_0 : decode cJ0_checkIndex_df160 0 = .ok (.iload_n 0, 1) := by decide +kernel
theorem dJ0_checkIndex_df160_1 : decode cJ0_checkIndex_df160 1 = .ok (.iload_n 1, 1) := by decide +kernel
theorem dJ0_checkIndex_df160_2 : decode cJ0_checkIndex_df160 2 = .ok (.getstatic 1053, 3) := by decide +kernel
theorem dJ0_checkIndex_df160_5 : decode cJ0_checkIndex_df160 5 = .ok (.invokestatic 1059, 3) := by decide +kernel
theorem dJ0_checkIndex_df160_8 : decode cJ0_checkIndex_df160 8 = .ok (.pop, 1) := by decide +kernel
theorem dJ0_checkIndex_df160_9 : decode cJ0_checkIndex_df160 9 = .ok (.return_, 1) := by decide +kernel
theorem dJ0_coder_7d493_0 : decode cJ0_coder_7d493 0 = .ok (.getstatic 38, 3) := by decide +kernel
theorem dJ0_coder_7d493_3 : decode cJ0_coder_7d493 3 = .ok (.ifCond .eq 10, 3) := by decide +kernel
theorem dJ0_coder_7d493_6 : decode cJ0_coder_7d493 6 = .ok (.aload_n 0, 1) := by decide +kernel
theorem dJ0_coder_7d493_7 : decode cJ0_coder_7d493 7 = .ok (.getfield 15, 3) := by decide +kernel
theorem dJ0_coder_7d493_10 : decode cJ0_coder_7d493 10 = .ok (.goto 4, 3) := by decide +kernel
theorem dJ0_coder_7d493_14 : decode cJ0_coder_7d493 14 = .ok (.ireturn, 1) := by decide +kernel
theorem dJ0_isLatin1_aae02_0 : decode cJ0_isLatin1_aae02 0 = .ok (.getstatic 38, 3) := by decide +kernel
theorem dJ0_isLatin1_aae02_3 : decode cJ0_isLatin1_aae02 3 = .ok (.ifCond .eq 14, 3) := by decide +kernel
theorem dJ0_isLatin1_aae02_6 : decode cJ0_isLatin1_aae02 6 = .ok (.aload_n 0, 1) := by decide +kernel
theorem dJ0_isLatin1_aae02_7 : decode cJ0_isLatin1_aae02 7 = .ok (.getfield 15, 3) := by decide +kernel
theorem dJ0_isLatin1_aae02_10 : decode cJ0_isLatin1_aae02 10 = .ok (.ifCond .ne 7, 3) := by decide +kernel
theorem dJ0_isLatin1_aae02_13 : decode cJ0_isLatin1_aae02 13 = .ok (.iconst 1, 1) := by decide +kernel
theorem dJ0_isLatin1_aae02_14 : decode cJ0_isLatin1_aae02 14 = .ok (.goto 4, 3) := by decide +kernel
theorem dJ0_isLatin1_aae02_18 : decode cJ0_isLatin1_aae02 18 = .ok (.ireturn, 1) := by decide +kernel
theorem dJ0_length_8abf5_0 : decode cJ0_length_8abf5 0 = .ok (.aload_n 0, 1) := by decide +kernel
theorem dJ0_length_8abf5_1 : decode cJ0_length_8abf5 1 = .ok (.getfield 9, 3) := by decide +kernel
theorem dJ0_length_8abf5_4 : decode cJ0_length_8abf5 4 = .ok (.arraylength, 1) := by decide +kernel
theorem dJ0_length_8abf5_5 : decode cJ0_length_8abf5 5 = .ok (.aload_n 0, 1) := by decide +kernel
theorem dJ0_length_8abf5_6 : decode cJ0_length_8abf5 6 = .ok (.invokevirtual 335, 3) := by decide +kernel
theorem dJ0_length_8abf5_9 : decode cJ0_length_8abf5 9 = .ok (.ishr, 1) := by decide +kernel
theorem dJ0_length_8abf5_10 : decode cJ0_length_8abf5 10 = .ok (.ireturn, 1) := by decide +kernel
theorem dJ1_charAt_3b067_0 : decode cJ1_charAt_3b067 0 = .ok (.iload_n 1, 1) := by decide +kernel
theorem dJ1_charAt_3b067_1 : decode cJ1_charAt_3b067 1 = .ok (.aload_n 0, 1) := by decide +kernel
theorem dJ1_charAt_3b067_2 : decode cJ1_charAt_3b067 2 = .ok (.arraylength, 1) := by decide +kernel
theorem dJ1_charAt_3b067_3 : decode cJ1_charAt_3b067 3 = .ok (.invokestatic 9, 3) := by decide +kernel
theorem dJ1_charAt_3b067_6 : decode cJ1_charAt_3b067 6 = .ok (.aload_n 0, 1) := by decide +kernel
theorem dJ1_charAt_3b067_7 : decode cJ1_charAt_3b067 7 = .ok (.iload_n 1, 1) := by decide +kernel
theorem dJ1_charAt_3b067_8 : decode cJ1_charAt_3b067 8 = .ok (.baload, 1) := by decide +kernel
theorem dJ1_charAt_3b067_9 : decode cJ1_charAt_3b067 9 = .ok (.sipush 255, 3) := by decide +kernel
theorem dJ1_charAt_3b067_12 : decode cJ1_charAt_3b067 12 = .ok (.iand, 1) := by decide +kernel
theorem dJ1_charAt_3b067_13 : decode cJ1_charAt_3b067 13 = .ok (.i2c, 1) := by decide +kernel
theorem dJ1_charAt_3b067_14 : decode cJ1_charAt_3b067 14 = .ok (.ireturn, 1) := by decide +kernel
theorem dJ3_checkIndex_8e157_0 : decode cJ3_checkIndex_8e157 0 = .ok (.iload_n 0, 1) := by decide +kernel
theorem dJ3_checkIndex_8e157_1 : decode cJ3_checkIndex_8e157 1 = .ok (.ifCond .lt 8, 3) := by decide +kernel
theorem dJ3_checkIndex_8e157_4 : decode cJ3_checkIndex_8e157 4 = .ok (.iload_n 0, 1) := by decide +kernel
theorem dJ3_checkIndex_8e157_5 : decode cJ3_checkIndex_8e157 5 = .ok (.iload_n 1, 1) := by decide +kernel
theorem dJ3_checkIndex_8e157_6 : decode cJ3_checkIndex_8e157 6 = .ok (.if_icmp .lt 10, 3) := by decide +kernel
theorem dJ3_checkIndex_8e157_16 : decode cJ3_checkIndex_8e157 16 = .ok (.iload_n 0, 1) := by decide +kernel
theorem dJ3_checkIndex_8e157_17 : decode cJ3_checkIndex_8e157 17 = .ok (.ireturn, 1) := by decide +kernel
theorem kw_14 : Cond.initialized "java/lang/String" ∈ gw := gw_of (tb_of 14 (by decide +kernel)) (by decide +kernel)
theorem kw_15 : Cond.initialized "java/lang/StringLatin1" ∈ gw := gw_of (tb_of 15 (by decide +kernel)) (by decide +kernel)
theorem kw_17 : Cond.initialized "jdk/internal/util/Preconditions" ∈ gw := gw_of (tb_of 17 (by decide +kernel)) (by decide +kernel)
theorem kw_471 : Cond.methodLink "java/lang/String" 492 yJ0_isLatin1_aae02 ∈ gw := gw_of (tb_of 471 (by decide +kernel)) (by decide +kernel)
theorem kw_472 : Cond.instanceMethod yJ0_isLatin1_aae02 ∈ gw := gw_of (tb_of 472 (by decide +kernel)) (by decide +kernel)
theorem kw_473 : Cond.selects "java/lang/String" yJ0_isLatin1_aae02 yJ0_isLatin1_aae02 ∈ gw := gw_of (tb_of 473 (by decide +kernel)) (by decide +kernel)
theorem kw_474 : Cond.code yJ0_isLatin1_aae02 cJ0_isLatin1_aae02 1 (some (.boolean)) ∈ gw := gw_of (tb_of 474 (by decide +kernel)) (by decide +kernel)
theorem kw_475 : Cond.fieldLink "java/lang/String" 38 "java/lang/String" "COMPACT_STRINGS" "Z" ∈ gw := gw_of (tb_of 475 (by decide +kernel)) (by decide +kernel)
theorem kw_481 : Cond.methodLink "java/lang/String" 335 yJ0_coder_7d493 ∈ gw := gw_of (tb_of 481 (by decide +kernel)) (by decide +kernel)
theorem kw_482 : Cond.instanceMethod yJ0_coder_7d493 ∈ gw := gw_of (tb_of 482 (by decide +kernel)) (by decide +kernel)
theorem kw_483 : Cond.selects "java/lang/String" yJ0_coder_7d493 yJ0_coder_7d493 ∈ gw := gw_of (tb_of 483 (by decide +kernel)) (by decide +kernel)
theorem kw_484 : Cond.code yJ0_coder_7d493 cJ0_coder_7d493 1 (some (.byte)) ∈ gw := gw_of (tb_of 484 (by decide +kernel)) (by decide +kernel)
theorem kw_514 : Cond.fieldLink "java/lang/String" 1053 "jdk/internal/util/Preconditions" "SIOOBE_FORMATTER" "Ljava/util/function/BiFunction;" ∈ gw := gw_of (tb_of 514 (by decide +kernel)) (by decide +kernel)
theorem kw_559 : Cond.methodLink "java/lang/String" 495 yJ1_charAt_3b067 ∈ gw := gw_of (tb_of 559 (by decide +kernel)) (by decide +kernel)
theorem kw_560 : Cond.static yJ1_charAt_3b067 ∈ gw := gw_of (tb_of 560 (by decide +kernel)) (by decide +kernel)
theorem kw_561 : Cond.code yJ1_charAt_3b067 cJ1_charAt_3b067 2 (some (.char)) ∈ gw := gw_of (tb_of 561 (by decide +kernel)) (by decide +kernel)
theorem kw_562 : Cond.methodLink "java/lang/StringLatin1" 9 yJ0_checkIndex_df160 ∈ gw := gw_of (tb_of 562 (by decide +kernel)) (by decide +kernel)
theorem kw_563 : Cond.static yJ0_checkIndex_df160 ∈ gw := gw_of (tb_of 563 (by decide +kernel)) (by decide +kernel)
theorem kw_564 : Cond.code yJ0_checkIndex_df160 cJ0_checkIndex_df160 2 none ∈ gw := gw_of (tb_of 564 (by decide +kernel)) (by decide +kernel)
theorem kw_565 : Cond.methodLink "java/lang/String" 1059 yJ3_checkIndex_8e157 ∈ gw := gw_of (tb_of 565 (by decide +kernel)) (by decide +kernel)
theorem kw_566 : Cond.static yJ3_checkIndex_8e157 ∈ gw := gw_of (tb_of 566 (by decide +kernel)) (by decide +kernel)
theorem kw_567 : Cond.code yJ3_checkIndex_8e157 cJ3_checkIndex_8e157 3 (some (.int)) ∈ gw := gw_of (tb_of 567 (by decide +kernel)) (by decide +kernel)
theorem kw_1789 : Cond.fieldLink "java/lang/String" 15 "java/lang/String" "coder" "B" ∈ gw := gw_of (tb_of 1789 (by decide +kernel)) (by decide +kernel)
theorem kw_1790 : Cond.fieldLink "java/lang/String" 9 "java/lang/String" "value" "[B" ∈ gw := gw_of (tb_of 1790 (by decide +kernel)) (by decide +kernel)
section ThRows5
variable {p : Program} {l : Launch} {e : Env} {R : Room} {s : State} {m : MethodId} {args : Array Value} {below : List Frame} {meth : Method} {c : Code} {H : Heap} {locs : List Loc} {cells slots : Nat}
variable {cc : ByteArray} {pc : Nat} {ls : Array Slot} {D : va_G} {A : Nat → Prop} {cs : CS} {T : TF} {O : List Nat} {X : va_W}
theorem te_n {post : Int32 → TX → Prop} {v : Int32} {ty : FieldType} (hx : p.tables.exec = Jvm.exec) (hb : c.code = cc) (hr : meth.sig.returnType = some ty) (hlocks : meth.locks = false) (hn : narrow ty (.int v) = .int v) (hH : HT D cs A T O X H) (hS : va_S A s.heap H locs) (hp : post v (T, O, X)) (hdg : decode cc pc = .ok (.ireturn, 1)) : W p l e R s m args below meth c H locs cells slots (MQ below (Ti D cs post A) args s cells slots A) (F0 m pc ls [.int v]) :=
  W.zret hx hb hr hn (fun t ht _ => ⟨⟨v, (T, O, X), rfl, hp, by show HT D cs A T O X t.heap; rw [ht]; exact hH⟩, hS.F ht⟩) hS.2.2 hdg hlocks
end ThRows5
theorem eq_c {r c : Int32} {k : Int} (hc : c.toInt = k) (h0 : k ≤ r.toInt) (h1 : r.toInt ≤ k) : r = c := Int32.toInt_inj.mp (by omega)
theorem narc {v : Int32} (h0 : 0 ≤ v.toInt) (h1 : v.toInt ≤ 255) : narrow .char (.int v) = .int v := by
  have ht : ∀ k, k < 256 → narrow .char (.int (nI k)) = .int (nI k) := by decide +kernel
  have e := is_nI h0
  rw [e]
  exact ht _ (by omega)
theorem i2c_id {v : Int32} (h0 : 0 ≤ v.toInt) (h1 : v.toInt ≤ 255) : (v.toUInt32 % 65536).toInt32 = v := by
  have ht : ∀ k, k < 256 → ((nI k).toUInt32 % 65536).toInt32 = nI k := by decide +kernel
  have e := is_nI h0
  rw [e]
  exact ht _ (by omega)
set_option maxHeartbeats 4000000 in
set_option maxRecDepth 100000 in
theorem s_checkIndexPN (l : Launch) (D : va_G) (cs : CS) (kf : KF) (T : TF) (O : List Nat) (X : va_W) (x0 : Int32) (x1 : Int32) (l_x0 : 0 ≤ x0.toInt) (u_x0 : x0.toInt < x1.toInt) (hO : okO T O []) : TK l D cs kf yJ3_checkIndex_8e157 cJ3_checkIndex_8e157 3 (some (.int)) { frames := 0, cells := 0, slots := 0, locals := 0 } [.int x0, .int x1, .null] T O X (Ti D cs (fun r u => u = (T, O, X) ∧ 0 ≤ r.toInt ∧ r.toInt ≤ 2147483646)) := by
  refine tk_of (by decide) (Nat.le_of_ble_eq_true rfl) (fun p e s m below meth c ls A H locs hx hb hr hml hown hts hlocks hnm hkb hH hS hA hOX hks hE hl => ?_)
  have hown : s.vm.findClass RJ3 = some m.cls := hown
  have hl : lv_has ls 3 [(0, .int x0), (1, .int x1), (2, .null)] := hl
  refine lv_iload_n hx hb dJ3_checkIndex_8e157_0 rfl (lv_at hl 0 rfl) ?_
  refine lv_if_lt (tgt := 9) hx hb dJ3_checkIndex_8e157_1 (by decide) (fun c1 => ?_) (fun c1 => ?_)
  · skip
    have tc1 := f_lt (k := 0) (by decide) c1
    exfalso; omega
  · skip
    have tc1 := f_nlt (k := 0) (by decide) c1
    refine lv_iload_n hx hb dJ3_checkIndex_8e157_4 rfl (lv_at hl 0 rfl) ?_
    refine lv_iload_n hx hb dJ3_checkIndex_8e157_5 rfl (lv_at hl 1 rfl) ?_
    refine lv_icmp_lt (tgt := 16) hx hb dJ3_checkIndex_8e157_6 (by decide) (fun c6 => ?_) (fun c6 => ?_)
    · skip
      have fuc6 := full_i x0
      have fvc6 := full_i x1
      have tc6 := g_lt c6
      refine lv_iload_n hx hb dJ3_checkIndex_8e157_16 rfl (lv_at hl 0 rfl) ?_
      exact te_i hx hb hr hlocks hH hS (⟨rfl, by omega, by omega⟩) dJ3_checkIndex_8e157_17
    · skip
      have fuc6 := full_i x0
      have fvc6 := full_i x1
      have tc6 := g_nlt c6
      exfalso; omega
set_option maxHeartbeats 4000000 in
set_option maxRecDepth 100000 in
theorem s_checkIndexPR (l : Launch) (D : va_G) (cs : CS) (kf : KF) (T : TF) (O : List Nat) (X : va_W) (x0 : Int32) (x1 : Int32) (x2 : Nat) (l_x0 : 0 ≤ x0.toInt) (u_x0 : x0.toInt < x1.toInt) (hO : okO T O []) : TK l D cs kf yJ3_checkIndex_8e157 cJ3_checkIndex_8e157 3 (some (.int)) { frames := 0, cells := 0, slots := 0, locals := 0 } [.int x0, .int x1, .ref x2] T O X (Ti D cs (fun r u => u = (T, O, X) ∧ 0 ≤ r.toInt ∧ r.toInt ≤ 2147483646)) := by
  refine tk_of (by decide) (Nat.le_of_ble_eq_true rfl) (fun p e s m below meth c ls A H locs hx hb hr hml hown hts hlocks hnm hkb hH hS hA hOX hks hE hl => ?_)
  have hown : s.vm.findClass RJ3 = some m.cls := hown
  have hl : lv_has ls 3 [(0, .int x0), (1, .int x1), (2, .ref x2)] := hl
  refine lv_iload_n hx hb dJ3_checkIndex_8e157_0 rfl (lv_at hl 0 rfl) ?_
  refine lv_if_lt (tgt := 9) hx hb dJ3_checkIndex_8e157_1 (by decide) (fun c1 => ?_) (fun c1 => ?_)
  · skip
    have tc1 := f_lt (k := 0) (by decide) c1
    exfalso; omega
  · skip
    have tc1 := f_nlt (k := 0) (by decide) c1
    refine lv_iload_n hx hb dJ3_checkIndex_8e157_4 rfl (lv_at hl 0 rfl) ?_
    refine lv_iload_n hx hb dJ3_checkIndex_8e157_5 rfl (lv_at hl 1 rfl) ?_
    refine lv_icmp_lt (tgt := 16) hx hb dJ3_checkIndex_8e157_6 (by decide) (fun c6 => ?_) (fun c6 => ?_)
    · skip
      have fuc6 := full_i x0
      have fvc6 := full_i x1
      have tc6 := g_lt c6
      refine lv_iload_n hx hb dJ3_checkIndex_8e157_16 rfl (lv_at hl 0 rfl) ?_
      exact te_i hx hb hr hlocks hH hS (⟨rfl, by omega, by omega⟩) dJ3_checkIndex_8e157_17
    · skip
      have fuc6 := full_i x0
      have fvc6 := full_i x1
      have tc6 := g_nlt c6
      exfalso; omega
set_option maxHeartbeats 4000000 in
set_option maxRecDepth 100000 in
theorem s_checkIndex (l : Launch) (D : va_G) (cs : CS) (kf : KF) (T : TF) (O : List Nat) (X : va_W) (x0 : Int32) (x1 : Int32) (l_x0 : 0 ≤ x0.toInt) (u_x0 : x0.toInt < x1.toInt) (hO : okO T O []) : TK l D cs kf yJ0_checkIndex_df160 cJ0_checkIndex_df160 2 none { frames := 1, cells := 0, slots := 0, locals := 22 } [.int x0, .int x1] T O X (Tv D cs (fun u => u = (T, O, X))) := by
  refine tk_of (by decide) (Nat.le_of_ble_eq_true rfl) (fun p e s m below meth c ls A H locs hx hb hr hml hown hts hlocks hnm hkb hH hS hA hOX hks hE hl => ?_)
  have hown : s.vm.findClass RJ0 = some m.cls := hown
  have hl : lv_has ls 2 [(0, .int x0), (1, .int x1)] := hl
  refine lv_iload_n hx hb dJ0_checkIndex_df160_0 rfl (lv_at hl 0 rfl) ?_
  refine lv_iload_n hx hb dJ0_checkIndex_df160_1 rfl (lv_at hl 1 rfl) ?_
  obtain ⟨fo9, hf9⟩ := hE.2.2
  refine va_gets hx hb hf9 hS hown (hts _ kw_514) (fun _ h9 => h9) dJ0_checkIndex_df160_2 ?_
  rcases fo9 with _ | r9
  · skip
    refine tk_i hH hS hA (tr_S (n := 3) (As := [.int x0, .int x1, .null]) hx hb hml hown hts hkb hH hOX hks hE hS hA (s_checkIndexPN l D cs kf T O X x0 x1 (by omega) (by omega) (hO.sub (by decide))) kw_565 kw_566 kw_17 kw_567 (by decide +kernel) ⟨Nat.le_of_ble_eq_true rfl, Nat.le_of_ble_eq_true rfl⟩ rfl rfl hl.1 (Nat.le_of_ble_eq_true rfl) dJ0_checkIndex_df160_5 ⟨Nat.le_of_ble_eq_true rfl, Nat.le_of_ble_eq_true rfl⟩) (fun v5 u H locs hz9 hH hS => ?_)
    obtain ⟨rfl, l_v5, u_v5⟩ := hz9
    have hH : HT D cs A T O X H := hH
    refine W.widen (k := 0) (n := 0) (Nat.le_of_ble_eq_true rfl) (Nat.le_of_ble_eq_true rfl) ?_
    refine lv_pop hx hb dJ0_checkIndex_df160_8 rfl ?_
    exact te_v hx hb hr hlocks hH hS rfl dJ0_checkIndex_df160_9
  · skip
    refine tk_i hH hS hA (tr_S (n := 3) (As := [.int x0, .int x1, .ref r9]) hx hb hml hown hts hkb hH hOX hks hE hS hA (s_checkIndexPR l D cs kf T O X x0 x1 r9 (by omega) (by omega) (hO.sub (by decide))) kw_565 kw_566 kw_17 kw_567 (by decide +kernel) ⟨Nat.le_of_ble_eq_true rfl, Nat.le_of_ble_eq_true rfl⟩ rfl rfl hl.1 (Nat.le_of_ble_eq_true rfl) dJ0_checkIndex_df160_5 ⟨Nat.le_of_ble_eq_true rfl, Nat.le_of_ble_eq_true rfl⟩) (fun v5 u H locs hz9 hH hS => ?_)
    obtain ⟨rfl, l_v5, u_v5⟩ := hz9
    have hH : HT D cs A T O X H := hH
    refine W.widen (k := 0) (n := 0) (Nat.le_of_ble_eq_true rfl) (Nat.le_of_ble_eq_true rfl) ?_
    refine lv_pop hx hb dJ0_checkIndex_df160_8 rfl ?_
    exact te_v hx hb hr hlocks hH hS rfl dJ0_checkIndex_df160_9
set_option maxHeartbeats 4000000 in
set_option maxRecDepth 100000 in
theorem s_coder (l : Launch) (D : va_G) (cs : CS) (kf : KF) (T : TF) (O : List Nat) (X : va_W) (a0 : Nat) (t_a0 : a0 < 21) (hO : okO T O []) : TK l D cs kf yJ0_coder_7d493 cJ0_coder_7d493 1 (some (.byte)) { frames := 0, cells := 0, slots := 0, locals := 0 } [.ref (kf.1 a0)] T O X (Ti D cs (fun r u => u = (T, O, X) ∧ 0 ≤ r.toInt ∧ r.toInt ≤ 0)) := by
  refine tk_of (by decide) (Nat.le_of_ble_eq_true rfl) (fun p e s m below meth c ls A H locs hx hb hr hml hown hts hlocks hnm hkb hH hS hA hOX hks hE hl => ?_)
  have hown : s.vm.findClass RJ0 = some m.cls := hown
  have hl : lv_has ls 1 [(0, .ref (kf.1 a0))] := hl
  refine va_gets hx hb hE.2.1 hS hown (hts _ kw_475) (fun _ h9 => h9) dJ0_coder_7d493_0 ?_
  refine lv_if_eq (tgt := 13) hx hb dJ0_coder_7d493_3 (by decide) (fun c3 => absurd c3 (by decide)) (fun _ => ?_)
  refine lv_aload_n hx hb dJ0_coder_7d493_6 rfl (lv_at hl 0 rfl) ?_
  refine vk_getf hx hb (hE.1.1 a0 t_a0).2.1 hS hown (hts _ kw_1789) (fun _ h9 => h9) dJ0_coder_7d493_7 ?_
  refine lv_goto (tgt := 14) hx hb dJ0_coder_7d493_10 (by decide) ?_
  exact te_n hx hb hr hlocks (by rfl) hH hS (⟨rfl, by decide, by decide⟩) dJ0_coder_7d493_14
set_option maxHeartbeats 4000000 in
set_option maxRecDepth 100000 in
theorem s_isLatin1 (l : Launch) (D : va_G) (cs : CS) (kf : KF) (T : TF) (O : List Nat) (X : va_W) (a0 : Nat) (t_a0 : a0 < 21) (hO : okO T O []) : TK l D cs kf yJ0_isLatin1_aae02 cJ0_isLatin1_aae02 1 (some (.boolean)) { frames := 0, cells := 0, slots := 0, locals := 0 } [.ref (kf.1 a0)] T O X (Ti D cs (fun r u => u = (T, O, X) ∧ 1 ≤ r.toInt ∧ r.toInt ≤ 1)) := by
  refine tk_of (by decide) (Nat.le_of_ble_eq_true rfl) (fun p e s m below meth c ls A H locs hx hb hr hml hown hts hlocks hnm hkb hH hS hA hOX hks hE hl => ?_)
  have hown : s.vm.findClass RJ0 = some m.cls := hown
  have hl : lv_has ls 1 [(0, .ref (kf.1 a0))] := hl
  refine va_gets hx hb hE.2.1 hS hown (hts _ kw_475) (fun _ h9 => h9) dJ0_isLatin1_aae02_0 ?_
  refine lv_if_eq (tgt := 17) hx hb dJ0_isLatin1_aae02_3 (by decide) (fun c3 => absurd c3 (by decide)) (fun _ => ?_)
  refine lv_aload_n hx hb dJ0_isLatin1_aae02_6 rfl (lv_at hl 0 rfl) ?_
  refine vk_getf hx hb (hE.1.1 a0 t_a0).2.1 hS hown (hts _ kw_1789) (fun _ h9 => h9) dJ0_isLatin1_aae02_7 ?_
  refine lv_if_ne (tgt := 17) hx hb dJ0_isLatin1_aae02_10 (by decide) (fun c10 => absurd c10 (by decide)) (fun _ => ?_)
  refine lv_iconst (v := 1) hx hb dJ0_isLatin1_aae02_13 (by decide) ?_
  refine lv_goto (tgt := 18) hx hb dJ0_isLatin1_aae02_14 (by decide) ?_
  exact te_z hx hb hr hlocks (by rfl) hH hS (⟨rfl, by decide, by decide⟩) dJ0_isLatin1_aae02_18
set_option maxHeartbeats 4000000 in
set_option maxRecDepth 100000 in
theorem s_length (l : Launch) (D : va_G) (cs : CS) (kf : KF) (T : TF) (O : List Nat) (X : va_W) (a0 : Nat) (t_a0 : a0 < 21) (hO : okO T O []) : TK l D cs kf yJ0_length_8abf5 cJ0_length_8abf5 1 (some (.int)) { frames := 1, cells := 0, slots := 0, locals := 20 } [.ref (kf.1 a0)] T O X (Ti D cs (fun r u => u = (T, O, X) ∧ 0 ≤ r.toInt ∧ r.toInt ≤ 88 ∧ (r.toInt = (slen.getD a0 0 : Nat)))) := by
  refine tk_of (by decide) (Nat.le_of_ble_eq_true rfl) (fun p e s m below meth c ls A H locs hx hb hr hml hown hts hlocks hnm hkb hH hS hA hOX hks hE hl => ?_)
  have hown : s.vm.findClass RJ0 = some m.cls := hown
  have hl : lv_has ls 1 [(0, .ref (kf.1 a0))] := hl
  refine lv_aload_n hx hb dJ0_length_8abf5_0 rfl (lv_at hl 0 rfl) ?_
  refine vk_getf hx hb (hE.1.1 a0 t_a0).2.2.1 hS hown (hts _ kw_1790) (fun _ h9 => h9) dJ0_length_8abf5_1 ?_
  refine va_tlen (v := nI (slen.getD a0 0)) hx hb (hE.1.1 a0 t_a0).2.2.2 hS rfl dJ0_length_8abf5_4 ?_
  have b9_a0 := slen_b a0
  have e9_a0 : (nI (slen.getD a0 0)).toInt = (slen.getD a0 0 : Nat) := nI_toInt (by omega)
  refine lv_aload_n hx hb dJ0_length_8abf5_5 rfl (lv_at hl 0 rfl) ?_
  refine tk_i hH hS hA (tr_V (n := 0) (As := []) hx hb hml hown hts hkb hH hOX hks hE hS hA (s_coder l D cs kf T O X a0 t_a0 (hO.sub (by decide))) kw_481 kw_482 kw_483 kw_14 kw_484 (by decide +kernel) ⟨Nat.le_of_ble_eq_true rfl, Nat.le_of_ble_eq_true rfl⟩ (vk_recv hE.1 t_a0 hS) rfl rfl hl.1 (Nat.le_of_ble_eq_true rfl) dJ0_length_8abf5_6 ⟨Nat.le_of_ble_eq_true rfl, Nat.le_of_ble_eq_true rfl⟩) (fun v6 u H locs hz9 hH hS => ?_)
  obtain ⟨rfl, l_v6, u_v6⟩ := hz9
  refine lv_topc (y := 0) (eq_c (by decide) l_v6 u_v6) ?_
  have hH : HT D cs A T O X H := hH
  refine W.widen (k := 0) (n := 0) (Nat.le_of_ble_eq_true rfl) (Nat.le_of_ble_eq_true rfl) ?_
  refine lv_ishr hx hb dJ0_length_8abf5_9 ?_
  refine lv_topi (fun v9 ev9 => ?_)
  have tv9 : v9.toInt = (nI (slen.getD a0 0)).toInt / 1 := by rw [ev9]; exact shr_c 0 (by decide +kernel) (by decide)
  exact te_i hx hb hr hlocks hH hS (⟨rfl, by omega, by omega, by omega⟩) dJ0_length_8abf5_10
set_option maxHeartbeats 4000000 in
set_option maxRecDepth 100000 in
theorem s_L1charAt (l : Launch) (D : va_G) (cs : CS) (kf : KF) (T : TF) (O : List Nat) (X : va_W) (a0 : Nat) (x1 : Int32) (t_a0 : a0 < 21) (l_x1 : 0 ≤ x1.toInt) (u_x1 : x1.toInt < (slen.getD a0 0 : Nat)) (hO : okO T O []) : TK l D cs kf yJ1_charAt_3b067 cJ1_charAt_3b067 2 (some (.char)) { frames := 2, cells := 0, slots := 0, locals := 43 } [.ref (kf.2 a0), .int x1] T O X (Ti D cs (fun r u => u = (T, O, X) ∧ 0 ≤ r.toInt ∧ r.toInt ≤ 255)) := by
  refine tk_of (by decide) (Nat.le_of_ble_eq_true rfl) (fun p e s m below meth c ls A H locs hx hb hr hml hown hts hlocks hnm hkb hH hS hA hOX hks hE hl => ?_)
  have hown : s.vm.findClass RJ1 = some m.cls := hown
  have hl : lv_has ls 2 [(0, .ref (kf.2 a0)), (1, .int x1)] := hl
  refine lv_iload_n hx hb dJ1_charAt_3b067_0 rfl (lv_at hl 1 rfl) ?_
  refine lv_aload_n hx hb dJ1_charAt_3b067_1 rfl (lv_at hl 0 rfl) ?_
  refine va_tlen (v := nI (slen.getD a0 0)) hx hb (hE.1.1 a0 t_a0).2.2.2 hS rfl dJ1_charAt_3b067_2 ?_
  have b9_a0 := slen_b a0
  have e9_a0 : (nI (slen.getD a0 0)).toInt = (slen.getD a0 0 : Nat) := nI_toInt (by omega)
  refine tk_v hH hS hA (tr_S (n := 2) (As := [.int x1, .int (nI (slen.getD a0 0))]) hx hb hml hown hts hkb hH hOX hks hE hS hA (s_checkIndex l D cs kf T O X x1 (nI (slen.getD a0 0)) (by omega) (by omega) (hO.sub (by decide))) kw_562 kw_563 kw_14 kw_564 (by decide +kernel) ⟨Nat.le_of_ble_eq_true rfl, Nat.le_of_ble_eq_true rfl⟩ rfl rfl hl.1 (Nat.le_of_ble_eq_true rfl) dJ1_charAt_3b067_3 ⟨Nat.le_of_ble_eq_true rfl, Nat.le_of_ble_eq_true rfl⟩) (fun u H locs hz9 hH hS => ?_)
  have hz9 : u = (T, O, X) := hz9
  subst hz9
  have hH : HT D cs A T O X H := hH
  refine W.widen (k := 0) (n := 0) (Nat.le_of_ble_eq_true rfl) (Nat.le_of_ble_eq_true rfl) ?_
  refine lv_aload_n hx hb dJ1_charAt_3b067_6 rfl (lv_at hl 0 rfl) ?_
  refine lv_iload_n hx hb dJ1_charAt_3b067_7 rfl (lv_at hl 1 rfl) ?_
  refine va_tb (v := .int ((sbyt.getD a0 []).getD (Int32.toNatClampNeg x1) 0)) hx hb (hE.1.1 a0 t_a0).2.2.2 hS (in_t (by omega) (by omega)) rfl dJ1_charAt_3b067_8 ?_
  refine lv_topi (fun v8 ev8 => ?_)
  refine lv_sipush (v := 255) hx hb dJ1_charAt_3b067_9 (by decide) ?_
  refine lv_iand hx hb dJ1_charAt_3b067_12 ?_
  refine lv_topi (fun v12 ev12 => ?_)
  have tv12 : 0 ≤ v12.toInt ∧ v12.toInt ≤ 255 := by rw [ev12]; exact and_r (by decide)
  refine lv_i2c (v := v12) hx hb dJ1_charAt_3b067_13 (i2c_id (by omega) (by omega)) ?_
  exact te_n hx hb hr hlocks (narc (by omega) (by omega)) hH hS (⟨rfl, by omega, by omega⟩) dJ1_charAt_3b067_14
set_option maxHeartbeats 4000000 in
set_option maxRecDepth 100000 in
theorem s_charAt (l : Launch) (D : va_G) (cs : CS) (kf : KF) (T : TF) (O : List Nat) (X : va_W) (a0 : Nat) (x1 : Int32) (t_a0 : a0 < 21) (l_x1 : 0 ≤ x1.toInt) (u_x1 : x1.toInt < (slen.getD a0 0 : Nat)) (hO : okO T O []) : TK l D cs kf yJ0_charAt_5068e cJ0_charAt_5068e 2 (some (.char)) { frames := 3, cells := 0, slots := 0, locals := 64 } [.ref (kf.1 a0), .int x1] T O X (Ti D cs (fun r u => u = (T, O, X) ∧ 0 ≤ r.toInt ∧ r.toInt ≤ 255)) := by
  refine tk_of (by decide) (Nat.le_of_ble_eq_true rfl) (fun p e s m below meth c ls A H locs hx hb hr hml hown hts hlocks hnm hkb hH hS hA hOX hks hE hl => ?_)
  have hown : s.vm.findClass RJ0 = some m.cls := hown
  have hl : lv_has ls 2 [(0, .ref (kf.1 a0)), (1, .int x1)] := hl
  refine lv_aload_n hx hb dJ0_charAt_5068e_0 rfl (lv_at hl 0 rfl) ?_
  refine tk_i hH hS hA (tr_V (n := 0) (As := []) hx hb hml hown hts hkb hH hOX hks hE hS hA (s_isLatin1 l D cs kf T O X a0 t_a0 (hO.sub (by decide))) kw_471 kw_472 kw_473 kw_14 kw_474 (by decide +kernel) ⟨Nat.le_of_ble_eq_true rfl, Nat.le_of_ble_eq_true rfl⟩ (vk_recv hE.1 t_a0 hS) rfl rfl hl.1 (Nat.le_of_ble_eq_true rfl) dJ0_charAt_5068e_1 ⟨Nat.le_of_ble_eq_true rfl, Nat.le_of_ble_eq_true rfl⟩) (fun v1 u H locs hz9 hH hS => ?_)
  obtain ⟨rfl, l_v1, u_v1⟩ := hz9
  refine lv_topc (y := 1) (eq_c (by decide) l_v1 u_v1) ?_
  have hH : HT D cs A T O X H := hH
  refine W.widen (k := 0) (n := 0) (Nat.le_of_ble_eq_true rfl) (Nat.le_of_ble_eq_true rfl) ?_
  refine lv_if_eq (tgt := 16) hx hb dJ0_charAt_5068e_4 (by decide) (fun c4 => absurd c4 (by decide)) (fun _ => ?_)
  refine lv_aload_n hx hb dJ0_charAt_5068e_7 rfl (lv_at hl 0 rfl) ?_
  refine vk_getf hx hb (hE.1.1 a0 t_a0).2.2.1 hS hown (hts _ kw_1790) (fun _ h9 => h9) dJ0_charAt_5068e_8 ?_
  refine lv_iload_n hx hb dJ0_charAt_5068e_11 rfl (lv_at hl 1 rfl) ?_
  refine tk_i hH hS hA (tr_S (n := 2) (As := [.ref (kf.2 a0), .int x1]) hx hb hml hown hts hkb hH hOX hks hE hS hA (s_L1charAt l D cs kf T O X a0 x1 t_a0 (by omega) (by omega) (hO.sub (by decide))) kw_559 kw_560 kw_15 kw_561 (by decide +kernel) ⟨Nat.le_of_ble_eq_true rfl, Nat.le_of_ble_eq_true rfl⟩ rfl rfl hl.1 (Nat.le_of_ble_eq_true rfl) dJ0_charAt_5068e_12 ⟨Nat.le_of_ble_eq_true rfl, Nat.le_of_ble_eq_true rfl⟩) (fun v12 u H locs hz9 hH hS => ?_)
  obtain ⟨rfl, l_v12, u_v12⟩ := hz9
  have hH : HT D cs A T O X H := hH
  refine W.widen (k := 0) (n := 0) (Nat.le_of_ble_eq_true rfl) (Nat.le_of_ble_eq_true rfl) ?_
  exact te_n hx hb hr hlocks (narc (by omega) (by omega)) hH hS (⟨rfl, by omega, by omega⟩) dJ0_charAt_5068e_15
theorem dJ0_indexOf_0f7a4_0 : decode cJ0_indexOf_0f7a4 0 = .ok (.aload_n 0, 1) := by decide +kernel
theorem dJ0_indexOf_0f7a4_1 : decode cJ0_indexOf_0f7a4 1 = .ok (.iload_n 1, 1) := by decide +kernel
theorem dJ0_indexOf_0f7a4_2 : decode cJ0_indexOf_0f7a4 2 = .ok (.iconst 0, 1) := by decide +kernel
theorem dJ0_indexOf_0f7a4_3 : decode cJ0_indexOf_0f7a4 3 = .ok (.invokevirtual 633, 3) := by decide +kernel
theorem dJ0_indexOf_0f7a4_6 : decode cJ0_indexOf_0f7a4 6 = .ok (.ireturn, 1) := by decide +kernel
theorem dJ0_indexOf_7cf53_0 : decode cJ0_indexOf_7cf53 0 = .ok (.aload_n 0, 1) := by decide +kernel
theorem dJ0_indexOf_7cf53_1 : decode cJ0_indexOf_7cf53 1 = .ok (.invokevirtual 492, 3) := by decide +kernel
theorem dJ0_indexOf_7cf53_4 : decode cJ0_indexOf_7cf53 4 = .ok (.ifCond .eq 19, 3) := by decide +kernel
theorem dJ0_indexOf_7cf53_7 : decode cJ0_indexOf_7cf53 7 = .ok (.aload_n 0, 1) := by decide +kernel
theorem dJ0_indexOf_7cf53_8 : decode cJ0_indexOf_7cf53 8 = .ok (.getfield 9, 3) := by decide +kernel
theorem dJ0_indexOf_7cf53_11 : decode cJ0_indexOf_7cf53 11 = .ok (.iload_n 1, 1) := by decide +kernel
theorem dJ0_indexOf_7cf53_12 : decode cJ0_indexOf_7cf53 12 = .ok (.iload_n 2, 1) := by decide +kernel
theorem dJ0_indexOf_7cf53_13 : decode cJ0_indexOf_7cf53 13 = .ok (.aload_n 0, 1) := by decide +kernel
theorem dJ0_indexOf_7cf53_14 : decode cJ0_indexOf_7cf53 14 = .ok (.invokevirtual 505, 3) := by decide +kernel
theorem dJ0_indexOf_7cf53_17 : decode cJ0_indexOf_7cf53 17 = .ok (.invokestatic 637, 3) := by decide +kernel
theorem dJ0_indexOf_7cf53_20 : decode cJ0_indexOf_7cf53 20 = .ok (.goto 16, 3) := by decide +kernel
theorem dJ0_indexOf_7cf53_36 : decode cJ0_indexOf_7cf53 36 = .ok (.ireturn, 1) := by decide +kernel
theorem dJ1_canEncode_9a6ad_0 : decode cJ1_canEncode_9a6ad 0 = .ok (.iload_n 0, 1) := by decide +kernel
theorem dJ1_canEncode_9a6ad_1 : decode cJ1_canEncode_9a6ad 1 = .ok (.ifCond .lt 14, 3) := by decide +kernel
theorem dJ1_canEncode_9a6ad_4 : decode cJ1_canEncode_9a6ad 4 = .ok (.iload_n 0, 1) := by decide +kernel
theorem dJ1_canEncode_9a6ad_5 : decode cJ1_canEncode_9a6ad 5 = .ok (.sipush 255, 3) := by decide +kernel
theorem dJ1_canEncode_9a6ad_8 : decode cJ1_canEncode_9a6ad 8 = .ok (.if_icmp .gt 7, 3) := by decide +kernel
theorem dJ1_canEncode_9a6ad_11 : decode cJ1_canEncode_9a6ad 11 = .ok (.iconst 1, 1) := by decide +kernel
theorem dJ1_canEncode_9a6ad_12 : decode cJ1_canEncode_9a6ad 12 = .ok (.goto 4, 3) := by decide +kernel
theorem dJ1_canEncode_9a6ad_15 : decode cJ1_canEncode_9a6ad 15 = .ok (.iconst 0, 1) := by decide +kernel
theorem dJ1_canEncode_9a6ad_16 : decode cJ1_canEncode_9a6ad 16 = .ok (.ireturn, 1) := by decide +kernel
theorem dJ1_indexOfChar_4cfef_0 : decode cJ1_indexOfChar_4cfef 0 = .ok (.iload_n 1, 1) := by decide +kernel
theorem dJ1_indexOfChar_4cfef_1 : decode cJ1_indexOfChar_4cfef 1 = .ok (.i2b, 1) := by decide +kernel
theorem dJ1_indexOfChar_4cfef_2 : decode cJ1_indexOfChar_4cfef 2 = .ok (.istore 4, 2) := by decide +kernel
theorem dJ1_indexOfChar_4cfef_4 : decode cJ1_indexOfChar_4cfef 4 = .ok (.iload_n 2, 1) := by decide +kernel
theorem dJ1_indexOfChar_4cfef_5 : decode cJ1_indexOfChar_4cfef 5 = .ok (.istore 5, 2) := by decide +kernel
theorem dJ1_indexOfChar_4cfef_7 : decode cJ1_indexOfChar_4cfef 7 = .ok (.iload 5, 2) := by decide +kernel
theorem dJ1_indexOfChar_4cfef_9 : decode cJ1_indexOfChar_4cfef 9 = .ok (.iload_n 3, 1) := by decide +kernel
theorem dJ1_indexOfChar_4cfef_10 : decode cJ1_indexOfChar_4cfef 10 = .ok (.if_icmp .ge 21, 3) := by decide +kernel
theorem dJ1_indexOfChar_4cfef_13 : decode cJ1_indexOfChar_4cfef 13 = .ok (.aload_n 0, 1) := by decide +kernel
theorem dJ1_indexOfChar_4cfef_14 : decode cJ1_indexOfChar_4cfef 14 = .ok (.iload 5, 2) := by decide +kernel
theorem dJ1_indexOfChar_4cfef_16 : decode cJ1_indexOfChar_4cfef 16 = .ok (.baload, 1) := by decide +kernel
theorem dJ1_indexOfChar_4cfef_17 : decode cJ1_indexOfChar_4cfef 17 = .ok (.iload 4, 2) := by decide +kernel
theorem dJ1_indexOfChar_4cfef_19 : decode cJ1_indexOfChar_4cfef 19 = .ok (.if_icmp .ne 6, 3) := by decide +kernel
theorem dJ1_indexOfChar_4cfef_22 : decode cJ1_indexOfChar_4cfef 22 = .ok (.iload 5, 2) := by decide +kernel
theorem dJ1_indexOfChar_4cfef_24 : decode cJ1_indexOfChar_4cfef 24 = .ok (.ireturn, 1) := by decide +kernel
theorem dJ1_indexOfChar_4cfef_25 : decode cJ1_indexOfChar_4cfef 25 = .ok (.iinc 5 1, 3) := by decide +kernel
theorem dJ1_indexOfChar_4cfef_28 : decode cJ1_indexOfChar_4cfef 28 = .ok (.goto (-21), 3) := by decide +kernel
theorem dJ1_indexOfChar_4cfef_31 : decode cJ1_indexOfChar_4cfef 31 = .ok (.iconst (-1), 1) := by decide +kernel
theorem dJ1_indexOfChar_4cfef_32 : decode cJ1_indexOfChar_4cfef 32 = .ok (.ireturn, 1) := by decide +kernel
theorem dJ1_indexOf_4cfef_0 : decode cJ1_indexOf_4cfef 0 = .ok (.iload_n 1, 1) := by decide +kernel
theorem dJ1_indexOf_4cfef_1 : decode cJ1_indexOf_4cfef 1 = .ok (.invokestatic 88, 3) := by decide +kernel
theorem dJ1_indexOf_4cfef_4 : decode cJ1_indexOf_4cfef 4 = .ok (.ifCond .ne 5, 3) := by decide +kernel
theorem dJ1_indexOf_4cfef_7 : decode cJ1_indexOf_4cfef 7 = .ok (.iconst (-1), 1) := by decide +kernel
theorem dJ1_indexOf_4cfef_8 : decode cJ1_indexOf_4cfef 8 = .ok (.ireturn, 1) := by decide +kernel
theorem dJ1_indexOf_4cfef_9 : decode cJ1_indexOf_4cfef 9 = .ok (.iload_n 2, 1) := by decide +kernel
theorem dJ1_indexOf_4cfef_10 : decode cJ1_indexOf_4cfef 10 = .ok (.iconst 0, 1) := by decide +kernel
theorem dJ1_indexOf_4cfef_11 : decode cJ1_indexOf_4cfef 11 = .ok (.invokestatic 92, 3) := by decide +kernel
theorem dJ1_indexOf_4cfef_14 : decode cJ1_indexOf_4cfef 14 = .ok (.istore_n 2, 1) := by decide +kernel
theorem dJ1_indexOf_4cfef_15 : decode cJ1_indexOf_4cfef 15 = .ok (.iload_n 3, 1) := by decide +kernel
theorem dJ1_indexOf_4cfef_16 : decode cJ1_indexOf_4cfef 16 = .ok (.aload_n 0, 1) := by decide +kernel
theorem dJ1_indexOf_4cfef_17 : decode cJ1_indexOf_4cfef 17 = .ok (.arraylength, 1) := by decide +kernel
theorem dJ1_indexOf_4cfef_18 : decode cJ1_indexOf_4cfef 18 = .ok (.invokestatic 38, 3) := by decide +kernel
theorem dJ1_indexOf_4cfef_21 : decode cJ1_indexOf_4cfef 21 = .ok (.istore_n 3, 1) := by decide +kernel
theorem dJ1_indexOf_4cfef_22 : decode cJ1_indexOf_4cfef 22 = .ok (.iload_n 2, 1) := by decide +kernel
theorem dJ1_indexOf_4cfef_23 : decode cJ1_indexOf_4cfef 23 = .ok (.iload_n 3, 1) := by decide +kernel
theorem dJ1_indexOf_4cfef_24 : decode cJ1_indexOf_4cfef 24 = .ok (.if_icmp .lt 5, 3) := by decide +kernel
theorem dJ1_indexOf_4cfef_27 : decode cJ1_indexOf_4cfef 27 = .ok (.iconst (-1), 1) := by decide +kernel
theorem dJ1_indexOf_4cfef_28 : decode cJ1_indexOf_4cfef 28 = .ok (.ireturn, 1) := by decide +kernel
theorem dJ1_indexOf_4cfef_29 : decode cJ1_indexOf_4cfef 29 = .ok (.aload_n 0, 1) := by decide +kernel
theorem dJ1_indexOf_4cfef_30 : decode cJ1_indexOf_4cfef 30 = .ok (.iload_n 1, 1) := by decide +kernel
theorem dJ1_indexOf_4cfef_31 : decode cJ1_indexOf_4cfef 31 = .ok (.iload_n 2, 1) := by decide +kernel
theorem dJ1_indexOf_4cfef_32 : decode cJ1_indexOf_4cfef 32 = .ok (.iload_n 3, 1) := by decide +kernel
theorem dJ1_indexOf_4cfef_33 : decode cJ1_indexOf_4cfef 33 = .ok (.invokestatic 95, 3) := by decide +kernel
theorem dJ1_indexOf_4cfef_36 : decode cJ1_indexOf_4cfef 36 = .ok (.ireturn, 1) := by decide +kernel
theorem kw_467 : Cond.methodLink "java/lang/String" 633 yJ0_indexOf_7cf53 ∈ gw := gw_of (tb_of 467 (by decide +kernel)) (by decide +kernel)
theorem kw_468 : Cond.instanceMethod yJ0_indexOf_7cf53 ∈ gw := gw_of (tb_of 468 (by decide +kernel)) (by decide +kernel)
theorem kw_469 : Cond.selects "java/lang/String" yJ0_indexOf_7cf53 yJ0_indexOf_7cf53 ∈ gw := gw_of (tb_of 469 (by decide +kernel)) (by decide +kernel)
theorem kw_470 : Cond.code yJ0_indexOf_7cf53 cJ0_indexOf_7cf53 3 (some (.int)) ∈ gw := gw_of (tb_of 470 (by decide +kernel)) (by decide +kernel)
theorem kw_477 : Cond.methodLink "java/lang/String" 505 yJ0_length_8abf5 ∈ gw := gw_of (tb_of 477 (by decide +kernel)) (by decide +kernel)
theorem kw_478 : Cond.instanceMethod yJ0_length_8abf5 ∈ gw := gw_of (tb_of 478 (by decide +kernel)) (by decide +kernel)
theorem kw_479 : Cond.selects "java/lang/String" yJ0_length_8abf5 yJ0_length_8abf5 ∈ gw := gw_of (tb_of 479 (by decide +kernel)) (by decide +kernel)
theorem kw_480 : Cond.code yJ0_length_8abf5 cJ0_length_8abf5 1 (some (.int)) ∈ gw := gw_of (tb_of 480 (by decide +kernel)) (by decide +kernel)
theorem kw_485 : Cond.methodLink "java/lang/String" 637 yJ1_indexOf_4cfef ∈ gw := gw_of (tb_of 485 (by decide +kernel)) (by decide +kernel)
theorem kw_486 : Cond.static yJ1_indexOf_4cfef ∈ gw := gw_of (tb_of 486 (by decide +kernel)) (by decide +kernel)
theorem kw_487 : Cond.code yJ1_indexOf_4cfef cJ1_indexOf_4cfef 4 (some (.int)) ∈ gw := gw_of (tb_of 487 (by decide +kernel)) (by decide +kernel)
theorem kw_488 : Cond.methodLink "java/lang/StringLatin1" 88 yJ1_canEncode_9a6ad ∈ gw := gw_of (tb_of 488 (by decide +kernel)) (by decide +kernel)
theorem kw_489 : Cond.static yJ1_canEncode_9a6ad ∈ gw := gw_of (tb_of 489 (by decide +kernel)) (by decide +kernel)
theorem kw_490 : Cond.code yJ1_canEncode_9a6ad cJ1_canEncode_9a6ad 1 (some (.boolean)) ∈ gw := gw_of (tb_of 490 (by decide +kernel)) (by decide +kernel)
theorem kw_491 : Cond.methodLink "java/lang/StringLatin1" 92 Lib.Math.max.name ∈ gw := gw_of (tb_of 491 (by decide +kernel)) (by decide +kernel)
theorem kw_492 : Cond.methodLink "java/lang/StringLatin1" 38 Lib.Math.min.name ∈ gw := gw_of (tb_of 492 (by decide +kernel)) (by decide +kernel)
theorem kw_493 : Cond.methodLink "java/lang/StringLatin1" 95 yJ1_indexOfChar_4cfef ∈ gw := gw_of (tb_of 493 (by decide +kernel)) (by decide +kernel)
theorem kw_494 : Cond.static yJ1_indexOfChar_4cfef ∈ gw := gw_of (tb_of 494 (by decide +kernel)) (by decide +kernel)
theorem kw_495 : Cond.code yJ1_indexOfChar_4cfef cJ1_indexOfChar_4cfef 6 (some (.int)) ∈ gw := gw_of (tb_of 495 (by decide +kernel)) (by decide +kernel)
set_option maxHeartbeats 4000000 in
set_option maxRecDepth 100000 in
theorem s_canEncode (l : Launch) (D : va_G) (cs : CS) (kf : KF) (T : TF) (O : List Nat) (X : va_W) (x0 : Int32)  (hO : okO T O []) : TK l D cs kf yJ1_canEncode_9a6ad cJ1_canEncode_9a6ad 1 (some (.boolean)) { frames := 0, cells := 0, slots := 0, locals := 0 } [.int x0] T O X (Ti D cs (fun r u => u = (T, O, X) ∧ 0 ≤ r.toInt ∧ r.toInt ≤ 1)) := by
  refine tk_of (by decide) (Nat.le_of_ble_eq_true rfl) (fun p e s m below meth c ls A H locs hx hb hr hml hown hts hlocks hnm hkb hH hS hA hOX hks hE hl => ?_)
  have hown : s.vm.findClass RJ1 = some m.cls := hown
  have hl : lv_has ls 1 [(0, .int x0)] := hl
  refine lv_iload_n hx hb dJ1_canEncode_9a6ad_0 rfl (lv_at hl 0 rfl) ?_
  have J16 : ∀ (k16_0 : Int32) (H : Heap) (locs : List Loc) (ls : Array Slot), (0 ≤ k16_0.toInt) → (k16_0.toInt ≤ 1) → HT D cs A T O X H → va_S A s.heap H locs → lv_has ls 1 [] → W p l e { frames := 0, cells := 0, slots := 0, locals := 0 } s m [.int x0].toArray below meth c H locs 0 0 (MQ below (Ti D cs (fun r u => u = (T, O, X) ∧ 0 ≤ r.toInt ∧ r.toInt ≤ 1) A) [.int x0].toArray s 0 0 A) (F0 m 16 ls [.int k16_0]) := by
    intro k16_0 H locs ls l_k16_0 u_k16_0 hH hS hl
    exact te_z hx hb hr hlocks (nar01 (by omega) (by omega)) hH hS (⟨rfl, by omega, by omega⟩) dJ1_canEncode_9a6ad_16
  have J15 : ∀  (H : Heap) (locs : List Loc) (ls : Array Slot), HT D cs A T O X H → va_S A s.heap H locs → lv_has ls 1 [] → W p l e { frames := 0, cells := 0, slots := 0, locals := 0 } s m [.int x0].toArray below meth c H locs 0 0 (MQ below (Ti D cs (fun r u => u = (T, O, X) ∧ 0 ≤ r.toInt ∧ r.toInt ≤ 1) A) [.int x0].toArray s 0 0 A) (F0 m 15 ls []) := by
    intro  H locs ls  hH hS hl
    refine lv_iconst (v := 0) hx hb dJ1_canEncode_9a6ad_15 (by decide) ?_
    exact J16 0 _ _ _ (by decide) (by decide) hH hS (lv_sub hl [] rfl)
  refine lv_if_lt (tgt := 15) hx hb dJ1_canEncode_9a6ad_1 (by decide) (fun c1 => ?_) (fun c1 => ?_)
  · skip
    have tc1 := f_lt (k := 0) (by decide) c1
    exact J15  _ _ _  hH hS (lv_sub hl [] rfl)
  · skip
    have tc1 := f_nlt (k := 0) (by decide) c1
    refine lv_iload_n hx hb dJ1_canEncode_9a6ad_4 rfl (lv_at hl 0 rfl) ?_
    refine lv_sipush (v := 255) hx hb dJ1_canEncode_9a6ad_5 (by decide) ?_
    refine lv_icmp_gt (tgt := 15) hx hb dJ1_canEncode_9a6ad_8 (by decide) (fun c8 => ?_) (fun c8 => ?_)
    · skip
      have tc8 := f_gt (k := 255) (by decide) c8
      exact J15  _ _ _  hH hS (lv_sub hl [] rfl)
    · skip
      have tc8 := f_ngt (k := 255) (by decide) c8
      refine lv_iconst (v := 1) hx hb dJ1_canEncode_9a6ad_11 (by decide) ?_
      refine lv_goto (tgt := 16) hx hb dJ1_canEncode_9a6ad_12 (by decide) ?_
      exact J16 1 _ _ _ (by decide) (by decide) hH hS (lv_sub hl [] rfl)
set_option maxHeartbeats 4000000 in
set_option maxRecDepth 100000 in
theorem s_indexOfChar (l : Launch) (D : va_G) (cs : CS) (kf : KF) (T : TF) (O : List Nat) (X : va_W) (a0 : Nat) (x1 : Int32) (x2 : Int32) (x3 : Int32) (t_a0 : a0 < 21) (l_x2 : 0 ≤ x2.toInt) (l_x3 : 0 ≤ x3.toInt) (u_x3 : x3.toInt < (slen.getD a0 0 : Nat) + 1) (hO : okO T O []) : TK l D cs kf yJ1_indexOfChar_4cfef cJ1_indexOfChar_4cfef 6 (some (.int)) { frames := 0, cells := 0, slots := 0, locals := 0 } [.ref (kf.2 a0), .int x1, .int x2, .int x3] T O X (Ti D cs (fun r u => u = (T, O, X) ∧ -1 ≤ r.toInt ∧ r.toInt ≤ 2147483646)) := by
  refine tk_of (by decide) (Nat.le_of_ble_eq_true rfl) (fun p e s m below meth c ls A H locs hx hb hr hml hown hts hlocks hnm hkb hH hS hA hOX hks hE hl => ?_)
  have hown : s.vm.findClass RJ1 = some m.cls := hown
  have hl : lv_has ls 6 [(0, .ref (kf.2 a0)), (1, .int x1), (2, .int x2), (3, .int x3)] := hl
  refine lv_iload_n hx hb dJ1_indexOfChar_4cfef_0 rfl (lv_at hl 1 rfl) ?_
  refine lv_i2b hx hb dJ1_indexOfChar_4cfef_1 rfl ?_
  refine lv_topi (fun v1 ev1 => ?_)
  refine lv_istore (lv' := [(4, .int v1), (0, .ref (kf.2 a0)), (1, .int x1), (2, .int x2), (3, .int x3)]) hx hb dJ1_indexOfChar_4cfef_2 hl (by decide) rfl (fun ls hl => ?_)
  refine lv_iload_n hx hb dJ1_indexOfChar_4cfef_4 rfl (lv_at hl 3 rfl) ?_
  have J7 : ∀ (n : Nat) (p7_5 : Int32) (H : Heap) (locs : List Loc) (ls : Array Slot), (2147483647 - p7_5.toInt).toNat = n → (0 ≤ p7_5.toInt) → HT D cs A T O X H → va_S A s.heap H locs → lv_has ls 6 [(5, .int p7_5), (4, .int v1), (0, .ref (kf.2 a0)), (3, .int x3)] → W p l e { frames := 0, cells := 0, slots := 0, locals := 0 } s m [.ref (kf.2 a0), .int x1, .int x2, .int x3].toArray below meth c H locs 0 0 (MQ below (Ti D cs (fun r u => u = (T, O, X) ∧ -1 ≤ r.toInt ∧ r.toInt ≤ 2147483646) A) [.ref (kf.2 a0), .int x1, .int x2, .int x3].toArray s 0 0 A) (F0 m 7 ls []) := by
    intro n
    induction n using Nat.strongRecOn with
    | _ n ih7 =>
      intro p7_5 H locs ls hm7 l_p7_5 hH hS hl
      refine lv_iload hx hb dJ1_indexOfChar_4cfef_7 (lv_at hl 0 rfl) ?_
      refine lv_iload_n hx hb dJ1_indexOfChar_4cfef_9 rfl (lv_at hl 3 rfl) ?_
      refine lv_icmp_ge (tgt := 31) hx hb dJ1_indexOfChar_4cfef_10 (by decide) (fun c10 => ?_) (fun c10 => ?_)
      · skip
        have fuc10 := full_i p7_5
        have fvc10 := full_i x3
        have tc10 := g_le c10
        refine lv_iconst (v := (-1)) hx hb dJ1_indexOfChar_4cfef_31 (by decide) ?_
        exact te_i hx hb hr hlocks hH hS (⟨rfl, by decide, by decide⟩) dJ1_indexOfChar_4cfef_32
      · skip
        have fuc10 := full_i p7_5
        have fvc10 := full_i x3
        have tc10 := g_nle c10
        refine lv_aload_n hx hb dJ1_indexOfChar_4cfef_13 rfl (lv_at hl 2 rfl) ?_
        refine lv_iload hx hb dJ1_indexOfChar_4cfef_14 (lv_at hl 0 rfl) ?_
        refine va_tb (v := .int ((sbyt.getD a0 []).getD (Int32.toNatClampNeg p7_5) 0)) hx hb (hE.1.1 a0 t_a0).2.2.2 hS (in_t (by omega) (by omega)) rfl dJ1_indexOfChar_4cfef_16 ?_
        refine lv_topi (fun v16 ev16 => ?_)
        refine lv_iload hx hb dJ1_indexOfChar_4cfef_17 (lv_at hl 1 rfl) ?_
        refine lv_icmp_ne (tgt := 25) hx hb dJ1_indexOfChar_4cfef_19 (by decide) (fun c19 => ?_) (fun c19 => ?_)
        · skip
          have fuc19 := full_i v16
          have fvc19 := full_i v1
          have tc19 := g_ne c19
          obtain ⟨v25, ev25⟩ : ∃ y : Int32, y = p7_5 + 1 := ⟨_, rfl⟩
          have tv25 : v25.toInt = p7_5.toInt + (1) := by rw [ev25]; exact add_i rfl (by decide) (by omega) (by omega)
          refine lv_iinc (v := v25) (lv' := [(5, .int v25), (4, .int v1), (0, .ref (kf.2 a0)), (3, .int x3)]) hx hb dJ1_indexOfChar_4cfef_25 hl (k := 0) rfl (by rw [ev25]; rfl) (by decide) rfl (fun ls hl => ?_)
          refine lv_goto (tgt := 7) hx hb dJ1_indexOfChar_4cfef_28 (by decide) ?_
          exact ih7 _ (by omega) v25 _ _ _ rfl (by omega) hH hS (lv_sub hl [0, 1, 2, 3] rfl)
        · skip
          have fuc19 := full_i v16
          have fvc19 := full_i v1
          have tc19 := g_eq c19
          refine lv_iload hx hb dJ1_indexOfChar_4cfef_22 (lv_at hl 0 rfl) ?_
          exact te_i hx hb hr hlocks hH hS (⟨rfl, by omega, by omega⟩) dJ1_indexOfChar_4cfef_24
  refine lv_istore (lv' := [(5, .int x2), (4, .int v1), (0, .ref (kf.2 a0)), (1, .int x1), (2, .int x2), (3, .int x3)]) hx hb dJ1_indexOfChar_4cfef_5 hl (by decide) rfl (fun ls hl => ?_)
  exact J7 _ x2 _ _ _ rfl (by omega) hH hS (lv_sub hl [0, 1, 2, 5] rfl)
set_option maxHeartbeats 4000000 in
set_option maxRecDepth 100000 in
theorem s_L1indexOf (l : Launch) (D : va_G) (cs : CS) (kf : KF) (T : TF) (O : List Nat) (X : va_W) (a0 : Nat) (x1 : Int32) (x2 : Int32) (x3 : Int32) (t_a0 : a0 < 21) (l_x3 : 0 ≤ x3.toInt) (u_x3 : x3.toInt < (slen.getD a0 0 : Nat) + 1) (hO : okO T O []) : TK l D cs kf yJ1_indexOf_4cfef cJ1_indexOf_4cfef 4 (some (.int)) { frames := 1, cells := 0, slots := 0, locals := 25 } [.ref (kf.2 a0), .int x1, .int x2, .int x3] T O X (Ti D cs (fun r u => u = (T, O, X) ∧ -1 ≤ r.toInt ∧ r.toInt ≤ 2147483646)) := by
  refine tk_of (by decide) (Nat.le_of_ble_eq_true rfl) (fun p e s m below meth c ls A H locs hx hb hr hml hown hts hlocks hnm hkb hH hS hA hOX hks hE hl => ?_)
  have hown : s.vm.findClass RJ1 = some m.cls := hown
  have hl : lv_has ls 4 [(0, .ref (kf.2 a0)), (1, .int x1), (2, .int x2), (3, .int x3)] := hl
  refine lv_iload_n hx hb dJ1_indexOf_4cfef_0 rfl (lv_at hl 1 rfl) ?_
  refine tk_i hH hS hA (tr_S (n := 1) (As := [.int x1]) hx hb hml hown hts hkb hH hOX hks hE hS hA (s_canEncode l D cs kf T O X x1  (hO.sub (by decide))) kw_488 kw_489 kw_15 kw_490 (by decide +kernel) ⟨Nat.le_of_ble_eq_true rfl, Nat.le_of_ble_eq_true rfl⟩ rfl rfl hl.1 (Nat.le_of_ble_eq_true rfl) dJ1_indexOf_4cfef_1 ⟨Nat.le_of_ble_eq_true rfl, Nat.le_of_ble_eq_true rfl⟩) (fun v1 u H locs hz9 hH hS => ?_)
  obtain ⟨rfl, l_v1, u_v1⟩ := hz9
  have hH : HT D cs A T O X H := hH
  refine W.widen (k := 0) (n := 0) (Nat.le_of_ble_eq_true rfl) (Nat.le_of_ble_eq_true rfl) ?_
  refine lv_if_ne (tgt := 9) hx hb dJ1_indexOf_4cfef_4 (by decide) (fun c4 => ?_) (fun c4 => ?_)
  · skip
    have tc4 := f_ne (k := 0) (by decide) c4
    refine lv_iload_n hx hb dJ1_indexOf_4cfef_9 rfl (lv_at hl 2 rfl) ?_
    refine lv_iconst (v := 0) hx hb dJ1_indexOf_4cfef_10 (by decide) ?_
    refine va_mmax hx hb (by rw [hml]; exact hl.1.symm) hown (hts _ kw_491) (hts _ kw_100) (hts _ kw_6) (hts _ kw_101) (Nat.le_of_ble_eq_true rfl) (Nat.le_of_ble_eq_true rfl) (Nat.le_of_ble_eq_true rfl) (Nat.le_of_ble_eq_true rfl) dJ1_indexOf_4cfef_11 ?_
    refine lv_topi (fun v11 ev11 => ?_)
    have tv11 : v11.toInt = max x2.toInt (0) := by rw [ev11]; exact max_i rfl (by decide : (0 : Int32).toInt = 0)
    refine lv_istore_n (lv' := [(2, .int v11), (0, .ref (kf.2 a0)), (1, .int x1), (3, .int x3)]) hx hb dJ1_indexOf_4cfef_14 rfl hl (by decide) rfl (fun ls hl => ?_)
    refine lv_iload_n hx hb dJ1_indexOf_4cfef_15 rfl (lv_at hl 3 rfl) ?_
    refine lv_aload_n hx hb dJ1_indexOf_4cfef_16 rfl (lv_at hl 1 rfl) ?_
    refine va_tlen (v := nI (slen.getD a0 0)) hx hb (hE.1.1 a0 t_a0).2.2.2 hS rfl dJ1_indexOf_4cfef_17 ?_
    have b9_a0 := slen_b a0
    have e9_a0 : (nI (slen.getD a0 0)).toInt = (slen.getD a0 0 : Nat) := nI_toInt (by omega)
    refine va_mmin hx hb (by rw [hml]; exact hl.1.symm) hown (hts _ kw_492) (hts _ kw_450) (hts _ kw_6) (hts _ kw_451) (Nat.le_of_ble_eq_true rfl) (Nat.le_of_ble_eq_true rfl) (Nat.le_of_ble_eq_true rfl) (Nat.le_of_ble_eq_true rfl) dJ1_indexOf_4cfef_18 ?_
    refine lv_topi (fun v18 ev18 => ?_)
    have tv18 : v18.toInt = min x3.toInt (nI (slen.getD a0 0)).toInt := by rw [ev18]; exact min_i rfl rfl
    refine lv_istore_n (lv' := [(3, .int v18), (2, .int v11), (0, .ref (kf.2 a0)), (1, .int x1)]) hx hb dJ1_indexOf_4cfef_21 rfl hl (by decide) rfl (fun ls hl => ?_)
    refine lv_iload_n hx hb dJ1_indexOf_4cfef_22 rfl (lv_at hl 1 rfl) ?_
    refine lv_iload_n hx hb dJ1_indexOf_4cfef_23 rfl (lv_at hl 0 rfl) ?_
    refine lv_icmp_lt (tgt := 29) hx hb dJ1_indexOf_4cfef_24 (by decide) (fun c24 => ?_) (fun c24 => ?_)
    · skip
      have fuc24 := full_i v11
      have fvc24 := full_i v18
      have tc24 := g_lt c24
      refine lv_aload_n hx hb dJ1_indexOf_4cfef_29 rfl (lv_at hl 2 rfl) ?_
      refine lv_iload_n hx hb dJ1_indexOf_4cfef_30 rfl (lv_at hl 3 rfl) ?_
      refine lv_iload_n hx hb dJ1_indexOf_4cfef_31 rfl (lv_at hl 1 rfl) ?_
      refine lv_iload_n hx hb dJ1_indexOf_4cfef_32 rfl (lv_at hl 0 rfl) ?_
      refine tk_i hH hS hA (tr_S (n := 4) (As := [.ref (kf.2 a0), .int x1, .int v11, .int v18]) hx hb hml hown hts hkb hH hOX hks hE hS hA (s_indexOfChar l D cs kf T O X a0 x1 v11 v18 t_a0 (by omega) (by omega) (by omega) (hO.sub (by decide))) kw_493 kw_494 kw_15 kw_495 (by decide +kernel) ⟨Nat.le_of_ble_eq_true rfl, Nat.le_of_ble_eq_true rfl⟩ rfl rfl hl.1 (Nat.le_of_ble_eq_true rfl) dJ1_indexOf_4cfef_33 ⟨Nat.le_of_ble_eq_true rfl, Nat.le_of_ble_eq_true rfl⟩) (fun v33 u H locs hz9 hH hS => ?_)
      obtain ⟨rfl, l_v33, u_v33⟩ := hz9
      have hH : HT D cs A T O X H := hH
      refine W.widen (k := 0) (n := 0) (Nat.le_of_ble_eq_true rfl) (Nat.le_of_ble_eq_true rfl) ?_
      exact te_i hx hb hr hlocks hH hS (⟨rfl, by omega, by omega⟩) dJ1_indexOf_4cfef_36
    · skip
      have fuc24 := full_i v11
      have fvc24 := full_i v18
      have tc24 := g_nlt c24
      refine lv_iconst (v := (-1)) hx hb dJ1_indexOf_4cfef_27 (by decide) ?_
      exact te_i hx hb hr hlocks hH hS (⟨rfl, by decide, by decide⟩) dJ1_indexOf_4cfef_28
  · skip
    have tc4 := f_eq (k := 0) (by decide) c4
    refine lv_iconst (v := (-1)) hx hb dJ1_indexOf_4cfef_7 (by decide) ?_
    exact te_i hx hb hr hlocks hH hS (⟨rfl, by decide, by decide⟩) dJ1_indexOf_4cfef_8
set_option maxHeartbeats 4000000 in
set_option maxRecDepth 100000 in
theorem s_indexOf2 (l : Launch) (D : va_G) (cs : CS) (kf : KF) (T : TF) (O : List Nat) (X : va_W) (a0 : Nat) (x1 : Int32) (x2 : Int32) (t_a0 : a0 < 21) (hO : okO T O []) : TK l D cs kf yJ0_indexOf_7cf53 cJ0_indexOf_7cf53 3 (some (.int)) { frames := 2, cells := 0, slots := 0, locals := 48 } [.ref (kf.1 a0), .int x1, .int x2] T O X (Ti D cs (fun r u => u = (T, O, X) ∧ -1 ≤ r.toInt ∧ r.toInt ≤ 2147483646)) := by
  refine tk_of (by decide) (Nat.le_of_ble_eq_true rfl) (fun p e s m below meth c ls A H locs hx hb hr hml hown hts hlocks hnm hkb hH hS hA hOX hks hE hl => ?_)
  have hown : s.vm.findClass RJ0 = some m.cls := hown
  have hl : lv_has ls 3 [(0, .ref (kf.1 a0)), (1, .int x1), (2, .int x2)] := hl
  refine lv_aload_n hx hb dJ0_indexOf_7cf53_0 rfl (lv_at hl 0 rfl) ?_
  refine tk_i hH hS hA (tr_V (n := 0) (As := []) hx hb hml hown hts hkb hH hOX hks hE hS hA (s_isLatin1 l D cs kf T O X a0 t_a0 (hO.sub (by decide))) kw_471 kw_472 kw_473 kw_14 kw_474 (by decide +kernel) ⟨Nat.le_of_ble_eq_true rfl, Nat.le_of_ble_eq_true rfl⟩ (vk_recv hE.1 t_a0 hS) rfl rfl hl.1 (Nat.le_of_ble_eq_true rfl) dJ0_indexOf_7cf53_1 ⟨Nat.le_of_ble_eq_true rfl, Nat.le_of_ble_eq_true rfl⟩) (fun v1 u H locs hz9 hH hS => ?_)
  obtain ⟨rfl, l_v1, u_v1⟩ := hz9
  refine lv_topc (y := 1) (eq_c (by decide) l_v1 u_v1) ?_
  have hH : HT D cs A T O X H := hH
  refine W.widen (k := 0) (n := 0) (Nat.le_of_ble_eq_true rfl) (Nat.le_of_ble_eq_true rfl) ?_
  refine lv_if_eq (tgt := 23) hx hb dJ0_indexOf_7cf53_4 (by decide) (fun c4 => absurd c4 (by decide)) (fun _ => ?_)
  refine lv_aload_n hx hb dJ0_indexOf_7cf53_7 rfl (lv_at hl 0 rfl) ?_
  refine vk_getf hx hb (hE.1.1 a0 t_a0).2.2.1 hS hown (hts _ kw_1790) (fun _ h9 => h9) dJ0_indexOf_7cf53_8 ?_
  refine lv_iload_n hx hb dJ0_indexOf_7cf53_11 rfl (lv_at hl 1 rfl) ?_
  refine lv_iload_n hx hb dJ0_indexOf_7cf53_12 rfl (lv_at hl 2 rfl) ?_
  refine lv_aload_n hx hb dJ0_indexOf_7cf53_13 rfl (lv_at hl 0 rfl) ?_
  refine tk_i hH hS hA (tr_V (n := 0) (As := []) hx hb hml hown hts hkb hH hOX hks hE hS hA (s_length l D cs kf T O X a0 t_a0 (hO.sub (by decide))) kw_477 kw_478 kw_479 kw_14 kw_480 (by decide +kernel) ⟨Nat.le_of_ble_eq_true rfl, Nat.le_of_ble_eq_true rfl⟩ (vk_recv hE.1 t_a0 hS) rfl rfl hl.1 (Nat.le_of_ble_eq_true rfl) dJ0_indexOf_7cf53_14 ⟨Nat.le_of_ble_eq_true rfl, Nat.le_of_ble_eq_true rfl⟩) (fun v14 u H locs hz9 hH hS => ?_)
  obtain ⟨rfl, l_v14, u_v14, x_v140⟩ := hz9
  have hH : HT D cs A T O X H := hH
  refine W.widen (k := 0) (n := 0) (Nat.le_of_ble_eq_true rfl) (Nat.le_of_ble_eq_true rfl) ?_
  refine tk_i hH hS hA (tr_S (n := 4) (As := [.ref (kf.2 a0), .int x1, .int x2, .int v14]) hx hb hml hown hts hkb hH hOX hks hE hS hA (s_L1indexOf l D cs kf T O X a0 x1 x2 v14 t_a0 (by omega) (by omega) (hO.sub (by decide))) kw_485 kw_486 kw_15 kw_487 (by decide +kernel) ⟨Nat.le_of_ble_eq_true rfl, Nat.le_of_ble_eq_true rfl⟩ rfl rfl hl.1 (Nat.le_of_ble_eq_true rfl) dJ0_indexOf_7cf53_17 ⟨Nat.le_of_ble_eq_true rfl, Nat.le_of_ble_eq_true rfl⟩) (fun v17 u H locs hz9 hH hS => ?_)
  obtain ⟨rfl, l_v17, u_v17⟩ := hz9
  have hH : HT D cs A T O X H := hH
  refine W.widen (k := 0) (n := 0) (Nat.le_of_ble_eq_true rfl) (Nat.le_of_ble_eq_true rfl) ?_
  refine lv_goto (tgt := 36) hx hb dJ0_indexOf_7cf53_20 (by decide) ?_
  exact te_i hx hb hr hlocks hH hS (⟨rfl, by omega, by omega⟩) dJ0_indexOf_7cf53_36
set_option maxHeartbeats 4000000 in
set_option maxRecDepth 100000 in
theorem s_indexOf1 (l : Launch) (D : va_G) (cs : CS) (kf : KF) (T : TF) (O : List Nat) (X : va_W) (a0 : Nat) (x1 : Int32) (t_a0 : a0 < 21) (hO : okO T O []) : TK l D cs kf yJ0_indexOf_0f7a4 cJ0_indexOf_0f7a4 2 (some (.int)) { frames := 3, cells := 0, slots := 0, locals := 70 } [.ref (kf.1 a0), .int x1] T O X (Ti D cs (fun r u => u = (T, O, X) ∧ -1 ≤ r.toInt ∧ r.toInt ≤ 2147483646)) := by
  refine tk_of (by decide) (Nat.le_of_ble_eq_true rfl) (fun p e s m below meth c ls A H locs hx hb hr hml hown hts hlocks hnm hkb hH hS hA hOX hks hE hl => ?_)
  have hown : s.vm.findClass RJ0 = some m.cls := hown
  have hl : lv_has ls 2 [(0, .ref (kf.1 a0)), (1, .int x1)] := hl
  refine lv_aload_n hx hb dJ0_indexOf_0f7a4_0 rfl (lv_at hl 0 rfl) ?_
  refine lv_iload_n hx hb dJ0_indexOf_0f7a4_1 rfl (lv_at hl 1 rfl) ?_
  refine lv_iconst (v := 0) hx hb dJ0_indexOf_0f7a4_2 (by decide) ?_
  refine tk_i hH hS hA (tr_V (n := 2) (As := [.int x1, .int 0]) hx hb hml hown hts hkb hH hOX hks hE hS hA (s_indexOf2 l D cs kf T O X a0 x1 (0) t_a0 (hO.sub (by decide))) kw_467 kw_468 kw_469 kw_14 kw_470 (by decide +kernel) ⟨Nat.le_of_ble_eq_true rfl, Nat.le_of_ble_eq_true rfl⟩ (vk_recv hE.1 t_a0 hS) rfl rfl hl.1 (Nat.le_of_ble_eq_true rfl) dJ0_indexOf_0f7a4_3 ⟨Nat.le_of_ble_eq_true rfl, Nat.le_of_ble_eq_true rfl⟩) (fun v3 u H locs hz9 hH hS => ?_)
  obtain ⟨rfl, l_v3, u_v3⟩ := hz9
  have hH : HT D cs A T O X H := hH
  refine W.widen (k := 0) (n := 0) (Nat.le_of_ble_eq_true rfl) (Nat.le_of_ble_eq_true rfl) ?_
  exact te_i hx hb hr hlocks hH hS (⟨rfl, by omega, by omega⟩) dJ0_indexOf_0f7a4_6
