set_option maxHeartbeats 4000000 in
set_option maxRecDepth 100000 in
/-- whose -/
theorem lw_c30 {p : Program} {e : Env} {s : State} {m : MethodId} {below : List Frame} {meth : Method} {c : Code} {Q : State → Prop} (l : Launch) (D : va_G) (cs : CS) (kf : KF) {b L : Nat} {xs : Nat → Int32} (hx : p.tables.exec = Jvm.exec) (hb : c.code = code) (hml : c.maxLocals = 4) (hown : s.vm.findClass R_law = some m.cls) (hts : ∀ w ∈ gw, w.before #[Value.ref b] s = true) (hX : va_X b L xs s s.heap) (hbl : b < s.heap.size) (hkb : kb D (tyc cs) s) (hks : kS kf s) {A : Nat → Prop} (hE : kE kf A s s.heap) (hA : ∀ q, s.heap.size ≤ q → A q) (hbA : ¬ A b) (hL : L ≤ 3072) (O : List Nat) (X : va_W) (hOX0 : ∀ o ∈ O, ∃ (k : Nat) (e : va_E), X[k]? = some (o, e)) (hO9 : O = []) (a0 ch a1 y2 y3 tk tp tm : Nat) (T : TF) (w hw gw hg G M y0 nn j : Nat) (y1 : Int32) (o0 : Value) (k1 k2 k3 k4 k5 k6 k7 : Int32) (ft f3 : Nat → Int32) (t : Tp) (x3 : Int32) (n cells slots : Nat) (H : Heap) (locs : List Loc) (ls : Array Slot) (hv : LV T a0 a1 ch w hw gw hg G M y0 y2 y3 nn j y1) (hlx : LX T tk tp tm) (hlg : LG G M ft f3 t k6 k7) (hlk : LK k1 k2 k3) (hr : RM cells slots n j) (hn512 : n < 512) (l_x3 : 0 ≤ x3.toInt) (u_x3 : x3.toInt + 6 ≤ L) (hH : HT D cs A T (ch :: tk :: tp :: tm :: O) ((ch, .inr (0, [.ref y0, .int y1, .ref y2, .ref y3])) :: (tk, .inr (7, [o0, .int k1, .int k2, .int k3, .int k4, .int k5, .int k6, .int k7])) :: (tp, .inl (cs.1, 900, .inl ft)) :: (tm, .inl (cs.2.1, 900, .inl f3)) :: X) H) (hS : va_S A s.heap H locs) (hl : lv_has ls 4 [(0, .ref b), (1, .ref a0), (2, .ref a1), (3, .int x3)]) (kk : ∀ (T : TF) (w hw gw hg G M y0 nn j : Nat) (y1 : Int32) (o0 : Value) (k1 k2 k3 k4 k5 k6 k7 : Int32) (ft f3 : Nat → Int32) (t : Tp) (cells slots : Nat) (H : Heap) (locs : List Loc) (ls : Array Slot), LV T a0 a1 ch w hw gw hg G M y0 y2 y3 nn j y1 → LX T tk tp tm → LG G M ft f3 t k6 k7 → LK k1 k2 k3 → RM cells slots (n + 1) j → HT D cs A T (ch :: tk :: tp :: tm :: O) ((ch, .inr (0, [.ref y0, .int y1, .ref y2, .ref y3])) :: (tk, .inr (7, [o0, .int k1, .int k2, .int k3, .int k4, .int k5, .int k6, .int k7])) :: (tp, .inl (cs.1, 900, .inl ft)) :: (tm, .inl (cs.2.1, 900, .inl f3)) :: X) H → va_S A s.heap H locs → lv_has ls 4 [(0, .ref b), (1, .ref a0), (2, .ref a1), (3, .int x3)] → W p l e room_1 s m #[Value.ref b] below meth c H locs cells slots Q (F0 m 1395 ls [])) : W p l e room_1 s m #[Value.ref b] below meth c H locs cells slots Q (F0 m 1022 ls []) := by
  obtain ⟨t_a0, t_w, t_a1, b_hg, hU, hU1, t_ch, t_y0, l_y1, u_y1, t_y2, t_y3, hn, hj⟩ := id hv
  obtain ⟨t_tk, t_tp, t_tm, hU7, hU0, hU9⟩ := id hlx
  obtain ⟨lk1, lk2, lk3, lk4, lk5, lk6⟩ := id hlk
  have hO := okc hO9 t_ch t_tk t_tp t_tm
  obtain ⟨hr1, hr2⟩ := id hr
  have hOX : ∀ o ∈ (ch :: tk :: tp :: tm :: O), ∃ (k : Nat) (e : va_E), ((ch, .inr (0, [.ref y0, .int y1, .ref y2, .ref y3])) :: (tk, .inr (7, [o0, .int k1, .int k2, .int k3, .int k4, .int k5, .int k6, .int k7])) :: (tp, .inl (cs.1, 900, .inl ft)) :: (tm, .inl (cs.2.1, 900, .inl f3)) :: X)[k]? = some (o, e) := ox_c (ox_c (ox_c (ox_c hOX0)))
  have hOXf := hOX
  have b1_w := t_w.2.1
  have b2_w := t_w.2.2
  refine lv_aload_n hx hb dL_law_1022 rfl (lv_at hl 1 rfl) ?_
  refine lv_aload_n hx hb dL_law_1023 rfl (lv_at hl 0 rfl) ?_
  refine lv_iload_n hx hb dL_law_1024 rfl (lv_at hl 3 rfl) ?_
  refine lv_iconst (v := 1) hx hb dL_law_1025 (by decide) ?_
  refine lv_iadd hx hb dL_law_1026 ?_
  refine lv_topi (fun v1026 ev1026 => ?_)
  have tv1026 : v1026.toInt = x3.toInt + (1) := by rw [ev1026]; exact add_i rfl (by decide : (1 : Int32).toInt = 1) (by omega) (by omega)
  refine va_sld hx hb hX hbl hbA hS (in_t (by omega) (by omega)) dL_law_1027 ?_
  refine lv_topi (fun v1027 ev1027 => ?_)
  refine tk_iD hH hS hA (tr_VD (n := 1) (As := [.int v1027]) hx hb hml hown hts hkb hH (ox_map hOX rfl) hks hE hS hA (s_FW_whose l D cs kf T (tk :: tp :: tm :: O) ((tk, .inr (7, [o0, .int k1, .int k2, .int k3, .int k4, .int k5, .int k6, .int k7])) :: (tp, .inl (cs.1, 900, .inl ft)) :: (tm, .inl (cs.2.1, 900, .inl f3)) :: X) a0 w hw gw ch G v1027 y0 y1 y2 y3 nn j t_a0 t_w t_ch t_y0 (by omega) (by omega) t_y2 t_y3 hn hj (hO.sub (by decide))) kw_1123 kw_1124 kw_1125 kw_1 kw_1126 (by decide +kernel) ⟨Nat.le_of_ble_eq_true rfl, Nat.le_of_ble_eq_true rfl⟩ (HT.recv (ci := 11) hkb hH t_a0 (hO.no t_a0 (by decide)) rfl) rfl rfl hl.1 (Nat.le_of_ble_eq_true rfl) dL_law_1028 ⟨by show cells + 15 ≤ 600000; omega, by show slots + 245760 ≤ 7302250; omega⟩) (fun v1028 kc1028 ks1028 u H locs hz9 hH hS => ?_)
  obtain ⟨T1028, le_T1028, n2_1028, j2_1028, n1028_0_0, n1028_0_1, rfl, l_v1028, u_v1028, x_v10280, x_v10281, x_v10282, x_v10283, x_v10284, x_v10285, x_v10286, x_v10287, x_v10288⟩ := hz9
  have t_a0 := le_T1028.1 _ _ t_a0
  have t_a1 := le_T1028.1 _ _ t_a1
  have t_ch := le_T1028.1 _ _ t_ch
  have t_y0 := le_T1028.1 _ _ t_y0
  have t_y2 := le_T1028.1 _ _ t_y2
  have t_y3 := le_T1028.1 _ _ t_y3
  have t_tk := le_T1028.1 _ _ t_tk
  have t_tp := le_T1028.1 _ _ t_tp
  have t_tm := le_T1028.1 _ _ t_tm
  have t_w := isW.le le_T1028.1 t_w
  have hO := okO.le le_T1028.1 hO
  have t_n1028_0_0 := x_v10280
  have hH : HT D cs A T1028 (ch :: tk :: tp :: tm :: O) ((ch, .inr (0, [.ref n1028_0_0, .int n1028_0_1, .ref y2, .ref y3])) :: (tk, .inr (7, [o0, .int k1, .int k2, .int k3, .int k4, .int k5, .int k6, .int k7])) :: (tp, .inl (cs.1, 900, .inl ft)) :: (tm, .inl (cs.2.1, 900, .inl f3)) :: X) H := hH
  refine lv_pop hx hb dL_law_1031 rfl ?_
  refine lv_aload_n hx hb dL_law_1032 rfl (lv_at hl 2 rfl) ?_
  refine lv_aload_n hx hb dL_law_1033 rfl (lv_at hl 0 rfl) ?_
  refine lv_iload_n hx hb dL_law_1034 rfl (lv_at hl 3 rfl) ?_
  refine lv_iconst (v := 1) hx hb dL_law_1035 (by decide) ?_
  refine lv_iadd hx hb dL_law_1036 ?_
  refine lv_topi (fun v1036 ev1036 => ?_)
  have tv1036 : v1036.toInt = x3.toInt + (1) := by rw [ev1036]; exact add_i rfl (by decide : (1 : Int32).toInt = 1) (by omega) (by omega)
  refine va_sld hx hb hX hbl hbA hS (in_t (by omega) (by omega)) dL_law_1037 ?_
  refine lv_topi (fun v1037 ev1037 => ?_)
  refine tk_i hH hS hA (tr_V (n := 1) (As := [.int v1037]) hx hb hml hown hts hkb hH (ox_map hOX rfl) hks hE hS hA (s_M_whose l D cs kf T1028 (ch :: tk :: tp :: tm :: O) ((ch, .inr (0, [.ref n1028_0_0, .int n1028_0_1, .ref y2, .ref y3])) :: (tk, .inr (7, [o0, .int k1, .int k2, .int k3, .int k4, .int k5, .int k6, .int k7])) :: (tp, .inl (cs.1, 900, .inl ft)) :: (tm, .inl (cs.2.1, 900, .inl f3)) :: X) a1 hg M v1037 t_a1 b_hg (hO.sub (by decide))) kw_1716 kw_1717 kw_1718 kw_13 kw_1719 (by decide +kernel) ⟨Nat.le_of_ble_eq_true rfl, Nat.le_of_ble_eq_true rfl⟩ (HT.recv (ci := 12) hkb hH t_a1 (hO.no t_a1 (by decide)) rfl) rfl rfl hl.1 (Nat.le_of_ble_eq_true rfl) dL_law_1038 ⟨by show (cells + kc1028) + 0 ≤ 600000; omega, by show (slots + ks1028) + 0 ≤ 7302250; omega⟩) (fun v1038 u H locs hz9 hH hS => ?_)
  obtain ⟨rfl, l_v1038, u_v1038⟩ := hz9
  have hH : HT D cs A T1028 (ch :: tk :: tp :: tm :: O) ((ch, .inr (0, [.ref n1028_0_0, .int n1028_0_1, .ref y2, .ref y3])) :: (tk, .inr (7, [o0, .int k1, .int k2, .int k3, .int k4, .int k5, .int k6, .int k7])) :: (tp, .inl (cs.1, 900, .inl ft)) :: (tm, .inl (cs.2.1, 900, .inl f3)) :: X) H := hH
  refine W.widen (k := cells + kc1028) (n := slots + ks1028) (Nat.le_refl _) (Nat.le_refl _) ?_
  refine lv_pop hx hb dL_law_1041 rfl ?_
  refine lv_goto (tgt := 1395) hx hb dL_law_1042 (by decide) ?_
  exact kk T1028 w hw gw hg G M n1028_0_0 n2_1028 j2_1028 n1028_0_1 o0 k1 k2 k3 k4 k5 k6 k7 ft f3 t _ _ _ _ _ (hv.gr le_T1028 x_v10280 x_v10281 x_v10283 x_v10284 x_v10285) (hlx.gr le_T1028) hlg hlk (hr.d x_v10287 x_v10288) hH hS (lv_sub hl [0, 1, 2, 3] rfl)
set_option maxHeartbeats 4000000 in
set_option maxRecDepth 100000 in
/-- order -/
theorem lw_c31 {p : Program} {e : Env} {s : State} {m : MethodId} {below : List Frame} {meth : Method} {c : Code} {Q : State → Prop} (l : Launch) (D : va_G) (cs : CS) (kf : KF) {b L : Nat} {xs : Nat → Int32} (hx : p.tables.exec = Jvm.exec) (hb : c.code = code) (hml : c.maxLocals = 4) (hown : s.vm.findClass R_law = some m.cls) (hts : ∀ w ∈ gw, w.before #[Value.ref b] s = true) (hX : va_X b L xs s s.heap) (hbl : b < s.heap.size) (hkb : kb D (tyc cs) s) (hks : kS kf s) {A : Nat → Prop} (hE : kE kf A s s.heap) (hA : ∀ q, s.heap.size ≤ q → A q) (hbA : ¬ A b) (hL : L ≤ 3072) (O : List Nat) (X : va_W) (hOX0 : ∀ o ∈ O, ∃ (k : Nat) (e : va_E), X[k]? = some (o, e)) (hO9 : O = []) (a0 ch a1 y2 y3 tk tp tm : Nat) (T : TF) (w hw gw hg G M y0 nn j : Nat) (y1 : Int32) (o0 : Value) (k1 k2 k3 k4 k5 k6 k7 : Int32) (ft f3 : Nat → Int32) (t : Tp) (x3 : Int32) (n cells slots : Nat) (H : Heap) (locs : List Loc) (ls : Array Slot) (hv : LV T a0 a1 ch w hw gw hg G M y0 y2 y3 nn j y1) (hlx : LX T tk tp tm) (hlg : LG G M ft f3 t k6 k7) (hlk : LK k1 k2 k3) (hr : RM cells slots n j) (hn512 : n < 512) (l_x3 : 0 ≤ x3.toInt) (u_x3 : x3.toInt + 6 ≤ L) (hH : HT D cs A T (ch :: tk :: tp :: tm :: O) ((ch, .inr (0, [.ref y0, .int y1, .ref y2, .ref y3])) :: (tk, .inr (7, [o0, .int k1, .int k2, .int k3, .int k4, .int k5, .int k6, .int k7])) :: (tp, .inl (cs.1, 900, .inl ft)) :: (tm, .inl (cs.2.1, 900, .inl f3)) :: X) H) (hS : va_S A s.heap H locs) (hl : lv_has ls 4 [(0, .ref b), (1, .ref a0), (2, .ref a1), (3, .int x3)]) (kk : ∀ (T : TF) (w hw gw hg G M y0 nn j : Nat) (y1 : Int32) (o0 : Value) (k1 k2 k3 k4 k5 k6 k7 : Int32) (ft f3 : Nat → Int32) (t : Tp) (cells slots : Nat) (H : Heap) (locs : List Loc) (ls : Array Slot), LV T a0 a1 ch w hw gw hg G M y0 y2 y3 nn j y1 → LX T tk tp tm → LG G M ft f3 t k6 k7 → LK k1 k2 k3 → RM cells slots (n + 1) j → HT D cs A T (ch :: tk :: tp :: tm :: O) ((ch, .inr (0, [.ref y0, .int y1, .ref y2, .ref y3])) :: (tk, .inr (7, [o0, .int k1, .int k2, .int k3, .int k4, .int k5, .int k6, .int k7])) :: (tp, .inl (cs.1, 900, .inl ft)) :: (tm, .inl (cs.2.1, 900, .inl f3)) :: X) H → va_S A s.heap H locs → lv_has ls 4 [(0, .ref b), (1, .ref a0), (2, .ref a1), (3, .int x3)] → W p l e room_1 s m #[Value.ref b] below meth c H locs cells slots Q (F0 m 1395 ls [])) : W p l e room_1 s m #[Value.ref b] below meth c H locs cells slots Q (F0 m 1045 ls []) := by
  obtain ⟨t_a0, t_w, t_a1, b_hg, hU, hU1, t_ch, t_y0, l_y1, u_y1, t_y2, t_y3, hn, hj⟩ := id hv
  obtain ⟨t_tk, t_tp, t_tm, hU7, hU0, hU9⟩ := id hlx
  obtain ⟨lk1, lk2, lk3, lk4, lk5, lk6⟩ := id hlk
  have hO := okc hO9 t_ch t_tk t_tp t_tm
  obtain ⟨hr1, hr2⟩ := id hr
  have hOX : ∀ o ∈ (ch :: tk :: tp :: tm :: O), ∃ (k : Nat) (e : va_E), ((ch, .inr (0, [.ref y0, .int y1, .ref y2, .ref y3])) :: (tk, .inr (7, [o0, .int k1, .int k2, .int k3, .int k4, .int k5, .int k6, .int k7])) :: (tp, .inl (cs.1, 900, .inl ft)) :: (tm, .inl (cs.2.1, 900, .inl f3)) :: X)[k]? = some (o, e) := ox_c (ox_c (ox_c (ox_c hOX0)))
  have hOXf := hOX
  have b1_w := t_w.2.1
  have b2_w := t_w.2.2
  refine lv_aload_n hx hb dL_law_1045 rfl (lv_at hl 1 rfl) ?_
  refine lv_aload_n hx hb dL_law_1046 rfl (lv_at hl 0 rfl) ?_
  refine lv_iload_n hx hb dL_law_1047 rfl (lv_at hl 3 rfl) ?_
  refine lv_iconst (v := 1) hx hb dL_law_1048 (by decide) ?_
  refine lv_iadd hx hb dL_law_1049 ?_
  refine lv_topi (fun v1049 ev1049 => ?_)
  have tv1049 : v1049.toInt = x3.toInt + (1) := by rw [ev1049]; exact add_i rfl (by decide : (1 : Int32).toInt = 1) (by omega) (by omega)
  refine va_sld hx hb hX hbl hbA hS (in_t (by omega) (by omega)) dL_law_1050 ?_
  refine lv_topi (fun v1050 ev1050 => ?_)
  refine lv_aload_n hx hb dL_law_1051 rfl (lv_at hl 0 rfl) ?_
  refine lv_iload_n hx hb dL_law_1052 rfl (lv_at hl 3 rfl) ?_
  refine lv_iconst (v := 2) hx hb dL_law_1053 (by decide) ?_
  refine lv_iadd hx hb dL_law_1054 ?_
  refine lv_topi (fun v1054 ev1054 => ?_)
  have tv1054 : v1054.toInt = x3.toInt + (2) := by rw [ev1054]; exact add_i rfl (by decide : (2 : Int32).toInt = 2) (by omega) (by omega)
  refine va_sld hx hb hX hbl hbA hS (in_t (by omega) (by omega)) dL_law_1055 ?_
  refine lv_topi (fun v1055 ev1055 => ?_)
  refine lv_aload_n hx hb dL_law_1056 rfl (lv_at hl 0 rfl) ?_
  refine lv_iload_n hx hb dL_law_1057 rfl (lv_at hl 3 rfl) ?_
  refine lv_iconst (v := 3) hx hb dL_law_1058 (by decide) ?_
  refine lv_iadd hx hb dL_law_1059 ?_
  refine lv_topi (fun v1059 ev1059 => ?_)
  have tv1059 : v1059.toInt = x3.toInt + (3) := by rw [ev1059]; exact add_i rfl (by decide : (3 : Int32).toInt = 3) (by omega) (by omega)
  refine va_sld hx hb hX hbl hbA hS (in_t (by omega) (by omega)) dL_law_1060 ?_
  refine lv_topi (fun v1060 ev1060 => ?_)
  refine tk_iD hH hS hA (tr_VD (n := 3) (As := [.int v1050, .int v1055, .int v1060]) hx hb hml hown hts hkb hH (ox_map hOX rfl) hks hE hS hA (s_FW_order l D cs kf T (tk :: tp :: tm :: O) ((tk, .inr (7, [o0, .int k1, .int k2, .int k3, .int k4, .int k5, .int k6, .int k7])) :: (tp, .inl (cs.1, 900, .inl ft)) :: (tm, .inl (cs.2.1, 900, .inl f3)) :: X) a0 w hw gw ch G v1050 v1055 v1060 y0 y1 y2 y3 nn j t_a0 t_w t_ch t_y0 (by omega) (by omega) t_y2 t_y3 hn hj (hO.sub (by decide))) kw_1132 kw_1133 kw_1134 kw_1 kw_1135 (by decide +kernel) ⟨Nat.le_of_ble_eq_true rfl, Nat.le_of_ble_eq_true rfl⟩ (HT.recv (ci := 11) hkb hH t_a0 (hO.no t_a0 (by decide)) rfl) rfl rfl hl.1 (Nat.le_of_ble_eq_true rfl) dL_law_1061 ⟨by show cells + 1 ≤ 600000; omega, by show slots + 16384 ≤ 7302250; omega⟩) (fun v1061 kc1061 ks1061 u H locs hz9 hH hS => ?_)
  obtain ⟨T1061, le_T1061, n2_1061, j2_1061, n1061_0_0, n1061_0_1, rfl, x_v10610, x_v10611, x_v10612, x_v10613, x_v10614, x_v10615, x_v10616, x_v10617, x_v10618, x_v10619, x_v106110⟩ := hz9
  have t_a0 := le_T1061.1 _ _ t_a0
  have t_a1 := le_T1061.1 _ _ t_a1
  have t_ch := le_T1061.1 _ _ t_ch
  have t_y0 := le_T1061.1 _ _ t_y0
  have t_y2 := le_T1061.1 _ _ t_y2
  have t_y3 := le_T1061.1 _ _ t_y3
  have t_tk := le_T1061.1 _ _ t_tk
  have t_tp := le_T1061.1 _ _ t_tp
  have t_tm := le_T1061.1 _ _ t_tm
  have t_w := isW.le le_T1061.1 t_w
  have hO := okO.le le_T1061.1 hO
  have t_n1061_0_0 := x_v10610
  have hH : HT D cs A T1061 (ch :: tk :: tp :: tm :: O) ((ch, .inr (0, [.ref n1061_0_0, .int n1061_0_1, .ref y2, .ref y3])) :: (tk, .inr (7, [o0, .int k1, .int k2, .int k3, .int k4, .int k5, .int k6, .int k7])) :: (tp, .inl (cs.1, 900, .inl ft)) :: (tm, .inl (cs.2.1, 900, .inl f3)) :: X) H := hH
  refine lv_pop hx hb dL_law_1064 rfl ?_
  refine lv_aload_n hx hb dL_law_1065 rfl (lv_at hl 2 rfl) ?_
  refine lv_aload_n hx hb dL_law_1066 rfl (lv_at hl 0 rfl) ?_
  refine lv_iload_n hx hb dL_law_1067 rfl (lv_at hl 3 rfl) ?_
  refine lv_iconst (v := 1) hx hb dL_law_1068 (by decide) ?_
  refine lv_iadd hx hb dL_law_1069 ?_
  refine lv_topi (fun v1069 ev1069 => ?_)
  have tv1069 : v1069.toInt = x3.toInt + (1) := by rw [ev1069]; exact add_i rfl (by decide : (1 : Int32).toInt = 1) (by omega) (by omega)
  refine va_sld hx hb hX hbl hbA hS (in_t (by omega) (by omega)) dL_law_1070 ?_
  refine lv_topi (fun v1070 ev1070 => ?_)
  refine lv_aload_n hx hb dL_law_1071 rfl (lv_at hl 0 rfl) ?_
  refine lv_iload_n hx hb dL_law_1072 rfl (lv_at hl 3 rfl) ?_
  refine lv_iconst (v := 2) hx hb dL_law_1073 (by decide) ?_
  refine lv_iadd hx hb dL_law_1074 ?_
  refine lv_topi (fun v1074 ev1074 => ?_)
  have tv1074 : v1074.toInt = x3.toInt + (2) := by rw [ev1074]; exact add_i rfl (by decide : (2 : Int32).toInt = 2) (by omega) (by omega)
  refine va_sld hx hb hX hbl hbA hS (in_t (by omega) (by omega)) dL_law_1075 ?_
  refine lv_topi (fun v1075 ev1075 => ?_)
  refine lv_aload_n hx hb dL_law_1076 rfl (lv_at hl 0 rfl) ?_
  refine lv_iload_n hx hb dL_law_1077 rfl (lv_at hl 3 rfl) ?_
  refine lv_iconst (v := 3) hx hb dL_law_1078 (by decide) ?_
  refine lv_iadd hx hb dL_law_1079 ?_
  refine lv_topi (fun v1079 ev1079 => ?_)
  have tv1079 : v1079.toInt = x3.toInt + (3) := by rw [ev1079]; exact add_i rfl (by decide : (3 : Int32).toInt = 3) (by omega) (by omega)
  refine va_sld hx hb hX hbl hbA hS (in_t (by omega) (by omega)) dL_law_1080 ?_
  refine lv_topi (fun v1080 ev1080 => ?_)
  refine tk_i hH hS hA (tr_V (n := 3) (As := [.int v1070, .int v1075, .int v1080]) hx hb hml hown hts hkb hH (ox_map hOX rfl) hks hE hS hA (s_M_order l D cs kf T1061 (ch :: tk :: tp :: tm :: O) ((ch, .inr (0, [.ref n1061_0_0, .int n1061_0_1, .ref y2, .ref y3])) :: (tk, .inr (7, [o0, .int k1, .int k2, .int k3, .int k4, .int k5, .int k6, .int k7])) :: (tp, .inl (cs.1, 900, .inl ft)) :: (tm, .inl (cs.2.1, 900, .inl f3)) :: X) a1 hg M v1070 v1075 v1080 t_a1 b_hg (hO.sub (by decide))) kw_1740 kw_1741 kw_1742 kw_13 kw_1743 (by decide +kernel) ⟨Nat.le_of_ble_eq_true rfl, Nat.le_of_ble_eq_true rfl⟩ (HT.recv (ci := 12) hkb hH t_a1 (hO.no t_a1 (by decide)) rfl) rfl rfl hl.1 (Nat.le_of_ble_eq_true rfl) dL_law_1081 ⟨by show (cells + kc1061) + 0 ≤ 600000; omega, by show (slots + ks1061) + 0 ≤ 7302250; omega⟩) (fun v1081 u H locs hz9 hH hS => ?_)
  obtain ⟨rfl, l_v1081, u_v1081⟩ := hz9
  have hH : HT D cs A T1061 (ch :: tk :: tp :: tm :: O) ((ch, .inr (0, [.ref n1061_0_0, .int n1061_0_1, .ref y2, .ref y3])) :: (tk, .inr (7, [o0, .int k1, .int k2, .int k3, .int k4, .int k5, .int k6, .int k7])) :: (tp, .inl (cs.1, 900, .inl ft)) :: (tm, .inl (cs.2.1, 900, .inl f3)) :: X) H := hH
  refine W.widen (k := cells + kc1061) (n := slots + ks1061) (Nat.le_refl _) (Nat.le_refl _) ?_
  refine lv_pop hx hb dL_law_1084 rfl ?_
  refine lv_goto (tgt := 1395) hx hb dL_law_1085 (by decide) ?_
  exact kk T1061 w hw gw hg G M n1061_0_0 n2_1061 j2_1061 n1061_0_1 o0 k1 k2 k3 k4 k5 k6 k7 ft f3 t _ _ _ _ _ (hv.gr le_T1061 x_v10610 x_v10611 x_v10613 x_v10614 x_v10615) (hlx.gr le_T1061) hlg hlk (hr.d x_v10617 x_v10618) hH hS (lv_sub hl [0, 1, 2, 3] rfl)
set_option maxHeartbeats 4000000 in
set_option maxRecDepth 100000 in
/-- saved -/
theorem lw_c32 {p : Program} {e : Env} {s : State} {m : MethodId} {below : List Frame} {meth : Method} {c : Code} {Q : State → Prop} (l : Launch) (D : va_G) (cs : CS) (kf : KF) {b L : Nat} {xs : Nat → Int32} (hx : p.tables.exec = Jvm.exec) (hb : c.code = code) (hml : c.maxLocals = 4) (hown : s.vm.findClass R_law = some m.cls) (hts : ∀ w ∈ gw, w.before #[Value.ref b] s = true) (hX : va_X b L xs s s.heap) (hbl : b < s.heap.size) (hkb : kb D (tyc cs) s) (hks : kS kf s) {A : Nat → Prop} (hE : kE kf A s s.heap) (hA : ∀ q, s.heap.size ≤ q → A q) (hbA : ¬ A b) (hL : L ≤ 3072) (O : List Nat) (X : va_W) (hOX0 : ∀ o ∈ O, ∃ (k : Nat) (e : va_E), X[k]? = some (o, e)) (hO9 : O = []) (a0 ch a1 y2 y3 tk tp tm : Nat) (T : TF) (w hw gw hg G M y0 nn j : Nat) (y1 : Int32) (o0 : Value) (k1 k2 k3 k4 k5 k6 k7 : Int32) (ft f3 : Nat → Int32) (t : Tp) (x3 : Int32) (n cells slots : Nat) (H : Heap) (locs : List Loc) (ls : Array Slot) (hv : LV T a0 a1 ch w hw gw hg G M y0 y2 y3 nn j y1) (hlx : LX T tk tp tm) (hlg : LG G M ft f3 t k6 k7) (hlk : LK k1 k2 k3) (hr : RM cells slots n j) (hn512 : n < 512) (l_x3 : 0 ≤ x3.toInt) (u_x3 : x3.toInt + 6 ≤ L) (hH : HT D cs A T (ch :: tk :: tp :: tm :: O) ((ch, .inr (0, [.ref y0, .int y1, .ref y2, .ref y3])) :: (tk, .inr (7, [o0, .int k1, .int k2, .int k3, .int k4, .int k5, .int k6, .int k7])) :: (tp, .inl (cs.1, 900, .inl ft)) :: (tm, .inl (cs.2.1, 900, .inl f3)) :: X) H) (hS : va_S A s.heap H locs) (hl : lv_has ls 4 [(0, .ref b), (1, .ref a0), (2, .ref a1), (3, .int x3)]) (kk : ∀ (T : TF) (w hw gw hg G M y0 nn j : Nat) (y1 : Int32) (o0 : Value) (k1 k2 k3 k4 k5 k6 k7 : Int32) (ft f3 : Nat → Int32) (t : Tp) (cells slots : Nat) (H : Heap) (locs : List Loc) (ls : Array Slot), LV T a0 a1 ch w hw gw hg G M y0 y2 y3 nn j y1 → LX T tk tp tm → LG G M ft f3 t k6 k7 → LK k1 k2 k3 → RM cells slots (n + 1) j → HT D cs A T (ch :: tk :: tp :: tm :: O) ((ch, .inr (0, [.ref y0, .int y1, .ref y2, .ref y3])) :: (tk, .inr (7, [o0, .int k1, .int k2, .int k3, .int k4, .int k5, .int k6, .int k7])) :: (tp, .inl (cs.1, 900, .inl ft)) :: (tm, .inl (cs.2.1, 900, .inl f3)) :: X) H → va_S A s.heap H locs → lv_has ls 4 [(0, .ref b), (1, .ref a0), (2, .ref a1), (3, .int x3)] → W p l e room_1 s m #[Value.ref b] below meth c H locs cells slots Q (F0 m 1395 ls [])) : W p l e room_1 s m #[Value.ref b] below meth c H locs cells slots Q (F0 m 1088 ls []) := by
  obtain ⟨t_a0, t_w, t_a1, b_hg, hU, hU1, t_ch, t_y0, l_y1, u_y1, t_y2, t_y3, hn, hj⟩ := id hv
  obtain ⟨t_tk, t_tp, t_tm, hU7, hU0, hU9⟩ := id hlx
  obtain ⟨lk1, lk2, lk3, lk4, lk5, lk6⟩ := id hlk
  have hO := okc hO9 t_ch t_tk t_tp t_tm
  obtain ⟨hr1, hr2⟩ := id hr
  have hOX : ∀ o ∈ (ch :: tk :: tp :: tm :: O), ∃ (k : Nat) (e : va_E), ((ch, .inr (0, [.ref y0, .int y1, .ref y2, .ref y3])) :: (tk, .inr (7, [o0, .int k1, .int k2, .int k3, .int k4, .int k5, .int k6, .int k7])) :: (tp, .inl (cs.1, 900, .inl ft)) :: (tm, .inl (cs.2.1, 900, .inl f3)) :: X)[k]? = some (o, e) := ox_c (ox_c (ox_c (ox_c hOX0)))
  have hOXf := hOX
  have b1_w := t_w.2.1
  have b2_w := t_w.2.2
  refine lv_aload_n hx hb dL_law_1088 rfl (lv_at hl 1 rfl) ?_
  refine lv_aload_n hx hb dL_law_1089 rfl (lv_at hl 0 rfl) ?_
  refine lv_iload_n hx hb dL_law_1090 rfl (lv_at hl 3 rfl) ?_
  refine lv_iconst (v := 1) hx hb dL_law_1091 (by decide) ?_
  refine lv_iadd hx hb dL_law_1092 ?_
  refine lv_topi (fun v1092 ev1092 => ?_)
  have tv1092 : v1092.toInt = x3.toInt + (1) := by rw [ev1092]; exact add_i rfl (by decide : (1 : Int32).toInt = 1) (by omega) (by omega)
  refine va_sld hx hb hX hbl hbA hS (in_t (by omega) (by omega)) dL_law_1093 ?_
  refine lv_topi (fun v1093 ev1093 => ?_)
  refine tk_i hH hS hA (tr_V (n := 1) (As := [.int v1093]) hx hb hml hown hts hkb hH (ox_map hOX rfl) hks hE hS hA (s_FW_saved l D cs kf T (ch :: tk :: tp :: tm :: O) ((ch, .inr (0, [.ref y0, .int y1, .ref y2, .ref y3])) :: (tk, .inr (7, [o0, .int k1, .int k2, .int k3, .int k4, .int k5, .int k6, .int k7])) :: (tp, .inl (cs.1, 900, .inl ft)) :: (tm, .inl (cs.2.1, 900, .inl f3)) :: X) a0 w hw gw ch G v1093 t_a0 t_w t_ch (hO.sub (by decide))) kw_1146 kw_1147 kw_1148 kw_1 kw_1149 (by decide +kernel) ⟨Nat.le_of_ble_eq_true rfl, Nat.le_of_ble_eq_true rfl⟩ (HT.recv (ci := 11) hkb hH t_a0 (hO.no t_a0 (by decide)) rfl) rfl rfl hl.1 (Nat.le_of_ble_eq_true rfl) dL_law_1094 ⟨by show cells + 0 ≤ 600000; omega, by show slots + 0 ≤ 7302250; omega⟩) (fun v1094 u H locs hz9 hH hS => ?_)
  obtain ⟨rfl, u_v1094⟩ := hz9
  have hH : HT D cs A T (ch :: tk :: tp :: tm :: O) ((ch, .inr (0, [.ref y0, .int y1, .ref y2, .ref y3])) :: (tk, .inr (7, [o0, .int k1, .int k2, .int k3, .int k4, .int k5, .int k6, .int k7])) :: (tp, .inl (cs.1, 900, .inl ft)) :: (tm, .inl (cs.2.1, 900, .inl f3)) :: X) H := hH
  refine W.widen (k := cells) (n := slots) (Nat.le_refl _) (Nat.le_refl _) ?_
  refine lv_pop hx hb dL_law_1097 rfl ?_
  refine lv_aload_n hx hb dL_law_1098 rfl (lv_at hl 2 rfl) ?_
  refine lv_aload_n hx hb dL_law_1099 rfl (lv_at hl 0 rfl) ?_
  refine lv_iload_n hx hb dL_law_1100 rfl (lv_at hl 3 rfl) ?_
  refine lv_iconst (v := 1) hx hb dL_law_1101 (by decide) ?_
  refine lv_iadd hx hb dL_law_1102 ?_
  refine lv_topi (fun v1102 ev1102 => ?_)
  have tv1102 : v1102.toInt = x3.toInt + (1) := by rw [ev1102]; exact add_i rfl (by decide : (1 : Int32).toInt = 1) (by omega) (by omega)
  refine va_sld hx hb hX hbl hbA hS (in_t (by omega) (by omega)) dL_law_1103 ?_
  refine lv_topi (fun v1103 ev1103 => ?_)
  refine tk_i hH hS hA (tr_V (n := 1) (As := [.int v1103]) hx hb hml hown hts hkb hH (ox_map hOX rfl) hks hE hS hA (s_M_saved l D cs kf T (ch :: tk :: tp :: tm :: O) ((ch, .inr (0, [.ref y0, .int y1, .ref y2, .ref y3])) :: (tk, .inr (7, [o0, .int k1, .int k2, .int k3, .int k4, .int k5, .int k6, .int k7])) :: (tp, .inl (cs.1, 900, .inl ft)) :: (tm, .inl (cs.2.1, 900, .inl f3)) :: X) a1 hg M v1103 t_a1 b_hg (hO.sub (by decide))) kw_1744 kw_1745 kw_1746 kw_13 kw_1747 (by decide +kernel) ⟨Nat.le_of_ble_eq_true rfl, Nat.le_of_ble_eq_true rfl⟩ (HT.recv (ci := 12) hkb hH t_a1 (hO.no t_a1 (by decide)) rfl) rfl rfl hl.1 (Nat.le_of_ble_eq_true rfl) dL_law_1104 ⟨by show cells + 0 ≤ 600000; omega, by show slots + 0 ≤ 7302250; omega⟩) (fun v1104 u H locs hz9 hH hS => ?_)
  obtain ⟨rfl, l_v1104, u_v1104⟩ := hz9
  have hH : HT D cs A T (ch :: tk :: tp :: tm :: O) ((ch, .inr (0, [.ref y0, .int y1, .ref y2, .ref y3])) :: (tk, .inr (7, [o0, .int k1, .int k2, .int k3, .int k4, .int k5, .int k6, .int k7])) :: (tp, .inl (cs.1, 900, .inl ft)) :: (tm, .inl (cs.2.1, 900, .inl f3)) :: X) H := hH
  refine W.widen (k := cells) (n := slots) (Nat.le_refl _) (Nat.le_refl _) ?_
  refine lv_pop hx hb dL_law_1107 rfl ?_
  refine lv_goto (tgt := 1395) hx hb dL_law_1108 (by decide) ?_
  exact kk T w hw gw hg G M y0 nn j y1 o0 k1 k2 k3 k4 k5 k6 k7 ft f3 t _ _ _ _ _ hv hlx hlg hlk hr.s hH hS (lv_sub hl [0, 1, 2, 3] rfl)
set_option maxHeartbeats 4000000 in
set_option maxRecDepth 100000 in
/-- leaves -/
theorem lw_c33 {p : Program} {e : Env} {s : State} {m : MethodId} {below : List Frame} {meth : Method} {c : Code} {Q : State → Prop} (l : Launch) (D : va_G) (cs : CS) (kf : KF) {b L : Nat} {xs : Nat → Int32} (hx : p.tables.exec = Jvm.exec) (hb : c.code = code) (hml : c.maxLocals = 4) (hown : s.vm.findClass R_law = some m.cls) (hts : ∀ w ∈ gw, w.before #[Value.ref b] s = true) (hX : va_X b L xs s s.heap) (hbl : b < s.heap.size) (hkb : kb D (tyc cs) s) (hks : kS kf s) {A : Nat → Prop} (hE : kE kf A s s.heap) (hA : ∀ q, s.heap.size ≤ q → A q) (hbA : ¬ A b) (hL : L ≤ 3072) (O : List Nat) (X : va_W) (hOX0 : ∀ o ∈ O, ∃ (k : Nat) (e : va_E), X[k]? = some (o, e)) (hO9 : O = []) (a0 ch a1 y2 y3 tk tp tm : Nat) (T : TF) (w hw gw hg G M y0 nn j : Nat) (y1 : Int32) (o0 : Value) (k1 k2 k3 k4 k5 k6 k7 : Int32) (ft f3 : Nat → Int32) (t : Tp) (x3 : Int32) (n cells slots : Nat) (H : Heap) (locs : List Loc) (ls : Array Slot) (hv : LV T a0 a1 ch w hw gw hg G M y0 y2 y3 nn j y1) (hlx : LX T tk tp tm) (hlg : LG G M ft f3 t k6 k7) (hlk : LK k1 k2 k3) (hr : RM cells slots n j) (hn512 : n < 512) (l_x3 : 0 ≤ x3.toInt) (u_x3 : x3.toInt + 6 ≤ L) (hH : HT D cs A T (ch :: tk :: tp :: tm :: O) ((ch, .inr (0, [.ref y0, .int y1, .ref y2, .ref y3])) :: (tk, .inr (7, [o0, .int k1, .int k2, .int k3, .int k4, .int k5, .int k6, .int k7])) :: (tp, .inl (cs.1, 900, .inl ft)) :: (tm, .inl (cs.2.1, 900, .inl f3)) :: X) H) (hS : va_S A s.heap H locs) (hl : lv_has ls 4 [(0, .ref b), (1, .ref a0), (2, .ref a1), (3, .int x3)]) (kk : ∀ (T : TF) (w hw gw hg G M y0 nn j : Nat) (y1 : Int32) (o0 : Value) (k1 k2 k3 k4 k5 k6 k7 : Int32) (ft f3 : Nat → Int32) (t : Tp) (cells slots : Nat) (H : Heap) (locs : List Loc) (ls : Array Slot), LV T a0 a1 ch w hw gw hg G M y0 y2 y3 nn j y1 → LX T tk tp tm → LG G M ft f3 t k6 k7 → LK k1 k2 k3 → RM cells slots (n + 1) j → HT D cs A T (ch :: tk :: tp :: tm :: O) ((ch, .inr (0, [.ref y0, .int y1, .ref y2, .ref y3])) :: (tk, .inr (7, [o0, .int k1, .int k2, .int k3, .int k4, .int k5, .int k6, .int k7])) :: (tp, .inl (cs.1, 900, .inl ft)) :: (tm, .inl (cs.2.1, 900, .inl f3)) :: X) H → va_S A s.heap H locs → lv_has ls 4 [(0, .ref b), (1, .ref a0), (2, .ref a1), (3, .int x3)] → W p l e room_1 s m #[Value.ref b] below meth c H locs cells slots Q (F0 m 1395 ls [])) : W p l e room_1 s m #[Value.ref b] below meth c H locs cells slots Q (F0 m 1111 ls []) := by
  obtain ⟨t_a0, t_w, t_a1, b_hg, hU, hU1, t_ch, t_y0, l_y1, u_y1, t_y2, t_y3, hn, hj⟩ := id hv
  obtain ⟨t_tk, t_tp, t_tm, hU7, hU0, hU9⟩ := id hlx
  obtain ⟨lk1, lk2, lk3, lk4, lk5, lk6⟩ := id hlk
  have hO := okc hO9 t_ch t_tk t_tp t_tm
  obtain ⟨hr1, hr2⟩ := id hr
  have hOX : ∀ o ∈ (ch :: tk :: tp :: tm :: O), ∃ (k : Nat) (e : va_E), ((ch, .inr (0, [.ref y0, .int y1, .ref y2, .ref y3])) :: (tk, .inr (7, [o0, .int k1, .int k2, .int k3, .int k4, .int k5, .int k6, .int k7])) :: (tp, .inl (cs.1, 900, .inl ft)) :: (tm, .inl (cs.2.1, 900, .inl f3)) :: X)[k]? = some (o, e) := ox_c (ox_c (ox_c (ox_c hOX0)))
  have hOXf := hOX
  have b1_w := t_w.2.1
  have b2_w := t_w.2.2
  refine lv_aload_n hx hb dL_law_1111 rfl (lv_at hl 1 rfl) ?_
  refine lv_aload_n hx hb dL_law_1112 rfl (lv_at hl 0 rfl) ?_
  refine lv_iload_n hx hb dL_law_1113 rfl (lv_at hl 3 rfl) ?_
  refine lv_iconst (v := 1) hx hb dL_law_1114 (by decide) ?_
  refine lv_iadd hx hb dL_law_1115 ?_
  refine lv_topi (fun v1115 ev1115 => ?_)
  have tv1115 : v1115.toInt = x3.toInt + (1) := by rw [ev1115]; exact add_i rfl (by decide : (1 : Int32).toInt = 1) (by omega) (by omega)
  refine va_sld hx hb hX hbl hbA hS (in_t (by omega) (by omega)) dL_law_1116 ?_
  refine lv_topi (fun v1116 ev1116 => ?_)
  refine lv_aload_n hx hb dL_law_1117 rfl (lv_at hl 0 rfl) ?_
  refine lv_iload_n hx hb dL_law_1118 rfl (lv_at hl 3 rfl) ?_
  refine lv_iconst (v := 2) hx hb dL_law_1119 (by decide) ?_
  refine lv_iadd hx hb dL_law_1120 ?_
  refine lv_topi (fun v1120 ev1120 => ?_)
  have tv1120 : v1120.toInt = x3.toInt + (2) := by rw [ev1120]; exact add_i rfl (by decide : (2 : Int32).toInt = 2) (by omega) (by omega)
  refine va_sld hx hb hX hbl hbA hS (in_t (by omega) (by omega)) dL_law_1121 ?_
  refine lv_topi (fun v1121 ev1121 => ?_)
  refine tk_i hH hS hA (tr_V (n := 2) (As := [.int v1116, .int v1121]) hx hb hml hown hts hkb hH (ox_map hOX rfl) hks hE hS hA (s_FW_leaves l D cs kf T (ch :: tk :: tp :: tm :: O) ((ch, .inr (0, [.ref y0, .int y1, .ref y2, .ref y3])) :: (tk, .inr (7, [o0, .int k1, .int k2, .int k3, .int k4, .int k5, .int k6, .int k7])) :: (tp, .inl (cs.1, 900, .inl ft)) :: (tm, .inl (cs.2.1, 900, .inl f3)) :: X) a0 w hw gw ch G v1116 v1121 t_a0 t_w t_ch (hO.sub (by decide))) kw_1160 kw_1161 kw_1162 kw_1 kw_1163 (by decide +kernel) ⟨Nat.le_of_ble_eq_true rfl, Nat.le_of_ble_eq_true rfl⟩ (HT.recv (ci := 11) hkb hH t_a0 (hO.no t_a0 (by decide)) rfl) rfl rfl hl.1 (Nat.le_of_ble_eq_true rfl) dL_law_1122 ⟨by show cells + 0 ≤ 600000; omega, by show slots + 0 ≤ 7302250; omega⟩) (fun v1122 u H locs hz9 hH hS => ?_)
  obtain ⟨rfl, l_v1122, u_v1122⟩ := hz9
  have hH : HT D cs A T (ch :: tk :: tp :: tm :: O) ((ch, .inr (0, [.ref y0, .int y1, .ref y2, .ref y3])) :: (tk, .inr (7, [o0, .int k1, .int k2, .int k3, .int k4, .int k5, .int k6, .int k7])) :: (tp, .inl (cs.1, 900, .inl ft)) :: (tm, .inl (cs.2.1, 900, .inl f3)) :: X) H := hH
  refine W.widen (k := cells) (n := slots) (Nat.le_refl _) (Nat.le_refl _) ?_
  refine lv_pop hx hb dL_law_1125 rfl ?_
  refine lv_aload_n hx hb dL_law_1126 rfl (lv_at hl 2 rfl) ?_
  refine lv_aload_n hx hb dL_law_1127 rfl (lv_at hl 0 rfl) ?_
  refine lv_iload_n hx hb dL_law_1128 rfl (lv_at hl 3 rfl) ?_
  refine lv_iconst (v := 1) hx hb dL_law_1129 (by decide) ?_
  refine lv_iadd hx hb dL_law_1130 ?_
  refine lv_topi (fun v1130 ev1130 => ?_)
  have tv1130 : v1130.toInt = x3.toInt + (1) := by rw [ev1130]; exact add_i rfl (by decide : (1 : Int32).toInt = 1) (by omega) (by omega)
  refine va_sld hx hb hX hbl hbA hS (in_t (by omega) (by omega)) dL_law_1131 ?_
  refine lv_topi (fun v1131 ev1131 => ?_)
  refine lv_aload_n hx hb dL_law_1132 rfl (lv_at hl 0 rfl) ?_
  refine lv_iload_n hx hb dL_law_1133 rfl (lv_at hl 3 rfl) ?_
  refine lv_iconst (v := 2) hx hb dL_law_1134 (by decide) ?_
  refine lv_iadd hx hb dL_law_1135 ?_
  refine lv_topi (fun v1135 ev1135 => ?_)
  have tv1135 : v1135.toInt = x3.toInt + (2) := by rw [ev1135]; exact add_i rfl (by decide : (2 : Int32).toInt = 2) (by omega) (by omega)
  refine va_sld hx hb hX hbl hbA hS (in_t (by omega) (by omega)) dL_law_1136 ?_
  refine lv_topi (fun v1136 ev1136 => ?_)
  refine tk_i hH hS hA (tr_V (n := 2) (As := [.int v1131, .int v1136]) hx hb hml hown hts hkb hH (ox_map hOX rfl) hks hE hS hA (s_M_leaves l D cs kf T (ch :: tk :: tp :: tm :: O) ((ch, .inr (0, [.ref y0, .int y1, .ref y2, .ref y3])) :: (tk, .inr (7, [o0, .int k1, .int k2, .int k3, .int k4, .int k5, .int k6, .int k7])) :: (tp, .inl (cs.1, 900, .inl ft)) :: (tm, .inl (cs.2.1, 900, .inl f3)) :: X) a1 hg M v1131 v1136 t_a1 b_hg (hO.sub (by decide))) kw_1748 kw_1749 kw_1750 kw_13 kw_1751 (by decide +kernel) ⟨Nat.le_of_ble_eq_true rfl, Nat.le_of_ble_eq_true rfl⟩ (HT.recv (ci := 12) hkb hH t_a1 (hO.no t_a1 (by decide)) rfl) rfl rfl hl.1 (Nat.le_of_ble_eq_true rfl) dL_law_1137 ⟨by show cells + 0 ≤ 600000; omega, by show slots + 0 ≤ 7302250; omega⟩) (fun v1137 u H locs hz9 hH hS => ?_)
  obtain ⟨rfl, l_v1137, u_v1137⟩ := hz9
  have hH : HT D cs A T (ch :: tk :: tp :: tm :: O) ((ch, .inr (0, [.ref y0, .int y1, .ref y2, .ref y3])) :: (tk, .inr (7, [o0, .int k1, .int k2, .int k3, .int k4, .int k5, .int k6, .int k7])) :: (tp, .inl (cs.1, 900, .inl ft)) :: (tm, .inl (cs.2.1, 900, .inl f3)) :: X) H := hH
  refine W.widen (k := cells) (n := slots) (Nat.le_refl _) (Nat.le_refl _) ?_
  refine lv_pop hx hb dL_law_1140 rfl ?_
  refine lv_goto (tgt := 1395) hx hb dL_law_1141 (by decide) ?_
  exact kk T w hw gw hg G M y0 nn j y1 o0 k1 k2 k3 k4 k5 k6 k7 ft f3 t _ _ _ _ _ hv hlx hlg hlk hr.s hH hS (lv_sub hl [0, 1, 2, 3] rfl)
set_option maxHeartbeats 4000000 in
set_option maxRecDepth 100000 in
/-- inTurn -/
theorem lw_c34 {p : Program} {e : Env} {s : State} {m : MethodId} {below : List Frame} {meth : Method} {c : Code} {Q : State → Prop} (l : Launch) (D : va_G) (cs : CS) (kf : KF) {b L : Nat} {xs : Nat → Int32} (hx : p.tables.exec = Jvm.exec) (hb : c.code = code) (hml : c.maxLocals = 4) (hown : s.vm.findClass R_law = some m.cls) (hts : ∀ w ∈ gw, w.before #[Value.ref b] s = true) (hX : va_X b L xs s s.heap) (hbl : b < s.heap.size) (hkb : kb D (tyc cs) s) (hks : kS kf s) {A : Nat → Prop} (hE : kE kf A s s.heap) (hA : ∀ q, s.heap.size ≤ q → A q) (hbA : ¬ A b) (hL : L ≤ 3072) (O : List Nat) (X : va_W) (hOX0 : ∀ o ∈ O, ∃ (k : Nat) (e : va_E), X[k]? = some (o, e)) (hO9 : O = []) (a0 ch a1 y2 y3 tk tp tm : Nat) (T : TF) (w hw gw hg G M y0 nn j : Nat) (y1 : Int32) (o0 : Value) (k1 k2 k3 k4 k5 k6 k7 : Int32) (ft f3 : Nat → Int32) (t : Tp) (x3 : Int32) (n cells slots : Nat) (H : Heap) (locs : List Loc) (ls : Array Slot) (hv : LV T a0 a1 ch w hw gw hg G M y0 y2 y3 nn j y1) (hlx : LX T tk tp tm) (hlg : LG G M ft f3 t k6 k7) (hlk : LK k1 k2 k3) (hr : RM cells slots n j) (hn512 : n < 512) (l_x3 : 0 ≤ x3.toInt) (u_x3 : x3.toInt + 6 ≤ L) (hH : HT D cs A T (ch :: tk :: tp :: tm :: O) ((ch, .inr (0, [.ref y0, .int y1, .ref y2, .ref y3])) :: (tk, .inr (7, [o0, .int k1, .int k2, .int k3, .int k4, .int k5, .int k6, .int k7])) :: (tp, .inl (cs.1, 900, .inl ft)) :: (tm, .inl (cs.2.1, 900, .inl f3)) :: X) H) (hS : va_S A s.heap H locs) (hl : lv_has ls 4 [(0, .ref b), (1, .ref a0), (2, .ref a1), (3, .int x3)]) (kk : ∀ (T : TF) (w hw gw hg G M y0 nn j : Nat) (y1 : Int32) (o0 : Value) (k1 k2 k3 k4 k5 k6 k7 : Int32) (ft f3 : Nat → Int32) (t : Tp) (cells slots : Nat) (H : Heap) (locs : List Loc) (ls : Array Slot), LV T a0 a1 ch w hw gw hg G M y0 y2 y3 nn j y1 → LX T tk tp tm → LG G M ft f3 t k6 k7 → LK k1 k2 k3 → RM cells slots (n + 1) j → HT D cs A T (ch :: tk :: tp :: tm :: O) ((ch, .inr (0, [.ref y0, .int y1, .ref y2, .ref y3])) :: (tk, .inr (7, [o0, .int k1, .int k2, .int k3, .int k4, .int k5, .int k6, .int k7])) :: (tp, .inl (cs.1, 900, .inl ft)) :: (tm, .inl (cs.2.1, 900, .inl f3)) :: X) H → va_S A s.heap H locs → lv_has ls 4 [(0, .ref b), (1, .ref a0), (2, .ref a1), (3, .int x3)] → W p l e room_1 s m #[Value.ref b] below meth c H locs cells slots Q (F0 m 1395 ls [])) : W p l e room_1 s m #[Value.ref b] below meth c H locs cells slots Q (F0 m 1144 ls []) := by
  obtain ⟨t_a0, t_w, t_a1, b_hg, hU, hU1, t_ch, t_y0, l_y1, u_y1, t_y2, t_y3, hn, hj⟩ := id hv
  obtain ⟨t_tk, t_tp, t_tm, hU7, hU0, hU9⟩ := id hlx
  obtain ⟨lk1, lk2, lk3, lk4, lk5, lk6⟩ := id hlk
  have hO := okc hO9 t_ch t_tk t_tp t_tm
  obtain ⟨hr1, hr2⟩ := id hr
  have hOX : ∀ o ∈ (ch :: tk :: tp :: tm :: O), ∃ (k : Nat) (e : va_E), ((ch, .inr (0, [.ref y0, .int y1, .ref y2, .ref y3])) :: (tk, .inr (7, [o0, .int k1, .int k2, .int k3, .int k4, .int k5, .int k6, .int k7])) :: (tp, .inl (cs.1, 900, .inl ft)) :: (tm, .inl (cs.2.1, 900, .inl f3)) :: X)[k]? = some (o, e) := ox_c (ox_c (ox_c (ox_c hOX0)))
  have hOXf := hOX
  have b1_w := t_w.2.1
  have b2_w := t_w.2.2
  refine lv_aload_n hx hb dL_law_1144 rfl (lv_at hl 1 rfl) ?_
  refine lv_aload_n hx hb dL_law_1145 rfl (lv_at hl 0 rfl) ?_
  refine lv_iload_n hx hb dL_law_1146 rfl (lv_at hl 3 rfl) ?_
  refine lv_iconst (v := 1) hx hb dL_law_1147 (by decide) ?_
  refine lv_iadd hx hb dL_law_1148 ?_
  refine lv_topi (fun v1148 ev1148 => ?_)
  have tv1148 : v1148.toInt = x3.toInt + (1) := by rw [ev1148]; exact add_i rfl (by decide : (1 : Int32).toInt = 1) (by omega) (by omega)
  refine va_sld hx hb hX hbl hbA hS (in_t (by omega) (by omega)) dL_law_1149 ?_
  refine lv_topi (fun v1149 ev1149 => ?_)
  refine lv_aload_n hx hb dL_law_1150 rfl (lv_at hl 0 rfl) ?_
  refine lv_iload_n hx hb dL_law_1151 rfl (lv_at hl 3 rfl) ?_
  refine lv_iconst (v := 2) hx hb dL_law_1152 (by decide) ?_
  refine lv_iadd hx hb dL_law_1153 ?_
  refine lv_topi (fun v1153 ev1153 => ?_)
  have tv1153 : v1153.toInt = x3.toInt + (2) := by rw [ev1153]; exact add_i rfl (by decide : (2 : Int32).toInt = 2) (by omega) (by omega)
  refine va_sld hx hb hX hbl hbA hS (in_t (by omega) (by omega)) dL_law_1154 ?_
  refine lv_topi (fun v1154 ev1154 => ?_)
  refine tk_i hH hS hA (tr_V (n := 2) (As := [.int v1149, .int v1154]) hx hb hml hown hts hkb hH (ox_map hOX rfl) hks hE hS hA (s_FW_inTurn l D cs kf T (ch :: tk :: tp :: tm :: O) ((ch, .inr (0, [.ref y0, .int y1, .ref y2, .ref y3])) :: (tk, .inr (7, [o0, .int k1, .int k2, .int k3, .int k4, .int k5, .int k6, .int k7])) :: (tp, .inl (cs.1, 900, .inl ft)) :: (tm, .inl (cs.2.1, 900, .inl f3)) :: X) a0 w hw gw ch G v1149 v1154 t_a0 t_w t_ch (hO.sub (by decide))) kw_1164 kw_1165 kw_1166 kw_1 kw_1167 (by decide +kernel) ⟨Nat.le_of_ble_eq_true rfl, Nat.le_of_ble_eq_true rfl⟩ (HT.recv (ci := 11) hkb hH t_a0 (hO.no t_a0 (by decide)) rfl) rfl rfl hl.1 (Nat.le_of_ble_eq_true rfl) dL_law_1155 ⟨by show cells + 0 ≤ 600000; omega, by show slots + 0 ≤ 7302250; omega⟩) (fun v1155 u H locs hz9 hH hS => ?_)
  have hz9 : u = (T, ch :: tk :: tp :: tm :: O, (ch, .inr (0, [.ref y0, .int y1, .ref y2, .ref y3])) :: (tk, .inr (7, [o0, .int k1, .int k2, .int k3, .int k4, .int k5, .int k6, .int k7])) :: (tp, .inl (cs.1, 900, .inl ft)) :: (tm, .inl (cs.2.1, 900, .inl f3)) :: X) := hz9
  subst hz9
  have hH : HT D cs A T (ch :: tk :: tp :: tm :: O) ((ch, .inr (0, [.ref y0, .int y1, .ref y2, .ref y3])) :: (tk, .inr (7, [o0, .int k1, .int k2, .int k3, .int k4, .int k5, .int k6, .int k7])) :: (tp, .inl (cs.1, 900, .inl ft)) :: (tm, .inl (cs.2.1, 900, .inl f3)) :: X) H := hH
  refine W.widen (k := cells) (n := slots) (Nat.le_refl _) (Nat.le_refl _) ?_
  refine lv_pop hx hb dL_law_1158 rfl ?_
  refine lv_aload_n hx hb dL_law_1159 rfl (lv_at hl 2 rfl) ?_
  refine lv_aload_n hx hb dL_law_1160 rfl (lv_at hl 0 rfl) ?_
  refine lv_iload_n hx hb dL_law_1161 rfl (lv_at hl 3 rfl) ?_
  refine lv_iconst (v := 1) hx hb dL_law_1162 (by decide) ?_
  refine lv_iadd hx hb dL_law_1163 ?_
  refine lv_topi (fun v1163 ev1163 => ?_)
  have tv1163 : v1163.toInt = x3.toInt + (1) := by rw [ev1163]; exact add_i rfl (by decide : (1 : Int32).toInt = 1) (by omega) (by omega)
  refine va_sld hx hb hX hbl hbA hS (in_t (by omega) (by omega)) dL_law_1164 ?_
  refine lv_topi (fun v1164 ev1164 => ?_)
  refine lv_aload_n hx hb dL_law_1165 rfl (lv_at hl 0 rfl) ?_
  refine lv_iload_n hx hb dL_law_1166 rfl (lv_at hl 3 rfl) ?_
  refine lv_iconst (v := 2) hx hb dL_law_1167 (by decide) ?_
  refine lv_iadd hx hb dL_law_1168 ?_
  refine lv_topi (fun v1168 ev1168 => ?_)
  have tv1168 : v1168.toInt = x3.toInt + (2) := by rw [ev1168]; exact add_i rfl (by decide : (2 : Int32).toInt = 2) (by omega) (by omega)
  refine va_sld hx hb hX hbl hbA hS (in_t (by omega) (by omega)) dL_law_1169 ?_
  refine lv_topi (fun v1169 ev1169 => ?_)
  refine tk_i hH hS hA (tr_V (n := 2) (As := [.int v1164, .int v1169]) hx hb hml hown hts hkb hH (ox_map hOX rfl) hks hE hS hA (s_M_inTurn l D cs kf T (ch :: tk :: tp :: tm :: O) ((ch, .inr (0, [.ref y0, .int y1, .ref y2, .ref y3])) :: (tk, .inr (7, [o0, .int k1, .int k2, .int k3, .int k4, .int k5, .int k6, .int k7])) :: (tp, .inl (cs.1, 900, .inl ft)) :: (tm, .inl (cs.2.1, 900, .inl f3)) :: X) a1 hg M v1164 v1169 t_a1 b_hg (hO.sub (by decide))) kw_1752 kw_1753 kw_1754 kw_13 kw_1755 (by decide +kernel) ⟨Nat.le_of_ble_eq_true rfl, Nat.le_of_ble_eq_true rfl⟩ (HT.recv (ci := 12) hkb hH t_a1 (hO.no t_a1 (by decide)) rfl) rfl rfl hl.1 (Nat.le_of_ble_eq_true rfl) dL_law_1170 ⟨by show cells + 0 ≤ 600000; omega, by show slots + 0 ≤ 7302250; omega⟩) (fun v1170 u H locs hz9 hH hS => ?_)
  have hz9 : u = (T, ch :: tk :: tp :: tm :: O, (ch, .inr (0, [.ref y0, .int y1, .ref y2, .ref y3])) :: (tk, .inr (7, [o0, .int k1, .int k2, .int k3, .int k4, .int k5, .int k6, .int k7])) :: (tp, .inl (cs.1, 900, .inl ft)) :: (tm, .inl (cs.2.1, 900, .inl f3)) :: X) := hz9
  subst hz9
  have hH : HT D cs A T (ch :: tk :: tp :: tm :: O) ((ch, .inr (0, [.ref y0, .int y1, .ref y2, .ref y3])) :: (tk, .inr (7, [o0, .int k1, .int k2, .int k3, .int k4, .int k5, .int k6, .int k7])) :: (tp, .inl (cs.1, 900, .inl ft)) :: (tm, .inl (cs.2.1, 900, .inl f3)) :: X) H := hH
  refine W.widen (k := cells) (n := slots) (Nat.le_refl _) (Nat.le_refl _) ?_
  refine lv_pop hx hb dL_law_1173 rfl ?_
  refine lv_goto (tgt := 1395) hx hb dL_law_1174 (by decide) ?_
  exact kk T w hw gw hg G M y0 nn j y1 o0 k1 k2 k3 k4 k5 k6 k7 ft f3 t _ _ _ _ _ hv hlx hlg hlk hr.s hH hS (lv_sub hl [0, 1, 2, 3] rfl)
set_option maxHeartbeats 4000000 in
set_option maxRecDepth 100000 in
/-- numbers -/
theorem lw_c35 {p : Program} {e : Env} {s : State} {m : MethodId} {below : List Frame} {meth : Method} {c : Code} {Q : State → Prop} (l : Launch) (D : va_G) (cs : CS) (kf : KF) {b L : Nat} {xs : Nat → Int32} (hx : p.tables.exec = Jvm.exec) (hb : c.code = code) (hml : c.maxLocals = 4) (hown : s.vm.findClass R_law = some m.cls) (hts : ∀ w ∈ gw, w.before #[Value.ref b] s = true) (hX : va_X b L xs s s.heap) (hbl : b < s.heap.size) (hkb : kb D (tyc cs) s) (hks : kS kf s) {A : Nat → Prop} (hE : kE kf A s s.heap) (hA : ∀ q, s.heap.size ≤ q → A q) (hbA : ¬ A b) (hL : L ≤ 3072) (O : List Nat) (X : va_W) (hOX0 : ∀ o ∈ O, ∃ (k : Nat) (e : va_E), X[k]? = some (o, e)) (hO9 : O = []) (a0 ch a1 y2 y3 tk tp tm : Nat) (T : TF) (w hw gw hg G M y0 nn j : Nat) (y1 : Int32) (o0 : Value) (k1 k2 k3 k4 k5 k6 k7 : Int32) (ft f3 : Nat → Int32) (t : Tp) (x3 : Int32) (n cells slots : Nat) (H : Heap) (locs : List Loc) (ls : Array Slot) (hv : LV T a0 a1 ch w hw gw hg G M y0 y2 y3 nn j y1) (hlx : LX T tk tp tm) (hlg : LG G M ft f3 t k6 k7) (hlk : LK k1 k2 k3) (hr : RM cells slots n j) (hn512 : n < 512) (l_x3 : 0 ≤ x3.toInt) (u_x3 : x3.toInt + 6 ≤ L) (hH : HT D cs A T (ch :: tk :: tp :: tm :: O) ((ch, .inr (0, [.ref y0, .int y1, .ref y2, .ref y3])) :: (tk, .inr (7, [o0, .int k1, .int k2, .int k3, .int k4, .int k5, .int k6, .int k7])) :: (tp, .inl (cs.1, 900, .inl ft)) :: (tm, .inl (cs.2.1, 900, .inl f3)) :: X) H) (hS : va_S A s.heap H locs) (hl : lv_has ls 4 [(0, .ref b), (1, .ref a0), (2, .ref a1), (3, .int x3)]) (kk : ∀ (T : TF) (w hw gw hg G M y0 nn j : Nat) (y1 : Int32) (o0 : Value) (k1 k2 k3 k4 k5 k6 k7 : Int32) (ft f3 : Nat → Int32) (t : Tp) (cells slots : Nat) (H : Heap) (locs : List Loc) (ls : Array Slot), LV T a0 a1 ch w hw gw hg G M y0 y2 y3 nn j y1 → LX T tk tp tm → LG G M ft f3 t k6 k7 → LK k1 k2 k3 → RM cells slots (n + 1) j → HT D cs A T (ch :: tk :: tp :: tm :: O) ((ch, .inr (0, [.ref y0, .int y1, .ref y2, .ref y3])) :: (tk, .inr (7, [o0, .int k1, .int k2, .int k3, .int k4, .int k5, .int k6, .int k7])) :: (tp, .inl (cs.1, 900, .inl ft)) :: (tm, .inl (cs.2.1, 900, .inl f3)) :: X) H → va_S A s.heap H locs → lv_has ls 4 [(0, .ref b), (1, .ref a0), (2, .ref a1), (3, .int x3)] → W p l e room_1 s m #[Value.ref b] below meth c H locs cells slots Q (F0 m 1395 ls [])) : W p l e room_1 s m #[Value.ref b] below meth c H locs cells slots Q (F0 m 1177 ls []) := by
  obtain ⟨t_a0, t_w, t_a1, b_hg, hU, hU1, t_ch, t_y0, l_y1, u_y1, t_y2, t_y3, hn, hj⟩ := id hv
  obtain ⟨t_tk, t_tp, t_tm, hU7, hU0, hU9⟩ := id hlx
  obtain ⟨lk1, lk2, lk3, lk4, lk5, lk6⟩ := id hlk
  have hO := okc hO9 t_ch t_tk t_tp t_tm
  obtain ⟨hr1, hr2⟩ := id hr
  have hOX : ∀ o ∈ (ch :: tk :: tp :: tm :: O), ∃ (k : Nat) (e : va_E), ((ch, .inr (0, [.ref y0, .int y1, .ref y2, .ref y3])) :: (tk, .inr (7, [o0, .int k1, .int k2, .int k3, .int k4, .int k5, .int k6, .int k7])) :: (tp, .inl (cs.1, 900, .inl ft)) :: (tm, .inl (cs.2.1, 900, .inl f3)) :: X)[k]? = some (o, e) := ox_c (ox_c (ox_c (ox_c hOX0)))
  have hOXf := hOX
  have b1_w := t_w.2.1
  have b2_w := t_w.2.2
  refine lv_aload_n hx hb dL_law_1177 rfl (lv_at hl 1 rfl) ?_
  refine lv_aload_n hx hb dL_law_1178 rfl (lv_at hl 0 rfl) ?_
  refine lv_iload_n hx hb dL_law_1179 rfl (lv_at hl 3 rfl) ?_
  refine lv_iconst (v := 1) hx hb dL_law_1180 (by decide) ?_
  refine lv_iadd hx hb dL_law_1181 ?_
  refine lv_topi (fun v1181 ev1181 => ?_)
  have tv1181 : v1181.toInt = x3.toInt + (1) := by rw [ev1181]; exact add_i rfl (by decide : (1 : Int32).toInt = 1) (by omega) (by omega)
  refine va_sld hx hb hX hbl hbA hS (in_t (by omega) (by omega)) dL_law_1182 ?_
  refine lv_topi (fun v1182 ev1182 => ?_)
  refine lv_aload_n hx hb dL_law_1183 rfl (lv_at hl 0 rfl) ?_
  refine lv_iload_n hx hb dL_law_1184 rfl (lv_at hl 3 rfl) ?_
  refine lv_iconst (v := 2) hx hb dL_law_1185 (by decide) ?_
  refine lv_iadd hx hb dL_law_1186 ?_
  refine lv_topi (fun v1186 ev1186 => ?_)
  have tv1186 : v1186.toInt = x3.toInt + (2) := by rw [ev1186]; exact add_i rfl (by decide : (2 : Int32).toInt = 2) (by omega) (by omega)
  refine va_sld hx hb hX hbl hbA hS (in_t (by omega) (by omega)) dL_law_1187 ?_
  refine lv_topi (fun v1187 ev1187 => ?_)
  refine lv_aload_n hx hb dL_law_1188 rfl (lv_at hl 0 rfl) ?_
  refine lv_iload_n hx hb dL_law_1189 rfl (lv_at hl 3 rfl) ?_
  refine lv_iconst (v := 3) hx hb dL_law_1190 (by decide) ?_
  refine lv_iadd hx hb dL_law_1191 ?_
  refine lv_topi (fun v1191 ev1191 => ?_)
  have tv1191 : v1191.toInt = x3.toInt + (3) := by rw [ev1191]; exact add_i rfl (by decide : (3 : Int32).toInt = 3) (by omega) (by omega)
  refine va_sld hx hb hX hbl hbA hS (in_t (by omega) (by omega)) dL_law_1192 ?_
  refine lv_topi (fun v1192 ev1192 => ?_)
  refine tk_i hH hS hA (tr_V (n := 3) (As := [.int v1182, .int v1187, .int v1192]) hx hb hml hown hts hkb hH (ox_map hOX rfl) hks hE hS hA (s_FW_numbers l D cs kf T (ch :: tk :: tp :: tm :: O) ((ch, .inr (0, [.ref y0, .int y1, .ref y2, .ref y3])) :: (tk, .inr (7, [o0, .int k1, .int k2, .int k3, .int k4, .int k5, .int k6, .int k7])) :: (tp, .inl (cs.1, 900, .inl ft)) :: (tm, .inl (cs.2.1, 900, .inl f3)) :: X) a0 w hw gw ch G v1182 v1187 v1192 t_a0 t_w t_ch (hO.sub (by decide))) kw_1173 kw_1174 kw_1175 kw_1 kw_1176 (by decide +kernel) ⟨Nat.le_of_ble_eq_true rfl, Nat.le_of_ble_eq_true rfl⟩ (HT.recv (ci := 11) hkb hH t_a0 (hO.no t_a0 (by decide)) rfl) rfl rfl hl.1 (Nat.le_of_ble_eq_true rfl) dL_law_1193 ⟨by show cells + 0 ≤ 600000; omega, by show slots + 0 ≤ 7302250; omega⟩) (fun v1193 u H locs hz9 hH hS => ?_)
  obtain ⟨rfl, l_v1193, u_v1193⟩ := hz9
  have hH : HT D cs A T (ch :: tk :: tp :: tm :: O) ((ch, .inr (0, [.ref y0, .int y1, .ref y2, .ref y3])) :: (tk, .inr (7, [o0, .int k1, .int k2, .int k3, .int k4, .int k5, .int k6, .int k7])) :: (tp, .inl (cs.1, 900, .inl ft)) :: (tm, .inl (cs.2.1, 900, .inl f3)) :: X) H := hH
  refine W.widen (k := cells) (n := slots) (Nat.le_refl _) (Nat.le_refl _) ?_
  refine lv_pop hx hb dL_law_1196 rfl ?_
  refine lv_aload_n hx hb dL_law_1197 rfl (lv_at hl 2 rfl) ?_
  refine lv_aload_n hx hb dL_law_1198 rfl (lv_at hl 0 rfl) ?_
  refine lv_iload_n hx hb dL_law_1199 rfl (lv_at hl 3 rfl) ?_
  refine lv_iconst (v := 1) hx hb dL_law_1200 (by decide) ?_
  refine lv_iadd hx hb dL_law_1201 ?_
  refine lv_topi (fun v1201 ev1201 => ?_)
  have tv1201 : v1201.toInt = x3.toInt + (1) := by rw [ev1201]; exact add_i rfl (by decide : (1 : Int32).toInt = 1) (by omega) (by omega)
  refine va_sld hx hb hX hbl hbA hS (in_t (by omega) (by omega)) dL_law_1202 ?_
  refine lv_topi (fun v1202 ev1202 => ?_)
  refine lv_aload_n hx hb dL_law_1203 rfl (lv_at hl 0 rfl) ?_
  refine lv_iload_n hx hb dL_law_1204 rfl (lv_at hl 3 rfl) ?_
  refine lv_iconst (v := 2) hx hb dL_law_1205 (by decide) ?_
  refine lv_iadd hx hb dL_law_1206 ?_
  refine lv_topi (fun v1206 ev1206 => ?_)
  have tv1206 : v1206.toInt = x3.toInt + (2) := by rw [ev1206]; exact add_i rfl (by decide : (2 : Int32).toInt = 2) (by omega) (by omega)
  refine va_sld hx hb hX hbl hbA hS (in_t (by omega) (by omega)) dL_law_1207 ?_
  refine lv_topi (fun v1207 ev1207 => ?_)
  refine lv_aload_n hx hb dL_law_1208 rfl (lv_at hl 0 rfl) ?_
  refine lv_iload_n hx hb dL_law_1209 rfl (lv_at hl 3 rfl) ?_
  refine lv_iconst (v := 3) hx hb dL_law_1210 (by decide) ?_
  refine lv_iadd hx hb dL_law_1211 ?_
  refine lv_topi (fun v1211 ev1211 => ?_)
  have tv1211 : v1211.toInt = x3.toInt + (3) := by rw [ev1211]; exact add_i rfl (by decide : (3 : Int32).toInt = 3) (by omega) (by omega)
  refine va_sld hx hb hX hbl hbA hS (in_t (by omega) (by omega)) dL_law_1212 ?_
  refine lv_topi (fun v1212 ev1212 => ?_)
  refine tk_i hH hS hA (tr_V (n := 3) (As := [.int v1202, .int v1207, .int v1212]) hx hb hml hown hts hkb hH (ox_map hOX rfl) hks hE hS hA (s_M_numbers l D cs kf T (ch :: tk :: tp :: tm :: O) ((ch, .inr (0, [.ref y0, .int y1, .ref y2, .ref y3])) :: (tk, .inr (7, [o0, .int k1, .int k2, .int k3, .int k4, .int k5, .int k6, .int k7])) :: (tp, .inl (cs.1, 900, .inl ft)) :: (tm, .inl (cs.2.1, 900, .inl f3)) :: X) a1 hg M v1202 v1207 v1212 t_a1 b_hg (hO.sub (by decide))) kw_1760 kw_1761 kw_1762 kw_13 kw_1763 (by decide +kernel) ⟨Nat.le_of_ble_eq_true rfl, Nat.le_of_ble_eq_true rfl⟩ (HT.recv (ci := 12) hkb hH t_a1 (hO.no t_a1 (by decide)) rfl) rfl rfl hl.1 (Nat.le_of_ble_eq_true rfl) dL_law_1213 ⟨by show cells + 0 ≤ 600000; omega, by show slots + 0 ≤ 7302250; omega⟩) (fun v1213 u H locs hz9 hH hS => ?_)
  obtain ⟨rfl, l_v1213, u_v1213⟩ := hz9
  have hH : HT D cs A T (ch :: tk :: tp :: tm :: O) ((ch, .inr (0, [.ref y0, .int y1, .ref y2, .ref y3])) :: (tk, .inr (7, [o0, .int k1, .int k2, .int k3, .int k4, .int k5, .int k6, .int k7])) :: (tp, .inl (cs.1, 900, .inl ft)) :: (tm, .inl (cs.2.1, 900, .inl f3)) :: X) H := hH
  refine W.widen (k := cells) (n := slots) (Nat.le_refl _) (Nat.le_refl _) ?_
  refine lv_pop hx hb dL_law_1216 rfl ?_
  refine lv_goto (tgt := 1395) hx hb dL_law_1217 (by decide) ?_
  exact kk T w hw gw hg G M y0 nn j y1 o0 k1 k2 k3 k4 k5 k6 k7 ft f3 t _ _ _ _ _ hv hlx hlg hlk hr.s hH hS (lv_sub hl [0, 1, 2, 3] rfl)
set_option maxHeartbeats 4000000 in
set_option maxRecDepth 100000 in
/-- write -/
theorem lw_c36 {p : Program} {e : Env} {s : State} {m : MethodId} {below : List Frame} {meth : Method} {c : Code} {Q : State → Prop} (l : Launch) (D : va_G) (cs : CS) (kf : KF) {b L : Nat} {xs : Nat → Int32} (hx : p.tables.exec = Jvm.exec) (hb : c.code = code) (hml : c.maxLocals = 4) (hown : s.vm.findClass R_law = some m.cls) (hts : ∀ w ∈ gw, w.before #[Value.ref b] s = true) (hX : va_X b L xs s s.heap) (hbl : b < s.heap.size) (hkb : kb D (tyc cs) s) (hks : kS kf s) {A : Nat → Prop} (hE : kE kf A s s.heap) (hA : ∀ q, s.heap.size ≤ q → A q) (hbA : ¬ A b) (hL : L ≤ 3072) (O : List Nat) (X : va_W) (hOX0 : ∀ o ∈ O, ∃ (k : Nat) (e : va_E), X[k]? = some (o, e)) (hO9 : O = []) (a0 ch a1 y2 y3 tk tp tm : Nat) (T : TF) (w hw gw hg G M y0 nn j : Nat) (y1 : Int32) (o0 : Value) (k1 k2 k3 k4 k5 k6 k7 : Int32) (ft f3 : Nat → Int32) (t : Tp) (x3 : Int32) (n cells slots : Nat) (H : Heap) (locs : List Loc) (ls : Array Slot) (hv : LV T a0 a1 ch w hw gw hg G M y0 y2 y3 nn j y1) (hlx : LX T tk tp tm) (hlg : LG G M ft f3 t k6 k7) (hlk : LK k1 k2 k3) (hr : RM cells slots n j) (hn512 : n < 512) (l_x3 : 0 ≤ x3.toInt) (u_x3 : x3.toInt + 6 ≤ L) (hH : HT D cs A T (ch :: tk :: tp :: tm :: O) ((ch, .inr (0, [.ref y0, .int y1, .ref y2, .ref y3])) :: (tk, .inr (7, [o0, .int k1, .int k2, .int k3, .int k4, .int k5, .int k6, .int k7])) :: (tp, .inl (cs.1, 900, .inl ft)) :: (tm, .inl (cs.2.1, 900, .inl f3)) :: X) H) (hS : va_S A s.heap H locs) (hl : lv_has ls 4 [(0, .ref b), (1, .ref a0), (2, .ref a1), (3, .int x3)]) (kk : ∀ (T : TF) (w hw gw hg G M y0 nn j : Nat) (y1 : Int32) (o0 : Value) (k1 k2 k3 k4 k5 k6 k7 : Int32) (ft f3 : Nat → Int32) (t : Tp) (cells slots : Nat) (H : Heap) (locs : List Loc) (ls : Array Slot), LV T a0 a1 ch w hw gw hg G M y0 y2 y3 nn j y1 → LX T tk tp tm → LG G M ft f3 t k6 k7 → LK k1 k2 k3 → RM cells slots (n + 1) j → HT D cs A T (ch :: tk :: tp :: tm :: O) ((ch, .inr (0, [.ref y0, .int y1, .ref y2, .ref y3])) :: (tk, .inr (7, [o0, .int k1, .int k2, .int k3, .int k4, .int k5, .int k6, .int k7])) :: (tp, .inl (cs.1, 900, .inl ft)) :: (tm, .inl (cs.2.1, 900, .inl f3)) :: X) H → va_S A s.heap H locs → lv_has ls 4 [(0, .ref b), (1, .ref a0), (2, .ref a1), (3, .int x3)] → W p l e room_1 s m #[Value.ref b] below meth c H locs cells slots Q (F0 m 1395 ls [])) : W p l e room_1 s m #[Value.ref b] below meth c H locs cells slots Q (F0 m 1220 ls []) := by
  obtain ⟨t_a0, t_w, t_a1, b_hg, hU, hU1, t_ch, t_y0, l_y1, u_y1, t_y2, t_y3, hn, hj⟩ := id hv
  obtain ⟨t_tk, t_tp, t_tm, hU7, hU0, hU9⟩ := id hlx
  obtain ⟨lk1, lk2, lk3, lk4, lk5, lk6⟩ := id hlk
  have hO := okc hO9 t_ch t_tk t_tp t_tm
  obtain ⟨hr1, hr2⟩ := id hr
  have hOX : ∀ o ∈ (ch :: tk :: tp :: tm :: O), ∃ (k : Nat) (e : va_E), ((ch, .inr (0, [.ref y0, .int y1, .ref y2, .ref y3])) :: (tk, .inr (7, [o0, .int k1, .int k2, .int k3, .int k4, .int k5, .int k6, .int k7])) :: (tp, .inl (cs.1, 900, .inl ft)) :: (tm, .inl (cs.2.1, 900, .inl f3)) :: X)[k]? = some (o, e) := ox_c (ox_c (ox_c (ox_c hOX0)))
  have hOXf := hOX
  have b1_w := t_w.2.1
  have b2_w := t_w.2.2
  refine lv_aload_n hx hb dL_law_1220 rfl (lv_at hl 1 rfl) ?_
  refine lv_aload_n hx hb dL_law_1221 rfl (lv_at hl 0 rfl) ?_
  refine lv_iload_n hx hb dL_law_1222 rfl (lv_at hl 3 rfl) ?_
  refine lv_iconst (v := 1) hx hb dL_law_1223 (by decide) ?_
  refine lv_iadd hx hb dL_law_1224 ?_
  refine lv_topi (fun v1224 ev1224 => ?_)
  have tv1224 : v1224.toInt = x3.toInt + (1) := by rw [ev1224]; exact add_i rfl (by decide : (1 : Int32).toInt = 1) (by omega) (by omega)
  refine va_sld hx hb hX hbl hbA hS (in_t (by omega) (by omega)) dL_law_1225 ?_
  refine lv_topi (fun v1225 ev1225 => ?_)
  refine lv_aload_n hx hb dL_law_1226 rfl (lv_at hl 0 rfl) ?_
  refine lv_iload_n hx hb dL_law_1227 rfl (lv_at hl 3 rfl) ?_
  refine lv_iconst (v := 2) hx hb dL_law_1228 (by decide) ?_
  refine lv_iadd hx hb dL_law_1229 ?_
  refine lv_topi (fun v1229 ev1229 => ?_)
  have tv1229 : v1229.toInt = x3.toInt + (2) := by rw [ev1229]; exact add_i rfl (by decide : (2 : Int32).toInt = 2) (by omega) (by omega)
  refine va_sld hx hb hX hbl hbA hS (in_t (by omega) (by omega)) dL_law_1230 ?_
  refine lv_topi (fun v1230 ev1230 => ?_)
  refine lv_aload_n hx hb dL_law_1231 rfl (lv_at hl 0 rfl) ?_
  refine lv_iload_n hx hb dL_law_1232 rfl (lv_at hl 3 rfl) ?_
  refine lv_iconst (v := 3) hx hb dL_law_1233 (by decide) ?_
  refine lv_iadd hx hb dL_law_1234 ?_
  refine lv_topi (fun v1234 ev1234 => ?_)
  have tv1234 : v1234.toInt = x3.toInt + (3) := by rw [ev1234]; exact add_i rfl (by decide : (3 : Int32).toInt = 3) (by omega) (by omega)
  refine va_sld hx hb hX hbl hbA hS (in_t (by omega) (by omega)) dL_law_1235 ?_
  refine lv_topi (fun v1235 ev1235 => ?_)
  refine lv_i2l hx hb dL_law_1236 rfl ?_
  refine lv_bipush (v := 32) hx hb dL_law_1237 (by decide) ?_
  refine lv_lshl hx hb dL_law_1239 rfl ?_
  refine lv_topl (fun v1239 ev1239 => ?_)
  refine lv_aload_n hx hb dL_law_1240 rfl (lv_at hl 0 rfl) ?_
  refine lv_iload_n hx hb dL_law_1241 rfl (lv_at hl 3 rfl) ?_
  refine lv_iconst (v := 4) hx hb dL_law_1242 (by decide) ?_
  refine lv_iadd hx hb dL_law_1243 ?_
  refine lv_topi (fun v1243 ev1243 => ?_)
  have tv1243 : v1243.toInt = x3.toInt + (4) := by rw [ev1243]; exact add_i rfl (by decide : (4 : Int32).toInt = 4) (by omega) (by omega)
  refine va_sld hx hb hX hbl hbA hS (in_t (by omega) (by omega)) dL_law_1244 ?_
  refine lv_topi (fun v1244 ev1244 => ?_)
  refine lv_i2l hx hb dL_law_1245 rfl ?_
  refine lv_ldc2 hx hb hown (hts _ kw_1788) dL_law_1246 ?_
  refine lv_land hx hb dL_law_1249 ?_
  refine lv_topl (fun v1249 ev1249 => ?_)
  refine lv_lor hx hb dL_law_1250 ?_
  refine lv_topl (fun v1250 ev1250 => ?_)
  refine tk_l hH hS hA (tr_V (n := 3) (As := [.int v1225, .int v1230, .long v1250]) hx hb hml hown hts hkb hH (ox_map hOX rfl) hks hE hS hA (s_FW_write l D cs kf T (ch :: tk :: tp :: tm :: O) ((ch, .inr (0, [.ref y0, .int y1, .ref y2, .ref y3])) :: (tk, .inr (7, [o0, .int k1, .int k2, .int k3, .int k4, .int k5, .int k6, .int k7])) :: (tp, .inl (cs.1, 900, .inl ft)) :: (tm, .inl (cs.2.1, 900, .inl f3)) :: X) a0 w hw gw ch G v1225 v1230 v1250 t_a0 t_w t_ch (hO.sub (by decide))) kw_1184 kw_1185 kw_1186 kw_1 kw_1187 (by decide +kernel) ⟨Nat.le_of_ble_eq_true rfl, Nat.le_of_ble_eq_true rfl⟩ (HT.recv (ci := 11) hkb hH t_a0 (hO.no t_a0 (by decide)) rfl) rfl rfl hl.1 (Nat.le_of_ble_eq_true rfl) dL_law_1251 ⟨by show cells + 0 ≤ 600000; omega, by show slots + 0 ≤ 7302250; omega⟩) (fun v1251 u H locs hz9 hH hS => ?_)
  have hz9 : u = (T, ch :: tk :: tp :: tm :: O, (ch, .inr (0, [.ref y0, .int y1, .ref y2, .ref y3])) :: (tk, .inr (7, [o0, .int k1, .int k2, .int k3, .int k4, .int k5, .int k6, .int k7])) :: (tp, .inl (cs.1, 900, .inl ft)) :: (tm, .inl (cs.2.1, 900, .inl f3)) :: X) := hz9
  subst hz9
  have hH : HT D cs A T (ch :: tk :: tp :: tm :: O) ((ch, .inr (0, [.ref y0, .int y1, .ref y2, .ref y3])) :: (tk, .inr (7, [o0, .int k1, .int k2, .int k3, .int k4, .int k5, .int k6, .int k7])) :: (tp, .inl (cs.1, 900, .inl ft)) :: (tm, .inl (cs.2.1, 900, .inl f3)) :: X) H := hH
  refine W.widen (k := cells) (n := slots) (Nat.le_refl _) (Nat.le_refl _) ?_
  refine lv_pop2_2 hx hb dL_law_1254 rfl ?_
  refine lv_aload_n hx hb dL_law_1255 rfl (lv_at hl 2 rfl) ?_
  refine lv_aload_n hx hb dL_law_1256 rfl (lv_at hl 0 rfl) ?_
  refine lv_iload_n hx hb dL_law_1257 rfl (lv_at hl 3 rfl) ?_
  refine lv_iconst (v := 1) hx hb dL_law_1258 (by decide) ?_
  refine lv_iadd hx hb dL_law_1259 ?_
  refine lv_topi (fun v1259 ev1259 => ?_)
  have tv1259 : v1259.toInt = x3.toInt + (1) := by rw [ev1259]; exact add_i rfl (by decide : (1 : Int32).toInt = 1) (by omega) (by omega)
  refine va_sld hx hb hX hbl hbA hS (in_t (by omega) (by omega)) dL_law_1260 ?_
  refine lv_topi (fun v1260 ev1260 => ?_)
  refine lv_aload_n hx hb dL_law_1261 rfl (lv_at hl 0 rfl) ?_
  refine lv_iload_n hx hb dL_law_1262 rfl (lv_at hl 3 rfl) ?_
  refine lv_iconst (v := 2) hx hb dL_law_1263 (by decide) ?_
  refine lv_iadd hx hb dL_law_1264 ?_
  refine lv_topi (fun v1264 ev1264 => ?_)
  have tv1264 : v1264.toInt = x3.toInt + (2) := by rw [ev1264]; exact add_i rfl (by decide : (2 : Int32).toInt = 2) (by omega) (by omega)
  refine va_sld hx hb hX hbl hbA hS (in_t (by omega) (by omega)) dL_law_1265 ?_
  refine lv_topi (fun v1265 ev1265 => ?_)
  refine lv_aload_n hx hb dL_law_1266 rfl (lv_at hl 0 rfl) ?_
  refine lv_iload_n hx hb dL_law_1267 rfl (lv_at hl 3 rfl) ?_
  refine lv_iconst (v := 3) hx hb dL_law_1268 (by decide) ?_
  refine lv_iadd hx hb dL_law_1269 ?_
  refine lv_topi (fun v1269 ev1269 => ?_)
  have tv1269 : v1269.toInt = x3.toInt + (3) := by rw [ev1269]; exact add_i rfl (by decide : (3 : Int32).toInt = 3) (by omega) (by omega)
  refine va_sld hx hb hX hbl hbA hS (in_t (by omega) (by omega)) dL_law_1270 ?_
  refine lv_topi (fun v1270 ev1270 => ?_)
  refine lv_i2l hx hb dL_law_1271 rfl ?_
  refine lv_bipush (v := 32) hx hb dL_law_1272 (by decide) ?_
  refine lv_lshl hx hb dL_law_1274 rfl ?_
  refine lv_topl (fun v1274 ev1274 => ?_)
  refine lv_aload_n hx hb dL_law_1275 rfl (lv_at hl 0 rfl) ?_
  refine lv_iload_n hx hb dL_law_1276 rfl (lv_at hl 3 rfl) ?_
  refine lv_iconst (v := 4) hx hb dL_law_1277 (by decide) ?_
  refine lv_iadd hx hb dL_law_1278 ?_
  refine lv_topi (fun v1278 ev1278 => ?_)
  have tv1278 : v1278.toInt = x3.toInt + (4) := by rw [ev1278]; exact add_i rfl (by decide : (4 : Int32).toInt = 4) (by omega) (by omega)
  refine va_sld hx hb hX hbl hbA hS (in_t (by omega) (by omega)) dL_law_1279 ?_
  refine lv_topi (fun v1279 ev1279 => ?_)
  refine lv_i2l hx hb dL_law_1280 rfl ?_
  refine lv_ldc2 hx hb hown (hts _ kw_1788) dL_law_1281 ?_
  refine lv_land hx hb dL_law_1284 ?_
  refine lv_topl (fun v1284 ev1284 => ?_)
  refine lv_lor hx hb dL_law_1285 ?_
  refine lv_topl (fun v1285 ev1285 => ?_)
  refine tk_l hH hS hA (tr_V (n := 3) (As := [.int v1260, .int v1265, .long v1285]) hx hb hml hown hts hkb hH (ox_map hOX rfl) hks hE hS hA (s_M_write l D cs kf T (ch :: tk :: tp :: tm :: O) ((ch, .inr (0, [.ref y0, .int y1, .ref y2, .ref y3])) :: (tk, .inr (7, [o0, .int k1, .int k2, .int k3, .int k4, .int k5, .int k6, .int k7])) :: (tp, .inl (cs.1, 900, .inl ft)) :: (tm, .inl (cs.2.1, 900, .inl f3)) :: X) a1 hg M v1260 v1265 v1285 t_a1 b_hg (hO.sub (by decide))) kw_1764 kw_1765 kw_1766 kw_13 kw_1767 (by decide +kernel) ⟨Nat.le_of_ble_eq_true rfl, Nat.le_of_ble_eq_true rfl⟩ (HT.recv (ci := 12) hkb hH t_a1 (hO.no t_a1 (by decide)) rfl) rfl rfl hl.1 (Nat.le_of_ble_eq_true rfl) dL_law_1286 ⟨by show cells + 0 ≤ 600000; omega, by show slots + 0 ≤ 7302250; omega⟩) (fun v1286 u H locs hz9 hH hS => ?_)
  have hz9 : u = (T, ch :: tk :: tp :: tm :: O, (ch, .inr (0, [.ref y0, .int y1, .ref y2, .ref y3])) :: (tk, .inr (7, [o0, .int k1, .int k2, .int k3, .int k4, .int k5, .int k6, .int k7])) :: (tp, .inl (cs.1, 900, .inl ft)) :: (tm, .inl (cs.2.1, 900, .inl f3)) :: X) := hz9
  subst hz9
  have hH : HT D cs A T (ch :: tk :: tp :: tm :: O) ((ch, .inr (0, [.ref y0, .int y1, .ref y2, .ref y3])) :: (tk, .inr (7, [o0, .int k1, .int k2, .int k3, .int k4, .int k5, .int k6, .int k7])) :: (tp, .inl (cs.1, 900, .inl ft)) :: (tm, .inl (cs.2.1, 900, .inl f3)) :: X) H := hH
  refine W.widen (k := cells) (n := slots) (Nat.le_refl _) (Nat.le_refl _) ?_
  refine lv_pop2_2 hx hb dL_law_1289 rfl ?_
  refine lv_goto (tgt := 1395) hx hb dL_law_1290 (by decide) ?_
  exact kk T w hw gw hg G M y0 nn j y1 o0 k1 k2 k3 k4 k5 k6 k7 ft f3 t _ _ _ _ _ hv hlx hlg hlk hr.s hH hS (lv_sub hl [0, 1, 2, 3] rfl)
set_option maxHeartbeats 4000000 in
set_option maxRecDepth 100000 in
/-- lists -/
theorem lw_c37 {p : Program} {e : Env} {s : State} {m : MethodId} {below : List Frame} {meth : Method} {c : Code} {Q : State → Prop} (l : Launch) (D : va_G) (cs : CS) (kf : KF) {b L : Nat} {xs : Nat → Int32} (hx : p.tables.exec = Jvm.exec) (hb : c.code = code) (hml : c.maxLocals = 4) (hown : s.vm.findClass R_law = some m.cls) (hts : ∀ w ∈ gw, w.before #[Value.ref b] s = true) (hX : va_X b L xs s s.heap) (hbl : b < s.heap.size) (hkb : kb D (tyc cs) s) (hks : kS kf s) {A : Nat → Prop} (hE : kE kf A s s.heap) (hA : ∀ q, s.heap.size ≤ q → A q) (hbA : ¬ A b) (hL : L ≤ 3072) (O : List Nat) (X : va_W) (hOX0 : ∀ o ∈ O, ∃ (k : Nat) (e : va_E), X[k]? = some (o, e)) (hO9 : O = []) (a0 ch a1 y2 y3 tk tp tm : Nat) (T : TF) (w hw gw hg G M y0 nn j : Nat) (y1 : Int32) (o0 : Value) (k1 k2 k3 k4 k5 k6 k7 : Int32) (ft f3 : Nat → Int32) (t : Tp) (x3 : Int32) (n cells slots : Nat) (H : Heap) (locs : List Loc) (ls : Array Slot) (hv : LV T a0 a1 ch w hw gw hg G M y0 y2 y3 nn j y1) (hlx : LX T tk tp tm) (hlg : LG G M ft f3 t k6 k7) (hlk : LK k1 k2 k3) (hr : RM cells slots n j) (hn512 : n < 512) (l_x3 : 0 ≤ x3.toInt) (u_x3 : x3.toInt + 6 ≤ L) (hH : HT D cs A T (ch :: tk :: tp :: tm :: O) ((ch, .inr (0, [.ref y0, .int y1, .ref y2, .ref y3])) :: (tk, .inr (7, [o0, .int k1, .int k2, .int k3, .int k4, .int k5, .int k6, .int k7])) :: (tp, .inl (cs.1, 900, .inl ft)) :: (tm, .inl (cs.2.1, 900, .inl f3)) :: X) H) (hS : va_S A s.heap H locs) (hl : lv_has ls 4 [(0, .ref b), (1, .ref a0), (2, .ref a1), (3, .int x3)]) (kk : ∀ (T : TF) (w hw gw hg G M y0 nn j : Nat) (y1 : Int32) (o0 : Value) (k1 k2 k3 k4 k5 k6 k7 : Int32) (ft f3 : Nat → Int32) (t : Tp) (cells slots : Nat) (H : Heap) (locs : List Loc) (ls : Array Slot), LV T a0 a1 ch w hw gw hg G M y0 y2 y3 nn j y1 → LX T tk tp tm → LG G M ft f3 t k6 k7 → LK k1 k2 k3 → RM cells slots (n + 1) j → HT D cs A T (ch :: tk :: tp :: tm :: O) ((ch, .inr (0, [.ref y0, .int y1, .ref y2, .ref y3])) :: (tk, .inr (7, [o0, .int k1, .int k2, .int k3, .int k4, .int k5, .int k6, .int k7])) :: (tp, .inl (cs.1, 900, .inl ft)) :: (tm, .inl (cs.2.1, 900, .inl f3)) :: X) H → va_S A s.heap H locs → lv_has ls 4 [(0, .ref b), (1, .ref a0), (2, .ref a1), (3, .int x3)] → W p l e room_1 s m #[Value.ref b] below meth c H locs cells slots Q (F0 m 1395 ls [])) : W p l e room_1 s m #[Value.ref b] below meth c H locs cells slots Q (F0 m 1293 ls []) := by
  obtain ⟨t_a0, t_w, t_a1, b_hg, hU, hU1, t_ch, t_y0, l_y1, u_y1, t_y2, t_y3, hn, hj⟩ := id hv
  obtain ⟨t_tk, t_tp, t_tm, hU7, hU0, hU9⟩ := id hlx
  obtain ⟨lk1, lk2, lk3, lk4, lk5, lk6⟩ := id hlk
  have hO := okc hO9 t_ch t_tk t_tp t_tm
  obtain ⟨hr1, hr2⟩ := id hr
  have hOX : ∀ o ∈ (ch :: tk :: tp :: tm :: O), ∃ (k : Nat) (e : va_E), ((ch, .inr (0, [.ref y0, .int y1, .ref y2, .ref y3])) :: (tk, .inr (7, [o0, .int k1, .int k2, .int k3, .int k4, .int k5, .int k6, .int k7])) :: (tp, .inl (cs.1, 900, .inl ft)) :: (tm, .inl (cs.2.1, 900, .inl f3)) :: X)[k]? = some (o, e) := ox_c (ox_c (ox_c (ox_c hOX0)))
  have hOXf := hOX
  have b1_w := t_w.2.1
  have b2_w := t_w.2.2
  refine lv_aload_n hx hb dL_law_1293 rfl (lv_at hl 1 rfl) ?_
  refine lv_aload_n hx hb dL_law_1294 rfl (lv_at hl 0 rfl) ?_
  refine lv_iload_n hx hb dL_law_1295 rfl (lv_at hl 3 rfl) ?_
  refine lv_iconst (v := 1) hx hb dL_law_1296 (by decide) ?_
  refine lv_iadd hx hb dL_law_1297 ?_
  refine lv_topi (fun v1297 ev1297 => ?_)
  have tv1297 : v1297.toInt = x3.toInt + (1) := by rw [ev1297]; exact add_i rfl (by decide : (1 : Int32).toInt = 1) (by omega) (by omega)
  refine va_sld hx hb hX hbl hbA hS (in_t (by omega) (by omega)) dL_law_1298 ?_
  refine lv_topi (fun v1298 ev1298 => ?_)
  refine lv_aload_n hx hb dL_law_1299 rfl (lv_at hl 0 rfl) ?_
  refine lv_iload_n hx hb dL_law_1300 rfl (lv_at hl 3 rfl) ?_
  refine lv_iconst (v := 2) hx hb dL_law_1301 (by decide) ?_
  refine lv_iadd hx hb dL_law_1302 ?_
  refine lv_topi (fun v1302 ev1302 => ?_)
  have tv1302 : v1302.toInt = x3.toInt + (2) := by rw [ev1302]; exact add_i rfl (by decide : (2 : Int32).toInt = 2) (by omega) (by omega)
  refine va_sld hx hb hX hbl hbA hS (in_t (by omega) (by omega)) dL_law_1303 ?_
  refine lv_topi (fun v1303 ev1303 => ?_)
  refine tk_i hH hS hA (tr_V (n := 2) (As := [.int v1298, .int v1303]) hx hb hml hown hts hkb hH (ox_map hOX rfl) hks hE hS hA (s_FW_lists l D cs kf T (ch :: tk :: tp :: tm :: O) ((ch, .inr (0, [.ref y0, .int y1, .ref y2, .ref y3])) :: (tk, .inr (7, [o0, .int k1, .int k2, .int k3, .int k4, .int k5, .int k6, .int k7])) :: (tp, .inl (cs.1, 900, .inl ft)) :: (tm, .inl (cs.2.1, 900, .inl f3)) :: X) a0 w hw gw ch G v1298 v1303 t_a0 t_w t_ch (hO.sub (by decide))) kw_1194 kw_1195 kw_1196 kw_1 kw_1197 (by decide +kernel) ⟨Nat.le_of_ble_eq_true rfl, Nat.le_of_ble_eq_true rfl⟩ (HT.recv (ci := 11) hkb hH t_a0 (hO.no t_a0 (by decide)) rfl) rfl rfl hl.1 (Nat.le_of_ble_eq_true rfl) dL_law_1304 ⟨by show cells + 0 ≤ 600000; omega, by show slots + 0 ≤ 7302250; omega⟩) (fun v1304 u H locs hz9 hH hS => ?_)
  obtain ⟨rfl, l_v1304, u_v1304⟩ := hz9
  have hH : HT D cs A T (ch :: tk :: tp :: tm :: O) ((ch, .inr (0, [.ref y0, .int y1, .ref y2, .ref y3])) :: (tk, .inr (7, [o0, .int k1, .int k2, .int k3, .int k4, .int k5, .int k6, .int k7])) :: (tp, .inl (cs.1, 900, .inl ft)) :: (tm, .inl (cs.2.1, 900, .inl f3)) :: X) H := hH
  refine W.widen (k := cells) (n := slots) (Nat.le_refl _) (Nat.le_refl _) ?_
  refine lv_pop hx hb dL_law_1307 rfl ?_
  refine lv_aload_n hx hb dL_law_1308 rfl (lv_at hl 2 rfl) ?_
  refine lv_aload_n hx hb dL_law_1309 rfl (lv_at hl 0 rfl) ?_
  refine lv_iload_n hx hb dL_law_1310 rfl (lv_at hl 3 rfl) ?_
  refine lv_iconst (v := 1) hx hb dL_law_1311 (by decide) ?_
  refine lv_iadd hx hb dL_law_1312 ?_
  refine lv_topi (fun v1312 ev1312 => ?_)
  have tv1312 : v1312.toInt = x3.toInt + (1) := by rw [ev1312]; exact add_i rfl (by decide : (1 : Int32).toInt = 1) (by omega) (by omega)
  refine va_sld hx hb hX hbl hbA hS (in_t (by omega) (by omega)) dL_law_1313 ?_
  refine lv_topi (fun v1313 ev1313 => ?_)
  refine lv_aload_n hx hb dL_law_1314 rfl (lv_at hl 0 rfl) ?_
  refine lv_iload_n hx hb dL_law_1315 rfl (lv_at hl 3 rfl) ?_
  refine lv_iconst (v := 2) hx hb dL_law_1316 (by decide) ?_
  refine lv_iadd hx hb dL_law_1317 ?_
  refine lv_topi (fun v1317 ev1317 => ?_)
  have tv1317 : v1317.toInt = x3.toInt + (2) := by rw [ev1317]; exact add_i rfl (by decide : (2 : Int32).toInt = 2) (by omega) (by omega)
  refine va_sld hx hb hX hbl hbA hS (in_t (by omega) (by omega)) dL_law_1318 ?_
  refine lv_topi (fun v1318 ev1318 => ?_)
  refine tk_i hH hS hA (tr_V (n := 2) (As := [.int v1313, .int v1318]) hx hb hml hown hts hkb hH (ox_map hOX rfl) hks hE hS hA (s_M_lists l D cs kf T (ch :: tk :: tp :: tm :: O) ((ch, .inr (0, [.ref y0, .int y1, .ref y2, .ref y3])) :: (tk, .inr (7, [o0, .int k1, .int k2, .int k3, .int k4, .int k5, .int k6, .int k7])) :: (tp, .inl (cs.1, 900, .inl ft)) :: (tm, .inl (cs.2.1, 900, .inl f3)) :: X) a1 hg M v1313 v1318 t_a1 b_hg (hO.sub (by decide))) kw_1772 kw_1773 kw_1774 kw_13 kw_1775 (by decide +kernel) ⟨Nat.le_of_ble_eq_true rfl, Nat.le_of_ble_eq_true rfl⟩ (HT.recv (ci := 12) hkb hH t_a1 (hO.no t_a1 (by decide)) rfl) rfl rfl hl.1 (Nat.le_of_ble_eq_true rfl) dL_law_1319 ⟨by show cells + 0 ≤ 600000; omega, by show slots + 0 ≤ 7302250; omega⟩) (fun v1319 u H locs hz9 hH hS => ?_)
  obtain ⟨rfl, l_v1319, u_v1319⟩ := hz9
  have hH : HT D cs A T (ch :: tk :: tp :: tm :: O) ((ch, .inr (0, [.ref y0, .int y1, .ref y2, .ref y3])) :: (tk, .inr (7, [o0, .int k1, .int k2, .int k3, .int k4, .int k5, .int k6, .int k7])) :: (tp, .inl (cs.1, 900, .inl ft)) :: (tm, .inl (cs.2.1, 900, .inl f3)) :: X) H := hH
  refine W.widen (k := cells) (n := slots) (Nat.le_refl _) (Nat.le_refl _) ?_
  refine lv_pop hx hb dL_law_1322 rfl ?_
  refine lv_goto (tgt := 1395) hx hb dL_law_1323 (by decide) ?_
  exact kk T w hw gw hg G M y0 nn j y1 o0 k1 k2 k3 k4 k5 k6 k7 ft f3 t _ _ _ _ _ hv hlx hlg hlk hr.s hH hS (lv_sub hl [0, 1, 2, 3] rfl)
set_option maxHeartbeats 4000000 in
set_option maxRecDepth 100000 in
/-- image -/
theorem lw_c38 {p : Program} {e : Env} {s : State} {m : MethodId} {below : List Frame} {meth : Method} {c : Code} {Q : State → Prop} (l : Launch) (D : va_G) (cs : CS) (kf : KF) {b L : Nat} {xs : Nat → Int32} (hx : p.tables.exec = Jvm.exec) (hb : c.code = code) (hml : c.maxLocals = 4) (hown : s.vm.findClass R_law = some m.cls) (hts : ∀ w ∈ gw, w.before #[Value.ref b] s = true) (hX : va_X b L xs s s.heap) (hbl : b < s.heap.size) (hkb : kb D (tyc cs) s) (hks : kS kf s) {A : Nat → Prop} (hE : kE kf A s s.heap) (hA : ∀ q, s.heap.size ≤ q → A q) (hbA : ¬ A b) (hL : L ≤ 3072) (O : List Nat) (X : va_W) (hOX0 : ∀ o ∈ O, ∃ (k : Nat) (e : va_E), X[k]? = some (o, e)) (hO9 : O = []) (a0 ch a1 y2 y3 tk tp tm : Nat) (T : TF) (w hw gw hg G M y0 nn j : Nat) (y1 : Int32) (o0 : Value) (k1 k2 k3 k4 k5 k6 k7 : Int32) (ft f3 : Nat → Int32) (t : Tp) (x3 : Int32) (n cells slots : Nat) (H : Heap) (locs : List Loc) (ls : Array Slot) (hv : LV T a0 a1 ch w hw gw hg G M y0 y2 y3 nn j y1) (hlx : LX T tk tp tm) (hlg : LG G M ft f3 t k6 k7) (hlk : LK k1 k2 k3) (hr : RM cells slots n j) (hn512 : n < 512) (l_x3 : 0 ≤ x3.toInt) (u_x3 : x3.toInt + 6 ≤ L) (hH : HT D cs A T (ch :: tk :: tp :: tm :: O) ((ch, .inr (0, [.ref y0, .int y1, .ref y2, .ref y3])) :: (tk, .inr (7, [o0, .int k1, .int k2, .int k3, .int k4, .int k5, .int k6, .int k7])) :: (tp, .inl (cs.1, 900, .inl ft)) :: (tm, .inl (cs.2.1, 900, .inl f3)) :: X) H) (hS : va_S A s.heap H locs) (hl : lv_has ls 4 [(0, .ref b), (1, .ref a0), (2, .ref a1), (3, .int x3)]) (kk : ∀ (T : TF) (w hw gw hg G M y0 nn j : Nat) (y1 : Int32) (o0 : Value) (k1 k2 k3 k4 k5 k6 k7 : Int32) (ft f3 : Nat → Int32) (t : Tp) (cells slots : Nat) (H : Heap) (locs : List Loc) (ls : Array Slot), LV T a0 a1 ch w hw gw hg G M y0 y2 y3 nn j y1 → LX T tk tp tm → LG G M ft f3 t k6 k7 → LK k1 k2 k3 → RM cells slots (n + 1) j → HT D cs A T (ch :: tk :: tp :: tm :: O) ((ch, .inr (0, [.ref y0, .int y1, .ref y2, .ref y3])) :: (tk, .inr (7, [o0, .int k1, .int k2, .int k3, .int k4, .int k5, .int k6, .int k7])) :: (tp, .inl (cs.1, 900, .inl ft)) :: (tm, .inl (cs.2.1, 900, .inl f3)) :: X) H → va_S A s.heap H locs → lv_has ls 4 [(0, .ref b), (1, .ref a0), (2, .ref a1), (3, .int x3)] → W p l e room_1 s m #[Value.ref b] below meth c H locs cells slots Q (F0 m 1395 ls [])) : W p l e room_1 s m #[Value.ref b] below meth c H locs cells slots Q (F0 m 1326 ls []) := by
  obtain ⟨t_a0, t_w, t_a1, b_hg, hU, hU1, t_ch, t_y0, l_y1, u_y1, t_y2, t_y3, hn, hj⟩ := id hv
  obtain ⟨t_tk, t_tp, t_tm, hU7, hU0, hU9⟩ := id hlx
  obtain ⟨lk1, lk2, lk3, lk4, lk5, lk6⟩ := id hlk
  have hO := okc hO9 t_ch t_tk t_tp t_tm
  obtain ⟨hr1, hr2⟩ := id hr
  have hOX : ∀ o ∈ (ch :: tk :: tp :: tm :: O), ∃ (k : Nat) (e : va_E), ((ch, .inr (0, [.ref y0, .int y1, .ref y2, .ref y3])) :: (tk, .inr (7, [o0, .int k1, .int k2, .int k3, .int k4, .int k5, .int k6, .int k7])) :: (tp, .inl (cs.1, 900, .inl ft)) :: (tm, .inl (cs.2.1, 900, .inl f3)) :: X)[k]? = some (o, e) := ox_c (ox_c (ox_c (ox_c hOX0)))
  have hOXf := hOX
  have b1_w := t_w.2.1
  have b2_w := t_w.2.2
  refine lv_aload_n hx hb dL_law_1326 rfl (lv_at hl 1 rfl) ?_
  refine lv_aload_n hx hb dL_law_1327 rfl (lv_at hl 0 rfl) ?_
  refine lv_iload_n hx hb dL_law_1328 rfl (lv_at hl 3 rfl) ?_
  refine lv_iconst (v := 1) hx hb dL_law_1329 (by decide) ?_
  refine lv_iadd hx hb dL_law_1330 ?_
  refine lv_topi (fun v1330 ev1330 => ?_)
  have tv1330 : v1330.toInt = x3.toInt + (1) := by rw [ev1330]; exact add_i rfl (by decide : (1 : Int32).toInt = 1) (by omega) (by omega)
  refine va_sld hx hb hX hbl hbA hS (in_t (by omega) (by omega)) dL_law_1331 ?_
  refine lv_topi (fun v1331 ev1331 => ?_)
  refine tk_i hH hS hA (tr_V (n := 1) (As := [.int v1331]) hx hb hml hown hts hkb hH (ox_map hOX rfl) hks hE hS hA (s_FW_image l D cs kf T (ch :: tk :: tp :: tm :: O) ((ch, .inr (0, [.ref y0, .int y1, .ref y2, .ref y3])) :: (tk, .inr (7, [o0, .int k1, .int k2, .int k3, .int k4, .int k5, .int k6, .int k7])) :: (tp, .inl (cs.1, 900, .inl ft)) :: (tm, .inl (cs.2.1, 900, .inl f3)) :: X) a0 w hw gw ch G v1331 t_a0 t_w t_ch (hO.sub (by decide))) kw_1198 kw_1199 kw_1200 kw_1 kw_1201 (by decide +kernel) ⟨Nat.le_of_ble_eq_true rfl, Nat.le_of_ble_eq_true rfl⟩ (HT.recv (ci := 11) hkb hH t_a0 (hO.no t_a0 (by decide)) rfl) rfl rfl hl.1 (Nat.le_of_ble_eq_true rfl) dL_law_1332 ⟨by show cells + 0 ≤ 600000; omega, by show slots + 0 ≤ 7302250; omega⟩) (fun v1332 u H locs hz9 hH hS => ?_)
  obtain ⟨rfl, l_v1332, u_v1332⟩ := hz9
  have hH : HT D cs A T (ch :: tk :: tp :: tm :: O) ((ch, .inr (0, [.ref y0, .int y1, .ref y2, .ref y3])) :: (tk, .inr (7, [o0, .int k1, .int k2, .int k3, .int k4, .int k5, .int k6, .int k7])) :: (tp, .inl (cs.1, 900, .inl ft)) :: (tm, .inl (cs.2.1, 900, .inl f3)) :: X) H := hH
  refine W.widen (k := cells) (n := slots) (Nat.le_refl _) (Nat.le_refl _) ?_
  refine lv_pop hx hb dL_law_1335 rfl ?_
  refine lv_aload_n hx hb dL_law_1336 rfl (lv_at hl 2 rfl) ?_
  refine lv_aload_n hx hb dL_law_1337 rfl (lv_at hl 0 rfl) ?_
  refine lv_iload_n hx hb dL_law_1338 rfl (lv_at hl 3 rfl) ?_
  refine lv_iconst (v := 1) hx hb dL_law_1339 (by decide) ?_
  refine lv_iadd hx hb dL_law_1340 ?_
  refine lv_topi (fun v1340 ev1340 => ?_)
  have tv1340 : v1340.toInt = x3.toInt + (1) := by rw [ev1340]; exact add_i rfl (by decide : (1 : Int32).toInt = 1) (by omega) (by omega)
  refine va_sld hx hb hX hbl hbA hS (in_t (by omega) (by omega)) dL_law_1341 ?_
  refine lv_topi (fun v1341 ev1341 => ?_)
  refine tk_i hH hS hA (tr_V (n := 1) (As := [.int v1341]) hx hb hml hown hts hkb hH (ox_map hOX rfl) hks hE hS hA (s_M_image l D cs kf T (ch :: tk :: tp :: tm :: O) ((ch, .inr (0, [.ref y0, .int y1, .ref y2, .ref y3])) :: (tk, .inr (7, [o0, .int k1, .int k2, .int k3, .int k4, .int k5, .int k6, .int k7])) :: (tp, .inl (cs.1, 900, .inl ft)) :: (tm, .inl (cs.2.1, 900, .inl f3)) :: X) a1 hg M v1341 t_a1 b_hg (hO.sub (by decide))) kw_1776 kw_1777 kw_1778 kw_13 kw_1779 (by decide +kernel) ⟨Nat.le_of_ble_eq_true rfl, Nat.le_of_ble_eq_true rfl⟩ (HT.recv (ci := 12) hkb hH t_a1 (hO.no t_a1 (by decide)) rfl) rfl rfl hl.1 (Nat.le_of_ble_eq_true rfl) dL_law_1342 ⟨by show cells + 0 ≤ 600000; omega, by show slots + 0 ≤ 7302250; omega⟩) (fun v1342 u H locs hz9 hH hS => ?_)
  obtain ⟨rfl, l_v1342, u_v1342⟩ := hz9
  have hH : HT D cs A T (ch :: tk :: tp :: tm :: O) ((ch, .inr (0, [.ref y0, .int y1, .ref y2, .ref y3])) :: (tk, .inr (7, [o0, .int k1, .int k2, .int k3, .int k4, .int k5, .int k6, .int k7])) :: (tp, .inl (cs.1, 900, .inl ft)) :: (tm, .inl (cs.2.1, 900, .inl f3)) :: X) H := hH
  refine W.widen (k := cells) (n := slots) (Nat.le_refl _) (Nat.le_refl _) ?_
  refine lv_pop hx hb dL_law_1345 rfl ?_
  refine lv_goto (tgt := 1395) hx hb dL_law_1346 (by decide) ?_
  exact kk T w hw gw hg G M y0 nn j y1 o0 k1 k2 k3 k4 k5 k6 k7 ft f3 t _ _ _ _ _ hv hlx hlg hlk hr.s hH hS (lv_sub hl [0, 1, 2, 3] rfl)
set_option maxHeartbeats 4000000 in
set_option maxRecDepth 100000 in
/-- restore -/
theorem lw_c39 {p : Program} {e : Env} {s : State} {m : MethodId} {below : List Frame} {meth : Method} {c : Code} {Q : State → Prop} (l : Launch) (D : va_G) (cs : CS) (kf : KF) {b L : Nat} {xs : Nat → Int32} (hx : p.tables.exec = Jvm.exec) (hb : c.code = code) (hml : c.maxLocals = 4) (hown : s.vm.findClass R_law = some m.cls) (hts : ∀ w ∈ gw, w.before #[Value.ref b] s = true) (hX : va_X b L xs s s.heap) (hbl : b < s.heap.size) (hkb : kb D (tyc cs) s) (hks : kS kf s) {A : Nat → Prop} (hE : kE kf A s s.heap) (hA : ∀ q, s.heap.size ≤ q → A q) (hbA : ¬ A b) (hL : L ≤ 3072) (O : List Nat) (X : va_W) (hOX0 : ∀ o ∈ O, ∃ (k : Nat) (e : va_E), X[k]? = some (o, e)) (hO9 : O = []) (a0 ch a1 y2 y3 tk tp tm : Nat) (T : TF) (w hw gw hg G M y0 nn j : Nat) (y1 : Int32) (o0 : Value) (k1 k2 k3 k4 k5 k6 k7 : Int32) (ft f3 : Nat → Int32) (t : Tp) (x3 : Int32) (n cells slots : Nat) (H : Heap) (locs : List Loc) (ls : Array Slot) (hv : LV T a0 a1 ch w hw gw hg G M y0 y2 y3 nn j y1) (hlx : LX T tk tp tm) (hlg : LG G M ft f3 t k6 k7) (hlk : LK k1 k2 k3) (hr : RM cells slots n j) (hn512 : n < 512) (l_x3 : 0 ≤ x3.toInt) (u_x3 : x3.toInt + 6 ≤ L) (hH : HT D cs A T (ch :: tk :: tp :: tm :: O) ((ch, .inr (0, [.ref y0, .int y1, .ref y2, .ref y3])) :: (tk, .inr (7, [o0, .int k1, .int k2, .int k3, .int k4, .int k5, .int k6, .int k7])) :: (tp, .inl (cs.1, 900, .inl ft)) :: (tm, .inl (cs.2.1, 900, .inl f3)) :: X) H) (hS : va_S A s.heap H locs) (hl : lv_has ls 4 [(0, .ref b), (1, .ref a0), (2, .ref a1), (3, .int x3)]) (kk : ∀ (T : TF) (w hw gw hg G M y0 nn j : Nat) (y1 : Int32) (o0 : Value) (k1 k2 k3 k4 k5 k6 k7 : Int32) (ft f3 : Nat → Int32) (t : Tp) (cells slots : Nat) (H : Heap) (locs : List Loc) (ls : Array Slot), LV T a0 a1 ch w hw gw hg G M y0 y2 y3 nn j y1 → LX T tk tp tm → LG G M ft f3 t k6 k7 → LK k1 k2 k3 → RM cells slots (n + 1) j → HT D cs A T (ch :: tk :: tp :: tm :: O) ((ch, .inr (0, [.ref y0, .int y1, .ref y2, .ref y3])) :: (tk, .inr (7, [o0, .int k1, .int k2, .int k3, .int k4, .int k5, .int k6, .int k7])) :: (tp, .inl (cs.1, 900, .inl ft)) :: (tm, .inl (cs.2.1, 900, .inl f3)) :: X) H → va_S A s.heap H locs → lv_has ls 4 [(0, .ref b), (1, .ref a0), (2, .ref a1), (3, .int x3)] → W p l e room_1 s m #[Value.ref b] below meth c H locs cells slots Q (F0 m 1395 ls [])) : W p l e room_1 s m #[Value.ref b] below meth c H locs cells slots Q (F0 m 1349 ls []) := by
  obtain ⟨t_a0, t_w, t_a1, b_hg, hU, hU1, t_ch, t_y0, l_y1, u_y1, t_y2, t_y3, hn, hj⟩ := id hv
  obtain ⟨t_tk, t_tp, t_tm, hU7, hU0, hU9⟩ := id hlx
  obtain ⟨lk1, lk2, lk3, lk4, lk5, lk6⟩ := id hlk
  have hO := okc hO9 t_ch t_tk t_tp t_tm
  obtain ⟨hr1, hr2⟩ := id hr
  have hOX : ∀ o ∈ (ch :: tk :: tp :: tm :: O), ∃ (k : Nat) (e : va_E), ((ch, .inr (0, [.ref y0, .int y1, .ref y2, .ref y3])) :: (tk, .inr (7, [o0, .int k1, .int k2, .int k3, .int k4, .int k5, .int k6, .int k7])) :: (tp, .inl (cs.1, 900, .inl ft)) :: (tm, .inl (cs.2.1, 900, .inl f3)) :: X)[k]? = some (o, e) := ox_c (ox_c (ox_c (ox_c hOX0)))
  have hOXf := hOX
  have b1_w := t_w.2.1
  have b2_w := t_w.2.2
  refine lv_aload_n hx hb dL_law_1349 rfl (lv_at hl 1 rfl) ?_
  refine lv_aload_n hx hb dL_law_1350 rfl (lv_at hl 0 rfl) ?_
  refine lv_iload_n hx hb dL_law_1351 rfl (lv_at hl 3 rfl) ?_
  refine lv_iconst (v := 1) hx hb dL_law_1352 (by decide) ?_
  refine lv_iadd hx hb dL_law_1353 ?_
  refine lv_topi (fun v1353 ev1353 => ?_)
  have tv1353 : v1353.toInt = x3.toInt + (1) := by rw [ev1353]; exact add_i rfl (by decide : (1 : Int32).toInt = 1) (by omega) (by omega)
  refine va_sld hx hb hX hbl hbA hS (in_t (by omega) (by omega)) dL_law_1354 ?_
  refine lv_topi (fun v1354 ev1354 => ?_)
  refine tk_i hH hS hA (tr_V (n := 1) (As := [.int v1354]) hx hb hml hown hts hkb hH (ox_map hOX rfl) hks hE hS hA (s_FW_restore l D cs kf T (ch :: tk :: tp :: tm :: O) ((ch, .inr (0, [.ref y0, .int y1, .ref y2, .ref y3])) :: (tk, .inr (7, [o0, .int k1, .int k2, .int k3, .int k4, .int k5, .int k6, .int k7])) :: (tp, .inl (cs.1, 900, .inl ft)) :: (tm, .inl (cs.2.1, 900, .inl f3)) :: X) a0 w hw gw ch G v1354 t_a0 t_w t_ch (hO.sub (by decide))) kw_1205 kw_1206 kw_1207 kw_1 kw_1208 (by decide +kernel) ⟨Nat.le_of_ble_eq_true rfl, Nat.le_of_ble_eq_true rfl⟩ (HT.recv (ci := 11) hkb hH t_a0 (hO.no t_a0 (by decide)) rfl) rfl rfl hl.1 (Nat.le_of_ble_eq_true rfl) dL_law_1355 ⟨by show cells + 0 ≤ 600000; omega, by show slots + 0 ≤ 7302250; omega⟩) (fun v1355 u H locs hz9 hH hS => ?_)
  obtain ⟨T2_1355, w2_1355, h2_1355, g2_1355, rfl, l_v1355, u_v1355, x_v13550, x_v13551, x_v13552⟩ := hz9
  have hv := hv.re x_v13550 x_v13551 x_v13552
  have hlx := hlx.re x_v13550
  obtain ⟨t_a0, t_w, t_a1, b_hg, hU, hU1, t_ch, t_y0, l_y1, u_y1, t_y2, t_y3, hn, hj⟩ := id hv
  obtain ⟨t_tk, t_tp, t_tm, hU7, hU0, hU9⟩ := id hlx
  have hH : HT D cs A T2_1355 (ch :: tk :: tp :: tm :: O) ((ch, .inr (0, [.ref y0, .int y1, .ref y2, .ref y3])) :: (tk, .inr (7, [o0, .int k1, .int k2, .int k3, .int k4, .int k5, .int k6, .int k7])) :: (tp, .inl (cs.1, 900, .inl ft)) :: (tm, .inl (cs.2.1, 900, .inl f3)) :: X) H := hH
  refine W.widen (k := cells) (n := slots) (Nat.le_refl _) (Nat.le_refl _) ?_
  have hO := okc hO9 t_ch t_tk t_tp t_tm
  refine lv_pop hx hb dL_law_1358 rfl ?_
  refine lv_aload_n hx hb dL_law_1359 rfl (lv_at hl 2 rfl) ?_
  refine lv_aload_n hx hb dL_law_1360 rfl (lv_at hl 0 rfl) ?_
  refine lv_iload_n hx hb dL_law_1361 rfl (lv_at hl 3 rfl) ?_
  refine lv_iconst (v := 1) hx hb dL_law_1362 (by decide) ?_
  refine lv_iadd hx hb dL_law_1363 ?_
  refine lv_topi (fun v1363 ev1363 => ?_)
  have tv1363 : v1363.toInt = x3.toInt + (1) := by rw [ev1363]; exact add_i rfl (by decide : (1 : Int32).toInt = 1) (by omega) (by omega)
  refine va_sld hx hb hX hbl hbA hS (in_t (by omega) (by omega)) dL_law_1364 ?_
  refine lv_topi (fun v1364 ev1364 => ?_)
  refine tk_i hH hS hA (tr_V (n := 1) (As := [.int v1364]) hx hb hml hown hts hkb hH (ox_map hOX rfl) hks hE hS hA (s_M_restore l D cs kf T2_1355 (ch :: tk :: tp :: tm :: O) ((ch, .inr (0, [.ref y0, .int y1, .ref y2, .ref y3])) :: (tk, .inr (7, [o0, .int k1, .int k2, .int k3, .int k4, .int k5, .int k6, .int k7])) :: (tp, .inl (cs.1, 900, .inl ft)) :: (tm, .inl (cs.2.1, 900, .inl f3)) :: X) a1 hg M v1364 t_a1 b_hg hU (hO.sub (by decide))) kw_1780 kw_1781 kw_1782 kw_13 kw_1783 (by decide +kernel) ⟨Nat.le_of_ble_eq_true rfl, Nat.le_of_ble_eq_true rfl⟩ (HT.recv (ci := 12) hkb hH t_a1 (hO.no t_a1 (by decide)) rfl) rfl rfl hl.1 (Nat.le_of_ble_eq_true rfl) dL_law_1365 ⟨by show cells + 0 ≤ 600000; omega, by show slots + 0 ≤ 7302250; omega⟩) (fun v1365 u H locs hz9 hH hS => ?_)
  obtain ⟨T2_1365, hg2_1365, rfl, l_v1365, u_v1365, x_v13650, x_v13651, x_v13652⟩ := hz9
  have hv := hv.rm x_v13650 x_v13651 x_v13652
  have hlx := hlx.rm x_v13650
  obtain ⟨t_a0, t_w, t_a1, b_hg, hU, hU1, t_ch, t_y0, l_y1, u_y1, t_y2, t_y3, hn, hj⟩ := id hv
  obtain ⟨t_tk, t_tp, t_tm, hU7, hU0, hU9⟩ := id hlx
  have hH : HT D cs A T2_1365 (ch :: tk :: tp :: tm :: O) ((ch, .inr (0, [.ref y0, .int y1, .ref y2, .ref y3])) :: (tk, .inr (7, [o0, .int k1, .int k2, .int k3, .int k4, .int k5, .int k6, .int k7])) :: (tp, .inl (cs.1, 900, .inl ft)) :: (tm, .inl (cs.2.1, 900, .inl f3)) :: X) H := hH
  refine W.widen (k := cells) (n := slots) (Nat.le_refl _) (Nat.le_refl _) ?_
  have hO := okc hO9 t_ch t_tk t_tp t_tm
  refine lv_pop hx hb dL_law_1368 rfl ?_
  refine lv_goto (tgt := 1395) hx hb dL_law_1369 (by decide) ?_
  exact kk T2_1365 w2_1355 h2_1355 g2_1355 hg2_1365 G M y0 nn j y1 o0 k1 k2 k3 k4 k5 k6 k7 ft f3 t _ _ _ _ _ hv hlx hlg hlk hr.s hH hS (lv_sub hl [0, 1, 2, 3] rfl)
set_option maxHeartbeats 4000000 in
set_option maxRecDepth 100000 in
/-- count -/
theorem lw_c40 {p : Program} {e : Env} {s : State} {m : MethodId} {below : List Frame} {meth : Method} {c : Code} {Q : State → Prop} (l : Launch) (D : va_G) (cs : CS) (kf : KF) {b L : Nat} {xs : Nat → Int32} (hx : p.tables.exec = Jvm.exec) (hb : c.code = code) (hml : c.maxLocals = 4) (hown : s.vm.findClass R_law = some m.cls) (hts : ∀ w ∈ gw, w.before #[Value.ref b] s = true) (hX : va_X b L xs s s.heap) (hbl : b < s.heap.size) (hkb : kb D (tyc cs) s) (hks : kS kf s) {A : Nat → Prop} (hE : kE kf A s s.heap) (hA : ∀ q, s.heap.size ≤ q → A q) (hbA : ¬ A b) (hL : L ≤ 3072) (O : List Nat) (X : va_W) (hOX0 : ∀ o ∈ O, ∃ (k : Nat) (e : va_E), X[k]? = some (o, e)) (hO9 : O = []) (a0 ch a1 y2 y3 tk tp tm : Nat) (T : TF) (w hw gw hg G M y0 nn j : Nat) (y1 : Int32) (o0 : Value) (k1 k2 k3 k4 k5 k6 k7 : Int32) (ft f3 : Nat → Int32) (t : Tp) (x3 : Int32) (n cells slots : Nat) (H : Heap) (locs : List Loc) (ls : Array Slot) (hv : LV T a0 a1 ch w hw gw hg G M y0 y2 y3 nn j y1) (hlx : LX T tk tp tm) (hlg : LG G M ft f3 t k6 k7) (hlk : LK k1 k2 k3) (hr : RM cells slots n j) (hn512 : n < 512) (l_x3 : 0 ≤ x3.toInt) (u_x3 : x3.toInt + 6 ≤ L) (hH : HT D cs A T (ch :: tk :: tp :: tm :: O) ((ch, .inr (0, [.ref y0, .int y1, .ref y2, .ref y3])) :: (tk, .inr (7, [o0, .int k1, .int k2, .int k3, .int k4, .int k5, .int k6, .int k7])) :: (tp, .inl (cs.1, 900, .inl ft)) :: (tm, .inl (cs.2.1, 900, .inl f3)) :: X) H) (hS : va_S A s.heap H locs) (hl : lv_has ls 4 [(0, .ref b), (1, .ref a0), (2, .ref a1), (3, .int x3)]) (kk : ∀ (T : TF) (w hw gw hg G M y0 nn j : Nat) (y1 : Int32) (o0 : Value) (k1 k2 k3 k4 k5 k6 k7 : Int32) (ft f3 : Nat → Int32) (t : Tp) (cells slots : Nat) (H : Heap) (locs : List Loc) (ls : Array Slot), LV T a0 a1 ch w hw gw hg G M y0 y2 y3 nn j y1 → LX T tk tp tm → LG G M ft f3 t k6 k7 → LK k1 k2 k3 → RM cells slots (n + 1) j → HT D cs A T (ch :: tk :: tp :: tm :: O) ((ch, .inr (0, [.ref y0, .int y1, .ref y2, .ref y3])) :: (tk, .inr (7, [o0, .int k1, .int k2, .int k3, .int k4, .int k5, .int k6, .int k7])) :: (tp, .inl (cs.1, 900, .inl ft)) :: (tm, .inl (cs.2.1, 900, .inl f3)) :: X) H → va_S A s.heap H locs → lv_has ls 4 [(0, .ref b), (1, .ref a0), (2, .ref a1), (3, .int x3)] → W p l e room_1 s m #[Value.ref b] below meth c H locs cells slots Q (F0 m 1395 ls [])) : W p l e room_1 s m #[Value.ref b] below meth c H locs cells slots Q (F0 m 1372 ls []) := by
  obtain ⟨t_a0, t_w, t_a1, b_hg, hU, hU1, t_ch, t_y0, l_y1, u_y1, t_y2, t_y3, hn, hj⟩ := id hv
  obtain ⟨t_tk, t_tp, t_tm, hU7, hU0, hU9⟩ := id hlx
  obtain ⟨lk1, lk2, lk3, lk4, lk5, lk6⟩ := id hlk
  have hO := okc hO9 t_ch t_tk t_tp t_tm
  obtain ⟨hr1, hr2⟩ := id hr
  have hOX : ∀ o ∈ (ch :: tk :: tp :: tm :: O), ∃ (k : Nat) (e : va_E), ((ch, .inr (0, [.ref y0, .int y1, .ref y2, .ref y3])) :: (tk, .inr (7, [o0, .int k1, .int k2, .int k3, .int k4, .int k5, .int k6, .int k7])) :: (tp, .inl (cs.1, 900, .inl ft)) :: (tm, .inl (cs.2.1, 900, .inl f3)) :: X)[k]? = some (o, e) := ox_c (ox_c (ox_c (ox_c hOX0)))
  have hOXf := hOX
  have b1_w := t_w.2.1
  have b2_w := t_w.2.2
  refine lv_aload_n hx hb dL_law_1372 rfl (lv_at hl 1 rfl) ?_
  refine lv_aload_n hx hb dL_law_1373 rfl (lv_at hl 0 rfl) ?_
  refine lv_iload_n hx hb dL_law_1374 rfl (lv_at hl 3 rfl) ?_
  refine lv_iconst (v := 1) hx hb dL_law_1375 (by decide) ?_
  refine lv_iadd hx hb dL_law_1376 ?_
  refine lv_topi (fun v1376 ev1376 => ?_)
  have tv1376 : v1376.toInt = x3.toInt + (1) := by rw [ev1376]; exact add_i rfl (by decide : (1 : Int32).toInt = 1) (by omega) (by omega)
  refine va_sld hx hb hX hbl hbA hS (in_t (by omega) (by omega)) dL_law_1377 ?_
  refine lv_topi (fun v1377 ev1377 => ?_)
  refine tk_i hH hS hA (tr_V (n := 1) (As := [.int v1377]) hx hb hml hown hts hkb hH (ox_map hOX rfl) hks hE hS hA (s_FW_count l D cs kf T (ch :: tk :: tp :: tm :: O) ((ch, .inr (0, [.ref y0, .int y1, .ref y2, .ref y3])) :: (tk, .inr (7, [o0, .int k1, .int k2, .int k3, .int k4, .int k5, .int k6, .int k7])) :: (tp, .inl (cs.1, 900, .inl ft)) :: (tm, .inl (cs.2.1, 900, .inl f3)) :: X) a0 w hw gw ch G v1377 t_a0 t_w t_ch (hO.sub (by decide))) kw_1209 kw_1210 kw_1211 kw_1 kw_1212 (by decide +kernel) ⟨Nat.le_of_ble_eq_true rfl, Nat.le_of_ble_eq_true rfl⟩ (HT.recv (ci := 11) hkb hH t_a0 (hO.no t_a0 (by decide)) rfl) rfl rfl hl.1 (Nat.le_of_ble_eq_true rfl) dL_law_1378 ⟨by show cells + 0 ≤ 600000; omega, by show slots + 0 ≤ 7302250; omega⟩) (fun v1378 u H locs hz9 hH hS => ?_)
  have hz9 : u = (T, ch :: tk :: tp :: tm :: O, (ch, .inr (0, [.ref y0, .int y1, .ref y2, .ref y3])) :: (tk, .inr (7, [o0, .int k1, .int k2, .int k3, .int k4, .int k5, .int k6, .int k7])) :: (tp, .inl (cs.1, 900, .inl ft)) :: (tm, .inl (cs.2.1, 900, .inl f3)) :: X) := hz9
  subst hz9
  have hH : HT D cs A T (ch :: tk :: tp :: tm :: O) ((ch, .inr (0, [.ref y0, .int y1, .ref y2, .ref y3])) :: (tk, .inr (7, [o0, .int k1, .int k2, .int k3, .int k4, .int k5, .int k6, .int k7])) :: (tp, .inl (cs.1, 900, .inl ft)) :: (tm, .inl (cs.2.1, 900, .inl f3)) :: X) H := hH
  refine W.widen (k := cells) (n := slots) (Nat.le_refl _) (Nat.le_refl _) ?_
  refine lv_pop hx hb dL_law_1381 rfl ?_
  refine lv_aload_n hx hb dL_law_1382 rfl (lv_at hl 2 rfl) ?_
  refine lv_aload_n hx hb dL_law_1383 rfl (lv_at hl 0 rfl) ?_
  refine lv_iload_n hx hb dL_law_1384 rfl (lv_at hl 3 rfl) ?_
  refine lv_iconst (v := 1) hx hb dL_law_1385 (by decide) ?_
  refine lv_iadd hx hb dL_law_1386 ?_
  refine lv_topi (fun v1386 ev1386 => ?_)
  have tv1386 : v1386.toInt = x3.toInt + (1) := by rw [ev1386]; exact add_i rfl (by decide : (1 : Int32).toInt = 1) (by omega) (by omega)
  refine va_sld hx hb hX hbl hbA hS (in_t (by omega) (by omega)) dL_law_1387 ?_
  refine lv_topi (fun v1387 ev1387 => ?_)
  refine tk_i hH hS hA (tr_V (n := 1) (As := [.int v1387]) hx hb hml hown hts hkb hH (ox_map hOX rfl) hks hE hS hA (s_M_count l D cs kf T (ch :: tk :: tp :: tm :: O) ((ch, .inr (0, [.ref y0, .int y1, .ref y2, .ref y3])) :: (tk, .inr (7, [o0, .int k1, .int k2, .int k3, .int k4, .int k5, .int k6, .int k7])) :: (tp, .inl (cs.1, 900, .inl ft)) :: (tm, .inl (cs.2.1, 900, .inl f3)) :: X) a1 hg M v1387 t_a1 b_hg (hO.sub (by decide))) kw_1784 kw_1785 kw_1786 kw_13 kw_1787 (by decide +kernel) ⟨Nat.le_of_ble_eq_true rfl, Nat.le_of_ble_eq_true rfl⟩ (HT.recv (ci := 12) hkb hH t_a1 (hO.no t_a1 (by decide)) rfl) rfl rfl hl.1 (Nat.le_of_ble_eq_true rfl) dL_law_1388 ⟨by show cells + 0 ≤ 600000; omega, by show slots + 0 ≤ 7302250; omega⟩) (fun v1388 u H locs hz9 hH hS => ?_)
  have hz9 : u = (T, ch :: tk :: tp :: tm :: O, (ch, .inr (0, [.ref y0, .int y1, .ref y2, .ref y3])) :: (tk, .inr (7, [o0, .int k1, .int k2, .int k3, .int k4, .int k5, .int k6, .int k7])) :: (tp, .inl (cs.1, 900, .inl ft)) :: (tm, .inl (cs.2.1, 900, .inl f3)) :: X) := hz9
  subst hz9
  have hH : HT D cs A T (ch :: tk :: tp :: tm :: O) ((ch, .inr (0, [.ref y0, .int y1, .ref y2, .ref y3])) :: (tk, .inr (7, [o0, .int k1, .int k2, .int k3, .int k4, .int k5, .int k6, .int k7])) :: (tp, .inl (cs.1, 900, .inl ft)) :: (tm, .inl (cs.2.1, 900, .inl f3)) :: X) H := hH
  refine W.widen (k := cells) (n := slots) (Nat.le_refl _) (Nat.le_refl _) ?_
  refine lv_pop hx hb dL_law_1391 rfl ?_
  refine lv_goto (tgt := 1395) hx hb dL_law_1392 (by decide) ?_
  exact kk T w hw gw hg G M y0 nn j y1 o0 k1 k2 k3 k4 k5 k6 k7 ft f3 t _ _ _ _ _ hv hlx hlg hlk hr.s hH hS (lv_sub hl [0, 1, 2, 3] rfl)
/-! the String constants at the start -/
def stl : List (String × Nat) := [("FootholdWall$Tokens", 53), ("FootholdWall$Reader", 81), ("FootholdWall$Reader", 141), ("FootholdWall$Reader", 142), ("FootholdWall$Reader", 147), ("FootholdWall$Reader", 152), ("FootholdWall$Reader", 90), ("FootholdWall$Reader", 160), ("FootholdWall$Reader", 170), ("FootholdWall$Reader", 95), ("FootholdWall$LawReader", 65), ("FootholdWall$LawReader", 99), ("FootholdWall$LawReader", 101), ("FootholdWall$LawReader", 103), ("FootholdWall$LawReader", 111), ("FootholdWall$LawReader", 63), ("FootholdWall$LawReader", 41), ("FootholdWall$Reader", 103), ("FootholdWall$Reader", 178), ("FootholdWall$Reader", 108), ("FootholdWallModel", 88)]
def stm (i : Nat) : Term := Term.string (stl.getD i ("", 0)).1 (stl.getD i ("", 0)).2
abbrev FLs : List Jvm.Cond := flatC (Jvm.Cond.and given_1 narrow_1)
theorem fl_ex : ∀ i, i < 21 → Cond.exactly (stm i) "java/lang/String" ∈ FLs := by decide +kernel
theorem fl_co : ∀ i, i < 21 → Cond.eq (.field (stm i) "java/lang/String" "coder" "B") (.int 0) ∈ FLs := by decide +kernel
theorem fl_ar : ∀ i, i < 21 → Cond.arrayOf (.field (stm i) "java/lang/String" "value" "[B") .byte ∈ FLs := by decide +kernel
theorem fl_le : ∀ i, i < 21 → Cond.eq (.length (.field (stm i) "java/lang/String" "value" "[B")) (.int (Int32.ofNat (slen.getD i 0))) ∈ FLs := by decide +kernel
theorem fl_el_0_0 : ∀ j, j < 12 → FLs[65 + j]? = some (Cond.eq (.elem (.field (stm 0) "java/lang/String" "value" "[B") (.int (Int32.ofNat (0 + j)))) (.int ((sbyt.getD 0 []).getD (0 + j) 0))) := by decide +kernel
theorem fl_el_1_0 : ∀ j, j < 4 → FLs[81 + j]? = some (Cond.eq (.elem (.field (stm 1) "java/lang/String" "value" "[B") (.int (Int32.ofNat (0 + j)))) (.int ((sbyt.getD 1 []).getD (0 + j) 0))) := by decide +kernel
theorem fl_el_2_0 : ∀ j, j < 3 → FLs[89 + j]? = some (Cond.eq (.elem (.field (stm 2) "java/lang/String" "value" "[B") (.int (Int32.ofNat (0 + j)))) (.int ((sbyt.getD 2 []).getD (0 + j) 0))) := by decide +kernel
theorem fl_el_3_0 : ∀ j, j < 5 → FLs[96 + j]? = some (Cond.eq (.elem (.field (stm 3) "java/lang/String" "value" "[B") (.int (Int32.ofNat (0 + j)))) (.int ((sbyt.getD 3 []).getD (0 + j) 0))) := by decide +kernel
theorem fl_el_4_0 : ∀ j, j < 3 → FLs[105 + j]? = some (Cond.eq (.elem (.field (stm 4) "java/lang/String" "value" "[B") (.int (Int32.ofNat (0 + j)))) (.int ((sbyt.getD 4 []).getD (0 + j) 0))) := by decide +kernel
theorem fl_el_5_0 : ∀ j, j < 4 → FLs[112 + j]? = some (Cond.eq (.elem (.field (stm 5) "java/lang/String" "value" "[B") (.int (Int32.ofNat (0 + j)))) (.int ((sbyt.getD 5 []).getD (0 + j) 0))) := by decide +kernel
theorem fl_el_6_0 : ∀ j, j < 5 → FLs[120 + j]? = some (Cond.eq (.elem (.field (stm 6) "java/lang/String" "value" "[B") (.int (Int32.ofNat (0 + j)))) (.int ((sbyt.getD 6 []).getD (0 + j) 0))) := by decide +kernel
theorem fl_el_7_0 : ∀ j, j < 3 → FLs[129 + j]? = some (Cond.eq (.elem (.field (stm 7) "java/lang/String" "value" "[B") (.int (Int32.ofNat (0 + j)))) (.int ((sbyt.getD 7 []).getD (0 + j) 0))) := by decide +kernel
theorem fl_el_8_0 : ∀ j, j < 6 → FLs[136 + j]? = some (Cond.eq (.elem (.field (stm 8) "java/lang/String" "value" "[B") (.int (Int32.ofNat (0 + j)))) (.int ((sbyt.getD 8 []).getD (0 + j) 0))) := by decide +kernel
theorem fl_el_9_0 : ∀ j, j < 4 → FLs[146 + j]? = some (Cond.eq (.elem (.field (stm 9) "java/lang/String" "value" "[B") (.int (Int32.ofNat (0 + j)))) (.int ((sbyt.getD 9 []).getD (0 + j) 0))) := by decide +kernel
theorem fl_el_10_0 : ∀ j, j < 3 → FLs[154 + j]? = some (Cond.eq (.elem (.field (stm 10) "java/lang/String" "value" "[B") (.int (Int32.ofNat (0 + j)))) (.int ((sbyt.getD 10 []).getD (0 + j) 0))) := by decide +kernel
theorem fl_el_11_0 : ∀ j, j < 2 → FLs[161 + j]? = some (Cond.eq (.elem (.field (stm 11) "java/lang/String" "value" "[B") (.int (Int32.ofNat (0 + j)))) (.int ((sbyt.getD 11 []).getD (0 + j) 0))) := by decide +kernel
theorem fl_el_12_0 : ∀ j, j < 2 → FLs[167 + j]? = some (Cond.eq (.elem (.field (stm 12) "java/lang/String" "value" "[B") (.int (Int32.ofNat (0 + j)))) (.int ((sbyt.getD 12 []).getD (0 + j) 0))) := by decide +kernel
theorem fl_el_13_0 : ∀ j, j < 3 → FLs[173 + j]? = some (Cond.eq (.elem (.field (stm 13) "java/lang/String" "value" "[B") (.int (Int32.ofNat (0 + j)))) (.int ((sbyt.getD 13 []).getD (0 + j) 0))) := by decide +kernel
theorem fl_el_14_0 : ∀ j, j < 3 → FLs[208 + j]? = some (Cond.eq (.elem (.field (stm 14) "java/lang/String" "value" "[B") (.int (Int32.ofNat (0 + j)))) (.int ((sbyt.getD 14 []).getD (0 + j) 0))) := by decide +kernel
theorem fl_el_15_0 : ∀ j, j < 3 → FLs[215 + j]? = some (Cond.eq (.elem (.field (stm 15) "java/lang/String" "value" "[B") (.int (Int32.ofNat (0 + j)))) (.int ((sbyt.getD 15 []).getD (0 + j) 0))) := by decide +kernel
theorem fl_el_16_0 : ∀ j, j < 2 → FLs[222 + j]? = some (Cond.eq (.elem (.field (stm 16) "java/lang/String" "value" "[B") (.int (Int32.ofNat (0 + j)))) (.int ((sbyt.getD 16 []).getD (0 + j) 0))) := by decide +kernel
theorem fl_el_17_0 : ∀ j, j < 4 → FLs[228 + j]? = some (Cond.eq (.elem (.field (stm 17) "java/lang/String" "value" "[B") (.int (Int32.ofNat (0 + j)))) (.int ((sbyt.getD 17 []).getD (0 + j) 0))) := by decide +kernel
theorem fl_el_18_0 : ∀ j, j < 2 → FLs[236 + j]? = some (Cond.eq (.elem (.field (stm 18) "java/lang/String" "value" "[B") (.int (Int32.ofNat (0 + j)))) (.int ((sbyt.getD 18 []).getD (0 + j) 0))) := by decide +kernel
theorem fl_el_19_0 : ∀ j, j < 6 → FLs[242 + j]? = some (Cond.eq (.elem (.field (stm 19) "java/lang/String" "value" "[B") (.int (Int32.ofNat (0 + j)))) (.int ((sbyt.getD 19 []).getD (0 + j) 0))) := by decide +kernel
theorem fl_el_20_0 : ∀ j, j < 16 → FLs[260 + j]? = some (Cond.eq (.elem (.field (stm 20) "java/lang/String" "value" "[B") (.int (Int32.ofNat (0 + j)))) (.int ((sbyt.getD 20 []).getD (0 + j) 0))) := by decide +kernel
theorem fl_el_20_16 : ∀ j, j < 16 → FLs[276 + j]? = some (Cond.eq (.elem (.field (stm 20) "java/lang/String" "value" "[B") (.int (Int32.ofNat (16 + j)))) (.int ((sbyt.getD 20 []).getD (16 + j) 0))) := by decide +kernel
theorem fl_el_20_32 : ∀ j, j < 16 → FLs[292 + j]? = some (Cond.eq (.elem (.field (stm 20) "java/lang/String" "value" "[B") (.int (Int32.ofNat (32 + j)))) (.int ((sbyt.getD 20 []).getD (32 + j) 0))) := by decide +kernel
theorem fl_el_20_48 : ∀ j, j < 16 → FLs[308 + j]? = some (Cond.eq (.elem (.field (stm 20) "java/lang/String" "value" "[B") (.int (Int32.ofNat (48 + j)))) (.int ((sbyt.getD 20 []).getD (48 + j) 0))) := by decide +kernel
theorem fl_el_20_64 : ∀ j, j < 16 → FLs[324 + j]? = some (Cond.eq (.elem (.field (stm 20) "java/lang/String" "value" "[B") (.int (Int32.ofNat (64 + j)))) (.int ((sbyt.getD 20 []).getD (64 + j) 0))) := by decide +kernel
theorem fl_el_20_80 : ∀ j, j < 7 → FLs[340 + j]? = some (Cond.eq (.elem (.field (stm 20) "java/lang/String" "value" "[B") (.int (Int32.ofNat (80 + j)))) (.int ((sbyt.getD 20 []).getD (80 + j) 0))) := by decide +kernel
theorem fl_el : ∀ i, i < 21 → ∀ j, j < slen.getD i 0 → Cond.eq (.elem (.field (stm i) "java/lang/String" "value" "[B") (.int (Int32.ofNat j))) (.int ((sbyt.getD i []).getD j 0)) ∈ FLs := by
  intro i hi j hj
  match i, hi, hj with
  | 0, _, hj =>
    have hj : j < 12 := hj
    obtain ⟨k, rfl⟩ : ∃ k, j = 0 + k := ⟨j - 0, by omega⟩
    exact List.mem_of_getElem? (fl_el_0_0 k (by omega))
  | 1, _, hj =>
    have hj : j < 4 := hj
    obtain ⟨k, rfl⟩ : ∃ k, j = 0 + k := ⟨j - 0, by omega⟩
    exact List.mem_of_getElem? (fl_el_1_0 k (by omega))
  | 2, _, hj =>
    have hj : j < 3 := hj
    obtain ⟨k, rfl⟩ : ∃ k, j = 0 + k := ⟨j - 0, by omega⟩
    exact List.mem_of_getElem? (fl_el_2_0 k (by omega))
  | 3, _, hj =>
    have hj : j < 5 := hj
    obtain ⟨k, rfl⟩ : ∃ k, j = 0 + k := ⟨j - 0, by omega⟩
    exact List.mem_of_getElem? (fl_el_3_0 k (by omega))
  | 4, _, hj =>
    have hj : j < 3 := hj
    obtain ⟨k, rfl⟩ : ∃ k, j = 0 + k := ⟨j - 0, by omega⟩
    exact List.mem_of_getElem? (fl_el_4_0 k (by omega))
  | 5, _, hj =>
    have hj : j < 4 := hj
    obtain ⟨k, rfl⟩ : ∃ k, j = 0 + k := ⟨j - 0, by omega⟩
    exact List.mem_of_getElem? (fl_el_5_0 k (by omega))
  | 6, _, hj =>
    have hj : j < 5 := hj
    obtain ⟨k, rfl⟩ : ∃ k, j = 0 + k := ⟨j - 0, by omega⟩
    exact List.mem_of_getElem? (fl_el_6_0 k (by omega))
  | 7, _, hj =>
    have hj : j < 3 := hj
    obtain ⟨k, rfl⟩ : ∃ k, j = 0 + k := ⟨j - 0, by omega⟩
    exact List.mem_of_getElem? (fl_el_7_0 k (by omega))
  | 8, _, hj =>
    have hj : j < 6 := hj
    obtain ⟨k, rfl⟩ : ∃ k, j = 0 + k := ⟨j - 0, by omega⟩
    exact List.mem_of_getElem? (fl_el_8_0 k (by omega))
  | 9, _, hj =>
    have hj : j < 4 := hj
    obtain ⟨k, rfl⟩ : ∃ k, j = 0 + k := ⟨j - 0, by omega⟩
    exact List.mem_of_getElem? (fl_el_9_0 k (by omega))
  | 10, _, hj =>
    have hj : j < 3 := hj
    obtain ⟨k, rfl⟩ : ∃ k, j = 0 + k := ⟨j - 0, by omega⟩
    exact List.mem_of_getElem? (fl_el_10_0 k (by omega))
  | 11, _, hj =>
    have hj : j < 2 := hj
    obtain ⟨k, rfl⟩ : ∃ k, j = 0 + k := ⟨j - 0, by omega⟩
    exact List.mem_of_getElem? (fl_el_11_0 k (by omega))
  | 12, _, hj =>
    have hj : j < 2 := hj
    obtain ⟨k, rfl⟩ : ∃ k, j = 0 + k := ⟨j - 0, by omega⟩
    exact List.mem_of_getElem? (fl_el_12_0 k (by omega))
  | 13, _, hj =>
    have hj : j < 3 := hj
    obtain ⟨k, rfl⟩ : ∃ k, j = 0 + k := ⟨j - 0, by omega⟩
    exact List.mem_of_getElem? (fl_el_13_0 k (by omega))
  | 14, _, hj =>
    have hj : j < 3 := hj
    obtain ⟨k, rfl⟩ : ∃ k, j = 0 + k := ⟨j - 0, by omega⟩
    exact List.mem_of_getElem? (fl_el_14_0 k (by omega))
  | 15, _, hj =>
    have hj : j < 3 := hj
    obtain ⟨k, rfl⟩ : ∃ k, j = 0 + k := ⟨j - 0, by omega⟩
    exact List.mem_of_getElem? (fl_el_15_0 k (by omega))
  | 16, _, hj =>
    have hj : j < 2 := hj
    obtain ⟨k, rfl⟩ : ∃ k, j = 0 + k := ⟨j - 0, by omega⟩
    exact List.mem_of_getElem? (fl_el_16_0 k (by omega))
  | 17, _, hj =>
    have hj : j < 4 := hj
    obtain ⟨k, rfl⟩ : ∃ k, j = 0 + k := ⟨j - 0, by omega⟩
    exact List.mem_of_getElem? (fl_el_17_0 k (by omega))
  | 18, _, hj =>
    have hj : j < 2 := hj
    obtain ⟨k, rfl⟩ : ∃ k, j = 0 + k := ⟨j - 0, by omega⟩
    exact List.mem_of_getElem? (fl_el_18_0 k (by omega))
  | 19, _, hj =>
    have hj : j < 6 := hj
    obtain ⟨k, rfl⟩ : ∃ k, j = 0 + k := ⟨j - 0, by omega⟩
    exact List.mem_of_getElem? (fl_el_19_0 k (by omega))
  | 20, _, hj =>
    have hj : j < 87 := hj
    by_cases c0 : j < 16
    · obtain ⟨k, rfl⟩ : ∃ k, j = 0 + k := ⟨j - 0, by omega⟩
      exact List.mem_of_getElem? (fl_el_20_0 k (by omega))
    by_cases c16 : j < 32
    · obtain ⟨k, rfl⟩ : ∃ k, j = 16 + k := ⟨j - 16, by omega⟩
      exact List.mem_of_getElem? (fl_el_20_16 k (by omega))
    by_cases c32 : j < 48
    · obtain ⟨k, rfl⟩ : ∃ k, j = 32 + k := ⟨j - 32, by omega⟩
      exact List.mem_of_getElem? (fl_el_20_32 k (by omega))
    by_cases c48 : j < 64
    · obtain ⟨k, rfl⟩ : ∃ k, j = 48 + k := ⟨j - 48, by omega⟩
      exact List.mem_of_getElem? (fl_el_20_48 k (by omega))
    by_cases c64 : j < 80
    · obtain ⟨k, rfl⟩ : ∃ k, j = 64 + k := ⟨j - 64, by omega⟩
      exact List.mem_of_getElem? (fl_el_20_64 k (by omega))
    obtain ⟨k, rfl⟩ : ∃ k, j = 80 + k := ⟨j - 80, by omega⟩
    exact List.mem_of_getElem? (fl_el_20_80 k (by omega))
  | i + 21, hi, _ => exact absurd hi (by omega)
theorem st_dif : ∀ i, i < 21 → ∀ j, j < 21 → i ≠ j → Int32.ofNat (slen.getD i 0) ≠ Int32.ofNat (slen.getD j 0) ∨ ∃ k, k < slen.getD i 0 ∧ k < slen.getD j 0 ∧ (sbyt.getD i []).getD k 0 ≠ (sbyt.getD j []).getD k 0 := by decide +kernel
theorem eq_iv {args : Array Value} {s : State} {a : Term} {n : Int32} (h : (Cond.eq a (.int n)).before args s = true) : a.eval args s none [] s = some (.int n) := by
  have hb : (Term.int n).eval args s none [] s = some (.int n) := rfl
  simp only [Cond.before, Cond.holds, Cond.value, hb] at h
  cases ha : a.eval args s none [] s with
  | none => simp [ha] at h
  | some x => cases x <;> simp [ha] at h ⊢ <;> exact h
theorem eq_rv {args : Array Value} {s : State} {a b : Term} {x : Nat} (h : (Cond.eq a b).before args s = true) (ha : a.eval args s none [] s = some (.ref x)) : b.eval args s none [] s = some (.ref x) := by
  simp only [Cond.before, Cond.holds, Cond.value, ha] at h
  cases hb : b.eval args s none [] s with
  | none => simp [hb] at h
  | some y => cases y <;> simp [hb] at h ⊢ <;> exact h.symm
theorem st_ne {args : Array Value} {s : State} (hs : ∀ c ∈ FLs, c.before args s = true) (i j : Nat) (hi : i < 21) (hj : j < 21) (hne : i ≠ j) : (Cond.not (Cond.eq (stm i) (stm j))).before args s = true := by
  obtain ⟨a, -, -, -, ha, -⟩ := Cond.exactly_spec (hs _ (fl_ex i hi))
  obtain ⟨b, -, -, -, hb, -⟩ := Cond.exactly_spec (hs _ (fl_ex j hj))
  have hab : a ≠ b := by
    intro q
    subst q
    have he : (stm i).eval args s none [] s = (stm j).eval args s none [] s := ha.trans hb.symm
    rcases st_dif i hi j hj hne with h | ⟨k, h1, h2, h3⟩
    · have e1 := eq_iv (hs _ (fl_le i hi))
      have e2 := eq_iv (hs _ (fl_le j hj))
      have e3 : (Term.length (.field (stm i) "java/lang/String" "value" "[B")).eval args s none [] s = (Term.length (.field (stm j) "java/lang/String" "value" "[B")).eval args s none [] s := by simp only [Term.eval, he]
      rw [e1, e2] at e3
      exact h (Value.int.inj (Option.some.inj e3))
    · have e1 := eq_iv (hs _ (fl_el i hi k h1))
      have e2 := eq_iv (hs _ (fl_el j hj k h2))
      have e3 : (Term.elem (.field (stm i) "java/lang/String" "value" "[B") (.int (Int32.ofNat k))).eval args s none [] s = (Term.elem (.field (stm j) "java/lang/String" "value" "[B") (.int (Int32.ofNat k))).eval args s none [] s := by simp only [Term.eval, he]
      rw [e1, e2] at e3
      exact h3 (Value.int.inj (Option.some.inj e3))
  simp [Cond.before, Cond.holds, Cond.value, ha, hb, hab]
set_option maxRecDepth 100000 in
set_option maxHeartbeats 4000000 in
theorem str_start {args : Array Value} {s : State} {A : Nat → Prop} (hgv : (Jvm.Cond.and given_1 narrow_1).before args s = true) (hts0 : ∀ w ∈ lw_tbl, w.before args s = true) (hts : ∀ w ∈ gw, w.before args s = true) (hA : ∀ a : Nat, a < s.heap.size → ¬ A a) : ∃ kf : KF, kS kf s ∧ kE kf A s s.heap := by
  have hs : ∀ c ∈ FLs, c.before args s = true := flat_of_before _ hgv
  obtain ⟨adK, adV, hK, hev⟩ := vk_Sof (args := args) (s := s) (N := 21) (tm := stm) (len := slen) (byt := sbyt) (A := A) (fun i hi => by have := slen_b i; omega) (fun i hi => hs _ (fl_ex i hi)) (fun i hi => hs _ (fl_co i hi)) (fun i hi => hs _ (fl_ar i hi)) (fun i hi => hs _ (fl_le i hi)) (fun i hi j hj => hs _ (fl_el i hi j hj)) (fun i j hi hj hne => Or.inl (st_ne hs i j hi hj hne)) hA
  have e1 := eq_iv (hs (Cond.eq (.static "java/lang/String" "COMPACT_STRINGS" "Z") (.int 1)) (by decide +kernel))
  have z1 := va_Zof (A := A) (hts0 (Cond.laysStatic "java/lang/String" "COMPACT_STRINGS" "Z") (tb_of 476 (by decide +kernel))) (hts _ kw_14) e1 hA
  have z2 := va_Zqof (A := A) (hts0 (Cond.laysStatic "jdk/internal/util/Preconditions" "SIOOBE_FORMATTER" "Ljava/util/function/BiFunction;") (tb_of 515 (by decide +kernel))) (hts _ kw_17) (hs (Cond.isRef (.static "jdk/internal/util/Preconditions" "SIOOBE_FORMATTER" "Ljava/util/function/BiFunction;")) (by decide +kernel)) hA
  have z3 : ∃ fo : Option Nat, va_Z "jdk/internal/util/Preconditions" "SIOOBE_FORMATTER" "Ljava/util/function/BiFunction;" (va_rf fo) A s s.heap := by
    rcases z2 with z2 | ⟨t, z2⟩
    · exact ⟨none, z2⟩
    · exact ⟨some t, z2⟩
  refine ⟨(adK, adV), ?_, hK, z1, z3⟩
  have r0 := vk_R.of (hts0 (Cond.stringRef "FootholdWall$Tokens" 53 ";:+-*()[]=<>") (tb_of 462 (by decide +kernel))) (hev 0 (by decide))
  have r1 := vk_R.of (hts0 (Cond.stringRef "FootholdWall$Reader" 81 "hold") (tb_of 549 (by decide +kernel))) (hev 1 (by decide))
  have r2 := vk_R.of (hts0 (Cond.stringRef "FootholdWall$Reader" 141 "ice") (tb_of 593 (by decide +kernel))) (hev 2 (by decide))
  have r3 := vk_R.of (hts0 (Cond.stringRef "FootholdWall$Reader" 142 "start") (tb_of 594 (by decide +kernel))) (hev 3 (by decide))
  have r4 := vk_R.of (hts0 (Cond.stringRef "FootholdWall$Reader" 147 "top") (tb_of 595 (by decide +kernel))) (hev 4 (by decide))
  have r5 := vk_R.of (hts0 (Cond.stringRef "FootholdWall$Reader" 152 "wide") (tb_of 596 (by decide +kernel))) (hev 5 (by decide))
  have r6 := vk_R.of (hts0 (Cond.stringRef "FootholdWall$Reader" 90 "guide") (tb_of 597 (by decide +kernel))) (hev 6 (by decide))
  have r7 := vk_R.of (hts0 (Cond.stringRef "FootholdWall$Reader" 160 "leg") (tb_of 602 (by decide +kernel))) (hev 7 (by decide))
  have r8 := vk_R.of (hts0 (Cond.stringRef "FootholdWall$Reader" 170 "weight") (tb_of 608 (by decide +kernel))) (hev 8 (by decide))
  have r9 := vk_R.of (hts0 (Cond.stringRef "FootholdWall$Reader" 95 "step") (tb_of 609 (by decide +kernel))) (hev 9 (by decide))
  have r10 := vk_R.of (hts0 (Cond.stringRef "FootholdWall$LawReader" 65 "not") (tb_of 634 (by decide +kernel))) (hev 10 (by decide))
  have r11 := vk_R.of (hts0 (Cond.stringRef "FootholdWall$LawReader" 99 "dx") (tb_of 664 (by decide +kernel))) (hev 11 (by decide))
  have r12 := vk_R.of (hts0 (Cond.stringRef "FootholdWall$LawReader" 101 "up") (tb_of 665 (by decide +kernel))) (hev 12 (by decide))
  have r13 := vk_R.of (hts0 (Cond.stringRef "FootholdWall$LawReader" 103 "far") (tb_of 666 (by decide +kernel))) (hev 13 (by decide))
  have r14 := vk_R.of (hts0 (Cond.stringRef "FootholdWall$LawReader" 105 "leg") (tb_of 667 (by decide +kernel))) (eq_rv (hs (Cond.eq (.string "FootholdWall$Reader" 160) (.string "FootholdWall$LawReader" 105)) (by decide +kernel)) (hev 7 (by decide)))
  have r15 := vk_R.of (hts0 (Cond.stringRef "FootholdWall$LawReader" 107 "weight") (tb_of 668 (by decide +kernel))) (eq_rv (hs (Cond.eq (.string "FootholdWall$Reader" 170) (.string "FootholdWall$LawReader" 107)) (by decide +kernel)) (hev 8 (by decide)))
  have r16 := vk_R.of (hts0 (Cond.stringRef "FootholdWall$LawReader" 109 "wide") (tb_of 669 (by decide +kernel))) (eq_rv (hs (Cond.eq (.string "FootholdWall$Reader" 152) (.string "FootholdWall$LawReader" 109)) (by decide +kernel)) (hev 5 (by decide)))
  have r17 := vk_R.of (hts0 (Cond.stringRef "FootholdWall$LawReader" 111 "day") (tb_of 670 (by decide +kernel))) (hev 14 (by decide))
  have r18 := vk_R.of (hts0 (Cond.stringRef "FootholdWall$LawReader" 63 "and") (tb_of 671 (by decide +kernel))) (hev 15 (by decide))
  have r19 := vk_R.of (hts0 (Cond.stringRef "FootholdWall$LawReader" 41 "or") (tb_of 676 (by decide +kernel))) (hev 16 (by decide))
  have r20 := vk_R.of (hts0 (Cond.stringRef "FootholdWall$Reader" 103 "used") (tb_of 677 (by decide +kernel))) (hev 17 (by decide))
  have r21 := vk_R.of (hts0 (Cond.stringRef "FootholdWall$Reader" 178 "by") (tb_of 686 (by decide +kernel))) (hev 18 (by decide))
  have r22 := vk_R.of (hts0 (Cond.stringRef "FootholdWall$Reader" 108 "broken") (tb_of 697 (by decide +kernel))) (hev 19 (by decide))
  have r23 := vk_R.of (hts0 (Cond.stringRef "FootholdWall$Reader" 113 "day") (tb_of 706 (by decide +kernel))) (eq_rv (hs (Cond.eq (.string "FootholdWall$LawReader" 111) (.string "FootholdWall$Reader" 113)) (by decide +kernel)) (hev 14 (by decide)))
  have r24 := vk_R.of (hts0 (Cond.stringRef "FootholdWallModel" 88 " hold guide leg weight step used by broken day start top wide ice or and not dx up far ") (tb_of 1359 (by decide +kernel))) (hev 20 (by decide))
  have r25 := vk_R.of (hts0 (Cond.stringRef "FootholdWallModel" 126 ";:+-*()[]=<>") (tb_of 1365 (by decide +kernel))) (eq_rv (hs (Cond.eq (.string "FootholdWall$Tokens" 53) (.string "FootholdWallModel" 126)) (by decide +kernel)) (hev 0 (by decide)))
  exact (List.forall_mem_cons.mpr ⟨r0, (List.forall_mem_cons.mpr ⟨r1, (List.forall_mem_cons.mpr ⟨r2, (List.forall_mem_cons.mpr ⟨r3, (List.forall_mem_cons.mpr ⟨r4, (List.forall_mem_cons.mpr ⟨r5, (List.forall_mem_cons.mpr ⟨r6, (List.forall_mem_cons.mpr ⟨r7, (List.forall_mem_cons.mpr ⟨r8, (List.forall_mem_cons.mpr ⟨r9, (List.forall_mem_cons.mpr ⟨r10, (List.forall_mem_cons.mpr ⟨r11, (List.forall_mem_cons.mpr ⟨r12, (List.forall_mem_cons.mpr ⟨r13, (List.forall_mem_cons.mpr ⟨r14, (List.forall_mem_cons.mpr ⟨r15, (List.forall_mem_cons.mpr ⟨r16, (List.forall_mem_cons.mpr ⟨r17, (List.forall_mem_cons.mpr ⟨r18, (List.forall_mem_cons.mpr ⟨r19, (List.forall_mem_cons.mpr ⟨r20, (List.forall_mem_cons.mpr ⟨r21, (List.forall_mem_cons.mpr ⟨r22, (List.forall_mem_cons.mpr ⟨r23, (List.forall_mem_cons.mpr ⟨r24, (List.forall_mem_cons.mpr ⟨r25, (fun _ h => absurd h List.not_mem_nil)⟩)⟩)⟩)⟩)⟩)⟩)⟩)⟩)⟩)⟩)⟩)⟩)⟩)⟩)⟩)⟩)⟩)⟩)⟩)⟩)⟩)⟩)⟩)⟩)⟩)⟩)
/-! a world of exact cells laid into kinds -/
def tof : va_W → List Tg → TF
  | (b, _) :: w, t :: ts => fun a => if a = b then some t else tof w ts a
  | _, _ => fun _ => none
def agr (T : TF) : va_W → List Tg → Prop
  | (a, _) :: w, t :: ts => T a = some t ∧ agr T w ts
  | [], _ => True
  | _ :: _, [] => True
def sps (cs : CS) (T : TF) : va_W → List Tg → Prop
  | (_, e) :: w, t :: ts => sp cs T t e ∧ sps cs T w ts
  | [], [] => True
  | [], _ :: _ => False
  | _ :: _, [] => False
theorem sps_c {cs : CS} {T : TF} {a : Nat} {e : va_E} {w : va_W} {t : Tg} {ts : List Tg} (h : sp cs T t e) (k : sps cs T w ts) : sps cs T ((a, e) :: w) (t :: ts) := ⟨h, k⟩
theorem sps_n {cs : CS} {T : TF} : sps cs T [] [] := trivial
theorem tof_at : ∀ (W : va_W) (ts : List Tg), (∀ (i j : Nat) (p q : Nat × va_E), W[i]? = some p → W[j]? = some q → p.1 = q.1 → i = j) → ∀ (i a : Nat) (e : va_E) (t : Tg), W[i]? = some (a, e) → ts[i]? = some t → tof W ts a = some t
  | [], _, _, i, a, e, t, h, _ => by simp at h
  | (b, x) :: w, [], _, i, a, e, t, _, h => by simp at h
  | (b, x) :: w, u :: us, hD, 0, a, e, t, h1, h2 => by
    have h1 : some (b, x) = some (a, e) := h1
    have h2 : some u = some t := h2
    cases h1
    cases h2
    show (if b = b then some u else _) = some u
    rw [if_pos rfl]
  | (b, x) :: w, u :: us, hD, i + 1, a, e, t, h1, h2 => by
    have hne : a ≠ b := fun q => absurd (hD (i + 1) 0 (a, e) (b, x) h1 rfl q) (by omega)
    show (if a = b then some u else tof w us a) = some t
    rw [if_neg hne]
    exact tof_at w us (fun i j p q hp hq he => by have := hD (i + 1) (j + 1) p q hp hq he; omega) i a e t h1 h2
theorem tof_in : ∀ (W : va_W) (ts : List Tg) (b : Nat) (tg : Tg), tof W ts b = some tg → ∃ (i : Nat) (e : va_E), W[i]? = some (b, e) ∧ ts[i]? = some tg
  | [], [], b, tg, h => by cases h
  | [], _ :: _, b, tg, h => by cases h
  | _ :: _, [], b, tg, h => by cases h
  | (a, x) :: w, u :: us, b, tg, h => by
    have h : (if b = a then some u else tof w us b) = some tg := h
    by_cases q : b = a
    · rw [if_pos q] at h
      cases h
      exact ⟨0, x, by rw [q]; rfl, rfl⟩
    · rw [if_neg q] at h
      obtain ⟨i, e, h1, h2⟩ := tof_in w us b tg h
      exact ⟨i + 1, e, h1, h2⟩
theorem agr_of (T : TF) : ∀ (W : va_W) (ts : List Tg), (∀ (i a : Nat) (e : va_E) (t : Tg), W[i]? = some (a, e) → ts[i]? = some t → T a = some t) → agr T W ts
  | [], _, _ => by unfold agr; trivial
  | _ :: _, [], _ => by unfold agr; trivial
  | (a, x) :: w, u :: us, h => ⟨h 0 a x u rfl rfl, agr_of T w us (fun i b e t h1 h2 => h (i + 1) b e t h1 h2)⟩
theorem sps_at (cs : CS) (T : TF) : ∀ (W : va_W) (ts : List Tg), sps cs T W ts → ∀ (i a : Nat) (e : va_E) (t : Tg), W[i]? = some (a, e) → ts[i]? = some t → sp cs T t e
  | [], _, _, i, a, e, t, h, _ => by simp at h
  | _ :: _, [], h, _, _, _, _, _, _ => h.elim
  | (b, x) :: w, u :: us, hs, 0, a, e, t, h1, h2 => by
    have h1 : some (b, x) = some (a, e) := h1
    have h2 : some u = some t := h2
    cases h1
    cases h2
    exact hs.1
  | (b, x) :: w, u :: us, hs, i + 1, a, e, t, h1, h2 => sps_at cs T w us hs.2 i a e t h1 h2
theorem sps_len (cs : CS) (T : TF) : ∀ (W : va_W) (ts : List Tg), sps cs T W ts → ∀ (i : Nat) (q : Nat × va_E), W[i]? = some q → ∃ t, ts[i]? = some t
  | [], _, _, i, q, h => by simp at h
  | _ :: _, [], h, _, _, _ => h.elim
  | (b, x) :: w, u :: us, hs, 0, q, h => ⟨u, rfl⟩
  | (b, x) :: w, u :: us, hs, i + 1, q, h => sps_len cs T w us hs.2 i q h
/-- some cells stay exact, all others are laid into their kinds -/
theorem lay_all {D : va_G} {cs : CS} {A : Nat → Prop} {H : Heap} {Y ws : va_W} {yt us : List Tg} {O : List Nat} {W : va_W} {ts : List Tg} (hO : Y.map Prod.fst = O) (hl : yt.length = Y.length) (hW : Y ++ ws = W) (hts : yt ++ us = ts) (hP : va_P D cls W H) (hD : va_D A W) :
    ∃ T : TF, (∀ (i a : Nat) (e : va_E) (t : Tg), W[i]? = some (a, e) → ts[i]? = some t → T a = some t) ∧ (sps cs T ws us → HT D cs A T O Y H) ∧ ∀ (b : Nat) (tg : Tg), T b = some tg → ∃ (i : Nat) (e : va_E), W[i]? = some (b, e) ∧ ts[i]? = some tg := by
  subst hW
  subst hts
  have hat := tof_at (Y ++ ws) (yt ++ us) hD.1
  have hin := tof_in (Y ++ ws) (yt ++ us)
  refine ⟨tof (Y ++ ws) (yt ++ us), hat, fun hs => ⟨ws, hP, hD, fun a tg ha ho => ?_, fun k q hk => ?_⟩, hin⟩
  · obtain ⟨i, e, h1, h2⟩ := hin a tg ha
    by_cases hi : i < Y.length
    · rw [List.getElem?_append_left hi] at h1
      exact absurd (by rw [← hO]; exact List.mem_map_of_mem (f := Prod.fst) (List.mem_of_getElem? h1)) ho
    · rw [List.getElem?_append_right (by omega)] at h1
      rw [List.getElem?_append_right (by omega), hl] at h2
      exact ⟨i - Y.length, e, h1, sps_at _ _ ws us hs _ a e tg h1 h2⟩
  · obtain ⟨t, ht⟩ := sps_len _ _ ws us hs k q hk
    refine ⟨t, hat (Y.length + k) q.1 q.2 t ?_ ?_⟩
    · rw [List.getElem?_append_right (by omega), show Y.length + k - Y.length = k by omega]
      exact hk
    · rw [List.getElem?_append_right (by omega), show Y.length + k - yt.length = k by omega]
      exact ht
theorem TB_0 : TB (fun _ => 0) (fun _ => 0) := fun _ => ⟨show (0 : Int32).toInt = 0 by decide, show (-128 : Int) ≤ 0 by decide, show (0 : Int) ≤ 127 by decide⟩
theorem TM_0 : TM (fun _ => 0) (fun _ => 0) := fun _ => ⟨show (-128 : Int) ≤ 0 by decide, show (0 : Int) ≤ 127 by decide, show (0 : Int32).toInt = if (0 : Int) < 0 then (0 : Int) + 256 else 0 by decide⟩
theorem cz {k : Nat} (h : k < 10) : cp k 0 := by
  have : ∀ j, j < 10 → cpl j ≤ (0 : Int32).toInt ∧ (0 : Int32).toInt ≤ cph j := by decide
  exact this k h
theorem plc_0 {k : Nat} (h : k < 59 ∨ 87 ≤ k) : plc k = 0 := by
  unfold plc plh
  rw [if_neg (by omega)]
theorem B8_plc : B8 3906 plc := fun z hz => S8_plain (fun j _ h => plc_0 (by
  by_cases q : z = 0
  · subst q
    omega
  · omega))
theorem B8_0 : B8 1302 (fun _ => 0) := fun z hz => S8_plain (fun j _ h => rfl)
set_option maxHeartbeats 4000000 in
set_option maxRecDepth 100000 in
theorem lw_lay {D : va_G} {cB cI cJ cZ cS cW cT cR : ClassId} {A : Nat → Prop} {H : Heap} {q_1 q_2 q_3 q_4 q_5 q_6 q_7 q_8 q_9 q_10 q_11 q_12 q_13 q_14 q_15 q_16 q_17 q_18 q_19 q_20 q_21 q_22 q_23 q_24 q_25 q_26 q_27 q_28 q_29 q_30 q_31 q_32 q_33 q_34 q_35 q_36 q_37 q_38 q_39 q_40 q_41 q_42 q_43 q_44 q_45 q_46 q_47 q_48 q_49 q_50 q_51 q_52 q_53 q_54 q_55 q_56 q_57 q_58 q_59 q_60 q_61 q_62 q_63 q_64 q_65 q_66 q_67 q_68 q_69 q_70 q_71 q_72 q_73 q_74 q_75 q_76 q_77 q_78 q_79 q_80 q_81 q_82 q_83 q_84 q_85 q_86 q_87 q_88 q_89 q_90 q_91 q_92 q_93 q_94 q_95 q_96 q_97 q_98 q_99 q_100 q_101 q_102 q_103 q_104 q_105 q_106 q_107 q_108 q_109 q_110 q_111 q_112 q_114 q_115 q_116 q_117 q_118 q_119 q_120 q_121 q_122 q_123 q_124 q_125 q_126 q_127 q_128 q_129 q_130 q_131 q_132 q_133 : Nat} (hP : va_P D cls [(q_1, .inr (11, [.ref q_2, .int 0, .ref q_3, .ref q_4, .ref q_5, .ref q_6, .ref q_7, .int 0, .int 0, .ref q_8, .ref q_9, .ref q_10, .ref q_11, .ref q_12, .ref q_13, .ref q_14, .ref q_15, .ref q_16, .ref q_17, .int (-1)])), (q_2, .inl (cB, 900, .inl (fun _ => 0))), (q_3, .inr (4, [.ref q_18, .ref q_19, .ref q_20, .int 0, .ref q_21])), (q_18, .inr (7, [.ref q_22, .int 0, .int 0, .int 0, .int 0, .int 0, .int 0, .int (-1)])), (q_22, .inl (cB, 0, .inl (fun _ => 0))), (q_19, .inr (3, [.ref q_18, .ref q_23, .int 0])), (q_23, .inl (cI, 900, .inl (fun _ => 0))), (q_20, .inr (9, [.int 14, .int 5, .int 0, .int 0, .int 0, .int 0, .ref q_24, .ref q_25, .ref q_26, .ref q_27, .ref q_28, .null, .int 0, .int 1])), (q_24, .inl (cI, 14, .inl (fun _ => 0))), (q_25, .inl (cI, 14, .inl (fun _ => 0))), (q_26, .inl (cI, 14, .inl (fun _ => 0))), (q_27, .inl (cI, 5, .inl (fun _ => 0))), (q_28, .inl (cI, 5, .inl (fun _ => 0))), (q_21, .inr (6, [.int 0, .int 0, .int 0, .int 0, .ref q_29, .ref q_30])), (q_29, .inl (cI, 14, .inl (fun _ => 0))), (q_30, .inl (cI, 14, .inl (fun _ => 0))), (q_4, .inr (9, [.int 0, .int 0, .int 0, .int 0, .int 0, .int 0, .ref q_31, .ref q_32, .ref q_33, .ref q_34, .ref q_35, .null, .int 0, .int 1])), (q_31, .inl (cI, 0, .inl (fun _ => 0))), (q_32, .inl (cI, 0, .inl (fun _ => 0))), (q_33, .inl (cI, 0, .inl (fun _ => 0))), (q_34, .inl (cI, 0, .inl (fun _ => 0))), (q_35, .inl (cI, 0, .inl (fun _ => 0))), (q_5, .inr (6, [.int 0, .int 0, .int 0, .int 0, .ref q_36, .ref q_37])), (q_36, .inl (cI, 14, .inl (fun _ => 0))), (q_37, .inl (cI, 14, .inl (fun _ => 0))), (q_6, .inr (6, [.int 0, .int 0, .int 0, .int 0, .ref q_38, .ref q_39])), (q_38, .inl (cI, 14, .inl (fun _ => 0))), (q_39, .inl (cI, 14, .inl (fun _ => 0))), (q_7, .inl (cS, 10, .inr (.inr (.inr (.inr (va_up (va_up (va_up (va_up (va_up (va_up (va_up (va_up (va_up (va_up (fun _ => none) 0 (some q_40)) 1 (some q_41)) 2 (some q_42)) 3 (some q_43)) 4 (some q_44)) 5 (some q_45)) 6 (some q_46)) 7 (some q_47)) 8 (some q_48)) 9 (some q_49))))))), (q_8, .inl (cW, 2, .inr (.inr (.inr (.inr (fun _ => none)))))), (q_9, .inl (cS, 2, .inr (.inr (.inr (.inr (va_up (va_up (fun _ => none) 0 (some q_50)) 1 (some q_51))))))), (q_10, .inl (cT, 4, .inr (.inr (.inr (.inr (va_up (va_up (va_up (va_up (fun _ => none) 0 (some q_52)) 1 (some q_53)) 2 (some q_54)) 3 (some q_55))))))), (q_11, .inl (cR, 5, .inr (.inr (.inr (.inr (va_up (va_up (va_up (va_up (va_up (fun _ => none) 0 (some q_56)) 1 (some q_57)) 2 (some q_58)) 3 (some q_59)) 4 (some q_60))))))), (q_12, .inr (5, [.ref q_4, .int 0, .int 0, .int 0, .ref q_61, .ref q_62])), (q_61, .inl (cI, 14, .inl (fun _ => 0))), (q_62, .inl (cI, 14, .inl (fun _ => 0))), (q_13, .inr (10, [.ref q_63, .ref q_64, .int 0, .ref q_65, .ref q_66, .ref q_67, .int 0])), (q_63, .inl (cI, 14, .inl (fun _ => 0))), (q_64, .inl (cI, 14, .inl (fun _ => 0))), (q_65, .inl (cJ, 14, .inr (.inl (fun _ => 0)))), (q_66, .inl (cI, 14, .inl (fun _ => 0))), (q_67, .inl (cI, 14, .inl (fun _ => 0))), (q_14, .inr (1, [.ref q_68, .ref q_69, .int 0, .ref q_70, .int 0, .int 0, .ref q_71])), (q_68, .inl (cI, 14, .inl (fun _ => 0))), (q_69, .inl (cI, 14, .inl (fun _ => 0))), (q_70, .inl (cI, 28, .inl (fun _ => 0))), (q_71, .inl (cI, 28, .inl (fun _ => 0))), (q_15, .inr (0, [.ref q_72, .int 0, .ref q_73, .ref q_74])), (q_72, .inl (cI, 1, .inl (fun _ => 0))), (q_73, .inl (cI, 14, .inl (fun _ => 0))), (q_74, .inl (cI, 14, .inl (fun _ => 0))), (q_16, .inl (cI, 5, .inl (fun _ => 0))), (q_17, .inl (cI, 5, .inl (fun _ => 0))), (q_40, .inr (6, [.int 0, .int 0, .int 0, .int 0, .ref q_75, .ref q_76])), (q_75, .inl (cI, 14, .inl (fun _ => 0))), (q_76, .inl (cI, 14, .inl (fun _ => 0))), (q_41, .inr (6, [.int 0, .int 0, .int 0, .int 0, .ref q_77, .ref q_78])), (q_77, .inl (cI, 14, .inl (fun _ => 0))), (q_78, .inl (cI, 14, .inl (fun _ => 0))), (q_42, .inr (6, [.int 0, .int 0, .int 0, .int 0, .ref q_79, .ref q_80])), (q_79, .inl (cI, 14, .inl (fun _ => 0))), (q_80, .inl (cI, 14, .inl (fun _ => 0))), (q_43, .inr (6, [.int 0, .int 0, .int 0, .int 0, .ref q_81, .ref q_82])), (q_81, .inl (cI, 14, .inl (fun _ => 0))), (q_82, .inl (cI, 14, .inl (fun _ => 0))), (q_44, .inr (6, [.int 0, .int 0, .int 0, .int 0, .ref q_83, .ref q_84])), (q_83, .inl (cI, 14, .inl (fun _ => 0))), (q_84, .inl (cI, 14, .inl (fun _ => 0))), (q_45, .inr (6, [.int 0, .int 0, .int 0, .int 0, .ref q_85, .ref q_86])), (q_85, .inl (cI, 14, .inl (fun _ => 0))), (q_86, .inl (cI, 14, .inl (fun _ => 0))), (q_46, .inr (6, [.int 0, .int 0, .int 0, .int 0, .ref q_87, .ref q_88])), (q_87, .inl (cI, 14, .inl (fun _ => 0))), (q_88, .inl (cI, 14, .inl (fun _ => 0))), (q_47, .inr (6, [.int 0, .int 0, .int 0, .int 0, .ref q_89, .ref q_90])), (q_89, .inl (cI, 14, .inl (fun _ => 0))), (q_90, .inl (cI, 14, .inl (fun _ => 0))), (q_48, .inr (6, [.int 0, .int 0, .int 0, .int 0, .ref q_91, .ref q_92])), (q_91, .inl (cI, 14, .inl (fun _ => 0))), (q_92, .inl (cI, 14, .inl (fun _ => 0))), (q_49, .inr (6, [.int 0, .int 0, .int 0, .int 0, .ref q_93, .ref q_94])), (q_93, .inl (cI, 14, .inl (fun _ => 0))), (q_94, .inl (cI, 14, .inl (fun _ => 0))), (q_50, .inr (6, [.int 0, .int 0, .int 0, .int 0, .ref q_95, .ref q_96])), (q_95, .inl (cI, 14, .inl (fun _ => 0))), (q_96, .inl (cI, 14, .inl (fun _ => 0))), (q_51, .inr (6, [.int 0, .int 0, .int 0, .int 0, .ref q_97, .ref q_98])), (q_97, .inl (cI, 14, .inl (fun _ => 0))), (q_98, .inl (cI, 14, .inl (fun _ => 0))), (q_52, .inr (8, [.ref q_99, .int 0, .int (-1)])), (q_99, .inl (cJ, 40, .inr (.inl (fun _ => 0)))), (q_53, .inr (8, [.ref q_100, .int 0, .int (-1)])), (q_100, .inl (cJ, 40, .inr (.inl (fun _ => 0)))), (q_54, .inr (8, [.ref q_101, .int 0, .int (-1)])), (q_101, .inl (cJ, 40, .inr (.inl (fun _ => 0)))), (q_55, .inr (8, [.ref q_102, .int 0, .int (-1)])), (q_102, .inl (cJ, 40, .inr (.inl (fun _ => 0)))), (q_56, .inr (5, [.ref q_4, .int 0, .int 0, .int 0, .ref q_103, .ref q_104])), (q_103, .inl (cI, 14, .inl (fun _ => 0))), (q_104, .inl (cI, 14, .inl (fun _ => 0))), (q_57, .inr (5, [.ref q_4, .int 0, .int 0, .int 0, .ref q_105, .ref q_106])), (q_105, .inl (cI, 14, .inl (fun _ => 0))), (q_106, .inl (cI, 14, .inl (fun _ => 0))), (q_58, .inr (5, [.ref q_4, .int 0, .int 0, .int 0, .ref q_107, .ref q_108])), (q_107, .inl (cI, 14, .inl (fun _ => 0))), (q_108, .inl (cI, 14, .inl (fun _ => 0))), (q_59, .inr (5, [.ref q_4, .int 0, .int 0, .int 0, .ref q_109, .ref q_110])), (q_109, .inl (cI, 14, .inl (fun _ => 0))), (q_110, .inl (cI, 14, .inl (fun _ => 0))), (q_60, .inr (5, [.ref q_4, .int 0, .int 0, .int 0, .ref q_111, .ref q_112])), (q_111, .inl (cI, 14, .inl (fun _ => 0))), (q_112, .inl (cI, 14, .inl (fun _ => 0))), (q_114, .inr (12, [.int 0, .ref q_115, .ref q_116, .ref q_117, .ref q_118, .int 0, .int 0, .int 0, .int 0, .int 0, .int 0, .int 0, .int 0, .int 0, .int (-1), .ref q_119, .int 0, .ref q_120, .ref q_121, .ref q_122, .int 0, .ref q_123, .ref q_124, .int 0, .int 0, .int 0, .ref q_125, .ref q_126, .ref q_127, .ref q_128, .ref q_129, .ref q_130, .int 0, .ref q_131, .ref q_132, .ref q_133])), (q_116, .inl (cZ, 2, .inl (fun _ => 0))), (q_117, .inl (cI, 900, .inl (fun _ => 0))), (q_118, .inl (cI, 1302, .inl (fun _ => 0))), (q_119, .inl (cI, 900, .inl (fun _ => 0))), (q_120, .inl (cI, 14, .inl (fun _ => 0))), (q_121, .inl (cI, 14, .inl (fun _ => 0))), (q_122, .inl (cI, 14, .inl (fun _ => 0))), (q_123, .inl (cI, 31, .inl (fun _ => 0))), (q_124, .inl (cI, 31, .inl (fun _ => 0))), (q_125, .inl (cJ, 229376, .inr (.inl (fun _ => 0)))), (q_126, .inl (cZ, 16384, .inl (fun _ => 0))), (q_127, .inl (cB, 229376, .inl (fun _ => 0))), (q_128, .inl (cI, 5, .inl (fun _ => 0))), (q_129, .inl (cI, 5, .inl (fun _ => 0))), (q_130, .inl (cI, 186, .inl (fun _ => 0))), (q_131, .inl (cI, 4, .inl rs4)), (q_132, .inl (cI, 4, .inl (fun _ => 0))), (q_133, .inl (cJ, 160, .inr (.inl (fun _ => 0)))), (q_115, .inl (cI, 3906, .inl plc))] H) (hD : va_D A [(q_1, .inr (11, [.ref q_2, .int 0, .ref q_3, .ref q_4, .ref q_5, .ref q_6, .ref q_7, .int 0, .int 0, .ref q_8, .ref q_9, .ref q_10, .ref q_11, .ref q_12, .ref q_13, .ref q_14, .ref q_15, .ref q_16, .ref q_17, .int (-1)])), (q_2, .inl (cB, 900, .inl (fun _ => 0))), (q_3, .inr (4, [.ref q_18, .ref q_19, .ref q_20, .int 0, .ref q_21])), (q_18, .inr (7, [.ref q_22, .int 0, .int 0, .int 0, .int 0, .int 0, .int 0, .int (-1)])), (q_22, .inl (cB, 0, .inl (fun _ => 0))), (q_19, .inr (3, [.ref q_18, .ref q_23, .int 0])), (q_23, .inl (cI, 900, .inl (fun _ => 0))), (q_20, .inr (9, [.int 14, .int 5, .int 0, .int 0, .int 0, .int 0, .ref q_24, .ref q_25, .ref q_26, .ref q_27, .ref q_28, .null, .int 0, .int 1])), (q_24, .inl (cI, 14, .inl (fun _ => 0))), (q_25, .inl (cI, 14, .inl (fun _ => 0))), (q_26, .inl (cI, 14, .inl (fun _ => 0))), (q_27, .inl (cI, 5, .inl (fun _ => 0))), (q_28, .inl (cI, 5, .inl (fun _ => 0))), (q_21, .inr (6, [.int 0, .int 0, .int 0, .int 0, .ref q_29, .ref q_30])), (q_29, .inl (cI, 14, .inl (fun _ => 0))), (q_30, .inl (cI, 14, .inl (fun _ => 0))), (q_4, .inr (9, [.int 0, .int 0, .int 0, .int 0, .int 0, .int 0, .ref q_31, .ref q_32, .ref q_33, .ref q_34, .ref q_35, .null, .int 0, .int 1])), (q_31, .inl (cI, 0, .inl (fun _ => 0))), (q_32, .inl (cI, 0, .inl (fun _ => 0))), (q_33, .inl (cI, 0, .inl (fun _ => 0))), (q_34, .inl (cI, 0, .inl (fun _ => 0))), (q_35, .inl (cI, 0, .inl (fun _ => 0))), (q_5, .inr (6, [.int 0, .int 0, .int 0, .int 0, .ref q_36, .ref q_37])), (q_36, .inl (cI, 14, .inl (fun _ => 0))), (q_37, .inl (cI, 14, .inl (fun _ => 0))), (q_6, .inr (6, [.int 0, .int 0, .int 0, .int 0, .ref q_38, .ref q_39])), (q_38, .inl (cI, 14, .inl (fun _ => 0))), (q_39, .inl (cI, 14, .inl (fun _ => 0))), (q_7, .inl (cS, 10, .inr (.inr (.inr (.inr (va_up (va_up (va_up (va_up (va_up (va_up (va_up (va_up (va_up (va_up (fun _ => none) 0 (some q_40)) 1 (some q_41)) 2 (some q_42)) 3 (some q_43)) 4 (some q_44)) 5 (some q_45)) 6 (some q_46)) 7 (some q_47)) 8 (some q_48)) 9 (some q_49))))))), (q_8, .inl (cW, 2, .inr (.inr (.inr (.inr (fun _ => none)))))), (q_9, .inl (cS, 2, .inr (.inr (.inr (.inr (va_up (va_up (fun _ => none) 0 (some q_50)) 1 (some q_51))))))), (q_10, .inl (cT, 4, .inr (.inr (.inr (.inr (va_up (va_up (va_up (va_up (fun _ => none) 0 (some q_52)) 1 (some q_53)) 2 (some q_54)) 3 (some q_55))))))), (q_11, .inl (cR, 5, .inr (.inr (.inr (.inr (va_up (va_up (va_up (va_up (va_up (fun _ => none) 0 (some q_56)) 1 (some q_57)) 2 (some q_58)) 3 (some q_59)) 4 (some q_60))))))), (q_12, .inr (5, [.ref q_4, .int 0, .int 0, .int 0, .ref q_61, .ref q_62])), (q_61, .inl (cI, 14, .inl (fun _ => 0))), (q_62, .inl (cI, 14, .inl (fun _ => 0))), (q_13, .inr (10, [.ref q_63, .ref q_64, .int 0, .ref q_65, .ref q_66, .ref q_67, .int 0])), (q_63, .inl (cI, 14, .inl (fun _ => 0))), (q_64, .inl (cI, 14, .inl (fun _ => 0))), (q_65, .inl (cJ, 14, .inr (.inl (fun _ => 0)))), (q_66, .inl (cI, 14, .inl (fun _ => 0))), (q_67, .inl (cI, 14, .inl (fun _ => 0))), (q_14, .inr (1, [.ref q_68, .ref q_69, .int 0, .ref q_70, .int 0, .int 0, .ref q_71])), (q_68, .inl (cI, 14, .inl (fun _ => 0))), (q_69, .inl (cI, 14, .inl (fun _ => 0))), (q_70, .inl (cI, 28, .inl (fun _ => 0))), (q_71, .inl (cI, 28, .inl (fun _ => 0))), (q_15, .inr (0, [.ref q_72, .int 0, .ref q_73, .ref q_74])), (q_72, .inl (cI, 1, .inl (fun _ => 0))), (q_73, .inl (cI, 14, .inl (fun _ => 0))), (q_74, .inl (cI, 14, .inl (fun _ => 0))), (q_16, .inl (cI, 5, .inl (fun _ => 0))), (q_17, .inl (cI, 5, .inl (fun _ => 0))), (q_40, .inr (6, [.int 0, .int 0, .int 0, .int 0, .ref q_75, .ref q_76])), (q_75, .inl (cI, 14, .inl (fun _ => 0))), (q_76, .inl (cI, 14, .inl (fun _ => 0))), (q_41, .inr (6, [.int 0, .int 0, .int 0, .int 0, .ref q_77, .ref q_78])), (q_77, .inl (cI, 14, .inl (fun _ => 0))), (q_78, .inl (cI, 14, .inl (fun _ => 0))), (q_42, .inr (6, [.int 0, .int 0, .int 0, .int 0, .ref q_79, .ref q_80])), (q_79, .inl (cI, 14, .inl (fun _ => 0))), (q_80, .inl (cI, 14, .inl (fun _ => 0))), (q_43, .inr (6, [.int 0, .int 0, .int 0, .int 0, .ref q_81, .ref q_82])), (q_81, .inl (cI, 14, .inl (fun _ => 0))), (q_82, .inl (cI, 14, .inl (fun _ => 0))), (q_44, .inr (6, [.int 0, .int 0, .int 0, .int 0, .ref q_83, .ref q_84])), (q_83, .inl (cI, 14, .inl (fun _ => 0))), (q_84, .inl (cI, 14, .inl (fun _ => 0))), (q_45, .inr (6, [.int 0, .int 0, .int 0, .int 0, .ref q_85, .ref q_86])), (q_85, .inl (cI, 14, .inl (fun _ => 0))), (q_86, .inl (cI, 14, .inl (fun _ => 0))), (q_46, .inr (6, [.int 0, .int 0, .int 0, .int 0, .ref q_87, .ref q_88])), (q_87, .inl (cI, 14, .inl (fun _ => 0))), (q_88, .inl (cI, 14, .inl (fun _ => 0))), (q_47, .inr (6, [.int 0, .int 0, .int 0, .int 0, .ref q_89, .ref q_90])), (q_89, .inl (cI, 14, .inl (fun _ => 0))), (q_90, .inl (cI, 14, .inl (fun _ => 0))), (q_48, .inr (6, [.int 0, .int 0, .int 0, .int 0, .ref q_91, .ref q_92])), (q_91, .inl (cI, 14, .inl (fun _ => 0))), (q_92, .inl (cI, 14, .inl (fun _ => 0))), (q_49, .inr (6, [.int 0, .int 0, .int 0, .int 0, .ref q_93, .ref q_94])), (q_93, .inl (cI, 14, .inl (fun _ => 0))), (q_94, .inl (cI, 14, .inl (fun _ => 0))), (q_50, .inr (6, [.int 0, .int 0, .int 0, .int 0, .ref q_95, .ref q_96])), (q_95, .inl (cI, 14, .inl (fun _ => 0))), (q_96, .inl (cI, 14, .inl (fun _ => 0))), (q_51, .inr (6, [.int 0, .int 0, .int 0, .int 0, .ref q_97, .ref q_98])), (q_97, .inl (cI, 14, .inl (fun _ => 0))), (q_98, .inl (cI, 14, .inl (fun _ => 0))), (q_52, .inr (8, [.ref q_99, .int 0, .int (-1)])), (q_99, .inl (cJ, 40, .inr (.inl (fun _ => 0)))), (q_53, .inr (8, [.ref q_100, .int 0, .int (-1)])), (q_100, .inl (cJ, 40, .inr (.inl (fun _ => 0)))), (q_54, .inr (8, [.ref q_101, .int 0, .int (-1)])), (q_101, .inl (cJ, 40, .inr (.inl (fun _ => 0)))), (q_55, .inr (8, [.ref q_102, .int 0, .int (-1)])), (q_102, .inl (cJ, 40, .inr (.inl (fun _ => 0)))), (q_56, .inr (5, [.ref q_4, .int 0, .int 0, .int 0, .ref q_103, .ref q_104])), (q_103, .inl (cI, 14, .inl (fun _ => 0))), (q_104, .inl (cI, 14, .inl (fun _ => 0))), (q_57, .inr (5, [.ref q_4, .int 0, .int 0, .int 0, .ref q_105, .ref q_106])), (q_105, .inl (cI, 14, .inl (fun _ => 0))), (q_106, .inl (cI, 14, .inl (fun _ => 0))), (q_58, .inr (5, [.ref q_4, .int 0, .int 0, .int 0, .ref q_107, .ref q_108])), (q_107, .inl (cI, 14, .inl (fun _ => 0))), (q_108, .inl (cI, 14, .inl (fun _ => 0))), (q_59, .inr (5, [.ref q_4, .int 0, .int 0, .int 0, .ref q_109, .ref q_110])), (q_109, .inl (cI, 14, .inl (fun _ => 0))), (q_110, .inl (cI, 14, .inl (fun _ => 0))), (q_60, .inr (5, [.ref q_4, .int 0, .int 0, .int 0, .ref q_111, .ref q_112])), (q_111, .inl (cI, 14, .inl (fun _ => 0))), (q_112, .inl (cI, 14, .inl (fun _ => 0))), (q_114, .inr (12, [.int 0, .ref q_115, .ref q_116, .ref q_117, .ref q_118, .int 0, .int 0, .int 0, .int 0, .int 0, .int 0, .int 0, .int 0, .int 0, .int (-1), .ref q_119, .int 0, .ref q_120, .ref q_121, .ref q_122, .int 0, .ref q_123, .ref q_124, .int 0, .int 0, .int 0, .ref q_125, .ref q_126, .ref q_127, .ref q_128, .ref q_129, .ref q_130, .int 0, .ref q_131, .ref q_132, .ref q_133])), (q_116, .inl (cZ, 2, .inl (fun _ => 0))), (q_117, .inl (cI, 900, .inl (fun _ => 0))), (q_118, .inl (cI, 1302, .inl (fun _ => 0))), (q_119, .inl (cI, 900, .inl (fun _ => 0))), (q_120, .inl (cI, 14, .inl (fun _ => 0))), (q_121, .inl (cI, 14, .inl (fun _ => 0))), (q_122, .inl (cI, 14, .inl (fun _ => 0))), (q_123, .inl (cI, 31, .inl (fun _ => 0))), (q_124, .inl (cI, 31, .inl (fun _ => 0))), (q_125, .inl (cJ, 229376, .inr (.inl (fun _ => 0)))), (q_126, .inl (cZ, 16384, .inl (fun _ => 0))), (q_127, .inl (cB, 229376, .inl (fun _ => 0))), (q_128, .inl (cI, 5, .inl (fun _ => 0))), (q_129, .inl (cI, 5, .inl (fun _ => 0))), (q_130, .inl (cI, 186, .inl (fun _ => 0))), (q_131, .inl (cI, 4, .inl rs4)), (q_132, .inl (cI, 4, .inl (fun _ => 0))), (q_133, .inl (cJ, 160, .inr (.inl (fun _ => 0)))), (q_115, .inl (cI, 3906, .inl plc))]) : ∃ T : TF, LV T q_1 q_114 q_15 q_4 0 0 0 0 0 q_72 q_73 q_74 1 0 0 ∧ LX T q_18 q_2 q_117 ∧ HT D (cB, cI, cJ, cZ, cS, cW, cT, cR) A T [q_15, q_18, q_2, q_117] [(q_15, .inr (0, [.ref q_72, .int 0, .ref q_73, .ref q_74])), (q_18, .inr (7, [.ref q_22, .int 0, .int 0, .int 0, .int 0, .int 0, .int 0, .int (-1)])), (q_2, .inl (cB, 900, .inl (fun _ => 0))), (q_117, .inl (cI, 900, .inl (fun _ => 0)))] H := by
  have hP := hP.sub (ws' := [(q_15, .inr (0, [.ref q_72, .int 0, .ref q_73, .ref q_74])), (q_18, .inr (7, [.ref q_22, .int 0, .int 0, .int 0, .int 0, .int 0, .int 0, .int (-1)])), (q_2, .inl (cB, 900, .inl (fun _ => 0))), (q_117, .inl (cI, 900, .inl (fun _ => 0))), (q_1, .inr (11, [.ref q_2, .int 0, .ref q_3, .ref q_4, .ref q_5, .ref q_6, .ref q_7, .int 0, .int 0, .ref q_8, .ref q_9, .ref q_10, .ref q_11, .ref q_12, .ref q_13, .ref q_14, .ref q_15, .ref q_16, .ref q_17, .int (-1)])), (q_3, .inr (4, [.ref q_18, .ref q_19, .ref q_20, .int 0, .ref q_21])), (q_22, .inl (cB, 0, .inl (fun _ => 0))), (q_19, .inr (3, [.ref q_18, .ref q_23, .int 0])), (q_23, .inl (cI, 900, .inl (fun _ => 0))), (q_20, .inr (9, [.int 14, .int 5, .int 0, .int 0, .int 0, .int 0, .ref q_24, .ref q_25, .ref q_26, .ref q_27, .ref q_28, .null, .int 0, .int 1])), (q_24, .inl (cI, 14, .inl (fun _ => 0))), (q_25, .inl (cI, 14, .inl (fun _ => 0))), (q_26, .inl (cI, 14, .inl (fun _ => 0))), (q_27, .inl (cI, 5, .inl (fun _ => 0))), (q_28, .inl (cI, 5, .inl (fun _ => 0))), (q_21, .inr (6, [.int 0, .int 0, .int 0, .int 0, .ref q_29, .ref q_30])), (q_29, .inl (cI, 14, .inl (fun _ => 0))), (q_30, .inl (cI, 14, .inl (fun _ => 0))), (q_4, .inr (9, [.int 0, .int 0, .int 0, .int 0, .int 0, .int 0, .ref q_31, .ref q_32, .ref q_33, .ref q_34, .ref q_35, .null, .int 0, .int 1])), (q_31, .inl (cI, 0, .inl (fun _ => 0))), (q_32, .inl (cI, 0, .inl (fun _ => 0))), (q_33, .inl (cI, 0, .inl (fun _ => 0))), (q_34, .inl (cI, 0, .inl (fun _ => 0))), (q_35, .inl (cI, 0, .inl (fun _ => 0))), (q_5, .inr (6, [.int 0, .int 0, .int 0, .int 0, .ref q_36, .ref q_37])), (q_36, .inl (cI, 14, .inl (fun _ => 0))), (q_37, .inl (cI, 14, .inl (fun _ => 0))), (q_6, .inr (6, [.int 0, .int 0, .int 0, .int 0, .ref q_38, .ref q_39])), (q_38, .inl (cI, 14, .inl (fun _ => 0))), (q_39, .inl (cI, 14, .inl (fun _ => 0))), (q_7, .inl (cS, 10, .inr (.inr (.inr (.inr (va_up (va_up (va_up (va_up (va_up (va_up (va_up (va_up (va_up (va_up (fun _ => none) 0 (some q_40)) 1 (some q_41)) 2 (some q_42)) 3 (some q_43)) 4 (some q_44)) 5 (some q_45)) 6 (some q_46)) 7 (some q_47)) 8 (some q_48)) 9 (some q_49))))))), (q_8, .inl (cW, 2, .inr (.inr (.inr (.inr (fun _ => none)))))), (q_9, .inl (cS, 2, .inr (.inr (.inr (.inr (va_up (va_up (fun _ => none) 0 (some q_50)) 1 (some q_51))))))), (q_10, .inl (cT, 4, .inr (.inr (.inr (.inr (va_up (va_up (va_up (va_up (fun _ => none) 0 (some q_52)) 1 (some q_53)) 2 (some q_54)) 3 (some q_55))))))), (q_11, .inl (cR, 5, .inr (.inr (.inr (.inr (va_up (va_up (va_up (va_up (va_up (fun _ => none) 0 (some q_56)) 1 (some q_57)) 2 (some q_58)) 3 (some q_59)) 4 (some q_60))))))), (q_12, .inr (5, [.ref q_4, .int 0, .int 0, .int 0, .ref q_61, .ref q_62])), (q_61, .inl (cI, 14, .inl (fun _ => 0))), (q_62, .inl (cI, 14, .inl (fun _ => 0))), (q_13, .inr (10, [.ref q_63, .ref q_64, .int 0, .ref q_65, .ref q_66, .ref q_67, .int 0])), (q_63, .inl (cI, 14, .inl (fun _ => 0))), (q_64, .inl (cI, 14, .inl (fun _ => 0))), (q_65, .inl (cJ, 14, .inr (.inl (fun _ => 0)))), (q_66, .inl (cI, 14, .inl (fun _ => 0))), (q_67, .inl (cI, 14, .inl (fun _ => 0))), (q_14, .inr (1, [.ref q_68, .ref q_69, .int 0, .ref q_70, .int 0, .int 0, .ref q_71])), (q_68, .inl (cI, 14, .inl (fun _ => 0))), (q_69, .inl (cI, 14, .inl (fun _ => 0))), (q_70, .inl (cI, 28, .inl (fun _ => 0))), (q_71, .inl (cI, 28, .inl (fun _ => 0))), (q_72, .inl (cI, 1, .inl (fun _ => 0))), (q_73, .inl (cI, 14, .inl (fun _ => 0))), (q_74, .inl (cI, 14, .inl (fun _ => 0))), (q_16, .inl (cI, 5, .inl (fun _ => 0))), (q_17, .inl (cI, 5, .inl (fun _ => 0))), (q_40, .inr (6, [.int 0, .int 0, .int 0, .int 0, .ref q_75, .ref q_76])), (q_75, .inl (cI, 14, .inl (fun _ => 0))), (q_76, .inl (cI, 14, .inl (fun _ => 0))), (q_41, .inr (6, [.int 0, .int 0, .int 0, .int 0, .ref q_77, .ref q_78])), (q_77, .inl (cI, 14, .inl (fun _ => 0))), (q_78, .inl (cI, 14, .inl (fun _ => 0))), (q_42, .inr (6, [.int 0, .int 0, .int 0, .int 0, .ref q_79, .ref q_80])), (q_79, .inl (cI, 14, .inl (fun _ => 0))), (q_80, .inl (cI, 14, .inl (fun _ => 0))), (q_43, .inr (6, [.int 0, .int 0, .int 0, .int 0, .ref q_81, .ref q_82])), (q_81, .inl (cI, 14, .inl (fun _ => 0))), (q_82, .inl (cI, 14, .inl (fun _ => 0))), (q_44, .inr (6, [.int 0, .int 0, .int 0, .int 0, .ref q_83, .ref q_84])), (q_83, .inl (cI, 14, .inl (fun _ => 0))), (q_84, .inl (cI, 14, .inl (fun _ => 0))), (q_45, .inr (6, [.int 0, .int 0, .int 0, .int 0, .ref q_85, .ref q_86])), (q_85, .inl (cI, 14, .inl (fun _ => 0))), (q_86, .inl (cI, 14, .inl (fun _ => 0))), (q_46, .inr (6, [.int 0, .int 0, .int 0, .int 0, .ref q_87, .ref q_88])), (q_87, .inl (cI, 14, .inl (fun _ => 0))), (q_88, .inl (cI, 14, .inl (fun _ => 0))), (q_47, .inr (6, [.int 0, .int 0, .int 0, .int 0, .ref q_89, .ref q_90])), (q_89, .inl (cI, 14, .inl (fun _ => 0))), (q_90, .inl (cI, 14, .inl (fun _ => 0))), (q_48, .inr (6, [.int 0, .int 0, .int 0, .int 0, .ref q_91, .ref q_92])), (q_91, .inl (cI, 14, .inl (fun _ => 0))), (q_92, .inl (cI, 14, .inl (fun _ => 0))), (q_49, .inr (6, [.int 0, .int 0, .int 0, .int 0, .ref q_93, .ref q_94])), (q_93, .inl (cI, 14, .inl (fun _ => 0))), (q_94, .inl (cI, 14, .inl (fun _ => 0))), (q_50, .inr (6, [.int 0, .int 0, .int 0, .int 0, .ref q_95, .ref q_96])), (q_95, .inl (cI, 14, .inl (fun _ => 0))), (q_96, .inl (cI, 14, .inl (fun _ => 0))), (q_51, .inr (6, [.int 0, .int 0, .int 0, .int 0, .ref q_97, .ref q_98])), (q_97, .inl (cI, 14, .inl (fun _ => 0))), (q_98, .inl (cI, 14, .inl (fun _ => 0))), (q_52, .inr (8, [.ref q_99, .int 0, .int (-1)])), (q_99, .inl (cJ, 40, .inr (.inl (fun _ => 0)))), (q_53, .inr (8, [.ref q_100, .int 0, .int (-1)])), (q_100, .inl (cJ, 40, .inr (.inl (fun _ => 0)))), (q_54, .inr (8, [.ref q_101, .int 0, .int (-1)])), (q_101, .inl (cJ, 40, .inr (.inl (fun _ => 0)))), (q_55, .inr (8, [.ref q_102, .int 0, .int (-1)])), (q_102, .inl (cJ, 40, .inr (.inl (fun _ => 0)))), (q_56, .inr (5, [.ref q_4, .int 0, .int 0, .int 0, .ref q_103, .ref q_104])), (q_103, .inl (cI, 14, .inl (fun _ => 0))), (q_104, .inl (cI, 14, .inl (fun _ => 0))), (q_57, .inr (5, [.ref q_4, .int 0, .int 0, .int 0, .ref q_105, .ref q_106])), (q_105, .inl (cI, 14, .inl (fun _ => 0))), (q_106, .inl (cI, 14, .inl (fun _ => 0))), (q_58, .inr (5, [.ref q_4, .int 0, .int 0, .int 0, .ref q_107, .ref q_108])), (q_107, .inl (cI, 14, .inl (fun _ => 0))), (q_108, .inl (cI, 14, .inl (fun _ => 0))), (q_59, .inr (5, [.ref q_4, .int 0, .int 0, .int 0, .ref q_109, .ref q_110])), (q_109, .inl (cI, 14, .inl (fun _ => 0))), (q_110, .inl (cI, 14, .inl (fun _ => 0))), (q_60, .inr (5, [.ref q_4, .int 0, .int 0, .int 0, .ref q_111, .ref q_112])), (q_111, .inl (cI, 14, .inl (fun _ => 0))), (q_112, .inl (cI, 14, .inl (fun _ => 0))), (q_114, .inr (12, [.int 0, .ref q_115, .ref q_116, .ref q_117, .ref q_118, .int 0, .int 0, .int 0, .int 0, .int 0, .int 0, .int 0, .int 0, .int 0, .int (-1), .ref q_119, .int 0, .ref q_120, .ref q_121, .ref q_122, .int 0, .ref q_123, .ref q_124, .int 0, .int 0, .int 0, .ref q_125, .ref q_126, .ref q_127, .ref q_128, .ref q_129, .ref q_130, .int 0, .ref q_131, .ref q_132, .ref q_133])), (q_116, .inl (cZ, 2, .inl (fun _ => 0))), (q_118, .inl (cI, 1302, .inl (fun _ => 0))), (q_119, .inl (cI, 900, .inl (fun _ => 0))), (q_120, .inl (cI, 14, .inl (fun _ => 0))), (q_121, .inl (cI, 14, .inl (fun _ => 0))), (q_122, .inl (cI, 14, .inl (fun _ => 0))), (q_123, .inl (cI, 31, .inl (fun _ => 0))), (q_124, .inl (cI, 31, .inl (fun _ => 0))), (q_125, .inl (cJ, 229376, .inr (.inl (fun _ => 0)))), (q_126, .inl (cZ, 16384, .inl (fun _ => 0))), (q_127, .inl (cB, 229376, .inl (fun _ => 0))), (q_128, .inl (cI, 5, .inl (fun _ => 0))), (q_129, .inl (cI, 5, .inl (fun _ => 0))), (q_130, .inl (cI, 186, .inl (fun _ => 0))), (q_131, .inl (cI, 4, .inl rs4)), (q_132, .inl (cI, 4, .inl (fun _ => 0))), (q_133, .inl (cJ, 160, .inr (.inl (fun _ => 0)))), (q_115, .inl (cI, 3906, .inl plc))]) [47, 3, 1, 114, 0, 2, 4, 5, 6, 7, 8, 9, 10, 11, 12, 13, 14, 15, 16, 17, 18, 19, 20, 21, 22, 23, 24, 25, 26, 27, 28, 29, 30, 31, 32, 33, 34, 35, 36, 37, 38, 39, 40, 41, 42, 43, 44, 45, 46, 48, 49, 50, 51, 52, 53, 54, 55, 56, 57, 58, 59, 60, 61, 62, 63, 64, 65, 66, 67, 68, 69, 70, 71, 72, 73, 74, 75, 76, 77, 78, 79, 80, 81, 82, 83, 84, 85, 86, 87, 88, 89, 90, 91, 92, 93, 94, 95, 96, 97, 98, 99, 100, 101, 102, 103, 104, 105, 106, 107, 108, 109, 110, 111, 112, 113, 115, 116, 117, 118, 119, 120, 121, 122, 123, 124, 125, 126, 127, 128, 129, 130, 131] rfl
  have hD := hD.sub (ws' := [(q_15, .inr (0, [.ref q_72, .int 0, .ref q_73, .ref q_74])), (q_18, .inr (7, [.ref q_22, .int 0, .int 0, .int 0, .int 0, .int 0, .int 0, .int (-1)])), (q_2, .inl (cB, 900, .inl (fun _ => 0))), (q_117, .inl (cI, 900, .inl (fun _ => 0))), (q_1, .inr (11, [.ref q_2, .int 0, .ref q_3, .ref q_4, .ref q_5, .ref q_6, .ref q_7, .int 0, .int 0, .ref q_8, .ref q_9, .ref q_10, .ref q_11, .ref q_12, .ref q_13, .ref q_14, .ref q_15, .ref q_16, .ref q_17, .int (-1)])), (q_3, .inr (4, [.ref q_18, .ref q_19, .ref q_20, .int 0, .ref q_21])), (q_22, .inl (cB, 0, .inl (fun _ => 0))), (q_19, .inr (3, [.ref q_18, .ref q_23, .int 0])), (q_23, .inl (cI, 900, .inl (fun _ => 0))), (q_20, .inr (9, [.int 14, .int 5, .int 0, .int 0, .int 0, .int 0, .ref q_24, .ref q_25, .ref q_26, .ref q_27, .ref q_28, .null, .int 0, .int 1])), (q_24, .inl (cI, 14, .inl (fun _ => 0))), (q_25, .inl (cI, 14, .inl (fun _ => 0))), (q_26, .inl (cI, 14, .inl (fun _ => 0))), (q_27, .inl (cI, 5, .inl (fun _ => 0))), (q_28, .inl (cI, 5, .inl (fun _ => 0))), (q_21, .inr (6, [.int 0, .int 0, .int 0, .int 0, .ref q_29, .ref q_30])), (q_29, .inl (cI, 14, .inl (fun _ => 0))), (q_30, .inl (cI, 14, .inl (fun _ => 0))), (q_4, .inr (9, [.int 0, .int 0, .int 0, .int 0, .int 0, .int 0, .ref q_31, .ref q_32, .ref q_33, .ref q_34, .ref q_35, .null, .int 0, .int 1])), (q_31, .inl (cI, 0, .inl (fun _ => 0))), (q_32, .inl (cI, 0, .inl (fun _ => 0))), (q_33, .inl (cI, 0, .inl (fun _ => 0))), (q_34, .inl (cI, 0, .inl (fun _ => 0))), (q_35, .inl (cI, 0, .inl (fun _ => 0))), (q_5, .inr (6, [.int 0, .int 0, .int 0, .int 0, .ref q_36, .ref q_37])), (q_36, .inl (cI, 14, .inl (fun _ => 0))), (q_37, .inl (cI, 14, .inl (fun _ => 0))), (q_6, .inr (6, [.int 0, .int 0, .int 0, .int 0, .ref q_38, .ref q_39])), (q_38, .inl (cI, 14, .inl (fun _ => 0))), (q_39, .inl (cI, 14, .inl (fun _ => 0))), (q_7, .inl (cS, 10, .inr (.inr (.inr (.inr (va_up (va_up (va_up (va_up (va_up (va_up (va_up (va_up (va_up (va_up (fun _ => none) 0 (some q_40)) 1 (some q_41)) 2 (some q_42)) 3 (some q_43)) 4 (some q_44)) 5 (some q_45)) 6 (some q_46)) 7 (some q_47)) 8 (some q_48)) 9 (some q_49))))))), (q_8, .inl (cW, 2, .inr (.inr (.inr (.inr (fun _ => none)))))), (q_9, .inl (cS, 2, .inr (.inr (.inr (.inr (va_up (va_up (fun _ => none) 0 (some q_50)) 1 (some q_51))))))), (q_10, .inl (cT, 4, .inr (.inr (.inr (.inr (va_up (va_up (va_up (va_up (fun _ => none) 0 (some q_52)) 1 (some q_53)) 2 (some q_54)) 3 (some q_55))))))), (q_11, .inl (cR, 5, .inr (.inr (.inr (.inr (va_up (va_up (va_up (va_up (va_up (fun _ => none) 0 (some q_56)) 1 (some q_57)) 2 (some q_58)) 3 (some q_59)) 4 (some q_60))))))), (q_12, .inr (5, [.ref q_4, .int 0, .int 0, .int 0, .ref q_61, .ref q_62])), (q_61, .inl (cI, 14, .inl (fun _ => 0))), (q_62, .inl (cI, 14, .inl (fun _ => 0))), (q_13, .inr (10, [.ref q_63, .ref q_64, .int 0, .ref q_65, .ref q_66, .ref q_67, .int 0])), (q_63, .inl (cI, 14, .inl (fun _ => 0))), (q_64, .inl (cI, 14, .inl (fun _ => 0))), (q_65, .inl (cJ, 14, .inr (.inl (fun _ => 0)))), (q_66, .inl (cI, 14, .inl (fun _ => 0))), (q_67, .inl (cI, 14, .inl (fun _ => 0))), (q_14, .inr (1, [.ref q_68, .ref q_69, .int 0, .ref q_70, .int 0, .int 0, .ref q_71])), (q_68, .inl (cI, 14, .inl (fun _ => 0))), (q_69, .inl (cI, 14, .inl (fun _ => 0))), (q_70, .inl (cI, 28, .inl (fun _ => 0))), (q_71, .inl (cI, 28, .inl (fun _ => 0))), (q_72, .inl (cI, 1, .inl (fun _ => 0))), (q_73, .inl (cI, 14, .inl (fun _ => 0))), (q_74, .inl (cI, 14, .inl (fun _ => 0))), (q_16, .inl (cI, 5, .inl (fun _ => 0))), (q_17, .inl (cI, 5, .inl (fun _ => 0))), (q_40, .inr (6, [.int 0, .int 0, .int 0, .int 0, .ref q_75, .ref q_76])), (q_75, .inl (cI, 14, .inl (fun _ => 0))), (q_76, .inl (cI, 14, .inl (fun _ => 0))), (q_41, .inr (6, [.int 0, .int 0, .int 0, .int 0, .ref q_77, .ref q_78])), (q_77, .inl (cI, 14, .inl (fun _ => 0))), (q_78, .inl (cI, 14, .inl (fun _ => 0))), (q_42, .inr (6, [.int 0, .int 0, .int 0, .int 0, .ref q_79, .ref q_80])), (q_79, .inl (cI, 14, .inl (fun _ => 0))), (q_80, .inl (cI, 14, .inl (fun _ => 0))), (q_43, .inr (6, [.int 0, .int 0, .int 0, .int 0, .ref q_81, .ref q_82])), (q_81, .inl (cI, 14, .inl (fun _ => 0))), (q_82, .inl (cI, 14, .inl (fun _ => 0))), (q_44, .inr (6, [.int 0, .int 0, .int 0, .int 0, .ref q_83, .ref q_84])), (q_83, .inl (cI, 14, .inl (fun _ => 0))), (q_84, .inl (cI, 14, .inl (fun _ => 0))), (q_45, .inr (6, [.int 0, .int 0, .int 0, .int 0, .ref q_85, .ref q_86])), (q_85, .inl (cI, 14, .inl (fun _ => 0))), (q_86, .inl (cI, 14, .inl (fun _ => 0))), (q_46, .inr (6, [.int 0, .int 0, .int 0, .int 0, .ref q_87, .ref q_88])), (q_87, .inl (cI, 14, .inl (fun _ => 0))), (q_88, .inl (cI, 14, .inl (fun _ => 0))), (q_47, .inr (6, [.int 0, .int 0, .int 0, .int 0, .ref q_89, .ref q_90])), (q_89, .inl (cI, 14, .inl (fun _ => 0))), (q_90, .inl (cI, 14, .inl (fun _ => 0))), (q_48, .inr (6, [.int 0, .int 0, .int 0, .int 0, .ref q_91, .ref q_92])), (q_91, .inl (cI, 14, .inl (fun _ => 0))), (q_92, .inl (cI, 14, .inl (fun _ => 0))), (q_49, .inr (6, [.int 0, .int 0, .int 0, .int 0, .ref q_93, .ref q_94])), (q_93, .inl (cI, 14, .inl (fun _ => 0))), (q_94, .inl (cI, 14, .inl (fun _ => 0))), (q_50, .inr (6, [.int 0, .int 0, .int 0, .int 0, .ref q_95, .ref q_96])), (q_95, .inl (cI, 14, .inl (fun _ => 0))), (q_96, .inl (cI, 14, .inl (fun _ => 0))), (q_51, .inr (6, [.int 0, .int 0, .int 0, .int 0, .ref q_97, .ref q_98])), (q_97, .inl (cI, 14, .inl (fun _ => 0))), (q_98, .inl (cI, 14, .inl (fun _ => 0))), (q_52, .inr (8, [.ref q_99, .int 0, .int (-1)])), (q_99, .inl (cJ, 40, .inr (.inl (fun _ => 0)))), (q_53, .inr (8, [.ref q_100, .int 0, .int (-1)])), (q_100, .inl (cJ, 40, .inr (.inl (fun _ => 0)))), (q_54, .inr (8, [.ref q_101, .int 0, .int (-1)])), (q_101, .inl (cJ, 40, .inr (.inl (fun _ => 0)))), (q_55, .inr (8, [.ref q_102, .int 0, .int (-1)])), (q_102, .inl (cJ, 40, .inr (.inl (fun _ => 0)))), (q_56, .inr (5, [.ref q_4, .int 0, .int 0, .int 0, .ref q_103, .ref q_104])), (q_103, .inl (cI, 14, .inl (fun _ => 0))), (q_104, .inl (cI, 14, .inl (fun _ => 0))), (q_57, .inr (5, [.ref q_4, .int 0, .int 0, .int 0, .ref q_105, .ref q_106])), (q_105, .inl (cI, 14, .inl (fun _ => 0))), (q_106, .inl (cI, 14, .inl (fun _ => 0))), (q_58, .inr (5, [.ref q_4, .int 0, .int 0, .int 0, .ref q_107, .ref q_108])), (q_107, .inl (cI, 14, .inl (fun _ => 0))), (q_108, .inl (cI, 14, .inl (fun _ => 0))), (q_59, .inr (5, [.ref q_4, .int 0, .int 0, .int 0, .ref q_109, .ref q_110])), (q_109, .inl (cI, 14, .inl (fun _ => 0))), (q_110, .inl (cI, 14, .inl (fun _ => 0))), (q_60, .inr (5, [.ref q_4, .int 0, .int 0, .int 0, .ref q_111, .ref q_112])), (q_111, .inl (cI, 14, .inl (fun _ => 0))), (q_112, .inl (cI, 14, .inl (fun _ => 0))), (q_114, .inr (12, [.int 0, .ref q_115, .ref q_116, .ref q_117, .ref q_118, .int 0, .int 0, .int 0, .int 0, .int 0, .int 0, .int 0, .int 0, .int 0, .int (-1), .ref q_119, .int 0, .ref q_120, .ref q_121, .ref q_122, .int 0, .ref q_123, .ref q_124, .int 0, .int 0, .int 0, .ref q_125, .ref q_126, .ref q_127, .ref q_128, .ref q_129, .ref q_130, .int 0, .ref q_131, .ref q_132, .ref q_133])), (q_116, .inl (cZ, 2, .inl (fun _ => 0))), (q_118, .inl (cI, 1302, .inl (fun _ => 0))), (q_119, .inl (cI, 900, .inl (fun _ => 0))), (q_120, .inl (cI, 14, .inl (fun _ => 0))), (q_121, .inl (cI, 14, .inl (fun _ => 0))), (q_122, .inl (cI, 14, .inl (fun _ => 0))), (q_123, .inl (cI, 31, .inl (fun _ => 0))), (q_124, .inl (cI, 31, .inl (fun _ => 0))), (q_125, .inl (cJ, 229376, .inr (.inl (fun _ => 0)))), (q_126, .inl (cZ, 16384, .inl (fun _ => 0))), (q_127, .inl (cB, 229376, .inl (fun _ => 0))), (q_128, .inl (cI, 5, .inl (fun _ => 0))), (q_129, .inl (cI, 5, .inl (fun _ => 0))), (q_130, .inl (cI, 186, .inl (fun _ => 0))), (q_131, .inl (cI, 4, .inl rs4)), (q_132, .inl (cI, 4, .inl (fun _ => 0))), (q_133, .inl (cJ, 160, .inr (.inl (fun _ => 0)))), (q_115, .inl (cI, 3906, .inl plc))]) [47, 3, 1, 114, 0, 2, 4, 5, 6, 7, 8, 9, 10, 11, 12, 13, 14, 15, 16, 17, 18, 19, 20, 21, 22, 23, 24, 25, 26, 27, 28, 29, 30, 31, 32, 33, 34, 35, 36, 37, 38, 39, 40, 41, 42, 43, 44, 45, 46, 48, 49, 50, 51, 52, 53, 54, 55, 56, 57, 58, 59, 60, 61, 62, 63, 64, 65, 66, 67, 68, 69, 70, 71, 72, 73, 74, 75, 76, 77, 78, 79, 80, 81, 82, 83, 84, 85, 86, 87, 88, 89, 90, 91, 92, 93, 94, 95, 96, 97, 98, 99, 100, 101, 102, 103, 104, 105, 106, 107, 108, 109, 110, 111, 112, 113, 115, 116, 117, 118, 119, 120, 121, 122, 123, 124, 125, 126, 127, 128, 129, 130, 131] (by decide) rfl
  obtain ⟨T, hag, hH, hin⟩ := lay_all (cs := (cB, cI, cJ, cZ, cS, cW, cT, cR)) (Y := [(q_15, .inr (0, [.ref q_72, .int 0, .ref q_73, .ref q_74])), (q_18, .inr (7, [.ref q_22, .int 0, .int 0, .int 0, .int 0, .int 0, .int 0, .int (-1)])), (q_2, .inl (cB, 900, .inl (fun _ => 0))), (q_117, .inl (cI, 900, .inl (fun _ => 0)))]) (ws := [(q_1, .inr (11, [.ref q_2, .int 0, .ref q_3, .ref q_4, .ref q_5, .ref q_6, .ref q_7, .int 0, .int 0, .ref q_8, .ref q_9, .ref q_10, .ref q_11, .ref q_12, .ref q_13, .ref q_14, .ref q_15, .ref q_16, .ref q_17, .int (-1)])), (q_3, .inr (4, [.ref q_18, .ref q_19, .ref q_20, .int 0, .ref q_21])), (q_22, .inl (cB, 0, .inl (fun _ => 0))), (q_19, .inr (3, [.ref q_18, .ref q_23, .int 0])), (q_23, .inl (cI, 900, .inl (fun _ => 0))), (q_20, .inr (9, [.int 14, .int 5, .int 0, .int 0, .int 0, .int 0, .ref q_24, .ref q_25, .ref q_26, .ref q_27, .ref q_28, .null, .int 0, .int 1])), (q_24, .inl (cI, 14, .inl (fun _ => 0))), (q_25, .inl (cI, 14, .inl (fun _ => 0))), (q_26, .inl (cI, 14, .inl (fun _ => 0))), (q_27, .inl (cI, 5, .inl (fun _ => 0))), (q_28, .inl (cI, 5, .inl (fun _ => 0))), (q_21, .inr (6, [.int 0, .int 0, .int 0, .int 0, .ref q_29, .ref q_30])), (q_29, .inl (cI, 14, .inl (fun _ => 0))), (q_30, .inl (cI, 14, .inl (fun _ => 0))), (q_4, .inr (9, [.int 0, .int 0, .int 0, .int 0, .int 0, .int 0, .ref q_31, .ref q_32, .ref q_33, .ref q_34, .ref q_35, .null, .int 0, .int 1])), (q_31, .inl (cI, 0, .inl (fun _ => 0))), (q_32, .inl (cI, 0, .inl (fun _ => 0))), (q_33, .inl (cI, 0, .inl (fun _ => 0))), (q_34, .inl (cI, 0, .inl (fun _ => 0))), (q_35, .inl (cI, 0, .inl (fun _ => 0))), (q_5, .inr (6, [.int 0, .int 0, .int 0, .int 0, .ref q_36, .ref q_37])), (q_36, .inl (cI, 14, .inl (fun _ => 0))), (q_37, .inl (cI, 14, .inl (fun _ => 0))), (q_6, .inr (6, [.int 0, .int 0, .int 0, .int 0, .ref q_38, .ref q_39])), (q_38, .inl (cI, 14, .inl (fun _ => 0))), (q_39, .inl (cI, 14, .inl (fun _ => 0))), (q_7, .inl (cS, 10, .inr (.inr (.inr (.inr (va_up (va_up (va_up (va_up (va_up (va_up (va_up (va_up (va_up (va_up (fun _ => none) 0 (some q_40)) 1 (some q_41)) 2 (some q_42)) 3 (some q_43)) 4 (some q_44)) 5 (some q_45)) 6 (some q_46)) 7 (some q_47)) 8 (some q_48)) 9 (some q_49))))))), (q_8, .inl (cW, 2, .inr (.inr (.inr (.inr (fun _ => none)))))), (q_9, .inl (cS, 2, .inr (.inr (.inr (.inr (va_up (va_up (fun _ => none) 0 (some q_50)) 1 (some q_51))))))), (q_10, .inl (cT, 4, .inr (.inr (.inr (.inr (va_up (va_up (va_up (va_up (fun _ => none) 0 (some q_52)) 1 (some q_53)) 2 (some q_54)) 3 (some q_55))))))), (q_11, .inl (cR, 5, .inr (.inr (.inr (.inr (va_up (va_up (va_up (va_up (va_up (fun _ => none) 0 (some q_56)) 1 (some q_57)) 2 (some q_58)) 3 (some q_59)) 4 (some q_60))))))), (q_12, .inr (5, [.ref q_4, .int 0, .int 0, .int 0, .ref q_61, .ref q_62])), (q_61, .inl (cI, 14, .inl (fun _ => 0))), (q_62, .inl (cI, 14, .inl (fun _ => 0))), (q_13, .inr (10, [.ref q_63, .ref q_64, .int 0, .ref q_65, .ref q_66, .ref q_67, .int 0])), (q_63, .inl (cI, 14, .inl (fun _ => 0))), (q_64, .inl (cI, 14, .inl (fun _ => 0))), (q_65, .inl (cJ, 14, .inr (.inl (fun _ => 0)))), (q_66, .inl (cI, 14, .inl (fun _ => 0))), (q_67, .inl (cI, 14, .inl (fun _ => 0))), (q_14, .inr (1, [.ref q_68, .ref q_69, .int 0, .ref q_70, .int 0, .int 0, .ref q_71])), (q_68, .inl (cI, 14, .inl (fun _ => 0))), (q_69, .inl (cI, 14, .inl (fun _ => 0))), (q_70, .inl (cI, 28, .inl (fun _ => 0))), (q_71, .inl (cI, 28, .inl (fun _ => 0))), (q_72, .inl (cI, 1, .inl (fun _ => 0))), (q_73, .inl (cI, 14, .inl (fun _ => 0))), (q_74, .inl (cI, 14, .inl (fun _ => 0))), (q_16, .inl (cI, 5, .inl (fun _ => 0))), (q_17, .inl (cI, 5, .inl (fun _ => 0))), (q_40, .inr (6, [.int 0, .int 0, .int 0, .int 0, .ref q_75, .ref q_76])), (q_75, .inl (cI, 14, .inl (fun _ => 0))), (q_76, .inl (cI, 14, .inl (fun _ => 0))), (q_41, .inr (6, [.int 0, .int 0, .int 0, .int 0, .ref q_77, .ref q_78])), (q_77, .inl (cI, 14, .inl (fun _ => 0))), (q_78, .inl (cI, 14, .inl (fun _ => 0))), (q_42, .inr (6, [.int 0, .int 0, .int 0, .int 0, .ref q_79, .ref q_80])), (q_79, .inl (cI, 14, .inl (fun _ => 0))), (q_80, .inl (cI, 14, .inl (fun _ => 0))), (q_43, .inr (6, [.int 0, .int 0, .int 0, .int 0, .ref q_81, .ref q_82])), (q_81, .inl (cI, 14, .inl (fun _ => 0))), (q_82, .inl (cI, 14, .inl (fun _ => 0))), (q_44, .inr (6, [.int 0, .int 0, .int 0, .int 0, .ref q_83, .ref q_84])), (q_83, .inl (cI, 14, .inl (fun _ => 0))), (q_84, .inl (cI, 14, .inl (fun _ => 0))), (q_45, .inr (6, [.int 0, .int 0, .int 0, .int 0, .ref q_85, .ref q_86])), (q_85, .inl (cI, 14, .inl (fun _ => 0))), (q_86, .inl (cI, 14, .inl (fun _ => 0))), (q_46, .inr (6, [.int 0, .int 0, .int 0, .int 0, .ref q_87, .ref q_88])), (q_87, .inl (cI, 14, .inl (fun _ => 0))), (q_88, .inl (cI, 14, .inl (fun _ => 0))), (q_47, .inr (6, [.int 0, .int 0, .int 0, .int 0, .ref q_89, .ref q_90])), (q_89, .inl (cI, 14, .inl (fun _ => 0))), (q_90, .inl (cI, 14, .inl (fun _ => 0))), (q_48, .inr (6, [.int 0, .int 0, .int 0, .int 0, .ref q_91, .ref q_92])), (q_91, .inl (cI, 14, .inl (fun _ => 0))), (q_92, .inl (cI, 14, .inl (fun _ => 0))), (q_49, .inr (6, [.int 0, .int 0, .int 0, .int 0, .ref q_93, .ref q_94])), (q_93, .inl (cI, 14, .inl (fun _ => 0))), (q_94, .inl (cI, 14, .inl (fun _ => 0))), (q_50, .inr (6, [.int 0, .int 0, .int 0, .int 0, .ref q_95, .ref q_96])), (q_95, .inl (cI, 14, .inl (fun _ => 0))), (q_96, .inl (cI, 14, .inl (fun _ => 0))), (q_51, .inr (6, [.int 0, .int 0, .int 0, .int 0, .ref q_97, .ref q_98])), (q_97, .inl (cI, 14, .inl (fun _ => 0))), (q_98, .inl (cI, 14, .inl (fun _ => 0))), (q_52, .inr (8, [.ref q_99, .int 0, .int (-1)])), (q_99, .inl (cJ, 40, .inr (.inl (fun _ => 0)))), (q_53, .inr (8, [.ref q_100, .int 0, .int (-1)])), (q_100, .inl (cJ, 40, .inr (.inl (fun _ => 0)))), (q_54, .inr (8, [.ref q_101, .int 0, .int (-1)])), (q_101, .inl (cJ, 40, .inr (.inl (fun _ => 0)))), (q_55, .inr (8, [.ref q_102, .int 0, .int (-1)])), (q_102, .inl (cJ, 40, .inr (.inl (fun _ => 0)))), (q_56, .inr (5, [.ref q_4, .int 0, .int 0, .int 0, .ref q_103, .ref q_104])), (q_103, .inl (cI, 14, .inl (fun _ => 0))), (q_104, .inl (cI, 14, .inl (fun _ => 0))), (q_57, .inr (5, [.ref q_4, .int 0, .int 0, .int 0, .ref q_105, .ref q_106])), (q_105, .inl (cI, 14, .inl (fun _ => 0))), (q_106, .inl (cI, 14, .inl (fun _ => 0))), (q_58, .inr (5, [.ref q_4, .int 0, .int 0, .int 0, .ref q_107, .ref q_108])), (q_107, .inl (cI, 14, .inl (fun _ => 0))), (q_108, .inl (cI, 14, .inl (fun _ => 0))), (q_59, .inr (5, [.ref q_4, .int 0, .int 0, .int 0, .ref q_109, .ref q_110])), (q_109, .inl (cI, 14, .inl (fun _ => 0))), (q_110, .inl (cI, 14, .inl (fun _ => 0))), (q_60, .inr (5, [.ref q_4, .int 0, .int 0, .int 0, .ref q_111, .ref q_112])), (q_111, .inl (cI, 14, .inl (fun _ => 0))), (q_112, .inl (cI, 14, .inl (fun _ => 0))), (q_114, .inr (12, [.int 0, .ref q_115, .ref q_116, .ref q_117, .ref q_118, .int 0, .int 0, .int 0, .int 0, .int 0, .int 0, .int 0, .int 0, .int 0, .int (-1), .ref q_119, .int 0, .ref q_120, .ref q_121, .ref q_122, .int 0, .ref q_123, .ref q_124, .int 0, .int 0, .int 0, .ref q_125, .ref q_126, .ref q_127, .ref q_128, .ref q_129, .ref q_130, .int 0, .ref q_131, .ref q_132, .ref q_133])), (q_116, .inl (cZ, 2, .inl (fun _ => 0))), (q_118, .inl (cI, 1302, .inl (fun _ => 0))), (q_119, .inl (cI, 900, .inl (fun _ => 0))), (q_120, .inl (cI, 14, .inl (fun _ => 0))), (q_121, .inl (cI, 14, .inl (fun _ => 0))), (q_122, .inl (cI, 14, .inl (fun _ => 0))), (q_123, .inl (cI, 31, .inl (fun _ => 0))), (q_124, .inl (cI, 31, .inl (fun _ => 0))), (q_125, .inl (cJ, 229376, .inr (.inl (fun _ => 0)))), (q_126, .inl (cZ, 16384, .inl (fun _ => 0))), (q_127, .inl (cB, 229376, .inl (fun _ => 0))), (q_128, .inl (cI, 5, .inl (fun _ => 0))), (q_129, .inl (cI, 5, .inl (fun _ => 0))), (q_130, .inl (cI, 186, .inl (fun _ => 0))), (q_131, .inl (cI, 4, .inl rs4)), (q_132, .inl (cI, 4, .inl (fun _ => 0))), (q_133, .inl (cJ, 160, .inr (.inl (fun _ => 0)))), (q_115, .inl (cI, 3906, .inl plc))]) (yt := [(10, 0, 0), (17, 0, 0), (0, 900, 0), (9, 900, 0)]) (us := [(21, q_4, q_15), (14, q_20, 0), (0, 0, 0), (13, 0, 0), (1, 900, 0), (19, 100, 0), (1, 14, 0), (1, 14, 0), (1, 14, 0), (1, 5, 0), (1, 5, 9), (16, 0, 0), (1, 14, 0), (1, 14, 0), (19, 0, 0), (1, 0, 0), (1, 0, 0), (1, 0, 0), (1, 0, 0), (1, 0, 0), (16, 0, 0), (1, 14, 0), (1, 14, 0), (16, 0, 0), (1, 14, 0), (1, 14, 0), (4, 10, 0), (5, 2, 0), (4, 2, 0), (6, 4, 0), (7, 5, 0), (15, 0, 0), (1, 14, 0), (1, 14, 1), (20, 0, 0), (1, 14, 1), (1, 14, 0), (2, 14, 0), (1, 14, 0), (1, 14, 0), (11, 0, 0), (1, 14, 0), (1, 14, 2), (1, 28, 3), (1, 28, 4), (1, 1, 0), (1, 14, 1), (1, 14, 0), (1, 5, 0), (1, 5, 0), (16, 0, 0), (1, 14, 0), (1, 14, 0), (16, 0, 0), (1, 14, 0), (1, 14, 0), (16, 0, 0), (1, 14, 0), (1, 14, 0), (16, 0, 0), (1, 14, 0), (1, 14, 0), (16, 0, 0), (1, 14, 0), (1, 14, 0), (16, 0, 0), (1, 14, 0), (1, 14, 0), (16, 0, 0), (1, 14, 0), (1, 14, 0), (16, 0, 0), (1, 14, 0), (1, 14, 0), (16, 0, 0), (1, 14, 0), (1, 14, 0), (16, 0, 0), (1, 14, 0), (1, 14, 0), (16, 0, 0), (1, 14, 0), (1, 14, 0), (16, 0, 0), (1, 14, 0), (1, 14, 0), (18, 0, 0), (2, 40, 0), (18, 0, 0), (2, 40, 0), (18, 0, 0), (2, 40, 0), (18, 0, 0), (2, 40, 0), (15, 0, 0), (1, 14, 0), (1, 14, 1), (15, 0, 0), (1, 14, 0), (1, 14, 1), (15, 0, 0), (1, 14, 0), (1, 14, 1), (15, 0, 0), (1, 14, 0), (1, 14, 1), (15, 0, 0), (1, 14, 0), (1, 14, 1), (22, 0, 0), (3, 2, 0), (8, 1302, 0), (1, 900, 0), (9, 14, 1), (9, 14, 8), (1, 14, 7), (1, 31, 0), (1, 31, 0), (2, 229376, 0), (3, 16384, 0), (0, 229376, 0), (1, 5, 0), (1, 5, 0), (1, 186, 0), (1, 4, 0), (1, 4, 6), (2, 160, 0), (8, 3906, 0)]) (O := [q_15, q_18, q_2, q_117]) (W := [(q_15, .inr (0, [.ref q_72, .int 0, .ref q_73, .ref q_74])), (q_18, .inr (7, [.ref q_22, .int 0, .int 0, .int 0, .int 0, .int 0, .int 0, .int (-1)])), (q_2, .inl (cB, 900, .inl (fun _ => 0))), (q_117, .inl (cI, 900, .inl (fun _ => 0))), (q_1, .inr (11, [.ref q_2, .int 0, .ref q_3, .ref q_4, .ref q_5, .ref q_6, .ref q_7, .int 0, .int 0, .ref q_8, .ref q_9, .ref q_10, .ref q_11, .ref q_12, .ref q_13, .ref q_14, .ref q_15, .ref q_16, .ref q_17, .int (-1)])), (q_3, .inr (4, [.ref q_18, .ref q_19, .ref q_20, .int 0, .ref q_21])), (q_22, .inl (cB, 0, .inl (fun _ => 0))), (q_19, .inr (3, [.ref q_18, .ref q_23, .int 0])), (q_23, .inl (cI, 900, .inl (fun _ => 0))), (q_20, .inr (9, [.int 14, .int 5, .int 0, .int 0, .int 0, .int 0, .ref q_24, .ref q_25, .ref q_26, .ref q_27, .ref q_28, .null, .int 0, .int 1])), (q_24, .inl (cI, 14, .inl (fun _ => 0))), (q_25, .inl (cI, 14, .inl (fun _ => 0))), (q_26, .inl (cI, 14, .inl (fun _ => 0))), (q_27, .inl (cI, 5, .inl (fun _ => 0))), (q_28, .inl (cI, 5, .inl (fun _ => 0))), (q_21, .inr (6, [.int 0, .int 0, .int 0, .int 0, .ref q_29, .ref q_30])), (q_29, .inl (cI, 14, .inl (fun _ => 0))), (q_30, .inl (cI, 14, .inl (fun _ => 0))), (q_4, .inr (9, [.int 0, .int 0, .int 0, .int 0, .int 0, .int 0, .ref q_31, .ref q_32, .ref q_33, .ref q_34, .ref q_35, .null, .int 0, .int 1])), (q_31, .inl (cI, 0, .inl (fun _ => 0))), (q_32, .inl (cI, 0, .inl (fun _ => 0))), (q_33, .inl (cI, 0, .inl (fun _ => 0))), (q_34, .inl (cI, 0, .inl (fun _ => 0))), (q_35, .inl (cI, 0, .inl (fun _ => 0))), (q_5, .inr (6, [.int 0, .int 0, .int 0, .int 0, .ref q_36, .ref q_37])), (q_36, .inl (cI, 14, .inl (fun _ => 0))), (q_37, .inl (cI, 14, .inl (fun _ => 0))), (q_6, .inr (6, [.int 0, .int 0, .int 0, .int 0, .ref q_38, .ref q_39])), (q_38, .inl (cI, 14, .inl (fun _ => 0))), (q_39, .inl (cI, 14, .inl (fun _ => 0))), (q_7, .inl (cS, 10, .inr (.inr (.inr (.inr (va_up (va_up (va_up (va_up (va_up (va_up (va_up (va_up (va_up (va_up (fun _ => none) 0 (some q_40)) 1 (some q_41)) 2 (some q_42)) 3 (some q_43)) 4 (some q_44)) 5 (some q_45)) 6 (some q_46)) 7 (some q_47)) 8 (some q_48)) 9 (some q_49))))))), (q_8, .inl (cW, 2, .inr (.inr (.inr (.inr (fun _ => none)))))), (q_9, .inl (cS, 2, .inr (.inr (.inr (.inr (va_up (va_up (fun _ => none) 0 (some q_50)) 1 (some q_51))))))), (q_10, .inl (cT, 4, .inr (.inr (.inr (.inr (va_up (va_up (va_up (va_up (fun _ => none) 0 (some q_52)) 1 (some q_53)) 2 (some q_54)) 3 (some q_55))))))), (q_11, .inl (cR, 5, .inr (.inr (.inr (.inr (va_up (va_up (va_up (va_up (va_up (fun _ => none) 0 (some q_56)) 1 (some q_57)) 2 (some q_58)) 3 (some q_59)) 4 (some q_60))))))), (q_12, .inr (5, [.ref q_4, .int 0, .int 0, .int 0, .ref q_61, .ref q_62])), (q_61, .inl (cI, 14, .inl (fun _ => 0))), (q_62, .inl (cI, 14, .inl (fun _ => 0))), (q_13, .inr (10, [.ref q_63, .ref q_64, .int 0, .ref q_65, .ref q_66, .ref q_67, .int 0])), (q_63, .inl (cI, 14, .inl (fun _ => 0))), (q_64, .inl (cI, 14, .inl (fun _ => 0))), (q_65, .inl (cJ, 14, .inr (.inl (fun _ => 0)))), (q_66, .inl (cI, 14, .inl (fun _ => 0))), (q_67, .inl (cI, 14, .inl (fun _ => 0))), (q_14, .inr (1, [.ref q_68, .ref q_69, .int 0, .ref q_70, .int 0, .int 0, .ref q_71])), (q_68, .inl (cI, 14, .inl (fun _ => 0))), (q_69, .inl (cI, 14, .inl (fun _ => 0))), (q_70, .inl (cI, 28, .inl (fun _ => 0))), (q_71, .inl (cI, 28, .inl (fun _ => 0))), (q_72, .inl (cI, 1, .inl (fun _ => 0))), (q_73, .inl (cI, 14, .inl (fun _ => 0))), (q_74, .inl (cI, 14, .inl (fun _ => 0))), (q_16, .inl (cI, 5, .inl (fun _ => 0))), (q_17, .inl (cI, 5, .inl (fun _ => 0))), (q_40, .inr (6, [.int 0, .int 0, .int 0, .int 0, .ref q_75, .ref q_76])), (q_75, .inl (cI, 14, .inl (fun _ => 0))), (q_76, .inl (cI, 14, .inl (fun _ => 0))), (q_41, .inr (6, [.int 0, .int 0, .int 0, .int 0, .ref q_77, .ref q_78])), (q_77, .inl (cI, 14, .inl (fun _ => 0))), (q_78, .inl (cI, 14, .inl (fun _ => 0))), (q_42, .inr (6, [.int 0, .int 0, .int 0, .int 0, .ref q_79, .ref q_80])), (q_79, .inl (cI, 14, .inl (fun _ => 0))), (q_80, .inl (cI, 14, .inl (fun _ => 0))), (q_43, .inr (6, [.int 0, .int 0, .int 0, .int 0, .ref q_81, .ref q_82])), (q_81, .inl (cI, 14, .inl (fun _ => 0))), (q_82, .inl (cI, 14, .inl (fun _ => 0))), (q_44, .inr (6, [.int 0, .int 0, .int 0, .int 0, .ref q_83, .ref q_84])), (q_83, .inl (cI, 14, .inl (fun _ => 0))), (q_84, .inl (cI, 14, .inl (fun _ => 0))), (q_45, .inr (6, [.int 0, .int 0, .int 0, .int 0, .ref q_85, .ref q_86])), (q_85, .inl (cI, 14, .inl (fun _ => 0))), (q_86, .inl (cI, 14, .inl (fun _ => 0))), (q_46, .inr (6, [.int 0, .int 0, .int 0, .int 0, .ref q_87, .ref q_88])), (q_87, .inl (cI, 14, .inl (fun _ => 0))), (q_88, .inl (cI, 14, .inl (fun _ => 0))), (q_47, .inr (6, [.int 0, .int 0, .int 0, .int 0, .ref q_89, .ref q_90])), (q_89, .inl (cI, 14, .inl (fun _ => 0))), (q_90, .inl (cI, 14, .inl (fun _ => 0))), (q_48, .inr (6, [.int 0, .int 0, .int 0, .int 0, .ref q_91, .ref q_92])), (q_91, .inl (cI, 14, .inl (fun _ => 0))), (q_92, .inl (cI, 14, .inl (fun _ => 0))), (q_49, .inr (6, [.int 0, .int 0, .int 0, .int 0, .ref q_93, .ref q_94])), (q_93, .inl (cI, 14, .inl (fun _ => 0))), (q_94, .inl (cI, 14, .inl (fun _ => 0))), (q_50, .inr (6, [.int 0, .int 0, .int 0, .int 0, .ref q_95, .ref q_96])), (q_95, .inl (cI, 14, .inl (fun _ => 0))), (q_96, .inl (cI, 14, .inl (fun _ => 0))), (q_51, .inr (6, [.int 0, .int 0, .int 0, .int 0, .ref q_97, .ref q_98])), (q_97, .inl (cI, 14, .inl (fun _ => 0))), (q_98, .inl (cI, 14, .inl (fun _ => 0))), (q_52, .inr (8, [.ref q_99, .int 0, .int (-1)])), (q_99, .inl (cJ, 40, .inr (.inl (fun _ => 0)))), (q_53, .inr (8, [.ref q_100, .int 0, .int (-1)])), (q_100, .inl (cJ, 40, .inr (.inl (fun _ => 0)))), (q_54, .inr (8, [.ref q_101, .int 0, .int (-1)])), (q_101, .inl (cJ, 40, .inr (.inl (fun _ => 0)))), (q_55, .inr (8, [.ref q_102, .int 0, .int (-1)])), (q_102, .inl (cJ, 40, .inr (.inl (fun _ => 0)))), (q_56, .inr (5, [.ref q_4, .int 0, .int 0, .int 0, .ref q_103, .ref q_104])), (q_103, .inl (cI, 14, .inl (fun _ => 0))), (q_104, .inl (cI, 14, .inl (fun _ => 0))), (q_57, .inr (5, [.ref q_4, .int 0, .int 0, .int 0, .ref q_105, .ref q_106])), (q_105, .inl (cI, 14, .inl (fun _ => 0))), (q_106, .inl (cI, 14, .inl (fun _ => 0))), (q_58, .inr (5, [.ref q_4, .int 0, .int 0, .int 0, .ref q_107, .ref q_108])), (q_107, .inl (cI, 14, .inl (fun _ => 0))), (q_108, .inl (cI, 14, .inl (fun _ => 0))), (q_59, .inr (5, [.ref q_4, .int 0, .int 0, .int 0, .ref q_109, .ref q_110])), (q_109, .inl (cI, 14, .inl (fun _ => 0))), (q_110, .inl (cI, 14, .inl (fun _ => 0))), (q_60, .inr (5, [.ref q_4, .int 0, .int 0, .int 0, .ref q_111, .ref q_112])), (q_111, .inl (cI, 14, .inl (fun _ => 0))), (q_112, .inl (cI, 14, .inl (fun _ => 0))), (q_114, .inr (12, [.int 0, .ref q_115, .ref q_116, .ref q_117, .ref q_118, .int 0, .int 0, .int 0, .int 0, .int 0, .int 0, .int 0, .int 0, .int 0, .int (-1), .ref q_119, .int 0, .ref q_120, .ref q_121, .ref q_122, .int 0, .ref q_123, .ref q_124, .int 0, .int 0, .int 0, .ref q_125, .ref q_126, .ref q_127, .ref q_128, .ref q_129, .ref q_130, .int 0, .ref q_131, .ref q_132, .ref q_133])), (q_116, .inl (cZ, 2, .inl (fun _ => 0))), (q_118, .inl (cI, 1302, .inl (fun _ => 0))), (q_119, .inl (cI, 900, .inl (fun _ => 0))), (q_120, .inl (cI, 14, .inl (fun _ => 0))), (q_121, .inl (cI, 14, .inl (fun _ => 0))), (q_122, .inl (cI, 14, .inl (fun _ => 0))), (q_123, .inl (cI, 31, .inl (fun _ => 0))), (q_124, .inl (cI, 31, .inl (fun _ => 0))), (q_125, .inl (cJ, 229376, .inr (.inl (fun _ => 0)))), (q_126, .inl (cZ, 16384, .inl (fun _ => 0))), (q_127, .inl (cB, 229376, .inl (fun _ => 0))), (q_128, .inl (cI, 5, .inl (fun _ => 0))), (q_129, .inl (cI, 5, .inl (fun _ => 0))), (q_130, .inl (cI, 186, .inl (fun _ => 0))), (q_131, .inl (cI, 4, .inl rs4)), (q_132, .inl (cI, 4, .inl (fun _ => 0))), (q_133, .inl (cJ, 160, .inr (.inl (fun _ => 0)))), (q_115, .inl (cI, 3906, .inl plc))]) (ts := [(10, 0, 0), (17, 0, 0), (0, 900, 0), (9, 900, 0), (21, q_4, q_15), (14, q_20, 0), (0, 0, 0), (13, 0, 0), (1, 900, 0), (19, 100, 0), (1, 14, 0), (1, 14, 0), (1, 14, 0), (1, 5, 0), (1, 5, 9), (16, 0, 0), (1, 14, 0), (1, 14, 0), (19, 0, 0), (1, 0, 0), (1, 0, 0), (1, 0, 0), (1, 0, 0), (1, 0, 0), (16, 0, 0), (1, 14, 0), (1, 14, 0), (16, 0, 0), (1, 14, 0), (1, 14, 0), (4, 10, 0), (5, 2, 0), (4, 2, 0), (6, 4, 0), (7, 5, 0), (15, 0, 0), (1, 14, 0), (1, 14, 1), (20, 0, 0), (1, 14, 1), (1, 14, 0), (2, 14, 0), (1, 14, 0), (1, 14, 0), (11, 0, 0), (1, 14, 0), (1, 14, 2), (1, 28, 3), (1, 28, 4), (1, 1, 0), (1, 14, 1), (1, 14, 0), (1, 5, 0), (1, 5, 0), (16, 0, 0), (1, 14, 0), (1, 14, 0), (16, 0, 0), (1, 14, 0), (1, 14, 0), (16, 0, 0), (1, 14, 0), (1, 14, 0), (16, 0, 0), (1, 14, 0), (1, 14, 0), (16, 0, 0), (1, 14, 0), (1, 14, 0), (16, 0, 0), (1, 14, 0), (1, 14, 0), (16, 0, 0), (1, 14, 0), (1, 14, 0), (16, 0, 0), (1, 14, 0), (1, 14, 0), (16, 0, 0), (1, 14, 0), (1, 14, 0), (16, 0, 0), (1, 14, 0), (1, 14, 0), (16, 0, 0), (1, 14, 0), (1, 14, 0), (16, 0, 0), (1, 14, 0), (1, 14, 0), (18, 0, 0), (2, 40, 0), (18, 0, 0), (2, 40, 0), (18, 0, 0), (2, 40, 0), (18, 0, 0), (2, 40, 0), (15, 0, 0), (1, 14, 0), (1, 14, 1), (15, 0, 0), (1, 14, 0), (1, 14, 1), (15, 0, 0), (1, 14, 0), (1, 14, 1), (15, 0, 0), (1, 14, 0), (1, 14, 1), (15, 0, 0), (1, 14, 0), (1, 14, 1), (22, 0, 0), (3, 2, 0), (8, 1302, 0), (1, 900, 0), (9, 14, 1), (9, 14, 8), (1, 14, 7), (1, 31, 0), (1, 31, 0), (2, 229376, 0), (3, 16384, 0), (0, 229376, 0), (1, 5, 0), (1, 5, 0), (1, 186, 0), (1, 4, 0), (1, 4, 6), (2, 160, 0), (8, 3906, 0)]) rfl rfl rfl rfl hP hD
  have t_q_15 : T q_15 = some (10, 0, 0) := hag 0 _ _ _ rfl rfl
  have t_q_18 : T q_18 = some (17, 0, 0) := hag 1 _ _ _ rfl rfl
  have t_q_2 : T q_2 = some (0, 900, 0) := hag 2 _ _ _ rfl rfl
  have t_q_117 : T q_117 = some (9, 900, 0) := hag 3 _ _ _ rfl rfl
  have t_q_1 : T q_1 = some (21, q_4, q_15) := hag 4 _ _ _ rfl rfl
  have t_q_3 : T q_3 = some (14, q_20, 0) := hag 5 _ _ _ rfl rfl
  have t_q_22 : T q_22 = some (0, 0, 0) := hag 6 _ _ _ rfl rfl
  have t_q_19 : T q_19 = some (13, 0, 0) := hag 7 _ _ _ rfl rfl
  have t_q_23 : T q_23 = some (1, 900, 0) := hag 8 _ _ _ rfl rfl
  have t_q_20 : T q_20 = some (19, 100, 0) := hag 9 _ _ _ rfl rfl
  have t_q_24 : T q_24 = some (1, 14, 0) := hag 10 _ _ _ rfl rfl
  have t_q_25 : T q_25 = some (1, 14, 0) := hag 11 _ _ _ rfl rfl
  have t_q_26 : T q_26 = some (1, 14, 0) := hag 12 _ _ _ rfl rfl
  have t_q_27 : T q_27 = some (1, 5, 0) := hag 13 _ _ _ rfl rfl
  have t_q_28 : T q_28 = some (1, 5, 9) := hag 14 _ _ _ rfl rfl
  have t_q_21 : T q_21 = some (16, 0, 0) := hag 15 _ _ _ rfl rfl
  have t_q_29 : T q_29 = some (1, 14, 0) := hag 16 _ _ _ rfl rfl
  have t_q_30 : T q_30 = some (1, 14, 0) := hag 17 _ _ _ rfl rfl
  have t_q_4 : T q_4 = some (19, 0, 0) := hag 18 _ _ _ rfl rfl
  have t_q_31 : T q_31 = some (1, 0, 0) := hag 19 _ _ _ rfl rfl
  have t_q_32 : T q_32 = some (1, 0, 0) := hag 20 _ _ _ rfl rfl
  have t_q_33 : T q_33 = some (1, 0, 0) := hag 21 _ _ _ rfl rfl
  have t_q_34 : T q_34 = some (1, 0, 0) := hag 22 _ _ _ rfl rfl
  have t_q_35 : T q_35 = some (1, 0, 0) := hag 23 _ _ _ rfl rfl
  have t_q_5 : T q_5 = some (16, 0, 0) := hag 24 _ _ _ rfl rfl
  have t_q_36 : T q_36 = some (1, 14, 0) := hag 25 _ _ _ rfl rfl
  have t_q_37 : T q_37 = some (1, 14, 0) := hag 26 _ _ _ rfl rfl
  have t_q_6 : T q_6 = some (16, 0, 0) := hag 27 _ _ _ rfl rfl
  have t_q_38 : T q_38 = some (1, 14, 0) := hag 28 _ _ _ rfl rfl
  have t_q_39 : T q_39 = some (1, 14, 0) := hag 29 _ _ _ rfl rfl
  have t_q_7 : T q_7 = some (4, 10, 0) := hag 30 _ _ _ rfl rfl
  have t_q_8 : T q_8 = some (5, 2, 0) := hag 31 _ _ _ rfl rfl
  have t_q_9 : T q_9 = some (4, 2, 0) := hag 32 _ _ _ rfl rfl
  have t_q_10 : T q_10 = some (6, 4, 0) := hag 33 _ _ _ rfl rfl
  have t_q_11 : T q_11 = some (7, 5, 0) := hag 34 _ _ _ rfl rfl
  have t_q_12 : T q_12 = some (15, 0, 0) := hag 35 _ _ _ rfl rfl
  have t_q_61 : T q_61 = some (1, 14, 0) := hag 36 _ _ _ rfl rfl
  have t_q_62 : T q_62 = some (1, 14, 1) := hag 37 _ _ _ rfl rfl
  have t_q_13 : T q_13 = some (20, 0, 0) := hag 38 _ _ _ rfl rfl
  have t_q_63 : T q_63 = some (1, 14, 1) := hag 39 _ _ _ rfl rfl
  have t_q_64 : T q_64 = some (1, 14, 0) := hag 40 _ _ _ rfl rfl
  have t_q_65 : T q_65 = some (2, 14, 0) := hag 41 _ _ _ rfl rfl
  have t_q_66 : T q_66 = some (1, 14, 0) := hag 42 _ _ _ rfl rfl
  have t_q_67 : T q_67 = some (1, 14, 0) := hag 43 _ _ _ rfl rfl
  have t_q_14 : T q_14 = some (11, 0, 0) := hag 44 _ _ _ rfl rfl
  have t_q_68 : T q_68 = some (1, 14, 0) := hag 45 _ _ _ rfl rfl
  have t_q_69 : T q_69 = some (1, 14, 2) := hag 46 _ _ _ rfl rfl
  have t_q_70 : T q_70 = some (1, 28, 3) := hag 47 _ _ _ rfl rfl
  have t_q_71 : T q_71 = some (1, 28, 4) := hag 48 _ _ _ rfl rfl
  have t_q_72 : T q_72 = some (1, 1, 0) := hag 49 _ _ _ rfl rfl
  have t_q_73 : T q_73 = some (1, 14, 1) := hag 50 _ _ _ rfl rfl
  have t_q_74 : T q_74 = some (1, 14, 0) := hag 51 _ _ _ rfl rfl
  have t_q_16 : T q_16 = some (1, 5, 0) := hag 52 _ _ _ rfl rfl
  have t_q_17 : T q_17 = some (1, 5, 0) := hag 53 _ _ _ rfl rfl
  have t_q_40 : T q_40 = some (16, 0, 0) := hag 54 _ _ _ rfl rfl
  have t_q_75 : T q_75 = some (1, 14, 0) := hag 55 _ _ _ rfl rfl
  have t_q_76 : T q_76 = some (1, 14, 0) := hag 56 _ _ _ rfl rfl
  have t_q_41 : T q_41 = some (16, 0, 0) := hag 57 _ _ _ rfl rfl
  have t_q_77 : T q_77 = some (1, 14, 0) := hag 58 _ _ _ rfl rfl
  have t_q_78 : T q_78 = some (1, 14, 0) := hag 59 _ _ _ rfl rfl
  have t_q_42 : T q_42 = some (16, 0, 0) := hag 60 _ _ _ rfl rfl
  have t_q_79 : T q_79 = some (1, 14, 0) := hag 61 _ _ _ rfl rfl
  have t_q_80 : T q_80 = some (1, 14, 0) := hag 62 _ _ _ rfl rfl
  have t_q_43 : T q_43 = some (16, 0, 0) := hag 63 _ _ _ rfl rfl
  have t_q_81 : T q_81 = some (1, 14, 0) := hag 64 _ _ _ rfl rfl
  have t_q_82 : T q_82 = some (1, 14, 0) := hag 65 _ _ _ rfl rfl
  have t_q_44 : T q_44 = some (16, 0, 0) := hag 66 _ _ _ rfl rfl
  have t_q_83 : T q_83 = some (1, 14, 0) := hag 67 _ _ _ rfl rfl
  have t_q_84 : T q_84 = some (1, 14, 0) := hag 68 _ _ _ rfl rfl
  have t_q_45 : T q_45 = some (16, 0, 0) := hag 69 _ _ _ rfl rfl
  have t_q_85 : T q_85 = some (1, 14, 0) := hag 70 _ _ _ rfl rfl
  have t_q_86 : T q_86 = some (1, 14, 0) := hag 71 _ _ _ rfl rfl
  have t_q_46 : T q_46 = some (16, 0, 0) := hag 72 _ _ _ rfl rfl
  have t_q_87 : T q_87 = some (1, 14, 0) := hag 73 _ _ _ rfl rfl
  have t_q_88 : T q_88 = some (1, 14, 0) := hag 74 _ _ _ rfl rfl
  have t_q_47 : T q_47 = some (16, 0, 0) := hag 75 _ _ _ rfl rfl
  have t_q_89 : T q_89 = some (1, 14, 0) := hag 76 _ _ _ rfl rfl
  have t_q_90 : T q_90 = some (1, 14, 0) := hag 77 _ _ _ rfl rfl
  have t_q_48 : T q_48 = some (16, 0, 0) := hag 78 _ _ _ rfl rfl
  have t_q_91 : T q_91 = some (1, 14, 0) := hag 79 _ _ _ rfl rfl
  have t_q_92 : T q_92 = some (1, 14, 0) := hag 80 _ _ _ rfl rfl
  have t_q_49 : T q_49 = some (16, 0, 0) := hag 81 _ _ _ rfl rfl
  have t_q_93 : T q_93 = some (1, 14, 0) := hag 82 _ _ _ rfl rfl
  have t_q_94 : T q_94 = some (1, 14, 0) := hag 83 _ _ _ rfl rfl
  have t_q_50 : T q_50 = some (16, 0, 0) := hag 84 _ _ _ rfl rfl
  have t_q_95 : T q_95 = some (1, 14, 0) := hag 85 _ _ _ rfl rfl
  have t_q_96 : T q_96 = some (1, 14, 0) := hag 86 _ _ _ rfl rfl
  have t_q_51 : T q_51 = some (16, 0, 0) := hag 87 _ _ _ rfl rfl
  have t_q_97 : T q_97 = some (1, 14, 0) := hag 88 _ _ _ rfl rfl
  have t_q_98 : T q_98 = some (1, 14, 0) := hag 89 _ _ _ rfl rfl
  have t_q_52 : T q_52 = some (18, 0, 0) := hag 90 _ _ _ rfl rfl
  have t_q_99 : T q_99 = some (2, 40, 0) := hag 91 _ _ _ rfl rfl
  have t_q_53 : T q_53 = some (18, 0, 0) := hag 92 _ _ _ rfl rfl
  have t_q_100 : T q_100 = some (2, 40, 0) := hag 93 _ _ _ rfl rfl
  have t_q_54 : T q_54 = some (18, 0, 0) := hag 94 _ _ _ rfl rfl
  have t_q_101 : T q_101 = some (2, 40, 0) := hag 95 _ _ _ rfl rfl
  have t_q_55 : T q_55 = some (18, 0, 0) := hag 96 _ _ _ rfl rfl
  have t_q_102 : T q_102 = some (2, 40, 0) := hag 97 _ _ _ rfl rfl
  have t_q_56 : T q_56 = some (15, 0, 0) := hag 98 _ _ _ rfl rfl
  have t_q_103 : T q_103 = some (1, 14, 0) := hag 99 _ _ _ rfl rfl
  have t_q_104 : T q_104 = some (1, 14, 1) := hag 100 _ _ _ rfl rfl
  have t_q_57 : T q_57 = some (15, 0, 0) := hag 101 _ _ _ rfl rfl
  have t_q_105 : T q_105 = some (1, 14, 0) := hag 102 _ _ _ rfl rfl
  have t_q_106 : T q_106 = some (1, 14, 1) := hag 103 _ _ _ rfl rfl
  have t_q_58 : T q_58 = some (15, 0, 0) := hag 104 _ _ _ rfl rfl
  have t_q_107 : T q_107 = some (1, 14, 0) := hag 105 _ _ _ rfl rfl
  have t_q_108 : T q_108 = some (1, 14, 1) := hag 106 _ _ _ rfl rfl
  have t_q_59 : T q_59 = some (15, 0, 0) := hag 107 _ _ _ rfl rfl
  have t_q_109 : T q_109 = some (1, 14, 0) := hag 108 _ _ _ rfl rfl
  have t_q_110 : T q_110 = some (1, 14, 1) := hag 109 _ _ _ rfl rfl
  have t_q_60 : T q_60 = some (15, 0, 0) := hag 110 _ _ _ rfl rfl
  have t_q_111 : T q_111 = some (1, 14, 0) := hag 111 _ _ _ rfl rfl
  have t_q_112 : T q_112 = some (1, 14, 1) := hag 112 _ _ _ rfl rfl
  have t_q_114 : T q_114 = some (22, 0, 0) := hag 113 _ _ _ rfl rfl
  have t_q_116 : T q_116 = some (3, 2, 0) := hag 114 _ _ _ rfl rfl
  have t_q_118 : T q_118 = some (8, 1302, 0) := hag 115 _ _ _ rfl rfl
  have t_q_119 : T q_119 = some (1, 900, 0) := hag 116 _ _ _ rfl rfl
  have t_q_120 : T q_120 = some (9, 14, 1) := hag 117 _ _ _ rfl rfl
  have t_q_121 : T q_121 = some (9, 14, 8) := hag 118 _ _ _ rfl rfl
  have t_q_122 : T q_122 = some (1, 14, 7) := hag 119 _ _ _ rfl rfl
  have t_q_123 : T q_123 = some (1, 31, 0) := hag 120 _ _ _ rfl rfl
  have t_q_124 : T q_124 = some (1, 31, 0) := hag 121 _ _ _ rfl rfl
  have t_q_125 : T q_125 = some (2, 229376, 0) := hag 122 _ _ _ rfl rfl
  have t_q_126 : T q_126 = some (3, 16384, 0) := hag 123 _ _ _ rfl rfl
  have t_q_127 : T q_127 = some (0, 229376, 0) := hag 124 _ _ _ rfl rfl
  have t_q_128 : T q_128 = some (1, 5, 0) := hag 125 _ _ _ rfl rfl
  have t_q_129 : T q_129 = some (1, 5, 0) := hag 126 _ _ _ rfl rfl
  have t_q_130 : T q_130 = some (1, 186, 0) := hag 127 _ _ _ rfl rfl
  have t_q_131 : T q_131 = some (1, 4, 0) := hag 128 _ _ _ rfl rfl
  have t_q_132 : T q_132 = some (1, 4, 6) := hag 129 _ _ _ rfl rfl
  have t_q_133 : T q_133 = some (2, 160, 0) := hag 130 _ _ _ rfl rfl
  have t_q_115 : T q_115 = some (8, 3906, 0) := hag 131 _ _ _ rfl rfl
  have s_q_1 : sp (cB, cI, cJ, cZ, cS, cW, cT, cR) T (21, q_4, q_15) (.inr (11, [.ref q_2, .int 0, .ref q_3, .ref q_4, .ref q_5, .ref q_6, .ref q_7, .int 0, .int 0, .ref q_8, .ref q_9, .ref q_10, .ref q_11, .ref q_12, .ref q_13, .ref q_14, .ref q_15, .ref q_16, .ref q_17, .int (-1)])) := ⟨_, rfl, okL_c (⟨_, rfl, t_q_2⟩) (okL_c (⟨_, rfl, by decide, by decide, tl_of t_q_15 (by decide)⟩) (okL_c (⟨_, _, rfl, t_q_3, t_q_20⟩) (okL_c (rfl) (okL_c (⟨_, rfl, t_q_5⟩) (okL_c (⟨_, rfl, t_q_6⟩) (okL_c (⟨_, rfl, t_q_7⟩) (okL_c (⟨_, rfl, by decide, by decide⟩) (okL_c (⟨_, rfl, by decide, by decide⟩) (okL_c (⟨_, rfl, t_q_8⟩) (okL_c (⟨_, rfl, t_q_9⟩) (okL_c (⟨_, rfl, t_q_10⟩) (okL_c (⟨_, rfl, t_q_11⟩) (okL_c (⟨_, rfl, t_q_12⟩) (okL_c (⟨_, rfl, t_q_13⟩) (okL_c (⟨_, rfl, t_q_14⟩) (okL_c (rfl) (okL_c (⟨_, rfl, t_q_16⟩) (okL_c (⟨_, rfl, t_q_17⟩) (okL_c (⟨_, rfl⟩) (okL_n))))))))))))))))))))⟩
  have s_q_3 : sp (cB, cI, cJ, cZ, cS, cW, cT, cR) T (14, q_20, 0) (.inr (4, [.ref q_18, .ref q_19, .ref q_20, .int 0, .ref q_21])) := ⟨_, rfl, okL_c (⟨_, rfl, t_q_18⟩) (okL_c (⟨_, rfl, t_q_19⟩) (okL_c (rfl) (okL_c (⟨_, rfl, by decide, by decide⟩) (okL_c (⟨_, rfl, t_q_21⟩) (okL_n)))))⟩
  have s_q_22 : sp (cB, cI, cJ, cZ, cS, cW, cT, cR) T (0, 0, 0) (.inl (cB, 0, .inl (fun _ => 0))) := ⟨_, rfl⟩
  have s_q_19 : sp (cB, cI, cJ, cZ, cS, cW, cT, cR) T (13, 0, 0) (.inr (3, [.ref q_18, .ref q_23, .int 0])) := ⟨_, rfl, okL_c (⟨_, rfl, t_q_18⟩) (okL_c (⟨_, rfl, t_q_23⟩) (okL_c (⟨_, rfl, by decide, by decide⟩) (okL_n)))⟩
  have s_q_23 : sp (cB, cI, cJ, cZ, cS, cW, cT, cR) T (1, 900, 0) (.inl (cI, 900, .inl (fun _ => 0))) := ⟨_, rfl, fun _ => cp_0 _⟩
  have s_q_20 : sp (cB, cI, cJ, cZ, cS, cW, cT, cR) T (19, 100, 0) (.inr (9, [.int 14, .int 5, .int 0, .int 0, .int 0, .int 0, .ref q_24, .ref q_25, .ref q_26, .ref q_27, .ref q_28, .null, .int 0, .int 1])) := ⟨_, rfl, (ob9d _).mpr (okL_c (⟨_, rfl, by decide, by decide⟩) (okL_c (⟨_, rfl, by decide, by decide⟩) (okL_c (⟨_, rfl⟩) (okL_c (⟨_, rfl, by decide, by decide⟩) (okL_c (⟨_, rfl, by decide, by decide⟩) (okL_c (⟨_, rfl, by decide, by decide⟩) (okL_c (⟨_, rfl, t_q_24⟩) (okL_c (⟨_, rfl, t_q_25⟩) (okL_c (⟨_, rfl, t_q_26⟩) (okL_c (⟨_, rfl, t_q_27⟩) (okL_c (⟨_, rfl, t_q_28⟩) (okL_c (rfl) (okL_c (⟨_, rfl, by decide, by decide⟩) (okL_c (⟨_, rfl, by decide, by decide⟩) (okL_n)))))))))))))))⟩
  have s_q_24 : sp (cB, cI, cJ, cZ, cS, cW, cT, cR) T (1, 14, 0) (.inl (cI, 14, .inl (fun _ => 0))) := ⟨_, rfl, fun _ => cp_0 _⟩
  have s_q_25 : sp (cB, cI, cJ, cZ, cS, cW, cT, cR) T (1, 14, 0) (.inl (cI, 14, .inl (fun _ => 0))) := ⟨_, rfl, fun _ => cp_0 _⟩
  have s_q_26 : sp (cB, cI, cJ, cZ, cS, cW, cT, cR) T (1, 14, 0) (.inl (cI, 14, .inl (fun _ => 0))) := ⟨_, rfl, fun _ => cp_0 _⟩
  have s_q_27 : sp (cB, cI, cJ, cZ, cS, cW, cT, cR) T (1, 5, 0) (.inl (cI, 5, .inl (fun _ => 0))) := ⟨_, rfl, fun _ => cp_0 _⟩
  have s_q_28 : sp (cB, cI, cJ, cZ, cS, cW, cT, cR) T (1, 5, 9) (.inl (cI, 5, .inl (fun _ => 0))) := ⟨_, rfl, fun _ => cz (by decide)⟩
  have s_q_21 : sp (cB, cI, cJ, cZ, cS, cW, cT, cR) T (16, 0, 0) (.inr (6, [.int 0, .int 0, .int 0, .int 0, .ref q_29, .ref q_30])) := ⟨_, rfl, okL_c (⟨_, rfl⟩) (okL_c (⟨_, rfl⟩) (okL_c (⟨_, rfl⟩) (okL_c (⟨_, rfl⟩) (okL_c (⟨_, rfl, t_q_29⟩) (okL_c (⟨_, rfl, t_q_30⟩) (okL_n))))))⟩
  have s_q_29 : sp (cB, cI, cJ, cZ, cS, cW, cT, cR) T (1, 14, 0) (.inl (cI, 14, .inl (fun _ => 0))) := ⟨_, rfl, fun _ => cp_0 _⟩
  have s_q_30 : sp (cB, cI, cJ, cZ, cS, cW, cT, cR) T (1, 14, 0) (.inl (cI, 14, .inl (fun _ => 0))) := ⟨_, rfl, fun _ => cp_0 _⟩
  have s_q_4 : sp (cB, cI, cJ, cZ, cS, cW, cT, cR) T (19, 0, 0) (.inr (9, [.int 0, .int 0, .int 0, .int 0, .int 0, .int 0, .ref q_31, .ref q_32, .ref q_33, .ref q_34, .ref q_35, .null, .int 0, .int 1])) := ⟨_, rfl, (ob9w (⟨t_q_4, by decide, by decide⟩ : isW T q_4 0 0) _).mpr (okL_c (rfl) (okL_c (rfl) (okL_c (⟨_, rfl⟩) (okL_c (⟨_, rfl, by decide, by decide⟩) (okL_c (⟨_, rfl, by decide, by decide⟩) (okL_c (⟨_, rfl, by decide, by decide⟩) (okL_c (⟨_, rfl, t_q_31⟩) (okL_c (⟨_, rfl, t_q_32⟩) (okL_c (⟨_, rfl, t_q_33⟩) (okL_c (⟨_, rfl, t_q_34⟩) (okL_c (⟨_, rfl, t_q_35⟩) (okL_c (Or.inl rfl) (okL_c (⟨_, rfl, by decide, by decide⟩) (okL_c (⟨_, rfl, by decide, by decide⟩) (okL_n)))))))))))))))⟩
  have s_q_31 : sp (cB, cI, cJ, cZ, cS, cW, cT, cR) T (1, 0, 0) (.inl (cI, 0, .inl (fun _ => 0))) := ⟨_, rfl, fun _ => cp_0 _⟩
  have s_q_32 : sp (cB, cI, cJ, cZ, cS, cW, cT, cR) T (1, 0, 0) (.inl (cI, 0, .inl (fun _ => 0))) := ⟨_, rfl, fun _ => cp_0 _⟩
  have s_q_33 : sp (cB, cI, cJ, cZ, cS, cW, cT, cR) T (1, 0, 0) (.inl (cI, 0, .inl (fun _ => 0))) := ⟨_, rfl, fun _ => cp_0 _⟩
  have s_q_34 : sp (cB, cI, cJ, cZ, cS, cW, cT, cR) T (1, 0, 0) (.inl (cI, 0, .inl (fun _ => 0))) := ⟨_, rfl, fun _ => cp_0 _⟩
  have s_q_35 : sp (cB, cI, cJ, cZ, cS, cW, cT, cR) T (1, 0, 0) (.inl (cI, 0, .inl (fun _ => 0))) := ⟨_, rfl, fun _ => cp_0 _⟩
  have s_q_5 : sp (cB, cI, cJ, cZ, cS, cW, cT, cR) T (16, 0, 0) (.inr (6, [.int 0, .int 0, .int 0, .int 0, .ref q_36, .ref q_37])) := ⟨_, rfl, okL_c (⟨_, rfl⟩) (okL_c (⟨_, rfl⟩) (okL_c (⟨_, rfl⟩) (okL_c (⟨_, rfl⟩) (okL_c (⟨_, rfl, t_q_36⟩) (okL_c (⟨_, rfl, t_q_37⟩) (okL_n))))))⟩
  have s_q_36 : sp (cB, cI, cJ, cZ, cS, cW, cT, cR) T (1, 14, 0) (.inl (cI, 14, .inl (fun _ => 0))) := ⟨_, rfl, fun _ => cp_0 _⟩
  have s_q_37 : sp (cB, cI, cJ, cZ, cS, cW, cT, cR) T (1, 14, 0) (.inl (cI, 14, .inl (fun _ => 0))) := ⟨_, rfl, fun _ => cp_0 _⟩
  have s_q_6 : sp (cB, cI, cJ, cZ, cS, cW, cT, cR) T (16, 0, 0) (.inr (6, [.int 0, .int 0, .int 0, .int 0, .ref q_38, .ref q_39])) := ⟨_, rfl, okL_c (⟨_, rfl⟩) (okL_c (⟨_, rfl⟩) (okL_c (⟨_, rfl⟩) (okL_c (⟨_, rfl⟩) (okL_c (⟨_, rfl, t_q_38⟩) (okL_c (⟨_, rfl, t_q_39⟩) (okL_n))))))⟩
  have s_q_38 : sp (cB, cI, cJ, cZ, cS, cW, cT, cR) T (1, 14, 0) (.inl (cI, 14, .inl (fun _ => 0))) := ⟨_, rfl, fun _ => cp_0 _⟩
  have s_q_39 : sp (cB, cI, cJ, cZ, cS, cW, cT, cR) T (1, 14, 0) (.inl (cI, 14, .inl (fun _ => 0))) := ⟨_, rfl, fun _ => cp_0 _⟩
  have s_q_7 : sp (cB, cI, cJ, cZ, cS, cW, cT, cR) T (4, 10, 0) (.inl (cS, 10, .inr (.inr (.inr (.inr (va_up (va_up (va_up (va_up (va_up (va_up (va_up (va_up (va_up (va_up (fun _ => none) 0 (some q_40)) 1 (some q_41)) 2 (some q_42)) 3 (some q_43)) 4 (some q_44)) 5 (some q_45)) 6 (some q_46)) 7 (some q_47)) 8 (some q_48)) 9 (some q_49))))))) := ⟨_, rfl, fun j hj => by
      match j, hj with
      | 0, _ => exact ⟨_, rfl, t_q_40⟩
      | 1, _ => exact ⟨_, rfl, t_q_41⟩
      | 2, _ => exact ⟨_, rfl, t_q_42⟩
      | 3, _ => exact ⟨_, rfl, t_q_43⟩
      | 4, _ => exact ⟨_, rfl, t_q_44⟩
      | 5, _ => exact ⟨_, rfl, t_q_45⟩
      | 6, _ => exact ⟨_, rfl, t_q_46⟩
      | 7, _ => exact ⟨_, rfl, t_q_47⟩
      | 8, _ => exact ⟨_, rfl, t_q_48⟩
      | 9, _ => exact ⟨_, rfl, t_q_49⟩
      | j + 10, hj => omega⟩
  have s_q_8 : sp (cB, cI, cJ, cZ, cS, cW, cT, cR) T (5, 2, 0) (.inl (cW, 2, .inr (.inr (.inr (.inr (fun _ => none)))))) := ⟨_, rfl, fun j a h => by cases h⟩
  have s_q_9 : sp (cB, cI, cJ, cZ, cS, cW, cT, cR) T (4, 2, 0) (.inl (cS, 2, .inr (.inr (.inr (.inr (va_up (va_up (fun _ => none) 0 (some q_50)) 1 (some q_51))))))) := ⟨_, rfl, fun j hj => by
      match j, hj with
      | 0, _ => exact ⟨_, rfl, t_q_50⟩
      | 1, _ => exact ⟨_, rfl, t_q_51⟩
      | j + 2, hj => omega⟩
  have s_q_10 : sp (cB, cI, cJ, cZ, cS, cW, cT, cR) T (6, 4, 0) (.inl (cT, 4, .inr (.inr (.inr (.inr (va_up (va_up (va_up (va_up (fun _ => none) 0 (some q_52)) 1 (some q_53)) 2 (some q_54)) 3 (some q_55))))))) := ⟨_, rfl, fun j hj => by
      match j, hj with
      | 0, _ => exact ⟨_, rfl, t_q_52⟩
      | 1, _ => exact ⟨_, rfl, t_q_53⟩
      | 2, _ => exact ⟨_, rfl, t_q_54⟩
      | 3, _ => exact ⟨_, rfl, t_q_55⟩
      | j + 4, hj => omega⟩
  have s_q_11 : sp (cB, cI, cJ, cZ, cS, cW, cT, cR) T (7, 5, 0) (.inl (cR, 5, .inr (.inr (.inr (.inr (va_up (va_up (va_up (va_up (va_up (fun _ => none) 0 (some q_56)) 1 (some q_57)) 2 (some q_58)) 3 (some q_59)) 4 (some q_60))))))) := ⟨_, rfl, fun j hj => by
      match j, hj with
      | 0, _ => exact ⟨_, rfl, t_q_56⟩
      | 1, _ => exact ⟨_, rfl, t_q_57⟩
      | 2, _ => exact ⟨_, rfl, t_q_58⟩
      | 3, _ => exact ⟨_, rfl, t_q_59⟩
      | 4, _ => exact ⟨_, rfl, t_q_60⟩
      | j + 5, hj => omega⟩
  have s_q_12 : sp (cB, cI, cJ, cZ, cS, cW, cT, cR) T (15, 0, 0) (.inr (5, [.ref q_4, .int 0, .int 0, .int 0, .ref q_61, .ref q_62])) := ⟨_, rfl, okL_c (⟨_, _, _, rfl, t_q_4, by decide, by decide⟩) (okL_c (⟨_, rfl⟩) (okL_c (⟨_, rfl⟩) (okL_c (⟨_, rfl⟩) (okL_c (⟨_, rfl, t_q_61⟩) (okL_c (⟨_, rfl, t_q_62⟩) (okL_n))))))⟩
  have s_q_61 : sp (cB, cI, cJ, cZ, cS, cW, cT, cR) T (1, 14, 0) (.inl (cI, 14, .inl (fun _ => 0))) := ⟨_, rfl, fun _ => cp_0 _⟩
  have s_q_62 : sp (cB, cI, cJ, cZ, cS, cW, cT, cR) T (1, 14, 1) (.inl (cI, 14, .inl (fun _ => 0))) := ⟨_, rfl, fun _ => cz (by decide)⟩
  have s_q_13 : sp (cB, cI, cJ, cZ, cS, cW, cT, cR) T (20, 0, 0) (.inr (10, [.ref q_63, .ref q_64, .int 0, .ref q_65, .ref q_66, .ref q_67, .int 0])) := ⟨_, rfl, okL_c (⟨_, rfl, t_q_63⟩) (okL_c (⟨_, rfl, t_q_64⟩) (okL_c (⟨_, rfl, by decide, by decide⟩) (okL_c (⟨_, rfl, t_q_65⟩) (okL_c (⟨_, rfl, t_q_66⟩) (okL_c (⟨_, rfl, t_q_67⟩) (okL_c (⟨_, rfl, by decide, by decide⟩) (okL_n)))))))⟩
  have s_q_63 : sp (cB, cI, cJ, cZ, cS, cW, cT, cR) T (1, 14, 1) (.inl (cI, 14, .inl (fun _ => 0))) := ⟨_, rfl, fun _ => cz (by decide)⟩
  have s_q_64 : sp (cB, cI, cJ, cZ, cS, cW, cT, cR) T (1, 14, 0) (.inl (cI, 14, .inl (fun _ => 0))) := ⟨_, rfl, fun _ => cp_0 _⟩
  have s_q_65 : sp (cB, cI, cJ, cZ, cS, cW, cT, cR) T (2, 14, 0) (.inl (cJ, 14, .inr (.inl (fun _ => 0)))) := ⟨_, rfl⟩
  have s_q_66 : sp (cB, cI, cJ, cZ, cS, cW, cT, cR) T (1, 14, 0) (.inl (cI, 14, .inl (fun _ => 0))) := ⟨_, rfl, fun _ => cp_0 _⟩
  have s_q_67 : sp (cB, cI, cJ, cZ, cS, cW, cT, cR) T (1, 14, 0) (.inl (cI, 14, .inl (fun _ => 0))) := ⟨_, rfl, fun _ => cp_0 _⟩
  have s_q_14 : sp (cB, cI, cJ, cZ, cS, cW, cT, cR) T (11, 0, 0) (.inr (1, [.ref q_68, .ref q_69, .int 0, .ref q_70, .int 0, .int 0, .ref q_71])) := ⟨_, rfl, okL_c (⟨_, rfl, t_q_68⟩) (okL_c (⟨_, rfl, t_q_69⟩) (okL_c (⟨_, rfl⟩) (okL_c (⟨_, rfl, t_q_70⟩) (okL_c (⟨_, rfl, by decide, by decide⟩) (okL_c (⟨_, rfl⟩) (okL_c (⟨_, rfl, t_q_71⟩) (okL_n)))))))⟩
  have s_q_68 : sp (cB, cI, cJ, cZ, cS, cW, cT, cR) T (1, 14, 0) (.inl (cI, 14, .inl (fun _ => 0))) := ⟨_, rfl, fun _ => cp_0 _⟩
  have s_q_69 : sp (cB, cI, cJ, cZ, cS, cW, cT, cR) T (1, 14, 2) (.inl (cI, 14, .inl (fun _ => 0))) := ⟨_, rfl, fun _ => cz (by decide)⟩
  have s_q_70 : sp (cB, cI, cJ, cZ, cS, cW, cT, cR) T (1, 28, 3) (.inl (cI, 28, .inl (fun _ => 0))) := ⟨_, rfl, fun _ => cz (by decide)⟩
  have s_q_71 : sp (cB, cI, cJ, cZ, cS, cW, cT, cR) T (1, 28, 4) (.inl (cI, 28, .inl (fun _ => 0))) := ⟨_, rfl, fun _ => cz (by decide)⟩
  have s_q_72 : sp (cB, cI, cJ, cZ, cS, cW, cT, cR) T (1, 1, 0) (.inl (cI, 1, .inl (fun _ => 0))) := ⟨_, rfl, fun _ => cp_0 _⟩
  have s_q_73 : sp (cB, cI, cJ, cZ, cS, cW, cT, cR) T (1, 14, 1) (.inl (cI, 14, .inl (fun _ => 0))) := ⟨_, rfl, fun _ => cz (by decide)⟩
  have s_q_74 : sp (cB, cI, cJ, cZ, cS, cW, cT, cR) T (1, 14, 0) (.inl (cI, 14, .inl (fun _ => 0))) := ⟨_, rfl, fun _ => cp_0 _⟩
  have s_q_16 : sp (cB, cI, cJ, cZ, cS, cW, cT, cR) T (1, 5, 0) (.inl (cI, 5, .inl (fun _ => 0))) := ⟨_, rfl, fun _ => cp_0 _⟩
  have s_q_17 : sp (cB, cI, cJ, cZ, cS, cW, cT, cR) T (1, 5, 0) (.inl (cI, 5, .inl (fun _ => 0))) := ⟨_, rfl, fun _ => cp_0 _⟩
  have s_q_40 : sp (cB, cI, cJ, cZ, cS, cW, cT, cR) T (16, 0, 0) (.inr (6, [.int 0, .int 0, .int 0, .int 0, .ref q_75, .ref q_76])) := ⟨_, rfl, okL_c (⟨_, rfl⟩) (okL_c (⟨_, rfl⟩) (okL_c (⟨_, rfl⟩) (okL_c (⟨_, rfl⟩) (okL_c (⟨_, rfl, t_q_75⟩) (okL_c (⟨_, rfl, t_q_76⟩) (okL_n))))))⟩
  have s_q_75 : sp (cB, cI, cJ, cZ, cS, cW, cT, cR) T (1, 14, 0) (.inl (cI, 14, .inl (fun _ => 0))) := ⟨_, rfl, fun _ => cp_0 _⟩
  have s_q_76 : sp (cB, cI, cJ, cZ, cS, cW, cT, cR) T (1, 14, 0) (.inl (cI, 14, .inl (fun _ => 0))) := ⟨_, rfl, fun _ => cp_0 _⟩
  have s_q_41 : sp (cB, cI, cJ, cZ, cS, cW, cT, cR) T (16, 0, 0) (.inr (6, [.int 0, .int 0, .int 0, .int 0, .ref q_77, .ref q_78])) := ⟨_, rfl, okL_c (⟨_, rfl⟩) (okL_c (⟨_, rfl⟩) (okL_c (⟨_, rfl⟩) (okL_c (⟨_, rfl⟩) (okL_c (⟨_, rfl, t_q_77⟩) (okL_c (⟨_, rfl, t_q_78⟩) (okL_n))))))⟩
  have s_q_77 : sp (cB, cI, cJ, cZ, cS, cW, cT, cR) T (1, 14, 0) (.inl (cI, 14, .inl (fun _ => 0))) := ⟨_, rfl, fun _ => cp_0 _⟩
  have s_q_78 : sp (cB, cI, cJ, cZ, cS, cW, cT, cR) T (1, 14, 0) (.inl (cI, 14, .inl (fun _ => 0))) := ⟨_, rfl, fun _ => cp_0 _⟩
  have s_q_42 : sp (cB, cI, cJ, cZ, cS, cW, cT, cR) T (16, 0, 0) (.inr (6, [.int 0, .int 0, .int 0, .int 0, .ref q_79, .ref q_80])) := ⟨_, rfl, okL_c (⟨_, rfl⟩) (okL_c (⟨_, rfl⟩) (okL_c (⟨_, rfl⟩) (okL_c (⟨_, rfl⟩) (okL_c (⟨_, rfl, t_q_79⟩) (okL_c (⟨_, rfl, t_q_80⟩) (okL_n))))))⟩
  have s_q_79 : sp (cB, cI, cJ, cZ, cS, cW, cT, cR) T (1, 14, 0) (.inl (cI, 14, .inl (fun _ => 0))) := ⟨_, rfl, fun _ => cp_0 _⟩
  have s_q_80 : sp (cB, cI, cJ, cZ, cS, cW, cT, cR) T (1, 14, 0) (.inl (cI, 14, .inl (fun _ => 0))) := ⟨_, rfl, fun _ => cp_0 _⟩
  have s_q_43 : sp (cB, cI, cJ, cZ, cS, cW, cT, cR) T (16, 0, 0) (.inr (6, [.int 0, .int 0, .int 0, .int 0, .ref q_81, .ref q_82])) := ⟨_, rfl, okL_c (⟨_, rfl⟩) (okL_c (⟨_, rfl⟩) (okL_c (⟨_, rfl⟩) (okL_c (⟨_, rfl⟩) (okL_c (⟨_, rfl, t_q_81⟩) (okL_c (⟨_, rfl, t_q_82⟩) (okL_n))))))⟩
  have s_q_81 : sp (cB, cI, cJ, cZ, cS, cW, cT, cR) T (1, 14, 0) (.inl (cI, 14, .inl (fun _ => 0))) := ⟨_, rfl, fun _ => cp_0 _⟩
  have s_q_82 : sp (cB, cI, cJ, cZ, cS, cW, cT, cR) T (1, 14, 0) (.inl (cI, 14, .inl (fun _ => 0))) := ⟨_, rfl, fun _ => cp_0 _⟩
  have s_q_44 : sp (cB, cI, cJ, cZ, cS, cW, cT, cR) T (16, 0, 0) (.inr (6, [.int 0, .int 0, .int 0, .int 0, .ref q_83, .ref q_84])) := ⟨_, rfl, okL_c (⟨_, rfl⟩) (okL_c (⟨_, rfl⟩) (okL_c (⟨_, rfl⟩) (okL_c (⟨_, rfl⟩) (okL_c (⟨_, rfl, t_q_83⟩) (okL_c (⟨_, rfl, t_q_84⟩) (okL_n))))))⟩
  have s_q_83 : sp (cB, cI, cJ, cZ, cS, cW, cT, cR) T (1, 14, 0) (.inl (cI, 14, .inl (fun _ => 0))) := ⟨_, rfl, fun _ => cp_0 _⟩
  have s_q_84 : sp (cB, cI, cJ, cZ, cS, cW, cT, cR) T (1, 14, 0) (.inl (cI, 14, .inl (fun _ => 0))) := ⟨_, rfl, fun _ => cp_0 _⟩
  have s_q_45 : sp (cB, cI, cJ, cZ, cS, cW, cT, cR) T (16, 0, 0) (.inr (6, [.int 0, .int 0, .int 0, .int 0, .ref q_85, .ref q_86])) := ⟨_, rfl, okL_c (⟨_, rfl⟩) (okL_c (⟨_, rfl⟩) (okL_c (⟨_, rfl⟩) (okL_c (⟨_, rfl⟩) (okL_c (⟨_, rfl, t_q_85⟩) (okL_c (⟨_, rfl, t_q_86⟩) (okL_n))))))⟩
  have s_q_85 : sp (cB, cI, cJ, cZ, cS, cW, cT, cR) T (1, 14, 0) (.inl (cI, 14, .inl (fun _ => 0))) := ⟨_, rfl, fun _ => cp_0 _⟩
  have s_q_86 : sp (cB, cI, cJ, cZ, cS, cW, cT, cR) T (1, 14, 0) (.inl (cI, 14, .inl (fun _ => 0))) := ⟨_, rfl, fun _ => cp_0 _⟩
  have s_q_46 : sp (cB, cI, cJ, cZ, cS, cW, cT, cR) T (16, 0, 0) (.inr (6, [.int 0, .int 0, .int 0, .int 0, .ref q_87, .ref q_88])) := ⟨_, rfl, okL_c (⟨_, rfl⟩) (okL_c (⟨_, rfl⟩) (okL_c (⟨_, rfl⟩) (okL_c (⟨_, rfl⟩) (okL_c (⟨_, rfl, t_q_87⟩) (okL_c (⟨_, rfl, t_q_88⟩) (okL_n))))))⟩
  have s_q_87 : sp (cB, cI, cJ, cZ, cS, cW, cT, cR) T (1, 14, 0) (.inl (cI, 14, .inl (fun _ => 0))) := ⟨_, rfl, fun _ => cp_0 _⟩
  have s_q_88 : sp (cB, cI, cJ, cZ, cS, cW, cT, cR) T (1, 14, 0) (.inl (cI, 14, .inl (fun _ => 0))) := ⟨_, rfl, fun _ => cp_0 _⟩
  have s_q_47 : sp (cB, cI, cJ, cZ, cS, cW, cT, cR) T (16, 0, 0) (.inr (6, [.int 0, .int 0, .int 0, .int 0, .ref q_89, .ref q_90])) := ⟨_, rfl, okL_c (⟨_, rfl⟩) (okL_c (⟨_, rfl⟩) (okL_c (⟨_, rfl⟩) (okL_c (⟨_, rfl⟩) (okL_c (⟨_, rfl, t_q_89⟩) (okL_c (⟨_, rfl, t_q_90⟩) (okL_n))))))⟩
  have s_q_89 : sp (cB, cI, cJ, cZ, cS, cW, cT, cR) T (1, 14, 0) (.inl (cI, 14, .inl (fun _ => 0))) := ⟨_, rfl, fun _ => cp_0 _⟩
  have s_q_90 : sp (cB, cI, cJ, cZ, cS, cW, cT, cR) T (1, 14, 0) (.inl (cI, 14, .inl (fun _ => 0))) := ⟨_, rfl, fun _ => cp_0 _⟩
  have s_q_48 : sp (cB, cI, cJ, cZ, cS, cW, cT, cR) T (16, 0, 0) (.inr (6, [.int 0, .int 0, .int 0, .int 0, .ref q_91, .ref q_92])) := ⟨_, rfl, okL_c (⟨_, rfl⟩) (okL_c (⟨_, rfl⟩) (okL_c (⟨_, rfl⟩) (okL_c (⟨_, rfl⟩) (okL_c (⟨_, rfl, t_q_91⟩) (okL_c (⟨_, rfl, t_q_92⟩) (okL_n))))))⟩
  have s_q_91 : sp (cB, cI, cJ, cZ, cS, cW, cT, cR) T (1, 14, 0) (.inl (cI, 14, .inl (fun _ => 0))) := ⟨_, rfl, fun _ => cp_0 _⟩
  have s_q_92 : sp (cB, cI, cJ, cZ, cS, cW, cT, cR) T (1, 14, 0) (.inl (cI, 14, .inl (fun _ => 0))) := ⟨_, rfl, fun _ => cp_0 _⟩
  have s_q_49 : sp (cB, cI, cJ, cZ, cS, cW, cT, cR) T (16, 0, 0) (.inr (6, [.int 0, .int 0, .int 0, .int 0, .ref q_93, .ref q_94])) := ⟨_, rfl, okL_c (⟨_, rfl⟩) (okL_c (⟨_, rfl⟩) (okL_c (⟨_, rfl⟩) (okL_c (⟨_, rfl⟩) (okL_c (⟨_, rfl, t_q_93⟩) (okL_c (⟨_, rfl, t_q_94⟩) (okL_n))))))⟩
  have s_q_93 : sp (cB, cI, cJ, cZ, cS, cW, cT, cR) T (1, 14, 0) (.inl (cI, 14, .inl (fun _ => 0))) := ⟨_, rfl, fun _ => cp_0 _⟩
  have s_q_94 : sp (cB, cI, cJ, cZ, cS, cW, cT, cR) T (1, 14, 0) (.inl (cI, 14, .inl (fun _ => 0))) := ⟨_, rfl, fun _ => cp_0 _⟩
  have s_q_50 : sp (cB, cI, cJ, cZ, cS, cW, cT, cR) T (16, 0, 0) (.inr (6, [.int 0, .int 0, .int 0, .int 0, .ref q_95, .ref q_96])) := ⟨_, rfl, okL_c (⟨_, rfl⟩) (okL_c (⟨_, rfl⟩) (okL_c (⟨_, rfl⟩) (okL_c (⟨_, rfl⟩) (okL_c (⟨_, rfl, t_q_95⟩) (okL_c (⟨_, rfl, t_q_96⟩) (okL_n))))))⟩
  have s_q_95 : sp (cB, cI, cJ, cZ, cS, cW, cT, cR) T (1, 14, 0) (.inl (cI, 14, .inl (fun _ => 0))) := ⟨_, rfl, fun _ => cp_0 _⟩
  have s_q_96 : sp (cB, cI, cJ, cZ, cS, cW, cT, cR) T (1, 14, 0) (.inl (cI, 14, .inl (fun _ => 0))) := ⟨_, rfl, fun _ => cp_0 _⟩
  have s_q_51 : sp (cB, cI, cJ, cZ, cS, cW, cT, cR) T (16, 0, 0) (.inr (6, [.int 0, .int 0, .int 0, .int 0, .ref q_97, .ref q_98])) := ⟨_, rfl, okL_c (⟨_, rfl⟩) (okL_c (⟨_, rfl⟩) (okL_c (⟨_, rfl⟩) (okL_c (⟨_, rfl⟩) (okL_c (⟨_, rfl, t_q_97⟩) (okL_c (⟨_, rfl, t_q_98⟩) (okL_n))))))⟩
  have s_q_97 : sp (cB, cI, cJ, cZ, cS, cW, cT, cR) T (1, 14, 0) (.inl (cI, 14, .inl (fun _ => 0))) := ⟨_, rfl, fun _ => cp_0 _⟩
  have s_q_98 : sp (cB, cI, cJ, cZ, cS, cW, cT, cR) T (1, 14, 0) (.inl (cI, 14, .inl (fun _ => 0))) := ⟨_, rfl, fun _ => cp_0 _⟩
  have s_q_52 : sp (cB, cI, cJ, cZ, cS, cW, cT, cR) T (18, 0, 0) (.inr (8, [.ref q_99, .int 0, .int (-1)])) := ⟨_, rfl, okL_c (⟨_, rfl, t_q_99⟩) (okL_c (⟨_, rfl⟩) (okL_c (⟨_, rfl, by decide, by decide⟩) (okL_n)))⟩
  have s_q_99 : sp (cB, cI, cJ, cZ, cS, cW, cT, cR) T (2, 40, 0) (.inl (cJ, 40, .inr (.inl (fun _ => 0)))) := ⟨_, rfl⟩
  have s_q_53 : sp (cB, cI, cJ, cZ, cS, cW, cT, cR) T (18, 0, 0) (.inr (8, [.ref q_100, .int 0, .int (-1)])) := ⟨_, rfl, okL_c (⟨_, rfl, t_q_100⟩) (okL_c (⟨_, rfl⟩) (okL_c (⟨_, rfl, by decide, by decide⟩) (okL_n)))⟩
  have s_q_100 : sp (cB, cI, cJ, cZ, cS, cW, cT, cR) T (2, 40, 0) (.inl (cJ, 40, .inr (.inl (fun _ => 0)))) := ⟨_, rfl⟩
  have s_q_54 : sp (cB, cI, cJ, cZ, cS, cW, cT, cR) T (18, 0, 0) (.inr (8, [.ref q_101, .int 0, .int (-1)])) := ⟨_, rfl, okL_c (⟨_, rfl, t_q_101⟩) (okL_c (⟨_, rfl⟩) (okL_c (⟨_, rfl, by decide, by decide⟩) (okL_n)))⟩
  have s_q_101 : sp (cB, cI, cJ, cZ, cS, cW, cT, cR) T (2, 40, 0) (.inl (cJ, 40, .inr (.inl (fun _ => 0)))) := ⟨_, rfl⟩
  have s_q_55 : sp (cB, cI, cJ, cZ, cS, cW, cT, cR) T (18, 0, 0) (.inr (8, [.ref q_102, .int 0, .int (-1)])) := ⟨_, rfl, okL_c (⟨_, rfl, t_q_102⟩) (okL_c (⟨_, rfl⟩) (okL_c (⟨_, rfl, by decide, by decide⟩) (okL_n)))⟩
  have s_q_102 : sp (cB, cI, cJ, cZ, cS, cW, cT, cR) T (2, 40, 0) (.inl (cJ, 40, .inr (.inl (fun _ => 0)))) := ⟨_, rfl⟩
  have s_q_56 : sp (cB, cI, cJ, cZ, cS, cW, cT, cR) T (15, 0, 0) (.inr (5, [.ref q_4, .int 0, .int 0, .int 0, .ref q_103, .ref q_104])) := ⟨_, rfl, okL_c (⟨_, _, _, rfl, t_q_4, by decide, by decide⟩) (okL_c (⟨_, rfl⟩) (okL_c (⟨_, rfl⟩) (okL_c (⟨_, rfl⟩) (okL_c (⟨_, rfl, t_q_103⟩) (okL_c (⟨_, rfl, t_q_104⟩) (okL_n))))))⟩
  have s_q_103 : sp (cB, cI, cJ, cZ, cS, cW, cT, cR) T (1, 14, 0) (.inl (cI, 14, .inl (fun _ => 0))) := ⟨_, rfl, fun _ => cp_0 _⟩
  have s_q_104 : sp (cB, cI, cJ, cZ, cS, cW, cT, cR) T (1, 14, 1) (.inl (cI, 14, .inl (fun _ => 0))) := ⟨_, rfl, fun _ => cz (by decide)⟩
  have s_q_57 : sp (cB, cI, cJ, cZ, cS, cW, cT, cR) T (15, 0, 0) (.inr (5, [.ref q_4, .int 0, .int 0, .int 0, .ref q_105, .ref q_106])) := ⟨_, rfl, okL_c (⟨_, _, _, rfl, t_q_4, by decide, by decide⟩) (okL_c (⟨_, rfl⟩) (okL_c (⟨_, rfl⟩) (okL_c (⟨_, rfl⟩) (okL_c (⟨_, rfl, t_q_105⟩) (okL_c (⟨_, rfl, t_q_106⟩) (okL_n))))))⟩
  have s_q_105 : sp (cB, cI, cJ, cZ, cS, cW, cT, cR) T (1, 14, 0) (.inl (cI, 14, .inl (fun _ => 0))) := ⟨_, rfl, fun _ => cp_0 _⟩
  have s_q_106 : sp (cB, cI, cJ, cZ, cS, cW, cT, cR) T (1, 14, 1) (.inl (cI, 14, .inl (fun _ => 0))) := ⟨_, rfl, fun _ => cz (by decide)⟩
  have s_q_58 : sp (cB, cI, cJ, cZ, cS, cW, cT, cR) T (15, 0, 0) (.inr (5, [.ref q_4, .int 0, .int 0, .int 0, .ref q_107, .ref q_108])) := ⟨_, rfl, okL_c (⟨_, _, _, rfl, t_q_4, by decide, by decide⟩) (okL_c (⟨_, rfl⟩) (okL_c (⟨_, rfl⟩) (okL_c (⟨_, rfl⟩) (okL_c (⟨_, rfl, t_q_107⟩) (okL_c (⟨_, rfl, t_q_108⟩) (okL_n))))))⟩
  have s_q_107 : sp (cB, cI, cJ, cZ, cS, cW, cT, cR) T (1, 14, 0) (.inl (cI, 14, .inl (fun _ => 0))) := ⟨_, rfl, fun _ => cp_0 _⟩
  have s_q_108 : sp (cB, cI, cJ, cZ, cS, cW, cT, cR) T (1, 14, 1) (.inl (cI, 14, .inl (fun _ => 0))) := ⟨_, rfl, fun _ => cz (by decide)⟩
  have s_q_59 : sp (cB, cI, cJ, cZ, cS, cW, cT, cR) T (15, 0, 0) (.inr (5, [.ref q_4, .int 0, .int 0, .int 0, .ref q_109, .ref q_110])) := ⟨_, rfl, okL_c (⟨_, _, _, rfl, t_q_4, by decide, by decide⟩) (okL_c (⟨_, rfl⟩) (okL_c (⟨_, rfl⟩) (okL_c (⟨_, rfl⟩) (okL_c (⟨_, rfl, t_q_109⟩) (okL_c (⟨_, rfl, t_q_110⟩) (okL_n))))))⟩
  have s_q_109 : sp (cB, cI, cJ, cZ, cS, cW, cT, cR) T (1, 14, 0) (.inl (cI, 14, .inl (fun _ => 0))) := ⟨_, rfl, fun _ => cp_0 _⟩
  have s_q_110 : sp (cB, cI, cJ, cZ, cS, cW, cT, cR) T (1, 14, 1) (.inl (cI, 14, .inl (fun _ => 0))) := ⟨_, rfl, fun _ => cz (by decide)⟩
  have s_q_60 : sp (cB, cI, cJ, cZ, cS, cW, cT, cR) T (15, 0, 0) (.inr (5, [.ref q_4, .int 0, .int 0, .int 0, .ref q_111, .ref q_112])) := ⟨_, rfl, okL_c (⟨_, _, _, rfl, t_q_4, by decide, by decide⟩) (okL_c (⟨_, rfl⟩) (okL_c (⟨_, rfl⟩) (okL_c (⟨_, rfl⟩) (okL_c (⟨_, rfl, t_q_111⟩) (okL_c (⟨_, rfl, t_q_112⟩) (okL_n))))))⟩
  have s_q_111 : sp (cB, cI, cJ, cZ, cS, cW, cT, cR) T (1, 14, 0) (.inl (cI, 14, .inl (fun _ => 0))) := ⟨_, rfl, fun _ => cp_0 _⟩
  have s_q_112 : sp (cB, cI, cJ, cZ, cS, cW, cT, cR) T (1, 14, 1) (.inl (cI, 14, .inl (fun _ => 0))) := ⟨_, rfl, fun _ => cz (by decide)⟩
  have s_q_114 : sp (cB, cI, cJ, cZ, cS, cW, cT, cR) T (22, 0, 0) (.inr (12, [.int 0, .ref q_115, .ref q_116, .ref q_117, .ref q_118, .int 0, .int 0, .int 0, .int 0, .int 0, .int 0, .int 0, .int 0, .int 0, .int (-1), .ref q_119, .int 0, .ref q_120, .ref q_121, .ref q_122, .int 0, .ref q_123, .ref q_124, .int 0, .int 0, .int 0, .ref q_125, .ref q_126, .ref q_127, .ref q_128, .ref q_129, .ref q_130, .int 0, .ref q_131, .ref q_132, .ref q_133])) := ⟨_, rfl, okL_c (⟨_, rfl⟩) (okL_c (⟨_, rfl, t_q_115⟩) (okL_c (⟨_, rfl, t_q_116⟩) (okL_c (⟨_, rfl, t_q_117⟩) (okL_c (⟨_, rfl, t_q_118⟩) (okL_c (⟨_, rfl, by decide, by decide, by decide⟩) (okL_c (⟨_, rfl⟩) (okL_c (⟨_, rfl⟩) (okL_c (⟨_, rfl⟩) (okL_c (⟨_, rfl⟩) (okL_c (⟨_, rfl, by decide, by decide⟩) (okL_c (⟨_, rfl⟩) (okL_c (⟨_, rfl⟩) (okL_c (⟨_, rfl, by decide⟩) (okL_c (⟨_, rfl, by decide⟩) (okL_c (⟨_, rfl, t_q_119⟩) (okL_c (⟨_, rfl⟩) (okL_c (⟨_, rfl, t_q_120⟩) (okL_c (⟨_, rfl, t_q_121⟩) (okL_c (⟨_, rfl, t_q_122⟩) (okL_c (⟨_, rfl, by decide, by decide⟩) (okL_c (⟨_, rfl, t_q_123⟩) (okL_c (⟨_, rfl, t_q_124⟩) (okL_c (⟨_, rfl⟩) (okL_c (⟨_, rfl⟩) (okL_c (⟨_, rfl⟩) (okL_c (⟨_, rfl, t_q_125⟩) (okL_c (⟨_, rfl, t_q_126⟩) (okL_c (⟨_, rfl, t_q_127⟩) (okL_c (⟨_, rfl, t_q_128⟩) (okL_c (⟨_, rfl, t_q_129⟩) (okL_c (⟨_, rfl, t_q_130⟩) (okL_c (⟨_, rfl⟩) (okL_c (⟨_, rfl, t_q_131⟩) (okL_c (⟨_, rfl, t_q_132⟩) (okL_c (⟨_, rfl, t_q_133⟩) (okL_n))))))))))))))))))))))))))))))))))))⟩
  have s_q_116 : sp (cB, cI, cJ, cZ, cS, cW, cT, cR) T (3, 2, 0) (.inl (cZ, 2, .inl (fun _ => 0))) := ⟨_, rfl⟩
  have s_q_118 : sp (cB, cI, cJ, cZ, cS, cW, cT, cR) T (8, 1302, 0) (.inl (cI, 1302, .inl (fun _ => 0))) := ⟨_, rfl, B8_0, fun q => absurd q (by decide)⟩
  have s_q_119 : sp (cB, cI, cJ, cZ, cS, cW, cT, cR) T (1, 900, 0) (.inl (cI, 900, .inl (fun _ => 0))) := ⟨_, rfl, fun _ => cp_0 _⟩
  have s_q_120 : sp (cB, cI, cJ, cZ, cS, cW, cT, cR) T (9, 14, 1) (.inl (cI, 14, .inl (fun _ => 0))) := ⟨_, rfl, fun _ => cz (by decide)⟩
  have s_q_121 : sp (cB, cI, cJ, cZ, cS, cW, cT, cR) T (9, 14, 8) (.inl (cI, 14, .inl (fun _ => 0))) := ⟨_, rfl, fun _ => cz (by decide)⟩
  have s_q_122 : sp (cB, cI, cJ, cZ, cS, cW, cT, cR) T (1, 14, 7) (.inl (cI, 14, .inl (fun _ => 0))) := ⟨_, rfl, fun _ => cz (by decide)⟩
  have s_q_123 : sp (cB, cI, cJ, cZ, cS, cW, cT, cR) T (1, 31, 0) (.inl (cI, 31, .inl (fun _ => 0))) := ⟨_, rfl, fun _ => cp_0 _⟩
  have s_q_124 : sp (cB, cI, cJ, cZ, cS, cW, cT, cR) T (1, 31, 0) (.inl (cI, 31, .inl (fun _ => 0))) := ⟨_, rfl, fun _ => cp_0 _⟩
  have s_q_125 : sp (cB, cI, cJ, cZ, cS, cW, cT, cR) T (2, 229376, 0) (.inl (cJ, 229376, .inr (.inl (fun _ => 0)))) := ⟨_, rfl⟩
  have s_q_126 : sp (cB, cI, cJ, cZ, cS, cW, cT, cR) T (3, 16384, 0) (.inl (cZ, 16384, .inl (fun _ => 0))) := ⟨_, rfl⟩
  have s_q_127 : sp (cB, cI, cJ, cZ, cS, cW, cT, cR) T (0, 229376, 0) (.inl (cB, 229376, .inl (fun _ => 0))) := ⟨_, rfl⟩
  have s_q_128 : sp (cB, cI, cJ, cZ, cS, cW, cT, cR) T (1, 5, 0) (.inl (cI, 5, .inl (fun _ => 0))) := ⟨_, rfl, fun _ => cp_0 _⟩
  have s_q_129 : sp (cB, cI, cJ, cZ, cS, cW, cT, cR) T (1, 5, 0) (.inl (cI, 5, .inl (fun _ => 0))) := ⟨_, rfl, fun _ => cp_0 _⟩
  have s_q_130 : sp (cB, cI, cJ, cZ, cS, cW, cT, cR) T (1, 186, 0) (.inl (cI, 186, .inl (fun _ => 0))) := ⟨_, rfl, fun _ => cp_0 _⟩
  have s_q_131 : sp (cB, cI, cJ, cZ, cS, cW, cT, cR) T (1, 4, 0) (.inl (cI, 4, .inl rs4)) := ⟨_, rfl, fun _ => cp_0 _⟩
  have s_q_132 : sp (cB, cI, cJ, cZ, cS, cW, cT, cR) T (1, 4, 6) (.inl (cI, 4, .inl (fun _ => 0))) := ⟨_, rfl, fun _ => cz (by decide)⟩
  have s_q_133 : sp (cB, cI, cJ, cZ, cS, cW, cT, cR) T (2, 160, 0) (.inl (cJ, 160, .inr (.inl (fun _ => 0)))) := ⟨_, rfl⟩
  have s_q_115 : sp (cB, cI, cJ, cZ, cS, cW, cT, cR) T (8, 3906, 0) (.inl (cI, 3906, .inl plc)) := ⟨_, rfl, B8_plc, fun _ => ⟨by decide +kernel, by decide +kernel⟩⟩
  have hH := hH (sps_c s_q_1 (sps_c s_q_3 (sps_c s_q_22 (sps_c s_q_19 (sps_c s_q_23 (sps_c s_q_20 (sps_c s_q_24 (sps_c s_q_25 (sps_c s_q_26 (sps_c s_q_27 (sps_c s_q_28 (sps_c s_q_21 (sps_c s_q_29 (sps_c s_q_30 (sps_c s_q_4 (sps_c s_q_31 (sps_c s_q_32 (sps_c s_q_33 (sps_c s_q_34 (sps_c s_q_35 (sps_c s_q_5 (sps_c s_q_36 (sps_c s_q_37 (sps_c s_q_6 (sps_c s_q_38 (sps_c s_q_39 (sps_c s_q_7 (sps_c s_q_8 (sps_c s_q_9 (sps_c s_q_10 (sps_c s_q_11 (sps_c s_q_12 (sps_c s_q_61 (sps_c s_q_62 (sps_c s_q_13 (sps_c s_q_63 (sps_c s_q_64 (sps_c s_q_65 (sps_c s_q_66 (sps_c s_q_67 (sps_c s_q_14 (sps_c s_q_68 (sps_c s_q_69 (sps_c s_q_70 (sps_c s_q_71 (sps_c s_q_72 (sps_c s_q_73 (sps_c s_q_74 (sps_c s_q_16 (sps_c s_q_17 (sps_c s_q_40 (sps_c s_q_75 (sps_c s_q_76 (sps_c s_q_41 (sps_c s_q_77 (sps_c s_q_78 (sps_c s_q_42 (sps_c s_q_79 (sps_c s_q_80 (sps_c s_q_43 (sps_c s_q_81 (sps_c s_q_82 (sps_c s_q_44 (sps_c s_q_83 (sps_c s_q_84 (sps_c s_q_45 (sps_c s_q_85 (sps_c s_q_86 (sps_c s_q_46 (sps_c s_q_87 (sps_c s_q_88 (sps_c s_q_47 (sps_c s_q_89 (sps_c s_q_90 (sps_c s_q_48 (sps_c s_q_91 (sps_c s_q_92 (sps_c s_q_49 (sps_c s_q_93 (sps_c s_q_94 (sps_c s_q_50 (sps_c s_q_95 (sps_c s_q_96 (sps_c s_q_51 (sps_c s_q_97 (sps_c s_q_98 (sps_c s_q_52 (sps_c s_q_99 (sps_c s_q_53 (sps_c s_q_100 (sps_c s_q_54 (sps_c s_q_101 (sps_c s_q_55 (sps_c s_q_102 (sps_c s_q_56 (sps_c s_q_103 (sps_c s_q_104 (sps_c s_q_57 (sps_c s_q_105 (sps_c s_q_106 (sps_c s_q_58 (sps_c s_q_107 (sps_c s_q_108 (sps_c s_q_59 (sps_c s_q_109 (sps_c s_q_110 (sps_c s_q_60 (sps_c s_q_111 (sps_c s_q_112 (sps_c s_q_114 (sps_c s_q_116 (sps_c s_q_118 (sps_c s_q_119 (sps_c s_q_120 (sps_c s_q_121 (sps_c s_q_122 (sps_c s_q_123 (sps_c s_q_124 (sps_c s_q_125 (sps_c s_q_126 (sps_c s_q_127 (sps_c s_q_128 (sps_c s_q_129 (sps_c s_q_130 (sps_c s_q_131 (sps_c s_q_132 (sps_c s_q_133 (sps_c s_q_115 (sps_n)))))))))))))))))))))))))))))))))))))))))))))))))))))))))))))))))))))))))))))))))))))))))))))))))))))))))))))))))))))))))))))))))
  refine ⟨T, ⟨t_q_1, ⟨t_q_4, by decide, by decide⟩, t_q_114, by decide, fun b tg hb hk => ?_, fun b tg hb hk => ?_, t_q_15, t_q_72, by decide, by decide, t_q_73, t_q_74, rfl, by decide⟩, ⟨t_q_18, t_q_2, t_q_117, fun b q hb => ?_, fun b q hb => ?_, fun b q hb => ?_⟩, hH⟩
  · obtain ⟨i, e, h1, h2⟩ := hin b tg hb
    have h3 : ([10, 17, 0, 9, 21, 14, 0, 13, 1, 19, 1, 1, 1, 1, 1, 16, 1, 1, 19, 1, 1, 1, 1, 1, 16, 1, 1, 16, 1, 1, 4, 5, 4, 6, 7, 15, 1, 1, 20, 1, 1, 2, 1, 1, 11, 1, 1, 1, 1, 1, 1, 1, 1, 1, 16, 1, 1, 16, 1, 1, 16, 1, 1, 16, 1, 1, 16, 1, 1, 16, 1, 1, 16, 1, 1, 16, 1, 1, 16, 1, 1, 16, 1, 1, 16, 1, 1, 16, 1, 1, 18, 2, 18, 2, 18, 2, 18, 2, 15, 1, 1, 15, 1, 1, 15, 1, 1, 15, 1, 1, 15, 1, 1, 22, 3, 8, 1, 9, 9, 1, 1, 1, 2, 3, 0, 1, 1, 1, 1, 1, 2, 8] : List (Nat))[i]? = some 22 := by
      have h4 := congrArg (Option.map Prod.fst) h2
      rw [← List.getElem?_map] at h4
      rw [Option.map_some, hk] at h4
      exact h4
    have hi : i < 132 := by
      have := (List.getElem?_eq_some_iff.mp h3).1
      exact this
    have h5 : ∀ i, i < 132 → ([10, 17, 0, 9, 21, 14, 0, 13, 1, 19, 1, 1, 1, 1, 1, 16, 1, 1, 19, 1, 1, 1, 1, 1, 16, 1, 1, 16, 1, 1, 4, 5, 4, 6, 7, 15, 1, 1, 20, 1, 1, 2, 1, 1, 11, 1, 1, 1, 1, 1, 1, 1, 1, 1, 16, 1, 1, 16, 1, 1, 16, 1, 1, 16, 1, 1, 16, 1, 1, 16, 1, 1, 16, 1, 1, 16, 1, 1, 16, 1, 1, 16, 1, 1, 16, 1, 1, 16, 1, 1, 18, 2, 18, 2, 18, 2, 18, 2, 15, 1, 1, 15, 1, 1, 15, 1, 1, 15, 1, 1, 15, 1, 1, 22, 3, 8, 1, 9, 9, 1, 1, 1, 2, 3, 0, 1, 1, 1, 1, 1, 2, 8] : List (Nat))[i]? = some 22 → i = 113 := by decide +kernel
    have h6 := h5 i hi h3
    subst h6
    cases h1
    rfl
  · obtain ⟨i, e, h1, h2⟩ := hin b tg hb
    have h3 : ([10, 17, 0, 9, 21, 14, 0, 13, 1, 19, 1, 1, 1, 1, 1, 16, 1, 1, 19, 1, 1, 1, 1, 1, 16, 1, 1, 16, 1, 1, 4, 5, 4, 6, 7, 15, 1, 1, 20, 1, 1, 2, 1, 1, 11, 1, 1, 1, 1, 1, 1, 1, 1, 1, 16, 1, 1, 16, 1, 1, 16, 1, 1, 16, 1, 1, 16, 1, 1, 16, 1, 1, 16, 1, 1, 16, 1, 1, 16, 1, 1, 16, 1, 1, 16, 1, 1, 16, 1, 1, 18, 2, 18, 2, 18, 2, 18, 2, 15, 1, 1, 15, 1, 1, 15, 1, 1, 15, 1, 1, 15, 1, 1, 22, 3, 8, 1, 9, 9, 1, 1, 1, 2, 3, 0, 1, 1, 1, 1, 1, 2, 8] : List (Nat))[i]? = some 21 := by
      have h4 := congrArg (Option.map Prod.fst) h2
      rw [← List.getElem?_map] at h4
      rw [Option.map_some, hk] at h4
      exact h4
    have hi : i < 132 := by
      have := (List.getElem?_eq_some_iff.mp h3).1
      exact this
    have h5 : ∀ i, i < 132 → ([10, 17, 0, 9, 21, 14, 0, 13, 1, 19, 1, 1, 1, 1, 1, 16, 1, 1, 19, 1, 1, 1, 1, 1, 16, 1, 1, 16, 1, 1, 4, 5, 4, 6, 7, 15, 1, 1, 20, 1, 1, 2, 1, 1, 11, 1, 1, 1, 1, 1, 1, 1, 1, 1, 16, 1, 1, 16, 1, 1, 16, 1, 1, 16, 1, 1, 16, 1, 1, 16, 1, 1, 16, 1, 1, 16, 1, 1, 16, 1, 1, 16, 1, 1, 16, 1, 1, 16, 1, 1, 18, 2, 18, 2, 18, 2, 18, 2, 15, 1, 1, 15, 1, 1, 15, 1, 1, 15, 1, 1, 15, 1, 1, 22, 3, 8, 1, 9, 9, 1, 1, 1, 2, 3, 0, 1, 1, 1, 1, 1, 2, 8] : List (Nat))[i]? = some 21 → i = 4 := by decide +kernel
    have h6 := h5 i hi h3
    subst h6
    cases h1
    rfl
  · obtain ⟨i, e, h1, h2⟩ := hin b _ hb
    have h3 : ([1, 0, 1, 1, 1, 1, 1, 1, 1, 1, 1, 1, 1, 1, 1, 1, 1, 1, 1, 1, 1, 1, 1, 1, 1, 1, 1, 1, 1, 1, 1, 1, 1, 1, 1, 1, 1, 1, 1, 1, 1, 1, 1, 1, 1, 1, 1, 1, 1, 1, 1, 1, 1, 1, 1, 1, 1, 1, 1, 1, 1, 1, 1, 1, 1, 1, 1, 1, 1, 1, 1, 1, 1, 1, 1, 1, 1, 1, 1, 1, 1, 1, 1, 1, 1, 1, 1, 1, 1, 1, 1, 1, 1, 1, 1, 1, 1, 1, 1, 1, 1, 1, 1, 1, 1, 1, 1, 1, 1, 1, 1, 1, 1, 1, 1, 1, 1, 1, 1, 1, 1, 1, 1, 1, 1, 1, 1, 1, 1, 1, 1, 1] : List (Nat))[i]? = some 0 := by
      have h4 := congrArg (Option.map (fun z : Tg => if z.1 = 17 then z.2.1 else 1)) h2
      rw [← List.getElem?_map] at h4
      rw [Option.map_some] at h4
      exact h4
    have hi : i < 132 := by
      have := (List.getElem?_eq_some_iff.mp h3).1
      exact this
    have h5 : ∀ i, i < 132 → ([1, 0, 1, 1, 1, 1, 1, 1, 1, 1, 1, 1, 1, 1, 1, 1, 1, 1, 1, 1, 1, 1, 1, 1, 1, 1, 1, 1, 1, 1, 1, 1, 1, 1, 1, 1, 1, 1, 1, 1, 1, 1, 1, 1, 1, 1, 1, 1, 1, 1, 1, 1, 1, 1, 1, 1, 1, 1, 1, 1, 1, 1, 1, 1, 1, 1, 1, 1, 1, 1, 1, 1, 1, 1, 1, 1, 1, 1, 1, 1, 1, 1, 1, 1, 1, 1, 1, 1, 1, 1, 1, 1, 1, 1, 1, 1, 1, 1, 1, 1, 1, 1, 1, 1, 1, 1, 1, 1, 1, 1, 1, 1, 1, 1, 1, 1, 1, 1, 1, 1, 1, 1, 1, 1, 1, 1, 1, 1, 1, 1, 1, 1] : List (Nat))[i]? = some 0 → i = 1 := by decide +kernel
    have h6 := h5 i hi h3
    subst h6
    cases h1
    rfl
  · obtain ⟨i, e, h1, h2⟩ := hin b _ hb
    have h3 : ([1, 1, 900, 1, 1, 1, 0, 1, 1, 1, 1, 1, 1, 1, 1, 1, 1, 1, 1, 1, 1, 1, 1, 1, 1, 1, 1, 1, 1, 1, 1, 1, 1, 1, 1, 1, 1, 1, 1, 1, 1, 1, 1, 1, 1, 1, 1, 1, 1, 1, 1, 1, 1, 1, 1, 1, 1, 1, 1, 1, 1, 1, 1, 1, 1, 1, 1, 1, 1, 1, 1, 1, 1, 1, 1, 1, 1, 1, 1, 1, 1, 1, 1, 1, 1, 1, 1, 1, 1, 1, 1, 1, 1, 1, 1, 1, 1, 1, 1, 1, 1, 1, 1, 1, 1, 1, 1, 1, 1, 1, 1, 1, 1, 1, 1, 1, 1, 1, 1, 1, 1, 1, 1, 1, 229376, 1, 1, 1, 1, 1, 1, 1] : List (Nat))[i]? = some 900 := by
      have h4 := congrArg (Option.map (fun z : Tg => if z.1 = 0 then z.2.1 else 1)) h2
      rw [← List.getElem?_map] at h4
      rw [Option.map_some] at h4
      exact h4
    have hi : i < 132 := by
      have := (List.getElem?_eq_some_iff.mp h3).1
      exact this
    have h5 : ∀ i, i < 132 → ([1, 1, 900, 1, 1, 1, 0, 1, 1, 1, 1, 1, 1, 1, 1, 1, 1, 1, 1, 1, 1, 1, 1, 1, 1, 1, 1, 1, 1, 1, 1, 1, 1, 1, 1, 1, 1, 1, 1, 1, 1, 1, 1, 1, 1, 1, 1, 1, 1, 1, 1, 1, 1, 1, 1, 1, 1, 1, 1, 1, 1, 1, 1, 1, 1, 1, 1, 1, 1, 1, 1, 1, 1, 1, 1, 1, 1, 1, 1, 1, 1, 1, 1, 1, 1, 1, 1, 1, 1, 1, 1, 1, 1, 1, 1, 1, 1, 1, 1, 1, 1, 1, 1, 1, 1, 1, 1, 1, 1, 1, 1, 1, 1, 1, 1, 1, 1, 1, 1, 1, 1, 1, 1, 1, 229376, 1, 1, 1, 1, 1, 1, 1] : List (Nat))[i]? = some 900 → i = 2 := by decide +kernel
    have h6 := h5 i hi h3
    subst h6
    cases h1
    rfl
  · obtain ⟨i, e, h1, h2⟩ := hin b _ hb
    have h3 : ([1, 1, 1, 900, 1, 1, 1, 1, 1, 1, 1, 1, 1, 1, 1, 1, 1, 1, 1, 1, 1, 1, 1, 1, 1, 1, 1, 1, 1, 1, 1, 1, 1, 1, 1, 1, 1, 1, 1, 1, 1, 1, 1, 1, 1, 1, 1, 1, 1, 1, 1, 1, 1, 1, 1, 1, 1, 1, 1, 1, 1, 1, 1, 1, 1, 1, 1, 1, 1, 1, 1, 1, 1, 1, 1, 1, 1, 1, 1, 1, 1, 1, 1, 1, 1, 1, 1, 1, 1, 1, 1, 1, 1, 1, 1, 1, 1, 1, 1, 1, 1, 1, 1, 1, 1, 1, 1, 1, 1, 1, 1, 1, 1, 1, 1, 1, 1, 14, 14, 1, 1, 1, 1, 1, 1, 1, 1, 1, 1, 1, 1, 1] : List (Nat))[i]? = some 900 := by
      have h4 := congrArg (Option.map (fun z : Tg => if z.1 = 9 then z.2.1 else 1)) h2
      rw [← List.getElem?_map] at h4
      rw [Option.map_some] at h4
      exact h4
    have hi : i < 132 := by
      have := (List.getElem?_eq_some_iff.mp h3).1
      exact this
    have h5 : ∀ i, i < 132 → ([1, 1, 1, 900, 1, 1, 1, 1, 1, 1, 1, 1, 1, 1, 1, 1, 1, 1, 1, 1, 1, 1, 1, 1, 1, 1, 1, 1, 1, 1, 1, 1, 1, 1, 1, 1, 1, 1, 1, 1, 1, 1, 1, 1, 1, 1, 1, 1, 1, 1, 1, 1, 1, 1, 1, 1, 1, 1, 1, 1, 1, 1, 1, 1, 1, 1, 1, 1, 1, 1, 1, 1, 1, 1, 1, 1, 1, 1, 1, 1, 1, 1, 1, 1, 1, 1, 1, 1, 1, 1, 1, 1, 1, 1, 1, 1, 1, 1, 1, 1, 1, 1, 1, 1, 1, 1, 1, 1, 1, 1, 1, 1, 1, 1, 1, 1, 1, 14, 14, 1, 1, 1, 1, 1, 1, 1, 1, 1, 1, 1, 1, 1] : List (Nat))[i]? = some 900 → i = 3 := by decide +kernel
    have h6 := h5 i hi h3
    subst h6
    cases h1
    rfl
theorem dL_law_18 : decode code 18 = .ok (.iload_n 3, 1) := by decide +kernel
theorem dL_law_19 : decode code 19 = .ok (.aload_n 0, 1) := by decide +kernel
theorem dL_law_20 : decode code 20 = .ok (.arraylength, 1) := by decide +kernel
theorem dL_law_21 : decode code 21 = .ok (.bipush 6, 2) := by decide +kernel
theorem dL_law_23 : decode code 23 = .ok (.isub, 1) := by decide +kernel
theorem dL_law_24 : decode code 24 = .ok (.if_icmp .gt 1377, 3) := by decide +kernel
theorem dL_law_27 : decode code 27 = .ok (.aload_n 0, 1) := by decide +kernel
theorem dL_law_28 : decode code 28 = .ok (.iload_n 3, 1) := by decide +kernel
theorem dL_law_29 : decode code 29 = .ok (.iaload, 1) := by decide +kernel
theorem dL_law_30 : decode code 30 = .ok (.bipush 63, 2) := by decide +kernel
theorem dL_law_32 : decode code 32 = .ok (.iand, 1) := by decide +kernel
theorem dL_law_33 : decode code 33 = .ok (.tableswitch 1362 0 40 #[179, 242, 265, 288, 321, 354, 397, 420, 453, 476, 499, 522, 545, 568, 581, 604, 637, 670, 693, 726, 749, 782, 805, 828, 841, 864, 887, 920, 943, 966, 989, 1012, 1055, 1078, 1111, 1144, 1187, 1260, 1293, 1316, 1339], 179) := by decide +kernel
theorem dL_law_1395 : decode code 1395 = .ok (.iinc 3 6, 3) := by decide +kernel
theorem dL_law_1398 : decode code 1398 = .ok (.goto (-1380), 3) := by decide +kernel
theorem dL_law_1401 : decode code 1401 = .ok (.iconst 1, 1) := by decide +kernel
theorem dL_law_1402 : decode code 1402 = .ok (.ireturn, 1) := by decide +kernel
set_option maxHeartbeats 4000000 in
set_option maxRecDepth 100000 in
/-- the loop over the script -/
theorem lw_loop {p : Program} {e : Env} {s : State} {m : MethodId} {below : List Frame} {meth : Method} {c : Code} (l : Launch) (D : va_G) (cs : CS) (kf : KF) {b L : Nat} {xs : Nat → Int32} (hx : p.tables.exec = Jvm.exec) (hb : c.code = code) (hr0 : meth.sig.returnType = ret) (hml : c.maxLocals = 4) (hown : s.vm.findClass R_law = some m.cls) (hts : ∀ w ∈ gw, w.before #[Value.ref b] s = true) (hX : va_X b L xs s s.heap) (hbl : b < s.heap.size) (hkb : kb D (tyc cs) s) (hks : kS kf s) {A : Nat → Prop} (hE : kE kf A s s.heap) (hA : ∀ q : Nat, s.heap.size ≤ q → A q) (hA2 : ∀ q : Nat, A q → s.heap.size ≤ q) (hlocks : meth.locks = false) (hL : L ≤ 3072) (O : List Nat) (X : va_W) (hOX0 : ∀ o ∈ O, ∃ (k : Nat) (e : va_E), X[k]? = some (o, e)) (hO9 : O = []) (a0 ch a1 y2 y3 tk tp tm : Nat) : ∀ (k : Nat) (T : TF) (w hw gw hg G M y0 nn j : Nat) (y1 : Int32) (o0 : Value) (k1 k2 k3 k4 k5 k6 k7 : Int32) (ft f3 : Nat → Int32) (t : Tp) (x3 : Int32) (n cells slots : Nat) (H : Heap) (locs : List Loc) (ls : Array Slot), k + n = 512 → x3.toInt = 6 * (n : Int) → LV T a0 a1 ch w hw gw hg G M y0 y2 y3 nn j y1 → LX T tk tp tm → LG G M ft f3 t k6 k7 → LK k1 k2 k3 → RM cells slots n j → HT D cs A T (ch :: tk :: tp :: tm :: O) ((ch, .inr (0, [.ref y0, .int y1, .ref y2, .ref y3])) :: (tk, .inr (7, [o0, .int k1, .int k2, .int k3, .int k4, .int k5, .int k6, .int k7])) :: (tp, .inl (cs.1, 900, .inl ft)) :: (tm, .inl (cs.2.1, 900, .inl f3)) :: X) H → va_S A s.heap H locs → lv_has ls 4 [(0, .ref b), (1, .ref a0), (2, .ref a1), (3, .int x3)] → W p l e room_1 s m #[Value.ref b] below meth c H locs cells slots (lw_Z below #[Value.ref b] s) (F0 m 18 ls []) := by
  have hbA : ¬ A b := fun h => absurd (hA2 _ h) (Nat.not_le.mpr hbl)
  intro k
  induction k using Nat.strongRecOn with
  | _ k ih =>
    intro T w hw gw hg G M y0 nn j y1 o0 k1 k2 k3 k4 k5 k6 k7 ft f3 t x3 n cells slots H locs ls hk hx3 hv hlx hlg hlk hr hH hS hl
    have hj14 : j ≤ 14 := hv.2.2.2.2.2.2.2.2.2.2.2.2.2
    obtain ⟨hr1, hr2⟩ := id hr
    refine lv_iload_n hx hb dL_law_18 rfl (lv_at hl 3 rfl) ?_
    refine lv_aload_n hx hb dL_law_19 rfl (lv_at hl 0 rfl) ?_
    refine va_slen hx hb hX hbl hbA hS dL_law_20 ?_
    refine lv_topi (fun v20 ev20 => ?_)
    have tv20 : v20.toInt = (L : Int) := by rw [ev20]; exact nI_toInt (by omega)
    refine lv_bipush (v := 6) hx hb dL_law_21 (by decide) ?_
    refine lv_isub hx hb dL_law_23 ?_
    refine lv_topi (fun v23 ev23 => ?_)
    have tv23 : v23.toInt = v20.toInt - (6) := by rw [ev23]; exact sub_i rfl (by decide : (6 : Int32).toInt = 6) (by omega) (by omega)
    refine lv_icmp_gt (tgt := 1401) hx hb dL_law_24 (by decide) (fun c24 => ?_) (fun c24 => ?_)
    · skip
      refine lv_iconst (v := 1) hx hb dL_law_1401 (by decide) ?_
      refine va_forget (fun q hq => hA2 _ (hS.2.2 q hq)) ?_
      refine W.widen (k := 600000) (n := 7302250) (by omega) (by omega) ?_
      exact lw_ret hx hb hr0 hlocks dL_law_1402
    · skip
      have tc24 := g_nlt c24
      have l_x3 : 0 ≤ x3.toInt := by omega
      have u_x3 : x3.toInt + 6 ≤ L := by omega
      have hn512 : n < 512 := by omega
      have kk : ∀ (T : TF) (w hw gw hg G M y0 nn j : Nat) (y1 : Int32) (o0 : Value) (k1 k2 k3 k4 k5 k6 k7 : Int32) (ft f3 : Nat → Int32) (t : Tp) (cells slots : Nat) (H : Heap) (locs : List Loc) (ls : Array Slot), LV T a0 a1 ch w hw gw hg G M y0 y2 y3 nn j y1 → LX T tk tp tm → LG G M ft f3 t k6 k7 → LK k1 k2 k3 → RM cells slots (n + 1) j → HT D cs A T (ch :: tk :: tp :: tm :: O) ((ch, .inr (0, [.ref y0, .int y1, .ref y2, .ref y3])) :: (tk, .inr (7, [o0, .int k1, .int k2, .int k3, .int k4, .int k5, .int k6, .int k7])) :: (tp, .inl (cs.1, 900, .inl ft)) :: (tm, .inl (cs.2.1, 900, .inl f3)) :: X) H → va_S A s.heap H locs → lv_has ls 4 [(0, .ref b), (1, .ref a0), (2, .ref a1), (3, .int x3)] → W p l e room_1 s m #[Value.ref b] below meth c H locs cells slots (lw_Z below #[Value.ref b] s) (F0 m 1395 ls []) := by
        intro T w hw gw hg G M y0 nn j y1 o0 k1 k2 k3 k4 k5 k6 k7 ft f3 t cells slots H locs ls hv hlx hlg hlk hr hH hS hl
        obtain ⟨v9, ev9⟩ : ∃ y : Int32, y = x3 + 6 := ⟨_, rfl⟩
        have tv9 : v9.toInt = x3.toInt + (6) := by rw [ev9]; exact add_i rfl (by decide) (by omega) (by omega)
        refine lv_iinc (v := v9) (lv' := [(3, .int v9), (0, .ref b), (1, .ref a0), (2, .ref a1)]) hx hb dL_law_1395 hl (k := 3) rfl (by rw [ev9]; rfl) (by decide) rfl (fun ls hl => ?_)
        refine lv_goto (tgt := 18) hx hb dL_law_1398 (by decide) ?_
        exact ih (k - 1) (by omega) T w hw gw hg G M y0 nn j y1 o0 k1 k2 k3 k4 k5 k6 k7 ft f3 t v9 (n + 1) cells slots _ _ _ (by omega) (by omega) hv hlx hlg hlk hr hH hS (lv_sub hl [1, 2, 3, 0] rfl)
      refine lv_aload_n hx hb dL_law_27 rfl (lv_at hl 0 rfl) ?_
      refine lv_iload_n hx hb dL_law_28 rfl (lv_at hl 3 rfl) ?_
      refine va_sld hx hb hX hbl hbA hS (in_t (by omega) (by omega)) dL_law_29 ?_
      refine lv_bipush (v := 63) hx hb dL_law_30 (by decide) ?_
      refine lv_iand hx hb dL_law_32 ?_
      refine lv_topi (fun v32 ev32 => ?_)
      by_cases c0 : v32 = 0
      · skip
        refine lv_topc c0 ?_
        refine lv_tableIn (off := 179) (tgt := 212) hx hb dL_law_33 (by decide) (by decide) (by decide) (by decide) ?_
        exact lw_c0 l D cs kf hx hb hml hown hts hX hbl hkb hks hE hA hbA hL O X hOX0 hO9 a0 ch a1 y2 y3 tk tp tm T w hw gw hg G M y0 nn j y1 o0 k1 k2 k3 k4 k5 k6 k7 ft f3 t x3 n cells slots H locs ls hv hlx hlg hlk hr hn512 l_x3 u_x3 hH hS hl kk
      have d0 := f_ne (k := 0) (by decide) c0
      by_cases c1 : v32 = 1
      · skip
        refine lv_topc c1 ?_
        refine lv_tableIn (off := 242) (tgt := 275) hx hb dL_law_33 (by decide) (by decide) (by decide) (by decide) ?_
        exact lw_c1 l D cs kf hx hb hml hown hts hX hbl hkb hks hE hA hbA hL O X hOX0 hO9 a0 ch a1 y2 y3 tk tp tm T w hw gw hg G M y0 nn j y1 o0 k1 k2 k3 k4 k5 k6 k7 ft f3 t x3 n cells slots H locs ls hv hlx hlg hlk hr hn512 l_x3 u_x3 hH hS hl kk
      have d1 := f_ne (k := 1) (by decide) c1
      by_cases c2 : v32 = 2
      · skip
        refine lv_topc c2 ?_
        refine lv_tableIn (off := 265) (tgt := 298) hx hb dL_law_33 (by decide) (by decide) (by decide) (by decide) ?_
        exact lw_c2 l D cs kf hx hb hml hown hts hX hbl hkb hks hE hA hbA hL O X hOX0 hO9 a0 ch a1 y2 y3 tk tp tm T w hw gw hg G M y0 nn j y1 o0 k1 k2 k3 k4 k5 k6 k7 ft f3 t x3 n cells slots H locs ls hv hlx hlg hlk hr hn512 l_x3 u_x3 hH hS hl kk
      have d2 := f_ne (k := 2) (by decide) c2
      by_cases c3 : v32 = 3
      · skip
        refine lv_topc c3 ?_
        refine lv_tableIn (off := 288) (tgt := 321) hx hb dL_law_33 (by decide) (by decide) (by decide) (by decide) ?_
        exact lw_c3 l D cs kf hx hb hml hown hts hX hbl hkb hks hE hA hbA hL O X hOX0 hO9 a0 ch a1 y2 y3 tk tp tm T w hw gw hg G M y0 nn j y1 o0 k1 k2 k3 k4 k5 k6 k7 ft f3 t x3 n cells slots H locs ls hv hlx hlg hlk hr hn512 l_x3 u_x3 hH hS hl kk
      have d3 := f_ne (k := 3) (by decide) c3
      by_cases c4 : v32 = 4
      · skip
        refine lv_topc c4 ?_
        refine lv_tableIn (off := 321) (tgt := 354) hx hb dL_law_33 (by decide) (by decide) (by decide) (by decide) ?_
        exact lw_c4 l D cs kf hx hb hml hown hts hX hbl hkb hks hE hA hbA hL O X hOX0 hO9 a0 ch a1 y2 y3 tk tp tm T w hw gw hg G M y0 nn j y1 o0 k1 k2 k3 k4 k5 k6 k7 ft f3 t x3 n cells slots H locs ls hv hlx hlg hlk hr hn512 l_x3 u_x3 hH hS hl kk
      have d4 := f_ne (k := 4) (by decide) c4
      by_cases c5 : v32 = 5
      · skip
        refine lv_topc c5 ?_
        refine lv_tableIn (off := 354) (tgt := 387) hx hb dL_law_33 (by decide) (by decide) (by decide) (by decide) ?_
        exact lw_c5 l D cs kf hx hb hml hown hts hX hbl hkb hks hE hA hbA hL O X hOX0 hO9 a0 ch a1 y2 y3 tk tp tm T w hw gw hg G M y0 nn j y1 o0 k1 k2 k3 k4 k5 k6 k7 ft f3 t x3 n cells slots H locs ls hv hlx hlg hlk hr hn512 l_x3 u_x3 hH hS hl kk
      have d5 := f_ne (k := 5) (by decide) c5
      by_cases c6 : v32 = 6
      · skip
        refine lv_topc c6 ?_
        refine lv_tableIn (off := 397) (tgt := 430) hx hb dL_law_33 (by decide) (by decide) (by decide) (by decide) ?_
        exact lw_c6 l D cs kf hx hb hml hown hts hX hbl hkb hks hE hA hbA hL O X hOX0 hO9 a0 ch a1 y2 y3 tk tp tm T w hw gw hg G M y0 nn j y1 o0 k1 k2 k3 k4 k5 k6 k7 ft f3 t x3 n cells slots H locs ls hv hlx hlg hlk hr hn512 l_x3 u_x3 hH hS hl kk
      have d6 := f_ne (k := 6) (by decide) c6
      by_cases c7 : v32 = 7
      · skip
        refine lv_topc c7 ?_
        refine lv_tableIn (off := 420) (tgt := 453) hx hb dL_law_33 (by decide) (by decide) (by decide) (by decide) ?_
        exact lw_c7 l D cs kf hx hb hml hown hts hX hbl hkb hks hE hA hbA hL O X hOX0 hO9 a0 ch a1 y2 y3 tk tp tm T w hw gw hg G M y0 nn j y1 o0 k1 k2 k3 k4 k5 k6 k7 ft f3 t x3 n cells slots H locs ls hv hlx hlg hlk hr hn512 l_x3 u_x3 hH hS hl kk
      have d7 := f_ne (k := 7) (by decide) c7
      by_cases c8 : v32 = 8
      · skip
        refine lv_topc c8 ?_
        refine lv_tableIn (off := 453) (tgt := 486) hx hb dL_law_33 (by decide) (by decide) (by decide) (by decide) ?_
        exact lw_c8 l D cs kf hx hb hml hown hts hX hbl hkb hks hE hA hbA hL O X hOX0 hO9 a0 ch a1 y2 y3 tk tp tm T w hw gw hg G M y0 nn j y1 o0 k1 k2 k3 k4 k5 k6 k7 ft f3 t x3 n cells slots H locs ls hv hlx hlg hlk hr hn512 l_x3 u_x3 hH hS hl kk
      have d8 := f_ne (k := 8) (by decide) c8
      by_cases c9 : v32 = 9
      · skip
        refine lv_topc c9 ?_
        refine lv_tableIn (off := 476) (tgt := 509) hx hb dL_law_33 (by decide) (by decide) (by decide) (by decide) ?_
        exact lw_c9 l D cs kf hx hb hml hown hts hX hbl hkb hks hE hA hbA hL O X hOX0 hO9 a0 ch a1 y2 y3 tk tp tm T w hw gw hg G M y0 nn j y1 o0 k1 k2 k3 k4 k5 k6 k7 ft f3 t x3 n cells slots H locs ls hv hlx hlg hlk hr hn512 l_x3 u_x3 hH hS hl kk
      have d9 := f_ne (k := 9) (by decide) c9
      by_cases c10 : v32 = 10
      · skip
        refine lv_topc c10 ?_
        refine lv_tableIn (off := 499) (tgt := 532) hx hb dL_law_33 (by decide) (by decide) (by decide) (by decide) ?_
        exact lw_c10 l D cs kf hx hb hml hown hts hX hbl hkb hks hE hA hbA hL O X hOX0 hO9 a0 ch a1 y2 y3 tk tp tm T w hw gw hg G M y0 nn j y1 o0 k1 k2 k3 k4 k5 k6 k7 ft f3 t x3 n cells slots H locs ls hv hlx hlg hlk hr hn512 l_x3 u_x3 hH hS hl kk
      have d10 := f_ne (k := 10) (by decide) c10
      by_cases c11 : v32 = 11
      · skip
        refine lv_topc c11 ?_
        refine lv_tableIn (off := 522) (tgt := 555) hx hb dL_law_33 (by decide) (by decide) (by decide) (by decide) ?_
        exact lw_c11 l D cs kf hx hb hml hown hts hX hbl hkb hks hE hA hbA hL O X hOX0 hO9 a0 ch a1 y2 y3 tk tp tm T w hw gw hg G M y0 nn j y1 o0 k1 k2 k3 k4 k5 k6 k7 ft f3 t x3 n cells slots H locs ls hv hlx hlg hlk hr hn512 l_x3 u_x3 hH hS hl kk
      have d11 := f_ne (k := 11) (by decide) c11
      by_cases c12 : v32 = 12
      · skip
        refine lv_topc c12 ?_
        refine lv_tableIn (off := 545) (tgt := 578) hx hb dL_law_33 (by decide) (by decide) (by decide) (by decide) ?_
        exact lw_c12 l D cs kf hx hb hml hown hts hX hbl hkb hks hE hA hbA hL O X hOX0 hO9 a0 ch a1 y2 y3 tk tp tm T w hw gw hg G M y0 nn j y1 o0 k1 k2 k3 k4 k5 k6 k7 ft f3 t x3 n cells slots H locs ls hv hlx hlg hlk hr hn512 l_x3 u_x3 hH hS hl kk
      have d12 := f_ne (k := 12) (by decide) c12
      by_cases c13 : v32 = 13
      · skip
        refine lv_topc c13 ?_
        refine lv_tableIn (off := 568) (tgt := 601) hx hb dL_law_33 (by decide) (by decide) (by decide) (by decide) ?_
        exact lw_c13 l D cs kf hx hb hml hown hts hX hbl hkb hks hE hA hbA hL O X hOX0 hO9 a0 ch a1 y2 y3 tk tp tm T w hw gw hg G M y0 nn j y1 o0 k1 k2 k3 k4 k5 k6 k7 ft f3 t x3 n cells slots H locs ls hv hlx hlg hlk hr hn512 l_x3 u_x3 hH hS hl kk
      have d13 := f_ne (k := 13) (by decide) c13
      by_cases c14 : v32 = 14
      · skip
        refine lv_topc c14 ?_
        refine lv_tableIn (off := 581) (tgt := 614) hx hb dL_law_33 (by decide) (by decide) (by decide) (by decide) ?_
        exact lw_c14 l D cs kf hx hb hml hown hts hX hbl hkb hks hE hA hbA hL O X hOX0 hO9 a0 ch a1 y2 y3 tk tp tm T w hw gw hg G M y0 nn j y1 o0 k1 k2 k3 k4 k5 k6 k7 ft f3 t x3 n cells slots H locs ls hv hlx hlg hlk hr hn512 l_x3 u_x3 hH hS hl kk
      have d14 := f_ne (k := 14) (by decide) c14
      by_cases c15 : v32 = 15
      · skip
        refine lv_topc c15 ?_
        refine lv_tableIn (off := 604) (tgt := 637) hx hb dL_law_33 (by decide) (by decide) (by decide) (by decide) ?_
        exact lw_c15 l D cs kf hx hb hml hown hts hX hbl hkb hks hE hA hbA hL O X hOX0 hO9 a0 ch a1 y2 y3 tk tp tm T w hw gw hg G M y0 nn j y1 o0 k1 k2 k3 k4 k5 k6 k7 ft f3 t x3 n cells slots H locs ls hv hlx hlg hlk hr hn512 l_x3 u_x3 hH hS hl kk
      have d15 := f_ne (k := 15) (by decide) c15
      by_cases c16 : v32 = 16
      · skip
        refine lv_topc c16 ?_
        refine lv_tableIn (off := 637) (tgt := 670) hx hb dL_law_33 (by decide) (by decide) (by decide) (by decide) ?_
        exact lw_c16 l D cs kf hx hb hml hown hts hX hbl hkb hks hE hA hbA hL O X hOX0 hO9 a0 ch a1 y2 y3 tk tp tm T w hw gw hg G M y0 nn j y1 o0 k1 k2 k3 k4 k5 k6 k7 ft f3 t x3 n cells slots H locs ls hv hlx hlg hlk hr hn512 l_x3 u_x3 hH hS hl kk
      have d16 := f_ne (k := 16) (by decide) c16
      by_cases c17 : v32 = 17
      · skip
        refine lv_topc c17 ?_
        refine lv_tableIn (off := 670) (tgt := 703) hx hb dL_law_33 (by decide) (by decide) (by decide) (by decide) ?_
        exact lw_c17 l D cs kf hx hb hml hown hts hX hbl hkb hks hE hA hbA hL O X hOX0 hO9 a0 ch a1 y2 y3 tk tp tm T w hw gw hg G M y0 nn j y1 o0 k1 k2 k3 k4 k5 k6 k7 ft f3 t x3 n cells slots H locs ls hv hlx hlg hlk hr hn512 l_x3 u_x3 hH hS hl kk
      have d17 := f_ne (k := 17) (by decide) c17
      by_cases c18 : v32 = 18
      · skip
        refine lv_topc c18 ?_
        refine lv_tableIn (off := 693) (tgt := 726) hx hb dL_law_33 (by decide) (by decide) (by decide) (by decide) ?_
        exact lw_c18 l D cs kf hx hb hml hown hts hX hbl hkb hks hE hA hbA hL O X hOX0 hO9 a0 ch a1 y2 y3 tk tp tm T w hw gw hg G M y0 nn j y1 o0 k1 k2 k3 k4 k5 k6 k7 ft f3 t x3 n cells slots H locs ls hv hlx hlg hlk hr hn512 l_x3 u_x3 hH hS hl kk
      have d18 := f_ne (k := 18) (by decide) c18
      by_cases c19 : v32 = 19
      · skip
        refine lv_topc c19 ?_
        refine lv_tableIn (off := 726) (tgt := 759) hx hb dL_law_33 (by decide) (by decide) (by decide) (by decide) ?_
        exact lw_c19 l D cs kf hx hb hml hown hts hX hbl hkb hks hE hA hbA hL O X hOX0 hO9 a0 ch a1 y2 y3 tk tp tm T w hw gw hg G M y0 nn j y1 o0 k1 k2 k3 k4 k5 k6 k7 ft f3 t x3 n cells slots H locs ls hv hlx hlg hlk hr hn512 l_x3 u_x3 hH hS hl kk
      have d19 := f_ne (k := 19) (by decide) c19
      by_cases c20 : v32 = 20
      · skip
        refine lv_topc c20 ?_
        refine lv_tableIn (off := 749) (tgt := 782) hx hb dL_law_33 (by decide) (by decide) (by decide) (by decide) ?_
        exact lw_c20 l D cs kf hx hb hml hown hts hX hbl hkb hks hE hA hbA hL O X hOX0 hO9 a0 ch a1 y2 y3 tk tp tm T w hw gw hg G M y0 nn j y1 o0 k1 k2 k3 k4 k5 k6 k7 ft f3 t x3 n cells slots H locs ls hv hlx hlg hlk hr hn512 l_x3 u_x3 hH hS hl kk
      have d20 := f_ne (k := 20) (by decide) c20
      by_cases c21 : v32 = 21
      · skip
        refine lv_topc c21 ?_
        refine lv_tableIn (off := 782) (tgt := 815) hx hb dL_law_33 (by decide) (by decide) (by decide) (by decide) ?_
        exact lw_c21 l D cs kf hx hb hml hown hts hX hbl hkb hks hE hA hbA hL O X hOX0 hO9 a0 ch a1 y2 y3 tk tp tm T w hw gw hg G M y0 nn j y1 o0 k1 k2 k3 k4 k5 k6 k7 ft f3 t x3 n cells slots H locs ls hv hlx hlg hlk hr hn512 l_x3 u_x3 hH hS hl kk
      have d21 := f_ne (k := 21) (by decide) c21
      by_cases c22 : v32 = 22
      · skip
        refine lv_topc c22 ?_
        refine lv_tableIn (off := 805) (tgt := 838) hx hb dL_law_33 (by decide) (by decide) (by decide) (by decide) ?_
        exact lw_c22 l D cs kf hx hb hml hown hts hX hbl hkb hks hE hA hbA hL O X hOX0 hO9 a0 ch a1 y2 y3 tk tp tm T w hw gw hg G M y0 nn j y1 o0 k1 k2 k3 k4 k5 k6 k7 ft f3 t x3 n cells slots H locs ls hv hlx hlg hlk hr hn512 l_x3 u_x3 hH hS hl kk
      have d22 := f_ne (k := 22) (by decide) c22
      by_cases c23 : v32 = 23
      · skip
        refine lv_topc c23 ?_
        refine lv_tableIn (off := 828) (tgt := 861) hx hb dL_law_33 (by decide) (by decide) (by decide) (by decide) ?_
        exact lw_c23 l D cs kf hx hb hml hown hts hX hbl hkb hks hE hA hbA hL O X hOX0 hO9 a0 ch a1 y2 y3 tk tp tm T w hw gw hg G M y0 nn j y1 o0 k1 k2 k3 k4 k5 k6 k7 ft f3 t x3 n cells slots H locs ls hv hlx hlg hlk hr hn512 l_x3 u_x3 hH hS hl kk
      have d23 := f_ne (k := 23) (by decide) c23
      by_cases c24 : v32 = 24
      · skip
        refine lv_topc c24 ?_
        refine lv_tableIn (off := 841) (tgt := 874) hx hb dL_law_33 (by decide) (by decide) (by decide) (by decide) ?_
        exact lw_c24 l D cs kf hx hb hml hown hts hX hbl hkb hks hE hA hbA hL O X hOX0 hO9 a0 ch a1 y2 y3 tk tp tm T w hw gw hg G M y0 nn j y1 o0 k1 k2 k3 k4 k5 k6 k7 ft f3 t x3 n cells slots H locs ls hv hlx hlg hlk hr hn512 l_x3 u_x3 hH hS hl kk
      have d24 := f_ne (k := 24) (by decide) c24
      by_cases c25 : v32 = 25
      · skip
        refine lv_topc c25 ?_
        refine lv_tableIn (off := 864) (tgt := 897) hx hb dL_law_33 (by decide) (by decide) (by decide) (by decide) ?_
        exact lw_c25 l D cs kf hx hb hml hown hts hX hbl hkb hks hE hA hbA hL O X hOX0 hO9 a0 ch a1 y2 y3 tk tp tm T w hw gw hg G M y0 nn j y1 o0 k1 k2 k3 k4 k5 k6 k7 ft f3 t x3 n cells slots H locs ls hv hlx hlg hlk hr hn512 l_x3 u_x3 hH hS hl kk
      have d25 := f_ne (k := 25) (by decide) c25
      by_cases c26 : v32 = 26
      · skip
        refine lv_topc c26 ?_
        refine lv_tableIn (off := 887) (tgt := 920) hx hb dL_law_33 (by decide) (by decide) (by decide) (by decide) ?_
        exact lw_c26 l D cs kf hx hb hml hown hts hX hbl hkb hks hE hA hbA hL O X hOX0 hO9 a0 ch a1 y2 y3 tk tp tm T w hw gw hg G M y0 nn j y1 o0 k1 k2 k3 k4 k5 k6 k7 ft f3 t x3 n cells slots H locs ls hv hlx hlg hlk hr hn512 l_x3 u_x3 hH hS hl kk
      have d26 := f_ne (k := 26) (by decide) c26
      by_cases c27 : v32 = 27
      · skip
        refine lv_topc c27 ?_
        refine lv_tableIn (off := 920) (tgt := 953) hx hb dL_law_33 (by decide) (by decide) (by decide) (by decide) ?_
        exact lw_c27 l D cs kf hx hb hml hown hts hX hbl hkb hks hE hA hbA hL O X hOX0 hO9 a0 ch a1 y2 y3 tk tp tm T w hw gw hg G M y0 nn j y1 o0 k1 k2 k3 k4 k5 k6 k7 ft f3 t x3 n cells slots H locs ls hv hlx hlg hlk hr hn512 l_x3 u_x3 hH hS hl kk
      have d27 := f_ne (k := 27) (by decide) c27
      by_cases c28 : v32 = 28
      · skip
        refine lv_topc c28 ?_
        refine lv_tableIn (off := 943) (tgt := 976) hx hb dL_law_33 (by decide) (by decide) (by decide) (by decide) ?_
        exact lw_c28 l D cs kf hx hb hml hown hts hX hbl hkb hks hE hA hbA hL O X hOX0 hO9 a0 ch a1 y2 y3 tk tp tm T w hw gw hg G M y0 nn j y1 o0 k1 k2 k3 k4 k5 k6 k7 ft f3 t x3 n cells slots H locs ls hv hlx hlg hlk hr hn512 l_x3 u_x3 hH hS hl kk
      have d28 := f_ne (k := 28) (by decide) c28
      by_cases c29 : v32 = 29
      · skip
        refine lv_topc c29 ?_
        refine lv_tableIn (off := 966) (tgt := 999) hx hb dL_law_33 (by decide) (by decide) (by decide) (by decide) ?_
        exact lw_c29 l D cs kf hx hb hml hown hts hX hbl hkb hks hE hA hbA hL O X hOX0 hO9 a0 ch a1 y2 y3 tk tp tm T w hw gw hg G M y0 nn j y1 o0 k1 k2 k3 k4 k5 k6 k7 ft f3 t x3 n cells slots H locs ls hv hlx hlg hlk hr hn512 l_x3 u_x3 hH hS hl kk
      have d29 := f_ne (k := 29) (by decide) c29
      by_cases c30 : v32 = 30
      · skip
        refine lv_topc c30 ?_
        refine lv_tableIn (off := 989) (tgt := 1022) hx hb dL_law_33 (by decide) (by decide) (by decide) (by decide) ?_
        exact lw_c30 l D cs kf hx hb hml hown hts hX hbl hkb hks hE hA hbA hL O X hOX0 hO9 a0 ch a1 y2 y3 tk tp tm T w hw gw hg G M y0 nn j y1 o0 k1 k2 k3 k4 k5 k6 k7 ft f3 t x3 n cells slots H locs ls hv hlx hlg hlk hr hn512 l_x3 u_x3 hH hS hl kk
      have d30 := f_ne (k := 30) (by decide) c30
      by_cases c31 : v32 = 31
      · skip
        refine lv_topc c31 ?_
        refine lv_tableIn (off := 1012) (tgt := 1045) hx hb dL_law_33 (by decide) (by decide) (by decide) (by decide) ?_
        exact lw_c31 l D cs kf hx hb hml hown hts hX hbl hkb hks hE hA hbA hL O X hOX0 hO9 a0 ch a1 y2 y3 tk tp tm T w hw gw hg G M y0 nn j y1 o0 k1 k2 k3 k4 k5 k6 k7 ft f3 t x3 n cells slots H locs ls hv hlx hlg hlk hr hn512 l_x3 u_x3 hH hS hl kk
      have d31 := f_ne (k := 31) (by decide) c31
      by_cases c32 : v32 = 32
      · skip
        refine lv_topc c32 ?_
        refine lv_tableIn (off := 1055) (tgt := 1088) hx hb dL_law_33 (by decide) (by decide) (by decide) (by decide) ?_
        exact lw_c32 l D cs kf hx hb hml hown hts hX hbl hkb hks hE hA hbA hL O X hOX0 hO9 a0 ch a1 y2 y3 tk tp tm T w hw gw hg G M y0 nn j y1 o0 k1 k2 k3 k4 k5 k6 k7 ft f3 t x3 n cells slots H locs ls hv hlx hlg hlk hr hn512 l_x3 u_x3 hH hS hl kk
      have d32 := f_ne (k := 32) (by decide) c32
      by_cases c33 : v32 = 33
      · skip
        refine lv_topc c33 ?_
        refine lv_tableIn (off := 1078) (tgt := 1111) hx hb dL_law_33 (by decide) (by decide) (by decide) (by decide) ?_
        exact lw_c33 l D cs kf hx hb hml hown hts hX hbl hkb hks hE hA hbA hL O X hOX0 hO9 a0 ch a1 y2 y3 tk tp tm T w hw gw hg G M y0 nn j y1 o0 k1 k2 k3 k4 k5 k6 k7 ft f3 t x3 n cells slots H locs ls hv hlx hlg hlk hr hn512 l_x3 u_x3 hH hS hl kk
      have d33 := f_ne (k := 33) (by decide) c33
      by_cases c34 : v32 = 34
      · skip
        refine lv_topc c34 ?_
        refine lv_tableIn (off := 1111) (tgt := 1144) hx hb dL_law_33 (by decide) (by decide) (by decide) (by decide) ?_
        exact lw_c34 l D cs kf hx hb hml hown hts hX hbl hkb hks hE hA hbA hL O X hOX0 hO9 a0 ch a1 y2 y3 tk tp tm T w hw gw hg G M y0 nn j y1 o0 k1 k2 k3 k4 k5 k6 k7 ft f3 t x3 n cells slots H locs ls hv hlx hlg hlk hr hn512 l_x3 u_x3 hH hS hl kk
      have d34 := f_ne (k := 34) (by decide) c34
      by_cases c35 : v32 = 35
      · skip
        refine lv_topc c35 ?_
        refine lv_tableIn (off := 1144) (tgt := 1177) hx hb dL_law_33 (by decide) (by decide) (by decide) (by decide) ?_
        exact lw_c35 l D cs kf hx hb hml hown hts hX hbl hkb hks hE hA hbA hL O X hOX0 hO9 a0 ch a1 y2 y3 tk tp tm T w hw gw hg G M y0 nn j y1 o0 k1 k2 k3 k4 k5 k6 k7 ft f3 t x3 n cells slots H locs ls hv hlx hlg hlk hr hn512 l_x3 u_x3 hH hS hl kk
      have d35 := f_ne (k := 35) (by decide) c35
      by_cases c36 : v32 = 36
      · skip
        refine lv_topc c36 ?_
        refine lv_tableIn (off := 1187) (tgt := 1220) hx hb dL_law_33 (by decide) (by decide) (by decide) (by decide) ?_
        exact lw_c36 l D cs kf hx hb hml hown hts hX hbl hkb hks hE hA hbA hL O X hOX0 hO9 a0 ch a1 y2 y3 tk tp tm T w hw gw hg G M y0 nn j y1 o0 k1 k2 k3 k4 k5 k6 k7 ft f3 t x3 n cells slots H locs ls hv hlx hlg hlk hr hn512 l_x3 u_x3 hH hS hl kk
      have d36 := f_ne (k := 36) (by decide) c36
      by_cases c37 : v32 = 37
      · skip
        refine lv_topc c37 ?_
        refine lv_tableIn (off := 1260) (tgt := 1293) hx hb dL_law_33 (by decide) (by decide) (by decide) (by decide) ?_
        exact lw_c37 l D cs kf hx hb hml hown hts hX hbl hkb hks hE hA hbA hL O X hOX0 hO9 a0 ch a1 y2 y3 tk tp tm T w hw gw hg G M y0 nn j y1 o0 k1 k2 k3 k4 k5 k6 k7 ft f3 t x3 n cells slots H locs ls hv hlx hlg hlk hr hn512 l_x3 u_x3 hH hS hl kk
      have d37 := f_ne (k := 37) (by decide) c37
      by_cases c38 : v32 = 38
      · skip
        refine lv_topc c38 ?_
        refine lv_tableIn (off := 1293) (tgt := 1326) hx hb dL_law_33 (by decide) (by decide) (by decide) (by decide) ?_
        exact lw_c38 l D cs kf hx hb hml hown hts hX hbl hkb hks hE hA hbA hL O X hOX0 hO9 a0 ch a1 y2 y3 tk tp tm T w hw gw hg G M y0 nn j y1 o0 k1 k2 k3 k4 k5 k6 k7 ft f3 t x3 n cells slots H locs ls hv hlx hlg hlk hr hn512 l_x3 u_x3 hH hS hl kk
      have d38 := f_ne (k := 38) (by decide) c38
      by_cases c39 : v32 = 39
      · skip
        refine lv_topc c39 ?_
        refine lv_tableIn (off := 1316) (tgt := 1349) hx hb dL_law_33 (by decide) (by decide) (by decide) (by decide) ?_
        exact lw_c39 l D cs kf hx hb hml hown hts hX hbl hkb hks hE hA hbA hL O X hOX0 hO9 a0 ch a1 y2 y3 tk tp tm T w hw gw hg G M y0 nn j y1 o0 k1 k2 k3 k4 k5 k6 k7 ft f3 t x3 n cells slots H locs ls hv hlx hlg hlk hr hn512 l_x3 u_x3 hH hS hl kk
      have d39 := f_ne (k := 39) (by decide) c39
      by_cases c40 : v32 = 40
      · skip
        refine lv_topc c40 ?_
        refine lv_tableIn (off := 1339) (tgt := 1372) hx hb dL_law_33 (by decide) (by decide) (by decide) (by decide) ?_
        exact lw_c40 l D cs kf hx hb hml hown hts hX hbl hkb hks hE hA hbA hL O X hOX0 hO9 a0 ch a1 y2 y3 tk tp tm T w hw gw hg G M y0 nn j y1 o0 k1 k2 k3 k4 k5 k6 k7 ft f3 t x3 n cells slots H locs ls hv hlx hlg hlk hr hn512 l_x3 u_x3 hH hS hl kk
      have d40 := f_ne (k := 40) (by decide) c40
      refine lv_tableOut (tgt := 1395) hx hb dL_law_33 (by omega) (by decide) ?_
      exact kk T w hw gw hg G M y0 nn j y1 o0 k1 k2 k3 k4 k5 k6 k7 ft f3 t cells slots H locs ls hv hlx hlg hlk hr.s hH hS hl
theorem dL_law_0 : decode code 0 = .ok (.new 7, 3) := by decide +kernel
theorem dL_law_3 : decode code 3 = .ok (.dup, 1) := by decide +kernel
theorem dL_law_4 : decode code 4 = .ok (.invokespecial 9, 3) := by decide +kernel
theorem dL_law_7 : decode code 7 = .ok (.astore_n 1, 1) := by decide +kernel
theorem dL_law_8 : decode code 8 = .ok (.new 10, 3) := by decide +kernel
theorem dL_law_11 : decode code 11 = .ok (.dup, 1) := by decide +kernel
theorem dL_law_12 : decode code 12 = .ok (.invokespecial 12, 3) := by decide +kernel
theorem dL_law_15 : decode code 15 = .ok (.astore_n 2, 1) := by decide +kernel
theorem dL_law_16 : decode code 16 = .ok (.iconst 0, 1) := by decide +kernel
theorem dL_law_17 : decode code 17 = .ok (.istore_n 3, 1) := by decide +kernel
theorem kw_24 : Cond.classLink "FootholdWallLaw" 7 "FootholdWall" ∈ gw := gw_of (tb_of 24 (by decide +kernel)) (by decide +kernel)
theorem kw_25 : Cond.instantiable "FootholdWall" 20 ∈ gw := gw_of (tb_of 25 (by decide +kernel)) (by decide +kernel)
theorem kw_26 : Cond.methodLink "FootholdWallLaw" 9 yX11_init ∈ gw := gw_of (tb_of 26 (by decide +kernel)) (by decide +kernel)
theorem kw_27 : Cond.instanceMethod yX11_init ∈ gw := gw_of (tb_of 27 (by decide +kernel)) (by decide +kernel)
theorem kw_28 : Cond.code yX11_init cX11_init 2 none ∈ gw := gw_of (tb_of 28 (by decide +kernel)) (by decide +kernel)
theorem kw_1213 : Cond.classLink "FootholdWallLaw" 10 "FootholdWallModel" ∈ gw := gw_of (tb_of 1213 (by decide +kernel)) (by decide +kernel)
theorem kw_1214 : Cond.instantiable "FootholdWallModel" 36 ∈ gw := gw_of (tb_of 1214 (by decide +kernel)) (by decide +kernel)
theorem kw_1215 : Cond.methodLink "FootholdWallLaw" 12 yX12_init ∈ gw := gw_of (tb_of 1215 (by decide +kernel)) (by decide +kernel)
theorem kw_1216 : Cond.instanceMethod yX12_init ∈ gw := gw_of (tb_of 1216 (by decide +kernel)) (by decide +kernel)
theorem kw_1217 : Cond.code yX12_init cX12_init 1 none ∈ gw := gw_of (tb_of 1217 (by decide +kernel)) (by decide +kernel)
set_option maxHeartbeats 4000000 in
set_option maxRecDepth 100000 in
/-- THE LAW, from its entry -/
theorem whole_start {p : Program} {e : Env} {s : State} {m : MethodId} {below : List Frame} {meth : Method} {c : Code} (l : Launch) {b L : Nat} {xs : Nat → Int32} (hL : L ≤ 3072) (C0 : lw_At p s m meth c b L xs) : W p l e room_1 s m #[Value.ref b] below meth c s.heap [] 0 0 (lw_Z below #[Value.ref b] s) (entryFrame m ([Value.ref b] : List Value).toArray 4) := by
  obtain ⟨hx, hb, hr, hml, hown, hts0, hX, hbl, hlocks, hgv⟩ := id C0
  have hts : ∀ w ∈ gw, w.before #[Value.ref b] s = true := fun w h => hts0 w (gw_tbl h)
  have hown : s.vm.findClass "FootholdWallLaw" = some m.cls := hown
  obtain ⟨c0, iS0, hKn0⟩ := u_known (C := RX0) (T := TX0) (N := 4) (n := 4) hts uX0 (hts _ kw_325)
  obtain ⟨c1, iS1, hKn1⟩ := u_known (C := RX1) (T := TX1) (N := 7) (n := 7) hts uX1 (hts _ kw_297)
  obtain ⟨c2, iS2, hKn2⟩ := u_known (C := RX2) (T := TX2) (N := 3) (n := 3) hts uX2 (hts _ kw_720)
  obtain ⟨c3, iS3, hKn3⟩ := u_known (C := RX3) (T := TX3) (N := 3) (n := 3) hts uX3 (hts _ kw_77)
  obtain ⟨c4, iS4, hKn4⟩ := u_known (C := RX4) (T := TX4) (N := 5) (n := 5) hts uX4 (hts _ kw_33)
  obtain ⟨c5, iS5, hKn5⟩ := u_known (C := RX5) (T := TX5) (N := 6) (n := 6) hts uX5 (hts _ kw_239)
  obtain ⟨c6, iS6, hKn6⟩ := u_known (C := RX6) (T := TX6) (N := 6) (n := 6) hts uX6 (hts _ kw_180)
  obtain ⟨c7, iS7, hKn7⟩ := u_known (C := RX7) (T := TX7) (N := 8) (n := 8) hts uX7 (hts _ kw_39)
  obtain ⟨c8, iS8, hKn8⟩ := u_known (C := RX8) (T := TX8) (N := 3) (n := 3) hts uX8 (hts _ kw_344)
  obtain ⟨c9, iS9, hKn9⟩ := u_known (C := RX9) (T := TX9) (N := 14) (n := 14) hts uX9 (hts _ kw_94)
  obtain ⟨c10, iS10, hKn10⟩ := u_known (C := RX10) (T := TX10) (N := 7) (n := 7) hts uX10 (hts _ kw_267)
  obtain ⟨c11, iS11, hKn11⟩ := u_known (C := RX11) (T := TX11) (N := 20) (n := 20) hts uX11 (hts _ kw_25)
  obtain ⟨c12, iS12, hKn12⟩ := u_known (C := RX12) (T := TX12) (N := 36) (n := 36) hts uX12 (hts _ kw_1214)
  obtain ⟨D, hKc⟩ : ∃ D : va_G, ∀ (k : Nat) (q : vw_C), cls[k]? = some q → u_Kn s q.1 q.2.1 q.2.2 (D.1 k) (D.2 k) := by
    refine ⟨(fun k => match k with | 0 => c0 | 1 => c1 | 2 => c2 | 3 => c3 | 4 => c4 | 5 => c5 | 6 => c6 | 7 => c7 | 8 => c8 | 9 => c9 | 10 => c10 | 11 => c11 | _ => c12, fun k => match k with | 0 => iS0 | 1 => iS1 | 2 => iS2 | 3 => iS3 | 4 => iS4 | 5 => iS5 | 6 => iS6 | 7 => iS7 | 8 => iS8 | 9 => iS9 | 10 => iS10 | 11 => iS11 | _ => iS12), ?_⟩
    intro k q hq
    match k, hq with
    | 0, hq => cases hq; exact hKn0
    | 1, hq => cases hq; exact hKn1
    | 2, hq => cases hq; exact hKn2
    | 3, hq => cases hq; exact hKn3
    | 4, hq => cases hq; exact hKn4
    | 5, hq => cases hq; exact hKn5
    | 6, hq => cases hq; exact hKn6
    | 7, hq => cases hq; exact hKn7
    | 8, hq => cases hq; exact hKn8
    | 9, hq => cases hq; exact hKn9
    | 10, hq => cases hq; exact hKn10
    | 11, hq => cases hq; exact hKn11
    | 12, hq => cases hq; exact hKn12
    | k + 13, hq => simp [cls] at hq
  obtain ⟨cB, hcB⟩ := ar_of (t := .byte) (hts _ kw_75) (fun _ _ h => h)
  obtain ⟨cI, hcI⟩ := ar_of (t := .int) (hts _ kw_92) (fun _ _ h => h)
  obtain ⟨cJ, hcJ⟩ := ar_of (t := .long) (hts _ kw_295) (fun _ _ h => h)
  obtain ⟨cZ, hcZ⟩ := ar_of (t := .boolean) (hts _ kw_1332) (fun _ _ h => h)
  have acS : va_AO RX6 s := va_AO.of (hts0 (.arrayOver (.object RX6)) (tb_of 233 (by decide +kernel)))
  obtain ⟨cS, hcS⟩ := ao_of acS
  have acW : va_AO RX9 s := va_AO.of (hts0 (.arrayOver (.object RX9)) (tb_of 234 (by decide +kernel)))
  obtain ⟨cW, hcW⟩ := ao_of acW
  have acT : va_AO RX8 s := va_AO.of (hts0 (.arrayOver (.object RX8)) (tb_of 236 (by decide +kernel)))
  obtain ⟨cT, hcT⟩ := ao_of acT
  have acR : va_AO RX5 s := va_AO.of (hts0 (.arrayOver (.object RX5)) (tb_of 238 (by decide +kernel)))
  obtain ⟨cR, hcR⟩ := ao_of acR
  have hK : va_K D cls (tyl cB cI cJ cZ cS cW cT cR) s := by
    refine ⟨hKc, fun k q hq => ?_⟩
    match k, hq with
    | 0, hq => cases hq; exact hcB
    | 1, hq => cases hq; exact hcI
    | 2, hq => cases hq; exact hcJ
    | 3, hq => cases hq; exact hcZ
    | 4, hq => cases hq; exact hcS
    | 5, hq => cases hq; exact hcW
    | 6, hq => cases hq; exact hcT
    | 7, hq => cases hq; exact hcR
    | k + 8, hq => simp [tyl] at hq
  have n0 : va_Nw (.methodLinkNest RX11 19 yX4_init RX11) s := va_Nw.of rfl (hts0 (.methodLinkNest RX11 19 yX4_init RX11) (tb_of 34 (by decide +kernel)))
  have n1 : va_Nw (.methodLinkNest RX4 11 yX7_init RX11) s := va_Nw.of rfl (hts0 (.methodLinkNest RX4 11 yX7_init RX11) (tb_of 40 (by decide +kernel)))
  have n2 : va_Nw (.methodLinkNest RX4 42 yX6_init RX11) s := va_Nw.of rfl (hts0 (.methodLinkNest RX4 42 yX6_init RX11) (tb_of 181 (by decide +kernel)))
  have n3 : va_Nw (.methodLinkNest RX11 35 yX6_init RX11) s := va_Nw.of rfl (hts0 (.methodLinkNest RX11 35 yX6_init RX11) (tb_of 232 (by decide +kernel)))
  have n4 : va_Nw (.methodLinkNest RX11 81 yX10_init RX11) s := va_Nw.of rfl (hts0 (.methodLinkNest RX11 81 yX10_init RX11) (tb_of 268 (by decide +kernel)))
  have n5 : va_Nw (.methodLinkNest RX11 88 yX1_init RX11) s := va_Nw.of rfl (hts0 (.methodLinkNest RX11 88 yX1_init RX11) (tb_of 298 (by decide +kernel)))
  have n6 : va_Nw (.methodLinkNest RX11 95 yX0_init RX11) s := va_Nw.of rfl (hts0 (.methodLinkNest RX11 95 yX0_init RX11) (tb_of 326 (by decide +kernel)))
  have n7 : va_Nw (.methodLinkNest RX11 110 yX8_init RX11) s := va_Nw.of rfl (hts0 (.methodLinkNest RX11 110 yX8_init RX11) (tb_of 345 (by decide +kernel)))
  have n8 : va_Nw (.castable "[I" "java/lang/Cloneable") s := va_Nw.of rfl (hts0 (.castable "[I" "java/lang/Cloneable") (tb_of 729 (by decide +kernel)))
  have hkb : kb D (tyl cB cI cJ cZ cS cW cT cR) s := ⟨hK, ⟨acS, acW, acT, acR⟩, n0, n1, n2, n3, n4, n5, n6, n7, n8⟩
  obtain ⟨A, hA, hA2⟩ : ∃ A : Nat → Prop, (∀ q : Nat, s.heap.size ≤ q → A q) ∧ (∀ q : Nat, A q → s.heap.size ≤ q) := ⟨fun q => s.heap.size ≤ q, fun _ h => h, fun _ h => h⟩
  have hS : va_S A s.heap s.heap [] := va_S.rf
  have hP : va_P D cls [] s.heap := fun k q h => by simp at h
  have hD : va_D A [] := ⟨fun i j p q h => by simp at h, fun k q h => by simp at h⟩
  have hl := lv_entry ([.ref b]) (n := 4) (Nat.le_of_ble_eq_true rfl)
  rw [lg_entry_eq]
  generalize (lg_sl ([.ref b]) ++ List.replicate (4 - (lg_sl ([.ref b])).length) Slot.unset).toArray = ls at hl ⊢
  have hl : lv_has ls 4 [(0, .ref b)] := hl
  refine va_new (ci := 11) (fs := [.null, .int 0, .null, .null, .null, .null, .null, .int 0, .int 0, .null, .null, .null, .null, .null, .null, .null, .null, .null, .null, .int 0]) (C := RX11) (T := TX11) (N := 20) hx hb hts uX11 tyX11 tyX11_ok hown (hts _ kw_24) (hts _ kw_25) (hts _ kw_1) hkb.1 hP hD hS hA rfl dfX11 (Nat.le_of_ble_eq_true rfl) (Nat.le_of_ble_eq_true rfl) dL_law_0 (fun q_1 H hP hD hS => ?_)
  have hP : va_P D cls [(q_1, .inr (11, [.null, .int 0, .null, .null, .null, .null, .null, .int 0, .int 0, .null, .null, .null, .null, .null, .null, .null, .null, .null, .null, .int 0]))] H := hP
  have hD : va_D A [(q_1, .inr (11, [.null, .int 0, .null, .null, .null, .null, .null, .int 0, .int 0, .null, .null, .null, .null, .null, .null, .null, .null, .null, .null, .int 0]))] := hD
  refine W.widen (k := 1) (n := 20) (Nat.le_of_ble_eq_true rfl) (Nat.le_of_ble_eq_true rfl) ?_
  refine lv_dup hx hb dL_law_3 rfl ?_
  have hPc := hP.sub (ws' := [(q_1, .inr (11, [.null, .int 0, .null, .null, .null, .null, .null, .int 0, .int 0, .null, .null, .null, .null, .null, .null, .null, .null, .null, .null, .int 0]))]) [0] rfl
  have hDc := hD.sub (ws' := [(q_1, .inr (11, [.null, .int 0, .null, .null, .null, .null, .null, .int 0, .int 0, .null, .null, .null, .null, .null, .null, .null, .null, .null, .null, .int 0]))]) [0] (by decide) rfl
  refine k_v (wc := [(q_1, .inr (11, [.null, .int 0, .null, .null, .null, .null, .null, .int 0, .int 0, .null, .null, .null, .null, .null, .null, .null, .null, .null, .null, .int 0]))]) (wr := []) hP hD hS hA [0] [] rfl rfl rfl (by decide) (r_I (n := 0) (As := []) hx hb hml hown hts hkb hPc hDc (c_FW_init l D cB cI cJ cZ cS cW cT cR q_1) kw_26 kw_27 kw_1 kw_28 rfl (by decide +kernel) ⟨Nat.le_of_ble_eq_true rfl, Nat.le_of_ble_eq_true rfl⟩ rfl rfl hl.1 (Nat.le_of_ble_eq_true rfl) dL_law_4 ⟨Nat.le_of_ble_eq_true rfl, Nat.le_of_ble_eq_true rfl⟩) (fun u H locs hw hP hD hS => ?_)
  refine hw.elim (fun q_2 hw => ?_)
  refine hw.elim (fun q_3 hw => ?_)
  refine hw.elim (fun q_4 hw => ?_)
  refine hw.elim (fun q_5 hw => ?_)
  refine hw.elim (fun q_6 hw => ?_)
  refine hw.elim (fun q_7 hw => ?_)
  refine hw.elim (fun q_8 hw => ?_)
  refine hw.elim (fun q_9 hw => ?_)
  refine hw.elim (fun q_10 hw => ?_)
  refine hw.elim (fun q_11 hw => ?_)
  refine hw.elim (fun q_12 hw => ?_)
  refine hw.elim (fun q_13 hw => ?_)
  refine hw.elim (fun q_14 hw => ?_)
  refine hw.elim (fun q_15 hw => ?_)
  refine hw.elim (fun q_16 hw => ?_)
  refine hw.elim (fun q_17 hw => ?_)
  refine hw.elim (fun q_18 hw => ?_)
  refine hw.elim (fun q_19 hw => ?_)
  refine hw.elim (fun q_20 hw => ?_)
  refine hw.elim (fun q_21 hw => ?_)
  refine hw.elim (fun q_22 hw => ?_)
  refine hw.elim (fun q_23 hw => ?_)
  refine hw.elim (fun q_24 hw => ?_)
  refine hw.elim (fun q_25 hw => ?_)
  refine hw.elim (fun q_26 hw => ?_)
  refine hw.elim (fun q_27 hw => ?_)
  refine hw.elim (fun q_28 hw => ?_)
  refine hw.elim (fun q_29 hw => ?_)
  refine hw.elim (fun q_30 hw => ?_)
  refine hw.elim (fun q_31 hw => ?_)
  refine hw.elim (fun q_32 hw => ?_)
  refine hw.elim (fun q_33 hw => ?_)
  refine hw.elim (fun q_34 hw => ?_)
  refine hw.elim (fun q_35 hw => ?_)
  refine hw.elim (fun q_36 hw => ?_)
  refine hw.elim (fun q_37 hw => ?_)
  refine hw.elim (fun q_38 hw => ?_)
  refine hw.elim (fun q_39 hw => ?_)
  refine hw.elim (fun q_40 hw => ?_)
  refine hw.elim (fun q_41 hw => ?_)
  refine hw.elim (fun q_42 hw => ?_)
  refine hw.elim (fun q_43 hw => ?_)
  refine hw.elim (fun q_44 hw => ?_)
  refine hw.elim (fun q_45 hw => ?_)
  refine hw.elim (fun q_46 hw => ?_)
  refine hw.elim (fun q_47 hw => ?_)
  refine hw.elim (fun q_48 hw => ?_)
  refine hw.elim (fun q_49 hw => ?_)
  refine hw.elim (fun q_50 hw => ?_)
  refine hw.elim (fun q_51 hw => ?_)
  refine hw.elim (fun q_52 hw => ?_)
  refine hw.elim (fun q_53 hw => ?_)
  refine hw.elim (fun q_54 hw => ?_)
  refine hw.elim (fun q_55 hw => ?_)
  refine hw.elim (fun q_56 hw => ?_)
  refine hw.elim (fun q_57 hw => ?_)
  refine hw.elim (fun q_58 hw => ?_)
  refine hw.elim (fun q_59 hw => ?_)
  refine hw.elim (fun q_60 hw => ?_)
  refine hw.elim (fun q_61 hw => ?_)
  refine hw.elim (fun q_62 hw => ?_)
  refine hw.elim (fun q_63 hw => ?_)
  refine hw.elim (fun q_64 hw => ?_)
  refine hw.elim (fun q_65 hw => ?_)
  refine hw.elim (fun q_66 hw => ?_)
  refine hw.elim (fun q_67 hw => ?_)
  refine hw.elim (fun q_68 hw => ?_)
  refine hw.elim (fun q_69 hw => ?_)
  refine hw.elim (fun q_70 hw => ?_)
  refine hw.elim (fun q_71 hw => ?_)
  refine hw.elim (fun q_72 hw => ?_)
  refine hw.elim (fun q_73 hw => ?_)
  refine hw.elim (fun q_74 hw => ?_)
  refine hw.elim (fun q_75 hw => ?_)
  refine hw.elim (fun q_76 hw => ?_)
  refine hw.elim (fun q_77 hw => ?_)
  refine hw.elim (fun q_78 hw => ?_)
  refine hw.elim (fun q_79 hw => ?_)
  refine hw.elim (fun q_80 hw => ?_)
  refine hw.elim (fun q_81 hw => ?_)
  refine hw.elim (fun q_82 hw => ?_)
  refine hw.elim (fun q_83 hw => ?_)
  refine hw.elim (fun q_84 hw => ?_)
  refine hw.elim (fun q_85 hw => ?_)
  refine hw.elim (fun q_86 hw => ?_)
  refine hw.elim (fun q_87 hw => ?_)
  refine hw.elim (fun q_88 hw => ?_)
  refine hw.elim (fun q_89 hw => ?_)
  refine hw.elim (fun q_90 hw => ?_)
  refine hw.elim (fun q_91 hw => ?_)
  refine hw.elim (fun q_92 hw => ?_)
  refine hw.elim (fun q_93 hw => ?_)
  refine hw.elim (fun q_94 hw => ?_)
  refine hw.elim (fun q_95 hw => ?_)
  refine hw.elim (fun q_96 hw => ?_)
  refine hw.elim (fun q_97 hw => ?_)
  refine hw.elim (fun q_98 hw => ?_)
  refine hw.elim (fun q_99 hw => ?_)
  refine hw.elim (fun q_100 hw => ?_)
  refine hw.elim (fun q_101 hw => ?_)
  refine hw.elim (fun q_102 hw => ?_)
  refine hw.elim (fun q_103 hw => ?_)
  refine hw.elim (fun q_104 hw => ?_)
  refine hw.elim (fun q_105 hw => ?_)
  refine hw.elim (fun q_106 hw => ?_)
  refine hw.elim (fun q_107 hw => ?_)
  refine hw.elim (fun q_108 hw => ?_)
  refine hw.elim (fun q_109 hw => ?_)
  refine hw.elim (fun q_110 hw => ?_)
  refine hw.elim (fun q_111 hw => ?_)
  refine hw.elim (fun q_112 hw => ?_)
  subst hw
  have hP : va_P D cls [(q_1, .inr (11, [.ref q_2, .int 0, .ref q_3, .ref q_4, .ref q_5, .ref q_6, .ref q_7, .int 0, .int 0, .ref q_8, .ref q_9, .ref q_10, .ref q_11, .ref q_12, .ref q_13, .ref q_14, .ref q_15, .ref q_16, .ref q_17, .int (-1)])), (q_2, .inl (cB, 900, .inl (fun _ => 0))), (q_3, .inr (4, [.ref q_18, .ref q_19, .ref q_20, .int 0, .ref q_21])), (q_18, .inr (7, [.ref q_22, .int 0, .int 0, .int 0, .int 0, .int 0, .int 0, .int (-1)])), (q_22, .inl (cB, 0, .inl (fun _ => 0))), (q_19, .inr (3, [.ref q_18, .ref q_23, .int 0])), (q_23, .inl (cI, 900, .inl (fun _ => 0))), (q_20, .inr (9, [.int 14, .int 5, .int 0, .int 0, .int 0, .int 0, .ref q_24, .ref q_25, .ref q_26, .ref q_27, .ref q_28, .null, .int 0, .int 1])), (q_24, .inl (cI, 14, .inl (fun _ => 0))), (q_25, .inl (cI, 14, .inl (fun _ => 0))), (q_26, .inl (cI, 14, .inl (fun _ => 0))), (q_27, .inl (cI, 5, .inl (fun _ => 0))), (q_28, .inl (cI, 5, .inl (fun _ => 0))), (q_21, .inr (6, [.int 0, .int 0, .int 0, .int 0, .ref q_29, .ref q_30])), (q_29, .inl (cI, 14, .inl (fun _ => 0))), (q_30, .inl (cI, 14, .inl (fun _ => 0))), (q_4, .inr (9, [.int 0, .int 0, .int 0, .int 0, .int 0, .int 0, .ref q_31, .ref q_32, .ref q_33, .ref q_34, .ref q_35, .null, .int 0, .int 1])), (q_31, .inl (cI, 0, .inl (fun _ => 0))), (q_32, .inl (cI, 0, .inl (fun _ => 0))), (q_33, .inl (cI, 0, .inl (fun _ => 0))), (q_34, .inl (cI, 0, .inl (fun _ => 0))), (q_35, .inl (cI, 0, .inl (fun _ => 0))), (q_5, .inr (6, [.int 0, .int 0, .int 0, .int 0, .ref q_36, .ref q_37])), (q_36, .inl (cI, 14, .inl (fun _ => 0))), (q_37, .inl (cI, 14, .inl (fun _ => 0))), (q_6, .inr (6, [.int 0, .int 0, .int 0, .int 0, .ref q_38, .ref q_39])), (q_38, .inl (cI, 14, .inl (fun _ => 0))), (q_39, .inl (cI, 14, .inl (fun _ => 0))), (q_7, .inl (cS, 10, .inr (.inr (.inr (.inr (va_up (va_up (va_up (va_up (va_up (va_up (va_up (va_up (va_up (va_up (fun _ => none) 0 (some q_40)) 1 (some q_41)) 2 (some q_42)) 3 (some q_43)) 4 (some q_44)) 5 (some q_45)) 6 (some q_46)) 7 (some q_47)) 8 (some q_48)) 9 (some q_49))))))), (q_8, .inl (cW, 2, .inr (.inr (.inr (.inr (fun _ => none)))))), (q_9, .inl (cS, 2, .inr (.inr (.inr (.inr (va_up (va_up (fun _ => none) 0 (some q_50)) 1 (some q_51))))))), (q_10, .inl (cT, 4, .inr (.inr (.inr (.inr (va_up (va_up (va_up (va_up (fun _ => none) 0 (some q_52)) 1 (some q_53)) 2 (some q_54)) 3 (some q_55))))))), (q_11, .inl (cR, 5, .inr (.inr (.inr (.inr (va_up (va_up (va_up (va_up (va_up (fun _ => none) 0 (some q_56)) 1 (some q_57)) 2 (some q_58)) 3 (some q_59)) 4 (some q_60))))))), (q_12, .inr (5, [.ref q_4, .int 0, .int 0, .int 0, .ref q_61, .ref q_62])), (q_61, .inl (cI, 14, .inl (fun _ => 0))), (q_62, .inl (cI, 14, .inl (fun _ => 0))), (q_13, .inr (10, [.ref q_63, .ref q_64, .int 0, .ref q_65, .ref q_66, .ref q_67, .int 0])), (q_63, .inl (cI, 14, .inl (fun _ => 0))), (q_64, .inl (cI, 14, .inl (fun _ => 0))), (q_65, .inl (cJ, 14, .inr (.inl (fun _ => 0)))), (q_66, .inl (cI, 14, .inl (fun _ => 0))), (q_67, .inl (cI, 14, .inl (fun _ => 0))), (q_14, .inr (1, [.ref q_68, .ref q_69, .int 0, .ref q_70, .int 0, .int 0, .ref q_71])), (q_68, .inl (cI, 14, .inl (fun _ => 0))), (q_69, .inl (cI, 14, .inl (fun _ => 0))), (q_70, .inl (cI, 28, .inl (fun _ => 0))), (q_71, .inl (cI, 28, .inl (fun _ => 0))), (q_15, .inr (0, [.ref q_72, .int 0, .ref q_73, .ref q_74])), (q_72, .inl (cI, 1, .inl (fun _ => 0))), (q_73, .inl (cI, 14, .inl (fun _ => 0))), (q_74, .inl (cI, 14, .inl (fun _ => 0))), (q_16, .inl (cI, 5, .inl (fun _ => 0))), (q_17, .inl (cI, 5, .inl (fun _ => 0))), (q_40, .inr (6, [.int 0, .int 0, .int 0, .int 0, .ref q_75, .ref q_76])), (q_75, .inl (cI, 14, .inl (fun _ => 0))), (q_76, .inl (cI, 14, .inl (fun _ => 0))), (q_41, .inr (6, [.int 0, .int 0, .int 0, .int 0, .ref q_77, .ref q_78])), (q_77, .inl (cI, 14, .inl (fun _ => 0))), (q_78, .inl (cI, 14, .inl (fun _ => 0))), (q_42, .inr (6, [.int 0, .int 0, .int 0, .int 0, .ref q_79, .ref q_80])), (q_79, .inl (cI, 14, .inl (fun _ => 0))), (q_80, .inl (cI, 14, .inl (fun _ => 0))), (q_43, .inr (6, [.int 0, .int 0, .int 0, .int 0, .ref q_81, .ref q_82])), (q_81, .inl (cI, 14, .inl (fun _ => 0))), (q_82, .inl (cI, 14, .inl (fun _ => 0))), (q_44, .inr (6, [.int 0, .int 0, .int 0, .int 0, .ref q_83, .ref q_84])), (q_83, .inl (cI, 14, .inl (fun _ => 0))), (q_84, .inl (cI, 14, .inl (fun _ => 0))), (q_45, .inr (6, [.int 0, .int 0, .int 0, .int 0, .ref q_85, .ref q_86])), (q_85, .inl (cI, 14, .inl (fun _ => 0))), (q_86, .inl (cI, 14, .inl (fun _ => 0))), (q_46, .inr (6, [.int 0, .int 0, .int 0, .int 0, .ref q_87, .ref q_88])), (q_87, .inl (cI, 14, .inl (fun _ => 0))), (q_88, .inl (cI, 14, .inl (fun _ => 0))), (q_47, .inr (6, [.int 0, .int 0, .int 0, .int 0, .ref q_89, .ref q_90])), (q_89, .inl (cI, 14, .inl (fun _ => 0))), (q_90, .inl (cI, 14, .inl (fun _ => 0))), (q_48, .inr (6, [.int 0, .int 0, .int 0, .int 0, .ref q_91, .ref q_92])), (q_91, .inl (cI, 14, .inl (fun _ => 0))), (q_92, .inl (cI, 14, .inl (fun _ => 0))), (q_49, .inr (6, [.int 0, .int 0, .int 0, .int 0, .ref q_93, .ref q_94])), (q_93, .inl (cI, 14, .inl (fun _ => 0))), (q_94, .inl (cI, 14, .inl (fun _ => 0))), (q_50, .inr (6, [.int 0, .int 0, .int 0, .int 0, .ref q_95, .ref q_96])), (q_95, .inl (cI, 14, .inl (fun _ => 0))), (q_96, .inl (cI, 14, .inl (fun _ => 0))), (q_51, .inr (6, [.int 0, .int 0, .int 0, .int 0, .ref q_97, .ref q_98])), (q_97, .inl (cI, 14, .inl (fun _ => 0))), (q_98, .inl (cI, 14, .inl (fun _ => 0))), (q_52, .inr (8, [.ref q_99, .int 0, .int (-1)])), (q_99, .inl (cJ, 40, .inr (.inl (fun _ => 0)))), (q_53, .inr (8, [.ref q_100, .int 0, .int (-1)])), (q_100, .inl (cJ, 40, .inr (.inl (fun _ => 0)))), (q_54, .inr (8, [.ref q_101, .int 0, .int (-1)])), (q_101, .inl (cJ, 40, .inr (.inl (fun _ => 0)))), (q_55, .inr (8, [.ref q_102, .int 0, .int (-1)])), (q_102, .inl (cJ, 40, .inr (.inl (fun _ => 0)))), (q_56, .inr (5, [.ref q_4, .int 0, .int 0, .int 0, .ref q_103, .ref q_104])), (q_103, .inl (cI, 14, .inl (fun _ => 0))), (q_104, .inl (cI, 14, .inl (fun _ => 0))), (q_57, .inr (5, [.ref q_4, .int 0, .int 0, .int 0, .ref q_105, .ref q_106])), (q_105, .inl (cI, 14, .inl (fun _ => 0))), (q_106, .inl (cI, 14, .inl (fun _ => 0))), (q_58, .inr (5, [.ref q_4, .int 0, .int 0, .int 0, .ref q_107, .ref q_108])), (q_107, .inl (cI, 14, .inl (fun _ => 0))), (q_108, .inl (cI, 14, .inl (fun _ => 0))), (q_59, .inr (5, [.ref q_4, .int 0, .int 0, .int 0, .ref q_109, .ref q_110])), (q_109, .inl (cI, 14, .inl (fun _ => 0))), (q_110, .inl (cI, 14, .inl (fun _ => 0))), (q_60, .inr (5, [.ref q_4, .int 0, .int 0, .int 0, .ref q_111, .ref q_112])), (q_111, .inl (cI, 14, .inl (fun _ => 0))), (q_112, .inl (cI, 14, .inl (fun _ => 0)))] H := hP
  have hD : va_D A [(q_1, .inr (11, [.ref q_2, .int 0, .ref q_3, .ref q_4, .ref q_5, .ref q_6, .ref q_7, .int 0, .int 0, .ref q_8, .ref q_9, .ref q_10, .ref q_11, .ref q_12, .ref q_13, .ref q_14, .ref q_15, .ref q_16, .ref q_17, .int (-1)])), (q_2, .inl (cB, 900, .inl (fun _ => 0))), (q_3, .inr (4, [.ref q_18, .ref q_19, .ref q_20, .int 0, .ref q_21])), (q_18, .inr (7, [.ref q_22, .int 0, .int 0, .int 0, .int 0, .int 0, .int 0, .int (-1)])), (q_22, .inl (cB, 0, .inl (fun _ => 0))), (q_19, .inr (3, [.ref q_18, .ref q_23, .int 0])), (q_23, .inl (cI, 900, .inl (fun _ => 0))), (q_20, .inr (9, [.int 14, .int 5, .int 0, .int 0, .int 0, .int 0, .ref q_24, .ref q_25, .ref q_26, .ref q_27, .ref q_28, .null, .int 0, .int 1])), (q_24, .inl (cI, 14, .inl (fun _ => 0))), (q_25, .inl (cI, 14, .inl (fun _ => 0))), (q_26, .inl (cI, 14, .inl (fun _ => 0))), (q_27, .inl (cI, 5, .inl (fun _ => 0))), (q_28, .inl (cI, 5, .inl (fun _ => 0))), (q_21, .inr (6, [.int 0, .int 0, .int 0, .int 0, .ref q_29, .ref q_30])), (q_29, .inl (cI, 14, .inl (fun _ => 0))), (q_30, .inl (cI, 14, .inl (fun _ => 0))), (q_4, .inr (9, [.int 0, .int 0, .int 0, .int 0, .int 0, .int 0, .ref q_31, .ref q_32, .ref q_33, .ref q_34, .ref q_35, .null, .int 0, .int 1])), (q_31, .inl (cI, 0, .inl (fun _ => 0))), (q_32, .inl (cI, 0, .inl (fun _ => 0))), (q_33, .inl (cI, 0, .inl (fun _ => 0))), (q_34, .inl (cI, 0, .inl (fun _ => 0))), (q_35, .inl (cI, 0, .inl (fun _ => 0))), (q_5, .inr (6, [.int 0, .int 0, .int 0, .int 0, .ref q_36, .ref q_37])), (q_36, .inl (cI, 14, .inl (fun _ => 0))), (q_37, .inl (cI, 14, .inl (fun _ => 0))), (q_6, .inr (6, [.int 0, .int 0, .int 0, .int 0, .ref q_38, .ref q_39])), (q_38, .inl (cI, 14, .inl (fun _ => 0))), (q_39, .inl (cI, 14, .inl (fun _ => 0))), (q_7, .inl (cS, 10, .inr (.inr (.inr (.inr (va_up (va_up (va_up (va_up (va_up (va_up (va_up (va_up (va_up (va_up (fun _ => none) 0 (some q_40)) 1 (some q_41)) 2 (some q_42)) 3 (some q_43)) 4 (some q_44)) 5 (some q_45)) 6 (some q_46)) 7 (some q_47)) 8 (some q_48)) 9 (some q_49))))))), (q_8, .inl (cW, 2, .inr (.inr (.inr (.inr (fun _ => none)))))), (q_9, .inl (cS, 2, .inr (.inr (.inr (.inr (va_up (va_up (fun _ => none) 0 (some q_50)) 1 (some q_51))))))), (q_10, .inl (cT, 4, .inr (.inr (.inr (.inr (va_up (va_up (va_up (va_up (fun _ => none) 0 (some q_52)) 1 (some q_53)) 2 (some q_54)) 3 (some q_55))))))), (q_11, .inl (cR, 5, .inr (.inr (.inr (.inr (va_up (va_up (va_up (va_up (va_up (fun _ => none) 0 (some q_56)) 1 (some q_57)) 2 (some q_58)) 3 (some q_59)) 4 (some q_60))))))), (q_12, .inr (5, [.ref q_4, .int 0, .int 0, .int 0, .ref q_61, .ref q_62])), (q_61, .inl (cI, 14, .inl (fun _ => 0))), (q_62, .inl (cI, 14, .inl (fun _ => 0))), (q_13, .inr (10, [.ref q_63, .ref q_64, .int 0, .ref q_65, .ref q_66, .ref q_67, .int 0])), (q_63, .inl (cI, 14, .inl (fun _ => 0))), (q_64, .inl (cI, 14, .inl (fun _ => 0))), (q_65, .inl (cJ, 14, .inr (.inl (fun _ => 0)))), (q_66, .inl (cI, 14, .inl (fun _ => 0))), (q_67, .inl (cI, 14, .inl (fun _ => 0))), (q_14, .inr (1, [.ref q_68, .ref q_69, .int 0, .ref q_70, .int 0, .int 0, .ref q_71])), (q_68, .inl (cI, 14, .inl (fun _ => 0))), (q_69, .inl (cI, 14, .inl (fun _ => 0))), (q_70, .inl (cI, 28, .inl (fun _ => 0))), (q_71, .inl (cI, 28, .inl (fun _ => 0))), (q_15, .inr (0, [.ref q_72, .int 0, .ref q_73, .ref q_74])), (q_72, .inl (cI, 1, .inl (fun _ => 0))), (q_73, .inl (cI, 14, .inl (fun _ => 0))), (q_74, .inl (cI, 14, .inl (fun _ => 0))), (q_16, .inl (cI, 5, .inl (fun _ => 0))), (q_17, .inl (cI, 5, .inl (fun _ => 0))), (q_40, .inr (6, [.int 0, .int 0, .int 0, .int 0, .ref q_75, .ref q_76])), (q_75, .inl (cI, 14, .inl (fun _ => 0))), (q_76, .inl (cI, 14, .inl (fun _ => 0))), (q_41, .inr (6, [.int 0, .int 0, .int 0, .int 0, .ref q_77, .ref q_78])), (q_77, .inl (cI, 14, .inl (fun _ => 0))), (q_78, .inl (cI, 14, .inl (fun _ => 0))), (q_42, .inr (6, [.int 0, .int 0, .int 0, .int 0, .ref q_79, .ref q_80])), (q_79, .inl (cI, 14, .inl (fun _ => 0))), (q_80, .inl (cI, 14, .inl (fun _ => 0))), (q_43, .inr (6, [.int 0, .int 0, .int 0, .int 0, .ref q_81, .ref q_82])), (q_81, .inl (cI, 14, .inl (fun _ => 0))), (q_82, .inl (cI, 14, .inl (fun _ => 0))), (q_44, .inr (6, [.int 0, .int 0, .int 0, .int 0, .ref q_83, .ref q_84])), (q_83, .inl (cI, 14, .inl (fun _ => 0))), (q_84, .inl (cI, 14, .inl (fun _ => 0))), (q_45, .inr (6, [.int 0, .int 0, .int 0, .int 0, .ref q_85, .ref q_86])), (q_85, .inl (cI, 14, .inl (fun _ => 0))), (q_86, .inl (cI, 14, .inl (fun _ => 0))), (q_46, .inr (6, [.int 0, .int 0, .int 0, .int 0, .ref q_87, .ref q_88])), (q_87, .inl (cI, 14, .inl (fun _ => 0))), (q_88, .inl (cI, 14, .inl (fun _ => 0))), (q_47, .inr (6, [.int 0, .int 0, .int 0, .int 0, .ref q_89, .ref q_90])), (q_89, .inl (cI, 14, .inl (fun _ => 0))), (q_90, .inl (cI, 14, .inl (fun _ => 0))), (q_48, .inr (6, [.int 0, .int 0, .int 0, .int 0, .ref q_91, .ref q_92])), (q_91, .inl (cI, 14, .inl (fun _ => 0))), (q_92, .inl (cI, 14, .inl (fun _ => 0))), (q_49, .inr (6, [.int 0, .int 0, .int 0, .int 0, .ref q_93, .ref q_94])), (q_93, .inl (cI, 14, .inl (fun _ => 0))), (q_94, .inl (cI, 14, .inl (fun _ => 0))), (q_50, .inr (6, [.int 0, .int 0, .int 0, .int 0, .ref q_95, .ref q_96])), (q_95, .inl (cI, 14, .inl (fun _ => 0))), (q_96, .inl (cI, 14, .inl (fun _ => 0))), (q_51, .inr (6, [.int 0, .int 0, .int 0, .int 0, .ref q_97, .ref q_98])), (q_97, .inl (cI, 14, .inl (fun _ => 0))), (q_98, .inl (cI, 14, .inl (fun _ => 0))), (q_52, .inr (8, [.ref q_99, .int 0, .int (-1)])), (q_99, .inl (cJ, 40, .inr (.inl (fun _ => 0)))), (q_53, .inr (8, [.ref q_100, .int 0, .int (-1)])), (q_100, .inl (cJ, 40, .inr (.inl (fun _ => 0)))), (q_54, .inr (8, [.ref q_101, .int 0, .int (-1)])), (q_101, .inl (cJ, 40, .inr (.inl (fun _ => 0)))), (q_55, .inr (8, [.ref q_102, .int 0, .int (-1)])), (q_102, .inl (cJ, 40, .inr (.inl (fun _ => 0)))), (q_56, .inr (5, [.ref q_4, .int 0, .int 0, .int 0, .ref q_103, .ref q_104])), (q_103, .inl (cI, 14, .inl (fun _ => 0))), (q_104, .inl (cI, 14, .inl (fun _ => 0))), (q_57, .inr (5, [.ref q_4, .int 0, .int 0, .int 0, .ref q_105, .ref q_106])), (q_105, .inl (cI, 14, .inl (fun _ => 0))), (q_106, .inl (cI, 14, .inl (fun _ => 0))), (q_58, .inr (5, [.ref q_4, .int 0, .int 0, .int 0, .ref q_107, .ref q_108])), (q_107, .inl (cI, 14, .inl (fun _ => 0))), (q_108, .inl (cI, 14, .inl (fun _ => 0))), (q_59, .inr (5, [.ref q_4, .int 0, .int 0, .int 0, .ref q_109, .ref q_110])), (q_109, .inl (cI, 14, .inl (fun _ => 0))), (q_110, .inl (cI, 14, .inl (fun _ => 0))), (q_60, .inr (5, [.ref q_4, .int 0, .int 0, .int 0, .ref q_111, .ref q_112])), (q_111, .inl (cI, 14, .inl (fun _ => 0))), (q_112, .inl (cI, 14, .inl (fun _ => 0)))] := hD
  refine W.widen (k := 112) (n := 3036) (Nat.le_of_ble_eq_true rfl) (Nat.le_of_ble_eq_true rfl) ?_
  refine lv_astore_n (lv' := [(1, .ref q_1), (0, .ref b)]) hx hb dL_law_7 rfl hl (by decide) rfl (fun ls hl => ?_)
  refine va_new (ci := 12) (fs := [.int 0, .null, .null, .null, .null, .int 0, .int 0, .int 0, .int 0, .int 0, .int 0, .int 0, .int 0, .int 0, .int 0, .null, .int 0, .null, .null, .null, .int 0, .null, .null, .int 0, .int 0, .int 0, .null, .null, .null, .null, .null, .null, .int 0, .null, .null, .null]) (C := RX12) (T := TX12) (N := 36) hx hb hts uX12 tyX12 tyX12_ok hown (hts _ kw_1213) (hts _ kw_1214) (hts _ kw_13) hkb.1 hP hD hS hA rfl dfX12 (Nat.le_of_ble_eq_true rfl) (Nat.le_of_ble_eq_true rfl) dL_law_8 (fun q_114 H hP hD hS => ?_)
  have hP : va_P D cls [(q_1, .inr (11, [.ref q_2, .int 0, .ref q_3, .ref q_4, .ref q_5, .ref q_6, .ref q_7, .int 0, .int 0, .ref q_8, .ref q_9, .ref q_10, .ref q_11, .ref q_12, .ref q_13, .ref q_14, .ref q_15, .ref q_16, .ref q_17, .int (-1)])), (q_2, .inl (cB, 900, .inl (fun _ => 0))), (q_3, .inr (4, [.ref q_18, .ref q_19, .ref q_20, .int 0, .ref q_21])), (q_18, .inr (7, [.ref q_22, .int 0, .int 0, .int 0, .int 0, .int 0, .int 0, .int (-1)])), (q_22, .inl (cB, 0, .inl (fun _ => 0))), (q_19, .inr (3, [.ref q_18, .ref q_23, .int 0])), (q_23, .inl (cI, 900, .inl (fun _ => 0))), (q_20, .inr (9, [.int 14, .int 5, .int 0, .int 0, .int 0, .int 0, .ref q_24, .ref q_25, .ref q_26, .ref q_27, .ref q_28, .null, .int 0, .int 1])), (q_24, .inl (cI, 14, .inl (fun _ => 0))), (q_25, .inl (cI, 14, .inl (fun _ => 0))), (q_26, .inl (cI, 14, .inl (fun _ => 0))), (q_27, .inl (cI, 5, .inl (fun _ => 0))), (q_28, .inl (cI, 5, .inl (fun _ => 0))), (q_21, .inr (6, [.int 0, .int 0, .int 0, .int 0, .ref q_29, .ref q_30])), (q_29, .inl (cI, 14, .inl (fun _ => 0))), (q_30, .inl (cI, 14, .inl (fun _ => 0))), (q_4, .inr (9, [.int 0, .int 0, .int 0, .int 0, .int 0, .int 0, .ref q_31, .ref q_32, .ref q_33, .ref q_34, .ref q_35, .null, .int 0, .int 1])), (q_31, .inl (cI, 0, .inl (fun _ => 0))), (q_32, .inl (cI, 0, .inl (fun _ => 0))), (q_33, .inl (cI, 0, .inl (fun _ => 0))), (q_34, .inl (cI, 0, .inl (fun _ => 0))), (q_35, .inl (cI, 0, .inl (fun _ => 0))), (q_5, .inr (6, [.int 0, .int 0, .int 0, .int 0, .ref q_36, .ref q_37])), (q_36, .inl (cI, 14, .inl (fun _ => 0))), (q_37, .inl (cI, 14, .inl (fun _ => 0))), (q_6, .inr (6, [.int 0, .int 0, .int 0, .int 0, .ref q_38, .ref q_39])), (q_38, .inl (cI, 14, .inl (fun _ => 0))), (q_39, .inl (cI, 14, .inl (fun _ => 0))), (q_7, .inl (cS, 10, .inr (.inr (.inr (.inr (va_up (va_up (va_up (va_up (va_up (va_up (va_up (va_up (va_up (va_up (fun _ => none) 0 (some q_40)) 1 (some q_41)) 2 (some q_42)) 3 (some q_43)) 4 (some q_44)) 5 (some q_45)) 6 (some q_46)) 7 (some q_47)) 8 (some q_48)) 9 (some q_49))))))), (q_8, .inl (cW, 2, .inr (.inr (.inr (.inr (fun _ => none)))))), (q_9, .inl (cS, 2, .inr (.inr (.inr (.inr (va_up (va_up (fun _ => none) 0 (some q_50)) 1 (some q_51))))))), (q_10, .inl (cT, 4, .inr (.inr (.inr (.inr (va_up (va_up (va_up (va_up (fun _ => none) 0 (some q_52)) 1 (some q_53)) 2 (some q_54)) 3 (some q_55))))))), (q_11, .inl (cR, 5, .inr (.inr (.inr (.inr (va_up (va_up (va_up (va_up (va_up (fun _ => none) 0 (some q_56)) 1 (some q_57)) 2 (some q_58)) 3 (some q_59)) 4 (some q_60))))))), (q_12, .inr (5, [.ref q_4, .int 0, .int 0, .int 0, .ref q_61, .ref q_62])), (q_61, .inl (cI, 14, .inl (fun _ => 0))), (q_62, .inl (cI, 14, .inl (fun _ => 0))), (q_13, .inr (10, [.ref q_63, .ref q_64, .int 0, .ref q_65, .ref q_66, .ref q_67, .int 0])), (q_63, .inl (cI, 14, .inl (fun _ => 0))), (q_64, .inl (cI, 14, .inl (fun _ => 0))), (q_65, .inl (cJ, 14, .inr (.inl (fun _ => 0)))), (q_66, .inl (cI, 14, .inl (fun _ => 0))), (q_67, .inl (cI, 14, .inl (fun _ => 0))), (q_14, .inr (1, [.ref q_68, .ref q_69, .int 0, .ref q_70, .int 0, .int 0, .ref q_71])), (q_68, .inl (cI, 14, .inl (fun _ => 0))), (q_69, .inl (cI, 14, .inl (fun _ => 0))), (q_70, .inl (cI, 28, .inl (fun _ => 0))), (q_71, .inl (cI, 28, .inl (fun _ => 0))), (q_15, .inr (0, [.ref q_72, .int 0, .ref q_73, .ref q_74])), (q_72, .inl (cI, 1, .inl (fun _ => 0))), (q_73, .inl (cI, 14, .inl (fun _ => 0))), (q_74, .inl (cI, 14, .inl (fun _ => 0))), (q_16, .inl (cI, 5, .inl (fun _ => 0))), (q_17, .inl (cI, 5, .inl (fun _ => 0))), (q_40, .inr (6, [.int 0, .int 0, .int 0, .int 0, .ref q_75, .ref q_76])), (q_75, .inl (cI, 14, .inl (fun _ => 0))), (q_76, .inl (cI, 14, .inl (fun _ => 0))), (q_41, .inr (6, [.int 0, .int 0, .int 0, .int 0, .ref q_77, .ref q_78])), (q_77, .inl (cI, 14, .inl (fun _ => 0))), (q_78, .inl (cI, 14, .inl (fun _ => 0))), (q_42, .inr (6, [.int 0, .int 0, .int 0, .int 0, .ref q_79, .ref q_80])), (q_79, .inl (cI, 14, .inl (fun _ => 0))), (q_80, .inl (cI, 14, .inl (fun _ => 0))), (q_43, .inr (6, [.int 0, .int 0, .int 0, .int 0, .ref q_81, .ref q_82])), (q_81, .inl (cI, 14, .inl (fun _ => 0))), (q_82, .inl (cI, 14, .inl (fun _ => 0))), (q_44, .inr (6, [.int 0, .int 0, .int 0, .int 0, .ref q_83, .ref q_84])), (q_83, .inl (cI, 14, .inl (fun _ => 0))), (q_84, .inl (cI, 14, .inl (fun _ => 0))), (q_45, .inr (6, [.int 0, .int 0, .int 0, .int 0, .ref q_85, .ref q_86])), (q_85, .inl (cI, 14, .inl (fun _ => 0))), (q_86, .inl (cI, 14, .inl (fun _ => 0))), (q_46, .inr (6, [.int 0, .int 0, .int 0, .int 0, .ref q_87, .ref q_88])), (q_87, .inl (cI, 14, .inl (fun _ => 0))), (q_88, .inl (cI, 14, .inl (fun _ => 0))), (q_47, .inr (6, [.int 0, .int 0, .int 0, .int 0, .ref q_89, .ref q_90])), (q_89, .inl (cI, 14, .inl (fun _ => 0))), (q_90, .inl (cI, 14, .inl (fun _ => 0))), (q_48, .inr (6, [.int 0, .int 0, .int 0, .int 0, .ref q_91, .ref q_92])), (q_91, .inl (cI, 14, .inl (fun _ => 0))), (q_92, .inl (cI, 14, .inl (fun _ => 0))), (q_49, .inr (6, [.int 0, .int 0, .int 0, .int 0, .ref q_93, .ref q_94])), (q_93, .inl (cI, 14, .inl (fun _ => 0))), (q_94, .inl (cI, 14, .inl (fun _ => 0))), (q_50, .inr (6, [.int 0, .int 0, .int 0, .int 0, .ref q_95, .ref q_96])), (q_95, .inl (cI, 14, .inl (fun _ => 0))), (q_96, .inl (cI, 14, .inl (fun _ => 0))), (q_51, .inr (6, [.int 0, .int 0, .int 0, .int 0, .ref q_97, .ref q_98])), (q_97, .inl (cI, 14, .inl (fun _ => 0))), (q_98, .inl (cI, 14, .inl (fun _ => 0))), (q_52, .inr (8, [.ref q_99, .int 0, .int (-1)])), (q_99, .inl (cJ, 40, .inr (.inl (fun _ => 0)))), (q_53, .inr (8, [.ref q_100, .int 0, .int (-1)])), (q_100, .inl (cJ, 40, .inr (.inl (fun _ => 0)))), (q_54, .inr (8, [.ref q_101, .int 0, .int (-1)])), (q_101, .inl (cJ, 40, .inr (.inl (fun _ => 0)))), (q_55, .inr (8, [.ref q_102, .int 0, .int (-1)])), (q_102, .inl (cJ, 40, .inr (.inl (fun _ => 0)))), (q_56, .inr (5, [.ref q_4, .int 0, .int 0, .int 0, .ref q_103, .ref q_104])), (q_103, .inl (cI, 14, .inl (fun _ => 0))), (q_104, .inl (cI, 14, .inl (fun _ => 0))), (q_57, .inr (5, [.ref q_4, .int 0, .int 0, .int 0, .ref q_105, .ref q_106])), (q_105, .inl (cI, 14, .inl (fun _ => 0))), (q_106, .inl (cI, 14, .inl (fun _ => 0))), (q_58, .inr (5, [.ref q_4, .int 0, .int 0, .int 0, .ref q_107, .ref q_108])), (q_107, .inl (cI, 14, .inl (fun _ => 0))), (q_108, .inl (cI, 14, .inl (fun _ => 0))), (q_59, .inr (5, [.ref q_4, .int 0, .int 0, .int 0, .ref q_109, .ref q_110])), (q_109, .inl (cI, 14, .inl (fun _ => 0))), (q_110, .inl (cI, 14, .inl (fun _ => 0))), (q_60, .inr (5, [.ref q_4, .int 0, .int 0, .int 0, .ref q_111, .ref q_112])), (q_111, .inl (cI, 14, .inl (fun _ => 0))), (q_112, .inl (cI, 14, .inl (fun _ => 0))), (q_114, .inr (12, [.int 0, .null, .null, .null, .null, .int 0, .int 0, .int 0, .int 0, .int 0, .int 0, .int 0, .int 0, .int 0, .int 0, .null, .int 0, .null, .null, .null, .int 0, .null, .null, .int 0, .int 0, .int 0, .null, .null, .null, .null, .null, .null, .int 0, .null, .null, .null]))] H := hP
  have hD : va_D A [(q_1, .inr (11, [.ref q_2, .int 0, .ref q_3, .ref q_4, .ref q_5, .ref q_6, .ref q_7, .int 0, .int 0, .ref q_8, .ref q_9, .ref q_10, .ref q_11, .ref q_12, .ref q_13, .ref q_14, .ref q_15, .ref q_16, .ref q_17, .int (-1)])), (q_2, .inl (cB, 900, .inl (fun _ => 0))), (q_3, .inr (4, [.ref q_18, .ref q_19, .ref q_20, .int 0, .ref q_21])), (q_18, .inr (7, [.ref q_22, .int 0, .int 0, .int 0, .int 0, .int 0, .int 0, .int (-1)])), (q_22, .inl (cB, 0, .inl (fun _ => 0))), (q_19, .inr (3, [.ref q_18, .ref q_23, .int 0])), (q_23, .inl (cI, 900, .inl (fun _ => 0))), (q_20, .inr (9, [.int 14, .int 5, .int 0, .int 0, .int 0, .int 0, .ref q_24, .ref q_25, .ref q_26, .ref q_27, .ref q_28, .null, .int 0, .int 1])), (q_24, .inl (cI, 14, .inl (fun _ => 0))), (q_25, .inl (cI, 14, .inl (fun _ => 0))), (q_26, .inl (cI, 14, .inl (fun _ => 0))), (q_27, .inl (cI, 5, .inl (fun _ => 0))), (q_28, .inl (cI, 5, .inl (fun _ => 0))), (q_21, .inr (6, [.int 0, .int 0, .int 0, .int 0, .ref q_29, .ref q_30])), (q_29, .inl (cI, 14, .inl (fun _ => 0))), (q_30, .inl (cI, 14, .inl (fun _ => 0))), (q_4, .inr (9, [.int 0, .int 0, .int 0, .int 0, .int 0, .int 0, .ref q_31, .ref q_32, .ref q_33, .ref q_34, .ref q_35, .null, .int 0, .int 1])), (q_31, .inl (cI, 0, .inl (fun _ => 0))), (q_32, .inl (cI, 0, .inl (fun _ => 0))), (q_33, .inl (cI, 0, .inl (fun _ => 0))), (q_34, .inl (cI, 0, .inl (fun _ => 0))), (q_35, .inl (cI, 0, .inl (fun _ => 0))), (q_5, .inr (6, [.int 0, .int 0, .int 0, .int 0, .ref q_36, .ref q_37])), (q_36, .inl (cI, 14, .inl (fun _ => 0))), (q_37, .inl (cI, 14, .inl (fun _ => 0))), (q_6, .inr (6, [.int 0, .int 0, .int 0, .int 0, .ref q_38, .ref q_39])), (q_38, .inl (cI, 14, .inl (fun _ => 0))), (q_39, .inl (cI, 14, .inl (fun _ => 0))), (q_7, .inl (cS, 10, .inr (.inr (.inr (.inr (va_up (va_up (va_up (va_up (va_up (va_up (va_up (va_up (va_up (va_up (fun _ => none) 0 (some q_40)) 1 (some q_41)) 2 (some q_42)) 3 (some q_43)) 4 (some q_44)) 5 (some q_45)) 6 (some q_46)) 7 (some q_47)) 8 (some q_48)) 9 (some q_49))))))), (q_8, .inl (cW, 2, .inr (.inr (.inr (.inr (fun _ => none)))))), (q_9, .inl (cS, 2, .inr (.inr (.inr (.inr (va_up (va_up (fun _ => none) 0 (some q_50)) 1 (some q_51))))))), (q_10, .inl (cT, 4, .inr (.inr (.inr (.inr (va_up (va_up (va_up (va_up (fun _ => none) 0 (some q_52)) 1 (some q_53)) 2 (some q_54)) 3 (some q_55))))))), (q_11, .inl (cR, 5, .inr (.inr (.inr (.inr (va_up (va_up (va_up (va_up (va_up (fun _ => none) 0 (some q_56)) 1 (some q_57)) 2 (some q_58)) 3 (some q_59)) 4 (some q_60))))))), (q_12, .inr (5, [.ref q_4, .int 0, .int 0, .int 0, .ref q_61, .ref q_62])), (q_61, .inl (cI, 14, .inl (fun _ => 0))), (q_62, .inl (cI, 14, .inl (fun _ => 0))), (q_13, .inr (10, [.ref q_63, .ref q_64, .int 0, .ref q_65, .ref q_66, .ref q_67, .int 0])), (q_63, .inl (cI, 14, .inl (fun _ => 0))), (q_64, .inl (cI, 14, .inl (fun _ => 0))), (q_65, .inl (cJ, 14, .inr (.inl (fun _ => 0)))), (q_66, .inl (cI, 14, .inl (fun _ => 0))), (q_67, .inl (cI, 14, .inl (fun _ => 0))), (q_14, .inr (1, [.ref q_68, .ref q_69, .int 0, .ref q_70, .int 0, .int 0, .ref q_71])), (q_68, .inl (cI, 14, .inl (fun _ => 0))), (q_69, .inl (cI, 14, .inl (fun _ => 0))), (q_70, .inl (cI, 28, .inl (fun _ => 0))), (q_71, .inl (cI, 28, .inl (fun _ => 0))), (q_15, .inr (0, [.ref q_72, .int 0, .ref q_73, .ref q_74])), (q_72, .inl (cI, 1, .inl (fun _ => 0))), (q_73, .inl (cI, 14, .inl (fun _ => 0))), (q_74, .inl (cI, 14, .inl (fun _ => 0))), (q_16, .inl (cI, 5, .inl (fun _ => 0))), (q_17, .inl (cI, 5, .inl (fun _ => 0))), (q_40, .inr (6, [.int 0, .int 0, .int 0, .int 0, .ref q_75, .ref q_76])), (q_75, .inl (cI, 14, .inl (fun _ => 0))), (q_76, .inl (cI, 14, .inl (fun _ => 0))), (q_41, .inr (6, [.int 0, .int 0, .int 0, .int 0, .ref q_77, .ref q_78])), (q_77, .inl (cI, 14, .inl (fun _ => 0))), (q_78, .inl (cI, 14, .inl (fun _ => 0))), (q_42, .inr (6, [.int 0, .int 0, .int 0, .int 0, .ref q_79, .ref q_80])), (q_79, .inl (cI, 14, .inl (fun _ => 0))), (q_80, .inl (cI, 14, .inl (fun _ => 0))), (q_43, .inr (6, [.int 0, .int 0, .int 0, .int 0, .ref q_81, .ref q_82])), (q_81, .inl (cI, 14, .inl (fun _ => 0))), (q_82, .inl (cI, 14, .inl (fun _ => 0))), (q_44, .inr (6, [.int 0, .int 0, .int 0, .int 0, .ref q_83, .ref q_84])), (q_83, .inl (cI, 14, .inl (fun _ => 0))), (q_84, .inl (cI, 14, .inl (fun _ => 0))), (q_45, .inr (6, [.int 0, .int 0, .int 0, .int 0, .ref q_85, .ref q_86])), (q_85, .inl (cI, 14, .inl (fun _ => 0))), (q_86, .inl (cI, 14, .inl (fun _ => 0))), (q_46, .inr (6, [.int 0, .int 0, .int 0, .int 0, .ref q_87, .ref q_88])), (q_87, .inl (cI, 14, .inl (fun _ => 0))), (q_88, .inl (cI, 14, .inl (fun _ => 0))), (q_47, .inr (6, [.int 0, .int 0, .int 0, .int 0, .ref q_89, .ref q_90])), (q_89, .inl (cI, 14, .inl (fun _ => 0))), (q_90, .inl (cI, 14, .inl (fun _ => 0))), (q_48, .inr (6, [.int 0, .int 0, .int 0, .int 0, .ref q_91, .ref q_92])), (q_91, .inl (cI, 14, .inl (fun _ => 0))), (q_92, .inl (cI, 14, .inl (fun _ => 0))), (q_49, .inr (6, [.int 0, .int 0, .int 0, .int 0, .ref q_93, .ref q_94])), (q_93, .inl (cI, 14, .inl (fun _ => 0))), (q_94, .inl (cI, 14, .inl (fun _ => 0))), (q_50, .inr (6, [.int 0, .int 0, .int 0, .int 0, .ref q_95, .ref q_96])), (q_95, .inl (cI, 14, .inl (fun _ => 0))), (q_96, .inl (cI, 14, .inl (fun _ => 0))), (q_51, .inr (6, [.int 0, .int 0, .int 0, .int 0, .ref q_97, .ref q_98])), (q_97, .inl (cI, 14, .inl (fun _ => 0))), (q_98, .inl (cI, 14, .inl (fun _ => 0))), (q_52, .inr (8, [.ref q_99, .int 0, .int (-1)])), (q_99, .inl (cJ, 40, .inr (.inl (fun _ => 0)))), (q_53, .inr (8, [.ref q_100, .int 0, .int (-1)])), (q_100, .inl (cJ, 40, .inr (.inl (fun _ => 0)))), (q_54, .inr (8, [.ref q_101, .int 0, .int (-1)])), (q_101, .inl (cJ, 40, .inr (.inl (fun _ => 0)))), (q_55, .inr (8, [.ref q_102, .int 0, .int (-1)])), (q_102, .inl (cJ, 40, .inr (.inl (fun _ => 0)))), (q_56, .inr (5, [.ref q_4, .int 0, .int 0, .int 0, .ref q_103, .ref q_104])), (q_103, .inl (cI, 14, .inl (fun _ => 0))), (q_104, .inl (cI, 14, .inl (fun _ => 0))), (q_57, .inr (5, [.ref q_4, .int 0, .int 0, .int 0, .ref q_105, .ref q_106])), (q_105, .inl (cI, 14, .inl (fun _ => 0))), (q_106, .inl (cI, 14, .inl (fun _ => 0))), (q_58, .inr (5, [.ref q_4, .int 0, .int 0, .int 0, .ref q_107, .ref q_108])), (q_107, .inl (cI, 14, .inl (fun _ => 0))), (q_108, .inl (cI, 14, .inl (fun _ => 0))), (q_59, .inr (5, [.ref q_4, .int 0, .int 0, .int 0, .ref q_109, .ref q_110])), (q_109, .inl (cI, 14, .inl (fun _ => 0))), (q_110, .inl (cI, 14, .inl (fun _ => 0))), (q_60, .inr (5, [.ref q_4, .int 0, .int 0, .int 0, .ref q_111, .ref q_112])), (q_111, .inl (cI, 14, .inl (fun _ => 0))), (q_112, .inl (cI, 14, .inl (fun _ => 0))), (q_114, .inr (12, [.int 0, .null, .null, .null, .null, .int 0, .int 0, .int 0, .int 0, .int 0, .int 0, .int 0, .int 0, .int 0, .int 0, .null, .int 0, .null, .null, .null, .int 0, .null, .null, .int 0, .int 0, .int 0, .null, .null, .null, .null, .null, .null, .int 0, .null, .null, .null]))] := hD
  refine W.widen (k := 113) (n := 3072) (Nat.le_of_ble_eq_true rfl) (Nat.le_of_ble_eq_true rfl) ?_
  refine lv_dup hx hb dL_law_11 rfl ?_
  have hPc := hP.sub (ws' := [(q_114, .inr (12, [.int 0, .null, .null, .null, .null, .int 0, .int 0, .int 0, .int 0, .int 0, .int 0, .int 0, .int 0, .int 0, .int 0, .null, .int 0, .null, .null, .null, .int 0, .null, .null, .int 0, .int 0, .int 0, .null, .null, .null, .null, .null, .null, .int 0, .null, .null, .null]))]) [112] rfl
  have hDc := hD.sub (ws' := [(q_114, .inr (12, [.int 0, .null, .null, .null, .null, .int 0, .int 0, .int 0, .int 0, .int 0, .int 0, .int 0, .int 0, .int 0, .int 0, .null, .int 0, .null, .null, .null, .int 0, .null, .null, .int 0, .int 0, .int 0, .null, .null, .null, .null, .null, .null, .int 0, .null, .null, .null]))]) [112] (by decide) rfl
  refine k_v (wc := [(q_114, .inr (12, [.int 0, .null, .null, .null, .null, .int 0, .int 0, .int 0, .int 0, .int 0, .int 0, .int 0, .int 0, .int 0, .int 0, .null, .int 0, .null, .null, .null, .int 0, .null, .null, .int 0, .int 0, .int 0, .null, .null, .null, .null, .null, .null, .int 0, .null, .null, .null]))]) (wr := [(q_1, .inr (11, [.ref q_2, .int 0, .ref q_3, .ref q_4, .ref q_5, .ref q_6, .ref q_7, .int 0, .int 0, .ref q_8, .ref q_9, .ref q_10, .ref q_11, .ref q_12, .ref q_13, .ref q_14, .ref q_15, .ref q_16, .ref q_17, .int (-1)])), (q_2, .inl (cB, 900, .inl (fun _ => 0))), (q_3, .inr (4, [.ref q_18, .ref q_19, .ref q_20, .int 0, .ref q_21])), (q_18, .inr (7, [.ref q_22, .int 0, .int 0, .int 0, .int 0, .int 0, .int 0, .int (-1)])), (q_22, .inl (cB, 0, .inl (fun _ => 0))), (q_19, .inr (3, [.ref q_18, .ref q_23, .int 0])), (q_23, .inl (cI, 900, .inl (fun _ => 0))), (q_20, .inr (9, [.int 14, .int 5, .int 0, .int 0, .int 0, .int 0, .ref q_24, .ref q_25, .ref q_26, .ref q_27, .ref q_28, .null, .int 0, .int 1])), (q_24, .inl (cI, 14, .inl (fun _ => 0))), (q_25, .inl (cI, 14, .inl (fun _ => 0))), (q_26, .inl (cI, 14, .inl (fun _ => 0))), (q_27, .inl (cI, 5, .inl (fun _ => 0))), (q_28, .inl (cI, 5, .inl (fun _ => 0))), (q_21, .inr (6, [.int 0, .int 0, .int 0, .int 0, .ref q_29, .ref q_30])), (q_29, .inl (cI, 14, .inl (fun _ => 0))), (q_30, .inl (cI, 14, .inl (fun _ => 0))), (q_4, .inr (9, [.int 0, .int 0, .int 0, .int 0, .int 0, .int 0, .ref q_31, .ref q_32, .ref q_33, .ref q_34, .ref q_35, .null, .int 0, .int 1])), (q_31, .inl (cI, 0, .inl (fun _ => 0))), (q_32, .inl (cI, 0, .inl (fun _ => 0))), (q_33, .inl (cI, 0, .inl (fun _ => 0))), (q_34, .inl (cI, 0, .inl (fun _ => 0))), (q_35, .inl (cI, 0, .inl (fun _ => 0))), (q_5, .inr (6, [.int 0, .int 0, .int 0, .int 0, .ref q_36, .ref q_37])), (q_36, .inl (cI, 14, .inl (fun _ => 0))), (q_37, .inl (cI, 14, .inl (fun _ => 0))), (q_6, .inr (6, [.int 0, .int 0, .int 0, .int 0, .ref q_38, .ref q_39])), (q_38, .inl (cI, 14, .inl (fun _ => 0))), (q_39, .inl (cI, 14, .inl (fun _ => 0))), (q_7, .inl (cS, 10, .inr (.inr (.inr (.inr (va_up (va_up (va_up (va_up (va_up (va_up (va_up (va_up (va_up (va_up (fun _ => none) 0 (some q_40)) 1 (some q_41)) 2 (some q_42)) 3 (some q_43)) 4 (some q_44)) 5 (some q_45)) 6 (some q_46)) 7 (some q_47)) 8 (some q_48)) 9 (some q_49))))))), (q_8, .inl (cW, 2, .inr (.inr (.inr (.inr (fun _ => none)))))), (q_9, .inl (cS, 2, .inr (.inr (.inr (.inr (va_up (va_up (fun _ => none) 0 (some q_50)) 1 (some q_51))))))), (q_10, .inl (cT, 4, .inr (.inr (.inr (.inr (va_up (va_up (va_up (va_up (fun _ => none) 0 (some q_52)) 1 (some q_53)) 2 (some q_54)) 3 (some q_55))))))), (q_11, .inl (cR, 5, .inr (.inr (.inr (.inr (va_up (va_up (va_up (va_up (va_up (fun _ => none) 0 (some q_56)) 1 (some q_57)) 2 (some q_58)) 3 (some q_59)) 4 (some q_60))))))), (q_12, .inr (5, [.ref q_4, .int 0, .int 0, .int 0, .ref q_61, .ref q_62])), (q_61, .inl (cI, 14, .inl (fun _ => 0))), (q_62, .inl (cI, 14, .inl (fun _ => 0))), (q_13, .inr (10, [.ref q_63, .ref q_64, .int 0, .ref q_65, .ref q_66, .ref q_67, .int 0])), (q_63, .inl (cI, 14, .inl (fun _ => 0))), (q_64, .inl (cI, 14, .inl (fun _ => 0))), (q_65, .inl (cJ, 14, .inr (.inl (fun _ => 0)))), (q_66, .inl (cI, 14, .inl (fun _ => 0))), (q_67, .inl (cI, 14, .inl (fun _ => 0))), (q_14, .inr (1, [.ref q_68, .ref q_69, .int 0, .ref q_70, .int 0, .int 0, .ref q_71])), (q_68, .inl (cI, 14, .inl (fun _ => 0))), (q_69, .inl (cI, 14, .inl (fun _ => 0))), (q_70, .inl (cI, 28, .inl (fun _ => 0))), (q_71, .inl (cI, 28, .inl (fun _ => 0))), (q_15, .inr (0, [.ref q_72, .int 0, .ref q_73, .ref q_74])), (q_72, .inl (cI, 1, .inl (fun _ => 0))), (q_73, .inl (cI, 14, .inl (fun _ => 0))), (q_74, .inl (cI, 14, .inl (fun _ => 0))), (q_16, .inl (cI, 5, .inl (fun _ => 0))), (q_17, .inl (cI, 5, .inl (fun _ => 0))), (q_40, .inr (6, [.int 0, .int 0, .int 0, .int 0, .ref q_75, .ref q_76])), (q_75, .inl (cI, 14, .inl (fun _ => 0))), (q_76, .inl (cI, 14, .inl (fun _ => 0))), (q_41, .inr (6, [.int 0, .int 0, .int 0, .int 0, .ref q_77, .ref q_78])), (q_77, .inl (cI, 14, .inl (fun _ => 0))), (q_78, .inl (cI, 14, .inl (fun _ => 0))), (q_42, .inr (6, [.int 0, .int 0, .int 0, .int 0, .ref q_79, .ref q_80])), (q_79, .inl (cI, 14, .inl (fun _ => 0))), (q_80, .inl (cI, 14, .inl (fun _ => 0))), (q_43, .inr (6, [.int 0, .int 0, .int 0, .int 0, .ref q_81, .ref q_82])), (q_81, .inl (cI, 14, .inl (fun _ => 0))), (q_82, .inl (cI, 14, .inl (fun _ => 0))), (q_44, .inr (6, [.int 0, .int 0, .int 0, .int 0, .ref q_83, .ref q_84])), (q_83, .inl (cI, 14, .inl (fun _ => 0))), (q_84, .inl (cI, 14, .inl (fun _ => 0))), (q_45, .inr (6, [.int 0, .int 0, .int 0, .int 0, .ref q_85, .ref q_86])), (q_85, .inl (cI, 14, .inl (fun _ => 0))), (q_86, .inl (cI, 14, .inl (fun _ => 0))), (q_46, .inr (6, [.int 0, .int 0, .int 0, .int 0, .ref q_87, .ref q_88])), (q_87, .inl (cI, 14, .inl (fun _ => 0))), (q_88, .inl (cI, 14, .inl (fun _ => 0))), (q_47, .inr (6, [.int 0, .int 0, .int 0, .int 0, .ref q_89, .ref q_90])), (q_89, .inl (cI, 14, .inl (fun _ => 0))), (q_90, .inl (cI, 14, .inl (fun _ => 0))), (q_48, .inr (6, [.int 0, .int 0, .int 0, .int 0, .ref q_91, .ref q_92])), (q_91, .inl (cI, 14, .inl (fun _ => 0))), (q_92, .inl (cI, 14, .inl (fun _ => 0))), (q_49, .inr (6, [.int 0, .int 0, .int 0, .int 0, .ref q_93, .ref q_94])), (q_93, .inl (cI, 14, .inl (fun _ => 0))), (q_94, .inl (cI, 14, .inl (fun _ => 0))), (q_50, .inr (6, [.int 0, .int 0, .int 0, .int 0, .ref q_95, .ref q_96])), (q_95, .inl (cI, 14, .inl (fun _ => 0))), (q_96, .inl (cI, 14, .inl (fun _ => 0))), (q_51, .inr (6, [.int 0, .int 0, .int 0, .int 0, .ref q_97, .ref q_98])), (q_97, .inl (cI, 14, .inl (fun _ => 0))), (q_98, .inl (cI, 14, .inl (fun _ => 0))), (q_52, .inr (8, [.ref q_99, .int 0, .int (-1)])), (q_99, .inl (cJ, 40, .inr (.inl (fun _ => 0)))), (q_53, .inr (8, [.ref q_100, .int 0, .int (-1)])), (q_100, .inl (cJ, 40, .inr (.inl (fun _ => 0)))), (q_54, .inr (8, [.ref q_101, .int 0, .int (-1)])), (q_101, .inl (cJ, 40, .inr (.inl (fun _ => 0)))), (q_55, .inr (8, [.ref q_102, .int 0, .int (-1)])), (q_102, .inl (cJ, 40, .inr (.inl (fun _ => 0)))), (q_56, .inr (5, [.ref q_4, .int 0, .int 0, .int 0, .ref q_103, .ref q_104])), (q_103, .inl (cI, 14, .inl (fun _ => 0))), (q_104, .inl (cI, 14, .inl (fun _ => 0))), (q_57, .inr (5, [.ref q_4, .int 0, .int 0, .int 0, .ref q_105, .ref q_106])), (q_105, .inl (cI, 14, .inl (fun _ => 0))), (q_106, .inl (cI, 14, .inl (fun _ => 0))), (q_58, .inr (5, [.ref q_4, .int 0, .int 0, .int 0, .ref q_107, .ref q_108])), (q_107, .inl (cI, 14, .inl (fun _ => 0))), (q_108, .inl (cI, 14, .inl (fun _ => 0))), (q_59, .inr (5, [.ref q_4, .int 0, .int 0, .int 0, .ref q_109, .ref q_110])), (q_109, .inl (cI, 14, .inl (fun _ => 0))), (q_110, .inl (cI, 14, .inl (fun _ => 0))), (q_60, .inr (5, [.ref q_4, .int 0, .int 0, .int 0, .ref q_111, .ref q_112])), (q_111, .inl (cI, 14, .inl (fun _ => 0))), (q_112, .inl (cI, 14, .inl (fun _ => 0)))]) hP hD hS hA [112] [0, 1, 2, 3, 4, 5, 6, 7, 8, 9, 10, 11, 12, 13, 14, 15, 16, 17, 18, 19, 20, 21, 22, 23, 24, 25, 26, 27, 28, 29, 30, 31, 32, 33, 34, 35, 36, 37, 38, 39, 40, 41, 42, 43, 44, 45, 46, 47, 48, 49, 50, 51, 52, 53, 54, 55, 56, 57, 58, 59, 60, 61, 62, 63, 64, 65, 66, 67, 68, 69, 70, 71, 72, 73, 74, 75, 76, 77, 78, 79, 80, 81, 82, 83, 84, 85, 86, 87, 88, 89, 90, 91, 92, 93, 94, 95, 96, 97, 98, 99, 100, 101, 102, 103, 104, 105, 106, 107, 108, 109, 110, 111] rfl rfl rfl (by decide) (r_I (n := 0) (As := []) hx hb hml hown hts hkb hPc hDc (c_MO_init l D cB cI cJ cZ cS cW cT cR q_114) kw_1215 kw_1216 kw_13 kw_1217 rfl (by decide +kernel) ⟨Nat.le_of_ble_eq_true rfl, Nat.le_of_ble_eq_true rfl⟩ rfl rfl hl.1 (Nat.le_of_ble_eq_true rfl) dL_law_12 ⟨Nat.le_of_ble_eq_true rfl, Nat.le_of_ble_eq_true rfl⟩) (fun u H locs hw hP hD hS => ?_)
  refine hw.elim (fun q_115 hw => ?_)
  refine hw.elim (fun q_116 hw => ?_)
  refine hw.elim (fun q_117 hw => ?_)
  refine hw.elim (fun q_118 hw => ?_)
  refine hw.elim (fun q_119 hw => ?_)
  refine hw.elim (fun q_120 hw => ?_)
  refine hw.elim (fun q_121 hw => ?_)
  refine hw.elim (fun q_122 hw => ?_)
  refine hw.elim (fun q_123 hw => ?_)
  refine hw.elim (fun q_124 hw => ?_)
  refine hw.elim (fun q_125 hw => ?_)
  refine hw.elim (fun q_126 hw => ?_)
  refine hw.elim (fun q_127 hw => ?_)
  refine hw.elim (fun q_128 hw => ?_)
  refine hw.elim (fun q_129 hw => ?_)
  refine hw.elim (fun q_130 hw => ?_)
  refine hw.elim (fun q_131 hw => ?_)
  refine hw.elim (fun q_132 hw => ?_)
  refine hw.elim (fun q_133 hw => ?_)
  subst hw
  have hP : va_P D cls [(q_1, .inr (11, [.ref q_2, .int 0, .ref q_3, .ref q_4, .ref q_5, .ref q_6, .ref q_7, .int 0, .int 0, .ref q_8, .ref q_9, .ref q_10, .ref q_11, .ref q_12, .ref q_13, .ref q_14, .ref q_15, .ref q_16, .ref q_17, .int (-1)])), (q_2, .inl (cB, 900, .inl (fun _ => 0))), (q_3, .inr (4, [.ref q_18, .ref q_19, .ref q_20, .int 0, .ref q_21])), (q_18, .inr (7, [.ref q_22, .int 0, .int 0, .int 0, .int 0, .int 0, .int 0, .int (-1)])), (q_22, .inl (cB, 0, .inl (fun _ => 0))), (q_19, .inr (3, [.ref q_18, .ref q_23, .int 0])), (q_23, .inl (cI, 900, .inl (fun _ => 0))), (q_20, .inr (9, [.int 14, .int 5, .int 0, .int 0, .int 0, .int 0, .ref q_24, .ref q_25, .ref q_26, .ref q_27, .ref q_28, .null, .int 0, .int 1])), (q_24, .inl (cI, 14, .inl (fun _ => 0))), (q_25, .inl (cI, 14, .inl (fun _ => 0))), (q_26, .inl (cI, 14, .inl (fun _ => 0))), (q_27, .inl (cI, 5, .inl (fun _ => 0))), (q_28, .inl (cI, 5, .inl (fun _ => 0))), (q_21, .inr (6, [.int 0, .int 0, .int 0, .int 0, .ref q_29, .ref q_30])), (q_29, .inl (cI, 14, .inl (fun _ => 0))), (q_30, .inl (cI, 14, .inl (fun _ => 0))), (q_4, .inr (9, [.int 0, .int 0, .int 0, .int 0, .int 0, .int 0, .ref q_31, .ref q_32, .ref q_33, .ref q_34, .ref q_35, .null, .int 0, .int 1])), (q_31, .inl (cI, 0, .inl (fun _ => 0))), (q_32, .inl (cI, 0, .inl (fun _ => 0))), (q_33, .inl (cI, 0, .inl (fun _ => 0))), (q_34, .inl (cI, 0, .inl (fun _ => 0))), (q_35, .inl (cI, 0, .inl (fun _ => 0))), (q_5, .inr (6, [.int 0, .int 0, .int 0, .int 0, .ref q_36, .ref q_37])), (q_36, .inl (cI, 14, .inl (fun _ => 0))), (q_37, .inl (cI, 14, .inl (fun _ => 0))), (q_6, .inr (6, [.int 0, .int 0, .int 0, .int 0, .ref q_38, .ref q_39])), (q_38, .inl (cI, 14, .inl (fun _ => 0))), (q_39, .inl (cI, 14, .inl (fun _ => 0))), (q_7, .inl (cS, 10, .inr (.inr (.inr (.inr (va_up (va_up (va_up (va_up (va_up (va_up (va_up (va_up (va_up (va_up (fun _ => none) 0 (some q_40)) 1 (some q_41)) 2 (some q_42)) 3 (some q_43)) 4 (some q_44)) 5 (some q_45)) 6 (some q_46)) 7 (some q_47)) 8 (some q_48)) 9 (some q_49))))))), (q_8, .inl (cW, 2, .inr (.inr (.inr (.inr (fun _ => none)))))), (q_9, .inl (cS, 2, .inr (.inr (.inr (.inr (va_up (va_up (fun _ => none) 0 (some q_50)) 1 (some q_51))))))), (q_10, .inl (cT, 4, .inr (.inr (.inr (.inr (va_up (va_up (va_up (va_up (fun _ => none) 0 (some q_52)) 1 (some q_53)) 2 (some q_54)) 3 (some q_55))))))), (q_11, .inl (cR, 5, .inr (.inr (.inr (.inr (va_up (va_up (va_up (va_up (va_up (fun _ => none) 0 (some q_56)) 1 (some q_57)) 2 (some q_58)) 3 (some q_59)) 4 (some q_60))))))), (q_12, .inr (5, [.ref q_4, .int 0, .int 0, .int 0, .ref q_61, .ref q_62])), (q_61, .inl (cI, 14, .inl (fun _ => 0))), (q_62, .inl (cI, 14, .inl (fun _ => 0))), (q_13, .inr (10, [.ref q_63, .ref q_64, .int 0, .ref q_65, .ref q_66, .ref q_67, .int 0])), (q_63, .inl (cI, 14, .inl (fun _ => 0))), (q_64, .inl (cI, 14, .inl (fun _ => 0))), (q_65, .inl (cJ, 14, .inr (.inl (fun _ => 0)))), (q_66, .inl (cI, 14, .inl (fun _ => 0))), (q_67, .inl (cI, 14, .inl (fun _ => 0))), (q_14, .inr (1, [.ref q_68, .ref q_69, .int 0, .ref q_70, .int 0, .int 0, .ref q_71])), (q_68, .inl (cI, 14, .inl (fun _ => 0))), (q_69, .inl (cI, 14, .inl (fun _ => 0))), (q_70, .inl (cI, 28, .inl (fun _ => 0))), (q_71, .inl (cI, 28, .inl (fun _ => 0))), (q_15, .inr (0, [.ref q_72, .int 0, .ref q_73, .ref q_74])), (q_72, .inl (cI, 1, .inl (fun _ => 0))), (q_73, .inl (cI, 14, .inl (fun _ => 0))), (q_74, .inl (cI, 14, .inl (fun _ => 0))), (q_16, .inl (cI, 5, .inl (fun _ => 0))), (q_17, .inl (cI, 5, .inl (fun _ => 0))), (q_40, .inr (6, [.int 0, .int 0, .int 0, .int 0, .ref q_75, .ref q_76])), (q_75, .inl (cI, 14, .inl (fun _ => 0))), (q_76, .inl (cI, 14, .inl (fun _ => 0))), (q_41, .inr (6, [.int 0, .int 0, .int 0, .int 0, .ref q_77, .ref q_78])), (q_77, .inl (cI, 14, .inl (fun _ => 0))), (q_78, .inl (cI, 14, .inl (fun _ => 0))), (q_42, .inr (6, [.int 0, .int 0, .int 0, .int 0, .ref q_79, .ref q_80])), (q_79, .inl (cI, 14, .inl (fun _ => 0))), (q_80, .inl (cI, 14, .inl (fun _ => 0))), (q_43, .inr (6, [.int 0, .int 0, .int 0, .int 0, .ref q_81, .ref q_82])), (q_81, .inl (cI, 14, .inl (fun _ => 0))), (q_82, .inl (cI, 14, .inl (fun _ => 0))), (q_44, .inr (6, [.int 0, .int 0, .int 0, .int 0, .ref q_83, .ref q_84])), (q_83, .inl (cI, 14, .inl (fun _ => 0))), (q_84, .inl (cI, 14, .inl (fun _ => 0))), (q_45, .inr (6, [.int 0, .int 0, .int 0, .int 0, .ref q_85, .ref q_86])), (q_85, .inl (cI, 14, .inl (fun _ => 0))), (q_86, .inl (cI, 14, .inl (fun _ => 0))), (q_46, .inr (6, [.int 0, .int 0, .int 0, .int 0, .ref q_87, .ref q_88])), (q_87, .inl (cI, 14, .inl (fun _ => 0))), (q_88, .inl (cI, 14, .inl (fun _ => 0))), (q_47, .inr (6, [.int 0, .int 0, .int 0, .int 0, .ref q_89, .ref q_90])), (q_89, .inl (cI, 14, .inl (fun _ => 0))), (q_90, .inl (cI, 14, .inl (fun _ => 0))), (q_48, .inr (6, [.int 0, .int 0, .int 0, .int 0, .ref q_91, .ref q_92])), (q_91, .inl (cI, 14, .inl (fun _ => 0))), (q_92, .inl (cI, 14, .inl (fun _ => 0))), (q_49, .inr (6, [.int 0, .int 0, .int 0, .int 0, .ref q_93, .ref q_94])), (q_93, .inl (cI, 14, .inl (fun _ => 0))), (q_94, .inl (cI, 14, .inl (fun _ => 0))), (q_50, .inr (6, [.int 0, .int 0, .int 0, .int 0, .ref q_95, .ref q_96])), (q_95, .inl (cI, 14, .inl (fun _ => 0))), (q_96, .inl (cI, 14, .inl (fun _ => 0))), (q_51, .inr (6, [.int 0, .int 0, .int 0, .int 0, .ref q_97, .ref q_98])), (q_97, .inl (cI, 14, .inl (fun _ => 0))), (q_98, .inl (cI, 14, .inl (fun _ => 0))), (q_52, .inr (8, [.ref q_99, .int 0, .int (-1)])), (q_99, .inl (cJ, 40, .inr (.inl (fun _ => 0)))), (q_53, .inr (8, [.ref q_100, .int 0, .int (-1)])), (q_100, .inl (cJ, 40, .inr (.inl (fun _ => 0)))), (q_54, .inr (8, [.ref q_101, .int 0, .int (-1)])), (q_101, .inl (cJ, 40, .inr (.inl (fun _ => 0)))), (q_55, .inr (8, [.ref q_102, .int 0, .int (-1)])), (q_102, .inl (cJ, 40, .inr (.inl (fun _ => 0)))), (q_56, .inr (5, [.ref q_4, .int 0, .int 0, .int 0, .ref q_103, .ref q_104])), (q_103, .inl (cI, 14, .inl (fun _ => 0))), (q_104, .inl (cI, 14, .inl (fun _ => 0))), (q_57, .inr (5, [.ref q_4, .int 0, .int 0, .int 0, .ref q_105, .ref q_106])), (q_105, .inl (cI, 14, .inl (fun _ => 0))), (q_106, .inl (cI, 14, .inl (fun _ => 0))), (q_58, .inr (5, [.ref q_4, .int 0, .int 0, .int 0, .ref q_107, .ref q_108])), (q_107, .inl (cI, 14, .inl (fun _ => 0))), (q_108, .inl (cI, 14, .inl (fun _ => 0))), (q_59, .inr (5, [.ref q_4, .int 0, .int 0, .int 0, .ref q_109, .ref q_110])), (q_109, .inl (cI, 14, .inl (fun _ => 0))), (q_110, .inl (cI, 14, .inl (fun _ => 0))), (q_60, .inr (5, [.ref q_4, .int 0, .int 0, .int 0, .ref q_111, .ref q_112])), (q_111, .inl (cI, 14, .inl (fun _ => 0))), (q_112, .inl (cI, 14, .inl (fun _ => 0))), (q_114, .inr (12, [.int 0, .ref q_115, .ref q_116, .ref q_117, .ref q_118, .int 0, .int 0, .int 0, .int 0, .int 0, .int 0, .int 0, .int 0, .int 0, .int (-1), .ref q_119, .int 0, .ref q_120, .ref q_121, .ref q_122, .int 0, .ref q_123, .ref q_124, .int 0, .int 0, .int 0, .ref q_125, .ref q_126, .ref q_127, .ref q_128, .ref q_129, .ref q_130, .int 0, .ref q_131, .ref q_132, .ref q_133])), (q_116, .inl (cZ, 2, .inl (fun _ => 0))), (q_117, .inl (cI, 900, .inl (fun _ => 0))), (q_118, .inl (cI, 1302, .inl (fun _ => 0))), (q_119, .inl (cI, 900, .inl (fun _ => 0))), (q_120, .inl (cI, 14, .inl (fun _ => 0))), (q_121, .inl (cI, 14, .inl (fun _ => 0))), (q_122, .inl (cI, 14, .inl (fun _ => 0))), (q_123, .inl (cI, 31, .inl (fun _ => 0))), (q_124, .inl (cI, 31, .inl (fun _ => 0))), (q_125, .inl (cJ, 229376, .inr (.inl (fun _ => 0)))), (q_126, .inl (cZ, 16384, .inl (fun _ => 0))), (q_127, .inl (cB, 229376, .inl (fun _ => 0))), (q_128, .inl (cI, 5, .inl (fun _ => 0))), (q_129, .inl (cI, 5, .inl (fun _ => 0))), (q_130, .inl (cI, 186, .inl (fun _ => 0))), (q_131, .inl (cI, 4, .inl rs4)), (q_132, .inl (cI, 4, .inl (fun _ => 0))), (q_133, .inl (cJ, 160, .inr (.inl (fun _ => 0)))), (q_115, .inl (cI, 3906, .inl plc))] H := hP
  have hD : va_D A [(q_1, .inr (11, [.ref q_2, .int 0, .ref q_3, .ref q_4, .ref q_5, .ref q_6, .ref q_7, .int 0, .int 0, .ref q_8, .ref q_9, .ref q_10, .ref q_11, .ref q_12, .ref q_13, .ref q_14, .ref q_15, .ref q_16, .ref q_17, .int (-1)])), (q_2, .inl (cB, 900, .inl (fun _ => 0))), (q_3, .inr (4, [.ref q_18, .ref q_19, .ref q_20, .int 0, .ref q_21])), (q_18, .inr (7, [.ref q_22, .int 0, .int 0, .int 0, .int 0, .int 0, .int 0, .int (-1)])), (q_22, .inl (cB, 0, .inl (fun _ => 0))), (q_19, .inr (3, [.ref q_18, .ref q_23, .int 0])), (q_23, .inl (cI, 900, .inl (fun _ => 0))), (q_20, .inr (9, [.int 14, .int 5, .int 0, .int 0, .int 0, .int 0, .ref q_24, .ref q_25, .ref q_26, .ref q_27, .ref q_28, .null, .int 0, .int 1])), (q_24, .inl (cI, 14, .inl (fun _ => 0))), (q_25, .inl (cI, 14, .inl (fun _ => 0))), (q_26, .inl (cI, 14, .inl (fun _ => 0))), (q_27, .inl (cI, 5, .inl (fun _ => 0))), (q_28, .inl (cI, 5, .inl (fun _ => 0))), (q_21, .inr (6, [.int 0, .int 0, .int 0, .int 0, .ref q_29, .ref q_30])), (q_29, .inl (cI, 14, .inl (fun _ => 0))), (q_30, .inl (cI, 14, .inl (fun _ => 0))), (q_4, .inr (9, [.int 0, .int 0, .int 0, .int 0, .int 0, .int 0, .ref q_31, .ref q_32, .ref q_33, .ref q_34, .ref q_35, .null, .int 0, .int 1])), (q_31, .inl (cI, 0, .inl (fun _ => 0))), (q_32, .inl (cI, 0, .inl (fun _ => 0))), (q_33, .inl (cI, 0, .inl (fun _ => 0))), (q_34, .inl (cI, 0, .inl (fun _ => 0))), (q_35, .inl (cI, 0, .inl (fun _ => 0))), (q_5, .inr (6, [.int 0, .int 0, .int 0, .int 0, .ref q_36, .ref q_37])), (q_36, .inl (cI, 14, .inl (fun _ => 0))), (q_37, .inl (cI, 14, .inl (fun _ => 0))), (q_6, .inr (6, [.int 0, .int 0, .int 0, .int 0, .ref q_38, .ref q_39])), (q_38, .inl (cI, 14, .inl (fun _ => 0))), (q_39, .inl (cI, 14, .inl (fun _ => 0))), (q_7, .inl (cS, 10, .inr (.inr (.inr (.inr (va_up (va_up (va_up (va_up (va_up (va_up (va_up (va_up (va_up (va_up (fun _ => none) 0 (some q_40)) 1 (some q_41)) 2 (some q_42)) 3 (some q_43)) 4 (some q_44)) 5 (some q_45)) 6 (some q_46)) 7 (some q_47)) 8 (some q_48)) 9 (some q_49))))))), (q_8, .inl (cW, 2, .inr (.inr (.inr (.inr (fun _ => none)))))), (q_9, .inl (cS, 2, .inr (.inr (.inr (.inr (va_up (va_up (fun _ => none) 0 (some q_50)) 1 (some q_51))))))), (q_10, .inl (cT, 4, .inr (.inr (.inr (.inr (va_up (va_up (va_up (va_up (fun _ => none) 0 (some q_52)) 1 (some q_53)) 2 (some q_54)) 3 (some q_55))))))), (q_11, .inl (cR, 5, .inr (.inr (.inr (.inr (va_up (va_up (va_up (va_up (va_up (fun _ => none) 0 (some q_56)) 1 (some q_57)) 2 (some q_58)) 3 (some q_59)) 4 (some q_60))))))), (q_12, .inr (5, [.ref q_4, .int 0, .int 0, .int 0, .ref q_61, .ref q_62])), (q_61, .inl (cI, 14, .inl (fun _ => 0))), (q_62, .inl (cI, 14, .inl (fun _ => 0))), (q_13, .inr (10, [.ref q_63, .ref q_64, .int 0, .ref q_65, .ref q_66, .ref q_67, .int 0])), (q_63, .inl (cI, 14, .inl (fun _ => 0))), (q_64, .inl (cI, 14, .inl (fun _ => 0))), (q_65, .inl (cJ, 14, .inr (.inl (fun _ => 0)))), (q_66, .inl (cI, 14, .inl (fun _ => 0))), (q_67, .inl (cI, 14, .inl (fun _ => 0))), (q_14, .inr (1, [.ref q_68, .ref q_69, .int 0, .ref q_70, .int 0, .int 0, .ref q_71])), (q_68, .inl (cI, 14, .inl (fun _ => 0))), (q_69, .inl (cI, 14, .inl (fun _ => 0))), (q_70, .inl (cI, 28, .inl (fun _ => 0))), (q_71, .inl (cI, 28, .inl (fun _ => 0))), (q_15, .inr (0, [.ref q_72, .int 0, .ref q_73, .ref q_74])), (q_72, .inl (cI, 1, .inl (fun _ => 0))), (q_73, .inl (cI, 14, .inl (fun _ => 0))), (q_74, .inl (cI, 14, .inl (fun _ => 0))), (q_16, .inl (cI, 5, .inl (fun _ => 0))), (q_17, .inl (cI, 5, .inl (fun _ => 0))), (q_40, .inr (6, [.int 0, .int 0, .int 0, .int 0, .ref q_75, .ref q_76])), (q_75, .inl (cI, 14, .inl (fun _ => 0))), (q_76, .inl (cI, 14, .inl (fun _ => 0))), (q_41, .inr (6, [.int 0, .int 0, .int 0, .int 0, .ref q_77, .ref q_78])), (q_77, .inl (cI, 14, .inl (fun _ => 0))), (q_78, .inl (cI, 14, .inl (fun _ => 0))), (q_42, .inr (6, [.int 0, .int 0, .int 0, .int 0, .ref q_79, .ref q_80])), (q_79, .inl (cI, 14, .inl (fun _ => 0))), (q_80, .inl (cI, 14, .inl (fun _ => 0))), (q_43, .inr (6, [.int 0, .int 0, .int 0, .int 0, .ref q_81, .ref q_82])), (q_81, .inl (cI, 14, .inl (fun _ => 0))), (q_82, .inl (cI, 14, .inl (fun _ => 0))), (q_44, .inr (6, [.int 0, .int 0, .int 0, .int 0, .ref q_83, .ref q_84])), (q_83, .inl (cI, 14, .inl (fun _ => 0))), (q_84, .inl (cI, 14, .inl (fun _ => 0))), (q_45, .inr (6, [.int 0, .int 0, .int 0, .int 0, .ref q_85, .ref q_86])), (q_85, .inl (cI, 14, .inl (fun _ => 0))), (q_86, .inl (cI, 14, .inl (fun _ => 0))), (q_46, .inr (6, [.int 0, .int 0, .int 0, .int 0, .ref q_87, .ref q_88])), (q_87, .inl (cI, 14, .inl (fun _ => 0))), (q_88, .inl (cI, 14, .inl (fun _ => 0))), (q_47, .inr (6, [.int 0, .int 0, .int 0, .int 0, .ref q_89, .ref q_90])), (q_89, .inl (cI, 14, .inl (fun _ => 0))), (q_90, .inl (cI, 14, .inl (fun _ => 0))), (q_48, .inr (6, [.int 0, .int 0, .int 0, .int 0, .ref q_91, .ref q_92])), (q_91, .inl (cI, 14, .inl (fun _ => 0))), (q_92, .inl (cI, 14, .inl (fun _ => 0))), (q_49, .inr (6, [.int 0, .int 0, .int 0, .int 0, .ref q_93, .ref q_94])), (q_93, .inl (cI, 14, .inl (fun _ => 0))), (q_94, .inl (cI, 14, .inl (fun _ => 0))), (q_50, .inr (6, [.int 0, .int 0, .int 0, .int 0, .ref q_95, .ref q_96])), (q_95, .inl (cI, 14, .inl (fun _ => 0))), (q_96, .inl (cI, 14, .inl (fun _ => 0))), (q_51, .inr (6, [.int 0, .int 0, .int 0, .int 0, .ref q_97, .ref q_98])), (q_97, .inl (cI, 14, .inl (fun _ => 0))), (q_98, .inl (cI, 14, .inl (fun _ => 0))), (q_52, .inr (8, [.ref q_99, .int 0, .int (-1)])), (q_99, .inl (cJ, 40, .inr (.inl (fun _ => 0)))), (q_53, .inr (8, [.ref q_100, .int 0, .int (-1)])), (q_100, .inl (cJ, 40, .inr (.inl (fun _ => 0)))), (q_54, .inr (8, [.ref q_101, .int 0, .int (-1)])), (q_101, .inl (cJ, 40, .inr (.inl (fun _ => 0)))), (q_55, .inr (8, [.ref q_102, .int 0, .int (-1)])), (q_102, .inl (cJ, 40, .inr (.inl (fun _ => 0)))), (q_56, .inr (5, [.ref q_4, .int 0, .int 0, .int 0, .ref q_103, .ref q_104])), (q_103, .inl (cI, 14, .inl (fun _ => 0))), (q_104, .inl (cI, 14, .inl (fun _ => 0))), (q_57, .inr (5, [.ref q_4, .int 0, .int 0, .int 0, .ref q_105, .ref q_106])), (q_105, .inl (cI, 14, .inl (fun _ => 0))), (q_106, .inl (cI, 14, .inl (fun _ => 0))), (q_58, .inr (5, [.ref q_4, .int 0, .int 0, .int 0, .ref q_107, .ref q_108])), (q_107, .inl (cI, 14, .inl (fun _ => 0))), (q_108, .inl (cI, 14, .inl (fun _ => 0))), (q_59, .inr (5, [.ref q_4, .int 0, .int 0, .int 0, .ref q_109, .ref q_110])), (q_109, .inl (cI, 14, .inl (fun _ => 0))), (q_110, .inl (cI, 14, .inl (fun _ => 0))), (q_60, .inr (5, [.ref q_4, .int 0, .int 0, .int 0, .ref q_111, .ref q_112])), (q_111, .inl (cI, 14, .inl (fun _ => 0))), (q_112, .inl (cI, 14, .inl (fun _ => 0))), (q_114, .inr (12, [.int 0, .ref q_115, .ref q_116, .ref q_117, .ref q_118, .int 0, .int 0, .int 0, .int 0, .int 0, .int 0, .int 0, .int 0, .int 0, .int (-1), .ref q_119, .int 0, .ref q_120, .ref q_121, .ref q_122, .int 0, .ref q_123, .ref q_124, .int 0, .int 0, .int 0, .ref q_125, .ref q_126, .ref q_127, .ref q_128, .ref q_129, .ref q_130, .int 0, .ref q_131, .ref q_132, .ref q_133])), (q_116, .inl (cZ, 2, .inl (fun _ => 0))), (q_117, .inl (cI, 900, .inl (fun _ => 0))), (q_118, .inl (cI, 1302, .inl (fun _ => 0))), (q_119, .inl (cI, 900, .inl (fun _ => 0))), (q_120, .inl (cI, 14, .inl (fun _ => 0))), (q_121, .inl (cI, 14, .inl (fun _ => 0))), (q_122, .inl (cI, 14, .inl (fun _ => 0))), (q_123, .inl (cI, 31, .inl (fun _ => 0))), (q_124, .inl (cI, 31, .inl (fun _ => 0))), (q_125, .inl (cJ, 229376, .inr (.inl (fun _ => 0)))), (q_126, .inl (cZ, 16384, .inl (fun _ => 0))), (q_127, .inl (cB, 229376, .inl (fun _ => 0))), (q_128, .inl (cI, 5, .inl (fun _ => 0))), (q_129, .inl (cI, 5, .inl (fun _ => 0))), (q_130, .inl (cI, 186, .inl (fun _ => 0))), (q_131, .inl (cI, 4, .inl rs4)), (q_132, .inl (cI, 4, .inl (fun _ => 0))), (q_133, .inl (cJ, 160, .inr (.inl (fun _ => 0)))), (q_115, .inl (cI, 3906, .inl plc))] := hD
  refine W.widen (k := 132) (n := 485686) (Nat.le_of_ble_eq_true rfl) (Nat.le_of_ble_eq_true rfl) ?_
  refine lv_astore_n (lv' := [(2, .ref q_114), (1, .ref q_1), (0, .ref b)]) hx hb dL_law_15 rfl hl (by decide) rfl (fun ls hl => ?_)
  refine lv_iconst (v := 0) hx hb dL_law_16 (by decide) ?_
  refine lv_istore_n (lv' := [(3, .int 0), (2, .ref q_114), (1, .ref q_1), (0, .ref b)]) hx hb dL_law_17 rfl hl (by decide) rfl (fun ls hl => ?_)
  obtain ⟨T, hv, hlx, hH⟩ := lw_lay hP hD
  obtain ⟨kf, hks, hE⟩ := str_start (A := A) hgv hts0 hts (fun a ha hq => absurd (hA2 _ hq) (Nat.not_le.mpr ha))
  exact lw_loop l D (cB, cI, cJ, cZ, cS, cW, cT, cR) kf hx hb hr hml hown hts hX hbl hkb hks hE hA hA2 hlocks hL [] [] (fun o ho => absurd ho List.not_mem_nil) rfl q_1 q_15 q_114 q_73 q_74 q_18 q_2 q_117 512 T q_4 0 0 0 0 0 q_72 1 0 0 (.ref q_22) 0 0 0 0 0 0 (-1) (fun _ => 0) (fun _ => 0) (fun _ => 0) 0 0 _ _ _ _ _ rfl (by decide) hv hlx ⟨TB_0, TM_0, by decide, by decide, by decide⟩ (by unfold LK; decide) ⟨by decide, by decide⟩ hH hS (lv_sub hl [3, 2, 1, 0] rfl)
set_option maxHeartbeats 4000000 in
theorem lw_walk (l : Launch) (b : Addr) (xs : List Int32) : MetFree l x (headSpec (Jvm.Cond.code x code maxLocals ret :: tables_1) room_1) (lw_P b xs) (fun _ _ _ _ _ => True) lw_Q := by
  refine MetFree.of_bodyS (code := code) (maxLocals := maxLocals) (ret := ret) (by decide) ?_ ?_
  · intro args s m h hn
    obtain ⟨meth, c, h1, h2, h3, h4, h5, h6, -, -⟩ := Cond.code_spec hn (atoms_spec (ws := Jvm.Cond.code x code maxLocals ret :: tables_1) h _ List.mem_cons_self)
    exact ⟨meth, c, h1, h2, h3, h4, h5, h6⟩
  · intro p e s m args below meth c s₁ B hml0 hP _
    obtain ⟨rfl, hx, hbd, hgv⟩ := hP
    obtain ⟨scr, harrAt, hlist, hof, hsmall⟩ := hx
    obtain ⟨hcb, hkn, -, -⟩ := State.arrayAt?_spec harrAt
    have hown : s.vm.findClass R_law = some m.cls := findClass_of_methodNamed B.named
    have hts0 : ∀ c ∈ (Jvm.Cond.code x code maxLocals ret :: tables_1), c.before #[Value.ref b] s = true := atoms_spec (ws := Jvm.Cond.code x code maxLocals ret :: tables_1) B.pre
    have hts : ∀ w ∈ lw_tbl, w.before #[Value.ref b] s = true := k2_hts_sels lw_privs (fun w hw => hts0 w (List.mem_cons_of_mem _ hw)) lw_privs_ok
    have hml : c.maxLocals = 4 := B.maxLocals_eq (hts0 _ List.mem_cons_self)
    have X₀ : Stand p l e room_1 s m #[Value.ref b] below meth c s₁ [] 0 0 := Stand.of_body B
    have hh0 : s₁.heap = s.heap := by rw [B.state]; rfl
    have hsz : scr.slots.size = xs.length := by rw [← Array.length_toList, hlist, List.length_map]
    have hval : ∀ j : Nat, j < xs.length → scr.slots[j]? = some (.int (xs.getD j 0)) := fun j hj => by
      rw [← Array.getElem?_toList, hlist]
      simp [hj]
    have hbl : b < s.heap.size := (Array.getElem?_eq_some_iff.mp hcb).1
    have hX : va_X b xs.length (fun j => xs.getD j 0) s s.heap := ⟨scr, hcb, hof, hkn, hsz, hval⟩
    have K : W p l e room_1 s m #[Value.ref b] below meth c s₁.heap [] 0 0 (lw_Z below #[Value.ref b] s) (entryFrame m ([Value.ref b] : List Value).toArray 4) := by
      rw [hh0]
      exact whole_start l hbd ⟨B.exec, B.bytes, B.returns, hml, hown, hts, hX, hbl, B.notSynchronized, hgv⟩
    obtain ⟨t, a1, o, b1, b2, b3⟩ := K s₁ rfl X₀
    exact ⟨t, o, a1, b1, b2, b3⟩
theorem lw_pre_spec {args : Array Value} {s : State} (h : (Jvm.Cond.and given_1 narrow_1).before args s = true) (hr : rest_1_c.before args s = true) : ∃ (b : Addr) (xs : List Int32), lw_P b xs args s := by
  have hs := flat_of_before _ h
  have hq := flat_of_before _ hr
  have hc : (Cond.count 1).before args s = true := hs _ (by decide +kernel)
  have harr : (Cond.arrayOf (.arg 0) .int).before args s = true := hs _ (by decide +kernel)
  have hle : (Cond.le (.length (.arg 0)) (.int 3072)).before args s = true := hs _ (by decide +kernel)
  have hlen : (Cond.isInt (.length (.arg 0))).before args s = true := hq _ (by decide +kernel)
  have hall : (Cond.all (.arg 0) (.isInt (.elem (.arg 0) (.index 0)))).before args s = true := hq _ (by decide +kernel)
  obtain ⟨b, xs, hb, hx⟩ := State.ints_of_pre rfl harr hlen hall
  have hsm : xs.length < 2 ^ 31 := hx.choose_spec.2.2.2
  have hev : (Term.length (.arg 0)).eval args s none [] s = some (.int xs.length.toInt32) := hx.length_eval hb
  have hv := Cond.le_ints hev (show (Term.int 3072).eval args s none [] s = some (.int 3072) from rfl)
  have hd : xs.length.toInt32 ≤ 3072 := by
    simpa [Cond.before, Cond.holds, hv] using hle
  have hN : xs.length ≤ 3072 := (Int32.ofNat_le_ofNat hsm (by decide)).mp (show Int32.ofNat xs.length ≤ Int32.ofNat 3072 from hd)
  exact ⟨b, xs, Cond.one_arg hc (show args[0]? = some (.ref b) from hb), hx, hN, h⟩
theorem lw_comes (l : Launch) : Comes l x (Jvm.Cond.code x code maxLocals ret :: tables_1) room_1 (fun tb e args s => Calls_1 tb e args s ∧ rest_1 tb e args s ∧ Pre_1 tb e args s)
    (fun _ _ args s o t => lw_Q args s o t) := by
  intro p e ha hc hk s m args below hf hfit hheap happ hpre
  obtain ⟨b, xs, hP⟩ := lw_pre_spec hpre.2.2 hpre.2.1
  obtain ⟨k, o, h1, h2, h3, hQ⟩ := lw_walk l b xs p e ha hc hk s m args below hf ((Spec.applies_iff_loose hf).mp happ).1 hP trivial
  exact ⟨k, o, h1, h2, h3, hQ⟩
theorem lw_frame {s t : State} {o : Outcome} {args : Array Value} (h : Framed s o t [] 600000 7302250) :
    Framed s o t (fieldLocs frame_1_writes args s ++ arrayLocs frame_1_arrays args s ++ staticLocs frame_1_statics s) 600000 7302250 := h
theorem lw_limb (L : Cond) (hL : ∀ (args : Array Value) (s t : State), L.after args s (.returned (some (.int 1))) t = true) :
    ArmFor flags0 classFile x code maxLocals ret World_1 tables_1 room_1 Calls_1 rest_1 Pre_1
      (fun tb e a s o t => postC L tb e a s o t ∧ Framed s o t (fieldLocs frame_1_writes a s ++ arrayLocs frame_1_arrays a s ++ staticLocs frame_1_statics s) 600000 7302250) := by
  intro l _ _ _ p e ha hc hk s m args below hf hfit hheap happ hpre
  obtain ⟨k, o, h1, h2, h3, rfl, hF⟩ := lw_comes l p e ha hc hk s m args below hf hfit hheap happ hpre
  exact ⟨k, _, h1, h2, h3, hL args s _, lw_frame hF⟩
theorem i_vc : Claimed_1_1 ∧ Claimed_1_2 := ⟨lw_limb limb_1_1 (fun args s t => by simp [limb_1_1, Cond.after, Cond.holds, Cond.value]), lw_limb limb_1_2 (fun args s t => Cond.after_iff.mpr (by
  first | (rw [show limb_1_2 = Cond.eq .result (.int 1) from rfl, Cond.eq_ints (x := 1) (y := 1) rfl rfl]; simp; done) | (simp [limb_1_2, Cond.value, Term.eval]; done)))⟩
