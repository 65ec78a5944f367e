set_option maxHeartbeats 4000000 in
set_option maxRecDepth 100000 in
/-- days -/
theorem lw_c10 {p : Program} {e : Env} {s : State} {m : MethodId} {below : List Frame} {meth : Method} {c : Code} {Q : State → Prop} (l : Launch) (D : va_G) (cs : CS) (kf : KF) {b L : Nat} {xs : Nat → Int32} (hx : p.tables.exec = Jvm.exec) (hb : c.code = code) (hml : c.maxLocals = 4) (hown : s.vm.findClass R_law = some m.cls) (hts : ∀ w ∈ gw, w.before #[Value.ref b] s = true) (hX : va_X b L xs s s.heap) (hbl : b < s.heap.size) (hkb : kb D (tyc cs) s) (hks : kS kf s) {A : Nat → Prop} (hE : kE kf A s s.heap) (hA : ∀ q, s.heap.size ≤ q → A q) (hbA : ¬ A b) (hL : L ≤ 3072) (O : List Nat) (X : va_W) (hOX0 : ∀ o ∈ O, ∃ (k : Nat) (e : va_E), X[k]? = some (o, e)) (hO9 : O = []) (a0 ch a1 y2 y3 : Nat) (T : TF) (w hw gw hg G y0 nn j : Nat) (y1 x3 : Int32) (n cells slots : Nat) (H : Heap) (locs : List Loc) (ls : Array Slot) (hv : LV T a0 a1 ch w hw gw hg G G y0 y2 y3 nn j y1) (hr : RM cells slots n j) (hn512 : n < 512) (l_x3 : 0 ≤ x3.toInt) (u_x3 : x3.toInt + 6 ≤ L) (hH : HT D cs A T (ch :: O) ((ch, .inr (0, [.ref y0, .int y1, .ref y2, .ref y3])) :: X) H) (hS : va_S A s.heap H locs) (hl : lv_has ls 4 [(0, .ref b), (1, .ref a0), (2, .ref a1), (3, .int x3)]) (kk : ∀ (T : TF) (w hw gw hg G y0 nn j : Nat) (y1 : Int32) (cells slots : Nat) (H : Heap) (locs : List Loc) (ls : Array Slot), LV T a0 a1 ch w hw gw hg G G y0 y2 y3 nn j y1 → RM cells slots (n + 1) j → HT D cs A T (ch :: O) ((ch, .inr (0, [.ref y0, .int y1, .ref y2, .ref y3])) :: X) H → va_S A s.heap H locs → lv_has ls 4 [(0, .ref b), (1, .ref a0), (2, .ref a1), (3, .int x3)] → W p l e room_1 s m #[Value.ref b] below meth c H locs cells slots Q (F0 m 1395 ls [])) : W p l e room_1 s m #[Value.ref b] below meth c H locs cells slots Q (F0 m 532 ls []) := by
  obtain ⟨t_a0, t_w, t_a1, b_hg, hU, hU1, t_ch, t_y0, l_y1, u_y1, t_y2, t_y3, hn, hj⟩ := id hv
  have hO := okc hO9 t_ch
  obtain ⟨hr1, hr2⟩ := id hr
  have hOX := ox_c (a := ch) (e0 := .inr (0, [.ref y0, .int y1, .ref y2, .ref y3])) hOX0
  have b1_w := t_w.2.1
  have b2_w := t_w.2.2
  refine lv_aload_n hx hb dL_law_532 rfl (lv_at hl 1 rfl) ?_
  refine lv_aload_n hx hb dL_law_533 rfl (lv_at hl 0 rfl) ?_
  refine lv_iload_n hx hb dL_law_534 rfl (lv_at hl 3 rfl) ?_
  refine lv_iconst (v := 1) hx hb dL_law_535 (by decide) ?_
  refine lv_iadd hx hb dL_law_536 ?_
  refine lv_topi (fun v536 ev536 => ?_)
  have tv536 : v536.toInt = x3.toInt + (1) := by rw [ev536]; exact add_i rfl (by decide : (1 : Int32).toInt = 1) (by omega) (by omega)
  refine va_sld hx hb hX hbl hbA hS (in_t (by omega) (by omega)) dL_law_537 ?_
  refine lv_topi (fun v537 ev537 => ?_)
  refine tk_i hH hS hA (tr_V (n := 1) (As := [.int v537]) hx hb hml hown hts hkb hH (ox_map hOX rfl) hks hE hS hA (s_FW_days l D cs kf T (ch :: O) ((ch, .inr (0, [.ref y0, .int y1, .ref y2, .ref y3])) :: X) a0 w hw gw ch G v537 t_a0 t_w t_ch (hO.sub (by decide))) kw_930 kw_931 kw_932 kw_1 kw_933 (by decide +kernel) ⟨Nat.le_of_ble_eq_true rfl, Nat.le_of_ble_eq_true rfl⟩ (HT.recv (ci := 11) hkb hH t_a0 (hO.no t_a0 (by decide)) rfl) rfl rfl hl.1 (Nat.le_of_ble_eq_true rfl) dL_law_538 ⟨by show cells + 0 ≤ 600000; omega, by show slots + 0 ≤ 7302250; omega⟩) (fun v538 u H locs hz9 hH hS => ?_)
  have hz9 : u = (T, ch :: O, (ch, .inr (0, [.ref y0, .int y1, .ref y2, .ref y3])) :: X) := hz9
  subst hz9
  have hH : HT D cs A T (ch :: O) ((ch, .inr (0, [.ref y0, .int y1, .ref y2, .ref y3])) :: X) H := hH
  refine W.widen (k := cells) (n := slots) (Nat.le_refl _) (Nat.le_refl _) ?_
  refine lv_pop hx hb dL_law_541 rfl ?_
  refine lv_aload_n hx hb dL_law_542 rfl (lv_at hl 2 rfl) ?_
  refine lv_aload_n hx hb dL_law_543 rfl (lv_at hl 0 rfl) ?_
  refine lv_iload_n hx hb dL_law_544 rfl (lv_at hl 3 rfl) ?_
  refine lv_iconst (v := 1) hx hb dL_law_545 (by decide) ?_
  refine lv_iadd hx hb dL_law_546 ?_
  refine lv_topi (fun v546 ev546 => ?_)
  have tv546 : v546.toInt = x3.toInt + (1) := by rw [ev546]; exact add_i rfl (by decide : (1 : Int32).toInt = 1) (by omega) (by omega)
  refine va_sld hx hb hX hbl hbA hS (in_t (by omega) (by omega)) dL_law_547 ?_
  refine lv_topi (fun v547 ev547 => ?_)
  refine tk_i hH hS hA (tr_V (n := 1) (As := [.int v547]) hx hb hml hown hts hkb hH (ox_map hOX rfl) hks hE hS hA (s_M_days l D cs kf T (ch :: O) ((ch, .inr (0, [.ref y0, .int y1, .ref y2, .ref y3])) :: X) a1 hg G v547 t_a1 b_hg (hO.sub (by decide))) kw_1572 kw_1573 kw_1574 kw_13 kw_1575 (by decide +kernel) ⟨Nat.le_of_ble_eq_true rfl, Nat.le_of_ble_eq_true rfl⟩ (HT.recv (ci := 12) hkb hH t_a1 (hO.no t_a1 (by decide)) rfl) rfl rfl hl.1 (Nat.le_of_ble_eq_true rfl) dL_law_548 ⟨by show cells + 0 ≤ 600000; omega, by show slots + 0 ≤ 7302250; omega⟩) (fun v548 u H locs hz9 hH hS => ?_)
  have hz9 : u = (T, ch :: O, (ch, .inr (0, [.ref y0, .int y1, .ref y2, .ref y3])) :: X) := hz9
  subst hz9
  have hH : HT D cs A T (ch :: O) ((ch, .inr (0, [.ref y0, .int y1, .ref y2, .ref y3])) :: X) H := hH
  refine W.widen (k := cells) (n := slots) (Nat.le_refl _) (Nat.le_refl _) ?_
  refine lv_pop hx hb dL_law_551 rfl ?_
  refine lv_goto (tgt := 1395) hx hb dL_law_552 (by decide) ?_
  exact kk T w hw gw hg G y0 nn j y1 _ _ _ _ _ hv hr.s hH hS (lv_sub hl [0, 1, 2, 3] rfl)
set_option maxHeartbeats 4000000 in
set_option maxRecDepth 100000 in
/-- rain -/
theorem lw_c11 {p : Program} {e : Env} {s : State} {m : MethodId} {below : List Frame} {meth : Method} {c : Code} {Q : State → Prop} (l : Launch) (D : va_G) (cs : CS) (kf : KF) {b L : Nat} {xs : Nat → Int32} (hx : p.tables.exec = Jvm.exec) (hb : c.code = code) (hml : c.maxLocals = 4) (hown : s.vm.findClass R_law = some m.cls) (hts : ∀ w ∈ gw, w.before #[Value.ref b] s = true) (hX : va_X b L xs s s.heap) (hbl : b < s.heap.size) (hkb : kb D (tyc cs) s) (hks : kS kf s) {A : Nat → Prop} (hE : kE kf A s s.heap) (hA : ∀ q, s.heap.size ≤ q → A q) (hbA : ¬ A b) (hL : L ≤ 3072) (O : List Nat) (X : va_W) (hOX0 : ∀ o ∈ O, ∃ (k : Nat) (e : va_E), X[k]? = some (o, e)) (hO9 : O = []) (a0 ch a1 y2 y3 : Nat) (T : TF) (w hw gw hg G y0 nn j : Nat) (y1 x3 : Int32) (n cells slots : Nat) (H : Heap) (locs : List Loc) (ls : Array Slot) (hv : LV T a0 a1 ch w hw gw hg G G y0 y2 y3 nn j y1) (hr : RM cells slots n j) (hn512 : n < 512) (l_x3 : 0 ≤ x3.toInt) (u_x3 : x3.toInt + 6 ≤ L) (hH : HT D cs A T (ch :: O) ((ch, .inr (0, [.ref y0, .int y1, .ref y2, .ref y3])) :: X) H) (hS : va_S A s.heap H locs) (hl : lv_has ls 4 [(0, .ref b), (1, .ref a0), (2, .ref a1), (3, .int x3)]) (kk : ∀ (T : TF) (w hw gw hg G y0 nn j : Nat) (y1 : Int32) (cells slots : Nat) (H : Heap) (locs : List Loc) (ls : Array Slot), LV T a0 a1 ch w hw gw hg G G y0 y2 y3 nn j y1 → RM cells slots (n + 1) j → HT D cs A T (ch :: O) ((ch, .inr (0, [.ref y0, .int y1, .ref y2, .ref y3])) :: X) H → va_S A s.heap H locs → lv_has ls 4 [(0, .ref b), (1, .ref a0), (2, .ref a1), (3, .int x3)] → W p l e room_1 s m #[Value.ref b] below meth c H locs cells slots Q (F0 m 1395 ls [])) : W p l e room_1 s m #[Value.ref b] below meth c H locs cells slots Q (F0 m 555 ls []) := by
  obtain ⟨t_a0, t_w, t_a1, b_hg, hU, hU1, t_ch, t_y0, l_y1, u_y1, t_y2, t_y3, hn, hj⟩ := id hv
  have hO := okc hO9 t_ch
  obtain ⟨hr1, hr2⟩ := id hr
  have hOX := ox_c (a := ch) (e0 := .inr (0, [.ref y0, .int y1, .ref y2, .ref y3])) hOX0
  have b1_w := t_w.2.1
  have b2_w := t_w.2.2
  refine lv_aload_n hx hb dL_law_555 rfl (lv_at hl 1 rfl) ?_
  refine lv_aload_n hx hb dL_law_556 rfl (lv_at hl 0 rfl) ?_
  refine lv_iload_n hx hb dL_law_557 rfl (lv_at hl 3 rfl) ?_
  refine lv_iconst (v := 1) hx hb dL_law_558 (by decide) ?_
  refine lv_iadd hx hb dL_law_559 ?_
  refine lv_topi (fun v559 ev559 => ?_)
  have tv559 : v559.toInt = x3.toInt + (1) := by rw [ev559]; exact add_i rfl (by decide : (1 : Int32).toInt = 1) (by omega) (by omega)
  refine va_sld hx hb hX hbl hbA hS (in_t (by omega) (by omega)) dL_law_560 ?_
  refine lv_topi (fun v560 ev560 => ?_)
  refine tk_i hH hS hA (tr_V (n := 1) (As := [.int v560]) hx hb hml hown hts hkb hH (ox_map hOX rfl) hks hE hS hA (s_FW_rain l D cs kf T (ch :: O) ((ch, .inr (0, [.ref y0, .int y1, .ref y2, .ref y3])) :: X) a0 w hw gw ch G v560 t_a0 t_w t_ch (hO.sub (by decide))) kw_934 kw_935 kw_936 kw_1 kw_937 (by decide +kernel) ⟨Nat.le_of_ble_eq_true rfl, Nat.le_of_ble_eq_true rfl⟩ (HT.recv (ci := 11) hkb hH t_a0 (hO.no t_a0 (by decide)) rfl) rfl rfl hl.1 (Nat.le_of_ble_eq_true rfl) dL_law_561 ⟨by show cells + 0 ≤ 600000; omega, by show slots + 0 ≤ 7302250; omega⟩) (fun v561 u H locs hz9 hH hS => ?_)
  have hz9 : u = (T, ch :: O, (ch, .inr (0, [.ref y0, .int y1, .ref y2, .ref y3])) :: X) := hz9
  subst hz9
  have hH : HT D cs A T (ch :: O) ((ch, .inr (0, [.ref y0, .int y1, .ref y2, .ref y3])) :: X) H := hH
  refine W.widen (k := cells) (n := slots) (Nat.le_refl _) (Nat.le_refl _) ?_
  refine lv_pop hx hb dL_law_564 rfl ?_
  refine lv_aload_n hx hb dL_law_565 rfl (lv_at hl 2 rfl) ?_
  refine lv_aload_n hx hb dL_law_566 rfl (lv_at hl 0 rfl) ?_
  refine lv_iload_n hx hb dL_law_567 rfl (lv_at hl 3 rfl) ?_
  refine lv_iconst (v := 1) hx hb dL_law_568 (by decide) ?_
  refine lv_iadd hx hb dL_law_569 ?_
  refine lv_topi (fun v569 ev569 => ?_)
  have tv569 : v569.toInt = x3.toInt + (1) := by rw [ev569]; exact add_i rfl (by decide : (1 : Int32).toInt = 1) (by omega) (by omega)
  refine va_sld hx hb hX hbl hbA hS (in_t (by omega) (by omega)) dL_law_570 ?_
  refine lv_topi (fun v570 ev570 => ?_)
  refine tk_i hH hS hA (tr_V (n := 1) (As := [.int v570]) hx hb hml hown hts hkb hH (ox_map hOX rfl) hks hE hS hA (s_M_rain l D cs kf T (ch :: O) ((ch, .inr (0, [.ref y0, .int y1, .ref y2, .ref y3])) :: X) a1 hg G v570 t_a1 b_hg (hO.sub (by decide))) kw_1577 kw_1578 kw_1579 kw_13 kw_1580 (by decide +kernel) ⟨Nat.le_of_ble_eq_true rfl, Nat.le_of_ble_eq_true rfl⟩ (HT.recv (ci := 12) hkb hH t_a1 (hO.no t_a1 (by decide)) rfl) rfl rfl hl.1 (Nat.le_of_ble_eq_true rfl) dL_law_571 ⟨by show cells + 0 ≤ 600000; omega, by show slots + 0 ≤ 7302250; omega⟩) (fun v571 u H locs hz9 hH hS => ?_)
  have hz9 : u = (T, ch :: O, (ch, .inr (0, [.ref y0, .int y1, .ref y2, .ref y3])) :: X) := hz9
  subst hz9
  have hH : HT D cs A T (ch :: O) ((ch, .inr (0, [.ref y0, .int y1, .ref y2, .ref y3])) :: X) H := hH
  refine W.widen (k := cells) (n := slots) (Nat.le_refl _) (Nat.le_refl _) ?_
  refine lv_pop hx hb dL_law_574 rfl ?_
  refine lv_goto (tgt := 1395) hx hb dL_law_575 (by decide) ?_
  exact kk T w hw gw hg G y0 nn j y1 _ _ _ _ _ hv hr.s hH hS (lv_sub hl [0, 1, 2, 3] rfl)
set_option maxHeartbeats 4000000 in
set_option maxRecDepth 100000 in
/-- breaks -/
theorem lw_c12 {p : Program} {e : Env} {s : State} {m : MethodId} {below : List Frame} {meth : Method} {c : Code} {Q : State → Prop} (l : Launch) (D : va_G) (cs : CS) (kf : KF) {b L : Nat} {xs : Nat → Int32} (hx : p.tables.exec = Jvm.exec) (hb : c.code = code) (hml : c.maxLocals = 4) (hown : s.vm.findClass R_law = some m.cls) (hts : ∀ w ∈ gw, w.before #[Value.ref b] s = true) (hX : va_X b L xs s s.heap) (hbl : b < s.heap.size) (hkb : kb D (tyc cs) s) (hks : kS kf s) {A : Nat → Prop} (hE : kE kf A s s.heap) (hA : ∀ q, s.heap.size ≤ q → A q) (hbA : ¬ A b) (hL : L ≤ 3072) (O : List Nat) (X : va_W) (hOX0 : ∀ o ∈ O, ∃ (k : Nat) (e : va_E), X[k]? = some (o, e)) (hO9 : O = []) (a0 ch a1 y2 y3 : Nat) (T : TF) (w hw gw hg G y0 nn j : Nat) (y1 x3 : Int32) (n cells slots : Nat) (H : Heap) (locs : List Loc) (ls : Array Slot) (hv : LV T a0 a1 ch w hw gw hg G G y0 y2 y3 nn j y1) (hr : RM cells slots n j) (hn512 : n < 512) (l_x3 : 0 ≤ x3.toInt) (u_x3 : x3.toInt + 6 ≤ L) (hH : HT D cs A T (ch :: O) ((ch, .inr (0, [.ref y0, .int y1, .ref y2, .ref y3])) :: X) H) (hS : va_S A s.heap H locs) (hl : lv_has ls 4 [(0, .ref b), (1, .ref a0), (2, .ref a1), (3, .int x3)]) (kk : ∀ (T : TF) (w hw gw hg G y0 nn j : Nat) (y1 : Int32) (cells slots : Nat) (H : Heap) (locs : List Loc) (ls : Array Slot), LV T a0 a1 ch w hw gw hg G G y0 y2 y3 nn j y1 → RM cells slots (n + 1) j → HT D cs A T (ch :: O) ((ch, .inr (0, [.ref y0, .int y1, .ref y2, .ref y3])) :: X) H → va_S A s.heap H locs → lv_has ls 4 [(0, .ref b), (1, .ref a0), (2, .ref a1), (3, .int x3)] → W p l e room_1 s m #[Value.ref b] below meth c H locs cells slots Q (F0 m 1395 ls [])) : W p l e room_1 s m #[Value.ref b] below meth c H locs cells slots Q (F0 m 578 ls []) := by
  obtain ⟨t_a0, t_w, t_a1, b_hg, hU, hU1, t_ch, t_y0, l_y1, u_y1, t_y2, t_y3, hn, hj⟩ := id hv
  have hO := okc hO9 t_ch
  obtain ⟨hr1, hr2⟩ := id hr
  have hOX := ox_c (a := ch) (e0 := .inr (0, [.ref y0, .int y1, .ref y2, .ref y3])) hOX0
  have b1_w := t_w.2.1
  have b2_w := t_w.2.2
  refine lv_aload_n hx hb dL_law_578 rfl (lv_at hl 1 rfl) ?_
  refine lv_aload_n hx hb dL_law_579 rfl (lv_at hl 0 rfl) ?_
  refine lv_iload_n hx hb dL_law_580 rfl (lv_at hl 3 rfl) ?_
  refine lv_iconst (v := 1) hx hb dL_law_581 (by decide) ?_
  refine lv_iadd hx hb dL_law_582 ?_
  refine lv_topi (fun v582 ev582 => ?_)
  have tv582 : v582.toInt = x3.toInt + (1) := by rw [ev582]; exact add_i rfl (by decide : (1 : Int32).toInt = 1) (by omega) (by omega)
  refine va_sld hx hb hX hbl hbA hS (in_t (by omega) (by omega)) dL_law_583 ?_
  refine lv_topi (fun v583 ev583 => ?_)
  refine tk_i hH hS hA (tr_V (n := 1) (As := [.int v583]) hx hb hml hown hts hkb hH (ox_map hOX rfl) hks hE hS hA (s_FW_breaks l D cs kf T (ch :: O) ((ch, .inr (0, [.ref y0, .int y1, .ref y2, .ref y3])) :: X) a0 w hw gw ch G v583 t_a0 t_w t_ch (hO.sub (by decide))) kw_942 kw_943 kw_944 kw_1 kw_945 (by decide +kernel) ⟨Nat.le_of_ble_eq_true rfl, Nat.le_of_ble_eq_true rfl⟩ (HT.recv (ci := 11) hkb hH t_a0 (hO.no t_a0 (by decide)) rfl) rfl rfl hl.1 (Nat.le_of_ble_eq_true rfl) dL_law_584 ⟨by show cells + 0 ≤ 600000; omega, by show slots + 0 ≤ 7302250; omega⟩) (fun v584 u H locs hz9 hH hS => ?_)
  obtain ⟨rfl, l_v584, u_v584⟩ := hz9
  have hH : HT D cs A T (ch :: O) ((ch, .inr (0, [.ref y0, .int y1, .ref y2, .ref y3])) :: X) H := hH
  refine W.widen (k := cells) (n := slots) (Nat.le_refl _) (Nat.le_refl _) ?_
  refine lv_pop hx hb dL_law_587 rfl ?_
  refine lv_aload_n hx hb dL_law_588 rfl (lv_at hl 2 rfl) ?_
  refine lv_aload_n hx hb dL_law_589 rfl (lv_at hl 0 rfl) ?_
  refine lv_iload_n hx hb dL_law_590 rfl (lv_at hl 3 rfl) ?_
  refine lv_iconst (v := 1) hx hb dL_law_591 (by decide) ?_
  refine lv_iadd hx hb dL_law_592 ?_
  refine lv_topi (fun v592 ev592 => ?_)
  have tv592 : v592.toInt = x3.toInt + (1) := by rw [ev592]; exact add_i rfl (by decide : (1 : Int32).toInt = 1) (by omega) (by omega)
  refine va_sld hx hb hX hbl hbA hS (in_t (by omega) (by omega)) dL_law_593 ?_
  refine lv_topi (fun v593 ev593 => ?_)
  refine tk_i hH hS hA (tr_V (n := 1) (As := [.int v593]) hx hb hml hown hts hkb hH (ox_map hOX rfl) hks hE hS hA (s_M_breaks l D cs kf T (ch :: O) ((ch, .inr (0, [.ref y0, .int y1, .ref y2, .ref y3])) :: X) a1 hg G v593 t_a1 b_hg (hO.sub (by decide))) kw_1586 kw_1587 kw_1588 kw_13 kw_1589 (by decide +kernel) ⟨Nat.le_of_ble_eq_true rfl, Nat.le_of_ble_eq_true rfl⟩ (HT.recv (ci := 12) hkb hH t_a1 (hO.no t_a1 (by decide)) rfl) rfl rfl hl.1 (Nat.le_of_ble_eq_true rfl) dL_law_594 ⟨by show cells + 0 ≤ 600000; omega, by show slots + 0 ≤ 7302250; omega⟩) (fun v594 u H locs hz9 hH hS => ?_)
  obtain ⟨rfl, l_v594, u_v594⟩ := hz9
  have hH : HT D cs A T (ch :: O) ((ch, .inr (0, [.ref y0, .int y1, .ref y2, .ref y3])) :: X) H := hH
  refine W.widen (k := cells) (n := slots) (Nat.le_refl _) (Nat.le_refl _) ?_
  refine lv_pop hx hb dL_law_597 rfl ?_
  refine lv_goto (tgt := 1395) hx hb dL_law_598 (by decide) ?_
  exact kk T w hw gw hg G y0 nn j y1 _ _ _ _ _ hv hr.s hH hS (lv_sub hl [0, 1, 2, 3] rfl)
set_option maxHeartbeats 4000000 in
set_option maxRecDepth 100000 in
/-- newYear -/
theorem lw_c13 {p : Program} {e : Env} {s : State} {m : MethodId} {below : List Frame} {meth : Method} {c : Code} {Q : State → Prop} (l : Launch) (D : va_G) (cs : CS) (kf : KF) {b L : Nat} {xs : Nat → Int32} (hx : p.tables.exec = Jvm.exec) (hb : c.code = code) (hml : c.maxLocals = 4) (hown : s.vm.findClass R_law = some m.cls) (hts : ∀ w ∈ gw, w.before #[Value.ref b] s = true) (hX : va_X b L xs s s.heap) (hbl : b < s.heap.size) (hkb : kb D (tyc cs) s) (hks : kS kf s) {A : Nat → Prop} (hE : kE kf A s s.heap) (hA : ∀ q, s.heap.size ≤ q → A q) (hbA : ¬ A b) (hL : L ≤ 3072) (O : List Nat) (X : va_W) (hOX0 : ∀ o ∈ O, ∃ (k : Nat) (e : va_E), X[k]? = some (o, e)) (hO9 : O = []) (a0 ch a1 y2 y3 : Nat) (T : TF) (w hw gw hg G y0 nn j : Nat) (y1 x3 : Int32) (n cells slots : Nat) (H : Heap) (locs : List Loc) (ls : Array Slot) (hv : LV T a0 a1 ch w hw gw hg G G y0 y2 y3 nn j y1) (hr : RM cells slots n j) (hn512 : n < 512) (l_x3 : 0 ≤ x3.toInt) (u_x3 : x3.toInt + 6 ≤ L) (hH : HT D cs A T (ch :: O) ((ch, .inr (0, [.ref y0, .int y1, .ref y2, .ref y3])) :: X) H) (hS : va_S A s.heap H locs) (hl : lv_has ls 4 [(0, .ref b), (1, .ref a0), (2, .ref a1), (3, .int x3)]) (kk : ∀ (T : TF) (w hw gw hg G y0 nn j : Nat) (y1 : Int32) (cells slots : Nat) (H : Heap) (locs : List Loc) (ls : Array Slot), LV T a0 a1 ch w hw gw hg G G y0 y2 y3 nn j y1 → RM cells slots (n + 1) j → HT D cs A T (ch :: O) ((ch, .inr (0, [.ref y0, .int y1, .ref y2, .ref y3])) :: X) H → va_S A s.heap H locs → lv_has ls 4 [(0, .ref b), (1, .ref a0), (2, .ref a1), (3, .int x3)] → W p l e room_1 s m #[Value.ref b] below meth c H locs cells slots Q (F0 m 1395 ls [])) : W p l e room_1 s m #[Value.ref b] below meth c H locs cells slots Q (F0 m 601 ls []) := by
  obtain ⟨t_a0, t_w, t_a1, b_hg, hU, hU1, t_ch, t_y0, l_y1, u_y1, t_y2, t_y3, hn, hj⟩ := id hv
  have hO := okc hO9 t_ch
  obtain ⟨hr1, hr2⟩ := id hr
  have hOX := ox_c (a := ch) (e0 := .inr (0, [.ref y0, .int y1, .ref y2, .ref y3])) hOX0
  have b1_w := t_w.2.1
  have b2_w := t_w.2.2
  refine lv_aload_n hx hb dL_law_601 rfl (lv_at hl 1 rfl) ?_
  refine tk_i hH hS hA (tr_V (n := 0) (As := []) hx hb hml hown hts hkb hH (ox_map hOX rfl) hks hE hS hA (s_FW_newYear l D cs kf T (ch :: O) ((ch, .inr (0, [.ref y0, .int y1, .ref y2, .ref y3])) :: X) a0 w hw gw ch G t_a0 t_w t_ch (hO.sub (by decide))) kw_947 kw_948 kw_949 kw_1 kw_950 (by decide +kernel) ⟨Nat.le_of_ble_eq_true rfl, Nat.le_of_ble_eq_true rfl⟩ (HT.recv (ci := 11) hkb hH t_a0 (hO.no t_a0 (by decide)) rfl) rfl rfl hl.1 (Nat.le_of_ble_eq_true rfl) dL_law_602 ⟨by show cells + 0 ≤ 600000; omega, by show slots + 0 ≤ 7302250; omega⟩) (fun v602 u H locs hz9 hH hS => ?_)
  obtain ⟨rfl, l_v602, u_v602⟩ := hz9
  have hH : HT D cs A T (ch :: O) ((ch, .inr (0, [.ref y0, .int y1, .ref y2, .ref y3])) :: X) H := hH
  refine W.widen (k := cells) (n := slots) (Nat.le_refl _) (Nat.le_refl _) ?_
  refine lv_pop hx hb dL_law_605 rfl ?_
  refine lv_aload_n hx hb dL_law_606 rfl (lv_at hl 2 rfl) ?_
  refine tk_i hH hS hA (tr_V (n := 0) (As := []) hx hb hml hown hts hkb hH (ox_map hOX rfl) hks hE hS hA (s_M_newYear l D cs kf T (ch :: O) ((ch, .inr (0, [.ref y0, .int y1, .ref y2, .ref y3])) :: X) a1 hg G t_a1 b_hg (hO.sub (by decide))) kw_1590 kw_1591 kw_1592 kw_13 kw_1593 (by decide +kernel) ⟨Nat.le_of_ble_eq_true rfl, Nat.le_of_ble_eq_true rfl⟩ (HT.recv (ci := 12) hkb hH t_a1 (hO.no t_a1 (by decide)) rfl) rfl rfl hl.1 (Nat.le_of_ble_eq_true rfl) dL_law_607 ⟨by show cells + 0 ≤ 600000; omega, by show slots + 0 ≤ 7302250; omega⟩) (fun v607 u H locs hz9 hH hS => ?_)
  have hz9 : u = (T, ch :: O, (ch, .inr (0, [.ref y0, .int y1, .ref y2, .ref y3])) :: X) := hz9
  subst hz9
  have hH : HT D cs A T (ch :: O) ((ch, .inr (0, [.ref y0, .int y1, .ref y2, .ref y3])) :: X) H := hH
  refine W.widen (k := cells) (n := slots) (Nat.le_refl _) (Nat.le_refl _) ?_
  refine lv_pop hx hb dL_law_610 rfl ?_
  refine lv_goto (tgt := 1395) hx hb dL_law_611 (by decide) ?_
  exact kk T w hw gw hg G y0 nn j y1 _ _ _ _ _ hv hr.s hH hS (lv_sub hl [0, 1, 2, 3] rfl)
set_option maxHeartbeats 4000000 in
set_option maxRecDepth 100000 in
/-- undo -/
theorem lw_c14 {p : Program} {e : Env} {s : State} {m : MethodId} {below : List Frame} {meth : Method} {c : Code} {Q : State → Prop} (l : Launch) (D : va_G) (cs : CS) (kf : KF) {b L : Nat} {xs : Nat → Int32} (hx : p.tables.exec = Jvm.exec) (hb : c.code = code) (hml : c.maxLocals = 4) (hown : s.vm.findClass R_law = some m.cls) (hts : ∀ w ∈ gw, w.before #[Value.ref b] s = true) (hX : va_X b L xs s s.heap) (hbl : b < s.heap.size) (hkb : kb D (tyc cs) s) (hks : kS kf s) {A : Nat → Prop} (hE : kE kf A s s.heap) (hA : ∀ q, s.heap.size ≤ q → A q) (hbA : ¬ A b) (hL : L ≤ 3072) (O : List Nat) (X : va_W) (hOX0 : ∀ o ∈ O, ∃ (k : Nat) (e : va_E), X[k]? = some (o, e)) (hO9 : O = []) (a0 ch a1 y2 y3 : Nat) (T : TF) (w hw gw hg G y0 nn j : Nat) (y1 x3 : Int32) (n cells slots : Nat) (H : Heap) (locs : List Loc) (ls : Array Slot) (hv : LV T a0 a1 ch w hw gw hg G G y0 y2 y3 nn j y1) (hr : RM cells slots n j) (hn512 : n < 512) (l_x3 : 0 ≤ x3.toInt) (u_x3 : x3.toInt + 6 ≤ L) (hH : HT D cs A T (ch :: O) ((ch, .inr (0, [.ref y0, .int y1, .ref y2, .ref y3])) :: X) H) (hS : va_S A s.heap H locs) (hl : lv_has ls 4 [(0, .ref b), (1, .ref a0), (2, .ref a1), (3, .int x3)]) (kk : ∀ (T : TF) (w hw gw hg G y0 nn j : Nat) (y1 : Int32) (cells slots : Nat) (H : Heap) (locs : List Loc) (ls : Array Slot), LV T a0 a1 ch w hw gw hg G G y0 y2 y3 nn j y1 → RM cells slots (n + 1) j → HT D cs A T (ch :: O) ((ch, .inr (0, [.ref y0, .int y1, .ref y2, .ref y3])) :: X) H → va_S A s.heap H locs → lv_has ls 4 [(0, .ref b), (1, .ref a0), (2, .ref a1), (3, .int x3)] → W p l e room_1 s m #[Value.ref b] below meth c H locs cells slots Q (F0 m 1395 ls [])) : W p l e room_1 s m #[Value.ref b] below meth c H locs cells slots Q (F0 m 614 ls []) := by
  obtain ⟨t_a0, t_w, t_a1, b_hg, hU, hU1, t_ch, t_y0, l_y1, u_y1, t_y2, t_y3, hn, hj⟩ := id hv
  have hO := okc hO9 t_ch
  obtain ⟨hr1, hr2⟩ := id hr
  have hOX := ox_c (a := ch) (e0 := .inr (0, [.ref y0, .int y1, .ref y2, .ref y3])) hOX0
  have b1_w := t_w.2.1
  have b2_w := t_w.2.2
  refine lv_aload_n hx hb dL_law_614 rfl (lv_at hl 1 rfl) ?_
  refine lv_aload_n hx hb dL_law_615 rfl (lv_at hl 0 rfl) ?_
  refine lv_iload_n hx hb dL_law_616 rfl (lv_at hl 3 rfl) ?_
  refine lv_iconst (v := 1) hx hb dL_law_617 (by decide) ?_
  refine lv_iadd hx hb dL_law_618 ?_
  refine lv_topi (fun v618 ev618 => ?_)
  have tv618 : v618.toInt = x3.toInt + (1) := by rw [ev618]; exact add_i rfl (by decide : (1 : Int32).toInt = 1) (by omega) (by omega)
  refine va_sld hx hb hX hbl hbA hS (in_t (by omega) (by omega)) dL_law_619 ?_
  refine lv_topi (fun v619 ev619 => ?_)
  refine tk_i hH hS hA (tr_V (n := 1) (As := [.int v619]) hx hb hml hown hts hkb hH (ox_map hOX rfl) hks hE hS hA (s_FW_undo l D cs kf T (ch :: O) ((ch, .inr (0, [.ref y0, .int y1, .ref y2, .ref y3])) :: X) a0 w hw gw ch G v619 t_a0 t_w t_ch (hO.sub (by decide))) kw_951 kw_952 kw_953 kw_1 kw_954 (by decide +kernel) ⟨Nat.le_of_ble_eq_true rfl, Nat.le_of_ble_eq_true rfl⟩ (HT.recv (ci := 11) hkb hH t_a0 (hO.no t_a0 (by decide)) rfl) rfl rfl hl.1 (Nat.le_of_ble_eq_true rfl) dL_law_620 ⟨by show cells + 0 ≤ 600000; omega, by show slots + 0 ≤ 7302250; omega⟩) (fun v620 u H locs hz9 hH hS => ?_)
  obtain ⟨rfl, l_v620, u_v620⟩ := hz9
  have hH : HT D cs A T (ch :: O) ((ch, .inr (0, [.ref y0, .int y1, .ref y2, .ref y3])) :: X) H := hH
  refine W.widen (k := cells) (n := slots) (Nat.le_refl _) (Nat.le_refl _) ?_
  refine lv_pop hx hb dL_law_623 rfl ?_
  refine lv_aload_n hx hb dL_law_624 rfl (lv_at hl 2 rfl) ?_
  refine lv_aload_n hx hb dL_law_625 rfl (lv_at hl 0 rfl) ?_
  refine lv_iload_n hx hb dL_law_626 rfl (lv_at hl 3 rfl) ?_
  refine lv_iconst (v := 1) hx hb dL_law_627 (by decide) ?_
  refine lv_iadd hx hb dL_law_628 ?_
  refine lv_topi (fun v628 ev628 => ?_)
  have tv628 : v628.toInt = x3.toInt + (1) := by rw [ev628]; exact add_i rfl (by decide : (1 : Int32).toInt = 1) (by omega) (by omega)
  refine va_sld hx hb hX hbl hbA hS (in_t (by omega) (by omega)) dL_law_629 ?_
  refine lv_topi (fun v629 ev629 => ?_)
  refine tk_i hH hS hA (tr_V (n := 1) (As := [.int v629]) hx hb hml hown hts hkb hH (ox_map hOX rfl) hks hE hS hA (s_M_undo l D cs kf T (ch :: O) ((ch, .inr (0, [.ref y0, .int y1, .ref y2, .ref y3])) :: X) a1 hg G v629 t_a1 b_hg (hO.sub (by decide))) kw_1598 kw_1599 kw_1600 kw_13 kw_1601 (by decide +kernel) ⟨Nat.le_of_ble_eq_true rfl, Nat.le_of_ble_eq_true rfl⟩ (HT.recv (ci := 12) hkb hH t_a1 (hO.no t_a1 (by decide)) rfl) rfl rfl hl.1 (Nat.le_of_ble_eq_true rfl) dL_law_630 ⟨by show cells + 0 ≤ 600000; omega, by show slots + 0 ≤ 7302250; omega⟩) (fun v630 u H locs hz9 hH hS => ?_)
  obtain ⟨rfl, l_v630, u_v630⟩ := hz9
  have hH : HT D cs A T (ch :: O) ((ch, .inr (0, [.ref y0, .int y1, .ref y2, .ref y3])) :: X) H := hH
  refine W.widen (k := cells) (n := slots) (Nat.le_refl _) (Nat.le_refl _) ?_
  refine lv_pop hx hb dL_law_633 rfl ?_
  refine lv_goto (tgt := 1395) hx hb dL_law_634 (by decide) ?_
  exact kk T w hw gw hg G y0 nn j y1 _ _ _ _ _ hv hr.s hH hS (lv_sub hl [0, 1, 2, 3] rfl)
set_option maxHeartbeats 4000000 in
set_option maxRecDepth 100000 in
/-- season -/
theorem lw_c15 {p : Program} {e : Env} {s : State} {m : MethodId} {below : List Frame} {meth : Method} {c : Code} {Q : State → Prop} (l : Launch) (D : va_G) (cs : CS) (kf : KF) {b L : Nat} {xs : Nat → Int32} (hx : p.tables.exec = Jvm.exec) (hb : c.code = code) (hml : c.maxLocals = 4) (hown : s.vm.findClass R_law = some m.cls) (hts : ∀ w ∈ gw, w.before #[Value.ref b] s = true) (hX : va_X b L xs s s.heap) (hbl : b < s.heap.size) (hkb : kb D (tyc cs) s) (hks : kS kf s) {A : Nat → Prop} (hE : kE kf A s s.heap) (hA : ∀ q, s.heap.size ≤ q → A q) (hbA : ¬ A b) (hL : L ≤ 3072) (O : List Nat) (X : va_W) (hOX0 : ∀ o ∈ O, ∃ (k : Nat) (e : va_E), X[k]? = some (o, e)) (hO9 : O = []) (a0 ch a1 y2 y3 : Nat) (T : TF) (w hw gw hg G y0 nn j : Nat) (y1 x3 : Int32) (n cells slots : Nat) (H : Heap) (locs : List Loc) (ls : Array Slot) (hv : LV T a0 a1 ch w hw gw hg G G y0 y2 y3 nn j y1) (hr : RM cells slots n j) (hn512 : n < 512) (l_x3 : 0 ≤ x3.toInt) (u_x3 : x3.toInt + 6 ≤ L) (hH : HT D cs A T (ch :: O) ((ch, .inr (0, [.ref y0, .int y1, .ref y2, .ref y3])) :: X) H) (hS : va_S A s.heap H locs) (hl : lv_has ls 4 [(0, .ref b), (1, .ref a0), (2, .ref a1), (3, .int x3)]) (kk : ∀ (T : TF) (w hw gw hg G y0 nn j : Nat) (y1 : Int32) (cells slots : Nat) (H : Heap) (locs : List Loc) (ls : Array Slot), LV T a0 a1 ch w hw gw hg G G y0 y2 y3 nn j y1 → RM cells slots (n + 1) j → HT D cs A T (ch :: O) ((ch, .inr (0, [.ref y0, .int y1, .ref y2, .ref y3])) :: X) H → va_S A s.heap H locs → lv_has ls 4 [(0, .ref b), (1, .ref a0), (2, .ref a1), (3, .int x3)] → W p l e room_1 s m #[Value.ref b] below meth c H locs cells slots Q (F0 m 1395 ls [])) : W p l e room_1 s m #[Value.ref b] below meth c H locs cells slots Q (F0 m 637 ls []) := by
  obtain ⟨t_a0, t_w, t_a1, b_hg, hU, hU1, t_ch, t_y0, l_y1, u_y1, t_y2, t_y3, hn, hj⟩ := id hv
  have hO := okc hO9 t_ch
  obtain ⟨hr1, hr2⟩ := id hr
  have hOX := ox_c (a := ch) (e0 := .inr (0, [.ref y0, .int y1, .ref y2, .ref y3])) hOX0
  have b1_w := t_w.2.1
  have b2_w := t_w.2.2
  refine lv_aload_n hx hb dL_law_637 rfl (lv_at hl 1 rfl) ?_
  refine lv_aload_n hx hb dL_law_638 rfl (lv_at hl 0 rfl) ?_
  refine lv_iload_n hx hb dL_law_639 rfl (lv_at hl 3 rfl) ?_
  refine lv_iconst (v := 1) hx hb dL_law_640 (by decide) ?_
  refine lv_iadd hx hb dL_law_641 ?_
  refine lv_topi (fun v641 ev641 => ?_)
  have tv641 : v641.toInt = x3.toInt + (1) := by rw [ev641]; exact add_i rfl (by decide : (1 : Int32).toInt = 1) (by omega) (by omega)
  refine va_sld hx hb hX hbl hbA hS (in_t (by omega) (by omega)) dL_law_642 ?_
  refine lv_topi (fun v642 ev642 => ?_)
  refine lv_aload_n hx hb dL_law_643 rfl (lv_at hl 0 rfl) ?_
  refine lv_iload_n hx hb dL_law_644 rfl (lv_at hl 3 rfl) ?_
  refine lv_iconst (v := 2) hx hb dL_law_645 (by decide) ?_
  refine lv_iadd hx hb dL_law_646 ?_
  refine lv_topi (fun v646 ev646 => ?_)
  have tv646 : v646.toInt = x3.toInt + (2) := by rw [ev646]; exact add_i rfl (by decide : (2 : Int32).toInt = 2) (by omega) (by omega)
  refine va_sld hx hb hX hbl hbA hS (in_t (by omega) (by omega)) dL_law_647 ?_
  refine lv_topi (fun v647 ev647 => ?_)
  refine tk_i hH hS hA (tr_V (n := 2) (As := [.int v642, .int v647]) hx hb hml hown hts hkb hH (ox_map hOX rfl) hks hE hS hA (s_FW_season l D cs kf T (ch :: O) ((ch, .inr (0, [.ref y0, .int y1, .ref y2, .ref y3])) :: X) a0 w hw gw ch G v642 v647 t_a0 t_w t_ch (hO.sub (by decide))) kw_958 kw_959 kw_960 kw_1 kw_961 (by decide +kernel) ⟨Nat.le_of_ble_eq_true rfl, Nat.le_of_ble_eq_true rfl⟩ (HT.recv (ci := 11) hkb hH t_a0 (hO.no t_a0 (by decide)) rfl) rfl rfl hl.1 (Nat.le_of_ble_eq_true rfl) dL_law_648 ⟨by show cells + 0 ≤ 600000; omega, by show slots + 0 ≤ 7302250; omega⟩) (fun v648 u H locs hz9 hH hS => ?_)
  have hz9 : u = (T, ch :: O, (ch, .inr (0, [.ref y0, .int y1, .ref y2, .ref y3])) :: X) := hz9
  subst hz9
  have hH : HT D cs A T (ch :: O) ((ch, .inr (0, [.ref y0, .int y1, .ref y2, .ref y3])) :: X) H := hH
  refine W.widen (k := cells) (n := slots) (Nat.le_refl _) (Nat.le_refl _) ?_
  refine lv_pop hx hb dL_law_651 rfl ?_
  refine lv_aload_n hx hb dL_law_652 rfl (lv_at hl 2 rfl) ?_
  refine lv_aload_n hx hb dL_law_653 rfl (lv_at hl 0 rfl) ?_
  refine lv_iload_n hx hb dL_law_654 rfl (lv_at hl 3 rfl) ?_
  refine lv_iconst (v := 1) hx hb dL_law_655 (by decide) ?_
  refine lv_iadd hx hb dL_law_656 ?_
  refine lv_topi (fun v656 ev656 => ?_)
  have tv656 : v656.toInt = x3.toInt + (1) := by rw [ev656]; exact add_i rfl (by decide : (1 : Int32).toInt = 1) (by omega) (by omega)
  refine va_sld hx hb hX hbl hbA hS (in_t (by omega) (by omega)) dL_law_657 ?_
  refine lv_topi (fun v657 ev657 => ?_)
  refine lv_aload_n hx hb dL_law_658 rfl (lv_at hl 0 rfl) ?_
  refine lv_iload_n hx hb dL_law_659 rfl (lv_at hl 3 rfl) ?_
  refine lv_iconst (v := 2) hx hb dL_law_660 (by decide) ?_
  refine lv_iadd hx hb dL_law_661 ?_
  refine lv_topi (fun v661 ev661 => ?_)
  have tv661 : v661.toInt = x3.toInt + (2) := by rw [ev661]; exact add_i rfl (by decide : (2 : Int32).toInt = 2) (by omega) (by omega)
  refine va_sld hx hb hX hbl hbA hS (in_t (by omega) (by omega)) dL_law_662 ?_
  refine lv_topi (fun v662 ev662 => ?_)
  refine tk_i hH hS hA (tr_V (n := 2) (As := [.int v657, .int v662]) hx hb hml hown hts hkb hH (ox_map hOX rfl) hks hE hS hA (s_M_season l D cs kf T (ch :: O) ((ch, .inr (0, [.ref y0, .int y1, .ref y2, .ref y3])) :: X) a1 hg G v657 v662 t_a1 b_hg (hO.sub (by decide))) kw_1603 kw_1604 kw_1605 kw_13 kw_1606 (by decide +kernel) ⟨Nat.le_of_ble_eq_true rfl, Nat.le_of_ble_eq_true rfl⟩ (HT.recv (ci := 12) hkb hH t_a1 (hO.no t_a1 (by decide)) rfl) rfl rfl hl.1 (Nat.le_of_ble_eq_true rfl) dL_law_663 ⟨by show cells + 0 ≤ 600000; omega, by show slots + 0 ≤ 7302250; omega⟩) (fun v663 u H locs hz9 hH hS => ?_)
  have hz9 : u = (T, ch :: O, (ch, .inr (0, [.ref y0, .int y1, .ref y2, .ref y3])) :: X) := hz9
  subst hz9
  have hH : HT D cs A T (ch :: O) ((ch, .inr (0, [.ref y0, .int y1, .ref y2, .ref y3])) :: X) H := hH
  refine W.widen (k := cells) (n := slots) (Nat.le_refl _) (Nat.le_refl _) ?_
  refine lv_pop hx hb dL_law_666 rfl ?_
  refine lv_goto (tgt := 1395) hx hb dL_law_667 (by decide) ?_
  exact kk T w hw gw hg G y0 nn j y1 _ _ _ _ _ hv hr.s hH hS (lv_sub hl [0, 1, 2, 3] rfl)
set_option maxHeartbeats 4000000 in
set_option maxRecDepth 100000 in
/-- way -/
theorem lw_c16 {p : Program} {e : Env} {s : State} {m : MethodId} {below : List Frame} {meth : Method} {c : Code} {Q : State → Prop} (l : Launch) (D : va_G) (cs : CS) (kf : KF) {b L : Nat} {xs : Nat → Int32} (hx : p.tables.exec = Jvm.exec) (hb : c.code = code) (hml : c.maxLocals = 4) (hown : s.vm.findClass R_law = some m.cls) (hts : ∀ w ∈ gw, w.before #[Value.ref b] s = true) (hX : va_X b L xs s s.heap) (hbl : b < s.heap.size) (hkb : kb D (tyc cs) s) (hks : kS kf s) {A : Nat → Prop} (hE : kE kf A s s.heap) (hA : ∀ q, s.heap.size ≤ q → A q) (hbA : ¬ A b) (hL : L ≤ 3072) (O : List Nat) (X : va_W) (hOX0 : ∀ o ∈ O, ∃ (k : Nat) (e : va_E), X[k]? = some (o, e)) (hO9 : O = []) (a0 ch a1 y2 y3 : Nat) (T : TF) (w hw gw hg G y0 nn j : Nat) (y1 x3 : Int32) (n cells slots : Nat) (H : Heap) (locs : List Loc) (ls : Array Slot) (hv : LV T a0 a1 ch w hw gw hg G G y0 y2 y3 nn j y1) (hr : RM cells slots n j) (hn512 : n < 512) (l_x3 : 0 ≤ x3.toInt) (u_x3 : x3.toInt + 6 ≤ L) (hH : HT D cs A T (ch :: O) ((ch, .inr (0, [.ref y0, .int y1, .ref y2, .ref y3])) :: X) H) (hS : va_S A s.heap H locs) (hl : lv_has ls 4 [(0, .ref b), (1, .ref a0), (2, .ref a1), (3, .int x3)]) (kk : ∀ (T : TF) (w hw gw hg G y0 nn j : Nat) (y1 : Int32) (cells slots : Nat) (H : Heap) (locs : List Loc) (ls : Array Slot), LV T a0 a1 ch w hw gw hg G G y0 y2 y3 nn j y1 → RM cells slots (n + 1) j → HT D cs A T (ch :: O) ((ch, .inr (0, [.ref y0, .int y1, .ref y2, .ref y3])) :: X) H → va_S A s.heap H locs → lv_has ls 4 [(0, .ref b), (1, .ref a0), (2, .ref a1), (3, .int x3)] → W p l e room_1 s m #[Value.ref b] below meth c H locs cells slots Q (F0 m 1395 ls [])) : W p l e room_1 s m #[Value.ref b] below meth c H locs cells slots Q (F0 m 670 ls []) := by
  obtain ⟨t_a0, t_w, t_a1, b_hg, hU, hU1, t_ch, t_y0, l_y1, u_y1, t_y2, t_y3, hn, hj⟩ := id hv
  have hO := okc hO9 t_ch
  obtain ⟨hr1, hr2⟩ := id hr
  have hOX := ox_c (a := ch) (e0 := .inr (0, [.ref y0, .int y1, .ref y2, .ref y3])) hOX0
  have b1_w := t_w.2.1
  have b2_w := t_w.2.2
  refine lv_aload_n hx hb dL_law_670 rfl (lv_at hl 1 rfl) ?_
  refine lv_aload_n hx hb dL_law_671 rfl (lv_at hl 0 rfl) ?_
  refine lv_iload_n hx hb dL_law_672 rfl (lv_at hl 3 rfl) ?_
  refine lv_iconst (v := 1) hx hb dL_law_673 (by decide) ?_
  refine lv_iadd hx hb dL_law_674 ?_
  refine lv_topi (fun v674 ev674 => ?_)
  have tv674 : v674.toInt = x3.toInt + (1) := by rw [ev674]; exact add_i rfl (by decide : (1 : Int32).toInt = 1) (by omega) (by omega)
  refine va_sld hx hb hX hbl hbA hS (in_t (by omega) (by omega)) dL_law_675 ?_
  refine lv_topi (fun v675 ev675 => ?_)
  refine lv_aload_n hx hb dL_law_676 rfl (lv_at hl 0 rfl) ?_
  refine lv_iload_n hx hb dL_law_677 rfl (lv_at hl 3 rfl) ?_
  refine lv_iconst (v := 2) hx hb dL_law_678 (by decide) ?_
  refine lv_iadd hx hb dL_law_679 ?_
  refine lv_topi (fun v679 ev679 => ?_)
  have tv679 : v679.toInt = x3.toInt + (2) := by rw [ev679]; exact add_i rfl (by decide : (2 : Int32).toInt = 2) (by omega) (by omega)
  refine va_sld hx hb hX hbl hbA hS (in_t (by omega) (by omega)) dL_law_680 ?_
  refine lv_topi (fun v680 ev680 => ?_)
  refine tk_i hH hS hA (tr_V (n := 2) (As := [.int v675, .int v680]) hx hb hml hown hts hkb hH (ox_map hOX rfl) hks hE hS hA (s_FW_way l D cs kf T (ch :: O) ((ch, .inr (0, [.ref y0, .int y1, .ref y2, .ref y3])) :: X) a0 w hw gw ch G v675 v680 t_a0 t_w t_ch (hO.sub (by decide))) kw_966 kw_967 kw_968 kw_1 kw_969 (by decide +kernel) ⟨Nat.le_of_ble_eq_true rfl, Nat.le_of_ble_eq_true rfl⟩ (HT.recv (ci := 11) hkb hH t_a0 (hO.no t_a0 (by decide)) rfl) rfl rfl hl.1 (Nat.le_of_ble_eq_true rfl) dL_law_681 ⟨by show cells + 0 ≤ 600000; omega, by show slots + 0 ≤ 7302250; omega⟩) (fun v681 u H locs hz9 hH hS => ?_)
  have hz9 : u = (T, ch :: O, (ch, .inr (0, [.ref y0, .int y1, .ref y2, .ref y3])) :: X) := hz9
  subst hz9
  have hH : HT D cs A T (ch :: O) ((ch, .inr (0, [.ref y0, .int y1, .ref y2, .ref y3])) :: X) H := hH
  refine W.widen (k := cells) (n := slots) (Nat.le_refl _) (Nat.le_refl _) ?_
  refine lv_pop hx hb dL_law_684 rfl ?_
  refine lv_aload_n hx hb dL_law_685 rfl (lv_at hl 2 rfl) ?_
  refine lv_aload_n hx hb dL_law_686 rfl (lv_at hl 0 rfl) ?_
  refine lv_iload_n hx hb dL_law_687 rfl (lv_at hl 3 rfl) ?_
  refine lv_iconst (v := 1) hx hb dL_law_688 (by decide) ?_
  refine lv_iadd hx hb dL_law_689 ?_
  refine lv_topi (fun v689 ev689 => ?_)
  have tv689 : v689.toInt = x3.toInt + (1) := by rw [ev689]; exact add_i rfl (by decide : (1 : Int32).toInt = 1) (by omega) (by omega)
  refine va_sld hx hb hX hbl hbA hS (in_t (by omega) (by omega)) dL_law_690 ?_
  refine lv_topi (fun v690 ev690 => ?_)
  refine lv_aload_n hx hb dL_law_691 rfl (lv_at hl 0 rfl) ?_
  refine lv_iload_n hx hb dL_law_692 rfl (lv_at hl 3 rfl) ?_
  refine lv_iconst (v := 2) hx hb dL_law_693 (by decide) ?_
  refine lv_iadd hx hb dL_law_694 ?_
  refine lv_topi (fun v694 ev694 => ?_)
  have tv694 : v694.toInt = x3.toInt + (2) := by rw [ev694]; exact add_i rfl (by decide : (2 : Int32).toInt = 2) (by omega) (by omega)
  refine va_sld hx hb hX hbl hbA hS (in_t (by omega) (by omega)) dL_law_695 ?_
  refine lv_topi (fun v695 ev695 => ?_)
  refine tk_i hH hS hA (tr_V (n := 2) (As := [.int v690, .int v695]) hx hb hml hown hts hkb hH (ox_map hOX rfl) hks hE hS hA (s_M_way l D cs kf T (ch :: O) ((ch, .inr (0, [.ref y0, .int y1, .ref y2, .ref y3])) :: X) a1 hg G v690 v695 t_a1 b_hg (hO.sub (by decide))) kw_1613 kw_1614 kw_1615 kw_13 kw_1616 (by decide +kernel) ⟨Nat.le_of_ble_eq_true rfl, Nat.le_of_ble_eq_true rfl⟩ (HT.recv (ci := 12) hkb hH t_a1 (hO.no t_a1 (by decide)) rfl) rfl rfl hl.1 (Nat.le_of_ble_eq_true rfl) dL_law_696 ⟨by show cells + 0 ≤ 600000; omega, by show slots + 0 ≤ 7302250; omega⟩) (fun v696 u H locs hz9 hH hS => ?_)
  obtain ⟨rfl, l_v696, u_v696⟩ := hz9
  have hH : HT D cs A T (ch :: O) ((ch, .inr (0, [.ref y0, .int y1, .ref y2, .ref y3])) :: X) H := hH
  refine W.widen (k := cells) (n := slots) (Nat.le_refl _) (Nat.le_refl _) ?_
  refine lv_pop hx hb dL_law_699 rfl ?_
  refine lv_goto (tgt := 1395) hx hb dL_law_700 (by decide) ?_
  exact kk T w hw gw hg G y0 nn j y1 _ _ _ _ _ hv hr.s hH hS (lv_sub hl [0, 1, 2, 3] rfl)
set_option maxHeartbeats 4000000 in
set_option maxRecDepth 100000 in
/-- ways -/
theorem lw_c17 {p : Program} {e : Env} {s : State} {m : MethodId} {below : List Frame} {meth : Method} {c : Code} {Q : State → Prop} (l : Launch) (D : va_G) (cs : CS) (kf : KF) {b L : Nat} {xs : Nat → Int32} (hx : p.tables.exec = Jvm.exec) (hb : c.code = code) (hml : c.maxLocals = 4) (hown : s.vm.findClass R_law = some m.cls) (hts : ∀ w ∈ gw, w.before #[Value.ref b] s = true) (hX : va_X b L xs s s.heap) (hbl : b < s.heap.size) (hkb : kb D (tyc cs) s) (hks : kS kf s) {A : Nat → Prop} (hE : kE kf A s s.heap) (hA : ∀ q, s.heap.size ≤ q → A q) (hbA : ¬ A b) (hL : L ≤ 3072) (O : List Nat) (X : va_W) (hOX0 : ∀ o ∈ O, ∃ (k : Nat) (e : va_E), X[k]? = some (o, e)) (hO9 : O = []) (a0 ch a1 y2 y3 : Nat) (T : TF) (w hw gw hg G y0 nn j : Nat) (y1 x3 : Int32) (n cells slots : Nat) (H : Heap) (locs : List Loc) (ls : Array Slot) (hv : LV T a0 a1 ch w hw gw hg G G y0 y2 y3 nn j y1) (hr : RM cells slots n j) (hn512 : n < 512) (l_x3 : 0 ≤ x3.toInt) (u_x3 : x3.toInt + 6 ≤ L) (hH : HT D cs A T (ch :: O) ((ch, .inr (0, [.ref y0, .int y1, .ref y2, .ref y3])) :: X) H) (hS : va_S A s.heap H locs) (hl : lv_has ls 4 [(0, .ref b), (1, .ref a0), (2, .ref a1), (3, .int x3)]) (kk : ∀ (T : TF) (w hw gw hg G y0 nn j : Nat) (y1 : Int32) (cells slots : Nat) (H : Heap) (locs : List Loc) (ls : Array Slot), LV T a0 a1 ch w hw gw hg G G y0 y2 y3 nn j y1 → RM cells slots (n + 1) j → HT D cs A T (ch :: O) ((ch, .inr (0, [.ref y0, .int y1, .ref y2, .ref y3])) :: X) H → va_S A s.heap H locs → lv_has ls 4 [(0, .ref b), (1, .ref a0), (2, .ref a1), (3, .int x3)] → W p l e room_1 s m #[Value.ref b] below meth c H locs cells slots Q (F0 m 1395 ls [])) : W p l e room_1 s m #[Value.ref b] below meth c H locs cells slots Q (F0 m 703 ls []) := by
  obtain ⟨t_a0, t_w, t_a1, b_hg, hU, hU1, t_ch, t_y0, l_y1, u_y1, t_y2, t_y3, hn, hj⟩ := id hv
  have hO := okc hO9 t_ch
  obtain ⟨hr1, hr2⟩ := id hr
  have hOX := ox_c (a := ch) (e0 := .inr (0, [.ref y0, .int y1, .ref y2, .ref y3])) hOX0
  have b1_w := t_w.2.1
  have b2_w := t_w.2.2
  refine lv_aload_n hx hb dL_law_703 rfl (lv_at hl 1 rfl) ?_
  refine lv_aload_n hx hb dL_law_704 rfl (lv_at hl 0 rfl) ?_
  refine lv_iload_n hx hb dL_law_705 rfl (lv_at hl 3 rfl) ?_
  refine lv_iconst (v := 1) hx hb dL_law_706 (by decide) ?_
  refine lv_iadd hx hb dL_law_707 ?_
  refine lv_topi (fun v707 ev707 => ?_)
  have tv707 : v707.toInt = x3.toInt + (1) := by rw [ev707]; exact add_i rfl (by decide : (1 : Int32).toInt = 1) (by omega) (by omega)
  refine va_sld hx hb hX hbl hbA hS (in_t (by omega) (by omega)) dL_law_708 ?_
  refine lv_topi (fun v708 ev708 => ?_)
  refine tk_l hH hS hA (tr_V (n := 1) (As := [.int v708]) hx hb hml hown hts hkb hH (ox_map hOX rfl) hks hE hS hA (s_FW_ways l D cs kf T (ch :: O) ((ch, .inr (0, [.ref y0, .int y1, .ref y2, .ref y3])) :: X) a0 w hw gw ch G v708 t_a0 t_w t_ch (hO.sub (by decide))) kw_976 kw_977 kw_978 kw_1 kw_979 (by decide +kernel) ⟨Nat.le_of_ble_eq_true rfl, Nat.le_of_ble_eq_true rfl⟩ (HT.recv (ci := 11) hkb hH t_a0 (hO.no t_a0 (by decide)) rfl) rfl rfl hl.1 (Nat.le_of_ble_eq_true rfl) dL_law_709 ⟨by show cells + 0 ≤ 600000; omega, by show slots + 0 ≤ 7302250; omega⟩) (fun v709 u H locs hz9 hH hS => ?_)
  have hz9 : u = (T, ch :: O, (ch, .inr (0, [.ref y0, .int y1, .ref y2, .ref y3])) :: X) := hz9
  subst hz9
  have hH : HT D cs A T (ch :: O) ((ch, .inr (0, [.ref y0, .int y1, .ref y2, .ref y3])) :: X) H := hH
  refine W.widen (k := cells) (n := slots) (Nat.le_refl _) (Nat.le_refl _) ?_
  refine lv_pop2_2 hx hb dL_law_712 rfl ?_
  refine lv_aload_n hx hb dL_law_713 rfl (lv_at hl 2 rfl) ?_
  refine lv_aload_n hx hb dL_law_714 rfl (lv_at hl 0 rfl) ?_
  refine lv_iload_n hx hb dL_law_715 rfl (lv_at hl 3 rfl) ?_
  refine lv_iconst (v := 1) hx hb dL_law_716 (by decide) ?_
  refine lv_iadd hx hb dL_law_717 ?_
  refine lv_topi (fun v717 ev717 => ?_)
  have tv717 : v717.toInt = x3.toInt + (1) := by rw [ev717]; exact add_i rfl (by decide : (1 : Int32).toInt = 1) (by omega) (by omega)
  refine va_sld hx hb hX hbl hbA hS (in_t (by omega) (by omega)) dL_law_718 ?_
  refine lv_topi (fun v718 ev718 => ?_)
  refine tk_l hH hS hA (tr_V (n := 1) (As := [.int v718]) hx hb hml hown hts hkb hH (ox_map hOX rfl) hks hE hS hA (s_M_ways l D cs kf T (ch :: O) ((ch, .inr (0, [.ref y0, .int y1, .ref y2, .ref y3])) :: X) a1 hg G v718 t_a1 b_hg (hO.sub (by decide))) kw_1618 kw_1619 kw_1620 kw_13 kw_1621 (by decide +kernel) ⟨Nat.le_of_ble_eq_true rfl, Nat.le_of_ble_eq_true rfl⟩ (HT.recv (ci := 12) hkb hH t_a1 (hO.no t_a1 (by decide)) rfl) rfl rfl hl.1 (Nat.le_of_ble_eq_true rfl) dL_law_719 ⟨by show cells + 0 ≤ 600000; omega, by show slots + 0 ≤ 7302250; omega⟩) (fun v719 u H locs hz9 hH hS => ?_)
  have hz9 : u = (T, ch :: O, (ch, .inr (0, [.ref y0, .int y1, .ref y2, .ref y3])) :: X) := hz9
  subst hz9
  have hH : HT D cs A T (ch :: O) ((ch, .inr (0, [.ref y0, .int y1, .ref y2, .ref y3])) :: X) H := hH
  refine W.widen (k := cells) (n := slots) (Nat.le_refl _) (Nat.le_refl _) ?_
  refine lv_pop2_2 hx hb dL_law_722 rfl ?_
  refine lv_goto (tgt := 1395) hx hb dL_law_723 (by decide) ?_
  exact kk T w hw gw hg G y0 nn j y1 _ _ _ _ _ hv hr.s hH hS (lv_sub hl [0, 1, 2, 3] rfl)
set_option maxHeartbeats 4000000 in
set_option maxRecDepth 100000 in
/-- climbs -/
theorem lw_c18 {p : Program} {e : Env} {s : State} {m : MethodId} {below : List Frame} {meth : Method} {c : Code} {Q : State → Prop} (l : Launch) (D : va_G) (cs : CS) (kf : KF) {b L : Nat} {xs : Nat → Int32} (hx : p.tables.exec = Jvm.exec) (hb : c.code = code) (hml : c.maxLocals = 4) (hown : s.vm.findClass R_law = some m.cls) (hts : ∀ w ∈ gw, w.before #[Value.ref b] s = true) (hX : va_X b L xs s s.heap) (hbl : b < s.heap.size) (hkb : kb D (tyc cs) s) (hks : kS kf s) {A : Nat → Prop} (hE : kE kf A s s.heap) (hA : ∀ q, s.heap.size ≤ q → A q) (hbA : ¬ A b) (hL : L ≤ 3072) (O : List Nat) (X : va_W) (hOX0 : ∀ o ∈ O, ∃ (k : Nat) (e : va_E), X[k]? = some (o, e)) (hO9 : O = []) (a0 ch a1 y2 y3 : Nat) (T : TF) (w hw gw hg G y0 nn j : Nat) (y1 x3 : Int32) (n cells slots : Nat) (H : Heap) (locs : List Loc) (ls : Array Slot) (hv : LV T a0 a1 ch w hw gw hg G G y0 y2 y3 nn j y1) (hr : RM cells slots n j) (hn512 : n < 512) (l_x3 : 0 ≤ x3.toInt) (u_x3 : x3.toInt + 6 ≤ L) (hH : HT D cs A T (ch :: O) ((ch, .inr (0, [.ref y0, .int y1, .ref y2, .ref y3])) :: X) H) (hS : va_S A s.heap H locs) (hl : lv_has ls 4 [(0, .ref b), (1, .ref a0), (2, .ref a1), (3, .int x3)]) (kk : ∀ (T : TF) (w hw gw hg G y0 nn j : Nat) (y1 : Int32) (cells slots : Nat) (H : Heap) (locs : List Loc) (ls : Array Slot), LV T a0 a1 ch w hw gw hg G G y0 y2 y3 nn j y1 → RM cells slots (n + 1) j → HT D cs A T (ch :: O) ((ch, .inr (0, [.ref y0, .int y1, .ref y2, .ref y3])) :: X) H → va_S A s.heap H locs → lv_has ls 4 [(0, .ref b), (1, .ref a0), (2, .ref a1), (3, .int x3)] → W p l e room_1 s m #[Value.ref b] below meth c H locs cells slots Q (F0 m 1395 ls [])) : W p l e room_1 s m #[Value.ref b] below meth c H locs cells slots Q (F0 m 726 ls []) := by
  obtain ⟨t_a0, t_w, t_a1, b_hg, hU, hU1, t_ch, t_y0, l_y1, u_y1, t_y2, t_y3, hn, hj⟩ := id hv
  have hO := okc hO9 t_ch
  obtain ⟨hr1, hr2⟩ := id hr
  have hOX := ox_c (a := ch) (e0 := .inr (0, [.ref y0, .int y1, .ref y2, .ref y3])) hOX0
  have b1_w := t_w.2.1
  have b2_w := t_w.2.2
  refine lv_aload_n hx hb dL_law_726 rfl (lv_at hl 1 rfl) ?_
  refine lv_aload_n hx hb dL_law_727 rfl (lv_at hl 0 rfl) ?_
  refine lv_iload_n hx hb dL_law_728 rfl (lv_at hl 3 rfl) ?_
  refine lv_iconst (v := 1) hx hb dL_law_729 (by decide) ?_
  refine lv_iadd hx hb dL_law_730 ?_
  refine lv_topi (fun v730 ev730 => ?_)
  have tv730 : v730.toInt = x3.toInt + (1) := by rw [ev730]; exact add_i rfl (by decide : (1 : Int32).toInt = 1) (by omega) (by omega)
  refine va_sld hx hb hX hbl hbA hS (in_t (by omega) (by omega)) dL_law_731 ?_
  refine lv_topi (fun v731 ev731 => ?_)
  refine lv_aload_n hx hb dL_law_732 rfl (lv_at hl 0 rfl) ?_
  refine lv_iload_n hx hb dL_law_733 rfl (lv_at hl 3 rfl) ?_
  refine lv_iconst (v := 2) hx hb dL_law_734 (by decide) ?_
  refine lv_iadd hx hb dL_law_735 ?_
  refine lv_topi (fun v735 ev735 => ?_)
  have tv735 : v735.toInt = x3.toInt + (2) := by rw [ev735]; exact add_i rfl (by decide : (2 : Int32).toInt = 2) (by omega) (by omega)
  refine va_sld hx hb hX hbl hbA hS (in_t (by omega) (by omega)) dL_law_736 ?_
  refine lv_topi (fun v736 ev736 => ?_)
  refine tk_l hH hS hA (tr_V (n := 2) (As := [.int v731, .int v736]) hx hb hml hown hts hkb hH (ox_map hOX rfl) hks hE hS hA (s_FW_climbs l D cs kf T (ch :: O) ((ch, .inr (0, [.ref y0, .int y1, .ref y2, .ref y3])) :: X) a0 w hw gw ch G v731 v736 t_a0 t_w t_ch (hO.sub (by decide))) kw_989 kw_990 kw_991 kw_1 kw_992 (by decide +kernel) ⟨Nat.le_of_ble_eq_true rfl, Nat.le_of_ble_eq_true rfl⟩ (HT.recv (ci := 11) hkb hH t_a0 (hO.no t_a0 (by decide)) rfl) rfl rfl hl.1 (Nat.le_of_ble_eq_true rfl) dL_law_737 ⟨by show cells + 0 ≤ 600000; omega, by show slots + 0 ≤ 7302250; omega⟩) (fun v737 u H locs hz9 hH hS => ?_)
  have hz9 : u = (T, ch :: O, (ch, .inr (0, [.ref y0, .int y1, .ref y2, .ref y3])) :: X) := hz9
  subst hz9
  have hH : HT D cs A T (ch :: O) ((ch, .inr (0, [.ref y0, .int y1, .ref y2, .ref y3])) :: X) H := hH
  refine W.widen (k := cells) (n := slots) (Nat.le_refl _) (Nat.le_refl _) ?_
  refine lv_pop2_2 hx hb dL_law_740 rfl ?_
  refine lv_aload_n hx hb dL_law_741 rfl (lv_at hl 2 rfl) ?_
  refine lv_aload_n hx hb dL_law_742 rfl (lv_at hl 0 rfl) ?_
  refine lv_iload_n hx hb dL_law_743 rfl (lv_at hl 3 rfl) ?_
  refine lv_iconst (v := 1) hx hb dL_law_744 (by decide) ?_
  refine lv_iadd hx hb dL_law_745 ?_
  refine lv_topi (fun v745 ev745 => ?_)
  have tv745 : v745.toInt = x3.toInt + (1) := by rw [ev745]; exact add_i rfl (by decide : (1 : Int32).toInt = 1) (by omega) (by omega)
  refine va_sld hx hb hX hbl hbA hS (in_t (by omega) (by omega)) dL_law_746 ?_
  refine lv_topi (fun v746 ev746 => ?_)
  refine lv_aload_n hx hb dL_law_747 rfl (lv_at hl 0 rfl) ?_
  refine lv_iload_n hx hb dL_law_748 rfl (lv_at hl 3 rfl) ?_
  refine lv_iconst (v := 2) hx hb dL_law_749 (by decide) ?_
  refine lv_iadd hx hb dL_law_750 ?_
  refine lv_topi (fun v750 ev750 => ?_)
  have tv750 : v750.toInt = x3.toInt + (2) := by rw [ev750]; exact add_i rfl (by decide : (2 : Int32).toInt = 2) (by omega) (by omega)
  refine va_sld hx hb hX hbl hbA hS (in_t (by omega) (by omega)) dL_law_751 ?_
  refine lv_topi (fun v751 ev751 => ?_)
  refine tk_l hH hS hA (tr_V (n := 2) (As := [.int v746, .int v751]) hx hb hml hown hts hkb hH (ox_map hOX rfl) hks hE hS hA (s_M_climbs l D cs kf T (ch :: O) ((ch, .inr (0, [.ref y0, .int y1, .ref y2, .ref y3])) :: X) a1 hg G v746 v751 t_a1 b_hg (hO.sub (by decide))) kw_1638 kw_1639 kw_1640 kw_13 kw_1641 (by decide +kernel) ⟨Nat.le_of_ble_eq_true rfl, Nat.le_of_ble_eq_true rfl⟩ (HT.recv (ci := 12) hkb hH t_a1 (hO.no t_a1 (by decide)) rfl) rfl rfl hl.1 (Nat.le_of_ble_eq_true rfl) dL_law_752 ⟨by show cells + 0 ≤ 600000; omega, by show slots + 0 ≤ 7302250; omega⟩) (fun v752 u H locs hz9 hH hS => ?_)
  have hz9 : u = (T, ch :: O, (ch, .inr (0, [.ref y0, .int y1, .ref y2, .ref y3])) :: X) := hz9
  subst hz9
  have hH : HT D cs A T (ch :: O) ((ch, .inr (0, [.ref y0, .int y1, .ref y2, .ref y3])) :: X) H := hH
  refine W.widen (k := cells) (n := slots) (Nat.le_refl _) (Nat.le_refl _) ?_
  refine lv_pop2_2 hx hb dL_law_755 rfl ?_
  refine lv_goto (tgt := 1395) hx hb dL_law_756 (by decide) ?_
  exact kk T w hw gw hg G y0 nn j y1 _ _ _ _ _ hv hr.s hH hS (lv_sub hl [0, 1, 2, 3] rfl)
set_option maxHeartbeats 4000000 in
set_option maxRecDepth 100000 in
/-- parties -/
theorem lw_c19 {p : Program} {e : Env} {s : State} {m : MethodId} {below : List Frame} {meth : Method} {c : Code} {Q : State → Prop} (l : Launch) (D : va_G) (cs : CS) (kf : KF) {b L : Nat} {xs : Nat → Int32} (hx : p.tables.exec = Jvm.exec) (hb : c.code = code) (hml : c.maxLocals = 4) (hown : s.vm.findClass R_law = some m.cls) (hts : ∀ w ∈ gw, w.before #[Value.ref b] s = true) (hX : va_X b L xs s s.heap) (hbl : b < s.heap.size) (hkb : kb D (tyc cs) s) (hks : kS kf s) {A : Nat → Prop} (hE : kE kf A s s.heap) (hA : ∀ q, s.heap.size ≤ q → A q) (hbA : ¬ A b) (hL : L ≤ 3072) (O : List Nat) (X : va_W) (hOX0 : ∀ o ∈ O, ∃ (k : Nat) (e : va_E), X[k]? = some (o, e)) (hO9 : O = []) (a0 ch a1 y2 y3 : Nat) (T : TF) (w hw gw hg G y0 nn j : Nat) (y1 x3 : Int32) (n cells slots : Nat) (H : Heap) (locs : List Loc) (ls : Array Slot) (hv : LV T a0 a1 ch w hw gw hg G G y0 y2 y3 nn j y1) (hr : RM cells slots n j) (hn512 : n < 512) (l_x3 : 0 ≤ x3.toInt) (u_x3 : x3.toInt + 6 ≤ L) (hH : HT D cs A T (ch :: O) ((ch, .inr (0, [.ref y0, .int y1, .ref y2, .ref y3])) :: X) H) (hS : va_S A s.heap H locs) (hl : lv_has ls 4 [(0, .ref b), (1, .ref a0), (2, .ref a1), (3, .int x3)]) (kk : ∀ (T : TF) (w hw gw hg G y0 nn j : Nat) (y1 : Int32) (cells slots : Nat) (H : Heap) (locs : List Loc) (ls : Array Slot), LV T a0 a1 ch w hw gw hg G G y0 y2 y3 nn j y1 → RM cells slots (n + 1) j → HT D cs A T (ch :: O) ((ch, .inr (0, [.ref y0, .int y1, .ref y2, .ref y3])) :: X) H → va_S A s.heap H locs → lv_has ls 4 [(0, .ref b), (1, .ref a0), (2, .ref a1), (3, .int x3)] → W p l e room_1 s m #[Value.ref b] below meth c H locs cells slots Q (F0 m 1395 ls [])) : W p l e room_1 s m #[Value.ref b] below meth c H locs cells slots Q (F0 m 759 ls []) := by
  obtain ⟨t_a0, t_w, t_a1, b_hg, hU, hU1, t_ch, t_y0, l_y1, u_y1, t_y2, t_y3, hn, hj⟩ := id hv
  have hO := okc hO9 t_ch
  obtain ⟨hr1, hr2⟩ := id hr
  have hOX := ox_c (a := ch) (e0 := .inr (0, [.ref y0, .int y1, .ref y2, .ref y3])) hOX0
  have b1_w := t_w.2.1
  have b2_w := t_w.2.2
  refine lv_aload_n hx hb dL_law_759 rfl (lv_at hl 1 rfl) ?_
  refine lv_aload_n hx hb dL_law_760 rfl (lv_at hl 0 rfl) ?_
  refine lv_iload_n hx hb dL_law_761 rfl (lv_at hl 3 rfl) ?_
  refine lv_iconst (v := 1) hx hb dL_law_762 (by decide) ?_
  refine lv_iadd hx hb dL_law_763 ?_
  refine lv_topi (fun v763 ev763 => ?_)
  have tv763 : v763.toInt = x3.toInt + (1) := by rw [ev763]; exact add_i rfl (by decide : (1 : Int32).toInt = 1) (by omega) (by omega)
  refine va_sld hx hb hX hbl hbA hS (in_t (by omega) (by omega)) dL_law_764 ?_
  refine lv_topi (fun v764 ev764 => ?_)
  refine tk_i hH hS hA (tr_V (n := 1) (As := [.int v764]) hx hb hml hown hts hkb hH (ox_map hOX rfl) hks hE hS hA (s_FW_parties l D cs kf T (ch :: O) ((ch, .inr (0, [.ref y0, .int y1, .ref y2, .ref y3])) :: X) a0 w hw gw ch G v764 t_a0 t_w t_ch (hO.sub (by decide))) kw_1010 kw_1011 kw_1012 kw_1 kw_1013 (by decide +kernel) ⟨Nat.le_of_ble_eq_true rfl, Nat.le_of_ble_eq_true rfl⟩ (HT.recv (ci := 11) hkb hH t_a0 (hO.no t_a0 (by decide)) rfl) rfl rfl hl.1 (Nat.le_of_ble_eq_true rfl) dL_law_765 ⟨by show cells + 0 ≤ 600000; omega, by show slots + 0 ≤ 7302250; omega⟩) (fun v765 u H locs hz9 hH hS => ?_)
  obtain ⟨rfl, l_v765, u_v765⟩ := hz9
  have hH : HT D cs A T (ch :: O) ((ch, .inr (0, [.ref y0, .int y1, .ref y2, .ref y3])) :: X) H := hH
  refine W.widen (k := cells) (n := slots) (Nat.le_refl _) (Nat.le_refl _) ?_
  refine lv_pop hx hb dL_law_768 rfl ?_
  refine lv_aload_n hx hb dL_law_769 rfl (lv_at hl 2 rfl) ?_
  refine lv_aload_n hx hb dL_law_770 rfl (lv_at hl 0 rfl) ?_
  refine lv_iload_n hx hb dL_law_771 rfl (lv_at hl 3 rfl) ?_
  refine lv_iconst (v := 1) hx hb dL_law_772 (by decide) ?_
  refine lv_iadd hx hb dL_law_773 ?_
  refine lv_topi (fun v773 ev773 => ?_)
  have tv773 : v773.toInt = x3.toInt + (1) := by rw [ev773]; exact add_i rfl (by decide : (1 : Int32).toInt = 1) (by omega) (by omega)
  refine va_sld hx hb hX hbl hbA hS (in_t (by omega) (by omega)) dL_law_774 ?_
  refine lv_topi (fun v774 ev774 => ?_)
  refine tk_i hH hS hA (tr_V (n := 1) (As := [.int v774]) hx hb hml hown hts hkb hH (ox_map hOX rfl) hks hE hS hA (s_M_parties l D cs kf T (ch :: O) ((ch, .inr (0, [.ref y0, .int y1, .ref y2, .ref y3])) :: X) a1 hg G v774 t_a1 b_hg (hO.sub (by decide))) kw_1648 kw_1649 kw_1650 kw_13 kw_1651 (by decide +kernel) ⟨Nat.le_of_ble_eq_true rfl, Nat.le_of_ble_eq_true rfl⟩ (HT.recv (ci := 12) hkb hH t_a1 (hO.no t_a1 (by decide)) rfl) rfl rfl hl.1 (Nat.le_of_ble_eq_true rfl) dL_law_775 ⟨by show cells + 0 ≤ 600000; omega, by show slots + 0 ≤ 7302250; omega⟩) (fun v775 u H locs hz9 hH hS => ?_)
  have hz9 : u = (T, ch :: O, (ch, .inr (0, [.ref y0, .int y1, .ref y2, .ref y3])) :: X) := hz9
  subst hz9
  have hH : HT D cs A T (ch :: O) ((ch, .inr (0, [.ref y0, .int y1, .ref y2, .ref y3])) :: X) H := hH
  refine W.widen (k := cells) (n := slots) (Nat.le_refl _) (Nat.le_refl _) ?_
  refine lv_pop hx hb dL_law_778 rfl ?_
  refine lv_goto (tgt := 1395) hx hb dL_law_779 (by decide) ?_
  exact kk T w hw gw hg G y0 nn j y1 _ _ _ _ _ hv hr.s hH hS (lv_sub hl [0, 1, 2, 3] rfl)
