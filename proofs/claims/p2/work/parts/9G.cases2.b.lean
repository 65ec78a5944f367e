set_option maxHeartbeats 4000000 in
set_option maxRecDepth 100000 in
/-- shut -/
theorem lw_c20 {p : Program} {e : Env} {s : State} {m : MethodId} {below : List Frame} {meth : Method} {c : Code} {Q : State → Prop} (l : Launch) (D : va_G) (cs : CS) (kf : KF) {b L : Nat} {xs : Nat → Int32} (hx : p.tables.exec = Jvm.exec) (hb : c.code = code) (hml : c.maxLocals = 4) (hown : s.vm.findClass R_law = some m.cls) (hts : ∀ w ∈ gw, w.before #[Value.ref b] s = true) (hX : va_X b L xs s s.heap) (hbl : b < s.heap.size) (hkb : kb D (tyc cs) s) (hks : kS kf s) {A : Nat → Prop} (hE : kE kf A s s.heap) (hA : ∀ q, s.heap.size ≤ q → A q) (hbA : ¬ A b) (hL : L ≤ 3072) (O : List Nat) (X : va_W) (hOX0 : ∀ o ∈ O, ∃ (k : Nat) (e : va_E), X[k]? = some (o, e)) (hO9 : O = []) (a0 ch a1 y2 y3 : Nat) (T : TF) (w hw gw hg G y0 nn j : Nat) (y1 x3 : Int32) (n cells slots : Nat) (H : Heap) (locs : List Loc) (ls : Array Slot) (hv : LV T a0 a1 ch w hw gw hg G G y0 y2 y3 nn j y1) (hr : RM cells slots n j) (hn512 : n < 512) (l_x3 : 0 ≤ x3.toInt) (u_x3 : x3.toInt + 6 ≤ L) (hH : HT D cs A T (ch :: O) ((ch, .inr (0, [.ref y0, .int y1, .ref y2, .ref y3])) :: X) H) (hS : va_S A s.heap H locs) (hl : lv_has ls 4 [(0, .ref b), (1, .ref a0), (2, .ref a1), (3, .int x3)]) (kk : ∀ (T : TF) (w hw gw hg G y0 nn j : Nat) (y1 : Int32) (cells slots : Nat) (H : Heap) (locs : List Loc) (ls : Array Slot), LV T a0 a1 ch w hw gw hg G G y0 y2 y3 nn j y1 → RM cells slots (n + 1) j → HT D cs A T (ch :: O) ((ch, .inr (0, [.ref y0, .int y1, .ref y2, .ref y3])) :: X) H → va_S A s.heap H locs → lv_has ls 4 [(0, .ref b), (1, .ref a0), (2, .ref a1), (3, .int x3)] → W p l e room_1 s m #[Value.ref b] below meth c H locs cells slots Q (F0 m 1395 ls [])) : W p l e room_1 s m #[Value.ref b] below meth c H locs cells slots Q (F0 m 782 ls []) := by
  obtain ⟨t_a0, t_w, t_a1, b_hg, hU, hU1, t_ch, t_y0, l_y1, u_y1, t_y2, t_y3, hn, hj⟩ := id hv
  have hO := okc hO9 t_ch
  obtain ⟨hr1, hr2⟩ := id hr
  have hOX := ox_c (a := ch) (e0 := .inr (0, [.ref y0, .int y1, .ref y2, .ref y3])) hOX0
  have b1_w := t_w.2.1
  have b2_w := t_w.2.2
  refine lv_aload_n hx hb dL_law_782 rfl (lv_at hl 1 rfl) ?_
  refine lv_aload_n hx hb dL_law_783 rfl (lv_at hl 0 rfl) ?_
  refine lv_iload_n hx hb dL_law_784 rfl (lv_at hl 3 rfl) ?_
  refine lv_iconst (v := 1) hx hb dL_law_785 (by decide) ?_
  refine lv_iadd hx hb dL_law_786 ?_
  refine lv_topi (fun v786 ev786 => ?_)
  have tv786 : v786.toInt = x3.toInt + (1) := by rw [ev786]; exact add_i rfl (by decide : (1 : Int32).toInt = 1) (by omega) (by omega)
  refine va_sld hx hb hX hbl hbA hS (in_t (by omega) (by omega)) dL_law_787 ?_
  refine lv_topi (fun v787 ev787 => ?_)
  refine lv_aload_n hx hb dL_law_788 rfl (lv_at hl 0 rfl) ?_
  refine lv_iload_n hx hb dL_law_789 rfl (lv_at hl 3 rfl) ?_
  refine lv_iconst (v := 2) hx hb dL_law_790 (by decide) ?_
  refine lv_iadd hx hb dL_law_791 ?_
  refine lv_topi (fun v791 ev791 => ?_)
  have tv791 : v791.toInt = x3.toInt + (2) := by rw [ev791]; exact add_i rfl (by decide : (2 : Int32).toInt = 2) (by omega) (by omega)
  refine va_sld hx hb hX hbl hbA hS (in_t (by omega) (by omega)) dL_law_792 ?_
  refine lv_topi (fun v792 ev792 => ?_)
  refine tk_i hH hS hA (tr_V (n := 2) (As := [.int v787, .int v792]) hx hb hml hown hts hkb hH (ox_map hOX rfl) hks hE hS hA (s_FW_shut l D cs kf T (ch :: O) ((ch, .inr (0, [.ref y0, .int y1, .ref y2, .ref y3])) :: X) a0 w hw gw ch G v787 v792 t_a0 t_w t_ch (hO.sub (by decide))) kw_1040 kw_1041 kw_1042 kw_1 kw_1043 (by decide +kernel) ⟨Nat.le_of_ble_eq_true rfl, Nat.le_of_ble_eq_true rfl⟩ (HT.recv (ci := 11) hkb hH t_a0 (hO.no t_a0 (by decide)) rfl) rfl rfl hl.1 (Nat.le_of_ble_eq_true rfl) dL_law_793 ⟨by show cells + 0 ≤ 600000; omega, by show slots + 0 ≤ 7302250; omega⟩) (fun v793 u H locs hz9 hH hS => ?_)
  obtain ⟨rfl, l_v793, u_v793⟩ := hz9
  have hH : HT D cs A T (ch :: O) ((ch, .inr (0, [.ref y0, .int y1, .ref y2, .ref y3])) :: X) H := hH
  refine W.widen (k := cells) (n := slots) (Nat.le_refl _) (Nat.le_refl _) ?_
  refine lv_pop hx hb dL_law_796 rfl ?_
  refine lv_aload_n hx hb dL_law_797 rfl (lv_at hl 2 rfl) ?_
  refine lv_aload_n hx hb dL_law_798 rfl (lv_at hl 0 rfl) ?_
  refine lv_iload_n hx hb dL_law_799 rfl (lv_at hl 3 rfl) ?_
  refine lv_iconst (v := 1) hx hb dL_law_800 (by decide) ?_
  refine lv_iadd hx hb dL_law_801 ?_
  refine lv_topi (fun v801 ev801 => ?_)
  have tv801 : v801.toInt = x3.toInt + (1) := by rw [ev801]; exact add_i rfl (by decide : (1 : Int32).toInt = 1) (by omega) (by omega)
  refine va_sld hx hb hX hbl hbA hS (in_t (by omega) (by omega)) dL_law_802 ?_
  refine lv_topi (fun v802 ev802 => ?_)
  refine lv_aload_n hx hb dL_law_803 rfl (lv_at hl 0 rfl) ?_
  refine lv_iload_n hx hb dL_law_804 rfl (lv_at hl 3 rfl) ?_
  refine lv_iconst (v := 2) hx hb dL_law_805 (by decide) ?_
  refine lv_iadd hx hb dL_law_806 ?_
  refine lv_topi (fun v806 ev806 => ?_)
  have tv806 : v806.toInt = x3.toInt + (2) := by rw [ev806]; exact add_i rfl (by decide : (2 : Int32).toInt = 2) (by omega) (by omega)
  refine va_sld hx hb hX hbl hbA hS (in_t (by omega) (by omega)) dL_law_807 ?_
  refine lv_topi (fun v807 ev807 => ?_)
  refine tk_i hH hS hA (tr_V (n := 2) (As := [.int v802, .int v807]) hx hb hml hown hts hkb hH (ox_map hOX rfl) hks hE hS hA (s_M_shut l D cs kf T (ch :: O) ((ch, .inr (0, [.ref y0, .int y1, .ref y2, .ref y3])) :: X) a1 hg G v802 v807 t_a1 b_hg (hO.sub (by decide))) kw_1664 kw_1665 kw_1666 kw_13 kw_1667 (by decide +kernel) ⟨Nat.le_of_ble_eq_true rfl, Nat.le_of_ble_eq_true rfl⟩ (HT.recv (ci := 12) hkb hH t_a1 (hO.no t_a1 (by decide)) rfl) rfl rfl hl.1 (Nat.le_of_ble_eq_true rfl) dL_law_808 ⟨by show cells + 0 ≤ 600000; omega, by show slots + 0 ≤ 7302250; omega⟩) (fun v808 u H locs hz9 hH hS => ?_)
  have hz9 : u = (T, ch :: O, (ch, .inr (0, [.ref y0, .int y1, .ref y2, .ref y3])) :: X) := hz9
  subst hz9
  have hH : HT D cs A T (ch :: O) ((ch, .inr (0, [.ref y0, .int y1, .ref y2, .ref y3])) :: X) H := hH
  refine W.widen (k := cells) (n := slots) (Nat.le_refl _) (Nat.le_refl _) ?_
  refine lv_pop hx hb dL_law_811 rfl ?_
  refine lv_goto (tgt := 1395) hx hb dL_law_812 (by decide) ?_
  exact kk T w hw gw hg G y0 nn j y1 _ _ _ _ _ hv hr.s hH hS (lv_sub hl [0, 1, 2, 3] rfl)
set_option maxHeartbeats 4000000 in
set_option maxRecDepth 100000 in
/-- needed -/
theorem lw_c21 {p : Program} {e : Env} {s : State} {m : MethodId} {below : List Frame} {meth : Method} {c : Code} {Q : State → Prop} (l : Launch) (D : va_G) (cs : CS) (kf : KF) {b L : Nat} {xs : Nat → Int32} (hx : p.tables.exec = Jvm.exec) (hb : c.code = code) (hml : c.maxLocals = 4) (hown : s.vm.findClass R_law = some m.cls) (hts : ∀ w ∈ gw, w.before #[Value.ref b] s = true) (hX : va_X b L xs s s.heap) (hbl : b < s.heap.size) (hkb : kb D (tyc cs) s) (hks : kS kf s) {A : Nat → Prop} (hE : kE kf A s s.heap) (hA : ∀ q, s.heap.size ≤ q → A q) (hbA : ¬ A b) (hL : L ≤ 3072) (O : List Nat) (X : va_W) (hOX0 : ∀ o ∈ O, ∃ (k : Nat) (e : va_E), X[k]? = some (o, e)) (hO9 : O = []) (a0 ch a1 y2 y3 : Nat) (T : TF) (w hw gw hg G y0 nn j : Nat) (y1 x3 : Int32) (n cells slots : Nat) (H : Heap) (locs : List Loc) (ls : Array Slot) (hv : LV T a0 a1 ch w hw gw hg G G y0 y2 y3 nn j y1) (hr : RM cells slots n j) (hn512 : n < 512) (l_x3 : 0 ≤ x3.toInt) (u_x3 : x3.toInt + 6 ≤ L) (hH : HT D cs A T (ch :: O) ((ch, .inr (0, [.ref y0, .int y1, .ref y2, .ref y3])) :: X) H) (hS : va_S A s.heap H locs) (hl : lv_has ls 4 [(0, .ref b), (1, .ref a0), (2, .ref a1), (3, .int x3)]) (kk : ∀ (T : TF) (w hw gw hg G y0 nn j : Nat) (y1 : Int32) (cells slots : Nat) (H : Heap) (locs : List Loc) (ls : Array Slot), LV T a0 a1 ch w hw gw hg G G y0 y2 y3 nn j y1 → RM cells slots (n + 1) j → HT D cs A T (ch :: O) ((ch, .inr (0, [.ref y0, .int y1, .ref y2, .ref y3])) :: X) H → va_S A s.heap H locs → lv_has ls 4 [(0, .ref b), (1, .ref a0), (2, .ref a1), (3, .int x3)] → W p l e room_1 s m #[Value.ref b] below meth c H locs cells slots Q (F0 m 1395 ls [])) : W p l e room_1 s m #[Value.ref b] below meth c H locs cells slots Q (F0 m 815 ls []) := by
  obtain ⟨t_a0, t_w, t_a1, b_hg, hU, hU1, t_ch, t_y0, l_y1, u_y1, t_y2, t_y3, hn, hj⟩ := id hv
  have hO := okc hO9 t_ch
  obtain ⟨hr1, hr2⟩ := id hr
  have hOX := ox_c (a := ch) (e0 := .inr (0, [.ref y0, .int y1, .ref y2, .ref y3])) hOX0
  have b1_w := t_w.2.1
  have b2_w := t_w.2.2
  refine lv_aload_n hx hb dL_law_815 rfl (lv_at hl 1 rfl) ?_
  refine lv_aload_n hx hb dL_law_816 rfl (lv_at hl 0 rfl) ?_
  refine lv_iload_n hx hb dL_law_817 rfl (lv_at hl 3 rfl) ?_
  refine lv_iconst (v := 1) hx hb dL_law_818 (by decide) ?_
  refine lv_iadd hx hb dL_law_819 ?_
  refine lv_topi (fun v819 ev819 => ?_)
  have tv819 : v819.toInt = x3.toInt + (1) := by rw [ev819]; exact add_i rfl (by decide : (1 : Int32).toInt = 1) (by omega) (by omega)
  refine va_sld hx hb hX hbl hbA hS (in_t (by omega) (by omega)) dL_law_820 ?_
  refine lv_topi (fun v820 ev820 => ?_)
  refine tk_i hH hS hA (tr_V (n := 1) (As := [.int v820]) hx hb hml hown hts hkb hH (ox_map hOX rfl) hks hE hS hA (s_FW_needed l D cs kf T (ch :: O) ((ch, .inr (0, [.ref y0, .int y1, .ref y2, .ref y3])) :: X) a0 w hw gw ch G v820 t_a0 t_w t_ch (hO.sub (by decide))) kw_1051 kw_1052 kw_1053 kw_1 kw_1054 (by decide +kernel) ⟨Nat.le_of_ble_eq_true rfl, Nat.le_of_ble_eq_true rfl⟩ (HT.recv (ci := 11) hkb hH t_a0 (hO.no t_a0 (by decide)) rfl) rfl rfl hl.1 (Nat.le_of_ble_eq_true rfl) dL_law_821 ⟨by show cells + 0 ≤ 600000; omega, by show slots + 0 ≤ 7302250; omega⟩) (fun v821 u H locs hz9 hH hS => ?_)
  obtain ⟨rfl, l_v821, u_v821⟩ := hz9
  have hH : HT D cs A T (ch :: O) ((ch, .inr (0, [.ref y0, .int y1, .ref y2, .ref y3])) :: X) H := hH
  refine W.widen (k := cells) (n := slots) (Nat.le_refl _) (Nat.le_refl _) ?_
  refine lv_pop hx hb dL_law_824 rfl ?_
  refine lv_aload_n hx hb dL_law_825 rfl (lv_at hl 2 rfl) ?_
  refine lv_aload_n hx hb dL_law_826 rfl (lv_at hl 0 rfl) ?_
  refine lv_iload_n hx hb dL_law_827 rfl (lv_at hl 3 rfl) ?_
  refine lv_iconst (v := 1) hx hb dL_law_828 (by decide) ?_
  refine lv_iadd hx hb dL_law_829 ?_
  refine lv_topi (fun v829 ev829 => ?_)
  have tv829 : v829.toInt = x3.toInt + (1) := by rw [ev829]; exact add_i rfl (by decide : (1 : Int32).toInt = 1) (by omega) (by omega)
  refine va_sld hx hb hX hbl hbA hS (in_t (by omega) (by omega)) dL_law_830 ?_
  refine lv_topi (fun v830 ev830 => ?_)
  refine tk_i hH hS hA (tr_V (n := 1) (As := [.int v830]) hx hb hml hown hts hkb hH (ox_map hOX rfl) hks hE hS hA (s_M_needed l D cs kf T (ch :: O) ((ch, .inr (0, [.ref y0, .int y1, .ref y2, .ref y3])) :: X) a1 hg G v830 t_a1 b_hg (hO.sub (by decide))) kw_1668 kw_1669 kw_1670 kw_13 kw_1671 (by decide +kernel) ⟨Nat.le_of_ble_eq_true rfl, Nat.le_of_ble_eq_true rfl⟩ (HT.recv (ci := 12) hkb hH t_a1 (hO.no t_a1 (by decide)) rfl) rfl rfl hl.1 (Nat.le_of_ble_eq_true rfl) dL_law_831 ⟨by show cells + 0 ≤ 600000; omega, by show slots + 0 ≤ 7302250; omega⟩) (fun v831 u H locs hz9 hH hS => ?_)
  obtain ⟨rfl, l_v831, u_v831⟩ := hz9
  have hH : HT D cs A T (ch :: O) ((ch, .inr (0, [.ref y0, .int y1, .ref y2, .ref y3])) :: X) H := hH
  refine W.widen (k := cells) (n := slots) (Nat.le_refl _) (Nat.le_refl _) ?_
  refine lv_pop hx hb dL_law_834 rfl ?_
  refine lv_goto (tgt := 1395) hx hb dL_law_835 (by decide) ?_
  exact kk T w hw gw hg G y0 nn j y1 _ _ _ _ _ hv hr.s hH hS (lv_sub hl [0, 1, 2, 3] rfl)
set_option maxHeartbeats 4000000 in
set_option maxRecDepth 100000 in
/-- idle -/
theorem lw_c22 {p : Program} {e : Env} {s : State} {m : MethodId} {below : List Frame} {meth : Method} {c : Code} {Q : State → Prop} (l : Launch) (D : va_G) (cs : CS) (kf : KF) {b L : Nat} {xs : Nat → Int32} (hx : p.tables.exec = Jvm.exec) (hb : c.code = code) (hml : c.maxLocals = 4) (hown : s.vm.findClass R_law = some m.cls) (hts : ∀ w ∈ gw, w.before #[Value.ref b] s = true) (hX : va_X b L xs s s.heap) (hbl : b < s.heap.size) (hkb : kb D (tyc cs) s) (hks : kS kf s) {A : Nat → Prop} (hE : kE kf A s s.heap) (hA : ∀ q, s.heap.size ≤ q → A q) (hbA : ¬ A b) (hL : L ≤ 3072) (O : List Nat) (X : va_W) (hOX0 : ∀ o ∈ O, ∃ (k : Nat) (e : va_E), X[k]? = some (o, e)) (hO9 : O = []) (a0 ch a1 y2 y3 : Nat) (T : TF) (w hw gw hg G y0 nn j : Nat) (y1 x3 : Int32) (n cells slots : Nat) (H : Heap) (locs : List Loc) (ls : Array Slot) (hv : LV T a0 a1 ch w hw gw hg G G y0 y2 y3 nn j y1) (hr : RM cells slots n j) (hn512 : n < 512) (l_x3 : 0 ≤ x3.toInt) (u_x3 : x3.toInt + 6 ≤ L) (hH : HT D cs A T (ch :: O) ((ch, .inr (0, [.ref y0, .int y1, .ref y2, .ref y3])) :: X) H) (hS : va_S A s.heap H locs) (hl : lv_has ls 4 [(0, .ref b), (1, .ref a0), (2, .ref a1), (3, .int x3)]) (kk : ∀ (T : TF) (w hw gw hg G y0 nn j : Nat) (y1 : Int32) (cells slots : Nat) (H : Heap) (locs : List Loc) (ls : Array Slot), LV T a0 a1 ch w hw gw hg G G y0 y2 y3 nn j y1 → RM cells slots (n + 1) j → HT D cs A T (ch :: O) ((ch, .inr (0, [.ref y0, .int y1, .ref y2, .ref y3])) :: X) H → va_S A s.heap H locs → lv_has ls 4 [(0, .ref b), (1, .ref a0), (2, .ref a1), (3, .int x3)] → W p l e room_1 s m #[Value.ref b] below meth c H locs cells slots Q (F0 m 1395 ls [])) : W p l e room_1 s m #[Value.ref b] below meth c H locs cells slots Q (F0 m 838 ls []) := by
  obtain ⟨t_a0, t_w, t_a1, b_hg, hU, hU1, t_ch, t_y0, l_y1, u_y1, t_y2, t_y3, hn, hj⟩ := id hv
  have hO := okc hO9 t_ch
  obtain ⟨hr1, hr2⟩ := id hr
  have hOX := ox_c (a := ch) (e0 := .inr (0, [.ref y0, .int y1, .ref y2, .ref y3])) hOX0
  have b1_w := t_w.2.1
  have b2_w := t_w.2.2
  refine lv_aload_n hx hb dL_law_838 rfl (lv_at hl 1 rfl) ?_
  refine lv_aload_n hx hb dL_law_839 rfl (lv_at hl 0 rfl) ?_
  refine lv_iload_n hx hb dL_law_840 rfl (lv_at hl 3 rfl) ?_
  refine lv_iconst (v := 1) hx hb dL_law_841 (by decide) ?_
  refine lv_iadd hx hb dL_law_842 ?_
  refine lv_topi (fun v842 ev842 => ?_)
  have tv842 : v842.toInt = x3.toInt + (1) := by rw [ev842]; exact add_i rfl (by decide : (1 : Int32).toInt = 1) (by omega) (by omega)
  refine va_sld hx hb hX hbl hbA hS (in_t (by omega) (by omega)) dL_law_843 ?_
  refine lv_topi (fun v843 ev843 => ?_)
  refine tk_iD hH hS hA (tr_VD (n := 1) (As := [.int v843]) hx hb hml hown hts hkb hH (ox_map hOX rfl) hks hE hS hA (s_FW_idle l D cs kf T O X a0 w hw gw ch G v843 y0 y1 y2 y3 nn j t_a0 t_w t_ch t_y0 (by omega) (by omega) t_y2 t_y3 hn hj (hO.sub (by decide))) kw_1063 kw_1064 kw_1065 kw_1 kw_1066 (by decide +kernel) ⟨Nat.le_of_ble_eq_true rfl, Nat.le_of_ble_eq_true rfl⟩ (HT.recv (ci := 11) hkb hH t_a0 (hO.no t_a0 (by decide)) rfl) rfl rfl hl.1 (Nat.le_of_ble_eq_true rfl) dL_law_844 ⟨by show cells + 1 ≤ 600000; omega, by show slots + 16384 ≤ 7302250; omega⟩) (fun v844 kc844 ks844 u H locs hz9 hH hS => ?_)
  obtain ⟨T844, le_T844, n2_844, j2_844, n844_0_0, n844_0_1, rfl, l_v844, u_v844, x_v8440, x_v8441, x_v8442, x_v8443, x_v8444, x_v8445, x_v8446, x_v8447, x_v8448, x_v8449, x_v84410⟩ := hz9
  have t_a0 := le_T844.1 _ _ t_a0
  have t_a1 := le_T844.1 _ _ t_a1
  have t_ch := le_T844.1 _ _ t_ch
  have t_y0 := le_T844.1 _ _ t_y0
  have t_y2 := le_T844.1 _ _ t_y2
  have t_y3 := le_T844.1 _ _ t_y3
  have t_w := isW.le le_T844.1 t_w
  have hO := okO.le le_T844.1 hO
  have t_n844_0_0 := x_v8440
  have hH : HT D cs A T844 (ch :: O) ((ch, .inr (0, [.ref n844_0_0, .int n844_0_1, .ref y2, .ref y3])) :: X) H := hH
  refine lv_pop hx hb dL_law_847 rfl ?_
  refine lv_aload_n hx hb dL_law_848 rfl (lv_at hl 2 rfl) ?_
  refine lv_aload_n hx hb dL_law_849 rfl (lv_at hl 0 rfl) ?_
  refine lv_iload_n hx hb dL_law_850 rfl (lv_at hl 3 rfl) ?_
  refine lv_iconst (v := 1) hx hb dL_law_851 (by decide) ?_
  refine lv_iadd hx hb dL_law_852 ?_
  refine lv_topi (fun v852 ev852 => ?_)
  have tv852 : v852.toInt = x3.toInt + (1) := by rw [ev852]; exact add_i rfl (by decide : (1 : Int32).toInt = 1) (by omega) (by omega)
  refine va_sld hx hb hX hbl hbA hS (in_t (by omega) (by omega)) dL_law_853 ?_
  refine lv_topi (fun v853 ev853 => ?_)
  refine tk_i hH hS hA (tr_V (n := 1) (As := [.int v853]) hx hb hml hown hts hkb hH (ox_map hOX rfl) hks hE hS hA (s_M_idle l D cs kf T844 (ch :: O) ((ch, .inr (0, [.ref n844_0_0, .int n844_0_1, .ref y2, .ref y3])) :: X) a1 hg G v853 t_a1 b_hg (hO.sub (by decide))) kw_1688 kw_1689 kw_1690 kw_13 kw_1691 (by decide +kernel) ⟨Nat.le_of_ble_eq_true rfl, Nat.le_of_ble_eq_true rfl⟩ (HT.recv (ci := 12) hkb hH t_a1 (hO.no t_a1 (by decide)) rfl) rfl rfl hl.1 (Nat.le_of_ble_eq_true rfl) dL_law_854 ⟨by show (cells + kc844) + 0 ≤ 600000; omega, by show (slots + ks844) + 0 ≤ 7302250; omega⟩) (fun v854 u H locs hz9 hH hS => ?_)
  obtain ⟨rfl, l_v854, u_v854⟩ := hz9
  have hH : HT D cs A T844 (ch :: O) ((ch, .inr (0, [.ref n844_0_0, .int n844_0_1, .ref y2, .ref y3])) :: X) H := hH
  refine W.widen (k := cells + kc844) (n := slots + ks844) (Nat.le_refl _) (Nat.le_refl _) ?_
  refine lv_pop hx hb dL_law_857 rfl ?_
  refine lv_goto (tgt := 1395) hx hb dL_law_858 (by decide) ?_
  exact kk T844 w hw gw hg G n844_0_0 n2_844 j2_844 n844_0_1 _ _ _ _ _ (hv.gr le_T844 x_v8440 x_v8441 x_v8443 x_v8444 x_v8445) (hr.d x_v8447 x_v8448) hH hS (lv_sub hl [0, 1, 2, 3] rfl)
set_option maxHeartbeats 4000000 in
set_option maxRecDepth 100000 in
/-- able -/
theorem lw_c23 {p : Program} {e : Env} {s : State} {m : MethodId} {below : List Frame} {meth : Method} {c : Code} {Q : State → Prop} (l : Launch) (D : va_G) (cs : CS) (kf : KF) {b L : Nat} {xs : Nat → Int32} (hx : p.tables.exec = Jvm.exec) (hb : c.code = code) (hml : c.maxLocals = 4) (hown : s.vm.findClass R_law = some m.cls) (hts : ∀ w ∈ gw, w.before #[Value.ref b] s = true) (hX : va_X b L xs s s.heap) (hbl : b < s.heap.size) (hkb : kb D (tyc cs) s) (hks : kS kf s) {A : Nat → Prop} (hE : kE kf A s s.heap) (hA : ∀ q, s.heap.size ≤ q → A q) (hbA : ¬ A b) (hL : L ≤ 3072) (O : List Nat) (X : va_W) (hOX0 : ∀ o ∈ O, ∃ (k : Nat) (e : va_E), X[k]? = some (o, e)) (hO9 : O = []) (a0 ch a1 y2 y3 : Nat) (T : TF) (w hw gw hg G y0 nn j : Nat) (y1 x3 : Int32) (n cells slots : Nat) (H : Heap) (locs : List Loc) (ls : Array Slot) (hv : LV T a0 a1 ch w hw gw hg G G y0 y2 y3 nn j y1) (hr : RM cells slots n j) (hn512 : n < 512) (l_x3 : 0 ≤ x3.toInt) (u_x3 : x3.toInt + 6 ≤ L) (hH : HT D cs A T (ch :: O) ((ch, .inr (0, [.ref y0, .int y1, .ref y2, .ref y3])) :: X) H) (hS : va_S A s.heap H locs) (hl : lv_has ls 4 [(0, .ref b), (1, .ref a0), (2, .ref a1), (3, .int x3)]) (kk : ∀ (T : TF) (w hw gw hg G y0 nn j : Nat) (y1 : Int32) (cells slots : Nat) (H : Heap) (locs : List Loc) (ls : Array Slot), LV T a0 a1 ch w hw gw hg G G y0 y2 y3 nn j y1 → RM cells slots (n + 1) j → HT D cs A T (ch :: O) ((ch, .inr (0, [.ref y0, .int y1, .ref y2, .ref y3])) :: X) H → va_S A s.heap H locs → lv_has ls 4 [(0, .ref b), (1, .ref a0), (2, .ref a1), (3, .int x3)] → W p l e room_1 s m #[Value.ref b] below meth c H locs cells slots Q (F0 m 1395 ls [])) : W p l e room_1 s m #[Value.ref b] below meth c H locs cells slots Q (F0 m 861 ls []) := by
  obtain ⟨t_a0, t_w, t_a1, b_hg, hU, hU1, t_ch, t_y0, l_y1, u_y1, t_y2, t_y3, hn, hj⟩ := id hv
  have hO := okc hO9 t_ch
  obtain ⟨hr1, hr2⟩ := id hr
  have hOX := ox_c (a := ch) (e0 := .inr (0, [.ref y0, .int y1, .ref y2, .ref y3])) hOX0
  have b1_w := t_w.2.1
  have b2_w := t_w.2.2
  refine lv_aload_n hx hb dL_law_861 rfl (lv_at hl 1 rfl) ?_
  refine tk_i hH hS hA (tr_V (n := 0) (As := []) hx hb hml hown hts hkb hH (ox_map hOX rfl) hks hE hS hA (s_FW_able l D cs kf T (ch :: O) ((ch, .inr (0, [.ref y0, .int y1, .ref y2, .ref y3])) :: X) a0 w hw gw ch G t_a0 t_w t_ch (hO.sub (by decide))) kw_1093 kw_1094 kw_1095 kw_1 kw_1096 (by decide +kernel) ⟨Nat.le_of_ble_eq_true rfl, Nat.le_of_ble_eq_true rfl⟩ (HT.recv (ci := 11) hkb hH t_a0 (hO.no t_a0 (by decide)) rfl) rfl rfl hl.1 (Nat.le_of_ble_eq_true rfl) dL_law_862 ⟨by show cells + 0 ≤ 600000; omega, by show slots + 0 ≤ 7302250; omega⟩) (fun v862 u H locs hz9 hH hS => ?_)
  obtain ⟨rfl, l_v862, u_v862⟩ := hz9
  have hH : HT D cs A T (ch :: O) ((ch, .inr (0, [.ref y0, .int y1, .ref y2, .ref y3])) :: X) H := hH
  refine W.widen (k := cells) (n := slots) (Nat.le_refl _) (Nat.le_refl _) ?_
  refine lv_pop hx hb dL_law_865 rfl ?_
  refine lv_aload_n hx hb dL_law_866 rfl (lv_at hl 2 rfl) ?_
  refine tk_i hH hS hA (tr_V (n := 0) (As := []) hx hb hml hown hts hkb hH (ox_map hOX rfl) hks hE hS hA (s_M_able l D cs kf T (ch :: O) ((ch, .inr (0, [.ref y0, .int y1, .ref y2, .ref y3])) :: X) a1 hg G t_a1 b_hg (hO.sub (by decide))) kw_1692 kw_1693 kw_1694 kw_13 kw_1695 (by decide +kernel) ⟨Nat.le_of_ble_eq_true rfl, Nat.le_of_ble_eq_true rfl⟩ (HT.recv (ci := 12) hkb hH t_a1 (hO.no t_a1 (by decide)) rfl) rfl rfl hl.1 (Nat.le_of_ble_eq_true rfl) dL_law_867 ⟨by show cells + 0 ≤ 600000; omega, by show slots + 0 ≤ 7302250; omega⟩) (fun v867 u H locs hz9 hH hS => ?_)
  obtain ⟨rfl, l_v867, u_v867⟩ := hz9
  have hH : HT D cs A T (ch :: O) ((ch, .inr (0, [.ref y0, .int y1, .ref y2, .ref y3])) :: X) H := hH
  refine W.widen (k := cells) (n := slots) (Nat.le_refl _) (Nat.le_refl _) ?_
  refine lv_pop hx hb dL_law_870 rfl ?_
  refine lv_goto (tgt := 1395) hx hb dL_law_871 (by decide) ?_
  exact kk T w hw gw hg G y0 nn j y1 _ _ _ _ _ hv hr.s hH hS (lv_sub hl [0, 1, 2, 3] rfl)
set_option maxHeartbeats 4000000 in
set_option maxRecDepth 100000 in
/-- needers -/
theorem lw_c24 {p : Program} {e : Env} {s : State} {m : MethodId} {below : List Frame} {meth : Method} {c : Code} {Q : State → Prop} (l : Launch) (D : va_G) (cs : CS) (kf : KF) {b L : Nat} {xs : Nat → Int32} (hx : p.tables.exec = Jvm.exec) (hb : c.code = code) (hml : c.maxLocals = 4) (hown : s.vm.findClass R_law = some m.cls) (hts : ∀ w ∈ gw, w.before #[Value.ref b] s = true) (hX : va_X b L xs s s.heap) (hbl : b < s.heap.size) (hkb : kb D (tyc cs) s) (hks : kS kf s) {A : Nat → Prop} (hE : kE kf A s s.heap) (hA : ∀ q, s.heap.size ≤ q → A q) (hbA : ¬ A b) (hL : L ≤ 3072) (O : List Nat) (X : va_W) (hOX0 : ∀ o ∈ O, ∃ (k : Nat) (e : va_E), X[k]? = some (o, e)) (hO9 : O = []) (a0 ch a1 y2 y3 : Nat) (T : TF) (w hw gw hg G y0 nn j : Nat) (y1 x3 : Int32) (n cells slots : Nat) (H : Heap) (locs : List Loc) (ls : Array Slot) (hv : LV T a0 a1 ch w hw gw hg G G y0 y2 y3 nn j y1) (hr : RM cells slots n j) (hn512 : n < 512) (l_x3 : 0 ≤ x3.toInt) (u_x3 : x3.toInt + 6 ≤ L) (hH : HT D cs A T (ch :: O) ((ch, .inr (0, [.ref y0, .int y1, .ref y2, .ref y3])) :: X) H) (hS : va_S A s.heap H locs) (hl : lv_has ls 4 [(0, .ref b), (1, .ref a0), (2, .ref a1), (3, .int x3)]) (kk : ∀ (T : TF) (w hw gw hg G y0 nn j : Nat) (y1 : Int32) (cells slots : Nat) (H : Heap) (locs : List Loc) (ls : Array Slot), LV T a0 a1 ch w hw gw hg G G y0 y2 y3 nn j y1 → RM cells slots (n + 1) j → HT D cs A T (ch :: O) ((ch, .inr (0, [.ref y0, .int y1, .ref y2, .ref y3])) :: X) H → va_S A s.heap H locs → lv_has ls 4 [(0, .ref b), (1, .ref a0), (2, .ref a1), (3, .int x3)] → W p l e room_1 s m #[Value.ref b] below meth c H locs cells slots Q (F0 m 1395 ls [])) : W p l e room_1 s m #[Value.ref b] below meth c H locs cells slots Q (F0 m 874 ls []) := by
  obtain ⟨t_a0, t_w, t_a1, b_hg, hU, hU1, t_ch, t_y0, l_y1, u_y1, t_y2, t_y3, hn, hj⟩ := id hv
  have hO := okc hO9 t_ch
  obtain ⟨hr1, hr2⟩ := id hr
  have hOX := ox_c (a := ch) (e0 := .inr (0, [.ref y0, .int y1, .ref y2, .ref y3])) hOX0
  have b1_w := t_w.2.1
  have b2_w := t_w.2.2
  refine lv_aload_n hx hb dL_law_874 rfl (lv_at hl 1 rfl) ?_
  refine lv_aload_n hx hb dL_law_875 rfl (lv_at hl 0 rfl) ?_
  refine lv_iload_n hx hb dL_law_876 rfl (lv_at hl 3 rfl) ?_
  refine lv_iconst (v := 1) hx hb dL_law_877 (by decide) ?_
  refine lv_iadd hx hb dL_law_878 ?_
  refine lv_topi (fun v878 ev878 => ?_)
  have tv878 : v878.toInt = x3.toInt + (1) := by rw [ev878]; exact add_i rfl (by decide : (1 : Int32).toInt = 1) (by omega) (by omega)
  refine va_sld hx hb hX hbl hbA hS (in_t (by omega) (by omega)) dL_law_879 ?_
  refine lv_topi (fun v879 ev879 => ?_)
  refine tk_i hH hS hA (tr_V (n := 1) (As := [.int v879]) hx hb hml hown hts hkb hH (ox_map hOX rfl) hks hE hS hA (s_FW_needers l D cs kf T (ch :: O) ((ch, .inr (0, [.ref y0, .int y1, .ref y2, .ref y3])) :: X) a0 w hw gw ch G v879 t_a0 t_w t_ch (hO.sub (by decide))) kw_1097 kw_1098 kw_1099 kw_1 kw_1100 (by decide +kernel) ⟨Nat.le_of_ble_eq_true rfl, Nat.le_of_ble_eq_true rfl⟩ (HT.recv (ci := 11) hkb hH t_a0 (hO.no t_a0 (by decide)) rfl) rfl rfl hl.1 (Nat.le_of_ble_eq_true rfl) dL_law_880 ⟨by show cells + 0 ≤ 600000; omega, by show slots + 0 ≤ 7302250; omega⟩) (fun v880 u H locs hz9 hH hS => ?_)
  obtain ⟨rfl, l_v880, u_v880⟩ := hz9
  have hH : HT D cs A T (ch :: O) ((ch, .inr (0, [.ref y0, .int y1, .ref y2, .ref y3])) :: X) H := hH
  refine W.widen (k := cells) (n := slots) (Nat.le_refl _) (Nat.le_refl _) ?_
  refine lv_pop hx hb dL_law_883 rfl ?_
  refine lv_aload_n hx hb dL_law_884 rfl (lv_at hl 2 rfl) ?_
  refine lv_aload_n hx hb dL_law_885 rfl (lv_at hl 0 rfl) ?_
  refine lv_iload_n hx hb dL_law_886 rfl (lv_at hl 3 rfl) ?_
  refine lv_iconst (v := 1) hx hb dL_law_887 (by decide) ?_
  refine lv_iadd hx hb dL_law_888 ?_
  refine lv_topi (fun v888 ev888 => ?_)
  have tv888 : v888.toInt = x3.toInt + (1) := by rw [ev888]; exact add_i rfl (by decide : (1 : Int32).toInt = 1) (by omega) (by omega)
  refine va_sld hx hb hX hbl hbA hS (in_t (by omega) (by omega)) dL_law_889 ?_
  refine lv_topi (fun v889 ev889 => ?_)
  refine tk_i hH hS hA (tr_V (n := 1) (As := [.int v889]) hx hb hml hown hts hkb hH (ox_map hOX rfl) hks hE hS hA (s_M_needers l D cs kf T (ch :: O) ((ch, .inr (0, [.ref y0, .int y1, .ref y2, .ref y3])) :: X) a1 hg G v889 t_a1 b_hg (hO.sub (by decide))) kw_1676 kw_1677 kw_1678 kw_13 kw_1679 (by decide +kernel) ⟨Nat.le_of_ble_eq_true rfl, Nat.le_of_ble_eq_true rfl⟩ (HT.recv (ci := 12) hkb hH t_a1 (hO.no t_a1 (by decide)) rfl) rfl rfl hl.1 (Nat.le_of_ble_eq_true rfl) dL_law_890 ⟨by show cells + 0 ≤ 600000; omega, by show slots + 0 ≤ 7302250; omega⟩) (fun v890 u H locs hz9 hH hS => ?_)
  obtain ⟨rfl, l_v890, u_v890⟩ := hz9
  have hH : HT D cs A T (ch :: O) ((ch, .inr (0, [.ref y0, .int y1, .ref y2, .ref y3])) :: X) H := hH
  refine W.widen (k := cells) (n := slots) (Nat.le_refl _) (Nat.le_refl _) ?_
  refine lv_pop hx hb dL_law_893 rfl ?_
  refine lv_goto (tgt := 1395) hx hb dL_law_894 (by decide) ?_
  exact kk T w hw gw hg G y0 nn j y1 _ _ _ _ _ hv hr.s hH hS (lv_sub hl [0, 1, 2, 3] rfl)
set_option maxHeartbeats 4000000 in
set_option maxRecDepth 100000 in
/-- highest -/
theorem lw_c25 {p : Program} {e : Env} {s : State} {m : MethodId} {below : List Frame} {meth : Method} {c : Code} {Q : State → Prop} (l : Launch) (D : va_G) (cs : CS) (kf : KF) {b L : Nat} {xs : Nat → Int32} (hx : p.tables.exec = Jvm.exec) (hb : c.code = code) (hml : c.maxLocals = 4) (hown : s.vm.findClass R_law = some m.cls) (hts : ∀ w ∈ gw, w.before #[Value.ref b] s = true) (hX : va_X b L xs s s.heap) (hbl : b < s.heap.size) (hkb : kb D (tyc cs) s) (hks : kS kf s) {A : Nat → Prop} (hE : kE kf A s s.heap) (hA : ∀ q, s.heap.size ≤ q → A q) (hbA : ¬ A b) (hL : L ≤ 3072) (O : List Nat) (X : va_W) (hOX0 : ∀ o ∈ O, ∃ (k : Nat) (e : va_E), X[k]? = some (o, e)) (hO9 : O = []) (a0 ch a1 y2 y3 : Nat) (T : TF) (w hw gw hg G y0 nn j : Nat) (y1 x3 : Int32) (n cells slots : Nat) (H : Heap) (locs : List Loc) (ls : Array Slot) (hv : LV T a0 a1 ch w hw gw hg G G y0 y2 y3 nn j y1) (hr : RM cells slots n j) (hn512 : n < 512) (l_x3 : 0 ≤ x3.toInt) (u_x3 : x3.toInt + 6 ≤ L) (hH : HT D cs A T (ch :: O) ((ch, .inr (0, [.ref y0, .int y1, .ref y2, .ref y3])) :: X) H) (hS : va_S A s.heap H locs) (hl : lv_has ls 4 [(0, .ref b), (1, .ref a0), (2, .ref a1), (3, .int x3)]) (kk : ∀ (T : TF) (w hw gw hg G y0 nn j : Nat) (y1 : Int32) (cells slots : Nat) (H : Heap) (locs : List Loc) (ls : Array Slot), LV T a0 a1 ch w hw gw hg G G y0 y2 y3 nn j y1 → RM cells slots (n + 1) j → HT D cs A T (ch :: O) ((ch, .inr (0, [.ref y0, .int y1, .ref y2, .ref y3])) :: X) H → va_S A s.heap H locs → lv_has ls 4 [(0, .ref b), (1, .ref a0), (2, .ref a1), (3, .int x3)] → W p l e room_1 s m #[Value.ref b] below meth c H locs cells slots Q (F0 m 1395 ls [])) : W p l e room_1 s m #[Value.ref b] below meth c H locs cells slots Q (F0 m 897 ls []) := by
  obtain ⟨t_a0, t_w, t_a1, b_hg, hU, hU1, t_ch, t_y0, l_y1, u_y1, t_y2, t_y3, hn, hj⟩ := id hv
  have hO := okc hO9 t_ch
  obtain ⟨hr1, hr2⟩ := id hr
  have hOX := ox_c (a := ch) (e0 := .inr (0, [.ref y0, .int y1, .ref y2, .ref y3])) hOX0
  have b1_w := t_w.2.1
  have b2_w := t_w.2.2
  refine lv_aload_n hx hb dL_law_897 rfl (lv_at hl 1 rfl) ?_
  refine lv_aload_n hx hb dL_law_898 rfl (lv_at hl 0 rfl) ?_
  refine lv_iload_n hx hb dL_law_899 rfl (lv_at hl 3 rfl) ?_
  refine lv_iconst (v := 1) hx hb dL_law_900 (by decide) ?_
  refine lv_iadd hx hb dL_law_901 ?_
  refine lv_topi (fun v901 ev901 => ?_)
  have tv901 : v901.toInt = x3.toInt + (1) := by rw [ev901]; exact add_i rfl (by decide : (1 : Int32).toInt = 1) (by omega) (by omega)
  refine va_sld hx hb hX hbl hbA hS (in_t (by omega) (by omega)) dL_law_902 ?_
  refine lv_topi (fun v902 ev902 => ?_)
  refine tk_i hH hS hA (tr_V (n := 1) (As := [.int v902]) hx hb hml hown hts hkb hH (ox_map hOX rfl) hks hE hS hA (s_FW_highest l D cs kf T (ch :: O) ((ch, .inr (0, [.ref y0, .int y1, .ref y2, .ref y3])) :: X) a0 w hw gw ch G v902 t_a0 t_w t_ch (hO.sub (by decide))) kw_1101 kw_1102 kw_1103 kw_1 kw_1104 (by decide +kernel) ⟨Nat.le_of_ble_eq_true rfl, Nat.le_of_ble_eq_true rfl⟩ (HT.recv (ci := 11) hkb hH t_a0 (hO.no t_a0 (by decide)) rfl) rfl rfl hl.1 (Nat.le_of_ble_eq_true rfl) dL_law_903 ⟨by show cells + 0 ≤ 600000; omega, by show slots + 0 ≤ 7302250; omega⟩) (fun v903 u H locs hz9 hH hS => ?_)
  obtain ⟨rfl, l_v903⟩ := hz9
  have hH : HT D cs A T (ch :: O) ((ch, .inr (0, [.ref y0, .int y1, .ref y2, .ref y3])) :: X) H := hH
  refine W.widen (k := cells) (n := slots) (Nat.le_refl _) (Nat.le_refl _) ?_
  refine lv_pop hx hb dL_law_906 rfl ?_
  refine lv_aload_n hx hb dL_law_907 rfl (lv_at hl 2 rfl) ?_
  refine lv_aload_n hx hb dL_law_908 rfl (lv_at hl 0 rfl) ?_
  refine lv_iload_n hx hb dL_law_909 rfl (lv_at hl 3 rfl) ?_
  refine lv_iconst (v := 1) hx hb dL_law_910 (by decide) ?_
  refine lv_iadd hx hb dL_law_911 ?_
  refine lv_topi (fun v911 ev911 => ?_)
  have tv911 : v911.toInt = x3.toInt + (1) := by rw [ev911]; exact add_i rfl (by decide : (1 : Int32).toInt = 1) (by omega) (by omega)
  refine va_sld hx hb hX hbl hbA hS (in_t (by omega) (by omega)) dL_law_912 ?_
  refine lv_topi (fun v912 ev912 => ?_)
  refine tk_i hH hS hA (tr_V (n := 1) (As := [.int v912]) hx hb hml hown hts hkb hH (ox_map hOX rfl) hks hE hS hA (s_M_highest l D cs kf T (ch :: O) ((ch, .inr (0, [.ref y0, .int y1, .ref y2, .ref y3])) :: X) a1 hg G v912 t_a1 b_hg (hO.sub (by decide))) kw_1680 kw_1681 kw_1682 kw_13 kw_1683 (by decide +kernel) ⟨Nat.le_of_ble_eq_true rfl, Nat.le_of_ble_eq_true rfl⟩ (HT.recv (ci := 12) hkb hH t_a1 (hO.no t_a1 (by decide)) rfl) rfl rfl hl.1 (Nat.le_of_ble_eq_true rfl) dL_law_913 ⟨by show cells + 0 ≤ 600000; omega, by show slots + 0 ≤ 7302250; omega⟩) (fun v913 u H locs hz9 hH hS => ?_)
  have hz9 : u = (T, ch :: O, (ch, .inr (0, [.ref y0, .int y1, .ref y2, .ref y3])) :: X) := hz9
  subst hz9
  have hH : HT D cs A T (ch :: O) ((ch, .inr (0, [.ref y0, .int y1, .ref y2, .ref y3])) :: X) H := hH
  refine W.widen (k := cells) (n := slots) (Nat.le_refl _) (Nat.le_refl _) ?_
  refine lv_pop hx hb dL_law_916 rfl ?_
  refine lv_goto (tgt := 1395) hx hb dL_law_917 (by decide) ?_
  exact kk T w hw gw hg G y0 nn j y1 _ _ _ _ _ hv hr.s hH hS (lv_sub hl [0, 1, 2, 3] rfl)
set_option maxHeartbeats 4000000 in
set_option maxRecDepth 100000 in
/-- together -/
theorem lw_c26 {p : Program} {e : Env} {s : State} {m : MethodId} {below : List Frame} {meth : Method} {c : Code} {Q : State → Prop} (l : Launch) (D : va_G) (cs : CS) (kf : KF) {b L : Nat} {xs : Nat → Int32} (hx : p.tables.exec = Jvm.exec) (hb : c.code = code) (hml : c.maxLocals = 4) (hown : s.vm.findClass R_law = some m.cls) (hts : ∀ w ∈ gw, w.before #[Value.ref b] s = true) (hX : va_X b L xs s s.heap) (hbl : b < s.heap.size) (hkb : kb D (tyc cs) s) (hks : kS kf s) {A : Nat → Prop} (hE : kE kf A s s.heap) (hA : ∀ q, s.heap.size ≤ q → A q) (hbA : ¬ A b) (hL : L ≤ 3072) (O : List Nat) (X : va_W) (hOX0 : ∀ o ∈ O, ∃ (k : Nat) (e : va_E), X[k]? = some (o, e)) (hO9 : O = []) (a0 ch a1 y2 y3 : Nat) (T : TF) (w hw gw hg G y0 nn j : Nat) (y1 x3 : Int32) (n cells slots : Nat) (H : Heap) (locs : List Loc) (ls : Array Slot) (hv : LV T a0 a1 ch w hw gw hg G G y0 y2 y3 nn j y1) (hr : RM cells slots n j) (hn512 : n < 512) (l_x3 : 0 ≤ x3.toInt) (u_x3 : x3.toInt + 6 ≤ L) (hH : HT D cs A T (ch :: O) ((ch, .inr (0, [.ref y0, .int y1, .ref y2, .ref y3])) :: X) H) (hS : va_S A s.heap H locs) (hl : lv_has ls 4 [(0, .ref b), (1, .ref a0), (2, .ref a1), (3, .int x3)]) (kk : ∀ (T : TF) (w hw gw hg G y0 nn j : Nat) (y1 : Int32) (cells slots : Nat) (H : Heap) (locs : List Loc) (ls : Array Slot), LV T a0 a1 ch w hw gw hg G G y0 y2 y3 nn j y1 → RM cells slots (n + 1) j → HT D cs A T (ch :: O) ((ch, .inr (0, [.ref y0, .int y1, .ref y2, .ref y3])) :: X) H → va_S A s.heap H locs → lv_has ls 4 [(0, .ref b), (1, .ref a0), (2, .ref a1), (3, .int x3)] → W p l e room_1 s m #[Value.ref b] below meth c H locs cells slots Q (F0 m 1395 ls [])) : W p l e room_1 s m #[Value.ref b] below meth c H locs cells slots Q (F0 m 920 ls []) := by
  obtain ⟨t_a0, t_w, t_a1, b_hg, hU, hU1, t_ch, t_y0, l_y1, u_y1, t_y2, t_y3, hn, hj⟩ := id hv
  have hO := okc hO9 t_ch
  obtain ⟨hr1, hr2⟩ := id hr
  have hOX := ox_c (a := ch) (e0 := .inr (0, [.ref y0, .int y1, .ref y2, .ref y3])) hOX0
  have b1_w := t_w.2.1
  have b2_w := t_w.2.2
  refine lv_aload_n hx hb dL_law_920 rfl (lv_at hl 1 rfl) ?_
  refine lv_aload_n hx hb dL_law_921 rfl (lv_at hl 0 rfl) ?_
  refine lv_iload_n hx hb dL_law_922 rfl (lv_at hl 3 rfl) ?_
  refine lv_iconst (v := 1) hx hb dL_law_923 (by decide) ?_
  refine lv_iadd hx hb dL_law_924 ?_
  refine lv_topi (fun v924 ev924 => ?_)
  have tv924 : v924.toInt = x3.toInt + (1) := by rw [ev924]; exact add_i rfl (by decide : (1 : Int32).toInt = 1) (by omega) (by omega)
  refine va_sld hx hb hX hbl hbA hS (in_t (by omega) (by omega)) dL_law_925 ?_
  refine lv_topi (fun v925 ev925 => ?_)
  refine lv_aload_n hx hb dL_law_926 rfl (lv_at hl 0 rfl) ?_
  refine lv_iload_n hx hb dL_law_927 rfl (lv_at hl 3 rfl) ?_
  refine lv_iconst (v := 2) hx hb dL_law_928 (by decide) ?_
  refine lv_iadd hx hb dL_law_929 ?_
  refine lv_topi (fun v929 ev929 => ?_)
  have tv929 : v929.toInt = x3.toInt + (2) := by rw [ev929]; exact add_i rfl (by decide : (2 : Int32).toInt = 2) (by omega) (by omega)
  refine va_sld hx hb hX hbl hbA hS (in_t (by omega) (by omega)) dL_law_930 ?_
  refine lv_topi (fun v930 ev930 => ?_)
  refine tk_i hH hS hA (tr_V (n := 2) (As := [.int v925, .int v930]) hx hb hml hown hts hkb hH (ox_map hOX rfl) hks hE hS hA (s_FW_together l D cs kf T (ch :: O) ((ch, .inr (0, [.ref y0, .int y1, .ref y2, .ref y3])) :: X) a0 w hw gw ch G v925 v930 t_a0 t_w t_ch (hO.sub (by decide))) kw_1106 kw_1107 kw_1108 kw_1 kw_1109 (by decide +kernel) ⟨Nat.le_of_ble_eq_true rfl, Nat.le_of_ble_eq_true rfl⟩ (HT.recv (ci := 11) hkb hH t_a0 (hO.no t_a0 (by decide)) rfl) rfl rfl hl.1 (Nat.le_of_ble_eq_true rfl) dL_law_931 ⟨by show cells + 0 ≤ 600000; omega, by show slots + 0 ≤ 7302250; omega⟩) (fun v931 u H locs hz9 hH hS => ?_)
  obtain ⟨rfl, l_v931, u_v931⟩ := hz9
  have hH : HT D cs A T (ch :: O) ((ch, .inr (0, [.ref y0, .int y1, .ref y2, .ref y3])) :: X) H := hH
  refine W.widen (k := cells) (n := slots) (Nat.le_refl _) (Nat.le_refl _) ?_
  refine lv_pop hx hb dL_law_934 rfl ?_
  refine lv_aload_n hx hb dL_law_935 rfl (lv_at hl 2 rfl) ?_
  refine lv_aload_n hx hb dL_law_936 rfl (lv_at hl 0 rfl) ?_
  refine lv_iload_n hx hb dL_law_937 rfl (lv_at hl 3 rfl) ?_
  refine lv_iconst (v := 1) hx hb dL_law_938 (by decide) ?_
  refine lv_iadd hx hb dL_law_939 ?_
  refine lv_topi (fun v939 ev939 => ?_)
  have tv939 : v939.toInt = x3.toInt + (1) := by rw [ev939]; exact add_i rfl (by decide : (1 : Int32).toInt = 1) (by omega) (by omega)
  refine va_sld hx hb hX hbl hbA hS (in_t (by omega) (by omega)) dL_law_940 ?_
  refine lv_topi (fun v940 ev940 => ?_)
  refine lv_aload_n hx hb dL_law_941 rfl (lv_at hl 0 rfl) ?_
  refine lv_iload_n hx hb dL_law_942 rfl (lv_at hl 3 rfl) ?_
  refine lv_iconst (v := 2) hx hb dL_law_943 (by decide) ?_
  refine lv_iadd hx hb dL_law_944 ?_
  refine lv_topi (fun v944 ev944 => ?_)
  have tv944 : v944.toInt = x3.toInt + (2) := by rw [ev944]; exact add_i rfl (by decide : (2 : Int32).toInt = 2) (by omega) (by omega)
  refine va_sld hx hb hX hbl hbA hS (in_t (by omega) (by omega)) dL_law_945 ?_
  refine lv_topi (fun v945 ev945 => ?_)
  refine tk_i hH hS hA (tr_V (n := 2) (As := [.int v940, .int v945]) hx hb hml hown hts hkb hH (ox_map hOX rfl) hks hE hS hA (s_M_together l D cs kf T (ch :: O) ((ch, .inr (0, [.ref y0, .int y1, .ref y2, .ref y3])) :: X) a1 hg G v940 v945 t_a1 b_hg (hO.sub (by decide))) kw_1684 kw_1685 kw_1686 kw_13 kw_1687 (by decide +kernel) ⟨Nat.le_of_ble_eq_true rfl, Nat.le_of_ble_eq_true rfl⟩ (HT.recv (ci := 12) hkb hH t_a1 (hO.no t_a1 (by decide)) rfl) rfl rfl hl.1 (Nat.le_of_ble_eq_true rfl) dL_law_946 ⟨by show cells + 0 ≤ 600000; omega, by show slots + 0 ≤ 7302250; omega⟩) (fun v946 u H locs hz9 hH hS => ?_)
  obtain ⟨rfl, l_v946, u_v946⟩ := hz9
  have hH : HT D cs A T (ch :: O) ((ch, .inr (0, [.ref y0, .int y1, .ref y2, .ref y3])) :: X) H := hH
  refine W.widen (k := cells) (n := slots) (Nat.le_refl _) (Nat.le_refl _) ?_
  refine lv_pop hx hb dL_law_949 rfl ?_
  refine lv_goto (tgt := 1395) hx hb dL_law_950 (by decide) ?_
  exact kk T w hw gw hg G y0 nn j y1 _ _ _ _ _ hv hr.s hH hS (lv_sub hl [0, 1, 2, 3] rfl)
set_option maxHeartbeats 4000000 in
set_option maxRecDepth 100000 in
/-- leastLeg -/
theorem lw_c27 {p : Program} {e : Env} {s : State} {m : MethodId} {below : List Frame} {meth : Method} {c : Code} {Q : State → Prop} (l : Launch) (D : va_G) (cs : CS) (kf : KF) {b L : Nat} {xs : Nat → Int32} (hx : p.tables.exec = Jvm.exec) (hb : c.code = code) (hml : c.maxLocals = 4) (hown : s.vm.findClass R_law = some m.cls) (hts : ∀ w ∈ gw, w.before #[Value.ref b] s = true) (hX : va_X b L xs s s.heap) (hbl : b < s.heap.size) (hkb : kb D (tyc cs) s) (hks : kS kf s) {A : Nat → Prop} (hE : kE kf A s s.heap) (hA : ∀ q, s.heap.size ≤ q → A q) (hbA : ¬ A b) (hL : L ≤ 3072) (O : List Nat) (X : va_W) (hOX0 : ∀ o ∈ O, ∃ (k : Nat) (e : va_E), X[k]? = some (o, e)) (hO9 : O = []) (a0 ch a1 y2 y3 : Nat) (T : TF) (w hw gw hg G y0 nn j : Nat) (y1 x3 : Int32) (n cells slots : Nat) (H : Heap) (locs : List Loc) (ls : Array Slot) (hv : LV T a0 a1 ch w hw gw hg G G y0 y2 y3 nn j y1) (hr : RM cells slots n j) (hn512 : n < 512) (l_x3 : 0 ≤ x3.toInt) (u_x3 : x3.toInt + 6 ≤ L) (hH : HT D cs A T (ch :: O) ((ch, .inr (0, [.ref y0, .int y1, .ref y2, .ref y3])) :: X) H) (hS : va_S A s.heap H locs) (hl : lv_has ls 4 [(0, .ref b), (1, .ref a0), (2, .ref a1), (3, .int x3)]) (kk : ∀ (T : TF) (w hw gw hg G y0 nn j : Nat) (y1 : Int32) (cells slots : Nat) (H : Heap) (locs : List Loc) (ls : Array Slot), LV T a0 a1 ch w hw gw hg G G y0 y2 y3 nn j y1 → RM cells slots (n + 1) j → HT D cs A T (ch :: O) ((ch, .inr (0, [.ref y0, .int y1, .ref y2, .ref y3])) :: X) H → va_S A s.heap H locs → lv_has ls 4 [(0, .ref b), (1, .ref a0), (2, .ref a1), (3, .int x3)] → W p l e room_1 s m #[Value.ref b] below meth c H locs cells slots Q (F0 m 1395 ls [])) : W p l e room_1 s m #[Value.ref b] below meth c H locs cells slots Q (F0 m 953 ls []) := by
  obtain ⟨t_a0, t_w, t_a1, b_hg, hU, hU1, t_ch, t_y0, l_y1, u_y1, t_y2, t_y3, hn, hj⟩ := id hv
  have hO := okc hO9 t_ch
  obtain ⟨hr1, hr2⟩ := id hr
  have hOX := ox_c (a := ch) (e0 := .inr (0, [.ref y0, .int y1, .ref y2, .ref y3])) hOX0
  have b1_w := t_w.2.1
  have b2_w := t_w.2.2
  refine lv_aload_n hx hb dL_law_953 rfl (lv_at hl 1 rfl) ?_
  refine lv_aload_n hx hb dL_law_954 rfl (lv_at hl 0 rfl) ?_
  refine lv_iload_n hx hb dL_law_955 rfl (lv_at hl 3 rfl) ?_
  refine lv_iconst (v := 1) hx hb dL_law_956 (by decide) ?_
  refine lv_iadd hx hb dL_law_957 ?_
  refine lv_topi (fun v957 ev957 => ?_)
  have tv957 : v957.toInt = x3.toInt + (1) := by rw [ev957]; exact add_i rfl (by decide : (1 : Int32).toInt = 1) (by omega) (by omega)
  refine va_sld hx hb hX hbl hbA hS (in_t (by omega) (by omega)) dL_law_958 ?_
  refine lv_topi (fun v958 ev958 => ?_)
  refine tk_i hH hS hA (tr_V (n := 1) (As := [.int v958]) hx hb hml hown hts hkb hH (ox_map hOX rfl) hks hE hS hA (s_FW_leastLeg l D cs kf T (ch :: O) ((ch, .inr (0, [.ref y0, .int y1, .ref y2, .ref y3])) :: X) a0 w hw gw ch G v958 t_a0 t_w t_ch (hO.sub (by decide))) kw_1110 kw_1111 kw_1112 kw_1 kw_1113 (by decide +kernel) ⟨Nat.le_of_ble_eq_true rfl, Nat.le_of_ble_eq_true rfl⟩ (HT.recv (ci := 11) hkb hH t_a0 (hO.no t_a0 (by decide)) rfl) rfl rfl hl.1 (Nat.le_of_ble_eq_true rfl) dL_law_959 ⟨by show cells + 0 ≤ 600000; omega, by show slots + 0 ≤ 7302250; omega⟩) (fun v959 u H locs hz9 hH hS => ?_)
  obtain ⟨rfl, l_v959, u_v959⟩ := hz9
  have hH : HT D cs A T (ch :: O) ((ch, .inr (0, [.ref y0, .int y1, .ref y2, .ref y3])) :: X) H := hH
  refine W.widen (k := cells) (n := slots) (Nat.le_refl _) (Nat.le_refl _) ?_
  refine lv_pop hx hb dL_law_962 rfl ?_
  refine lv_aload_n hx hb dL_law_963 rfl (lv_at hl 2 rfl) ?_
  refine lv_aload_n hx hb dL_law_964 rfl (lv_at hl 0 rfl) ?_
  refine lv_iload_n hx hb dL_law_965 rfl (lv_at hl 3 rfl) ?_
  refine lv_iconst (v := 1) hx hb dL_law_966 (by decide) ?_
  refine lv_iadd hx hb dL_law_967 ?_
  refine lv_topi (fun v967 ev967 => ?_)
  have tv967 : v967.toInt = x3.toInt + (1) := by rw [ev967]; exact add_i rfl (by decide : (1 : Int32).toInt = 1) (by omega) (by omega)
  refine va_sld hx hb hX hbl hbA hS (in_t (by omega) (by omega)) dL_law_968 ?_
  refine lv_topi (fun v968 ev968 => ?_)
  refine tk_i hH hS hA (tr_V (n := 1) (As := [.int v968]) hx hb hml hown hts hkb hH (ox_map hOX rfl) hks hE hS hA (s_M_leastLeg l D cs kf T (ch :: O) ((ch, .inr (0, [.ref y0, .int y1, .ref y2, .ref y3])) :: X) a1 hg G v968 t_a1 b_hg (hO.sub (by decide))) kw_1696 kw_1697 kw_1698 kw_13 kw_1699 (by decide +kernel) ⟨Nat.le_of_ble_eq_true rfl, Nat.le_of_ble_eq_true rfl⟩ (HT.recv (ci := 12) hkb hH t_a1 (hO.no t_a1 (by decide)) rfl) rfl rfl hl.1 (Nat.le_of_ble_eq_true rfl) dL_law_969 ⟨by show cells + 0 ≤ 600000; omega, by show slots + 0 ≤ 7302250; omega⟩) (fun v969 u H locs hz9 hH hS => ?_)
  obtain ⟨rfl, l_v969, u_v969⟩ := hz9
  have hH : HT D cs A T (ch :: O) ((ch, .inr (0, [.ref y0, .int y1, .ref y2, .ref y3])) :: X) H := hH
  refine W.widen (k := cells) (n := slots) (Nat.le_refl _) (Nat.le_refl _) ?_
  refine lv_pop hx hb dL_law_972 rfl ?_
  refine lv_goto (tgt := 1395) hx hb dL_law_973 (by decide) ?_
  exact kk T w hw gw hg G y0 nn j y1 _ _ _ _ _ hv hr.s hH hS (lv_sub hl [0, 1, 2, 3] rfl)
set_option maxHeartbeats 4000000 in
set_option maxRecDepth 100000 in
/-- opens -/
theorem lw_c28 {p : Program} {e : Env} {s : State} {m : MethodId} {below : List Frame} {meth : Method} {c : Code} {Q : State → Prop} (l : Launch) (D : va_G) (cs : CS) (kf : KF) {b L : Nat} {xs : Nat → Int32} (hx : p.tables.exec = Jvm.exec) (hb : c.code = code) (hml : c.maxLocals = 4) (hown : s.vm.findClass R_law = some m.cls) (hts : ∀ w ∈ gw, w.before #[Value.ref b] s = true) (hX : va_X b L xs s s.heap) (hbl : b < s.heap.size) (hkb : kb D (tyc cs) s) (hks : kS kf s) {A : Nat → Prop} (hE : kE kf A s s.heap) (hA : ∀ q, s.heap.size ≤ q → A q) (hbA : ¬ A b) (hL : L ≤ 3072) (O : List Nat) (X : va_W) (hOX0 : ∀ o ∈ O, ∃ (k : Nat) (e : va_E), X[k]? = some (o, e)) (hO9 : O = []) (a0 ch a1 y2 y3 : Nat) (T : TF) (w hw gw hg G y0 nn j : Nat) (y1 x3 : Int32) (n cells slots : Nat) (H : Heap) (locs : List Loc) (ls : Array Slot) (hv : LV T a0 a1 ch w hw gw hg G G y0 y2 y3 nn j y1) (hr : RM cells slots n j) (hn512 : n < 512) (l_x3 : 0 ≤ x3.toInt) (u_x3 : x3.toInt + 6 ≤ L) (hH : HT D cs A T (ch :: O) ((ch, .inr (0, [.ref y0, .int y1, .ref y2, .ref y3])) :: X) H) (hS : va_S A s.heap H locs) (hl : lv_has ls 4 [(0, .ref b), (1, .ref a0), (2, .ref a1), (3, .int x3)]) (kk : ∀ (T : TF) (w hw gw hg G y0 nn j : Nat) (y1 : Int32) (cells slots : Nat) (H : Heap) (locs : List Loc) (ls : Array Slot), LV T a0 a1 ch w hw gw hg G G y0 y2 y3 nn j y1 → RM cells slots (n + 1) j → HT D cs A T (ch :: O) ((ch, .inr (0, [.ref y0, .int y1, .ref y2, .ref y3])) :: X) H → va_S A s.heap H locs → lv_has ls 4 [(0, .ref b), (1, .ref a0), (2, .ref a1), (3, .int x3)] → W p l e room_1 s m #[Value.ref b] below meth c H locs cells slots Q (F0 m 1395 ls [])) : W p l e room_1 s m #[Value.ref b] below meth c H locs cells slots Q (F0 m 976 ls []) := by
  obtain ⟨t_a0, t_w, t_a1, b_hg, hU, hU1, t_ch, t_y0, l_y1, u_y1, t_y2, t_y3, hn, hj⟩ := id hv
  have hO := okc hO9 t_ch
  obtain ⟨hr1, hr2⟩ := id hr
  have hOX := ox_c (a := ch) (e0 := .inr (0, [.ref y0, .int y1, .ref y2, .ref y3])) hOX0
  have b1_w := t_w.2.1
  have b2_w := t_w.2.2
  refine lv_aload_n hx hb dL_law_976 rfl (lv_at hl 1 rfl) ?_
  refine lv_aload_n hx hb dL_law_977 rfl (lv_at hl 0 rfl) ?_
  refine lv_iload_n hx hb dL_law_978 rfl (lv_at hl 3 rfl) ?_
  refine lv_iconst (v := 1) hx hb dL_law_979 (by decide) ?_
  refine lv_iadd hx hb dL_law_980 ?_
  refine lv_topi (fun v980 ev980 => ?_)
  have tv980 : v980.toInt = x3.toInt + (1) := by rw [ev980]; exact add_i rfl (by decide : (1 : Int32).toInt = 1) (by omega) (by omega)
  refine va_sld hx hb hX hbl hbA hS (in_t (by omega) (by omega)) dL_law_981 ?_
  refine lv_topi (fun v981 ev981 => ?_)
  refine tk_i hH hS hA (tr_V (n := 1) (As := [.int v981]) hx hb hml hown hts hkb hH (ox_map hOX rfl) hks hE hS hA (s_FW_opens l D cs kf T (ch :: O) ((ch, .inr (0, [.ref y0, .int y1, .ref y2, .ref y3])) :: X) a0 w hw gw ch G v981 t_a0 t_w t_ch (hO.sub (by decide))) kw_1114 kw_1115 kw_1116 kw_1 kw_1117 (by decide +kernel) ⟨Nat.le_of_ble_eq_true rfl, Nat.le_of_ble_eq_true rfl⟩ (HT.recv (ci := 11) hkb hH t_a0 (hO.no t_a0 (by decide)) rfl) rfl rfl hl.1 (Nat.le_of_ble_eq_true rfl) dL_law_982 ⟨by show cells + 0 ≤ 600000; omega, by show slots + 0 ≤ 7302250; omega⟩) (fun v982 u H locs hz9 hH hS => ?_)
  have hz9 : u = (T, ch :: O, (ch, .inr (0, [.ref y0, .int y1, .ref y2, .ref y3])) :: X) := hz9
  subst hz9
  have hH : HT D cs A T (ch :: O) ((ch, .inr (0, [.ref y0, .int y1, .ref y2, .ref y3])) :: X) H := hH
  refine W.widen (k := cells) (n := slots) (Nat.le_refl _) (Nat.le_refl _) ?_
  refine lv_pop hx hb dL_law_985 rfl ?_
  refine lv_aload_n hx hb dL_law_986 rfl (lv_at hl 2 rfl) ?_
  refine lv_aload_n hx hb dL_law_987 rfl (lv_at hl 0 rfl) ?_
  refine lv_iload_n hx hb dL_law_988 rfl (lv_at hl 3 rfl) ?_
  refine lv_iconst (v := 1) hx hb dL_law_989 (by decide) ?_
  refine lv_iadd hx hb dL_law_990 ?_
  refine lv_topi (fun v990 ev990 => ?_)
  have tv990 : v990.toInt = x3.toInt + (1) := by rw [ev990]; exact add_i rfl (by decide : (1 : Int32).toInt = 1) (by omega) (by omega)
  refine va_sld hx hb hX hbl hbA hS (in_t (by omega) (by omega)) dL_law_991 ?_
  refine lv_topi (fun v991 ev991 => ?_)
  refine tk_i hH hS hA (tr_V (n := 1) (As := [.int v991]) hx hb hml hown hts hkb hH (ox_map hOX rfl) hks hE hS hA (s_M_opens l D cs kf T (ch :: O) ((ch, .inr (0, [.ref y0, .int y1, .ref y2, .ref y3])) :: X) a1 hg G v991 t_a1 b_hg (hO.sub (by decide))) kw_1700 kw_1701 kw_1702 kw_13 kw_1703 (by decide +kernel) ⟨Nat.le_of_ble_eq_true rfl, Nat.le_of_ble_eq_true rfl⟩ (HT.recv (ci := 12) hkb hH t_a1 (hO.no t_a1 (by decide)) rfl) rfl rfl hl.1 (Nat.le_of_ble_eq_true rfl) dL_law_992 ⟨by show cells + 0 ≤ 600000; omega, by show slots + 0 ≤ 7302250; omega⟩) (fun v992 u H locs hz9 hH hS => ?_)
  have hz9 : u = (T, ch :: O, (ch, .inr (0, [.ref y0, .int y1, .ref y2, .ref y3])) :: X) := hz9
  subst hz9
  have hH : HT D cs A T (ch :: O) ((ch, .inr (0, [.ref y0, .int y1, .ref y2, .ref y3])) :: X) H := hH
  refine W.widen (k := cells) (n := slots) (Nat.le_refl _) (Nat.le_refl _) ?_
  refine lv_pop hx hb dL_law_995 rfl ?_
  refine lv_goto (tgt := 1395) hx hb dL_law_996 (by decide) ?_
  exact kk T w hw gw hg G y0 nn j y1 _ _ _ _ _ hv hr.s hH hS (lv_sub hl [0, 1, 2, 3] rfl)
set_option maxHeartbeats 4000000 in
set_option maxRecDepth 100000 in
/-- dearest -/
theorem lw_c29 {p : Program} {e : Env} {s : State} {m : MethodId} {below : List Frame} {meth : Method} {c : Code} {Q : State → Prop} (l : Launch) (D : va_G) (cs : CS) (kf : KF) {b L : Nat} {xs : Nat → Int32} (hx : p.tables.exec = Jvm.exec) (hb : c.code = code) (hml : c.maxLocals = 4) (hown : s.vm.findClass R_law = some m.cls) (hts : ∀ w ∈ gw, w.before #[Value.ref b] s = true) (hX : va_X b L xs s s.heap) (hbl : b < s.heap.size) (hkb : kb D (tyc cs) s) (hks : kS kf s) {A : Nat → Prop} (hE : kE kf A s s.heap) (hA : ∀ q, s.heap.size ≤ q → A q) (hbA : ¬ A b) (hL : L ≤ 3072) (O : List Nat) (X : va_W) (hOX0 : ∀ o ∈ O, ∃ (k : Nat) (e : va_E), X[k]? = some (o, e)) (hO9 : O = []) (a0 ch a1 y2 y3 : Nat) (T : TF) (w hw gw hg G y0 nn j : Nat) (y1 x3 : Int32) (n cells slots : Nat) (H : Heap) (locs : List Loc) (ls : Array Slot) (hv : LV T a0 a1 ch w hw gw hg G G y0 y2 y3 nn j y1) (hr : RM cells slots n j) (hn512 : n < 512) (l_x3 : 0 ≤ x3.toInt) (u_x3 : x3.toInt + 6 ≤ L) (hH : HT D cs A T (ch :: O) ((ch, .inr (0, [.ref y0, .int y1, .ref y2, .ref y3])) :: X) H) (hS : va_S A s.heap H locs) (hl : lv_has ls 4 [(0, .ref b), (1, .ref a0), (2, .ref a1), (3, .int x3)]) (kk : ∀ (T : TF) (w hw gw hg G y0 nn j : Nat) (y1 : Int32) (cells slots : Nat) (H : Heap) (locs : List Loc) (ls : Array Slot), LV T a0 a1 ch w hw gw hg G G y0 y2 y3 nn j y1 → RM cells slots (n + 1) j → HT D cs A T (ch :: O) ((ch, .inr (0, [.ref y0, .int y1, .ref y2, .ref y3])) :: X) H → va_S A s.heap H locs → lv_has ls 4 [(0, .ref b), (1, .ref a0), (2, .ref a1), (3, .int x3)] → W p l e room_1 s m #[Value.ref b] below meth c H locs cells slots Q (F0 m 1395 ls [])) : W p l e room_1 s m #[Value.ref b] below meth c H locs cells slots Q (F0 m 999 ls []) := by
  obtain ⟨t_a0, t_w, t_a1, b_hg, hU, hU1, t_ch, t_y0, l_y1, u_y1, t_y2, t_y3, hn, hj⟩ := id hv
  have hO := okc hO9 t_ch
  obtain ⟨hr1, hr2⟩ := id hr
  have hOX := ox_c (a := ch) (e0 := .inr (0, [.ref y0, .int y1, .ref y2, .ref y3])) hOX0
  have b1_w := t_w.2.1
  have b2_w := t_w.2.2
  refine lv_aload_n hx hb dL_law_999 rfl (lv_at hl 1 rfl) ?_
  refine lv_aload_n hx hb dL_law_1000 rfl (lv_at hl 0 rfl) ?_
  refine lv_iload_n hx hb dL_law_1001 rfl (lv_at hl 3 rfl) ?_
  refine lv_iconst (v := 1) hx hb dL_law_1002 (by decide) ?_
  refine lv_iadd hx hb dL_law_1003 ?_
  refine lv_topi (fun v1003 ev1003 => ?_)
  have tv1003 : v1003.toInt = x3.toInt + (1) := by rw [ev1003]; exact add_i rfl (by decide : (1 : Int32).toInt = 1) (by omega) (by omega)
  refine va_sld hx hb hX hbl hbA hS (in_t (by omega) (by omega)) dL_law_1004 ?_
  refine lv_topi (fun v1004 ev1004 => ?_)
  refine tk_i hH hS hA (tr_V (n := 1) (As := [.int v1004]) hx hb hml hown hts hkb hH (ox_map hOX rfl) hks hE hS hA (s_FW_dearest l D cs kf T (ch :: O) ((ch, .inr (0, [.ref y0, .int y1, .ref y2, .ref y3])) :: X) a0 w hw gw ch G v1004 t_a0 t_w t_ch (hO.sub (by decide))) kw_1119 kw_1120 kw_1121 kw_1 kw_1122 (by decide +kernel) ⟨Nat.le_of_ble_eq_true rfl, Nat.le_of_ble_eq_true rfl⟩ (HT.recv (ci := 11) hkb hH t_a0 (hO.no t_a0 (by decide)) rfl) rfl rfl hl.1 (Nat.le_of_ble_eq_true rfl) dL_law_1005 ⟨by show cells + 0 ≤ 600000; omega, by show slots + 0 ≤ 7302250; omega⟩) (fun v1005 u H locs hz9 hH hS => ?_)
  obtain ⟨rfl, l_v1005, u_v1005⟩ := hz9
  have hH : HT D cs A T (ch :: O) ((ch, .inr (0, [.ref y0, .int y1, .ref y2, .ref y3])) :: X) H := hH
  refine W.widen (k := cells) (n := slots) (Nat.le_refl _) (Nat.le_refl _) ?_
  refine lv_pop hx hb dL_law_1008 rfl ?_
  refine lv_aload_n hx hb dL_law_1009 rfl (lv_at hl 2 rfl) ?_
  refine lv_aload_n hx hb dL_law_1010 rfl (lv_at hl 0 rfl) ?_
  refine lv_iload_n hx hb dL_law_1011 rfl (lv_at hl 3 rfl) ?_
  refine lv_iconst (v := 1) hx hb dL_law_1012 (by decide) ?_
  refine lv_iadd hx hb dL_law_1013 ?_
  refine lv_topi (fun v1013 ev1013 => ?_)
  have tv1013 : v1013.toInt = x3.toInt + (1) := by rw [ev1013]; exact add_i rfl (by decide : (1 : Int32).toInt = 1) (by omega) (by omega)
  refine va_sld hx hb hX hbl hbA hS (in_t (by omega) (by omega)) dL_law_1014 ?_
  refine lv_topi (fun v1014 ev1014 => ?_)
  refine tk_i hH hS hA (tr_V (n := 1) (As := [.int v1014]) hx hb hml hown hts hkb hH (ox_map hOX rfl) hks hE hS hA (s_M_dearest l D cs kf T (ch :: O) ((ch, .inr (0, [.ref y0, .int y1, .ref y2, .ref y3])) :: X) a1 hg G v1014 t_a1 b_hg (hO.sub (by decide))) kw_1712 kw_1713 kw_1714 kw_13 kw_1715 (by decide +kernel) ⟨Nat.le_of_ble_eq_true rfl, Nat.le_of_ble_eq_true rfl⟩ (HT.recv (ci := 12) hkb hH t_a1 (hO.no t_a1 (by decide)) rfl) rfl rfl hl.1 (Nat.le_of_ble_eq_true rfl) dL_law_1015 ⟨by show cells + 0 ≤ 600000; omega, by show slots + 0 ≤ 7302250; omega⟩) (fun v1015 u H locs hz9 hH hS => ?_)
  obtain ⟨rfl, l_v1015, u_v1015⟩ := hz9
  have hH : HT D cs A T (ch :: O) ((ch, .inr (0, [.ref y0, .int y1, .ref y2, .ref y3])) :: X) H := hH
  refine W.widen (k := cells) (n := slots) (Nat.le_refl _) (Nat.le_refl _) ?_
  refine lv_pop hx hb dL_law_1018 rfl ?_
  refine lv_goto (tgt := 1395) hx hb dL_law_1019 (by decide) ?_
  exact kk T w hw gw hg G y0 nn j y1 _ _ _ _ _ hv hr.s hH hS (lv_sub hl [0, 1, 2, 3] rfl)
