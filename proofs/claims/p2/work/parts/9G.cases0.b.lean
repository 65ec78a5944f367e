set_option maxHeartbeats 4000000 in
set_option maxRecDepth 100000 in
/-- feed -/
theorem lw_c0 {p : Program} {e : Env} {s : State} {m : MethodId} {below : List Frame} {meth : Method} {c : Code} {Q : State → Prop} (l : Launch) (D : va_G) (cs : CS) (kf : KF) {b L : Nat} {xs : Nat → Int32} (hx : p.tables.exec = Jvm.exec) (hb : c.code = code) (hml : c.maxLocals = 4) (hown : s.vm.findClass R_law = some m.cls) (hts : ∀ w ∈ gw, w.before #[Value.ref b] s = true) (hX : va_X b L xs s s.heap) (hbl : b < s.heap.size) (hkb : kb D (tyc cs) s) (hks : kS kf s) {A : Nat → Prop} (hE : kE kf A s s.heap) (hA : ∀ q, s.heap.size ≤ q → A q) (hbA : ¬ A b) (hL : L ≤ 3072) (O : List Nat) (X : va_W) (hOX0 : ∀ o ∈ O, ∃ (k : Nat) (e : va_E), X[k]? = some (o, e)) (hO9 : O = []) (a0 ch a1 y2 y3 : Nat) (T : TF) (w hw gw hg G y0 nn j : Nat) (y1 x3 : Int32) (n cells slots : Nat) (H : Heap) (locs : List Loc) (ls : Array Slot) (hv : LV T a0 a1 ch w hw gw hg G G y0 y2 y3 nn j y1) (hr : RM cells slots n j) (hn512 : n < 512) (l_x3 : 0 ≤ x3.toInt) (u_x3 : x3.toInt + 6 ≤ L) (hH : HT D cs A T (ch :: O) ((ch, .inr (0, [.ref y0, .int y1, .ref y2, .ref y3])) :: X) H) (hS : va_S A s.heap H locs) (hl : lv_has ls 4 [(0, .ref b), (1, .ref a0), (2, .ref a1), (3, .int x3)]) (kk : ∀ (T : TF) (w hw gw hg G y0 nn j : Nat) (y1 : Int32) (cells slots : Nat) (H : Heap) (locs : List Loc) (ls : Array Slot), LV T a0 a1 ch w hw gw hg G G y0 y2 y3 nn j y1 → RM cells slots (n + 1) j → HT D cs A T (ch :: O) ((ch, .inr (0, [.ref y0, .int y1, .ref y2, .ref y3])) :: X) H → va_S A s.heap H locs → lv_has ls 4 [(0, .ref b), (1, .ref a0), (2, .ref a1), (3, .int x3)] → W p l e room_1 s m #[Value.ref b] below meth c H locs cells slots Q (F0 m 1395 ls [])) : W p l e room_1 s m #[Value.ref b] below meth c H locs cells slots Q (F0 m 212 ls []) := by
  obtain ⟨t_a0, t_w, t_a1, b_hg, hU, hU1, t_ch, t_y0, l_y1, u_y1, t_y2, t_y3, hn, hj⟩ := id hv
  have hO := okc hO9 t_ch
  obtain ⟨hr1, hr2⟩ := id hr
  have hOX := ox_c (a := ch) (e0 := .inr (0, [.ref y0, .int y1, .ref y2, .ref y3])) hOX0
  have b1_w := t_w.2.1
  have b2_w := t_w.2.2
  refine lv_aload_n hx hb dL_law_212 rfl (lv_at hl 1 rfl) ?_
  refine lv_aload_n hx hb dL_law_213 rfl (lv_at hl 0 rfl) ?_
  refine lv_iload_n hx hb dL_law_214 rfl (lv_at hl 3 rfl) ?_
  refine lv_iconst (v := 1) hx hb dL_law_215 (by decide) ?_
  refine lv_iadd hx hb dL_law_216 ?_
  refine lv_topi (fun v216 ev216 => ?_)
  have tv216 : v216.toInt = x3.toInt + (1) := by rw [ev216]; exact add_i rfl (by decide : (1 : Int32).toInt = 1) (by omega) (by omega)
  refine va_sld hx hb hX hbl hbA hS (in_t (by omega) (by omega)) dL_law_217 ?_
  refine lv_topi (fun v217 ev217 => ?_)
  refine lv_aload_n hx hb dL_law_218 rfl (lv_at hl 0 rfl) ?_
  refine lv_iload_n hx hb dL_law_219 rfl (lv_at hl 3 rfl) ?_
  refine lv_iconst (v := 2) hx hb dL_law_220 (by decide) ?_
  refine lv_iadd hx hb dL_law_221 ?_
  refine lv_topi (fun v221 ev221 => ?_)
  have tv221 : v221.toInt = x3.toInt + (2) := by rw [ev221]; exact add_i rfl (by decide : (2 : Int32).toInt = 2) (by omega) (by omega)
  refine va_sld hx hb hX hbl hbA hS (in_t (by omega) (by omega)) dL_law_222 ?_
  refine lv_topi (fun v222 ev222 => ?_)
  refine lv_aload_n hx hb dL_law_223 rfl (lv_at hl 0 rfl) ?_
  refine lv_iload_n hx hb dL_law_224 rfl (lv_at hl 3 rfl) ?_
  refine lv_iconst (v := 3) hx hb dL_law_225 (by decide) ?_
  refine lv_iadd hx hb dL_law_226 ?_
  refine lv_topi (fun v226 ev226 => ?_)
  have tv226 : v226.toInt = x3.toInt + (3) := by rw [ev226]; exact add_i rfl (by decide : (3 : Int32).toInt = 3) (by omega) (by omega)
  refine va_sld hx hb hX hbl hbA hS (in_t (by omega) (by omega)) dL_law_227 ?_
  refine lv_topi (fun v227 ev227 => ?_)
  refine lv_aload_n hx hb dL_law_228 rfl (lv_at hl 0 rfl) ?_
  refine lv_iload_n hx hb dL_law_229 rfl (lv_at hl 3 rfl) ?_
  refine lv_iconst (v := 4) hx hb dL_law_230 (by decide) ?_
  refine lv_iadd hx hb dL_law_231 ?_
  refine lv_topi (fun v231 ev231 => ?_)
  have tv231 : v231.toInt = x3.toInt + (4) := by rw [ev231]; exact add_i rfl (by decide : (4 : Int32).toInt = 4) (by omega) (by omega)
  refine va_sld hx hb hX hbl hbA hS (in_t (by omega) (by omega)) dL_law_232 ?_
  refine lv_topi (fun v232 ev232 => ?_)
  refine lv_aload_n hx hb dL_law_233 rfl (lv_at hl 0 rfl) ?_
  refine lv_iload_n hx hb dL_law_234 rfl (lv_at hl 3 rfl) ?_
  refine lv_iconst (v := 5) hx hb dL_law_235 (by decide) ?_
  refine lv_iadd hx hb dL_law_236 ?_
  refine lv_topi (fun v236 ev236 => ?_)
  have tv236 : v236.toInt = x3.toInt + (5) := by rw [ev236]; exact add_i rfl (by decide : (5 : Int32).toInt = 5) (by omega) (by omega)
  refine va_sld hx hb hX hbl hbA hS (in_t (by omega) (by omega)) dL_law_237 ?_
  refine lv_topi (fun v237 ev237 => ?_)
  refine tk_i hH hS hA (tr_V (n := 5) (As := [.int v217, .int v222, .int v227, .int v232, .int v237]) hx hb hml hown hts hkb hH (ox_map hOX rfl) hks hE hS hA (s_FW_feed l D cs kf T (ch :: O) ((ch, .inr (0, [.ref y0, .int y1, .ref y2, .ref y3])) :: X) a0 w hw gw ch G v217 v222 v227 v232 v237 t_a0 t_w t_ch hU1 List.mem_cons_self (hO.sub (by decide))) kw_421 kw_422 kw_423 kw_1 kw_424 (by decide +kernel) ⟨Nat.le_of_ble_eq_true rfl, Nat.le_of_ble_eq_true rfl⟩ (HT.recv (ci := 11) hkb hH t_a0 (hO.no t_a0 (by decide)) rfl) rfl rfl hl.1 (Nat.le_of_ble_eq_true rfl) dL_law_238 ⟨by show cells + 0 ≤ 600000; omega, by show slots + 0 ≤ 7302250; omega⟩) (fun v238 u H locs hz9 hH hS => ?_)
  obtain ⟨T2_238, gq2_238, rfl, l_v238, u_v238, x_v2380, x_v2381, x_v2382⟩ := hz9
  have hv := hv.gc x_v2380 x_v2381
  obtain ⟨t_a0, t_w, t_a1, b_hg, hU, hU1, t_ch, t_y0, l_y1, u_y1, t_y2, t_y3, hn, hj⟩ := id hv
  have hO := okc hO9 t_ch
  have hH : HT D cs A T2_238 (ch :: O) ((ch, .inr (0, [.ref y0, .int y1, .ref y2, .ref y3])) :: X) H := hH
  refine W.widen (k := cells) (n := slots) (Nat.le_refl _) (Nat.le_refl _) ?_
  refine lv_aload_n hx hb dL_law_241 rfl (lv_at hl 2 rfl) ?_
  refine lv_aload_n hx hb dL_law_242 rfl (lv_at hl 0 rfl) ?_
  refine lv_iload_n hx hb dL_law_243 rfl (lv_at hl 3 rfl) ?_
  refine lv_iconst (v := 1) hx hb dL_law_244 (by decide) ?_
  refine lv_iadd hx hb dL_law_245 ?_
  refine lv_topi (fun v245 ev245 => ?_)
  have tv245 : v245.toInt = x3.toInt + (1) := by rw [ev245]; exact add_i rfl (by decide : (1 : Int32).toInt = 1) (by omega) (by omega)
  refine va_sld hx hb hX hbl hbA hS (in_t (by omega) (by omega)) dL_law_246 ?_
  refine lv_topi (fun v246 ev246 => ?_)
  refine lv_aload_n hx hb dL_law_247 rfl (lv_at hl 0 rfl) ?_
  refine lv_iload_n hx hb dL_law_248 rfl (lv_at hl 3 rfl) ?_
  refine lv_iconst (v := 2) hx hb dL_law_249 (by decide) ?_
  refine lv_iadd hx hb dL_law_250 ?_
  refine lv_topi (fun v250 ev250 => ?_)
  have tv250 : v250.toInt = x3.toInt + (2) := by rw [ev250]; exact add_i rfl (by decide : (2 : Int32).toInt = 2) (by omega) (by omega)
  refine va_sld hx hb hX hbl hbA hS (in_t (by omega) (by omega)) dL_law_251 ?_
  refine lv_topi (fun v251 ev251 => ?_)
  refine lv_aload_n hx hb dL_law_252 rfl (lv_at hl 0 rfl) ?_
  refine lv_iload_n hx hb dL_law_253 rfl (lv_at hl 3 rfl) ?_
  refine lv_iconst (v := 3) hx hb dL_law_254 (by decide) ?_
  refine lv_iadd hx hb dL_law_255 ?_
  refine lv_topi (fun v255 ev255 => ?_)
  have tv255 : v255.toInt = x3.toInt + (3) := by rw [ev255]; exact add_i rfl (by decide : (3 : Int32).toInt = 3) (by omega) (by omega)
  refine va_sld hx hb hX hbl hbA hS (in_t (by omega) (by omega)) dL_law_256 ?_
  refine lv_topi (fun v256 ev256 => ?_)
  refine lv_aload_n hx hb dL_law_257 rfl (lv_at hl 0 rfl) ?_
  refine lv_iload_n hx hb dL_law_258 rfl (lv_at hl 3 rfl) ?_
  refine lv_iconst (v := 4) hx hb dL_law_259 (by decide) ?_
  refine lv_iadd hx hb dL_law_260 ?_
  refine lv_topi (fun v260 ev260 => ?_)
  have tv260 : v260.toInt = x3.toInt + (4) := by rw [ev260]; exact add_i rfl (by decide : (4 : Int32).toInt = 4) (by omega) (by omega)
  refine va_sld hx hb hX hbl hbA hS (in_t (by omega) (by omega)) dL_law_261 ?_
  refine lv_topi (fun v261 ev261 => ?_)
  refine lv_aload_n hx hb dL_law_262 rfl (lv_at hl 0 rfl) ?_
  refine lv_iload_n hx hb dL_law_263 rfl (lv_at hl 3 rfl) ?_
  refine lv_iconst (v := 5) hx hb dL_law_264 (by decide) ?_
  refine lv_iadd hx hb dL_law_265 ?_
  refine lv_topi (fun v265 ev265 => ?_)
  have tv265 : v265.toInt = x3.toInt + (5) := by rw [ev265]; exact add_i rfl (by decide : (5 : Int32).toInt = 5) (by omega) (by omega)
  refine va_sld hx hb hX hbl hbA hS (in_t (by omega) (by omega)) dL_law_266 ?_
  refine lv_topi (fun v266 ev266 => ?_)
  refine tk_i hH hS hA (tr_V (n := 5) (As := [.int v246, .int v251, .int v256, .int v261, .int v266]) hx hb hml hown hts hkb hH (ox_map hOX rfl) hks hE hS hA (s_M_feed l D cs kf T2_238 (ch :: O) ((ch, .inr (0, [.ref y0, .int y1, .ref y2, .ref y3])) :: X) a1 hg G v246 v251 v256 v261 v266 t_a1 b_hg hU (hO.sub (by decide))) kw_1333 kw_1334 kw_1335 kw_13 kw_1336 (by decide +kernel) ⟨Nat.le_of_ble_eq_true rfl, Nat.le_of_ble_eq_true rfl⟩ (HT.recv (ci := 12) hkb hH t_a1 (hO.no t_a1 (by decide)) rfl) rfl rfl hl.1 (Nat.le_of_ble_eq_true rfl) dL_law_267 ⟨by show cells + 0 ≤ 600000; omega, by show slots + 0 ≤ 7302250; omega⟩) (fun v267 u H locs hz9 hH hS => ?_)
  obtain ⟨T2_267, mq2_267, rfl, l_v267, u_v267, x_v2670, x_v2671, x_v2672⟩ := hz9
  have hv := hv.rm x_v2670 x_v2671 b_hg
  obtain ⟨t_a0, t_w, t_a1, b_hg, hU, hU1, t_ch, t_y0, l_y1, u_y1, t_y2, t_y3, hn, hj⟩ := id hv
  have hO := okc hO9 t_ch
  have hH : HT D cs A T2_267 (ch :: O) ((ch, .inr (0, [.ref y0, .int y1, .ref y2, .ref y3])) :: X) H := hH
  refine W.widen (k := cells) (n := slots) (Nat.le_refl _) (Nat.le_refl _) ?_
  refine lv_icmp_eq (tgt := 1395) hx hb dL_law_270 (by decide) (fun _ => ?_) (fun q9 => absurd (FDF_eq x_v2382 x_v2672) q9)
  have qg9 := FDF_g x_v2382 x_v2672
  subst qg9
  exact kk T2_267 w hw gw hg gq2_238 y0 nn j y1 _ _ _ _ _ hv hr.s hH hS (lv_sub hl [0, 1, 2, 3] rfl)
set_option maxHeartbeats 4000000 in
set_option maxRecDepth 100000 in
/-- wall -/
theorem lw_c1 {p : Program} {e : Env} {s : State} {m : MethodId} {below : List Frame} {meth : Method} {c : Code} {Q : State → Prop} (l : Launch) (D : va_G) (cs : CS) (kf : KF) {b L : Nat} {xs : Nat → Int32} (hx : p.tables.exec = Jvm.exec) (hb : c.code = code) (hml : c.maxLocals = 4) (hown : s.vm.findClass R_law = some m.cls) (hts : ∀ w ∈ gw, w.before #[Value.ref b] s = true) (hX : va_X b L xs s s.heap) (hbl : b < s.heap.size) (hkb : kb D (tyc cs) s) (hks : kS kf s) {A : Nat → Prop} (hE : kE kf A s s.heap) (hA : ∀ q, s.heap.size ≤ q → A q) (hbA : ¬ A b) (hL : L ≤ 3072) (O : List Nat) (X : va_W) (hOX0 : ∀ o ∈ O, ∃ (k : Nat) (e : va_E), X[k]? = some (o, e)) (hO9 : O = []) (a0 ch a1 y2 y3 : Nat) (T : TF) (w hw gw hg G y0 nn j : Nat) (y1 x3 : Int32) (n cells slots : Nat) (H : Heap) (locs : List Loc) (ls : Array Slot) (hv : LV T a0 a1 ch w hw gw hg G G y0 y2 y3 nn j y1) (hr : RM cells slots n j) (hn512 : n < 512) (l_x3 : 0 ≤ x3.toInt) (u_x3 : x3.toInt + 6 ≤ L) (hH : HT D cs A T (ch :: O) ((ch, .inr (0, [.ref y0, .int y1, .ref y2, .ref y3])) :: X) H) (hS : va_S A s.heap H locs) (hl : lv_has ls 4 [(0, .ref b), (1, .ref a0), (2, .ref a1), (3, .int x3)]) (kk : ∀ (T : TF) (w hw gw hg G y0 nn j : Nat) (y1 : Int32) (cells slots : Nat) (H : Heap) (locs : List Loc) (ls : Array Slot), LV T a0 a1 ch w hw gw hg G G y0 y2 y3 nn j y1 → RM cells slots (n + 1) j → HT D cs A T (ch :: O) ((ch, .inr (0, [.ref y0, .int y1, .ref y2, .ref y3])) :: X) H → va_S A s.heap H locs → lv_has ls 4 [(0, .ref b), (1, .ref a0), (2, .ref a1), (3, .int x3)] → W p l e room_1 s m #[Value.ref b] below meth c H locs cells slots Q (F0 m 1395 ls [])) : W p l e room_1 s m #[Value.ref b] below meth c H locs cells slots Q (F0 m 275 ls []) := by
  obtain ⟨t_a0, t_w, t_a1, b_hg, hU, hU1, t_ch, t_y0, l_y1, u_y1, t_y2, t_y3, hn, hj⟩ := id hv
  have hO := okc hO9 t_ch
  obtain ⟨hr1, hr2⟩ := id hr
  have hOX := ox_c (a := ch) (e0 := .inr (0, [.ref y0, .int y1, .ref y2, .ref y3])) hOX0
  have b1_w := t_w.2.1
  have b2_w := t_w.2.2
  refine lv_aload_n hx hb dL_law_275 rfl (lv_at hl 1 rfl) ?_
  refine lv_aload_n hx hb dL_law_276 rfl (lv_at hl 0 rfl) ?_
  refine lv_iload_n hx hb dL_law_277 rfl (lv_at hl 3 rfl) ?_
  refine lv_iconst (v := 1) hx hb dL_law_278 (by decide) ?_
  refine lv_iadd hx hb dL_law_279 ?_
  refine lv_topi (fun v279 ev279 => ?_)
  have tv279 : v279.toInt = x3.toInt + (1) := by rw [ev279]; exact add_i rfl (by decide : (1 : Int32).toInt = 1) (by omega) (by omega)
  refine va_sld hx hb hX hbl hbA hS (in_t (by omega) (by omega)) dL_law_280 ?_
  refine lv_topi (fun v280 ev280 => ?_)
  refine tk_i hH hS hA (tr_V (n := 1) (As := [.int v280]) hx hb hml hown hts hkb hH (ox_map hOX rfl) hks hE hS hA (s_FW_wall l D cs kf T (ch :: O) ((ch, .inr (0, [.ref y0, .int y1, .ref y2, .ref y3])) :: X) a0 w hw gw ch G v280 t_a0 t_w t_ch hU1 List.mem_cons_self (hO.sub (by decide))) kw_429 kw_430 kw_431 kw_1 kw_432 (by decide +kernel) ⟨Nat.le_of_ble_eq_true rfl, Nat.le_of_ble_eq_true rfl⟩ (HT.recv (ci := 11) hkb hH t_a0 (hO.no t_a0 (by decide)) rfl) rfl rfl hl.1 (Nat.le_of_ble_eq_true rfl) dL_law_281 ⟨by show cells + 10 ≤ 600000; omega, by show slots + 1001 ≤ 7302250; omega⟩) (fun v281 u H locs hz9 hH hS => ?_)
  obtain ⟨T2_281, w2_281, h2_281, g2_281, gq2_281, rfl, x_v2810, x_v2811, x_v2812, x_v2813, x_v2814⟩ := hz9
  have hv := hv.wl x_v2810 x_v2811 x_v2812 x_v2813
  obtain ⟨t_a0, t_w, t_a1, b_hg, hU, hU1, t_ch, t_y0, l_y1, u_y1, t_y2, t_y3, hn, hj⟩ := id hv
  have hO := okc hO9 t_ch
  have hH : HT D cs A T2_281 (ch :: O) ((ch, .inr (0, [.ref y0, .int y1, .ref y2, .ref y3])) :: X) H := hH
  refine W.widen (k := (cells + 10)) (n := (slots + 1001)) (Nat.le_refl _) (Nat.le_refl _) ?_
  refine lv_pop hx hb dL_law_284 rfl ?_
  refine lv_aload_n hx hb dL_law_285 rfl (lv_at hl 2 rfl) ?_
  refine lv_aload_n hx hb dL_law_286 rfl (lv_at hl 0 rfl) ?_
  refine lv_iload_n hx hb dL_law_287 rfl (lv_at hl 3 rfl) ?_
  refine lv_iconst (v := 1) hx hb dL_law_288 (by decide) ?_
  refine lv_iadd hx hb dL_law_289 ?_
  refine lv_topi (fun v289 ev289 => ?_)
  have tv289 : v289.toInt = x3.toInt + (1) := by rw [ev289]; exact add_i rfl (by decide : (1 : Int32).toInt = 1) (by omega) (by omega)
  refine va_sld hx hb hX hbl hbA hS (in_t (by omega) (by omega)) dL_law_290 ?_
  refine lv_topi (fun v290 ev290 => ?_)
  refine tk_i hH hS hA (tr_V (n := 1) (As := [.int v290]) hx hb hml hown hts hkb hH (ox_map hOX rfl) hks hE hS hA (s_M_wall l D cs kf T2_281 (ch :: O) ((ch, .inr (0, [.ref y0, .int y1, .ref y2, .ref y3])) :: X) a1 hg G v290 t_a1 b_hg hU (hO.sub (by decide))) kw_1337 kw_1338 kw_1339 kw_13 kw_1340 (by decide +kernel) ⟨Nat.le_of_ble_eq_true rfl, Nat.le_of_ble_eq_true rfl⟩ (HT.recv (ci := 12) hkb hH t_a1 (hO.no t_a1 (by decide)) rfl) rfl rfl hl.1 (Nat.le_of_ble_eq_true rfl) dL_law_291 ⟨by show (cells + 10) + 0 ≤ 600000; omega, by show (slots + 1001) + 0 ≤ 7302250; omega⟩) (fun v291 u H locs hz9 hH hS => ?_)
  obtain ⟨T2_291, hg2_291, mq2_291, rfl, x_v2910, x_v2911, x_v2912, x_v2913⟩ := hz9
  have hv := hv.rm x_v2910 x_v2911 x_v2912
  obtain ⟨t_a0, t_w, t_a1, b_hg, hU, hU1, t_ch, t_y0, l_y1, u_y1, t_y2, t_y3, hn, hj⟩ := id hv
  have hO := okc hO9 t_ch
  have hH : HT D cs A T2_291 (ch :: O) ((ch, .inr (0, [.ref y0, .int y1, .ref y2, .ref y3])) :: X) H := hH
  refine W.widen (k := (cells + 10)) (n := (slots + 1001)) (Nat.le_refl _) (Nat.le_refl _) ?_
  refine lv_pop hx hb dL_law_294 rfl ?_
  refine lv_goto (tgt := 1395) hx hb dL_law_295 (by decide) ?_
  have qv290 : v290 = v280 := by rw [ev290, ev280, ev289, ev279]
  rw [qv290] at x_v2913
  have qg9 := WLF_eq x_v2814 x_v2913
  subst qg9
  exact kk T2_291 w2_281 h2_281 g2_281 hg2_291 gq2_281 y0 nn j y1 _ _ _ _ _ hv hr.w hH hS (lv_sub hl [0, 1, 2, 3] rfl)
set_option maxHeartbeats 4000000 in
set_option maxRecDepth 100000 in
/-- fault -/
theorem lw_c2 {p : Program} {e : Env} {s : State} {m : MethodId} {below : List Frame} {meth : Method} {c : Code} {Q : State → Prop} (l : Launch) (D : va_G) (cs : CS) (kf : KF) {b L : Nat} {xs : Nat → Int32} (hx : p.tables.exec = Jvm.exec) (hb : c.code = code) (hml : c.maxLocals = 4) (hown : s.vm.findClass R_law = some m.cls) (hts : ∀ w ∈ gw, w.before #[Value.ref b] s = true) (hX : va_X b L xs s s.heap) (hbl : b < s.heap.size) (hkb : kb D (tyc cs) s) (hks : kS kf s) {A : Nat → Prop} (hE : kE kf A s s.heap) (hA : ∀ q, s.heap.size ≤ q → A q) (hbA : ¬ A b) (hL : L ≤ 3072) (O : List Nat) (X : va_W) (hOX0 : ∀ o ∈ O, ∃ (k : Nat) (e : va_E), X[k]? = some (o, e)) (hO9 : O = []) (a0 ch a1 y2 y3 : Nat) (T : TF) (w hw gw hg G y0 nn j : Nat) (y1 x3 : Int32) (n cells slots : Nat) (H : Heap) (locs : List Loc) (ls : Array Slot) (hv : LV T a0 a1 ch w hw gw hg G G y0 y2 y3 nn j y1) (hr : RM cells slots n j) (hn512 : n < 512) (l_x3 : 0 ≤ x3.toInt) (u_x3 : x3.toInt + 6 ≤ L) (hH : HT D cs A T (ch :: O) ((ch, .inr (0, [.ref y0, .int y1, .ref y2, .ref y3])) :: X) H) (hS : va_S A s.heap H locs) (hl : lv_has ls 4 [(0, .ref b), (1, .ref a0), (2, .ref a1), (3, .int x3)]) (kk : ∀ (T : TF) (w hw gw hg G y0 nn j : Nat) (y1 : Int32) (cells slots : Nat) (H : Heap) (locs : List Loc) (ls : Array Slot), LV T a0 a1 ch w hw gw hg G G y0 y2 y3 nn j y1 → RM cells slots (n + 1) j → HT D cs A T (ch :: O) ((ch, .inr (0, [.ref y0, .int y1, .ref y2, .ref y3])) :: X) H → va_S A s.heap H locs → lv_has ls 4 [(0, .ref b), (1, .ref a0), (2, .ref a1), (3, .int x3)] → W p l e room_1 s m #[Value.ref b] below meth c H locs cells slots Q (F0 m 1395 ls [])) : W p l e room_1 s m #[Value.ref b] below meth c H locs cells slots Q (F0 m 298 ls []) := by
  obtain ⟨t_a0, t_w, t_a1, b_hg, hU, hU1, t_ch, t_y0, l_y1, u_y1, t_y2, t_y3, hn, hj⟩ := id hv
  have hO := okc hO9 t_ch
  obtain ⟨hr1, hr2⟩ := id hr
  have hOX := ox_c (a := ch) (e0 := .inr (0, [.ref y0, .int y1, .ref y2, .ref y3])) hOX0
  have b1_w := t_w.2.1
  have b2_w := t_w.2.2
  refine lv_aload_n hx hb dL_law_298 rfl (lv_at hl 1 rfl) ?_
  refine lv_aload_n hx hb dL_law_299 rfl (lv_at hl 0 rfl) ?_
  refine lv_iload_n hx hb dL_law_300 rfl (lv_at hl 3 rfl) ?_
  refine lv_iconst (v := 1) hx hb dL_law_301 (by decide) ?_
  refine lv_iadd hx hb dL_law_302 ?_
  refine lv_topi (fun v302 ev302 => ?_)
  have tv302 : v302.toInt = x3.toInt + (1) := by rw [ev302]; exact add_i rfl (by decide : (1 : Int32).toInt = 1) (by omega) (by omega)
  refine va_sld hx hb hX hbl hbA hS (in_t (by omega) (by omega)) dL_law_303 ?_
  refine lv_topi (fun v303 ev303 => ?_)
  refine tk_i hH hS hA (tr_V (n := 1) (As := [.int v303]) hx hb hml hown hts hkb hH (ox_map hOX rfl) hks hE hS hA (s_FW_fault l D cs kf T (ch :: O) ((ch, .inr (0, [.ref y0, .int y1, .ref y2, .ref y3])) :: X) a0 w hw gw ch G v303 t_a0 t_w t_ch (hO.sub (by decide))) kw_762 kw_763 kw_764 kw_1 kw_765 (by decide +kernel) ⟨Nat.le_of_ble_eq_true rfl, Nat.le_of_ble_eq_true rfl⟩ (HT.recv (ci := 11) hkb hH t_a0 (hO.no t_a0 (by decide)) rfl) rfl rfl hl.1 (Nat.le_of_ble_eq_true rfl) dL_law_304 ⟨by show cells + 0 ≤ 600000; omega, by show slots + 0 ≤ 7302250; omega⟩) (fun v304 u H locs hz9 hH hS => ?_)
  have hz9 : u = (T, ch :: O, (ch, .inr (0, [.ref y0, .int y1, .ref y2, .ref y3])) :: X) := hz9
  subst hz9
  have hH : HT D cs A T (ch :: O) ((ch, .inr (0, [.ref y0, .int y1, .ref y2, .ref y3])) :: X) H := hH
  refine W.widen (k := cells) (n := slots) (Nat.le_refl _) (Nat.le_refl _) ?_
  refine lv_pop hx hb dL_law_307 rfl ?_
  refine lv_aload_n hx hb dL_law_308 rfl (lv_at hl 2 rfl) ?_
  refine lv_aload_n hx hb dL_law_309 rfl (lv_at hl 0 rfl) ?_
  refine lv_iload_n hx hb dL_law_310 rfl (lv_at hl 3 rfl) ?_
  refine lv_iconst (v := 1) hx hb dL_law_311 (by decide) ?_
  refine lv_iadd hx hb dL_law_312 ?_
  refine lv_topi (fun v312 ev312 => ?_)
  have tv312 : v312.toInt = x3.toInt + (1) := by rw [ev312]; exact add_i rfl (by decide : (1 : Int32).toInt = 1) (by omega) (by omega)
  refine va_sld hx hb hX hbl hbA hS (in_t (by omega) (by omega)) dL_law_313 ?_
  refine lv_topi (fun v313 ev313 => ?_)
  refine tk_i hH hS hA (tr_V (n := 1) (As := [.int v313]) hx hb hml hown hts hkb hH (ox_map hOX rfl) hks hE hS hA (s_M_fault l D cs kf T (ch :: O) ((ch, .inr (0, [.ref y0, .int y1, .ref y2, .ref y3])) :: X) a1 hg G v313 t_a1 b_hg (hO.sub (by decide))) kw_1446 kw_1447 kw_1448 kw_13 kw_1449 (by decide +kernel) ⟨Nat.le_of_ble_eq_true rfl, Nat.le_of_ble_eq_true rfl⟩ (HT.recv (ci := 12) hkb hH t_a1 (hO.no t_a1 (by decide)) rfl) rfl rfl hl.1 (Nat.le_of_ble_eq_true rfl) dL_law_314 ⟨by show cells + 0 ≤ 600000; omega, by show slots + 0 ≤ 7302250; omega⟩) (fun v314 u H locs hz9 hH hS => ?_)
  have hz9 : u = (T, ch :: O, (ch, .inr (0, [.ref y0, .int y1, .ref y2, .ref y3])) :: X) := hz9
  subst hz9
  have hH : HT D cs A T (ch :: O) ((ch, .inr (0, [.ref y0, .int y1, .ref y2, .ref y3])) :: X) H := hH
  refine W.widen (k := cells) (n := slots) (Nat.le_refl _) (Nat.le_refl _) ?_
  refine lv_pop hx hb dL_law_317 rfl ?_
  refine lv_goto (tgt := 1395) hx hb dL_law_318 (by decide) ?_
  exact kk T w hw gw hg G y0 nn j y1 _ _ _ _ _ hv hr.s hH hS (lv_sub hl [0, 1, 2, 3] rfl)
set_option maxHeartbeats 4000000 in
set_option maxRecDepth 100000 in
/-- hold -/
theorem lw_c3 {p : Program} {e : Env} {s : State} {m : MethodId} {below : List Frame} {meth : Method} {c : Code} {Q : State → Prop} (l : Launch) (D : va_G) (cs : CS) (kf : KF) {b L : Nat} {xs : Nat → Int32} (hx : p.tables.exec = Jvm.exec) (hb : c.code = code) (hml : c.maxLocals = 4) (hown : s.vm.findClass R_law = some m.cls) (hts : ∀ w ∈ gw, w.before #[Value.ref b] s = true) (hX : va_X b L xs s s.heap) (hbl : b < s.heap.size) (hkb : kb D (tyc cs) s) (hks : kS kf s) {A : Nat → Prop} (hE : kE kf A s s.heap) (hA : ∀ q, s.heap.size ≤ q → A q) (hbA : ¬ A b) (hL : L ≤ 3072) (O : List Nat) (X : va_W) (hOX0 : ∀ o ∈ O, ∃ (k : Nat) (e : va_E), X[k]? = some (o, e)) (hO9 : O = []) (a0 ch a1 y2 y3 : Nat) (T : TF) (w hw gw hg G y0 nn j : Nat) (y1 x3 : Int32) (n cells slots : Nat) (H : Heap) (locs : List Loc) (ls : Array Slot) (hv : LV T a0 a1 ch w hw gw hg G G y0 y2 y3 nn j y1) (hr : RM cells slots n j) (hn512 : n < 512) (l_x3 : 0 ≤ x3.toInt) (u_x3 : x3.toInt + 6 ≤ L) (hH : HT D cs A T (ch :: O) ((ch, .inr (0, [.ref y0, .int y1, .ref y2, .ref y3])) :: X) H) (hS : va_S A s.heap H locs) (hl : lv_has ls 4 [(0, .ref b), (1, .ref a0), (2, .ref a1), (3, .int x3)]) (kk : ∀ (T : TF) (w hw gw hg G y0 nn j : Nat) (y1 : Int32) (cells slots : Nat) (H : Heap) (locs : List Loc) (ls : Array Slot), LV T a0 a1 ch w hw gw hg G G y0 y2 y3 nn j y1 → RM cells slots (n + 1) j → HT D cs A T (ch :: O) ((ch, .inr (0, [.ref y0, .int y1, .ref y2, .ref y3])) :: X) H → va_S A s.heap H locs → lv_has ls 4 [(0, .ref b), (1, .ref a0), (2, .ref a1), (3, .int x3)] → W p l e room_1 s m #[Value.ref b] below meth c H locs cells slots Q (F0 m 1395 ls [])) : W p l e room_1 s m #[Value.ref b] below meth c H locs cells slots Q (F0 m 321 ls []) := by
  obtain ⟨t_a0, t_w, t_a1, b_hg, hU, hU1, t_ch, t_y0, l_y1, u_y1, t_y2, t_y3, hn, hj⟩ := id hv
  have hO := okc hO9 t_ch
  obtain ⟨hr1, hr2⟩ := id hr
  have hOX := ox_c (a := ch) (e0 := .inr (0, [.ref y0, .int y1, .ref y2, .ref y3])) hOX0
  have b1_w := t_w.2.1
  have b2_w := t_w.2.2
  refine lv_aload_n hx hb dL_law_321 rfl (lv_at hl 1 rfl) ?_
  refine lv_aload_n hx hb dL_law_322 rfl (lv_at hl 0 rfl) ?_
  refine lv_iload_n hx hb dL_law_323 rfl (lv_at hl 3 rfl) ?_
  refine lv_iconst (v := 1) hx hb dL_law_324 (by decide) ?_
  refine lv_iadd hx hb dL_law_325 ?_
  refine lv_topi (fun v325 ev325 => ?_)
  have tv325 : v325.toInt = x3.toInt + (1) := by rw [ev325]; exact add_i rfl (by decide : (1 : Int32).toInt = 1) (by omega) (by omega)
  refine va_sld hx hb hX hbl hbA hS (in_t (by omega) (by omega)) dL_law_326 ?_
  refine lv_topi (fun v326 ev326 => ?_)
  refine lv_aload_n hx hb dL_law_327 rfl (lv_at hl 0 rfl) ?_
  refine lv_iload_n hx hb dL_law_328 rfl (lv_at hl 3 rfl) ?_
  refine lv_iconst (v := 2) hx hb dL_law_329 (by decide) ?_
  refine lv_iadd hx hb dL_law_330 ?_
  refine lv_topi (fun v330 ev330 => ?_)
  have tv330 : v330.toInt = x3.toInt + (2) := by rw [ev330]; exact add_i rfl (by decide : (2 : Int32).toInt = 2) (by omega) (by omega)
  refine va_sld hx hb hX hbl hbA hS (in_t (by omega) (by omega)) dL_law_331 ?_
  refine lv_topi (fun v331 ev331 => ?_)
  refine tk_i hH hS hA (tr_V (n := 2) (As := [.int v326, .int v331]) hx hb hml hown hts hkb hH (ox_map hOX rfl) hks hE hS hA (s_FW_hold l D cs kf T (ch :: O) ((ch, .inr (0, [.ref y0, .int y1, .ref y2, .ref y3])) :: X) a0 w hw gw ch G v326 v331 t_a0 t_w t_ch (hO.sub (by decide))) kw_766 kw_767 kw_768 kw_1 kw_769 (by decide +kernel) ⟨Nat.le_of_ble_eq_true rfl, Nat.le_of_ble_eq_true rfl⟩ (HT.recv (ci := 11) hkb hH t_a0 (hO.no t_a0 (by decide)) rfl) rfl rfl hl.1 (Nat.le_of_ble_eq_true rfl) dL_law_332 ⟨by show cells + 0 ≤ 600000; omega, by show slots + 0 ≤ 7302250; omega⟩) (fun v332 u H locs hz9 hH hS => ?_)
  have hz9 : u = (T, ch :: O, (ch, .inr (0, [.ref y0, .int y1, .ref y2, .ref y3])) :: X) := hz9
  subst hz9
  have hH : HT D cs A T (ch :: O) ((ch, .inr (0, [.ref y0, .int y1, .ref y2, .ref y3])) :: X) H := hH
  refine W.widen (k := cells) (n := slots) (Nat.le_refl _) (Nat.le_refl _) ?_
  refine lv_pop hx hb dL_law_335 rfl ?_
  refine lv_aload_n hx hb dL_law_336 rfl (lv_at hl 2 rfl) ?_
  refine lv_aload_n hx hb dL_law_337 rfl (lv_at hl 0 rfl) ?_
  refine lv_iload_n hx hb dL_law_338 rfl (lv_at hl 3 rfl) ?_
  refine lv_iconst (v := 1) hx hb dL_law_339 (by decide) ?_
  refine lv_iadd hx hb dL_law_340 ?_
  refine lv_topi (fun v340 ev340 => ?_)
  have tv340 : v340.toInt = x3.toInt + (1) := by rw [ev340]; exact add_i rfl (by decide : (1 : Int32).toInt = 1) (by omega) (by omega)
  refine va_sld hx hb hX hbl hbA hS (in_t (by omega) (by omega)) dL_law_341 ?_
  refine lv_topi (fun v341 ev341 => ?_)
  refine lv_aload_n hx hb dL_law_342 rfl (lv_at hl 0 rfl) ?_
  refine lv_iload_n hx hb dL_law_343 rfl (lv_at hl 3 rfl) ?_
  refine lv_iconst (v := 2) hx hb dL_law_344 (by decide) ?_
  refine lv_iadd hx hb dL_law_345 ?_
  refine lv_topi (fun v345 ev345 => ?_)
  have tv345 : v345.toInt = x3.toInt + (2) := by rw [ev345]; exact add_i rfl (by decide : (2 : Int32).toInt = 2) (by omega) (by omega)
  refine va_sld hx hb hX hbl hbA hS (in_t (by omega) (by omega)) dL_law_346 ?_
  refine lv_topi (fun v346 ev346 => ?_)
  refine tk_i hH hS hA (tr_V (n := 2) (As := [.int v341, .int v346]) hx hb hml hown hts hkb hH (ox_map hOX rfl) hks hE hS hA (s_M_hold l D cs kf T (ch :: O) ((ch, .inr (0, [.ref y0, .int y1, .ref y2, .ref y3])) :: X) a1 hg G v341 v346 t_a1 b_hg (hO.sub (by decide))) kw_1450 kw_1451 kw_1452 kw_13 kw_1453 (by decide +kernel) ⟨Nat.le_of_ble_eq_true rfl, Nat.le_of_ble_eq_true rfl⟩ (HT.recv (ci := 12) hkb hH t_a1 (hO.no t_a1 (by decide)) rfl) rfl rfl hl.1 (Nat.le_of_ble_eq_true rfl) dL_law_347 ⟨by show cells + 0 ≤ 600000; omega, by show slots + 0 ≤ 7302250; omega⟩) (fun v347 u H locs hz9 hH hS => ?_)
  have hz9 : u = (T, ch :: O, (ch, .inr (0, [.ref y0, .int y1, .ref y2, .ref y3])) :: X) := hz9
  subst hz9
  have hH : HT D cs A T (ch :: O) ((ch, .inr (0, [.ref y0, .int y1, .ref y2, .ref y3])) :: X) H := hH
  refine W.widen (k := cells) (n := slots) (Nat.le_refl _) (Nat.le_refl _) ?_
  refine lv_pop hx hb dL_law_350 rfl ?_
  refine lv_goto (tgt := 1395) hx hb dL_law_351 (by decide) ?_
  exact kk T w hw gw hg G y0 nn j y1 _ _ _ _ _ hv hr.s hH hS (lv_sub hl [0, 1, 2, 3] rfl)
set_option maxHeartbeats 4000000 in
set_option maxRecDepth 100000 in
/-- guide -/
theorem lw_c4 {p : Program} {e : Env} {s : State} {m : MethodId} {below : List Frame} {meth : Method} {c : Code} {Q : State → Prop} (l : Launch) (D : va_G) (cs : CS) (kf : KF) {b L : Nat} {xs : Nat → Int32} (hx : p.tables.exec = Jvm.exec) (hb : c.code = code) (hml : c.maxLocals = 4) (hown : s.vm.findClass R_law = some m.cls) (hts : ∀ w ∈ gw, w.before #[Value.ref b] s = true) (hX : va_X b L xs s s.heap) (hbl : b < s.heap.size) (hkb : kb D (tyc cs) s) (hks : kS kf s) {A : Nat → Prop} (hE : kE kf A s s.heap) (hA : ∀ q, s.heap.size ≤ q → A q) (hbA : ¬ A b) (hL : L ≤ 3072) (O : List Nat) (X : va_W) (hOX0 : ∀ o ∈ O, ∃ (k : Nat) (e : va_E), X[k]? = some (o, e)) (hO9 : O = []) (a0 ch a1 y2 y3 : Nat) (T : TF) (w hw gw hg G y0 nn j : Nat) (y1 x3 : Int32) (n cells slots : Nat) (H : Heap) (locs : List Loc) (ls : Array Slot) (hv : LV T a0 a1 ch w hw gw hg G G y0 y2 y3 nn j y1) (hr : RM cells slots n j) (hn512 : n < 512) (l_x3 : 0 ≤ x3.toInt) (u_x3 : x3.toInt + 6 ≤ L) (hH : HT D cs A T (ch :: O) ((ch, .inr (0, [.ref y0, .int y1, .ref y2, .ref y3])) :: X) H) (hS : va_S A s.heap H locs) (hl : lv_has ls 4 [(0, .ref b), (1, .ref a0), (2, .ref a1), (3, .int x3)]) (kk : ∀ (T : TF) (w hw gw hg G y0 nn j : Nat) (y1 : Int32) (cells slots : Nat) (H : Heap) (locs : List Loc) (ls : Array Slot), LV T a0 a1 ch w hw gw hg G G y0 y2 y3 nn j y1 → RM cells slots (n + 1) j → HT D cs A T (ch :: O) ((ch, .inr (0, [.ref y0, .int y1, .ref y2, .ref y3])) :: X) H → va_S A s.heap H locs → lv_has ls 4 [(0, .ref b), (1, .ref a0), (2, .ref a1), (3, .int x3)] → W p l e room_1 s m #[Value.ref b] below meth c H locs cells slots Q (F0 m 1395 ls [])) : W p l e room_1 s m #[Value.ref b] below meth c H locs cells slots Q (F0 m 354 ls []) := by
  obtain ⟨t_a0, t_w, t_a1, b_hg, hU, hU1, t_ch, t_y0, l_y1, u_y1, t_y2, t_y3, hn, hj⟩ := id hv
  have hO := okc hO9 t_ch
  obtain ⟨hr1, hr2⟩ := id hr
  have hOX := ox_c (a := ch) (e0 := .inr (0, [.ref y0, .int y1, .ref y2, .ref y3])) hOX0
  have b1_w := t_w.2.1
  have b2_w := t_w.2.2
  refine lv_aload_n hx hb dL_law_354 rfl (lv_at hl 1 rfl) ?_
  refine lv_aload_n hx hb dL_law_355 rfl (lv_at hl 0 rfl) ?_
  refine lv_iload_n hx hb dL_law_356 rfl (lv_at hl 3 rfl) ?_
  refine lv_iconst (v := 1) hx hb dL_law_357 (by decide) ?_
  refine lv_iadd hx hb dL_law_358 ?_
  refine lv_topi (fun v358 ev358 => ?_)
  have tv358 : v358.toInt = x3.toInt + (1) := by rw [ev358]; exact add_i rfl (by decide : (1 : Int32).toInt = 1) (by omega) (by omega)
  refine va_sld hx hb hX hbl hbA hS (in_t (by omega) (by omega)) dL_law_359 ?_
  refine lv_topi (fun v359 ev359 => ?_)
  refine lv_aload_n hx hb dL_law_360 rfl (lv_at hl 0 rfl) ?_
  refine lv_iload_n hx hb dL_law_361 rfl (lv_at hl 3 rfl) ?_
  refine lv_iconst (v := 2) hx hb dL_law_362 (by decide) ?_
  refine lv_iadd hx hb dL_law_363 ?_
  refine lv_topi (fun v363 ev363 => ?_)
  have tv363 : v363.toInt = x3.toInt + (2) := by rw [ev363]; exact add_i rfl (by decide : (2 : Int32).toInt = 2) (by omega) (by omega)
  refine va_sld hx hb hX hbl hbA hS (in_t (by omega) (by omega)) dL_law_364 ?_
  refine lv_topi (fun v364 ev364 => ?_)
  refine tk_i hH hS hA (tr_V (n := 2) (As := [.int v359, .int v364]) hx hb hml hown hts hkb hH (ox_map hOX rfl) hks hE hS hA (s_FW_guide l D cs kf T (ch :: O) ((ch, .inr (0, [.ref y0, .int y1, .ref y2, .ref y3])) :: X) a0 w hw gw ch G v359 v364 t_a0 t_w t_ch (hO.sub (by decide))) kw_790 kw_791 kw_792 kw_1 kw_793 (by decide +kernel) ⟨Nat.le_of_ble_eq_true rfl, Nat.le_of_ble_eq_true rfl⟩ (HT.recv (ci := 11) hkb hH t_a0 (hO.no t_a0 (by decide)) rfl) rfl rfl hl.1 (Nat.le_of_ble_eq_true rfl) dL_law_365 ⟨by show cells + 0 ≤ 600000; omega, by show slots + 0 ≤ 7302250; omega⟩) (fun v365 u H locs hz9 hH hS => ?_)
  have hz9 : u = (T, ch :: O, (ch, .inr (0, [.ref y0, .int y1, .ref y2, .ref y3])) :: X) := hz9
  subst hz9
  have hH : HT D cs A T (ch :: O) ((ch, .inr (0, [.ref y0, .int y1, .ref y2, .ref y3])) :: X) H := hH
  refine W.widen (k := cells) (n := slots) (Nat.le_refl _) (Nat.le_refl _) ?_
  refine lv_pop hx hb dL_law_368 rfl ?_
  refine lv_aload_n hx hb dL_law_369 rfl (lv_at hl 2 rfl) ?_
  refine lv_aload_n hx hb dL_law_370 rfl (lv_at hl 0 rfl) ?_
  refine lv_iload_n hx hb dL_law_371 rfl (lv_at hl 3 rfl) ?_
  refine lv_iconst (v := 1) hx hb dL_law_372 (by decide) ?_
  refine lv_iadd hx hb dL_law_373 ?_
  refine lv_topi (fun v373 ev373 => ?_)
  have tv373 : v373.toInt = x3.toInt + (1) := by rw [ev373]; exact add_i rfl (by decide : (1 : Int32).toInt = 1) (by omega) (by omega)
  refine va_sld hx hb hX hbl hbA hS (in_t (by omega) (by omega)) dL_law_374 ?_
  refine lv_topi (fun v374 ev374 => ?_)
  refine lv_aload_n hx hb dL_law_375 rfl (lv_at hl 0 rfl) ?_
  refine lv_iload_n hx hb dL_law_376 rfl (lv_at hl 3 rfl) ?_
  refine lv_iconst (v := 2) hx hb dL_law_377 (by decide) ?_
  refine lv_iadd hx hb dL_law_378 ?_
  refine lv_topi (fun v378 ev378 => ?_)
  have tv378 : v378.toInt = x3.toInt + (2) := by rw [ev378]; exact add_i rfl (by decide : (2 : Int32).toInt = 2) (by omega) (by omega)
  refine va_sld hx hb hX hbl hbA hS (in_t (by omega) (by omega)) dL_law_379 ?_
  refine lv_topi (fun v379 ev379 => ?_)
  refine tk_i hH hS hA (tr_V (n := 2) (As := [.int v374, .int v379]) hx hb hml hown hts hkb hH (ox_map hOX rfl) hks hE hS hA (s_M_guide l D cs kf T (ch :: O) ((ch, .inr (0, [.ref y0, .int y1, .ref y2, .ref y3])) :: X) a1 hg G v374 v379 t_a1 b_hg (hO.sub (by decide))) kw_1466 kw_1467 kw_1468 kw_13 kw_1469 (by decide +kernel) ⟨Nat.le_of_ble_eq_true rfl, Nat.le_of_ble_eq_true rfl⟩ (HT.recv (ci := 12) hkb hH t_a1 (hO.no t_a1 (by decide)) rfl) rfl rfl hl.1 (Nat.le_of_ble_eq_true rfl) dL_law_380 ⟨by show cells + 0 ≤ 600000; omega, by show slots + 0 ≤ 7302250; omega⟩) (fun v380 u H locs hz9 hH hS => ?_)
  have hz9 : u = (T, ch :: O, (ch, .inr (0, [.ref y0, .int y1, .ref y2, .ref y3])) :: X) := hz9
  subst hz9
  have hH : HT D cs A T (ch :: O) ((ch, .inr (0, [.ref y0, .int y1, .ref y2, .ref y3])) :: X) H := hH
  refine W.widen (k := cells) (n := slots) (Nat.le_refl _) (Nat.le_refl _) ?_
  refine lv_pop hx hb dL_law_383 rfl ?_
  refine lv_goto (tgt := 1395) hx hb dL_law_384 (by decide) ?_
  exact kk T w hw gw hg G y0 nn j y1 _ _ _ _ _ hv hr.s hH hS (lv_sub hl [0, 1, 2, 3] rfl)
set_option maxHeartbeats 4000000 in
set_option maxRecDepth 100000 in
/-- steps -/
theorem lw_c5 {p : Program} {e : Env} {s : State} {m : MethodId} {below : List Frame} {meth : Method} {c : Code} {Q : State → Prop} (l : Launch) (D : va_G) (cs : CS) (kf : KF) {b L : Nat} {xs : Nat → Int32} (hx : p.tables.exec = Jvm.exec) (hb : c.code = code) (hml : c.maxLocals = 4) (hown : s.vm.findClass R_law = some m.cls) (hts : ∀ w ∈ gw, w.before #[Value.ref b] s = true) (hX : va_X b L xs s s.heap) (hbl : b < s.heap.size) (hkb : kb D (tyc cs) s) (hks : kS kf s) {A : Nat → Prop} (hE : kE kf A s s.heap) (hA : ∀ q, s.heap.size ≤ q → A q) (hbA : ¬ A b) (hL : L ≤ 3072) (O : List Nat) (X : va_W) (hOX0 : ∀ o ∈ O, ∃ (k : Nat) (e : va_E), X[k]? = some (o, e)) (hO9 : O = []) (a0 ch a1 y2 y3 : Nat) (T : TF) (w hw gw hg G y0 nn j : Nat) (y1 x3 : Int32) (n cells slots : Nat) (H : Heap) (locs : List Loc) (ls : Array Slot) (hv : LV T a0 a1 ch w hw gw hg G G y0 y2 y3 nn j y1) (hr : RM cells slots n j) (hn512 : n < 512) (l_x3 : 0 ≤ x3.toInt) (u_x3 : x3.toInt + 6 ≤ L) (hH : HT D cs A T (ch :: O) ((ch, .inr (0, [.ref y0, .int y1, .ref y2, .ref y3])) :: X) H) (hS : va_S A s.heap H locs) (hl : lv_has ls 4 [(0, .ref b), (1, .ref a0), (2, .ref a1), (3, .int x3)]) (kk : ∀ (T : TF) (w hw gw hg G y0 nn j : Nat) (y1 : Int32) (cells slots : Nat) (H : Heap) (locs : List Loc) (ls : Array Slot), LV T a0 a1 ch w hw gw hg G G y0 y2 y3 nn j y1 → RM cells slots (n + 1) j → HT D cs A T (ch :: O) ((ch, .inr (0, [.ref y0, .int y1, .ref y2, .ref y3])) :: X) H → va_S A s.heap H locs → lv_has ls 4 [(0, .ref b), (1, .ref a0), (2, .ref a1), (3, .int x3)] → W p l e room_1 s m #[Value.ref b] below meth c H locs cells slots Q (F0 m 1395 ls [])) : W p l e room_1 s m #[Value.ref b] below meth c H locs cells slots Q (F0 m 387 ls []) := by
  obtain ⟨t_a0, t_w, t_a1, b_hg, hU, hU1, t_ch, t_y0, l_y1, u_y1, t_y2, t_y3, hn, hj⟩ := id hv
  have hO := okc hO9 t_ch
  obtain ⟨hr1, hr2⟩ := id hr
  have hOX := ox_c (a := ch) (e0 := .inr (0, [.ref y0, .int y1, .ref y2, .ref y3])) hOX0
  have b1_w := t_w.2.1
  have b2_w := t_w.2.2
  refine lv_aload_n hx hb dL_law_387 rfl (lv_at hl 1 rfl) ?_
  refine lv_aload_n hx hb dL_law_388 rfl (lv_at hl 0 rfl) ?_
  refine lv_iload_n hx hb dL_law_389 rfl (lv_at hl 3 rfl) ?_
  refine lv_iconst (v := 1) hx hb dL_law_390 (by decide) ?_
  refine lv_iadd hx hb dL_law_391 ?_
  refine lv_topi (fun v391 ev391 => ?_)
  have tv391 : v391.toInt = x3.toInt + (1) := by rw [ev391]; exact add_i rfl (by decide : (1 : Int32).toInt = 1) (by omega) (by omega)
  refine va_sld hx hb hX hbl hbA hS (in_t (by omega) (by omega)) dL_law_392 ?_
  refine lv_topi (fun v392 ev392 => ?_)
  refine lv_aload_n hx hb dL_law_393 rfl (lv_at hl 0 rfl) ?_
  refine lv_iload_n hx hb dL_law_394 rfl (lv_at hl 3 rfl) ?_
  refine lv_iconst (v := 2) hx hb dL_law_395 (by decide) ?_
  refine lv_iadd hx hb dL_law_396 ?_
  refine lv_topi (fun v396 ev396 => ?_)
  have tv396 : v396.toInt = x3.toInt + (2) := by rw [ev396]; exact add_i rfl (by decide : (2 : Int32).toInt = 2) (by omega) (by omega)
  refine va_sld hx hb hX hbl hbA hS (in_t (by omega) (by omega)) dL_law_397 ?_
  refine lv_topi (fun v397 ev397 => ?_)
  refine lv_aload_n hx hb dL_law_398 rfl (lv_at hl 0 rfl) ?_
  refine lv_iload_n hx hb dL_law_399 rfl (lv_at hl 3 rfl) ?_
  refine lv_iconst (v := 3) hx hb dL_law_400 (by decide) ?_
  refine lv_iadd hx hb dL_law_401 ?_
  refine lv_topi (fun v401 ev401 => ?_)
  have tv401 : v401.toInt = x3.toInt + (3) := by rw [ev401]; exact add_i rfl (by decide : (3 : Int32).toInt = 3) (by omega) (by omega)
  refine va_sld hx hb hX hbl hbA hS (in_t (by omega) (by omega)) dL_law_402 ?_
  refine lv_topi (fun v402 ev402 => ?_)
  refine tk_i hH hS hA (tr_V (n := 3) (As := [.int v392, .int v397, .int v402]) hx hb hml hown hts hkb hH (ox_map hOX rfl) hks hE hS hA (s_FW_steps l D cs kf T (ch :: O) ((ch, .inr (0, [.ref y0, .int y1, .ref y2, .ref y3])) :: X) a0 w hw gw ch G v392 v397 v402 t_a0 t_w t_ch (hO.sub (by decide))) kw_803 kw_804 kw_805 kw_1 kw_806 (by decide +kernel) ⟨Nat.le_of_ble_eq_true rfl, Nat.le_of_ble_eq_true rfl⟩ (HT.recv (ci := 11) hkb hH t_a0 (hO.no t_a0 (by decide)) rfl) rfl rfl hl.1 (Nat.le_of_ble_eq_true rfl) dL_law_403 ⟨by show cells + 0 ≤ 600000; omega, by show slots + 0 ≤ 7302250; omega⟩) (fun v403 u H locs hz9 hH hS => ?_)
  obtain ⟨rfl, l_v403, u_v403⟩ := hz9
  have hH : HT D cs A T (ch :: O) ((ch, .inr (0, [.ref y0, .int y1, .ref y2, .ref y3])) :: X) H := hH
  refine W.widen (k := cells) (n := slots) (Nat.le_refl _) (Nat.le_refl _) ?_
  refine lv_pop hx hb dL_law_406 rfl ?_
  refine lv_aload_n hx hb dL_law_407 rfl (lv_at hl 2 rfl) ?_
  refine lv_aload_n hx hb dL_law_408 rfl (lv_at hl 0 rfl) ?_
  refine lv_iload_n hx hb dL_law_409 rfl (lv_at hl 3 rfl) ?_
  refine lv_iconst (v := 1) hx hb dL_law_410 (by decide) ?_
  refine lv_iadd hx hb dL_law_411 ?_
  refine lv_topi (fun v411 ev411 => ?_)
  have tv411 : v411.toInt = x3.toInt + (1) := by rw [ev411]; exact add_i rfl (by decide : (1 : Int32).toInt = 1) (by omega) (by omega)
  refine va_sld hx hb hX hbl hbA hS (in_t (by omega) (by omega)) dL_law_412 ?_
  refine lv_topi (fun v412 ev412 => ?_)
  refine lv_aload_n hx hb dL_law_413 rfl (lv_at hl 0 rfl) ?_
  refine lv_iload_n hx hb dL_law_414 rfl (lv_at hl 3 rfl) ?_
  refine lv_iconst (v := 2) hx hb dL_law_415 (by decide) ?_
  refine lv_iadd hx hb dL_law_416 ?_
  refine lv_topi (fun v416 ev416 => ?_)
  have tv416 : v416.toInt = x3.toInt + (2) := by rw [ev416]; exact add_i rfl (by decide : (2 : Int32).toInt = 2) (by omega) (by omega)
  refine va_sld hx hb hX hbl hbA hS (in_t (by omega) (by omega)) dL_law_417 ?_
  refine lv_topi (fun v417 ev417 => ?_)
  refine lv_aload_n hx hb dL_law_418 rfl (lv_at hl 0 rfl) ?_
  refine lv_iload_n hx hb dL_law_419 rfl (lv_at hl 3 rfl) ?_
  refine lv_iconst (v := 3) hx hb dL_law_420 (by decide) ?_
  refine lv_iadd hx hb dL_law_421 ?_
  refine lv_topi (fun v421 ev421 => ?_)
  have tv421 : v421.toInt = x3.toInt + (3) := by rw [ev421]; exact add_i rfl (by decide : (3 : Int32).toInt = 3) (by omega) (by omega)
  refine va_sld hx hb hX hbl hbA hS (in_t (by omega) (by omega)) dL_law_422 ?_
  refine lv_topi (fun v422 ev422 => ?_)
  refine tk_i hH hS hA (tr_V (n := 3) (As := [.int v412, .int v417, .int v422]) hx hb hml hown hts hkb hH (ox_map hOX rfl) hks hE hS hA (s_M_steps l D cs kf T (ch :: O) ((ch, .inr (0, [.ref y0, .int y1, .ref y2, .ref y3])) :: X) a1 hg G v412 v417 v422 t_a1 b_hg (hO.sub (by decide))) kw_1478 kw_1479 kw_1480 kw_13 kw_1481 (by decide +kernel) ⟨Nat.le_of_ble_eq_true rfl, Nat.le_of_ble_eq_true rfl⟩ (HT.recv (ci := 12) hkb hH t_a1 (hO.no t_a1 (by decide)) rfl) rfl rfl hl.1 (Nat.le_of_ble_eq_true rfl) dL_law_423 ⟨by show cells + 0 ≤ 600000; omega, by show slots + 0 ≤ 7302250; omega⟩) (fun v423 u H locs hz9 hH hS => ?_)
  obtain ⟨rfl, l_v423, u_v423⟩ := hz9
  have hH : HT D cs A T (ch :: O) ((ch, .inr (0, [.ref y0, .int y1, .ref y2, .ref y3])) :: X) H := hH
  refine W.widen (k := cells) (n := slots) (Nat.le_refl _) (Nat.le_refl _) ?_
  refine lv_pop hx hb dL_law_426 rfl ?_
  refine lv_goto (tgt := 1395) hx hb dL_law_427 (by decide) ?_
  exact kk T w hw gw hg G y0 nn j y1 _ _ _ _ _ hv hr.s hH hS (lv_sub hl [0, 1, 2, 3] rfl)
set_option maxHeartbeats 4000000 in
set_option maxRecDepth 100000 in
/-- reach -/
theorem lw_c6 {p : Program} {e : Env} {s : State} {m : MethodId} {below : List Frame} {meth : Method} {c : Code} {Q : State → Prop} (l : Launch) (D : va_G) (cs : CS) (kf : KF) {b L : Nat} {xs : Nat → Int32} (hx : p.tables.exec = Jvm.exec) (hb : c.code = code) (hml : c.maxLocals = 4) (hown : s.vm.findClass R_law = some m.cls) (hts : ∀ w ∈ gw, w.before #[Value.ref b] s = true) (hX : va_X b L xs s s.heap) (hbl : b < s.heap.size) (hkb : kb D (tyc cs) s) (hks : kS kf s) {A : Nat → Prop} (hE : kE kf A s s.heap) (hA : ∀ q, s.heap.size ≤ q → A q) (hbA : ¬ A b) (hL : L ≤ 3072) (O : List Nat) (X : va_W) (hOX0 : ∀ o ∈ O, ∃ (k : Nat) (e : va_E), X[k]? = some (o, e)) (hO9 : O = []) (a0 ch a1 y2 y3 : Nat) (T : TF) (w hw gw hg G y0 nn j : Nat) (y1 x3 : Int32) (n cells slots : Nat) (H : Heap) (locs : List Loc) (ls : Array Slot) (hv : LV T a0 a1 ch w hw gw hg G G y0 y2 y3 nn j y1) (hr : RM cells slots n j) (hn512 : n < 512) (l_x3 : 0 ≤ x3.toInt) (u_x3 : x3.toInt + 6 ≤ L) (hH : HT D cs A T (ch :: O) ((ch, .inr (0, [.ref y0, .int y1, .ref y2, .ref y3])) :: X) H) (hS : va_S A s.heap H locs) (hl : lv_has ls 4 [(0, .ref b), (1, .ref a0), (2, .ref a1), (3, .int x3)]) (kk : ∀ (T : TF) (w hw gw hg G y0 nn j : Nat) (y1 : Int32) (cells slots : Nat) (H : Heap) (locs : List Loc) (ls : Array Slot), LV T a0 a1 ch w hw gw hg G G y0 y2 y3 nn j y1 → RM cells slots (n + 1) j → HT D cs A T (ch :: O) ((ch, .inr (0, [.ref y0, .int y1, .ref y2, .ref y3])) :: X) H → va_S A s.heap H locs → lv_has ls 4 [(0, .ref b), (1, .ref a0), (2, .ref a1), (3, .int x3)] → W p l e room_1 s m #[Value.ref b] below meth c H locs cells slots Q (F0 m 1395 ls [])) : W p l e room_1 s m #[Value.ref b] below meth c H locs cells slots Q (F0 m 430 ls []) := by
  obtain ⟨t_a0, t_w, t_a1, b_hg, hU, hU1, t_ch, t_y0, l_y1, u_y1, t_y2, t_y3, hn, hj⟩ := id hv
  have hO := okc hO9 t_ch
  obtain ⟨hr1, hr2⟩ := id hr
  have hOX := ox_c (a := ch) (e0 := .inr (0, [.ref y0, .int y1, .ref y2, .ref y3])) hOX0
  have b1_w := t_w.2.1
  have b2_w := t_w.2.2
  refine lv_aload_n hx hb dL_law_430 rfl (lv_at hl 1 rfl) ?_
  refine lv_aload_n hx hb dL_law_431 rfl (lv_at hl 0 rfl) ?_
  refine lv_iload_n hx hb dL_law_432 rfl (lv_at hl 3 rfl) ?_
  refine lv_iconst (v := 1) hx hb dL_law_433 (by decide) ?_
  refine lv_iadd hx hb dL_law_434 ?_
  refine lv_topi (fun v434 ev434 => ?_)
  have tv434 : v434.toInt = x3.toInt + (1) := by rw [ev434]; exact add_i rfl (by decide : (1 : Int32).toInt = 1) (by omega) (by omega)
  refine va_sld hx hb hX hbl hbA hS (in_t (by omega) (by omega)) dL_law_435 ?_
  refine lv_topi (fun v435 ev435 => ?_)
  refine tk_i hH hS hA (tr_V (n := 1) (As := [.int v435]) hx hb hml hown hts hkb hH (ox_map hOX rfl) hks hE hS hA (s_FW_reach l D cs kf T (ch :: O) ((ch, .inr (0, [.ref y0, .int y1, .ref y2, .ref y3])) :: X) a0 w hw gw ch G v435 t_a0 t_w t_ch (hO.sub (by decide))) kw_826 kw_827 kw_828 kw_1 kw_829 (by decide +kernel) ⟨Nat.le_of_ble_eq_true rfl, Nat.le_of_ble_eq_true rfl⟩ (HT.recv (ci := 11) hkb hH t_a0 (hO.no t_a0 (by decide)) rfl) rfl rfl hl.1 (Nat.le_of_ble_eq_true rfl) dL_law_436 ⟨by show cells + 0 ≤ 600000; omega, by show slots + 0 ≤ 7302250; omega⟩) (fun v436 u H locs hz9 hH hS => ?_)
  obtain ⟨rfl, l_v436, u_v436⟩ := hz9
  have hH : HT D cs A T (ch :: O) ((ch, .inr (0, [.ref y0, .int y1, .ref y2, .ref y3])) :: X) H := hH
  refine W.widen (k := cells) (n := slots) (Nat.le_refl _) (Nat.le_refl _) ?_
  refine lv_pop hx hb dL_law_439 rfl ?_
  refine lv_aload_n hx hb dL_law_440 rfl (lv_at hl 2 rfl) ?_
  refine lv_aload_n hx hb dL_law_441 rfl (lv_at hl 0 rfl) ?_
  refine lv_iload_n hx hb dL_law_442 rfl (lv_at hl 3 rfl) ?_
  refine lv_iconst (v := 1) hx hb dL_law_443 (by decide) ?_
  refine lv_iadd hx hb dL_law_444 ?_
  refine lv_topi (fun v444 ev444 => ?_)
  have tv444 : v444.toInt = x3.toInt + (1) := by rw [ev444]; exact add_i rfl (by decide : (1 : Int32).toInt = 1) (by omega) (by omega)
  refine va_sld hx hb hX hbl hbA hS (in_t (by omega) (by omega)) dL_law_445 ?_
  refine lv_topi (fun v445 ev445 => ?_)
  refine tk_i hH hS hA (tr_V (n := 1) (As := [.int v445]) hx hb hml hown hts hkb hH (ox_map hOX rfl) hks hE hS hA (s_M_reach l D cs kf T (ch :: O) ((ch, .inr (0, [.ref y0, .int y1, .ref y2, .ref y3])) :: X) a1 hg G v445 t_a1 b_hg (hO.sub (by decide))) kw_1498 kw_1499 kw_1500 kw_13 kw_1501 (by decide +kernel) ⟨Nat.le_of_ble_eq_true rfl, Nat.le_of_ble_eq_true rfl⟩ (HT.recv (ci := 12) hkb hH t_a1 (hO.no t_a1 (by decide)) rfl) rfl rfl hl.1 (Nat.le_of_ble_eq_true rfl) dL_law_446 ⟨by show cells + 0 ≤ 600000; omega, by show slots + 0 ≤ 7302250; omega⟩) (fun v446 u H locs hz9 hH hS => ?_)
  obtain ⟨rfl, l_v446, u_v446⟩ := hz9
  have hH : HT D cs A T (ch :: O) ((ch, .inr (0, [.ref y0, .int y1, .ref y2, .ref y3])) :: X) H := hH
  refine W.widen (k := cells) (n := slots) (Nat.le_refl _) (Nat.le_refl _) ?_
  refine lv_pop hx hb dL_law_449 rfl ?_
  refine lv_goto (tgt := 1395) hx hb dL_law_450 (by decide) ?_
  exact kk T w hw gw hg G y0 nn j y1 _ _ _ _ _ hv hr.s hH hS (lv_sub hl [0, 1, 2, 3] rfl)
set_option maxHeartbeats 4000000 in
set_option maxRecDepth 100000 in
/-- judge -/
theorem lw_c7 {p : Program} {e : Env} {s : State} {m : MethodId} {below : List Frame} {meth : Method} {c : Code} {Q : State → Prop} (l : Launch) (D : va_G) (cs : CS) (kf : KF) {b L : Nat} {xs : Nat → Int32} (hx : p.tables.exec = Jvm.exec) (hb : c.code = code) (hml : c.maxLocals = 4) (hown : s.vm.findClass R_law = some m.cls) (hts : ∀ w ∈ gw, w.before #[Value.ref b] s = true) (hX : va_X b L xs s s.heap) (hbl : b < s.heap.size) (hkb : kb D (tyc cs) s) (hks : kS kf s) {A : Nat → Prop} (hE : kE kf A s s.heap) (hA : ∀ q, s.heap.size ≤ q → A q) (hbA : ¬ A b) (hL : L ≤ 3072) (O : List Nat) (X : va_W) (hOX0 : ∀ o ∈ O, ∃ (k : Nat) (e : va_E), X[k]? = some (o, e)) (hO9 : O = []) (a0 ch a1 y2 y3 : Nat) (T : TF) (w hw gw hg G y0 nn j : Nat) (y1 x3 : Int32) (n cells slots : Nat) (H : Heap) (locs : List Loc) (ls : Array Slot) (hv : LV T a0 a1 ch w hw gw hg G G y0 y2 y3 nn j y1) (hr : RM cells slots n j) (hn512 : n < 512) (l_x3 : 0 ≤ x3.toInt) (u_x3 : x3.toInt + 6 ≤ L) (hH : HT D cs A T (ch :: O) ((ch, .inr (0, [.ref y0, .int y1, .ref y2, .ref y3])) :: X) H) (hS : va_S A s.heap H locs) (hl : lv_has ls 4 [(0, .ref b), (1, .ref a0), (2, .ref a1), (3, .int x3)]) (kk : ∀ (T : TF) (w hw gw hg G y0 nn j : Nat) (y1 : Int32) (cells slots : Nat) (H : Heap) (locs : List Loc) (ls : Array Slot), LV T a0 a1 ch w hw gw hg G G y0 y2 y3 nn j y1 → RM cells slots (n + 1) j → HT D cs A T (ch :: O) ((ch, .inr (0, [.ref y0, .int y1, .ref y2, .ref y3])) :: X) H → va_S A s.heap H locs → lv_has ls 4 [(0, .ref b), (1, .ref a0), (2, .ref a1), (3, .int x3)] → W p l e room_1 s m #[Value.ref b] below meth c H locs cells slots Q (F0 m 1395 ls [])) : W p l e room_1 s m #[Value.ref b] below meth c H locs cells slots Q (F0 m 453 ls []) := by
  obtain ⟨t_a0, t_w, t_a1, b_hg, hU, hU1, t_ch, t_y0, l_y1, u_y1, t_y2, t_y3, hn, hj⟩ := id hv
  have hO := okc hO9 t_ch
  obtain ⟨hr1, hr2⟩ := id hr
  have hOX := ox_c (a := ch) (e0 := .inr (0, [.ref y0, .int y1, .ref y2, .ref y3])) hOX0
  have b1_w := t_w.2.1
  have b2_w := t_w.2.2
  refine lv_aload_n hx hb dL_law_453 rfl (lv_at hl 1 rfl) ?_
  refine lv_aload_n hx hb dL_law_454 rfl (lv_at hl 0 rfl) ?_
  refine lv_iload_n hx hb dL_law_455 rfl (lv_at hl 3 rfl) ?_
  refine lv_iconst (v := 1) hx hb dL_law_456 (by decide) ?_
  refine lv_iadd hx hb dL_law_457 ?_
  refine lv_topi (fun v457 ev457 => ?_)
  have tv457 : v457.toInt = x3.toInt + (1) := by rw [ev457]; exact add_i rfl (by decide : (1 : Int32).toInt = 1) (by omega) (by omega)
  refine va_sld hx hb hX hbl hbA hS (in_t (by omega) (by omega)) dL_law_458 ?_
  refine lv_topi (fun v458 ev458 => ?_)
  refine lv_aload_n hx hb dL_law_459 rfl (lv_at hl 0 rfl) ?_
  refine lv_iload_n hx hb dL_law_460 rfl (lv_at hl 3 rfl) ?_
  refine lv_iconst (v := 2) hx hb dL_law_461 (by decide) ?_
  refine lv_iadd hx hb dL_law_462 ?_
  refine lv_topi (fun v462 ev462 => ?_)
  have tv462 : v462.toInt = x3.toInt + (2) := by rw [ev462]; exact add_i rfl (by decide : (2 : Int32).toInt = 2) (by omega) (by omega)
  refine va_sld hx hb hX hbl hbA hS (in_t (by omega) (by omega)) dL_law_463 ?_
  refine lv_topi (fun v463 ev463 => ?_)
  refine tk_i hH hS hA (tr_V (n := 2) (As := [.int v458, .int v463]) hx hb hml hown hts hkb hH (ox_map hOX rfl) hks hE hS hA (s_FW_judge l D cs kf T (ch :: O) ((ch, .inr (0, [.ref y0, .int y1, .ref y2, .ref y3])) :: X) a0 w hw gw ch G v458 v463 t_a0 t_w t_ch (hO.sub (by decide))) kw_867 kw_868 kw_869 kw_1 kw_870 (by decide +kernel) ⟨Nat.le_of_ble_eq_true rfl, Nat.le_of_ble_eq_true rfl⟩ (HT.recv (ci := 11) hkb hH t_a0 (hO.no t_a0 (by decide)) rfl) rfl rfl hl.1 (Nat.le_of_ble_eq_true rfl) dL_law_464 ⟨by show cells + 0 ≤ 600000; omega, by show slots + 0 ≤ 7302250; omega⟩) (fun v464 u H locs hz9 hH hS => ?_)
  obtain ⟨rfl, l_v464, u_v464⟩ := hz9
  have hH : HT D cs A T (ch :: O) ((ch, .inr (0, [.ref y0, .int y1, .ref y2, .ref y3])) :: X) H := hH
  refine W.widen (k := cells) (n := slots) (Nat.le_refl _) (Nat.le_refl _) ?_
  refine lv_pop hx hb dL_law_467 rfl ?_
  refine lv_aload_n hx hb dL_law_468 rfl (lv_at hl 2 rfl) ?_
  refine lv_aload_n hx hb dL_law_469 rfl (lv_at hl 0 rfl) ?_
  refine lv_iload_n hx hb dL_law_470 rfl (lv_at hl 3 rfl) ?_
  refine lv_iconst (v := 1) hx hb dL_law_471 (by decide) ?_
  refine lv_iadd hx hb dL_law_472 ?_
  refine lv_topi (fun v472 ev472 => ?_)
  have tv472 : v472.toInt = x3.toInt + (1) := by rw [ev472]; exact add_i rfl (by decide : (1 : Int32).toInt = 1) (by omega) (by omega)
  refine va_sld hx hb hX hbl hbA hS (in_t (by omega) (by omega)) dL_law_473 ?_
  refine lv_topi (fun v473 ev473 => ?_)
  refine lv_aload_n hx hb dL_law_474 rfl (lv_at hl 0 rfl) ?_
  refine lv_iload_n hx hb dL_law_475 rfl (lv_at hl 3 rfl) ?_
  refine lv_iconst (v := 2) hx hb dL_law_476 (by decide) ?_
  refine lv_iadd hx hb dL_law_477 ?_
  refine lv_topi (fun v477 ev477 => ?_)
  have tv477 : v477.toInt = x3.toInt + (2) := by rw [ev477]; exact add_i rfl (by decide : (2 : Int32).toInt = 2) (by omega) (by omega)
  refine va_sld hx hb hX hbl hbA hS (in_t (by omega) (by omega)) dL_law_478 ?_
  refine lv_topi (fun v478 ev478 => ?_)
  refine tk_i hH hS hA (tr_V (n := 2) (As := [.int v473, .int v478]) hx hb hml hown hts hkb hH (ox_map hOX rfl) hks hE hS hA (s_M_judge l D cs kf T (ch :: O) ((ch, .inr (0, [.ref y0, .int y1, .ref y2, .ref y3])) :: X) a1 hg G v473 v478 t_a1 b_hg (hO.sub (by decide))) kw_1518 kw_1519 kw_1520 kw_13 kw_1521 (by decide +kernel) ⟨Nat.le_of_ble_eq_true rfl, Nat.le_of_ble_eq_true rfl⟩ (HT.recv (ci := 12) hkb hH t_a1 (hO.no t_a1 (by decide)) rfl) rfl rfl hl.1 (Nat.le_of_ble_eq_true rfl) dL_law_479 ⟨by show cells + 0 ≤ 600000; omega, by show slots + 0 ≤ 7302250; omega⟩) (fun v479 u H locs hz9 hH hS => ?_)
  have hz9 : u = (T, ch :: O, (ch, .inr (0, [.ref y0, .int y1, .ref y2, .ref y3])) :: X) := hz9
  subst hz9
  have hH : HT D cs A T (ch :: O) ((ch, .inr (0, [.ref y0, .int y1, .ref y2, .ref y3])) :: X) H := hH
  refine W.widen (k := cells) (n := slots) (Nat.le_refl _) (Nat.le_refl _) ?_
  refine lv_pop hx hb dL_law_482 rfl ?_
  refine lv_goto (tgt := 1395) hx hb dL_law_483 (by decide) ?_
  exact kk T w hw gw hg G y0 nn j y1 _ _ _ _ _ hv hr.s hH hS (lv_sub hl [0, 1, 2, 3] rfl)
set_option maxHeartbeats 4000000 in
set_option maxRecDepth 100000 in
/-- climb -/
theorem lw_c8 {p : Program} {e : Env} {s : State} {m : MethodId} {below : List Frame} {meth : Method} {c : Code} {Q : State → Prop} (l : Launch) (D : va_G) (cs : CS) (kf : KF) {b L : Nat} {xs : Nat → Int32} (hx : p.tables.exec = Jvm.exec) (hb : c.code = code) (hml : c.maxLocals = 4) (hown : s.vm.findClass R_law = some m.cls) (hts : ∀ w ∈ gw, w.before #[Value.ref b] s = true) (hX : va_X b L xs s s.heap) (hbl : b < s.heap.size) (hkb : kb D (tyc cs) s) (hks : kS kf s) {A : Nat → Prop} (hE : kE kf A s s.heap) (hA : ∀ q, s.heap.size ≤ q → A q) (hbA : ¬ A b) (hL : L ≤ 3072) (O : List Nat) (X : va_W) (hOX0 : ∀ o ∈ O, ∃ (k : Nat) (e : va_E), X[k]? = some (o, e)) (hO9 : O = []) (a0 ch a1 y2 y3 : Nat) (T : TF) (w hw gw hg G y0 nn j : Nat) (y1 x3 : Int32) (n cells slots : Nat) (H : Heap) (locs : List Loc) (ls : Array Slot) (hv : LV T a0 a1 ch w hw gw hg G G y0 y2 y3 nn j y1) (hr : RM cells slots n j) (hn512 : n < 512) (l_x3 : 0 ≤ x3.toInt) (u_x3 : x3.toInt + 6 ≤ L) (hH : HT D cs A T (ch :: O) ((ch, .inr (0, [.ref y0, .int y1, .ref y2, .ref y3])) :: X) H) (hS : va_S A s.heap H locs) (hl : lv_has ls 4 [(0, .ref b), (1, .ref a0), (2, .ref a1), (3, .int x3)]) (kk : ∀ (T : TF) (w hw gw hg G y0 nn j : Nat) (y1 : Int32) (cells slots : Nat) (H : Heap) (locs : List Loc) (ls : Array Slot), LV T a0 a1 ch w hw gw hg G G y0 y2 y3 nn j y1 → RM cells slots (n + 1) j → HT D cs A T (ch :: O) ((ch, .inr (0, [.ref y0, .int y1, .ref y2, .ref y3])) :: X) H → va_S A s.heap H locs → lv_has ls 4 [(0, .ref b), (1, .ref a0), (2, .ref a1), (3, .int x3)] → W p l e room_1 s m #[Value.ref b] below meth c H locs cells slots Q (F0 m 1395 ls [])) : W p l e room_1 s m #[Value.ref b] below meth c H locs cells slots Q (F0 m 486 ls []) := by
  obtain ⟨t_a0, t_w, t_a1, b_hg, hU, hU1, t_ch, t_y0, l_y1, u_y1, t_y2, t_y3, hn, hj⟩ := id hv
  have hO := okc hO9 t_ch
  obtain ⟨hr1, hr2⟩ := id hr
  have hOX := ox_c (a := ch) (e0 := .inr (0, [.ref y0, .int y1, .ref y2, .ref y3])) hOX0
  have b1_w := t_w.2.1
  have b2_w := t_w.2.2
  refine lv_aload_n hx hb dL_law_486 rfl (lv_at hl 1 rfl) ?_
  refine lv_aload_n hx hb dL_law_487 rfl (lv_at hl 0 rfl) ?_
  refine lv_iload_n hx hb dL_law_488 rfl (lv_at hl 3 rfl) ?_
  refine lv_iconst (v := 1) hx hb dL_law_489 (by decide) ?_
  refine lv_iadd hx hb dL_law_490 ?_
  refine lv_topi (fun v490 ev490 => ?_)
  have tv490 : v490.toInt = x3.toInt + (1) := by rw [ev490]; exact add_i rfl (by decide : (1 : Int32).toInt = 1) (by omega) (by omega)
  refine va_sld hx hb hX hbl hbA hS (in_t (by omega) (by omega)) dL_law_491 ?_
  refine lv_topi (fun v491 ev491 => ?_)
  refine tk_i hH hS hA (tr_V (n := 1) (As := [.int v491]) hx hb hml hown hts hkb hH (ox_map hOX rfl) hks hE hS hA (s_FW_climb l D cs kf T (ch :: O) ((ch, .inr (0, [.ref y0, .int y1, .ref y2, .ref y3])) :: X) a0 w hw gw ch G v491 t_a0 t_w t_ch (hO.sub (by decide))) kw_894 kw_895 kw_896 kw_1 kw_897 (by decide +kernel) ⟨Nat.le_of_ble_eq_true rfl, Nat.le_of_ble_eq_true rfl⟩ (HT.recv (ci := 11) hkb hH t_a0 (hO.no t_a0 (by decide)) rfl) rfl rfl hl.1 (Nat.le_of_ble_eq_true rfl) dL_law_492 ⟨by show cells + 0 ≤ 600000; omega, by show slots + 0 ≤ 7302250; omega⟩) (fun v492 u H locs hz9 hH hS => ?_)
  obtain ⟨rfl, l_v492, u_v492⟩ := hz9
  have hH : HT D cs A T (ch :: O) ((ch, .inr (0, [.ref y0, .int y1, .ref y2, .ref y3])) :: X) H := hH
  refine W.widen (k := cells) (n := slots) (Nat.le_refl _) (Nat.le_refl _) ?_
  refine lv_pop hx hb dL_law_495 rfl ?_
  refine lv_aload_n hx hb dL_law_496 rfl (lv_at hl 2 rfl) ?_
  refine lv_aload_n hx hb dL_law_497 rfl (lv_at hl 0 rfl) ?_
  refine lv_iload_n hx hb dL_law_498 rfl (lv_at hl 3 rfl) ?_
  refine lv_iconst (v := 1) hx hb dL_law_499 (by decide) ?_
  refine lv_iadd hx hb dL_law_500 ?_
  refine lv_topi (fun v500 ev500 => ?_)
  have tv500 : v500.toInt = x3.toInt + (1) := by rw [ev500]; exact add_i rfl (by decide : (1 : Int32).toInt = 1) (by omega) (by omega)
  refine va_sld hx hb hX hbl hbA hS (in_t (by omega) (by omega)) dL_law_501 ?_
  refine lv_topi (fun v501 ev501 => ?_)
  refine tk_i hH hS hA (tr_V (n := 1) (As := [.int v501]) hx hb hml hown hts hkb hH (ox_map hOX rfl) hks hE hS hA (s_M_climb l D cs kf T (ch :: O) ((ch, .inr (0, [.ref y0, .int y1, .ref y2, .ref y3])) :: X) a1 hg G v501 t_a1 b_hg (hO.sub (by decide))) kw_1540 kw_1541 kw_1542 kw_13 kw_1543 (by decide +kernel) ⟨Nat.le_of_ble_eq_true rfl, Nat.le_of_ble_eq_true rfl⟩ (HT.recv (ci := 12) hkb hH t_a1 (hO.no t_a1 (by decide)) rfl) rfl rfl hl.1 (Nat.le_of_ble_eq_true rfl) dL_law_502 ⟨by show cells + 0 ≤ 600000; omega, by show slots + 0 ≤ 7302250; omega⟩) (fun v502 u H locs hz9 hH hS => ?_)
  have hz9 : u = (T, ch :: O, (ch, .inr (0, [.ref y0, .int y1, .ref y2, .ref y3])) :: X) := hz9
  subst hz9
  have hH : HT D cs A T (ch :: O) ((ch, .inr (0, [.ref y0, .int y1, .ref y2, .ref y3])) :: X) H := hH
  refine W.widen (k := cells) (n := slots) (Nat.le_refl _) (Nat.le_refl _) ?_
  refine lv_pop hx hb dL_law_505 rfl ?_
  refine lv_goto (tgt := 1395) hx hb dL_law_506 (by decide) ?_
  exact kk T w hw gw hg G y0 nn j y1 _ _ _ _ _ hv hr.s hH hS (lv_sub hl [0, 1, 2, 3] rfl)
set_option maxHeartbeats 4000000 in
set_option maxRecDepth 100000 in
/-- goes -/
theorem lw_c9 {p : Program} {e : Env} {s : State} {m : MethodId} {below : List Frame} {meth : Method} {c : Code} {Q : State → Prop} (l : Launch) (D : va_G) (cs : CS) (kf : KF) {b L : Nat} {xs : Nat → Int32} (hx : p.tables.exec = Jvm.exec) (hb : c.code = code) (hml : c.maxLocals = 4) (hown : s.vm.findClass R_law = some m.cls) (hts : ∀ w ∈ gw, w.before #[Value.ref b] s = true) (hX : va_X b L xs s s.heap) (hbl : b < s.heap.size) (hkb : kb D (tyc cs) s) (hks : kS kf s) {A : Nat → Prop} (hE : kE kf A s s.heap) (hA : ∀ q, s.heap.size ≤ q → A q) (hbA : ¬ A b) (hL : L ≤ 3072) (O : List Nat) (X : va_W) (hOX0 : ∀ o ∈ O, ∃ (k : Nat) (e : va_E), X[k]? = some (o, e)) (hO9 : O = []) (a0 ch a1 y2 y3 : Nat) (T : TF) (w hw gw hg G y0 nn j : Nat) (y1 x3 : Int32) (n cells slots : Nat) (H : Heap) (locs : List Loc) (ls : Array Slot) (hv : LV T a0 a1 ch w hw gw hg G G y0 y2 y3 nn j y1) (hr : RM cells slots n j) (hn512 : n < 512) (l_x3 : 0 ≤ x3.toInt) (u_x3 : x3.toInt + 6 ≤ L) (hH : HT D cs A T (ch :: O) ((ch, .inr (0, [.ref y0, .int y1, .ref y2, .ref y3])) :: X) H) (hS : va_S A s.heap H locs) (hl : lv_has ls 4 [(0, .ref b), (1, .ref a0), (2, .ref a1), (3, .int x3)]) (kk : ∀ (T : TF) (w hw gw hg G y0 nn j : Nat) (y1 : Int32) (cells slots : Nat) (H : Heap) (locs : List Loc) (ls : Array Slot), LV T a0 a1 ch w hw gw hg G G y0 y2 y3 nn j y1 → RM cells slots (n + 1) j → HT D cs A T (ch :: O) ((ch, .inr (0, [.ref y0, .int y1, .ref y2, .ref y3])) :: X) H → va_S A s.heap H locs → lv_has ls 4 [(0, .ref b), (1, .ref a0), (2, .ref a1), (3, .int x3)] → W p l e room_1 s m #[Value.ref b] below meth c H locs cells slots Q (F0 m 1395 ls [])) : W p l e room_1 s m #[Value.ref b] below meth c H locs cells slots Q (F0 m 509 ls []) := by
  obtain ⟨t_a0, t_w, t_a1, b_hg, hU, hU1, t_ch, t_y0, l_y1, u_y1, t_y2, t_y3, hn, hj⟩ := id hv
  have hO := okc hO9 t_ch
  obtain ⟨hr1, hr2⟩ := id hr
  have hOX := ox_c (a := ch) (e0 := .inr (0, [.ref y0, .int y1, .ref y2, .ref y3])) hOX0
  have b1_w := t_w.2.1
  have b2_w := t_w.2.2
  refine lv_aload_n hx hb dL_law_509 rfl (lv_at hl 1 rfl) ?_
  refine lv_aload_n hx hb dL_law_510 rfl (lv_at hl 0 rfl) ?_
  refine lv_iload_n hx hb dL_law_511 rfl (lv_at hl 3 rfl) ?_
  refine lv_iconst (v := 1) hx hb dL_law_512 (by decide) ?_
  refine lv_iadd hx hb dL_law_513 ?_
  refine lv_topi (fun v513 ev513 => ?_)
  have tv513 : v513.toInt = x3.toInt + (1) := by rw [ev513]; exact add_i rfl (by decide : (1 : Int32).toInt = 1) (by omega) (by omega)
  refine va_sld hx hb hX hbl hbA hS (in_t (by omega) (by omega)) dL_law_514 ?_
  refine lv_topi (fun v514 ev514 => ?_)
  refine tk_i hH hS hA (tr_V (n := 1) (As := [.int v514]) hx hb hml hown hts hkb hH (ox_map hOX rfl) hks hE hS hA (s_FW_goes l D cs kf T (ch :: O) ((ch, .inr (0, [.ref y0, .int y1, .ref y2, .ref y3])) :: X) a0 w hw gw ch G v514 t_a0 t_w t_ch (hO.sub (by decide))) kw_904 kw_905 kw_906 kw_1 kw_907 (by decide +kernel) ⟨Nat.le_of_ble_eq_true rfl, Nat.le_of_ble_eq_true rfl⟩ (HT.recv (ci := 11) hkb hH t_a0 (hO.no t_a0 (by decide)) rfl) rfl rfl hl.1 (Nat.le_of_ble_eq_true rfl) dL_law_515 ⟨by show cells + 0 ≤ 600000; omega, by show slots + 0 ≤ 7302250; omega⟩) (fun v515 u H locs hz9 hH hS => ?_)
  obtain ⟨rfl, l_v515, u_v515⟩ := hz9
  have hH : HT D cs A T (ch :: O) ((ch, .inr (0, [.ref y0, .int y1, .ref y2, .ref y3])) :: X) H := hH
  refine W.widen (k := cells) (n := slots) (Nat.le_refl _) (Nat.le_refl _) ?_
  refine lv_pop hx hb dL_law_518 rfl ?_
  refine lv_aload_n hx hb dL_law_519 rfl (lv_at hl 2 rfl) ?_
  refine lv_aload_n hx hb dL_law_520 rfl (lv_at hl 0 rfl) ?_
  refine lv_iload_n hx hb dL_law_521 rfl (lv_at hl 3 rfl) ?_
  refine lv_iconst (v := 1) hx hb dL_law_522 (by decide) ?_
  refine lv_iadd hx hb dL_law_523 ?_
  refine lv_topi (fun v523 ev523 => ?_)
  have tv523 : v523.toInt = x3.toInt + (1) := by rw [ev523]; exact add_i rfl (by decide : (1 : Int32).toInt = 1) (by omega) (by omega)
  refine va_sld hx hb hX hbl hbA hS (in_t (by omega) (by omega)) dL_law_524 ?_
  refine lv_topi (fun v524 ev524 => ?_)
  refine tk_i hH hS hA (tr_V (n := 1) (As := [.int v524]) hx hb hml hown hts hkb hH (ox_map hOX rfl) hks hE hS hA (s_M_goes l D cs kf T (ch :: O) ((ch, .inr (0, [.ref y0, .int y1, .ref y2, .ref y3])) :: X) a1 hg G v524 t_a1 b_hg (hO.sub (by decide))) kw_1556 kw_1557 kw_1558 kw_13 kw_1559 (by decide +kernel) ⟨Nat.le_of_ble_eq_true rfl, Nat.le_of_ble_eq_true rfl⟩ (HT.recv (ci := 12) hkb hH t_a1 (hO.no t_a1 (by decide)) rfl) rfl rfl hl.1 (Nat.le_of_ble_eq_true rfl) dL_law_525 ⟨by show cells + 0 ≤ 600000; omega, by show slots + 0 ≤ 7302250; omega⟩) (fun v525 u H locs hz9 hH hS => ?_)
  have hz9 : u = (T, ch :: O, (ch, .inr (0, [.ref y0, .int y1, .ref y2, .ref y3])) :: X) := hz9
  subst hz9
  have hH : HT D cs A T (ch :: O) ((ch, .inr (0, [.ref y0, .int y1, .ref y2, .ref y3])) :: X) H := hH
  refine W.widen (k := cells) (n := slots) (Nat.le_refl _) (Nat.le_refl _) ?_
  refine lv_pop hx hb dL_law_528 rfl ?_
  refine lv_goto (tgt := 1395) hx hb dL_law_529 (by decide) ?_
  exact kk T w hw gw hg G y0 nn j y1 _ _ _ _ _ hv hr.s hH hS (lv_sub hl [0, 1, 2, 3] rfl)
