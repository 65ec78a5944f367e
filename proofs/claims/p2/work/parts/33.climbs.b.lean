theorem tk_ofF {l : Launch} {D : va_G} {cs : CS} {kf : KF} {y : MethodName} {b : ByteArray} {n : Nat} {r : Option FieldType} {rm : Room} {as : List Value} {T : TF} {O : List Nat} {X : va_W} {Q : (Nat → Prop) → Array Value → State → Outcome → State → Prop} (hy : plainFor y = true) (hlen : (lg_sl as).length ≤ n)
    (body : ∀ (p : Program) (e : Env) (s : State) (m : MethodId) (below : List Frame) (meth : Method) (c : Code) (ls : Array Slot) (A : Nat → Prop) (H : Heap) (locs : List Loc), p.tables.exec = Jvm.exec → c.code = b → meth.sig.returnType = r → c.maxLocals = n → s.vm.findClass y.cls = some m.cls → (∀ w ∈ gw, w.before as.toArray s = true) → meth.locks = false → meth.name = y.name → kb D (tyc cs) s → HT D cs A T O X H → va_S A s.heap H locs → (∀ q : Nat, s.heap.size ≤ q → A q) → (∀ o ∈ O, ∃ (k : Nat) (e : va_E), X[k]? = some (o, e)) → kS kf s → kE kf A s s.heap → lv_has ls n (lv_args 0 as) →
      W p l e rm s m as.toArray below meth c H locs 0 0 (MQ below (Q A) as.toArray s rm.cells rm.slots A) (F0 m 0 ls [])) : TK l D cs kf y b n r rm as T O X Q := by
  intro sz
  refine MetFree.of_bodySF (code := b) (maxLocals := n) (ret := r) hy (fun args s m h hn => ?_) (fun p e s m args below meth c s₁ B hml hv _ => ?_)
  · obtain ⟨meth, c, h1, h2, h3, h4, h5, h6, -, -⟩ := Cond.code_spec hn (atoms_spec (ws := wl y b n r) h _ List.mem_cons_self)
    exact ⟨meth, c, h1, h2, h3, h4, h5, h6⟩
  · obtain ⟨rfl, hsz, hH, hK, hOX, hks, hE⟩ := hv
    have hts := atoms_spec (ws := wl y b n r) B.pre
    subst hsz
    have hh0 : s₁.heap = s.heap := by rw [B.state]; rfl
    have k := body p e s m below meth c _ _ _ [] B.exec B.bytes B.returns hml (findClass_of_methodNamed B.named) (fun w hw => hts w (List.mem_cons_of_mem _ hw)) B.notSynchronized (name_of_methodNamed B.named B.method).1 hK (hH.self hOX) va_S.rf (fun q h => Or.inr (Or.inr h)) hOX hks hE (lv_entry as hlen)
    rw [← lg_entry_eq] at k
    obtain ⟨t, a1, o, b1, b2, b3⟩ := k s₁ hh0 (Stand.of_body B)
    exact ⟨t, o, a1, b1, b2, ⟨b3.1, b3.2⟩⟩
theorem ne0_i {y : Int32} (h : y.toInt ≠ 0) : ¬ y = 0 := fun q => h (by rw [q]; decide)
set_option maxHeartbeats 4000000 in
set_option maxRecDepth 100000 in
theorem s_floorMod (l : Launch) (D : va_G) (cs : CS) (kf : KF) (T : TF) (O : List Nat) (X : va_W) (x0 : Int32) (x1 : Int32) (l_x1 : 10 ≤ x1.toInt) (u_x1 : x1.toInt ≤ 10) (hO : okO T O []) : TK l D cs kf yJ9_floorMod_7cf53 cJ9_floorMod_7cf53 3 (some (.int)) { frames := 0, cells := 0, slots := 0, locals := 0 } [.int x0, .int x1] T O X (Ti D cs (fun r u => u = (T, O, X) ∧ 0 ≤ r.toInt ∧ r.toInt ≤ 9)) := by
  refine tk_ofF (by decide +kernel) (Nat.le_of_ble_eq_true rfl) (fun p e s m below meth c ls A H locs hx hb hr hml hown hts hlocks hnm hkb hH hS hA hOX hks hE hl => ?_)
  have hown : s.vm.findClass RJ9 = some m.cls := hown
  have hl : lv_has ls 3 [(0, .int x0), (1, .int x1)] := hl
  refine lv_iload_n hx hb dJ9_floorMod_7cf53_0 rfl (lv_at hl 0 rfl) ?_
  refine lv_iload_n hx hb dJ9_floorMod_7cf53_1 rfl (lv_at hl 1 rfl) ?_
  refine lv_irem hx hb dJ9_floorMod_7cf53_2 (ne0_i (by omega)) ?_
  refine lv_topi (fun v2 ev2 => ?_)
  have tv2 : (0 ≤ x0.toInt → 0 ≤ v2.toInt) ∧ v2.toInt < x1.toInt ∧ -x1.toInt < v2.toInt ∧ (x0.toInt ≤ 0 → v2.toInt ≤ 0) := by rw [ev2]; exact irem_b rfl (by omega)
  refine lv_istore_n (lv' := [(2, .int v2), (0, .int x0), (1, .int x1)]) hx hb dJ9_floorMod_7cf53_3 rfl hl (by decide) rfl (fun ls hl => ?_)
  refine lv_iload_n hx hb dJ9_floorMod_7cf53_4 rfl (lv_at hl 1 rfl) ?_
  refine lv_iload_n hx hb dJ9_floorMod_7cf53_5 rfl (lv_at hl 2 rfl) ?_
  refine lv_ixor hx hb dJ9_floorMod_7cf53_6 ?_
  refine lv_topi (fun v6 ev6 => ?_)
  have tv6 : v6.toInt < 0 ↔ x0.toInt < 0 := by rw [ev6]; exact xor_s (by omega)
  have J18 : ∀  (H : Heap) (locs : List Loc) (ls : Array Slot), (0 ≤ v2.toInt) → HT D cs A T O X H → va_S A s.heap H locs → lv_has ls 3 [(2, .int v2)] → W p l e { frames := 0, cells := 0, slots := 0, locals := 0 } s m [.int x0, .int x1].toArray below meth c H locs 0 0 (MQ below (Ti D cs (fun r u => u = (T, O, X) ∧ 0 ≤ r.toInt ∧ r.toInt ≤ 9) A) [.int x0, .int x1].toArray s 0 0 A) (F0 m 18 ls []) := by
    intro  H locs ls i18 hH hS hl
    refine lv_iload_n hx hb dJ9_floorMod_7cf53_18 rfl (lv_at hl 0 rfl) ?_
    exact te_i hx hb hr hlocks hH hS (⟨rfl, by omega, by omega⟩) dJ9_floorMod_7cf53_19
  refine lv_if_ge (tgt := 18) hx hb dJ9_floorMod_7cf53_7 (by decide) (fun c7 => ?_) (fun c7 => ?_)
  · skip
    have tc7 := f_ge (k := 0) (by decide) c7
    exact J18  _ _ _ (by omega) hH hS (lv_sub hl [0] rfl)
  · skip
    have tc7 := f_nge (k := 0) (by decide) c7
    refine lv_iload_n hx hb dJ9_floorMod_7cf53_10 rfl (lv_at hl 0 rfl) ?_
    refine lv_if_eq (tgt := 18) hx hb dJ9_floorMod_7cf53_11 (by decide) (fun c11 => ?_) (fun c11 => ?_)
    · skip
      have tc11 := f_eq (k := 0) (by decide) c11
      exact J18  _ _ _ (by omega) hH hS (lv_sub hl [0] rfl)
    · skip
      have tc11 := f_ne (k := 0) (by decide) c11
      refine lv_iload_n hx hb dJ9_floorMod_7cf53_14 rfl (lv_at hl 0 rfl) ?_
      refine lv_iload_n hx hb dJ9_floorMod_7cf53_15 rfl (lv_at hl 2 rfl) ?_
      refine lv_iadd hx hb dJ9_floorMod_7cf53_16 ?_
      refine lv_topi (fun v16 ev16 => ?_)
      have tv16 : v16.toInt = v2.toInt + x1.toInt := by rw [ev16]; exact add_i rfl rfl (by omega) (by omega)
      exact te_i hx hb hr hlocks hH hS (⟨rfl, by omega, by omega⟩) dJ9_floorMod_7cf53_17
set_option maxHeartbeats 4000000 in
set_option maxRecDepth 100000 in
theorem s_FW_remember (l : Launch) (D : va_G) (cs : CS) (kf : KF) (T : TF) (O : List Nat) (X : va_W) (a0 w hw gw ch gq : Nat) (t_a0 : T a0 = some (21, w, ch)) (t_w : isW T w hw gw) (t_ch : T ch = some (10, gq, 0)) (hO : okO T O [4, 16, 21]) : TK l D cs kf yX11_remember cX11_remember 2 none { frames := 1, cells := 0, slots := 0, locals := 14 } [.ref a0] T O X (Tv D cs (fun u => u = (T, O, X))) := by
  refine tk_of (by decide) (Nat.le_of_ble_eq_true rfl) (fun p e s m below meth c ls A H locs hx hb hr hml hown hts hlocks hnm hkb hH hS hA hOX hks hE hl => ?_)
  have hown : s.vm.findClass RX11 = some m.cls := hown
  have hl : lv_has ls 2 [(0, .ref a0)] := hl
  have b1_w := t_w.2.1
  have b2_w := t_w.2.2
  refine lv_aload_n hx hb dX11_remember_0 rfl (lv_at hl 0 rfl) ?_
  refine t_get (ci := 11) (lst := ft11 w ch) (C := RX11) (F := TX11) (N := 20) hx hb hts uX11 hown hkb hH t_a0 (hO.no t_a0 (by decide)) (fun _ h9 => h9) rfl rfl 6 (by decide) rfl kw_366 (fun _ h9 => h9) dX11_remember_1 (fun v9 h9 => ?_)
  obtain ⟨v1, rfl, t_v1⟩ := h9
  refine lv_aload_n hx hb dX11_remember_4 rfl (lv_at hl 0 rfl) ?_
  refine t_get (ci := 11) (lst := ft11 w ch) (C := RX11) (F := TX11) (N := 20) hx hb hts uX11 hown hkb hH t_a0 (hO.no t_a0 (by decide)) (fun _ h9 => h9) rfl rfl 8 (by decide) rfl kw_368 (fun _ h9 => h9) dX11_remember_5 (fun v9 h9 => ?_)
  obtain ⟨v5, rfl, l_v5, u_v5⟩ := h9
  refine t_qld4 hx hb hkb hH t_v1 (hO.no t_v1 (by decide)) (by omega) (by omega) dX11_remember_8 (fun v8 t_v8 => ?_)
  refine lv_astore_n (lv' := [(1, .ref v8), (0, .ref a0)]) hx hb dX11_remember_9 rfl hl (by decide) rfl (fun ls hl => ?_)
  refine lv_aload_n hx hb dX11_remember_10 rfl (lv_at hl 1 rfl) ?_
  refine t_get (ci := 11) (lst := ft11 w ch) (C := RX11) (F := TX11) (N := 20) hx hb hts uX11 hown hkb hH t_a0 (hO.no t_a0 (by decide)) (fun _ h9 => h9) rfl rfl 6 (by decide) rfl kw_366 (fun _ h9 => h9) dX11_remember_11 (fun v9 h9 => ?_)
  obtain ⟨v11, rfl, t_v11⟩ := h9
  refine lv_aload_n hx hb dX11_remember_14 rfl (lv_at hl 1 rfl) ?_
  refine t_get (ci := 11) (lst := ft11 w ch) (C := RX11) (F := TX11) (N := 20) hx hb hts uX11 hown hkb hH t_a0 (hO.no t_a0 (by decide)) (fun _ h9 => h9) rfl rfl 8 (by decide) rfl kw_368 (fun _ h9 => h9) dX11_remember_15 (fun v9 h9 => ?_)
  obtain ⟨v15, rfl, l_v15, u_v15⟩ := h9
  refine lv_aload_n hx hb dX11_remember_18 rfl (lv_at hl 1 rfl) ?_
  refine t_get (ci := 11) (lst := ft11 w ch) (C := RX11) (F := TX11) (N := 20) hx hb hts uX11 hown hkb hH t_a0 (hO.no t_a0 (by decide)) (fun _ h9 => h9) rfl rfl 5 (by decide) rfl kw_365 (fun _ h9 => h9) dX11_remember_19 (fun v9 h9 => ?_)
  obtain ⟨v19, rfl, t_v19⟩ := h9
  refine t_qst4 hx hb hkb hH hS t_v11 (hO.no t_v11 (by decide)) t_v19 (hO.no t_v19 (by decide)) (by omega) (by omega) dX11_remember_22 (fun H locs hH hS => ?_)
  refine lv_aload_n hx hb dX11_remember_23 rfl (lv_at hl 1 rfl) ?_
  refine lv_aload_n hx hb dX11_remember_24 rfl (lv_at hl 0 rfl) ?_
  refine t_put (ci := 11) (lst := ft11 w ch) (v := .ref v8) (ty := tyX11 5) (C := RX11) (F := TX11) (N := 20) hx hb hts uX11 tyX11 tyX11_ok nmX11 hown hkb hH hS t_a0 (hO.no t_a0 (by decide)) (fun _ => Iff.rfl) rfl rfl 5 (by decide) rfl (⟨_, rfl, t_v8⟩) kw_365 (fun _ h9 => h9) rfl (tyX11_ok 5 (by decide)) rfl rfl dX11_remember_25 (fun H locs hH hS => ?_)
  refine lv_aload_n hx hb dX11_remember_28 rfl (lv_at hl 1 rfl) ?_
  refine lv_aload_n hx hb dX11_remember_29 rfl (lv_at hl 1 rfl) ?_
  refine t_get (ci := 11) (lst := ft11 w ch) (C := RX11) (F := TX11) (N := 20) hx hb hts uX11 hown hkb hH t_a0 (hO.no t_a0 (by decide)) (fun _ h9 => h9) rfl rfl 8 (by decide) rfl kw_368 (fun _ h9 => h9) dX11_remember_30 (fun v9 h9 => ?_)
  obtain ⟨v30, rfl, l_v30, u_v30⟩ := h9
  refine lv_iconst (v := 1) hx hb dX11_remember_33 (by decide) ?_
  refine lv_iadd hx hb dX11_remember_34 ?_
  refine lv_topi (fun v34 ev34 => ?_)
  have tv34 : v34.toInt = v30.toInt + (1) := by rw [ev34]; exact add_i rfl (by decide : (1 : Int32).toInt = 1) (by omega) (by omega)
  refine lv_bipush (v := 10) hx hb dX11_remember_35 (by decide) ?_
  refine lv_irem hx hb dX11_remember_37 (by decide) ?_
  refine lv_topi (fun v37 ev37 => ?_)
  have tv37 : (0 ≤ v34.toInt → 0 ≤ v37.toInt) ∧ v37.toInt < 10 ∧ -10 < v37.toInt ∧ (v34.toInt ≤ 0 → v37.toInt ≤ 0) := by rw [ev37]; exact irem_b (by decide) (by decide)
  refine t_put (ci := 11) (lst := ft11 w ch) (v := .int v37) (ty := tyX11 8) (C := RX11) (F := TX11) (N := 20) hx hb hts uX11 tyX11 tyX11_ok nmX11 hown hkb hH hS t_a0 (hO.no t_a0 (by decide)) (fun _ => Iff.rfl) rfl rfl 8 (by decide) rfl (⟨_, rfl, by omega, by omega⟩) kw_368 (fun _ h9 => h9) rfl (tyX11_ok 8 (by decide)) rfl rfl dX11_remember_38 (fun H locs hH hS => ?_)
  refine lv_aload_n hx hb dX11_remember_41 rfl (lv_at hl 1 rfl) ?_
  refine lv_aload_n hx hb dX11_remember_42 rfl (lv_at hl 1 rfl) ?_
  refine t_get (ci := 11) (lst := ft11 w ch) (C := RX11) (F := TX11) (N := 20) hx hb hts uX11 hown hkb hH t_a0 (hO.no t_a0 (by decide)) (fun _ h9 => h9) rfl rfl 7 (by decide) rfl kw_367 (fun _ h9 => h9) dX11_remember_43 (fun v9 h9 => ?_)
  obtain ⟨v43, rfl, l_v43, u_v43⟩ := h9
  refine lv_iconst (v := 1) hx hb dX11_remember_46 (by decide) ?_
  refine lv_iadd hx hb dX11_remember_47 ?_
  refine lv_topi (fun v47 ev47 => ?_)
  have tv47 : v47.toInt = v43.toInt + (1) := by rw [ev47]; exact add_i rfl (by decide : (1 : Int32).toInt = 1) (by omega) (by omega)
  refine lv_bipush (v := 10) hx hb dX11_remember_48 (by decide) ?_
  refine va_mmin hx hb (by rw [hml]; exact hl.1.symm) hown (hts _ kw_903) (hts _ kw_450) (hts _ kw_6) (hts _ kw_451) (Nat.le_of_ble_eq_true rfl) (Nat.le_of_ble_eq_true rfl) (Nat.le_of_ble_eq_true rfl) (Nat.le_of_ble_eq_true rfl) dX11_remember_50 ?_
  refine lv_topi (fun v50 ev50 => ?_)
  have tv50 : v50.toInt = min v47.toInt (10) := by rw [ev50]; exact min_i rfl (by decide : (10 : Int32).toInt = 10)
  refine t_put (ci := 11) (lst := ft11 w ch) (v := .int v50) (ty := tyX11 7) (C := RX11) (F := TX11) (N := 20) hx hb hts uX11 tyX11 tyX11_ok nmX11 hown hkb hH hS t_a0 (hO.no t_a0 (by decide)) (fun _ => Iff.rfl) rfl rfl 7 (by decide) rfl (⟨_, rfl, by omega, by omega⟩) kw_367 (fun _ h9 => h9) rfl (tyX11_ok 7 (by decide)) rfl rfl dX11_remember_53 (fun H locs hH hS => ?_)
  exact te_v hx hb hr hlocks hH hS rfl dX11_remember_56
set_option maxHeartbeats 4000000 in
set_option maxRecDepth 100000 in
theorem s_FW_verdictOn (l : Launch) (D : va_G) (cs : CS) (kf : KF) (T : TF) (O : List Nat) (X : va_W) (a0 w hw gw ch gq : Nat) (a1 : Nat) (t_a0 : T a0 = some (21, w, ch)) (t_w : isW T w hw gw) (t_ch : T ch = some (10, gq, 0)) (t_a1 : T a1 = some (18, 0, 0)) (hO : okO T O [1, 2, 7, 12, 15, 16, 18, 19, 21]) : TK l D cs kf yX11_verdictOn cX11_verdictOn 13 (some (.int)) { frames := 4, cells := 0, slots := 0, locals := 101 } [.ref a0, .ref a1] T O X (Ti D cs (fun r u => u = (T, O, X) ∧ -4 ≤ r.toInt ∧ r.toInt ≤ 324)) := by
  refine tk_of (by decide) (Nat.le_of_ble_eq_true rfl) (fun p e s m below meth c ls A H locs hx hb hr hml hown hts hlocks hnm hkb hH hS hA hOX hks hE hl => ?_)
  have hown : s.vm.findClass RX11 = some m.cls := hown
  have hl : lv_has ls 13 [(0, .ref a0), (1, .ref a1)] := hl
  have b1_w := t_w.2.1
  have b2_w := t_w.2.2
  refine lv_aload_n hx hb dX11_verdictOn_0 rfl (lv_at hl 1 rfl) ?_
  refine lv_iconst (v := 0) hx hb dX11_verdictOn_1 (by decide) ?_
  refine tk_l hH hS hA (tr_V (n := 1) (As := [.int 0]) hx hb hml hown hts hkb hH hOX hks hE hS hA (s_Tray_at l D cs kf T O X a1 (0) t_a1 (hO.sub (by decide))) kw_882 kw_883 kw_884 kw_12 kw_885 (by decide +kernel) ⟨Nat.le_of_ble_eq_true rfl, Nat.le_of_ble_eq_true rfl⟩ (HT.recv (ci := 8) hkb hH t_a1 (hO.no t_a1 (by decide)) rfl) rfl rfl hl.1 (Nat.le_of_ble_eq_true rfl) dX11_verdictOn_2 ⟨Nat.le_of_ble_eq_true rfl, Nat.le_of_ble_eq_true rfl⟩) (fun v2 u H locs hz9 hH hS => ?_)
  have hz9 : u = (T, O, X) := hz9
  subst hz9
  have hH : HT D cs A T O X H := hH
  refine W.widen (k := 0) (n := 0) (Nat.le_of_ble_eq_true rfl) (Nat.le_of_ble_eq_true rfl) ?_
  refine lv_lstore_n (lv' := [(2, .long v2), (0, .ref a0), (1, .ref a1)]) hx hb dX11_verdictOn_5 rfl hl (by decide) rfl (fun ls hl => ?_)
  refine lv_aload_n hx hb dX11_verdictOn_6 rfl (lv_at hl 2 rfl) ?_
  refine t_get (ci := 8) (lst := ft8 0 0) (C := RX8) (F := TX8) (N := 3) hx hb hts uX8 hown hkb hH t_a1 (hO.no t_a1 (by decide)) (fun _ h9 => h9) rfl rfl 2 (by decide) rfl kw_352 (fun _ h9 => h9) dX11_verdictOn_7 (fun v9 h9 => ?_)
  obtain ⟨v7, rfl, l_v7, u_v7⟩ := h9
  have J32 : ∀  (H : Heap) (locs : List Loc) (ls : Array Slot), HT D cs A T O X H → va_S A s.heap H locs → lv_has ls 13 [] → W p l e { frames := 4, cells := 0, slots := 0, locals := 101 } s m [.ref a0, .ref a1].toArray below meth c H locs 0 0 (MQ below (Ti D cs (fun r u => u = (T, O, X) ∧ -4 ≤ r.toInt ∧ r.toInt ≤ 324) A) [.ref a0, .ref a1].toArray s 0 0 A) (F0 m 32 ls []) := by
    intro  H locs ls  hH hS hl
    refine lv_iconst (v := 1) hx hb dX11_verdictOn_32 (by decide) ?_
    exact te_i hx hb hr hlocks hH hS (⟨rfl, by decide, by decide⟩) dX11_verdictOn_33
  refine lv_if_eq (tgt := 32) hx hb dX11_verdictOn_10 (by decide) (fun c10 => ?_) (fun c10 => ?_)
  · skip
    have tc10 := f_eq (k := 0) (by decide) c10
    exact J32  _ _ _  hH hS (lv_sub hl [] rfl)
  · skip
    have tc10 := f_ne (k := 0) (by decide) c10
    refine lv_lload_n hx hb dX11_verdictOn_13 rfl (lv_at hl 0 rfl) ?_
    refine lv_lconst (v := 0) hx hb dX11_verdictOn_14 (by decide) ?_
    refine W.lcmp hx hb dX11_verdictOn_15 ?_
    refine lv_if_lt (tgt := 32) hx hb dX11_verdictOn_16 (by decide) (fun c16 => ?_) (fun c16 => ?_)
    · skip
      have tc16 := lt_l c16
      have kc16_0 : (0 : Int64).toInt = 0 := by decide
      exact J32  _ _ _  hH hS (lv_sub hl [] rfl)
    · skip
      have tc16 := nlt_l c16
      have kc16_0 : (0 : Int64).toInt = 0 := by decide
      refine lv_lload_n hx hb dX11_verdictOn_19 rfl (lv_at hl 0 rfl) ?_
      refine lv_aload_n hx hb dX11_verdictOn_20 rfl (lv_at hl 1 rfl) ?_
      refine t_get (ci := 11) (lst := ft11 w ch) (C := RX11) (F := TX11) (N := 20) hx hb hts uX11 hown hkb hH t_a0 (hO.no t_a0 (by decide)) (fun _ h9 => h9) rfl rfl 3 (by decide) rfl kw_363 (fun _ h9 => h9) dX11_verdictOn_21 (fun v9 h9 => ?_)
      have h9 : v9 = .ref w := h9
      subst h9
      refine t_get (ci := 9) (lst := ft9w hw gw) (C := RX9) (F := TX9) (N := 14) hx hb hts uX9 hown hkb hH t_w.1 (hO.no t_w.1 (by decide)) (fun fs => (ob9w t_w fs).mp) rfl rfl 1 (by decide) rfl kw_112 (fun _ h9 => h9) dX11_verdictOn_24 (fun v9 h9 => ?_)
      have h9 : v9 = .int (nI gw) := h9
      subst h9
      have e_gw : (nI gw).toInt = gw := nI_toInt (by have := t_w.2.2; omega)
      have b_gw := t_w.2.2
      refine lv_i2l hx hb dX11_verdictOn_27 rfl ?_
      refine W.lcmp hx hb dX11_verdictOn_28 ?_
      refine lv_if_lt (tgt := 34) hx hb dX11_verdictOn_29 (by decide) (fun c29 => ?_) (fun c29 => ?_)
      · skip
        have tc29 := lt_l c29
        rw [Int32.toInt_toInt64] at tc29
        refine lv_aload_n hx hb dX11_verdictOn_34 rfl (lv_at hl 1 rfl) ?_
        refine lv_lload_n hx hb dX11_verdictOn_35 rfl (lv_at hl 0 rfl) ?_
        refine lv_l2i hx hb dX11_verdictOn_36 rfl ?_
        refine lv_topi (fun v36 ev36 => ?_)
        have tv36 : v36.toInt = v2.toInt := by rw [ev36]; exact l2i_b (by omega) (by omega)
        refine tk_r hH hS hA (tr_V (n := 1) (As := [.int v36]) hx hb hml hown hts hkb hH hOX hks hE hS hA (s_FW_rowsOf l D cs kf T O X a0 w hw gw ch gq v36 t_a0 t_w t_ch (by omega) (by omega) (hO.sub (by decide))) kw_830 kw_832 ks_21 kw_1 kw_833 (by decide +kernel) ⟨Nat.le_of_ble_eq_true rfl, Nat.le_of_ble_eq_true rfl⟩ (HT.recv (ci := 11) hkb hH t_a0 (hO.no t_a0 (by decide)) rfl) rfl rfl hl.1 (Nat.le_of_ble_eq_true rfl) dX11_verdictOn_37 ⟨Nat.le_of_ble_eq_true rfl, Nat.le_of_ble_eq_true rfl⟩) (fun v37 u H locs hz9 hH hS => ?_)
        obtain ⟨hu9, t_v37⟩ := hz9
        have hu9 : u = (T, O, X) := hu9
        subst hu9
        have hH : HT D cs A T O X H := hH
        refine W.widen (k := 0) (n := 0) (Nat.le_of_ble_eq_true rfl) (Nat.le_of_ble_eq_true rfl) ?_
        refine lv_astore (lv' := [(4, .ref v37), (2, .long v2), (0, .ref a0), (1, .ref a1)]) hx hb dX11_verdictOn_40 hl (by decide) rfl (fun ls hl => ?_)
        refine lv_aload_n hx hb dX11_verdictOn_42 rfl (lv_at hl 2 rfl) ?_
        refine tk_i hH hS hA (tr_V (n := 0) (As := []) hx hb hml hown hts hkb hH hOX hks hE hS hA (s_FW_openNow l D cs kf T O X a0 w hw gw ch gq t_a0 t_w t_ch (hO.sub (by decide))) kw_846 kw_848 ks_22 kw_1 kw_849 (by decide +kernel) ⟨Nat.le_of_ble_eq_true rfl, Nat.le_of_ble_eq_true rfl⟩ (HT.recv (ci := 11) hkb hH t_a0 (hO.no t_a0 (by decide)) rfl) rfl rfl hl.1 (Nat.le_of_ble_eq_true rfl) dX11_verdictOn_43 ⟨Nat.le_of_ble_eq_true rfl, Nat.le_of_ble_eq_true rfl⟩) (fun v43 u H locs hz9 hH hS => ?_)
        obtain ⟨rfl, l_v43, u_v43⟩ := hz9
        have hH : HT D cs A T O X H := hH
        refine W.widen (k := 0) (n := 0) (Nat.le_of_ble_eq_true rfl) (Nat.le_of_ble_eq_true rfl) ?_
        refine lv_istore (lv' := [(5, .int v43), (4, .ref v37), (2, .long v2), (0, .ref a0), (1, .ref a1)]) hx hb dX11_verdictOn_46 hl (by decide) rfl (fun ls hl => ?_)
        refine lv_iconst (v := 0) hx hb dX11_verdictOn_48 (by decide) ?_
        refine lv_istore (lv' := [(6, .int 0), (5, .int v43), (4, .ref v37), (2, .long v2), (0, .ref a0), (1, .ref a1)]) hx hb dX11_verdictOn_49 hl (by decide) rfl (fun ls hl => ?_)
        refine lv_iconst (v := (-1)) hx hb dX11_verdictOn_51 (by decide) ?_
        refine lv_istore (lv' := [(7, .int (-1)), (6, .int 0), (5, .int v43), (4, .ref v37), (2, .long v2), (0, .ref a0), (1, .ref a1)]) hx hb dX11_verdictOn_52 hl (by decide) rfl (fun ls hl => ?_)
        refine lv_iconst (v := 1) hx hb dX11_verdictOn_54 (by decide) ?_
        have J57 : ∀ (n : Nat) (p57_8 : Int32) (p57_7 : Int32) (p57_6 : Int32) (H : Heap) (locs : List Loc) (ls : Array Slot), (40 - p57_8.toInt).toNat = n → (1 ≤ p57_8.toInt) → (p57_8.toInt ≤ 40) → HT D cs A T O X H → va_S A s.heap H locs → lv_has ls 13 [(8, .int p57_8), (7, .int p57_7), (6, .int p57_6), (5, .int v43), (4, .ref v37), (0, .ref a0), (1, .ref a1)] → W p l e { frames := 4, cells := 0, slots := 0, locals := 101 } s m [.ref a0, .ref a1].toArray below meth c H locs 0 0 (MQ below (Ti D cs (fun r u => u = (T, O, X) ∧ -4 ≤ r.toInt ∧ r.toInt ≤ 324) A) [.ref a0, .ref a1].toArray s 0 0 A) (F0 m 57 ls []) := by
          intro n
          induction n using Nat.strongRecOn with
          | _ n ih57 =>
            intro p57_8 p57_7 p57_6 H locs ls hm57 l_p57_8 u_p57_8 hH hS hl
            refine lv_iload hx hb dX11_verdictOn_57 (lv_at hl 0 rfl) ?_
            refine lv_aload_n hx hb dX11_verdictOn_59 rfl (lv_at hl 6 rfl) ?_
            refine t_get (ci := 8) (lst := ft8 0 0) (C := RX8) (F := TX8) (N := 3) hx hb hts uX8 hown hkb hH t_a1 (hO.no t_a1 (by decide)) (fun _ h9 => h9) rfl rfl 2 (by decide) rfl kw_352 (fun _ h9 => h9) dX11_verdictOn_60 (fun v9 h9 => ?_)
            obtain ⟨v60, rfl, l_v60, u_v60⟩ := h9
            refine lv_icmp_ge (tgt := 216) hx hb dX11_verdictOn_63 (by decide) (fun c63 => ?_) (fun c63 => ?_)
            · skip
              have fuc63 := full_i p57_8
              have fvc63 := full_i v60
              have tc63 := g_le c63
              refine lv_iload hx hb dX11_verdictOn_216 (lv_at hl 1 rfl) ?_
              refine lv_iconst (v := (-1)) hx hb dX11_verdictOn_218 (by decide) ?_
              have J242 : ∀ (k242_0 : Int32) (H : Heap) (locs : List Loc) (ls : Array Slot), (0 ≤ k242_0.toInt) → (k242_0.toInt ≤ 1) → HT D cs A T O X H → va_S A s.heap H locs → lv_has ls 13 [(1, .ref a1)] → W p l e { frames := 4, cells := 0, slots := 0, locals := 101 } s m [.ref a0, .ref a1].toArray below meth c H locs 0 0 (MQ below (Ti D cs (fun r u => u = (T, O, X) ∧ -4 ≤ r.toInt ∧ r.toInt ≤ 324) A) [.ref a0, .ref a1].toArray s 0 0 A) (F0 m 242 ls [.int k242_0]) := by
                intro k242_0 H locs ls l_k242_0 u_k242_0 hH hS hl
                refine lv_istore (lv' := [(8, .int k242_0), (1, .ref a1)]) hx hb dX11_verdictOn_242 hl (by decide) rfl (fun ls hl => ?_)
                refine lv_iload hx hb dX11_verdictOn_244 (lv_at hl 0 rfl) ?_
                have J262 : ∀ (k262_0 : Int32) (H : Heap) (locs : List Loc) (ls : Array Slot), (-4 ≤ k262_0.toInt) → (k262_0.toInt ≤ 324) → HT D cs A T O X H → va_S A s.heap H locs → lv_has ls 13 [] → W p l e { frames := 4, cells := 0, slots := 0, locals := 101 } s m [.ref a0, .ref a1].toArray below meth c H locs 0 0 (MQ below (Ti D cs (fun r u => u = (T, O, X) ∧ -4 ≤ r.toInt ∧ r.toInt ≤ 324) A) [.ref a0, .ref a1].toArray s 0 0 A) (F0 m 262 ls [.int k262_0]) := by
                  intro k262_0 H locs ls l_k262_0 u_k262_0 hH hS hl
                  exact te_i hx hb hr hlocks hH hS (⟨rfl, by omega, by omega⟩) dX11_verdictOn_262
                refine lv_if_eq (tgt := 253) hx hb dX11_verdictOn_246 (by decide) (fun c246 => ?_) (fun c246 => ?_)
                · skip
                  have tc246 := f_eq (k := 0) (by decide) c246
                  refine lv_aload_n hx hb dX11_verdictOn_253 rfl (lv_at hl 1 rfl) ?_
                  refine t_get (ci := 8) (lst := ft8 0 0) (C := RX8) (F := TX8) (N := 3) hx hb hts uX8 hown hkb hH t_a1 (hO.no t_a1 (by decide)) (fun _ h9 => h9) rfl rfl 2 (by decide) rfl kw_352 (fun _ h9 => h9) dX11_verdictOn_254 (fun v9 h9 => ?_)
                  obtain ⟨v254, rfl, l_v254, u_v254⟩ := h9
                  refine lv_bipush (v := 8) hx hb dX11_verdictOn_257 (by decide) ?_
                  refine lv_imul hx hb dX11_verdictOn_259 ?_
                  refine lv_topi (fun v259 ev259 => ?_)
                  have tv259 : v259.toInt = v254.toInt * (8) := by rw [ev259]; exact mul_i rfl (by decide : (8 : Int32).toInt = 8) (by omega) (by omega)
                  refine lv_iconst (v := 4) hx hb dX11_verdictOn_260 (by decide) ?_
                  refine lv_iadd hx hb dX11_verdictOn_261 ?_
                  refine lv_topi (fun v261 ev261 => ?_)
                  have tv261 : v261.toInt = v259.toInt + (4) := by rw [ev261]; exact add_i rfl (by decide : (4 : Int32).toInt = 4) (by omega) (by omega)
                  exact J262 v261 _ _ _ (by omega) (by omega) hH hS (lv_sub hl [] rfl)
                · skip
                  have tc246 := f_ne (k := 0) (by decide) c246
                  refine lv_iconst (v := 0) hx hb dX11_verdictOn_249 (by decide) ?_
                  refine lv_goto (tgt := 262) hx hb dX11_verdictOn_250 (by decide) ?_
                  exact J262 0 _ _ _ (by decide) (by decide) hH hS (lv_sub hl [] rfl)
              have J241 : ∀  (H : Heap) (locs : List Loc) (ls : Array Slot), HT D cs A T O X H → va_S A s.heap H locs → lv_has ls 13 [(1, .ref a1)] → W p l e { frames := 4, cells := 0, slots := 0, locals := 101 } s m [.ref a0, .ref a1].toArray below meth c H locs 0 0 (MQ below (Ti D cs (fun r u => u = (T, O, X) ∧ -4 ≤ r.toInt ∧ r.toInt ≤ 324) A) [.ref a0, .ref a1].toArray s 0 0 A) (F0 m 241 ls []) := by
                intro  H locs ls  hH hS hl
                refine lv_iconst (v := 0) hx hb dX11_verdictOn_241 (by decide) ?_
                exact J242 0 _ _ _ (by decide) (by decide) hH hS (lv_sub hl [0] rfl)
              refine lv_icmp_eq (tgt := 241) hx hb dX11_verdictOn_219 (by decide) (fun c219 => ?_) (fun c219 => ?_)
              · skip
                have tc219 := f_eq (k := -1) (by decide) c219
                exact J241  _ _ _  hH hS (lv_sub hl [6] rfl)
              · skip
                have tc219 := f_ne (k := -1) (by decide) c219
                refine lv_aload_n hx hb dX11_verdictOn_222 rfl (lv_at hl 5 rfl) ?_
                refine t_get (ci := 11) (lst := ft11 w ch) (C := RX11) (F := TX11) (N := 20) hx hb hts uX11 hown hkb hH t_a0 (hO.no t_a0 (by decide)) (fun _ h9 => h9) rfl rfl 3 (by decide) rfl kw_363 (fun _ h9 => h9) dX11_verdictOn_223 (fun v9 h9 => ?_)
                have h9 : v9 = .ref w := h9
                subst h9
                refine t_get (ci := 9) (lst := ft9w hw gw) (C := RX9) (F := TX9) (N := 14) hx hb hts uX9 hown hkb hH t_w.1 (hO.no t_w.1 (by decide)) (fun fs => (ob9w t_w fs).mp) rfl rfl 4 (by decide) rfl kw_128 (fun _ h9 => h9) dX11_verdictOn_226 (fun v9 h9 => ?_)
                obtain ⟨v226, rfl, l_v226, u_v226⟩ := h9
                refine lv_iload hx hb dX11_verdictOn_229 (lv_at hl 1 rfl) ?_
                refine lv_ishr hx hb dX11_verdictOn_231 ?_
                refine lv_topi (fun v231 ev231 => ?_)
                have tv231 : 0 ≤ v231.toInt ∧ v231.toInt ≤ v226.toInt := by rw [ev231]; exact shr_b (by omega)
                refine lv_iconst (v := 1) hx hb dX11_verdictOn_232 (by decide) ?_
                refine lv_iand hx hb dX11_verdictOn_233 ?_
                refine lv_topi (fun v233 ev233 => ?_)
                have tv233 : 0 ≤ v233.toInt ∧ v233.toInt ≤ 1 := by rw [ev233]; exact and_r (by decide)
                refine lv_if_eq (tgt := 241) hx hb dX11_verdictOn_234 (by decide) (fun c234 => ?_) (fun c234 => ?_)
                · skip
                  have tc234 := f_eq (k := 0) (by decide) c234
                  exact J241  _ _ _  hH hS (lv_sub hl [6] rfl)
                · skip
                  have tc234 := f_ne (k := 0) (by decide) c234
                  refine lv_iconst (v := 1) hx hb dX11_verdictOn_237 (by decide) ?_
                  refine lv_goto (tgt := 242) hx hb dX11_verdictOn_238 (by decide) ?_
                  exact J242 1 _ _ _ (by decide) (by decide) hH hS (lv_sub hl [6] rfl)
            · skip
              have fuc63 := full_i p57_8
              have fvc63 := full_i v60
              have tc63 := g_nle c63
              refine lv_aload_n hx hb dX11_verdictOn_66 rfl (lv_at hl 6 rfl) ?_
              refine lv_iload hx hb dX11_verdictOn_67 (lv_at hl 0 rfl) ?_
              refine tk_l hH hS hA (tr_V (n := 1) (As := [.int p57_8]) hx hb hml hown hts hkb hH hOX hks hE hS hA (s_Tray_at l D cs kf T O X a1 p57_8 t_a1 (hO.sub (by decide))) kw_882 kw_883 kw_884 kw_12 kw_885 (by decide +kernel) ⟨Nat.le_of_ble_eq_true rfl, Nat.le_of_ble_eq_true rfl⟩ (HT.recv (ci := 8) hkb hH t_a1 (hO.no t_a1 (by decide)) rfl) rfl rfl hl.1 (Nat.le_of_ble_eq_true rfl) dX11_verdictOn_69 ⟨Nat.le_of_ble_eq_true rfl, Nat.le_of_ble_eq_true rfl⟩) (fun v69 u H locs hz9 hH hS => ?_)
              have hz9 : u = (T, O, X) := hz9
              subst hz9
              have hH : HT D cs A T O X H := hH
              refine W.widen (k := 0) (n := 0) (Nat.le_of_ble_eq_true rfl) (Nat.le_of_ble_eq_true rfl) ?_
              refine lv_lstore (lv' := [(9, .long v69), (8, .int p57_8), (7, .int p57_7), (6, .int p57_6), (5, .int v43), (4, .ref v37), (0, .ref a0), (1, .ref a1)]) hx hb dX11_verdictOn_72 hl (by decide) rfl (fun ls hl => ?_)
              refine lv_lload hx hb dX11_verdictOn_74 (lv_at hl 0 rfl) ?_
              refine lv_lconst (v := 0) hx hb dX11_verdictOn_76 (by decide) ?_
              refine W.lcmp hx hb dX11_verdictOn_77 ?_
              have J95 : ∀  (H : Heap) (locs : List Loc) (ls : Array Slot), HT D cs A T O X H → va_S A s.heap H locs → lv_has ls 13 [(8, .int p57_8)] → W p l e { frames := 4, cells := 0, slots := 0, locals := 101 } s m [.ref a0, .ref a1].toArray below meth c H locs 0 0 (MQ below (Ti D cs (fun r u => u = (T, O, X) ∧ -4 ≤ r.toInt ∧ r.toInt ≤ 324) A) [.ref a0, .ref a1].toArray s 0 0 A) (F0 m 95 ls []) := by
                intro  H locs ls  hH hS hl
                refine lv_iload hx hb dX11_verdictOn_95 (lv_at hl 0 rfl) ?_
                refine lv_bipush (v := 8) hx hb dX11_verdictOn_97 (by decide) ?_
                refine lv_imul hx hb dX11_verdictOn_99 ?_
                refine lv_topi (fun v99 ev99 => ?_)
                have tv99 : v99.toInt = p57_8.toInt * (8) := by rw [ev99]; exact mul_i rfl (by decide : (8 : Int32).toInt = 8) (by omega) (by omega)
                refine lv_iconst (v := 1) hx hb dX11_verdictOn_100 (by decide) ?_
                refine lv_iadd hx hb dX11_verdictOn_101 ?_
                refine lv_topi (fun v101 ev101 => ?_)
                have tv101 : v101.toInt = v99.toInt + (1) := by rw [ev101]; exact add_i rfl (by decide : (1 : Int32).toInt = 1) (by omega) (by omega)
                exact te_i hx hb hr hlocks hH hS (⟨rfl, by omega, by omega⟩) dX11_verdictOn_102
              refine lv_if_lt (tgt := 95) hx hb dX11_verdictOn_78 (by decide) (fun c78 => ?_) (fun c78 => ?_)
              · skip
                have tc78 := lt_l c78
                have kc78_0 : (0 : Int64).toInt = 0 := by decide
                exact J95  _ _ _  hH hS (lv_sub hl [1] rfl)
              · skip
                have tc78 := nlt_l c78
                have kc78_0 : (0 : Int64).toInt = 0 := by decide
                refine lv_lload hx hb dX11_verdictOn_81 (lv_at hl 0 rfl) ?_
                refine lv_aload_n hx hb dX11_verdictOn_83 rfl (lv_at hl 6 rfl) ?_
                refine t_get (ci := 11) (lst := ft11 w ch) (C := RX11) (F := TX11) (N := 20) hx hb hts uX11 hown hkb hH t_a0 (hO.no t_a0 (by decide)) (fun _ h9 => h9) rfl rfl 3 (by decide) rfl kw_363 (fun _ h9 => h9) dX11_verdictOn_84 (fun v9 h9 => ?_)
                have h9 : v9 = .ref w := h9
                subst h9
                refine t_get (ci := 9) (lst := ft9w hw gw) (C := RX9) (F := TX9) (N := 14) hx hb hts uX9 hown hkb hH t_w.1 (hO.no t_w.1 (by decide)) (fun fs => (ob9w t_w fs).mp) rfl rfl 0 (by decide) rfl kw_109 (fun _ h9 => h9) dX11_verdictOn_87 (fun v9 h9 => ?_)
                have h9 : v9 = .int (nI hw) := h9
                subst h9
                have e_hw : (nI hw).toInt = hw := nI_toInt (by have := t_w.2.1; omega)
                have b_hw := t_w.2.1
                refine lv_i2l hx hb dX11_verdictOn_90 rfl ?_
                refine W.lcmp hx hb dX11_verdictOn_91 ?_
                refine lv_if_lt (tgt := 103) hx hb dX11_verdictOn_92 (by decide) (fun c92 => ?_) (fun c92 => ?_)
                · skip
                  have tc92 := lt_l c92
                  rw [Int32.toInt_toInt64] at tc92
                  refine lv_lload hx hb dX11_verdictOn_103 (lv_at hl 0 rfl) ?_
                  refine lv_l2i hx hb dX11_verdictOn_105 rfl ?_
                  refine lv_topi (fun v105 ev105 => ?_)
                  have tv105 : v105.toInt = v69.toInt := by rw [ev105]; exact l2i_b (by omega) (by omega)
                  refine lv_istore (lv' := [(11, .int v105), (9, .long v69), (8, .int p57_8), (7, .int p57_7), (6, .int p57_6), (5, .int v43), (4, .ref v37), (0, .ref a0), (1, .ref a1)]) hx hb dX11_verdictOn_106 hl (by decide) rfl (fun ls hl => ?_)
                  refine lv_iload hx hb dX11_verdictOn_108 (lv_at hl 5 rfl) ?_
                  refine lv_iload hx hb dX11_verdictOn_110 (lv_at hl 4 rfl) ?_
                  refine lv_iconst (v := (-1)) hx hb dX11_verdictOn_112 (by decide) ?_
                  refine lv_ixor hx hb dX11_verdictOn_113 ?_
                  refine lv_topi (fun v113 ev113 => ?_)
                  refine lv_iand hx hb dX11_verdictOn_114 ?_
                  refine lv_topi (fun v114 ev114 => ?_)
                  have tv114 : 0 ≤ v114.toInt ∧ v114.toInt ≤ v43.toInt := by rw [ev114]; exact and_l (by omega)
                  refine lv_iload hx hb dX11_verdictOn_115 (lv_at hl 0 rfl) ?_
                  refine lv_ishr hx hb dX11_verdictOn_117 ?_
                  refine lv_topi (fun v117 ev117 => ?_)
                  have tv117 : 0 ≤ v117.toInt ∧ v117.toInt ≤ v114.toInt := by rw [ev117]; exact shr_b (by omega)
                  refine lv_iconst (v := 1) hx hb dX11_verdictOn_118 (by decide) ?_
                  refine lv_iand hx hb dX11_verdictOn_119 ?_
                  refine lv_topi (fun v119 ev119 => ?_)
                  have tv119 : 0 ≤ v119.toInt ∧ v119.toInt ≤ 1 := by rw [ev119]; exact and_r (by decide)
                  refine lv_if_ne (tgt := 131) hx hb dX11_verdictOn_120 (by decide) (fun c120 => ?_) (fun c120 => ?_)
                  · skip
                    have tc120 := f_ne (k := 0) (by decide) c120
                    refine lv_iload hx hb dX11_verdictOn_131 (lv_at hl 3 rfl) ?_
                    refine lv_iconst (v := (-1)) hx hb dX11_verdictOn_133 (by decide) ?_
                    have J177 : ∀ (k177_0 : Int32) (H : Heap) (locs : List Loc) (ls : Array Slot), (0 ≤ k177_0.toInt) → (k177_0.toInt ≤ 16383) → HT D cs A T O X H → va_S A s.heap H locs → lv_has ls 13 [(11, .int v105), (8, .int p57_8), (6, .int p57_6), (5, .int v43), (4, .ref v37), (0, .ref a0), (1, .ref a1)] → W p l e { frames := 4, cells := 0, slots := 0, locals := 101 } s m [.ref a0, .ref a1].toArray below meth c H locs 0 0 (MQ below (Ti D cs (fun r u => u = (T, O, X) ∧ -4 ≤ r.toInt ∧ r.toInt ≤ 324) A) [.ref a0, .ref a1].toArray s 0 0 A) (F0 m 177 ls [.int k177_0]) := by
                      intro k177_0 H locs ls l_k177_0 u_k177_0 hH hS hl
                      refine lv_istore (lv' := [(12, .int k177_0), (11, .int v105), (8, .int p57_8), (6, .int p57_6), (5, .int v43), (4, .ref v37), (0, .ref a0), (1, .ref a1)]) hx hb dX11_verdictOn_177 hl (by decide) rfl (fun ls hl => ?_)
                      refine lv_iload hx hb dX11_verdictOn_179 (lv_at hl 0 rfl) ?_
                      refine lv_iload hx hb dX11_verdictOn_181 (lv_at hl 1 rfl) ?_
                      refine lv_ishr hx hb dX11_verdictOn_183 ?_
                      refine lv_topi (fun v183 ev183 => ?_)
                      have tv183 : 0 ≤ v183.toInt ∧ v183.toInt ≤ k177_0.toInt := by rw [ev183]; exact shr_b (by omega)
                      refine lv_iconst (v := 1) hx hb dX11_verdictOn_184 (by decide) ?_
                      refine lv_iand hx hb dX11_verdictOn_185 ?_
                      refine lv_topi (fun v185 ev185 => ?_)
                      have tv185 : 0 ≤ v185.toInt ∧ v185.toInt ≤ 1 := by rw [ev185]; exact and_r (by decide)
                      refine lv_if_ne (tgt := 197) hx hb dX11_verdictOn_186 (by decide) (fun c186 => ?_) (fun c186 => ?_)
                      · skip
                        have tc186 := f_ne (k := 0) (by decide) c186
                        refine lv_iload hx hb dX11_verdictOn_197 (lv_at hl 3 rfl) ?_
                        refine lv_iconst (v := 1) hx hb dX11_verdictOn_199 (by decide) ?_
                        refine lv_iload hx hb dX11_verdictOn_200 (lv_at hl 1 rfl) ?_
                        refine lv_ishl hx hb dX11_verdictOn_202 ?_
                        refine lv_topi (fun v202 ev202 => ?_)
                        refine lv_ior hx hb dX11_verdictOn_203 ?_
                        refine lv_topi (fun v203 ev203 => ?_)
                        refine lv_istore (lv' := [(6, .int v203), (12, .int k177_0), (11, .int v105), (8, .int p57_8), (5, .int v43), (4, .ref v37), (0, .ref a0), (1, .ref a1)]) hx hb dX11_verdictOn_204 hl (by decide) rfl (fun ls hl => ?_)
                        refine lv_iload hx hb dX11_verdictOn_206 (lv_at hl 2 rfl) ?_
                        refine lv_istore (lv' := [(7, .int v105), (6, .int v203), (12, .int k177_0), (11, .int v105), (8, .int p57_8), (5, .int v43), (4, .ref v37), (0, .ref a0), (1, .ref a1)]) hx hb dX11_verdictOn_208 hl (by decide) rfl (fun ls hl => ?_)
                        obtain ⟨v210, ev210⟩ : ∃ y : Int32, y = p57_8 + 1 := ⟨_, rfl⟩
                        have tv210 : v210.toInt = p57_8.toInt + (1) := by rw [ev210]; exact add_i rfl (by decide) (by omega) (by omega)
                        refine lv_iinc (v := v210) (lv' := [(8, .int v210), (7, .int v105), (6, .int v203), (12, .int k177_0), (11, .int v105), (5, .int v43), (4, .ref v37), (0, .ref a0), (1, .ref a1)]) hx hb dX11_verdictOn_210 hl (k := 4) rfl (by rw [ev210]; rfl) (by decide) rfl (fun ls hl => ?_)
                        refine lv_goto (tgt := 57) hx hb dX11_verdictOn_213 (by decide) ?_
                        exact ih57 _ (by omega) v210 v105 v203 _ _ _ rfl (by omega) (by omega) hH hS (lv_sub hl [0, 1, 2, 5, 6, 7, 8] rfl)
                      · skip
                        have tc186 := f_eq (k := 0) (by decide) c186
                        refine lv_iload hx hb dX11_verdictOn_189 (lv_at hl 2 rfl) ?_
                        refine lv_bipush (v := 8) hx hb dX11_verdictOn_191 (by decide) ?_
                        refine lv_imul hx hb dX11_verdictOn_193 ?_
                        refine lv_topi (fun v193 ev193 => ?_)
                        have tv193 : v193.toInt = p57_8.toInt * (8) := by rw [ev193]; exact mul_i rfl (by decide : (8 : Int32).toInt = 8) (by omega) (by omega)
                        refine lv_iconst (v := 3) hx hb dX11_verdictOn_194 (by decide) ?_
                        refine lv_iadd hx hb dX11_verdictOn_195 ?_
                        refine lv_topi (fun v195 ev195 => ?_)
                        have tv195 : v195.toInt = v193.toInt + (3) := by rw [ev195]; exact add_i rfl (by decide : (3 : Int32).toInt = 3) (by omega) (by omega)
                        exact te_i hx hb hr hlocks hH hS (⟨rfl, by omega, by omega⟩) dX11_verdictOn_196
                    refine lv_icmp_ne (tgt := 147) hx hb dX11_verdictOn_134 (by decide) (fun c134 => ?_) (fun c134 => ?_)
                    · skip
                      have tc134 := f_ne (k := -1) (by decide) c134
                      refine lv_aload_n hx hb dX11_verdictOn_147 rfl (lv_at hl 7 rfl) ?_
                      refine t_get (ci := 11) (lst := ft11 w ch) (C := RX11) (F := TX11) (N := 20) hx hb hts uX11 hown hkb hH t_a0 (hO.no t_a0 (by decide)) (fun _ h9 => h9) rfl rfl 3 (by decide) rfl kw_363 (fun _ h9 => h9) dX11_verdictOn_148 (fun v9 h9 => ?_)
                      have h9 : v9 = .ref w := h9
                      subst h9
                      refine t_get (ci := 9) (lst := ft9w hw gw) (C := RX9) (F := TX9) (N := 14) hx hb hts uX9 hown hkb hH t_w.1 (hO.no t_w.1 (by decide)) (fun fs => (ob9w t_w fs).mp) rfl rfl 4 (by decide) rfl kw_128 (fun _ h9 => h9) dX11_verdictOn_151 (fun v9 h9 => ?_)
                      obtain ⟨v151, rfl, l_v151, u_v151⟩ := h9
                      refine lv_iload hx hb dX11_verdictOn_154 (lv_at hl 3 rfl) ?_
                      refine lv_ishr hx hb dX11_verdictOn_156 ?_
                      refine lv_topi (fun v156 ev156 => ?_)
                      have tv156 : 0 ≤ v156.toInt ∧ v156.toInt ≤ v151.toInt := by rw [ev156]; exact shr_b (by omega)
                      refine lv_iconst (v := 1) hx hb dX11_verdictOn_157 (by decide) ?_
                      refine lv_iand hx hb dX11_verdictOn_158 ?_
                      refine lv_topi (fun v158 ev158 => ?_)
                      have tv158 : 0 ≤ v158.toInt ∧ v158.toInt ≤ 1 := by rw [ev158]; exact and_r (by decide)
                      refine lv_if_eq (tgt := 166) hx hb dX11_verdictOn_159 (by decide) (fun c159 => ?_) (fun c159 => ?_)
                      · skip
                        have tc159 := f_eq (k := 0) (by decide) c159
                        refine lv_aload hx hb dX11_verdictOn_166 (lv_at hl 6 rfl) ?_
                        refine lv_iload hx hb dX11_verdictOn_168 (lv_at hl 3 rfl) ?_
                        refine lv_iconst (v := 1) hx hb dX11_verdictOn_170 (by decide) ?_
                        refine lv_iload hx hb dX11_verdictOn_171 (lv_at hl 0 rfl) ?_
                        refine lv_ishl hx hb dX11_verdictOn_173 ?_
                        refine lv_topi (fun v173 ev173 => ?_)
                        have tv173 : 1 ≤ v173.toInt ∧ v173.toInt ≤ 8192 := by rw [ev173]; exact shl_b 13 (by decide) (by omega) (by omega)
                        refine tk_i hH hS hA (tr_V (n := 2) (As := [.int p57_7, .int v173]) hx hb hml hown hts hkb hH hOX hks hE hS hA (s_Rows_stepped l D cs kf T O X v37 p57_7 v173 t_v37 (hO.sub (by decide))) kw_887 kw_863 kw_864 kw_8 kw_865 (by decide +kernel) ⟨Nat.le_of_ble_eq_true rfl, Nat.le_of_ble_eq_true rfl⟩ (HT.recv (ci := 5) hkb hH t_v37 (hO.no t_v37 (by decide)) rfl) rfl rfl hl.1 (Nat.le_of_ble_eq_true rfl) dX11_verdictOn_174 ⟨Nat.le_of_ble_eq_true rfl, Nat.le_of_ble_eq_true rfl⟩) (fun v174 u H locs hz9 hH hS => ?_)
                        obtain ⟨rfl, l_v174, u_v174⟩ := hz9
                        have hH : HT D cs A T O X H := hH
                        refine W.widen (k := 0) (n := 0) (Nat.le_of_ble_eq_true rfl) (Nat.le_of_ble_eq_true rfl) ?_
                        exact J177 v174 _ _ _ (by omega) (by omega) hH hS (lv_sub hl [0, 2, 4, 5, 6, 7, 8] rfl)
                      · skip
                        have tc159 := f_ne (k := 0) (by decide) c159
                        refine lv_iconst (v := 0) hx hb dX11_verdictOn_162 (by decide) ?_
                        refine lv_goto (tgt := 177) hx hb dX11_verdictOn_163 (by decide) ?_
                        exact J177 0 _ _ _ (by decide) (by decide) hH hS (lv_sub hl [0, 2, 4, 5, 6, 7, 8] rfl)
                    · skip
                      have tc134 := f_eq (k := -1) (by decide) c134
                      refine lv_aload_n hx hb dX11_verdictOn_137 rfl (lv_at hl 7 rfl) ?_
                      refine t_get (ci := 11) (lst := ft11 w ch) (C := RX11) (F := TX11) (N := 20) hx hb hts uX11 hown hkb hH t_a0 (hO.no t_a0 (by decide)) (fun _ h9 => h9) rfl rfl 3 (by decide) rfl kw_363 (fun _ h9 => h9) dX11_verdictOn_138 (fun v9 h9 => ?_)
                      have h9 : v9 = .ref w := h9
                      subst h9
                      refine t_get (ci := 9) (lst := ft9w hw gw) (C := RX9) (F := TX9) (N := 14) hx hb hts uX9 hown hkb hH t_w.1 (hO.no t_w.1 (by decide)) (fun fs => (ob9w t_w fs).mp) rfl rfl 3 (by decide) rfl kw_122 (fun _ h9 => h9) dX11_verdictOn_141 (fun v9 h9 => ?_)
                      obtain ⟨v141, rfl, l_v141, u_v141⟩ := h9
                      refine lv_goto (tgt := 177) hx hb dX11_verdictOn_144 (by decide) ?_
                      exact J177 v141 _ _ _ (by omega) (by omega) hH hS (lv_sub hl [0, 2, 4, 5, 6, 7, 8] rfl)
                  · skip
                    have tc120 := f_eq (k := 0) (by decide) c120
                    refine lv_iload hx hb dX11_verdictOn_123 (lv_at hl 2 rfl) ?_
                    refine lv_bipush (v := 8) hx hb dX11_verdictOn_125 (by decide) ?_
                    refine lv_imul hx hb dX11_verdictOn_127 ?_
                    refine lv_topi (fun v127 ev127 => ?_)
                    have tv127 : v127.toInt = p57_8.toInt * (8) := by rw [ev127]; exact mul_i rfl (by decide : (8 : Int32).toInt = 8) (by omega) (by omega)
                    refine lv_iconst (v := 2) hx hb dX11_verdictOn_128 (by decide) ?_
                    refine lv_iadd hx hb dX11_verdictOn_129 ?_
                    refine lv_topi (fun v129 ev129 => ?_)
                    have tv129 : v129.toInt = v127.toInt + (2) := by rw [ev129]; exact add_i rfl (by decide : (2 : Int32).toInt = 2) (by omega) (by omega)
                    exact te_i hx hb hr hlocks hH hS (⟨rfl, by omega, by omega⟩) dX11_verdictOn_130
                · skip
                  have tc92 := nlt_l c92
                  rw [Int32.toInt_toInt64] at tc92
                  exact J95  _ _ _  hH hS (lv_sub hl [1] rfl)
        refine lv_istore (lv' := [(8, .int 1), (7, .int (-1)), (6, .int 0), (5, .int v43), (4, .ref v37), (2, .long v2), (0, .ref a0), (1, .ref a1)]) hx hb dX11_verdictOn_55 hl (by decide) rfl (fun ls hl => ?_)
        exact J57 _ 1 (-1) 0 _ _ _ rfl (by decide) (by decide) hH hS (lv_sub hl [0, 1, 2, 3, 4, 6, 7] rfl)
      · skip
        have tc29 := nlt_l c29
        rw [Int32.toInt_toInt64] at tc29
        exact J32  _ _ _  hH hS (lv_sub hl [] rfl)
set_option maxHeartbeats 4000000 in
set_option maxRecDepth 100000 in
theorem s_FW_toldSet (l : Launch) (D : va_G) (cs : CS) (kf : KF) (T : TF) (O : List Nat) (X : va_W) (a0 w hw gw ch gq : Nat) (a1 : Nat) (t_a0 : T a0 = some (21, w, ch)) (t_w : isW T w hw gw) (t_ch : T ch = some (10, gq, 0)) (t_a1 : T a1 = some (18, 0, 0)) (hO : okO T O [2, 18, 19, 21]) : TK l D cs kf yX11_toldSet cX11_toldSet 4 (some (.int)) { frames := 1, cells := 0, slots := 0, locals := 21 } [.ref a0, .ref a1] T O X (Ti D cs (fun r u => u = (T, O, X) ∧ 0 ≤ r.toInt ∧ r.toInt ≤ 16383)) := by
  refine tk_of (by decide) (Nat.le_of_ble_eq_true rfl) (fun p e s m below meth c ls A H locs hx hb hr hml hown hts hlocks hnm hkb hH hS hA hOX hks hE hl => ?_)
  have hown : s.vm.findClass RX11 = some m.cls := hown
  have hl : lv_has ls 4 [(0, .ref a0), (1, .ref a1)] := hl
  have b1_w := t_w.2.1
  have b2_w := t_w.2.2
  refine lv_iconst (v := 0) hx hb dX11_toldSet_0 (by decide) ?_
  refine lv_istore_n (lv' := [(2, .int 0), (0, .ref a0), (1, .ref a1)]) hx hb dX11_toldSet_1 rfl hl (by decide) rfl (fun ls hl => ?_)
  refine lv_iconst (v := 1) hx hb dX11_toldSet_2 (by decide) ?_
  have J4 : ∀ (n : Nat) (p4_3 : Int32) (p4_2 : Int32) (H : Heap) (locs : List Loc) (ls : Array Slot), (40 - p4_3.toInt).toNat = n → (1 ≤ p4_3.toInt) → (p4_3.toInt ≤ 40) → HT D cs A T O X H → va_S A s.heap H locs → lv_has ls 4 [(3, .int p4_3), (2, .int p4_2), (0, .ref a0), (1, .ref a1)] → W p l e { frames := 1, cells := 0, slots := 0, locals := 21 } s m [.ref a0, .ref a1].toArray below meth c H locs 0 0 (MQ below (Ti D cs (fun r u => u = (T, O, X) ∧ 0 ≤ r.toInt ∧ r.toInt ≤ 16383) A) [.ref a0, .ref a1].toArray s 0 0 A) (F0 m 4 ls []) := by
    intro n
    induction n using Nat.strongRecOn with
    | _ n ih4 =>
      intro p4_3 p4_2 H locs ls hm4 l_p4_3 u_p4_3 hH hS hl
      refine lv_iload_n hx hb dX11_toldSet_4 rfl (lv_at hl 0 rfl) ?_
      refine lv_aload_n hx hb dX11_toldSet_5 rfl (lv_at hl 3 rfl) ?_
      refine t_get (ci := 8) (lst := ft8 0 0) (C := RX8) (F := TX8) (N := 3) hx hb hts uX8 hown hkb hH t_a1 (hO.no t_a1 (by decide)) (fun _ h9 => h9) rfl rfl 2 (by decide) rfl kw_352 (fun _ h9 => h9) dX11_toldSet_6 (fun v9 h9 => ?_)
      obtain ⟨v6, rfl, l_v6, u_v6⟩ := h9
      refine lv_icmp_ge (tgt := 29) hx hb dX11_toldSet_9 (by decide) (fun c9 => ?_) (fun c9 => ?_)
      · skip
        have fuc9 := full_i p4_3
        have fvc9 := full_i v6
        have tc9 := g_le c9
        refine lv_iload_n hx hb dX11_toldSet_29 rfl (lv_at hl 1 rfl) ?_
        refine lv_aload_n hx hb dX11_toldSet_30 rfl (lv_at hl 2 rfl) ?_
        refine t_get (ci := 11) (lst := ft11 w ch) (C := RX11) (F := TX11) (N := 20) hx hb hts uX11 hown hkb hH t_a0 (hO.no t_a0 (by decide)) (fun _ h9 => h9) rfl rfl 3 (by decide) rfl kw_363 (fun _ h9 => h9) dX11_toldSet_31 (fun v9 h9 => ?_)
        have h9 : v9 = .ref w := h9
        subst h9
        refine tk_i hH hS hA (tr_V (n := 0) (As := []) hx hb hml hown hts hkb hH hOX hks hE hS hA (s_Wall_middles l D cs kf T O X w hw gw t_w (hO.sub (by decide))) kw_892 kw_683 kw_684 kw_5 kw_685 (by decide +kernel) ⟨Nat.le_of_ble_eq_true rfl, Nat.le_of_ble_eq_true rfl⟩ (HT.recv (ci := 9) hkb hH t_w.1 (hO.no t_w.1 (by decide)) rfl) rfl rfl hl.1 (Nat.le_of_ble_eq_true rfl) dX11_toldSet_34 ⟨Nat.le_of_ble_eq_true rfl, Nat.le_of_ble_eq_true rfl⟩) (fun v34 u H locs hz9 hH hS => ?_)
        obtain ⟨rfl, l_v34, u_v34⟩ := hz9
        have hH : HT D cs A T O X H := hH
        refine W.widen (k := 0) (n := 0) (Nat.le_of_ble_eq_true rfl) (Nat.le_of_ble_eq_true rfl) ?_
        refine lv_iand hx hb dX11_toldSet_37 ?_
        refine lv_topi (fun v37 ev37 => ?_)
        have tv37 : 0 ≤ v37.toInt ∧ v37.toInt ≤ v34.toInt := by rw [ev37]; exact and_r (by omega)
        exact te_i hx hb hr hlocks hH hS (⟨rfl, by omega, by omega⟩) dX11_toldSet_38
      · skip
        have fuc9 := full_i p4_3
        have fvc9 := full_i v6
        have tc9 := g_nle c9
        refine lv_iload_n hx hb dX11_toldSet_12 rfl (lv_at hl 1 rfl) ?_
        refine lv_iconst (v := 1) hx hb dX11_toldSet_13 (by decide) ?_
        refine lv_aload_n hx hb dX11_toldSet_14 rfl (lv_at hl 3 rfl) ?_
        refine lv_iload_n hx hb dX11_toldSet_15 rfl (lv_at hl 0 rfl) ?_
        refine tk_l hH hS hA (tr_V (n := 1) (As := [.int p4_3]) hx hb hml hown hts hkb hH hOX hks hE hS hA (s_Tray_at l D cs kf T O X a1 p4_3 t_a1 (hO.sub (by decide))) kw_882 kw_883 kw_884 kw_12 kw_885 (by decide +kernel) ⟨Nat.le_of_ble_eq_true rfl, Nat.le_of_ble_eq_true rfl⟩ (HT.recv (ci := 8) hkb hH t_a1 (hO.no t_a1 (by decide)) rfl) rfl rfl hl.1 (Nat.le_of_ble_eq_true rfl) dX11_toldSet_16 ⟨Nat.le_of_ble_eq_true rfl, Nat.le_of_ble_eq_true rfl⟩) (fun v16 u H locs hz9 hH hS => ?_)
        have hz9 : u = (T, O, X) := hz9
        subst hz9
        have hH : HT D cs A T O X H := hH
        refine W.widen (k := 0) (n := 0) (Nat.le_of_ble_eq_true rfl) (Nat.le_of_ble_eq_true rfl) ?_
        refine lv_l2i hx hb dX11_toldSet_19 rfl ?_
        refine lv_topi (fun v19 ev19 => ?_)
        refine lv_ishl hx hb dX11_toldSet_20 ?_
        refine lv_topi (fun v20 ev20 => ?_)
        refine lv_ior hx hb dX11_toldSet_21 ?_
        refine lv_topi (fun v21 ev21 => ?_)
        refine lv_istore_n (lv' := [(2, .int v21), (3, .int p4_3), (0, .ref a0), (1, .ref a1)]) hx hb dX11_toldSet_22 rfl hl (by decide) rfl (fun ls hl => ?_)
        obtain ⟨v23, ev23⟩ : ∃ y : Int32, y = p4_3 + 1 := ⟨_, rfl⟩
        have tv23 : v23.toInt = p4_3.toInt + (1) := by rw [ev23]; exact add_i rfl (by decide) (by omega) (by omega)
        refine lv_iinc (v := v23) (lv' := [(3, .int v23), (2, .int v21), (0, .ref a0), (1, .ref a1)]) hx hb dX11_toldSet_23 hl (k := 1) rfl (by rw [ev23]; rfl) (by decide) rfl (fun ls hl => ?_)
        refine lv_goto (tgt := 4) hx hb dX11_toldSet_26 (by decide) ?_
        exact ih4 _ (by omega) v23 v21 _ _ _ rfl (by omega) (by omega) hH hS (lv_sub hl [0, 1, 2, 3] rfl)
  refine lv_istore_n (lv' := [(3, .int 1), (2, .int 0), (0, .ref a0), (1, .ref a1)]) hx hb dX11_toldSet_3 rfl hl (by decide) rfl (fun ls hl => ?_)
  exact J4 _ 1 0 _ _ _ rfl (by decide) (by decide) hH hS (lv_sub hl [0, 1, 2, 3] rfl)
set_option maxHeartbeats 4000000 in
set_option maxRecDepth 100000 in
theorem s_FW_judge (l : Launch) (D : va_G) (cs : CS) (kf : KF) (T : TF) (O : List Nat) (X : va_W) (a0 w hw gw ch gq : Nat) (x1 : Int32) (x2 : Int32) (t_a0 : T a0 = some (21, w, ch)) (t_w : isW T w hw gw) (t_ch : T ch = some (10, gq, 0)) (hO : okO T O [1, 2, 6, 7, 12, 15, 16, 18, 19, 21]) : TK l D cs kf yX11_judge cX11_judge 5 (some (.int)) { frames := 5, cells := 0, slots := 0, locals := 133 } [.ref a0, .int x1, .int x2] T O X (Ti D cs (fun r u => u = (T, O, X) ∧ -6 ≤ r.toInt ∧ r.toInt ≤ 63)) := by
  refine tk_of (by decide) (Nat.le_of_ble_eq_true rfl) (fun p e s m below meth c ls A H locs hx hb hr hml hown hts hlocks hnm hkb hH hS hA hOX hks hE hl => ?_)
  have hown : s.vm.findClass RX11 = some m.cls := hown
  have hl : lv_has ls 5 [(0, .ref a0), (1, .int x1), (2, .int x2)] := hl
  have b1_w := t_w.2.1
  have b2_w := t_w.2.2
  refine lv_iload_n hx hb dX11_judge_0 rfl (lv_at hl 1 rfl) ?_
  refine tk_i hH hS hA (tr_S (n := 1) (As := [.int x1]) hx hb hml hown hts hkb hH hOX hks hE hS hA (s_FW_isTray l D cs kf T O X x1  (hO.sub (by decide))) kw_871 kw_872 kw_1 kw_873 (by decide +kernel) ⟨Nat.le_of_ble_eq_true rfl, Nat.le_of_ble_eq_true rfl⟩ rfl rfl hl.1 (Nat.le_of_ble_eq_true rfl) dX11_judge_1 ⟨Nat.le_of_ble_eq_true rfl, Nat.le_of_ble_eq_true rfl⟩) (fun v1 u H locs hz9 hH hS => ?_)
  obtain ⟨rfl, l_v1, u_v1, x_v10⟩ := hz9
  have hH : HT D cs A T O X H := hH
  refine W.widen (k := 0) (n := 0) (Nat.le_of_ble_eq_true rfl) (Nat.le_of_ble_eq_true rfl) ?_
  have J16 : ∀  (H : Heap) (locs : List Loc) (ls : Array Slot), HT D cs A T O X H → va_S A s.heap H locs → lv_has ls 5 [] → W p l e { frames := 5, cells := 0, slots := 0, locals := 133 } s m [.ref a0, .int x1, .int x2].toArray below meth c H locs 0 0 (MQ below (Ti D cs (fun r u => u = (T, O, X) ∧ -6 ≤ r.toInt ∧ r.toInt ≤ 63) A) [.ref a0, .int x1, .int x2].toArray s 0 0 A) (F0 m 16 ls []) := by
    intro  H locs ls  hH hS hl
    refine lv_bipush (v := (-2)) hx hb dX11_judge_16 (by decide) ?_
    exact te_i hx hb hr hlocks hH hS (⟨rfl, by decide, by decide⟩) dX11_judge_18
  refine lv_if_eq (tgt := 16) hx hb dX11_judge_4 (by decide) (fun c4 => ?_) (fun c4 => ?_)
  · skip
    have tc4 := f_eq (k := 0) (by decide) c4
    exact J16  _ _ _  hH hS (lv_sub hl [] rfl)
  · skip
    have tc4 := f_ne (k := 0) (by decide) c4
    refine lv_iload_n hx hb dX11_judge_7 rfl (lv_at hl 2 rfl) ?_
    refine lv_if_lt (tgt := 16) hx hb dX11_judge_8 (by decide) (fun c8 => ?_) (fun c8 => ?_)
    · skip
      have tc8 := f_lt (k := 0) (by decide) c8
      exact J16  _ _ _  hH hS (lv_sub hl [] rfl)
    · skip
      have tc8 := f_nlt (k := 0) (by decide) c8
      refine lv_iload_n hx hb dX11_judge_11 rfl (lv_at hl 2 rfl) ?_
      refine lv_iconst (v := 2) hx hb dX11_judge_12 (by decide) ?_
      refine lv_icmp_le (tgt := 19) hx hb dX11_judge_13 (by decide) (fun c13 => ?_) (fun c13 => ?_)
      · skip
        have tc13 := f_le (k := 2) (by decide) c13
        refine lv_aload_n hx hb dX11_judge_19 rfl (lv_at hl 0 rfl) ?_
        refine t_get (ci := 11) (lst := ft11 w ch) (C := RX11) (F := TX11) (N := 20) hx hb hts uX11 hown hkb hH t_a0 (hO.no t_a0 (by decide)) (fun _ h9 => h9) rfl rfl 11 (by decide) rfl kw_371 (fun _ h9 => h9) dX11_judge_20 (fun v9 h9 => ?_)
        obtain ⟨v20, rfl, t_v20⟩ := h9
        refine lv_iload_n hx hb dX11_judge_23 rfl (lv_at hl 1 rfl) ?_
        refine t_qld6 hx hb hkb hH t_v20 (hO.no t_v20 (by decide)) (by omega) (by omega) dX11_judge_24 (fun v24 t_v24 => ?_)
        refine lv_astore_n (lv' := [(3, .ref v24), (0, .ref a0), (1, .int x1), (2, .int x2)]) hx hb dX11_judge_25 rfl hl (by decide) rfl (fun ls hl => ?_)
        refine lv_aload_n hx hb dX11_judge_26 rfl (lv_at hl 0 rfl) ?_
        refine tk_i hH hS hA (tr_V (n := 0) (As := []) hx hb hml hown hts hkb hH hOX hks hE hS hA (s_Tray_isMissing l D cs kf T O X v24 t_v24 (hO.sub (by decide))) kw_874 kw_875 kw_876 kw_12 kw_877 (by decide +kernel) ⟨Nat.le_of_ble_eq_true rfl, Nat.le_of_ble_eq_true rfl⟩ (HT.recv (ci := 8) hkb hH t_v24 (hO.no t_v24 (by decide)) rfl) rfl rfl hl.1 (Nat.le_of_ble_eq_true rfl) dX11_judge_27 ⟨Nat.le_of_ble_eq_true rfl, Nat.le_of_ble_eq_true rfl⟩) (fun v27 u H locs hz9 hH hS => ?_)
        obtain ⟨rfl, l_v27, u_v27⟩ := hz9
        have hH : HT D cs A T O X H := hH
        refine W.widen (k := 0) (n := 0) (Nat.le_of_ble_eq_true rfl) (Nat.le_of_ble_eq_true rfl) ?_
        refine lv_if_eq (tgt := 36) hx hb dX11_judge_30 (by decide) (fun c30 => ?_) (fun c30 => ?_)
        · skip
          have tc30 := f_eq (k := 0) (by decide) c30
          refine lv_aload_n hx hb dX11_judge_36 rfl (lv_at hl 1 rfl) ?_
          refine lv_aload_n hx hb dX11_judge_37 rfl (lv_at hl 0 rfl) ?_
          refine tk_i hH hS hA (tr_V (n := 1) (As := [.ref v24]) hx hb hml hown hts hkb hH hOX hks hE hS hA (s_FW_verdictOn l D cs kf T O X a0 w hw gw ch gq v24 t_a0 t_w t_ch t_v24 (hO.sub (by decide))) kw_878 kw_880 ks_23 kw_1 kw_881 (by decide +kernel) ⟨Nat.le_of_ble_eq_true rfl, Nat.le_of_ble_eq_true rfl⟩ (HT.recv (ci := 11) hkb hH t_a0 (hO.no t_a0 (by decide)) rfl) rfl rfl hl.1 (Nat.le_of_ble_eq_true rfl) dX11_judge_38 ⟨Nat.le_of_ble_eq_true rfl, Nat.le_of_ble_eq_true rfl⟩) (fun v38 u H locs hz9 hH hS => ?_)
          obtain ⟨rfl, l_v38, u_v38⟩ := hz9
          have hH : HT D cs A T O X H := hH
          refine W.widen (k := 0) (n := 0) (Nat.le_of_ble_eq_true rfl) (Nat.le_of_ble_eq_true rfl) ?_
          refine lv_istore (lv' := [(4, .int v38), (3, .ref v24), (0, .ref a0), (1, .int x1), (2, .int x2)]) hx hb dX11_judge_41 hl (by decide) rfl (fun ls hl => ?_)
          refine lv_iload_n hx hb dX11_judge_43 rfl (lv_at hl 4 rfl) ?_
          refine lv_if_ne (tgt := 61) hx hb dX11_judge_44 (by decide) (fun c44 => ?_) (fun c44 => ?_)
          · skip
            have tc44 := f_ne (k := 0) (by decide) c44
            refine lv_iload_n hx hb dX11_judge_61 rfl (lv_at hl 4 rfl) ?_
            refine lv_iconst (v := 1) hx hb dX11_judge_62 (by decide) ?_
            refine lv_icmp_ne (tgt := 72) hx hb dX11_judge_63 (by decide) (fun c63 => ?_) (fun c63 => ?_)
            · skip
              have tc63 := f_ne (k := 1) (by decide) c63
              refine lv_iload hx hb dX11_judge_72 (lv_at hl 0 rfl) ?_
              have J89 : ∀ (k89_0 : Int32) (H : Heap) (locs : List Loc) (ls : Array Slot), (0 ≤ k89_0.toInt) → (k89_0.toInt ≤ 63) → HT D cs A T O X H → va_S A s.heap H locs → lv_has ls 5 [] → W p l e { frames := 5, cells := 0, slots := 0, locals := 133 } s m [.ref a0, .int x1, .int x2].toArray below meth c H locs 0 0 (MQ below (Ti D cs (fun r u => u = (T, O, X) ∧ -6 ≤ r.toInt ∧ r.toInt ≤ 63) A) [.ref a0, .int x1, .int x2].toArray s 0 0 A) (F0 m 89 ls [.int k89_0]) := by
                intro k89_0 H locs ls l_k89_0 u_k89_0 hH hS hl
                exact te_i hx hb hr hlocks hH hS (⟨rfl, by omega, by omega⟩) dX11_judge_89
              refine lv_if_ne (tgt := 88) hx hb dX11_judge_74 (by decide) (fun c74 => ?_) (fun c74 => ?_)
              · skip
                have tc74 := f_ne (k := 0) (by decide) c74
                refine lv_iconst (v := 0) hx hb dX11_judge_88 (by decide) ?_
                exact J89 0 _ _ _ (by decide) (by decide) hH hS (lv_sub hl [] rfl)
              · skip
                have tc74 := f_eq (k := 0) (by decide) c74
                refine lv_aload_n hx hb dX11_judge_77 rfl (lv_at hl 2 rfl) ?_
                refine lv_aload_n hx hb dX11_judge_78 rfl (lv_at hl 1 rfl) ?_
                refine tk_i hH hS hA (tr_V (n := 1) (As := [.ref v24]) hx hb hml hown hts hkb hH hOX hks hE hS hA (s_FW_toldSet l D cs kf T O X a0 w hw gw ch gq v24 t_a0 t_w t_ch t_v24 (hO.sub (by decide))) kw_888 kw_890 ks_24 kw_1 kw_891 (by decide +kernel) ⟨Nat.le_of_ble_eq_true rfl, Nat.le_of_ble_eq_true rfl⟩ (HT.recv (ci := 11) hkb hH t_a0 (hO.no t_a0 (by decide)) rfl) rfl rfl hl.1 (Nat.le_of_ble_eq_true rfl) dX11_judge_79 ⟨Nat.le_of_ble_eq_true rfl, Nat.le_of_ble_eq_true rfl⟩) (fun v79 u H locs hz9 hH hS => ?_)
                obtain ⟨rfl, l_v79, u_v79⟩ := hz9
                have hH : HT D cs A T O X H := hH
                refine W.widen (k := 0) (n := 0) (Nat.le_of_ble_eq_true rfl) (Nat.le_of_ble_eq_true rfl) ?_
                refine tk_i hH hS hA (tr_S (n := 1) (As := [.int v79]) hx hb hml hown hts hkb hH hOX hks hE hS hA (s_bitCount l D cs kf T O X v79  (hO.sub (by decide))) kw_893 kw_692 kw_20 kw_693 (by decide +kernel) ⟨Nat.le_of_ble_eq_true rfl, Nat.le_of_ble_eq_true rfl⟩ rfl rfl hl.1 (Nat.le_of_ble_eq_true rfl) dX11_judge_82 ⟨Nat.le_of_ble_eq_true rfl, Nat.le_of_ble_eq_true rfl⟩) (fun v82 u H locs hz9 hH hS => ?_)
                obtain ⟨rfl, l_v82, u_v82⟩ := hz9
                have hH : HT D cs A T O X H := hH
                refine W.widen (k := 0) (n := 0) (Nat.le_of_ble_eq_true rfl) (Nat.le_of_ble_eq_true rfl) ?_
                refine lv_goto (tgt := 89) hx hb dX11_judge_85 (by decide) ?_
                exact J89 v82 _ _ _ (by omega) (by omega) hH hS (lv_sub hl [] rfl)
            · skip
              have tc63 := f_eq (k := 1) (by decide) c63
              refine lv_iload hx hb dX11_judge_66 (lv_at hl 0 rfl) ?_
              refine lv_bipush (v := 7) hx hb dX11_judge_68 (by decide) ?_
              refine lv_iand hx hb dX11_judge_70 ?_
              refine lv_topi (fun v70 ev70 => ?_)
              have tv70 : 0 ≤ v70.toInt ∧ v70.toInt ≤ 7 := by rw [ev70]; exact and_r (by decide)
              exact te_i hx hb hr hlocks hH hS (⟨rfl, by omega, by omega⟩) dX11_judge_71
          · skip
            have tc44 := f_eq (k := 0) (by decide) c44
            refine lv_iload hx hb dX11_judge_47 (lv_at hl 0 rfl) ?_
            have J60 : ∀ (k60_0 : Int32) (H : Heap) (locs : List Loc) (ls : Array Slot), (-1 ≤ k60_0.toInt) → (k60_0.toInt ≤ 40) → HT D cs A T O X H → va_S A s.heap H locs → lv_has ls 5 [] → W p l e { frames := 5, cells := 0, slots := 0, locals := 133 } s m [.ref a0, .int x1, .int x2].toArray below meth c H locs 0 0 (MQ below (Ti D cs (fun r u => u = (T, O, X) ∧ -6 ≤ r.toInt ∧ r.toInt ≤ 63) A) [.ref a0, .int x1, .int x2].toArray s 0 0 A) (F0 m 60 ls [.int k60_0]) := by
              intro k60_0 H locs ls l_k60_0 u_k60_0 hH hS hl
              exact te_i hx hb hr hlocks hH hS (⟨rfl, by omega, by omega⟩) dX11_judge_60
            refine lv_if_ne (tgt := 56) hx hb dX11_judge_49 (by decide) (fun c49 => ?_) (fun c49 => ?_)
            · skip
              have tc49 := f_ne (k := 0) (by decide) c49
              refine lv_iload hx hb dX11_judge_56 (lv_at hl 0 rfl) ?_
              refine lv_iconst (v := 3) hx hb dX11_judge_58 (by decide) ?_
              refine lv_ishr hx hb dX11_judge_59 ?_
              refine lv_topi (fun v59 ev59 => ?_)
              have tv59 : v59.toInt = v38.toInt / 8 := by rw [ev59]; exact shr_c 3 (by decide +kernel) (by decide)
              have fv59 := full_i v38
              exact J60 v59 _ _ _ (by omega) (by omega) hH hS (lv_sub hl [] rfl)
            · skip
              have tc49 := f_eq (k := 0) (by decide) c49
              refine lv_iconst (v := (-1)) hx hb dX11_judge_52 (by decide) ?_
              refine lv_goto (tgt := 60) hx hb dX11_judge_53 (by decide) ?_
              exact J60 (-1) _ _ _ (by decide) (by decide) hH hS (lv_sub hl [] rfl)
        · skip
          have tc30 := f_ne (k := 0) (by decide) c30
          refine lv_bipush (v := (-6)) hx hb dX11_judge_33 (by decide) ?_
          exact te_i hx hb hr hlocks hH hS (⟨rfl, by decide, by decide⟩) dX11_judge_35
      · skip
        have tc13 := f_nle (k := 2) (by decide) c13
        exact J16  _ _ _  hH hS (lv_sub hl [] rfl)
set_option maxHeartbeats 4000000 in
set_option maxRecDepth 100000 in
theorem s_FW_climb (l : Launch) (D : va_G) (cs : CS) (kf : KF) (T : TF) (O : List Nat) (X : va_W) (a0 w hw gw ch gq : Nat) (x1 : Int32) (t_a0 : T a0 = some (21, w, ch)) (t_w : isW T w hw gw) (t_ch : T ch = some (10, gq, 0)) (hO : okO T O [1, 2, 4, 6, 7, 12, 15, 16, 18, 19, 21]) : TK l D cs kf yX11_climb cX11_climb 4 (some (.int)) { frames := 5, cells := 0, slots := 0, locals := 133 } [.ref a0, .int x1] T O X (Ti D cs (fun r u => u = (T, O, X) ∧ -6 ≤ r.toInt ∧ r.toInt ≤ 63)) := by
  refine tk_of (by decide) (Nat.le_of_ble_eq_true rfl) (fun p e s m below meth c ls A H locs hx hb hr hml hown hts hlocks hnm hkb hH hS hA hOX hks hE hl => ?_)
  have hown : s.vm.findClass RX11 = some m.cls := hown
  have hl : lv_has ls 4 [(0, .ref a0), (1, .int x1)] := hl
  have b1_w := t_w.2.1
  have b2_w := t_w.2.2
  refine lv_iload_n hx hb dX11_climb_0 rfl (lv_at hl 1 rfl) ?_
  refine tk_i hH hS hA (tr_S (n := 1) (As := [.int x1]) hx hb hml hown hts hkb hH hOX hks hE hS hA (s_FW_isTray l D cs kf T O X x1  (hO.sub (by decide))) kw_871 kw_872 kw_1 kw_873 (by decide +kernel) ⟨Nat.le_of_ble_eq_true rfl, Nat.le_of_ble_eq_true rfl⟩ rfl rfl hl.1 (Nat.le_of_ble_eq_true rfl) dX11_climb_1 ⟨Nat.le_of_ble_eq_true rfl, Nat.le_of_ble_eq_true rfl⟩) (fun v1 u H locs hz9 hH hS => ?_)
  obtain ⟨rfl, l_v1, u_v1, x_v10⟩ := hz9
  have hH : HT D cs A T O X H := hH
  refine W.widen (k := 0) (n := 0) (Nat.le_of_ble_eq_true rfl) (Nat.le_of_ble_eq_true rfl) ?_
  refine lv_if_ne (tgt := 10) hx hb dX11_climb_4 (by decide) (fun c4 => ?_) (fun c4 => ?_)
  · skip
    have tc4 := f_ne (k := 0) (by decide) c4
    refine lv_aload_n hx hb dX11_climb_10 rfl (lv_at hl 0 rfl) ?_
    refine t_get (ci := 11) (lst := ft11 w ch) (C := RX11) (F := TX11) (N := 20) hx hb hts uX11 hown hkb hH t_a0 (hO.no t_a0 (by decide)) (fun _ h9 => h9) rfl rfl 11 (by decide) rfl kw_371 (fun _ h9 => h9) dX11_climb_11 (fun v9 h9 => ?_)
    obtain ⟨v11, rfl, t_v11⟩ := h9
    refine lv_iload_n hx hb dX11_climb_14 rfl (lv_at hl 1 rfl) ?_
    refine t_qld6 hx hb hkb hH t_v11 (hO.no t_v11 (by decide)) (by omega) (by omega) dX11_climb_15 (fun v15 t_v15 => ?_)
    refine lv_astore_n (lv' := [(2, .ref v15), (0, .ref a0), (1, .int x1)]) hx hb dX11_climb_16 rfl hl (by decide) rfl (fun ls hl => ?_)
    refine lv_aload_n hx hb dX11_climb_17 rfl (lv_at hl 0 rfl) ?_
    refine tk_i hH hS hA (tr_V (n := 0) (As := []) hx hb hml hown hts hkb hH hOX hks hE hS hA (s_Tray_isMissing l D cs kf T O X v15 t_v15 (hO.sub (by decide))) kw_874 kw_875 kw_876 kw_12 kw_877 (by decide +kernel) ⟨Nat.le_of_ble_eq_true rfl, Nat.le_of_ble_eq_true rfl⟩ (HT.recv (ci := 8) hkb hH t_v15 (hO.no t_v15 (by decide)) rfl) rfl rfl hl.1 (Nat.le_of_ble_eq_true rfl) dX11_climb_18 ⟨Nat.le_of_ble_eq_true rfl, Nat.le_of_ble_eq_true rfl⟩) (fun v18 u H locs hz9 hH hS => ?_)
    obtain ⟨rfl, l_v18, u_v18⟩ := hz9
    have hH : HT D cs A T O X H := hH
    refine W.widen (k := 0) (n := 0) (Nat.le_of_ble_eq_true rfl) (Nat.le_of_ble_eq_true rfl) ?_
    refine lv_if_eq (tgt := 27) hx hb dX11_climb_21 (by decide) (fun c21 => ?_) (fun c21 => ?_)
    · skip
      have tc21 := f_eq (k := 0) (by decide) c21
      refine lv_aload_n hx hb dX11_climb_27 rfl (lv_at hl 1 rfl) ?_
      refine lv_aload_n hx hb dX11_climb_28 rfl (lv_at hl 0 rfl) ?_
      refine tk_i hH hS hA (tr_V (n := 1) (As := [.ref v15]) hx hb hml hown hts hkb hH hOX hks hE hS hA (s_FW_verdictOn l D cs kf T O X a0 w hw gw ch gq v15 t_a0 t_w t_ch t_v15 (hO.sub (by decide))) kw_878 kw_880 ks_23 kw_1 kw_881 (by decide +kernel) ⟨Nat.le_of_ble_eq_true rfl, Nat.le_of_ble_eq_true rfl⟩ (HT.recv (ci := 11) hkb hH t_a0 (hO.no t_a0 (by decide)) rfl) rfl rfl hl.1 (Nat.le_of_ble_eq_true rfl) dX11_climb_29 ⟨Nat.le_of_ble_eq_true rfl, Nat.le_of_ble_eq_true rfl⟩) (fun v29 u H locs hz9 hH hS => ?_)
      obtain ⟨rfl, l_v29, u_v29⟩ := hz9
      have hH : HT D cs A T O X H := hH
      refine W.widen (k := 0) (n := 0) (Nat.le_of_ble_eq_true rfl) (Nat.le_of_ble_eq_true rfl) ?_
      refine lv_if_eq (tgt := 38) hx hb dX11_climb_32 (by decide) (fun c32 => ?_) (fun c32 => ?_)
      · skip
        have tc32 := f_eq (k := 0) (by decide) c32
        refine lv_aload_n hx hb dX11_climb_38 rfl (lv_at hl 1 rfl) ?_
        refine t_get (ci := 11) (lst := ft11 w ch) (C := RX11) (F := TX11) (N := 20) hx hb hts uX11 hown hkb hH t_a0 (hO.no t_a0 (by decide)) (fun _ h9 => h9) rfl rfl 5 (by decide) rfl kw_365 (fun _ h9 => h9) dX11_climb_39 (fun v9 h9 => ?_)
        obtain ⟨v39, rfl, t_v39⟩ := h9
        refine lv_aload_n hx hb dX11_climb_42 rfl (lv_at hl 1 rfl) ?_
        refine t_get (ci := 11) (lst := ft11 w ch) (C := RX11) (F := TX11) (N := 20) hx hb hts uX11 hown hkb hH t_a0 (hO.no t_a0 (by decide)) (fun _ h9 => h9) rfl rfl 4 (by decide) rfl kw_364 (fun _ h9 => h9) dX11_climb_43 (fun v9 h9 => ?_)
        obtain ⟨v43, rfl, t_v43⟩ := h9
        refine tk_v hH hS hA (tr_V (n := 1) (As := [.ref v43]) hx hb hml hown hts hkb hH hOX hks hE hS hA (s_State_take l D cs kf T O X v39 v43 t_v39 t_v43 (hO.sub (by decide))) kw_757 kw_758 kw_759 kw_7 kw_760 (by decide +kernel) ⟨Nat.le_of_ble_eq_true rfl, Nat.le_of_ble_eq_true rfl⟩ (HT.recv (ci := 6) hkb hH t_v39 (hO.no t_v39 (by decide)) rfl) rfl rfl hl.1 (Nat.le_of_ble_eq_true rfl) dX11_climb_46 ⟨Nat.le_of_ble_eq_true rfl, Nat.le_of_ble_eq_true rfl⟩) (fun u H locs hz9 hH hS => ?_)
        have hz9 : u = (T, O, X) := hz9
        subst hz9
        have hH : HT D cs A T O X H := hH
        refine W.widen (k := 0) (n := 0) (Nat.le_of_ble_eq_true rfl) (Nat.le_of_ble_eq_true rfl) ?_
        refine lv_aload_n hx hb dX11_climb_49 rfl (lv_at hl 1 rfl) ?_
        refine t_get (ci := 11) (lst := ft11 w ch) (C := RX11) (F := TX11) (N := 20) hx hb hts uX11 hown hkb hH t_a0 (hO.no t_a0 (by decide)) (fun _ h9 => h9) rfl rfl 4 (by decide) rfl kw_364 (fun _ h9 => h9) dX11_climb_50 (fun v9 h9 => ?_)
        obtain ⟨v50, rfl, t_v50⟩ := h9
        refine lv_aload_n hx hb dX11_climb_53 rfl (lv_at hl 1 rfl) ?_
        refine lv_aload_n hx hb dX11_climb_54 rfl (lv_at hl 0 rfl) ?_
        refine tk_i hH hS hA (tr_V (n := 1) (As := [.ref v15]) hx hb hml hown hts hkb hH hOX hks hE hS hA (s_FW_toldSet l D cs kf T O X a0 w hw gw ch gq v15 t_a0 t_w t_ch t_v15 (hO.sub (by decide))) kw_888 kw_890 ks_24 kw_1 kw_891 (by decide +kernel) ⟨Nat.le_of_ble_eq_true rfl, Nat.le_of_ble_eq_true rfl⟩ (HT.recv (ci := 11) hkb hH t_a0 (hO.no t_a0 (by decide)) rfl) rfl rfl hl.1 (Nat.le_of_ble_eq_true rfl) dX11_climb_55 ⟨Nat.le_of_ble_eq_true rfl, Nat.le_of_ble_eq_true rfl⟩) (fun v55 u H locs hz9 hH hS => ?_)
        obtain ⟨rfl, l_v55, u_v55⟩ := hz9
        have hH : HT D cs A T O X H := hH
        refine W.widen (k := 0) (n := 0) (Nat.le_of_ble_eq_true rfl) (Nat.le_of_ble_eq_true rfl) ?_
        refine lv_aload_n hx hb dX11_climb_58 rfl (lv_at hl 0 rfl) ?_
        refine lv_iconst (v := 0) hx hb dX11_climb_59 (by decide) ?_
        refine tk_l hH hS hA (tr_V (n := 1) (As := [.int 0]) hx hb hml hown hts hkb hH hOX hks hE hS hA (s_Tray_at l D cs kf T O X v15 (0) t_v15 (hO.sub (by decide))) kw_882 kw_883 kw_884 kw_12 kw_885 (by decide +kernel) ⟨Nat.le_of_ble_eq_true rfl, Nat.le_of_ble_eq_true rfl⟩ (HT.recv (ci := 8) hkb hH t_v15 (hO.no t_v15 (by decide)) rfl) rfl rfl hl.1 (Nat.le_of_ble_eq_true rfl) dX11_climb_60 ⟨Nat.le_of_ble_eq_true rfl, Nat.le_of_ble_eq_true rfl⟩) (fun v60 u H locs hz9 hH hS => ?_)
        have hz9 : u = (T, O, X) := hz9
        subst hz9
        have hH : HT D cs A T O X H := hH
        refine W.widen (k := 0) (n := 0) (Nat.le_of_ble_eq_true rfl) (Nat.le_of_ble_eq_true rfl) ?_
        refine lv_l2i hx hb dX11_climb_63 rfl ?_
        refine lv_topi (fun v63 ev63 => ?_)
        refine tk_i hH hS hA (tr_V (n := 2) (As := [.int v55, .int v63]) hx hb hml hown hts hkb hH hOX hks hE hS hA (s_State_use l D cs kf T O X v50 v55 v63 t_v50 (hO.sub (by decide))) kw_898 kw_688 kw_689 kw_7 kw_690 (by decide +kernel) ⟨Nat.le_of_ble_eq_true rfl, Nat.le_of_ble_eq_true rfl⟩ (HT.recv (ci := 6) hkb hH t_v50 (hO.no t_v50 (by decide)) rfl) rfl rfl hl.1 (Nat.le_of_ble_eq_true rfl) dX11_climb_64 ⟨Nat.le_of_ble_eq_true rfl, Nat.le_of_ble_eq_true rfl⟩) (fun v64 u H locs hz9 hH hS => ?_)
        obtain ⟨rfl, l_v64, u_v64⟩ := hz9
        have hH : HT D cs A T O X H := hH
        refine W.widen (k := 0) (n := 0) (Nat.le_of_ble_eq_true rfl) (Nat.le_of_ble_eq_true rfl) ?_
        refine lv_istore_n (lv' := [(3, .int v64), (2, .ref v15), (0, .ref a0), (1, .int x1)]) hx hb dX11_climb_67 rfl hl (by decide) rfl (fun ls hl => ?_)
        refine lv_aload_n hx hb dX11_climb_68 rfl (lv_at hl 2 rfl) ?_
        refine tk_v hH hS hA (tr_V (n := 0) (As := []) hx hb hml hown hts hkb hH hOX hks hE hS hA (s_FW_remember l D cs kf T O X a0 w hw gw ch gq t_a0 t_w t_ch (hO.sub (by decide))) kw_899 kw_901 ks_25 kw_1 kw_902 (by decide +kernel) ⟨Nat.le_of_ble_eq_true rfl, Nat.le_of_ble_eq_true rfl⟩ (HT.recv (ci := 11) hkb hH t_a0 (hO.no t_a0 (by decide)) rfl) rfl rfl hl.1 (Nat.le_of_ble_eq_true rfl) dX11_climb_69 ⟨Nat.le_of_ble_eq_true rfl, Nat.le_of_ble_eq_true rfl⟩) (fun u H locs hz9 hH hS => ?_)
        have hz9 : u = (T, O, X) := hz9
        subst hz9
        have hH : HT D cs A T O X H := hH
        refine W.widen (k := 0) (n := 0) (Nat.le_of_ble_eq_true rfl) (Nat.le_of_ble_eq_true rfl) ?_
        refine lv_iload_n hx hb dX11_climb_72 rfl (lv_at hl 0 rfl) ?_
        exact te_i hx hb hr hlocks hH hS (⟨rfl, by omega, by omega⟩) dX11_climb_73
      · skip
        have tc32 := f_ne (k := 0) (by decide) c32
        refine lv_bipush (v := (-5)) hx hb dX11_climb_35 (by decide) ?_
        exact te_i hx hb hr hlocks hH hS (⟨rfl, by decide, by decide⟩) dX11_climb_37
    · skip
      have tc21 := f_ne (k := 0) (by decide) c21
      refine lv_bipush (v := (-6)) hx hb dX11_climb_24 (by decide) ?_
      exact te_i hx hb hr hlocks hH hS (⟨rfl, by decide, by decide⟩) dX11_climb_26
  · skip
    have tc4 := f_eq (k := 0) (by decide) c4
    refine lv_bipush (v := (-2)) hx hb dX11_climb_7 (by decide) ?_
    exact te_i hx hb hr hlocks hH hS (⟨rfl, by decide, by decide⟩) dX11_climb_9
set_option maxHeartbeats 4000000 in
set_option maxRecDepth 100000 in
theorem s_FW_goUp (l : Launch) (D : va_G) (cs : CS) (kf : KF) (T : TF) (O : List Nat) (X : va_W) (a0 w hw gw ch gq : Nat) (x1 : Int32) (t_a0 : T a0 = some (21, w, ch)) (t_w : isW T w hw gw) (t_ch : T ch = some (10, gq, 0)) (l_x1 : 0 ≤ x1.toInt) (u_x1 : x1.toInt < gw) (hO : okO T O [1, 7, 12, 15, 16, 19, 20, 21]) : TK l D cs kf yX11_goUp cX11_goUp 2 (some (.int)) { frames := 6, cells := 0, slots := 0, locals := 152 } [.ref a0, .int x1] T O X (Ti D cs (fun r u => u = (T, O, X) ∧ -1 ≤ r.toInt ∧ r.toInt ≤ 63)) := by
  refine tk_of (by decide) (Nat.le_of_ble_eq_true rfl) (fun p e s m below meth c ls A H locs hx hb hr hml hown hts hlocks hnm hkb hH hS hA hOX hks hE hl => ?_)
  have hown : s.vm.findClass RX11 = some m.cls := hown
  have hl : lv_has ls 2 [(0, .ref a0), (1, .int x1)] := hl
  have b1_w := t_w.2.1
  have b2_w := t_w.2.2
  refine lv_aload_n hx hb dX11_goUp_0 rfl (lv_at hl 0 rfl) ?_
  refine t_get (ci := 11) (lst := ft11 w ch) (C := RX11) (F := TX11) (N := 20) hx hb hts uX11 hown hkb hH t_a0 (hO.no t_a0 (by decide)) (fun _ h9 => h9) rfl rfl 14 (by decide) rfl kw_374 (fun _ h9 => h9) dX11_goUp_1 (fun v9 h9 => ?_)
  obtain ⟨v1, rfl, t_v1⟩ := h9
  refine lv_aload_n hx hb dX11_goUp_4 rfl (lv_at hl 0 rfl) ?_
  refine lv_iload_n hx hb dX11_goUp_5 rfl (lv_at hl 1 rfl) ?_
  refine tk_r hH hS hA (tr_V (n := 1) (As := [.int x1]) hx hb hml hown hts hkb hH hOX hks hE hS hA (s_FW_rowsOf l D cs kf T O X a0 w hw gw ch gq x1 t_a0 t_w t_ch (by omega) (by omega) (hO.sub (by decide))) kw_830 kw_832 ks_21 kw_1 kw_833 (by decide +kernel) ⟨Nat.le_of_ble_eq_true rfl, Nat.le_of_ble_eq_true rfl⟩ (HT.recv (ci := 11) hkb hH t_a0 (hO.no t_a0 (by decide)) rfl) rfl rfl hl.1 (Nat.le_of_ble_eq_true rfl) dX11_goUp_6 ⟨Nat.le_of_ble_eq_true rfl, Nat.le_of_ble_eq_true rfl⟩) (fun v6 u H locs hz9 hH hS => ?_)
  obtain ⟨hu9, t_v6⟩ := hz9
  have hu9 : u = (T, O, X) := hu9
  subst hu9
  have hH : HT D cs A T O X H := hH
  refine W.widen (k := 0) (n := 0) (Nat.le_of_ble_eq_true rfl) (Nat.le_of_ble_eq_true rfl) ?_
  refine lv_aload_n hx hb dX11_goUp_9 rfl (lv_at hl 0 rfl) ?_
  refine tk_i hH hS hA (tr_V (n := 0) (As := []) hx hb hml hown hts hkb hH hOX hks hE hS hA (s_FW_openNow l D cs kf T O X a0 w hw gw ch gq t_a0 t_w t_ch (hO.sub (by decide))) kw_846 kw_848 ks_22 kw_1 kw_849 (by decide +kernel) ⟨Nat.le_of_ble_eq_true rfl, Nat.le_of_ble_eq_true rfl⟩ (HT.recv (ci := 11) hkb hH t_a0 (hO.no t_a0 (by decide)) rfl) rfl rfl hl.1 (Nat.le_of_ble_eq_true rfl) dX11_goUp_10 ⟨Nat.le_of_ble_eq_true rfl, Nat.le_of_ble_eq_true rfl⟩) (fun v10 u H locs hz9 hH hS => ?_)
  obtain ⟨rfl, l_v10, u_v10⟩ := hz9
  have hH : HT D cs A T O X H := hH
  refine W.widen (k := 0) (n := 0) (Nat.le_of_ble_eq_true rfl) (Nat.le_of_ble_eq_true rfl) ?_
  refine tk_i hH hS hA (tr_V (n := 2) (As := [.ref v6, .int v10]) hx hb hml hown hts hkb hH hOX hks hE hS hA (s_Ways_find l D cs kf T O X v1 v6 v10 t_v1 t_v6 (hO.sub (by decide))) kw_912 kw_913 kw_914 kw_9 kw_915 (by decide +kernel) ⟨Nat.le_of_ble_eq_true rfl, Nat.le_of_ble_eq_true rfl⟩ (HT.recv (ci := 10) hkb hH t_v1 (hO.no t_v1 (by decide)) rfl) rfl rfl hl.1 (Nat.le_of_ble_eq_true rfl) dX11_goUp_13 ⟨Nat.le_of_ble_eq_true rfl, Nat.le_of_ble_eq_true rfl⟩) (fun v13 u H locs hz9 hH hS => ?_)
  obtain ⟨rfl, l_v13, u_v13⟩ := hz9
  have hH : HT D cs A T O X H := hH
  refine W.widen (k := 0) (n := 0) (Nat.le_of_ble_eq_true rfl) (Nat.le_of_ble_eq_true rfl) ?_
  refine lv_if_ne (tgt := 21) hx hb dX11_goUp_16 (by decide) (fun c16 => ?_) (fun c16 => ?_)
  · skip
    have tc16 := f_ne (k := 0) (by decide) c16
    refine lv_aload_n hx hb dX11_goUp_21 rfl (lv_at hl 0 rfl) ?_
    refine t_get (ci := 11) (lst := ft11 w ch) (C := RX11) (F := TX11) (N := 20) hx hb hts uX11 hown hkb hH t_a0 (hO.no t_a0 (by decide)) (fun _ h9 => h9) rfl rfl 4 (by decide) rfl kw_364 (fun _ h9 => h9) dX11_goUp_22 (fun v9 h9 => ?_)
    obtain ⟨v22, rfl, t_v22⟩ := h9
    refine lv_aload_n hx hb dX11_goUp_25 rfl (lv_at hl 0 rfl) ?_
    refine t_get (ci := 11) (lst := ft11 w ch) (C := RX11) (F := TX11) (N := 20) hx hb hts uX11 hown hkb hH t_a0 (hO.no t_a0 (by decide)) (fun _ h9 => h9) rfl rfl 14 (by decide) rfl kw_374 (fun _ h9 => h9) dX11_goUp_26 (fun v9 h9 => ?_)
    obtain ⟨v26, rfl, t_v26⟩ := h9
    refine tk_i hH hS hA (tr_V (n := 0) (As := []) hx hb hml hown hts hkb hH hOX hks hE hS hA (s_Ways_pathSet l D cs kf T O X v26 t_v26 (hO.sub (by decide))) kw_926 kw_927 kw_928 kw_9 kw_929 (by decide +kernel) ⟨Nat.le_of_ble_eq_true rfl, Nat.le_of_ble_eq_true rfl⟩ (HT.recv (ci := 10) hkb hH t_v26 (hO.no t_v26 (by decide)) rfl) rfl rfl hl.1 (Nat.le_of_ble_eq_true rfl) dX11_goUp_29 ⟨Nat.le_of_ble_eq_true rfl, Nat.le_of_ble_eq_true rfl⟩) (fun v29 u H locs hz9 hH hS => ?_)
    have hz9 : u = (T, O, X) := hz9
    subst hz9
    have hH : HT D cs A T O X H := hH
    refine W.widen (k := 0) (n := 0) (Nat.le_of_ble_eq_true rfl) (Nat.le_of_ble_eq_true rfl) ?_
    refine lv_aload_n hx hb dX11_goUp_32 rfl (lv_at hl 0 rfl) ?_
    refine t_get (ci := 11) (lst := ft11 w ch) (C := RX11) (F := TX11) (N := 20) hx hb hts uX11 hown hkb hH t_a0 (hO.no t_a0 (by decide)) (fun _ h9 => h9) rfl rfl 3 (by decide) rfl kw_363 (fun _ h9 => h9) dX11_goUp_33 (fun v9 h9 => ?_)
    have h9 : v9 = .ref w := h9
    subst h9
    refine tk_i hH hS hA (tr_V (n := 0) (As := []) hx hb hml hown hts hkb hH hOX hks hE hS hA (s_Wall_middles l D cs kf T O X w hw gw t_w (hO.sub (by decide))) kw_892 kw_683 kw_684 kw_5 kw_685 (by decide +kernel) ⟨Nat.le_of_ble_eq_true rfl, Nat.le_of_ble_eq_true rfl⟩ (HT.recv (ci := 9) hkb hH t_w.1 (hO.no t_w.1 (by decide)) rfl) rfl rfl hl.1 (Nat.le_of_ble_eq_true rfl) dX11_goUp_36 ⟨Nat.le_of_ble_eq_true rfl, Nat.le_of_ble_eq_true rfl⟩) (fun v36 u H locs hz9 hH hS => ?_)
    obtain ⟨rfl, l_v36, u_v36⟩ := hz9
    have hH : HT D cs A T O X H := hH
    refine W.widen (k := 0) (n := 0) (Nat.le_of_ble_eq_true rfl) (Nat.le_of_ble_eq_true rfl) ?_
    refine lv_iand hx hb dX11_goUp_39 ?_
    refine lv_topi (fun v39 ev39 => ?_)
    have tv39 : 0 ≤ v39.toInt ∧ v39.toInt ≤ v36.toInt := by rw [ev39]; exact and_r (by omega)
    refine lv_iload_n hx hb dX11_goUp_40 rfl (lv_at hl 1 rfl) ?_
    refine tk_i hH hS hA (tr_V (n := 2) (As := [.int v39, .int x1]) hx hb hml hown hts hkb hH hOX hks hE hS hA (s_State_use l D cs kf T O X v22 v39 x1 t_v22 (hO.sub (by decide))) kw_898 kw_688 kw_689 kw_7 kw_690 (by decide +kernel) ⟨Nat.le_of_ble_eq_true rfl, Nat.le_of_ble_eq_true rfl⟩ (HT.recv (ci := 6) hkb hH t_v22 (hO.no t_v22 (by decide)) rfl) rfl rfl hl.1 (Nat.le_of_ble_eq_true rfl) dX11_goUp_41 ⟨Nat.le_of_ble_eq_true rfl, Nat.le_of_ble_eq_true rfl⟩) (fun v41 u H locs hz9 hH hS => ?_)
    obtain ⟨rfl, l_v41, u_v41⟩ := hz9
    have hH : HT D cs A T O X H := hH
    refine W.widen (k := 0) (n := 0) (Nat.le_of_ble_eq_true rfl) (Nat.le_of_ble_eq_true rfl) ?_
    exact te_i hx hb hr hlocks hH hS (⟨rfl, by omega, by omega⟩) dX11_goUp_44
  · skip
    have tc16 := f_eq (k := 0) (by decide) c16
    refine lv_iconst (v := (-1)) hx hb dX11_goUp_19 (by decide) ?_
    exact te_i hx hb hr hlocks hH hS (⟨rfl, by decide, by decide⟩) dX11_goUp_20
set_option maxHeartbeats 4000000 in
set_option maxRecDepth 100000 in
theorem s_FW_goes (l : Launch) (D : va_G) (cs : CS) (kf : KF) (T : TF) (O : List Nat) (X : va_W) (a0 w hw gw ch gq : Nat) (x1 : Int32) (t_a0 : T a0 = some (21, w, ch)) (t_w : isW T w hw gw) (t_ch : T ch = some (10, gq, 0)) (hO : okO T O [1, 4, 7, 12, 15, 16, 19, 20, 21]) : TK l D cs kf yX11_goes cX11_goes 3 (some (.int)) { frames := 7, cells := 0, slots := 0, locals := 173 } [.ref a0, .int x1] T O X (Ti D cs (fun r u => u = (T, O, X) ∧ -5 ≤ r.toInt ∧ r.toInt ≤ 63)) := by
  refine tk_of (by decide) (Nat.le_of_ble_eq_true rfl) (fun p e s m below meth c ls A H locs hx hb hr hml hown hts hlocks hnm hkb hH hS hA hOX hks hE hl => ?_)
  have hown : s.vm.findClass RX11 = some m.cls := hown
  have hl : lv_has ls 3 [(0, .ref a0), (1, .int x1)] := hl
  have b1_w := t_w.2.1
  have b2_w := t_w.2.2
  refine lv_aload_n hx hb dX11_goes_0 rfl (lv_at hl 0 rfl) ?_
  refine lv_iload_n hx hb dX11_goes_1 rfl (lv_at hl 1 rfl) ?_
  refine tk_i hH hS hA (tr_V (n := 1) (As := [.int x1]) hx hb hml hown hts hkb hH hOX hks hE hS hA (s_FW_isGuide l D cs kf T O X a0 w hw gw ch gq x1 t_a0 t_w t_ch (hO.sub (by decide))) kw_794 kw_796 ks_20 kw_1 kw_797 (by decide +kernel) ⟨Nat.le_of_ble_eq_true rfl, Nat.le_of_ble_eq_true rfl⟩ (HT.recv (ci := 11) hkb hH t_a0 (hO.no t_a0 (by decide)) rfl) rfl rfl hl.1 (Nat.le_of_ble_eq_true rfl) dX11_goes_2 ⟨Nat.le_of_ble_eq_true rfl, Nat.le_of_ble_eq_true rfl⟩) (fun v2 u H locs hz9 hH hS => ?_)
  obtain ⟨rfl, l_v2, u_v2, x_v20⟩ := hz9
  have hH : HT D cs A T O X H := hH
  refine W.widen (k := 0) (n := 0) (Nat.le_of_ble_eq_true rfl) (Nat.le_of_ble_eq_true rfl) ?_
  refine lv_if_ne (tgt := 11) hx hb dX11_goes_5 (by decide) (fun c5 => ?_) (fun c5 => ?_)
  · skip
    have tc5 := f_ne (k := 0) (by decide) c5
    refine lv_aload_n hx hb dX11_goes_11 rfl (lv_at hl 0 rfl) ?_
    refine t_get (ci := 11) (lst := ft11 w ch) (C := RX11) (F := TX11) (N := 20) hx hb hts uX11 hown hkb hH t_a0 (hO.no t_a0 (by decide)) (fun _ h9 => h9) rfl rfl 5 (by decide) rfl kw_365 (fun _ h9 => h9) dX11_goes_12 (fun v9 h9 => ?_)
    obtain ⟨v12, rfl, t_v12⟩ := h9
    refine lv_aload_n hx hb dX11_goes_15 rfl (lv_at hl 0 rfl) ?_
    refine t_get (ci := 11) (lst := ft11 w ch) (C := RX11) (F := TX11) (N := 20) hx hb hts uX11 hown hkb hH t_a0 (hO.no t_a0 (by decide)) (fun _ h9 => h9) rfl rfl 4 (by decide) rfl kw_364 (fun _ h9 => h9) dX11_goes_16 (fun v9 h9 => ?_)
    obtain ⟨v16, rfl, t_v16⟩ := h9
    refine tk_v hH hS hA (tr_V (n := 1) (As := [.ref v16]) hx hb hml hown hts hkb hH hOX hks hE hS hA (s_State_take l D cs kf T O X v12 v16 t_v12 t_v16 (hO.sub (by decide))) kw_757 kw_758 kw_759 kw_7 kw_760 (by decide +kernel) ⟨Nat.le_of_ble_eq_true rfl, Nat.le_of_ble_eq_true rfl⟩ (HT.recv (ci := 6) hkb hH t_v12 (hO.no t_v12 (by decide)) rfl) rfl rfl hl.1 (Nat.le_of_ble_eq_true rfl) dX11_goes_19 ⟨Nat.le_of_ble_eq_true rfl, Nat.le_of_ble_eq_true rfl⟩) (fun u H locs hz9 hH hS => ?_)
    have hz9 : u = (T, O, X) := hz9
    subst hz9
    have hH : HT D cs A T O X H := hH
    refine W.widen (k := 0) (n := 0) (Nat.le_of_ble_eq_true rfl) (Nat.le_of_ble_eq_true rfl) ?_
    refine lv_aload_n hx hb dX11_goes_22 rfl (lv_at hl 0 rfl) ?_
    refine lv_iload_n hx hb dX11_goes_23 rfl (lv_at hl 1 rfl) ?_
    refine tk_i hH hS hA (tr_V (n := 1) (As := [.int x1]) hx hb hml hown hts hkb hH hOX hks hE hS hA (s_FW_goUp l D cs kf T O X a0 w hw gw ch gq x1 t_a0 t_w t_ch (by omega) (by omega) (hO.sub (by decide))) kw_908 kw_910 ks_26 kw_1 kw_911 (by decide +kernel) ⟨Nat.le_of_ble_eq_true rfl, Nat.le_of_ble_eq_true rfl⟩ (HT.recv (ci := 11) hkb hH t_a0 (hO.no t_a0 (by decide)) rfl) rfl rfl hl.1 (Nat.le_of_ble_eq_true rfl) dX11_goes_24 ⟨Nat.le_of_ble_eq_true rfl, Nat.le_of_ble_eq_true rfl⟩) (fun v24 u H locs hz9 hH hS => ?_)
    obtain ⟨rfl, l_v24, u_v24⟩ := hz9
    have hH : HT D cs A T O X H := hH
    refine W.widen (k := 0) (n := 0) (Nat.le_of_ble_eq_true rfl) (Nat.le_of_ble_eq_true rfl) ?_
    refine lv_istore_n (lv' := [(2, .int v24), (0, .ref a0), (1, .int x1)]) hx hb dX11_goes_27 rfl hl (by decide) rfl (fun ls hl => ?_)
    refine lv_iload_n hx hb dX11_goes_28 rfl (lv_at hl 0 rfl) ?_
    refine lv_iconst (v := (-1)) hx hb dX11_goes_29 (by decide) ?_
    refine lv_icmp_ne (tgt := 36) hx hb dX11_goes_30 (by decide) (fun c30 => ?_) (fun c30 => ?_)
    · skip
      have tc30 := f_ne (k := -1) (by decide) c30
      refine lv_aload_n hx hb dX11_goes_36 rfl (lv_at hl 1 rfl) ?_
      refine tk_v hH hS hA (tr_V (n := 0) (As := []) hx hb hml hown hts hkb hH hOX hks hE hS hA (s_FW_remember l D cs kf T O X a0 w hw gw ch gq t_a0 t_w t_ch (hO.sub (by decide))) kw_899 kw_901 ks_25 kw_1 kw_902 (by decide +kernel) ⟨Nat.le_of_ble_eq_true rfl, Nat.le_of_ble_eq_true rfl⟩ (HT.recv (ci := 11) hkb hH t_a0 (hO.no t_a0 (by decide)) rfl) rfl rfl hl.1 (Nat.le_of_ble_eq_true rfl) dX11_goes_37 ⟨Nat.le_of_ble_eq_true rfl, Nat.le_of_ble_eq_true rfl⟩) (fun u H locs hz9 hH hS => ?_)
      have hz9 : u = (T, O, X) := hz9
      subst hz9
      have hH : HT D cs A T O X H := hH
      refine W.widen (k := 0) (n := 0) (Nat.le_of_ble_eq_true rfl) (Nat.le_of_ble_eq_true rfl) ?_
      refine lv_iload_n hx hb dX11_goes_40 rfl (lv_at hl 0 rfl) ?_
      exact te_i hx hb hr hlocks hH hS (⟨rfl, by omega, by omega⟩) dX11_goes_41
    · skip
      have tc30 := f_eq (k := -1) (by decide) c30
      refine lv_bipush (v := (-5)) hx hb dX11_goes_33 (by decide) ?_
      exact te_i hx hb hr hlocks hH hS (⟨rfl, by decide, by decide⟩) dX11_goes_35
  · skip
    have tc5 := f_eq (k := 0) (by decide) c5
    refine lv_bipush (v := (-2)) hx hb dX11_goes_8 (by decide) ?_
    exact te_i hx hb hr hlocks hH hS (⟨rfl, by decide, by decide⟩) dX11_goes_10
set_option maxHeartbeats 4000000 in
set_option maxRecDepth 100000 in
theorem s_FW_days (l : Launch) (D : va_G) (cs : CS) (kf : KF) (T : TF) (O : List Nat) (X : va_W) (a0 w hw gw ch gq : Nat) (x1 : Int32) (t_a0 : T a0 = some (21, w, ch)) (t_w : isW T w hw gw) (t_ch : T ch = some (10, gq, 0)) (hO : okO T O [1, 4, 16, 21]) : TK l D cs kf yX11_days cX11_days 2 (some (.int)) { frames := 2, cells := 0, slots := 0, locals := 81 } [.ref a0, .int x1] T O X (Ti D cs (fun r u => u = (T, O, X))) := by
  refine tk_of (by decide) (Nat.le_of_ble_eq_true rfl) (fun p e s m below meth c ls A H locs hx hb hr hml hown hts hlocks hnm hkb hH hS hA hOX hks hE hl => ?_)
  have hown : s.vm.findClass RX11 = some m.cls := hown
  have hl : lv_has ls 2 [(0, .ref a0), (1, .int x1)] := hl
  have b1_w := t_w.2.1
  have b2_w := t_w.2.2
  refine lv_iload_n hx hb dX11_days_0 rfl (lv_at hl 1 rfl) ?_
  refine lv_iconst (v := 1) hx hb dX11_days_1 (by decide) ?_
  have J11 : ∀  (H : Heap) (locs : List Loc) (ls : Array Slot), HT D cs A T O X H → va_S A s.heap H locs → lv_has ls 2 [] → W p l e { frames := 2, cells := 0, slots := 0, locals := 81 } s m [.ref a0, .int x1].toArray below meth c H locs 0 0 (MQ below (Ti D cs (fun r u => u = (T, O, X)) A) [.ref a0, .int x1].toArray s 0 0 A) (F0 m 11 ls []) := by
    intro  H locs ls  hH hS hl
    refine lv_bipush (v := (-3)) hx hb dX11_days_11 (by decide) ?_
    exact te_i hx hb hr hlocks hH hS (rfl) dX11_days_13
  refine lv_icmp_lt (tgt := 11) hx hb dX11_days_2 (by decide) (fun c2 => ?_) (fun c2 => ?_)
  · skip
    have tc2 := f_lt (k := 1) (by decide) c2
    exact J11  _ _ _  hH hS (lv_sub hl [] rfl)
  · skip
    have tc2 := f_nlt (k := 1) (by decide) c2
    refine lv_iload_n hx hb dX11_days_5 rfl (lv_at hl 1 rfl) ?_
    refine lv_bipush (v := 99) hx hb dX11_days_6 (by decide) ?_
    refine lv_icmp_le (tgt := 14) hx hb dX11_days_8 (by decide) (fun c8 => ?_) (fun c8 => ?_)
    · skip
      have tc8 := f_le (k := 99) (by decide) c8
      refine lv_aload_n hx hb dX11_days_14 rfl (lv_at hl 0 rfl) ?_
      refine t_get (ci := 11) (lst := ft11 w ch) (C := RX11) (F := TX11) (N := 20) hx hb hts uX11 hown hkb hH t_a0 (hO.no t_a0 (by decide)) (fun _ h9 => h9) rfl rfl 5 (by decide) rfl kw_365 (fun _ h9 => h9) dX11_days_15 (fun v9 h9 => ?_)
      obtain ⟨v15, rfl, t_v15⟩ := h9
      refine lv_aload_n hx hb dX11_days_18 rfl (lv_at hl 0 rfl) ?_
      refine t_get (ci := 11) (lst := ft11 w ch) (C := RX11) (F := TX11) (N := 20) hx hb hts uX11 hown hkb hH t_a0 (hO.no t_a0 (by decide)) (fun _ h9 => h9) rfl rfl 4 (by decide) rfl kw_364 (fun _ h9 => h9) dX11_days_19 (fun v9 h9 => ?_)
      obtain ⟨v19, rfl, t_v19⟩ := h9
      refine tk_v hH hS hA (tr_V (n := 1) (As := [.ref v19]) hx hb hml hown hts hkb hH hOX hks hE hS hA (s_State_take l D cs kf T O X v15 v19 t_v15 t_v19 (hO.sub (by decide))) kw_757 kw_758 kw_759 kw_7 kw_760 (by decide +kernel) ⟨Nat.le_of_ble_eq_true rfl, Nat.le_of_ble_eq_true rfl⟩ (HT.recv (ci := 6) hkb hH t_v15 (hO.no t_v15 (by decide)) rfl) rfl rfl hl.1 (Nat.le_of_ble_eq_true rfl) dX11_days_22 ⟨Nat.le_of_ble_eq_true rfl, Nat.le_of_ble_eq_true rfl⟩) (fun u H locs hz9 hH hS => ?_)
      have hz9 : u = (T, O, X) := hz9
      subst hz9
      have hH : HT D cs A T O X H := hH
      refine W.widen (k := 0) (n := 0) (Nat.le_of_ble_eq_true rfl) (Nat.le_of_ble_eq_true rfl) ?_
      refine lv_aload_n hx hb dX11_days_25 rfl (lv_at hl 0 rfl) ?_
      refine t_get (ci := 11) (lst := ft11 w ch) (C := RX11) (F := TX11) (N := 20) hx hb hts uX11 hown hkb hH t_a0 (hO.no t_a0 (by decide)) (fun _ h9 => h9) rfl rfl 4 (by decide) rfl kw_364 (fun _ h9 => h9) dX11_days_26 (fun v9 h9 => ?_)
      obtain ⟨v26, rfl, t_v26⟩ := h9
      refine lv_dup hx hb dX11_days_29 rfl ?_
      refine t_get (ci := 6) (lst := ft6 0 0) (C := RX6) (F := TX6) (N := 6) hx hb hts uX6 hown hkb hH t_v26 (hO.no t_v26 (by decide)) (fun _ h9 => h9) rfl rfl 2 (by decide) rfl kw_191 (fun _ h9 => h9) dX11_days_30 (fun v9 h9 => ?_)
      obtain ⟨v30, rfl⟩ := h9
      refine lv_iload_n hx hb dX11_days_33 rfl (lv_at hl 1 rfl) ?_
      refine lv_iadd hx hb dX11_days_34 ?_
      refine lv_topi (fun v34 ev34 => ?_)
      refine t_put (ci := 6) (lst := ft6 0 0) (v := .int v34) (ty := tyX6 2) (C := RX6) (F := TX6) (N := 6) hx hb hts uX6 tyX6 tyX6_ok nmX6 hown hkb hH hS t_v26 (hO.no t_v26 (by decide)) (fun _ => Iff.rfl) rfl rfl 2 (by decide) rfl (⟨_, rfl⟩) kw_191 (fun _ h9 => h9) rfl (tyX6_ok 2 (by decide)) rfl rfl dX11_days_35 (fun H locs hH hS => ?_)
      refine lv_aload_n hx hb dX11_days_38 rfl (lv_at hl 0 rfl) ?_
      refine tk_v hH hS hA (tr_V (n := 0) (As := []) hx hb hml hown hts hkb hH hOX hks hE hS hA (s_FW_remember l D cs kf T O X a0 w hw gw ch gq t_a0 t_w t_ch (hO.sub (by decide))) kw_899 kw_901 ks_25 kw_1 kw_902 (by decide +kernel) ⟨Nat.le_of_ble_eq_true rfl, Nat.le_of_ble_eq_true rfl⟩ (HT.recv (ci := 11) hkb hH t_a0 (hO.no t_a0 (by decide)) rfl) rfl rfl hl.1 (Nat.le_of_ble_eq_true rfl) dX11_days_39 ⟨Nat.le_of_ble_eq_true rfl, Nat.le_of_ble_eq_true rfl⟩) (fun u H locs hz9 hH hS => ?_)
      have hz9 : u = (T, O, X) := hz9
      subst hz9
      have hH : HT D cs A T O X H := hH
      refine W.widen (k := 0) (n := 0) (Nat.le_of_ble_eq_true rfl) (Nat.le_of_ble_eq_true rfl) ?_
      refine lv_aload_n hx hb dX11_days_42 rfl (lv_at hl 0 rfl) ?_
      refine t_get (ci := 11) (lst := ft11 w ch) (C := RX11) (F := TX11) (N := 20) hx hb hts uX11 hown hkb hH t_a0 (hO.no t_a0 (by decide)) (fun _ h9 => h9) rfl rfl 4 (by decide) rfl kw_364 (fun _ h9 => h9) dX11_days_43 (fun v9 h9 => ?_)
      obtain ⟨v43, rfl, t_v43⟩ := h9
      refine t_get (ci := 6) (lst := ft6 0 0) (C := RX6) (F := TX6) (N := 6) hx hb hts uX6 hown hkb hH t_v43 (hO.no t_v43 (by decide)) (fun _ h9 => h9) rfl rfl 2 (by decide) rfl kw_191 (fun _ h9 => h9) dX11_days_46 (fun v9 h9 => ?_)
      obtain ⟨v46, rfl⟩ := h9
      exact te_i hx hb hr hlocks hH hS (rfl) dX11_days_49
    · skip
      have tc8 := f_nle (k := 99) (by decide) c8
      exact J11  _ _ _  hH hS (lv_sub hl [] rfl)
set_option maxHeartbeats 4000000 in
set_option maxRecDepth 100000 in
theorem s_FW_rain (l : Launch) (D : va_G) (cs : CS) (kf : KF) (T : TF) (O : List Nat) (X : va_W) (a0 w hw gw ch gq : Nat) (x1 : Int32) (t_a0 : T a0 = some (21, w, ch)) (t_w : isW T w hw gw) (t_ch : T ch = some (10, gq, 0)) (hO : okO T O [1, 4, 16, 21]) : TK l D cs kf yX11_rain cX11_rain 3 (some (.int)) { frames := 2, cells := 0, slots := 0, locals := 81 } [.ref a0, .int x1] T O X (Ti D cs (fun r u => u = (T, O, X))) := by
  refine tk_of (by decide) (Nat.le_of_ble_eq_true rfl) (fun p e s m below meth c ls A H locs hx hb hr hml hown hts hlocks hnm hkb hH hS hA hOX hks hE hl => ?_)
  have hown : s.vm.findClass RX11 = some m.cls := hown
  have hl : lv_has ls 3 [(0, .ref a0), (1, .int x1)] := hl
  have b1_w := t_w.2.1
  have b2_w := t_w.2.2
  refine lv_iload_n hx hb dX11_rain_0 rfl (lv_at hl 1 rfl) ?_
  refine lv_iconst (v := 1) hx hb dX11_rain_1 (by decide) ?_
  have J11 : ∀  (H : Heap) (locs : List Loc) (ls : Array Slot), HT D cs A T O X H → va_S A s.heap H locs → lv_has ls 3 [] → W p l e { frames := 2, cells := 0, slots := 0, locals := 81 } s m [.ref a0, .int x1].toArray below meth c H locs 0 0 (MQ below (Ti D cs (fun r u => u = (T, O, X)) A) [.ref a0, .int x1].toArray s 0 0 A) (F0 m 11 ls []) := by
    intro  H locs ls  hH hS hl
    refine lv_bipush (v := (-3)) hx hb dX11_rain_11 (by decide) ?_
    exact te_i hx hb hr hlocks hH hS (rfl) dX11_rain_13
  refine lv_icmp_lt (tgt := 11) hx hb dX11_rain_2 (by decide) (fun c2 => ?_) (fun c2 => ?_)
  · skip
    have tc2 := f_lt (k := 1) (by decide) c2
    exact J11  _ _ _  hH hS (lv_sub hl [] rfl)
  · skip
    have tc2 := f_nlt (k := 1) (by decide) c2
    refine lv_iload_n hx hb dX11_rain_5 rfl (lv_at hl 1 rfl) ?_
    refine lv_bipush (v := 14) hx hb dX11_rain_6 (by decide) ?_
    refine lv_icmp_le (tgt := 14) hx hb dX11_rain_8 (by decide) (fun c8 => ?_) (fun c8 => ?_)
    · skip
      have tc8 := f_le (k := 14) (by decide) c8
      refine lv_aload_n hx hb dX11_rain_14 rfl (lv_at hl 0 rfl) ?_
      refine t_get (ci := 11) (lst := ft11 w ch) (C := RX11) (F := TX11) (N := 20) hx hb hts uX11 hown hkb hH t_a0 (hO.no t_a0 (by decide)) (fun _ h9 => h9) rfl rfl 5 (by decide) rfl kw_365 (fun _ h9 => h9) dX11_rain_15 (fun v9 h9 => ?_)
      obtain ⟨v15, rfl, t_v15⟩ := h9
      refine lv_aload_n hx hb dX11_rain_18 rfl (lv_at hl 0 rfl) ?_
      refine t_get (ci := 11) (lst := ft11 w ch) (C := RX11) (F := TX11) (N := 20) hx hb hts uX11 hown hkb hH t_a0 (hO.no t_a0 (by decide)) (fun _ h9 => h9) rfl rfl 4 (by decide) rfl kw_364 (fun _ h9 => h9) dX11_rain_19 (fun v9 h9 => ?_)
      obtain ⟨v19, rfl, t_v19⟩ := h9
      refine tk_v hH hS hA (tr_V (n := 1) (As := [.ref v19]) hx hb hml hown hts hkb hH hOX hks hE hS hA (s_State_take l D cs kf T O X v15 v19 t_v15 t_v19 (hO.sub (by decide))) kw_757 kw_758 kw_759 kw_7 kw_760 (by decide +kernel) ⟨Nat.le_of_ble_eq_true rfl, Nat.le_of_ble_eq_true rfl⟩ (HT.recv (ci := 6) hkb hH t_v15 (hO.no t_v15 (by decide)) rfl) rfl rfl hl.1 (Nat.le_of_ble_eq_true rfl) dX11_rain_22 ⟨Nat.le_of_ble_eq_true rfl, Nat.le_of_ble_eq_true rfl⟩) (fun u H locs hz9 hH hS => ?_)
      have hz9 : u = (T, O, X) := hz9
      subst hz9
      have hH : HT D cs A T O X H := hH
      refine W.widen (k := 0) (n := 0) (Nat.le_of_ble_eq_true rfl) (Nat.le_of_ble_eq_true rfl) ?_
      refine lv_aload_n hx hb dX11_rain_25 rfl (lv_at hl 0 rfl) ?_
      refine t_get (ci := 11) (lst := ft11 w ch) (C := RX11) (F := TX11) (N := 20) hx hb hts uX11 hown hkb hH t_a0 (hO.no t_a0 (by decide)) (fun _ h9 => h9) rfl rfl 4 (by decide) rfl kw_364 (fun _ h9 => h9) dX11_rain_26 (fun v9 h9 => ?_)
      obtain ⟨v26, rfl, t_v26⟩ := h9
      refine lv_iload_n hx hb dX11_rain_29 rfl (lv_at hl 1 rfl) ?_
      refine tk_i hH hS hA (tr_V (n := 1) (As := [.int x1]) hx hb hml hown hts hkb hH hOX hks hE hS hA (s_State_comeBack l D cs kf T O X v26 x1 t_v26 (hO.sub (by decide))) kw_938 kw_939 kw_940 kw_7 kw_941 (by decide +kernel) ⟨Nat.le_of_ble_eq_true rfl, Nat.le_of_ble_eq_true rfl⟩ (HT.recv (ci := 6) hkb hH t_v26 (hO.no t_v26 (by decide)) rfl) rfl rfl hl.1 (Nat.le_of_ble_eq_true rfl) dX11_rain_30 ⟨Nat.le_of_ble_eq_true rfl, Nat.le_of_ble_eq_true rfl⟩) (fun v30 u H locs hz9 hH hS => ?_)
      have hz9 : u = (T, O, X) := hz9
      subst hz9
      have hH : HT D cs A T O X H := hH
      refine W.widen (k := 0) (n := 0) (Nat.le_of_ble_eq_true rfl) (Nat.le_of_ble_eq_true rfl) ?_
      refine lv_istore_n (lv' := [(2, .int v30), (0, .ref a0), (1, .int x1)]) hx hb dX11_rain_33 rfl hl (by decide) rfl (fun ls hl => ?_)
      refine lv_iload_n hx hb dX11_rain_34 rfl (lv_at hl 0 rfl) ?_
      have J42 : ∀  (H : Heap) (locs : List Loc) (ls : Array Slot), HT D cs A T O X H → va_S A s.heap H locs → lv_has ls 3 [(2, .int v30)] → W p l e { frames := 2, cells := 0, slots := 0, locals := 81 } s m [.ref a0, .int x1].toArray below meth c H locs 0 0 (MQ below (Ti D cs (fun r u => u = (T, O, X)) A) [.ref a0, .int x1].toArray s 0 0 A) (F0 m 42 ls []) := by
        intro  H locs ls  hH hS hl
        refine lv_iload_n hx hb dX11_rain_42 rfl (lv_at hl 0 rfl) ?_
        exact te_i hx hb hr hlocks hH hS (rfl) dX11_rain_43
      refine lv_if_le (tgt := 42) hx hb dX11_rain_35 (by decide) (fun c35 => ?_) (fun c35 => ?_)
      · skip
        have tc35 := f_le (k := 0) (by decide) c35
        exact J42  _ _ _  hH hS (lv_sub hl [0] rfl)
      · skip
        have tc35 := f_nle (k := 0) (by decide) c35
        refine lv_aload_n hx hb dX11_rain_38 rfl (lv_at hl 1 rfl) ?_
        refine tk_v hH hS hA (tr_V (n := 0) (As := []) hx hb hml hown hts hkb hH hOX hks hE hS hA (s_FW_remember l D cs kf T O X a0 w hw gw ch gq t_a0 t_w t_ch (hO.sub (by decide))) kw_899 kw_901 ks_25 kw_1 kw_902 (by decide +kernel) ⟨Nat.le_of_ble_eq_true rfl, Nat.le_of_ble_eq_true rfl⟩ (HT.recv (ci := 11) hkb hH t_a0 (hO.no t_a0 (by decide)) rfl) rfl rfl hl.1 (Nat.le_of_ble_eq_true rfl) dX11_rain_39 ⟨Nat.le_of_ble_eq_true rfl, Nat.le_of_ble_eq_true rfl⟩) (fun u H locs hz9 hH hS => ?_)
        have hz9 : u = (T, O, X) := hz9
        subst hz9
        have hH : HT D cs A T O X H := hH
        refine W.widen (k := 0) (n := 0) (Nat.le_of_ble_eq_true rfl) (Nat.le_of_ble_eq_true rfl) ?_
        exact J42  _ _ _  hH hS (lv_sub hl [0] rfl)
    · skip
      have tc8 := f_nle (k := 14) (by decide) c8
      exact J11  _ _ _  hH hS (lv_sub hl [] rfl)
set_option maxHeartbeats 4000000 in
set_option maxRecDepth 100000 in
theorem s_FW_breaks (l : Launch) (D : va_G) (cs : CS) (kf : KF) (T : TF) (O : List Nat) (X : va_W) (a0 w hw gw ch gq : Nat) (x1 : Int32) (t_a0 : T a0 = some (21, w, ch)) (t_w : isW T w hw gw) (t_ch : T ch = some (10, gq, 0)) (hO : okO T O [1, 4, 16, 19, 21]) : TK l D cs kf yX11_breaks cX11_breaks 3 (some (.int)) { frames := 2, cells := 0, slots := 0, locals := 81 } [.ref a0, .int x1] T O X (Ti D cs (fun r u => u = (T, O, X) ∧ -5 ≤ r.toInt ∧ r.toInt ≤ 1)) := by
  refine tk_of (by decide) (Nat.le_of_ble_eq_true rfl) (fun p e s m below meth c ls A H locs hx hb hr hml hown hts hlocks hnm hkb hH hS hA hOX hks hE hl => ?_)
  have hown : s.vm.findClass RX11 = some m.cls := hown
  have hl : lv_has ls 3 [(0, .ref a0), (1, .int x1)] := hl
  have b1_w := t_w.2.1
  have b2_w := t_w.2.2
  refine lv_aload_n hx hb dX11_breaks_0 rfl (lv_at hl 0 rfl) ?_
  refine lv_iload_n hx hb dX11_breaks_1 rfl (lv_at hl 1 rfl) ?_
  refine tk_i hH hS hA (tr_V (n := 1) (As := [.int x1]) hx hb hml hown hts hkb hH hOX hks hE hS hA (s_FW_isHold l D cs kf T O X a0 w hw gw ch gq x1 t_a0 t_w t_ch (hO.sub (by decide))) kw_770 kw_772 ks_17 kw_1 kw_773 (by decide +kernel) ⟨Nat.le_of_ble_eq_true rfl, Nat.le_of_ble_eq_true rfl⟩ (HT.recv (ci := 11) hkb hH t_a0 (hO.no t_a0 (by decide)) rfl) rfl rfl hl.1 (Nat.le_of_ble_eq_true rfl) dX11_breaks_2 ⟨Nat.le_of_ble_eq_true rfl, Nat.le_of_ble_eq_true rfl⟩) (fun v2 u H locs hz9 hH hS => ?_)
  obtain ⟨rfl, l_v2, u_v2, x_v20⟩ := hz9
  have hH : HT D cs A T O X H := hH
  refine W.widen (k := 0) (n := 0) (Nat.le_of_ble_eq_true rfl) (Nat.le_of_ble_eq_true rfl) ?_
  refine lv_if_ne (tgt := 11) hx hb dX11_breaks_5 (by decide) (fun c5 => ?_) (fun c5 => ?_)
  · skip
    have tc5 := f_ne (k := 0) (by decide) c5
    refine lv_aload_n hx hb dX11_breaks_11 rfl (lv_at hl 0 rfl) ?_
    refine t_get (ci := 11) (lst := ft11 w ch) (C := RX11) (F := TX11) (N := 20) hx hb hts uX11 hown hkb hH t_a0 (hO.no t_a0 (by decide)) (fun _ h9 => h9) rfl rfl 4 (by decide) rfl kw_364 (fun _ h9 => h9) dX11_breaks_12 (fun v9 h9 => ?_)
    obtain ⟨v12, rfl, t_v12⟩ := h9
    refine t_get (ci := 6) (lst := ft6 0 0) (C := RX6) (F := TX6) (N := 6) hx hb hts uX6 hown hkb hH t_v12 (hO.no t_v12 (by decide)) (fun _ h9 => h9) rfl rfl 1 (by decide) rfl kw_188 (fun _ h9 => h9) dX11_breaks_15 (fun v9 h9 => ?_)
    obtain ⟨v15, rfl⟩ := h9
    refine lv_iload_n hx hb dX11_breaks_18 rfl (lv_at hl 1 rfl) ?_
    refine lv_ishr hx hb dX11_breaks_19 ?_
    refine lv_topi (fun v19 ev19 => ?_)
    refine lv_iconst (v := 1) hx hb dX11_breaks_20 (by decide) ?_
    refine lv_iand hx hb dX11_breaks_21 ?_
    refine lv_topi (fun v21 ev21 => ?_)
    have tv21 : 0 ≤ v21.toInt ∧ v21.toInt ≤ 1 := by rw [ev21]; exact and_r (by decide)
    refine lv_if_eq (tgt := 28) hx hb dX11_breaks_22 (by decide) (fun c22 => ?_) (fun c22 => ?_)
    · skip
      have tc22 := f_eq (k := 0) (by decide) c22
      refine lv_aload_n hx hb dX11_breaks_28 rfl (lv_at hl 0 rfl) ?_
      refine t_get (ci := 11) (lst := ft11 w ch) (C := RX11) (F := TX11) (N := 20) hx hb hts uX11 hown hkb hH t_a0 (hO.no t_a0 (by decide)) (fun _ h9 => h9) rfl rfl 5 (by decide) rfl kw_365 (fun _ h9 => h9) dX11_breaks_29 (fun v9 h9 => ?_)
      obtain ⟨v29, rfl, t_v29⟩ := h9
      refine lv_aload_n hx hb dX11_breaks_32 rfl (lv_at hl 0 rfl) ?_
      refine t_get (ci := 11) (lst := ft11 w ch) (C := RX11) (F := TX11) (N := 20) hx hb hts uX11 hown hkb hH t_a0 (hO.no t_a0 (by decide)) (fun _ h9 => h9) rfl rfl 4 (by decide) rfl kw_364 (fun _ h9 => h9) dX11_breaks_33 (fun v9 h9 => ?_)
      obtain ⟨v33, rfl, t_v33⟩ := h9
      refine tk_v hH hS hA (tr_V (n := 1) (As := [.ref v33]) hx hb hml hown hts hkb hH hOX hks hE hS hA (s_State_take l D cs kf T O X v29 v33 t_v29 t_v33 (hO.sub (by decide))) kw_757 kw_758 kw_759 kw_7 kw_760 (by decide +kernel) ⟨Nat.le_of_ble_eq_true rfl, Nat.le_of_ble_eq_true rfl⟩ (HT.recv (ci := 6) hkb hH t_v29 (hO.no t_v29 (by decide)) rfl) rfl rfl hl.1 (Nat.le_of_ble_eq_true rfl) dX11_breaks_36 ⟨Nat.le_of_ble_eq_true rfl, Nat.le_of_ble_eq_true rfl⟩) (fun u H locs hz9 hH hS => ?_)
      have hz9 : u = (T, O, X) := hz9
      subst hz9
      have hH : HT D cs A T O X H := hH
      refine W.widen (k := 0) (n := 0) (Nat.le_of_ble_eq_true rfl) (Nat.le_of_ble_eq_true rfl) ?_
      refine lv_aload_n hx hb dX11_breaks_39 rfl (lv_at hl 0 rfl) ?_
      refine t_get (ci := 11) (lst := ft11 w ch) (C := RX11) (F := TX11) (N := 20) hx hb hts uX11 hown hkb hH t_a0 (hO.no t_a0 (by decide)) (fun _ h9 => h9) rfl rfl 4 (by decide) rfl kw_364 (fun _ h9 => h9) dX11_breaks_40 (fun v9 h9 => ?_)
      obtain ⟨v40, rfl, t_v40⟩ := h9
      refine lv_iload_n hx hb dX11_breaks_43 rfl (lv_at hl 1 rfl) ?_
      refine tk_i hH hS hA (tr_V (n := 1) (As := [.int x1]) hx hb hml hown hts hkb hH hOX hks hE hS hA (s_State_breakDown l D cs kf T O X v40 x1 t_v40 (hO.sub (by decide))) kw_946 kw_703 kw_704 kw_7 kw_705 (by decide +kernel) ⟨Nat.le_of_ble_eq_true rfl, Nat.le_of_ble_eq_true rfl⟩ (HT.recv (ci := 6) hkb hH t_v40 (hO.no t_v40 (by decide)) rfl) rfl rfl hl.1 (Nat.le_of_ble_eq_true rfl) dX11_breaks_44 ⟨Nat.le_of_ble_eq_true rfl, Nat.le_of_ble_eq_true rfl⟩) (fun v44 u H locs hz9 hH hS => ?_)
      obtain ⟨rfl, l_v44, u_v44⟩ := hz9
      have hH : HT D cs A T O X H := hH
      refine W.widen (k := 0) (n := 0) (Nat.le_of_ble_eq_true rfl) (Nat.le_of_ble_eq_true rfl) ?_
      refine lv_istore_n (lv' := [(2, .int v44), (0, .ref a0), (1, .int x1)]) hx hb dX11_breaks_47 rfl hl (by decide) rfl (fun ls hl => ?_)
      refine lv_aload_n hx hb dX11_breaks_48 rfl (lv_at hl 1 rfl) ?_
      refine tk_v hH hS hA (tr_V (n := 0) (As := []) hx hb hml hown hts hkb hH hOX hks hE hS hA (s_FW_remember l D cs kf T O X a0 w hw gw ch gq t_a0 t_w t_ch (hO.sub (by decide))) kw_899 kw_901 ks_25 kw_1 kw_902 (by decide +kernel) ⟨Nat.le_of_ble_eq_true rfl, Nat.le_of_ble_eq_true rfl⟩ (HT.recv (ci := 11) hkb hH t_a0 (hO.no t_a0 (by decide)) rfl) rfl rfl hl.1 (Nat.le_of_ble_eq_true rfl) dX11_breaks_49 ⟨Nat.le_of_ble_eq_true rfl, Nat.le_of_ble_eq_true rfl⟩) (fun u H locs hz9 hH hS => ?_)
      have hz9 : u = (T, O, X) := hz9
      subst hz9
      have hH : HT D cs A T O X H := hH
      refine W.widen (k := 0) (n := 0) (Nat.le_of_ble_eq_true rfl) (Nat.le_of_ble_eq_true rfl) ?_
      refine lv_iload_n hx hb dX11_breaks_52 rfl (lv_at hl 0 rfl) ?_
      exact te_i hx hb hr hlocks hH hS (⟨rfl, by omega, by omega⟩) dX11_breaks_53
    · skip
      have tc22 := f_ne (k := 0) (by decide) c22
      refine lv_bipush (v := (-5)) hx hb dX11_breaks_25 (by decide) ?_
      exact te_i hx hb hr hlocks hH hS (⟨rfl, by decide, by decide⟩) dX11_breaks_27
  · skip
    have tc5 := f_eq (k := 0) (by decide) c5
    refine lv_bipush (v := (-2)) hx hb dX11_breaks_8 (by decide) ?_
    exact te_i hx hb hr hlocks hH hS (⟨rfl, by decide, by decide⟩) dX11_breaks_10
set_option maxHeartbeats 4000000 in
set_option maxRecDepth 100000 in
theorem s_FW_newYear (l : Launch) (D : va_G) (cs : CS) (kf : KF) (T : TF) (O : List Nat) (X : va_W) (a0 w hw gw ch gq : Nat) (t_a0 : T a0 = some (21, w, ch)) (t_w : isW T w hw gw) (t_ch : T ch = some (10, gq, 0)) (hO : okO T O [1, 4, 16, 21]) : TK l D cs kf yX11_newYear cX11_newYear 2 (some (.int)) { frames := 2, cells := 0, slots := 0, locals := 81 } [.ref a0] T O X (Ti D cs (fun r u => u = (T, O, X) ∧ 0 ≤ r.toInt ∧ r.toInt ≤ 63)) := by
  refine tk_of (by decide) (Nat.le_of_ble_eq_true rfl) (fun p e s m below meth c ls A H locs hx hb hr hml hown hts hlocks hnm hkb hH hS hA hOX hks hE hl => ?_)
  have hown : s.vm.findClass RX11 = some m.cls := hown
  have hl : lv_has ls 2 [(0, .ref a0)] := hl
  have b1_w := t_w.2.1
  have b2_w := t_w.2.2
  refine lv_aload_n hx hb dX11_newYear_0 rfl (lv_at hl 0 rfl) ?_
  refine t_get (ci := 11) (lst := ft11 w ch) (C := RX11) (F := TX11) (N := 20) hx hb hts uX11 hown hkb hH t_a0 (hO.no t_a0 (by decide)) (fun _ h9 => h9) rfl rfl 5 (by decide) rfl kw_365 (fun _ h9 => h9) dX11_newYear_1 (fun v9 h9 => ?_)
  obtain ⟨v1, rfl, t_v1⟩ := h9
  refine lv_aload_n hx hb dX11_newYear_4 rfl (lv_at hl 0 rfl) ?_
  refine t_get (ci := 11) (lst := ft11 w ch) (C := RX11) (F := TX11) (N := 20) hx hb hts uX11 hown hkb hH t_a0 (hO.no t_a0 (by decide)) (fun _ h9 => h9) rfl rfl 4 (by decide) rfl kw_364 (fun _ h9 => h9) dX11_newYear_5 (fun v9 h9 => ?_)
  obtain ⟨v5, rfl, t_v5⟩ := h9
  refine tk_v hH hS hA (tr_V (n := 1) (As := [.ref v5]) hx hb hml hown hts hkb hH hOX hks hE hS hA (s_State_take l D cs kf T O X v1 v5 t_v1 t_v5 (hO.sub (by decide))) kw_757 kw_758 kw_759 kw_7 kw_760 (by decide +kernel) ⟨Nat.le_of_ble_eq_true rfl, Nat.le_of_ble_eq_true rfl⟩ (HT.recv (ci := 6) hkb hH t_v1 (hO.no t_v1 (by decide)) rfl) rfl rfl hl.1 (Nat.le_of_ble_eq_true rfl) dX11_newYear_8 ⟨Nat.le_of_ble_eq_true rfl, Nat.le_of_ble_eq_true rfl⟩) (fun u H locs hz9 hH hS => ?_)
  have hz9 : u = (T, O, X) := hz9
  subst hz9
  have hH : HT D cs A T O X H := hH
  refine W.widen (k := 0) (n := 0) (Nat.le_of_ble_eq_true rfl) (Nat.le_of_ble_eq_true rfl) ?_
  refine lv_aload_n hx hb dX11_newYear_11 rfl (lv_at hl 0 rfl) ?_
  refine t_get (ci := 11) (lst := ft11 w ch) (C := RX11) (F := TX11) (N := 20) hx hb hts uX11 hown hkb hH t_a0 (hO.no t_a0 (by decide)) (fun _ h9 => h9) rfl rfl 4 (by decide) rfl kw_364 (fun _ h9 => h9) dX11_newYear_12 (fun v9 h9 => ?_)
  obtain ⟨v12, rfl, t_v12⟩ := h9
  refine t_get (ci := 6) (lst := ft6 0 0) (C := RX6) (F := TX6) (N := 6) hx hb hts uX6 hown hkb hH t_v12 (hO.no t_v12 (by decide)) (fun _ h9 => h9) rfl rfl 0 (by decide) rfl kw_186 (fun _ h9 => h9) dX11_newYear_15 (fun v9 h9 => ?_)
  obtain ⟨v15, rfl⟩ := h9
  refine tk_i hH hS hA (tr_S (n := 1) (As := [.int v15]) hx hb hml hown hts hkb hH hOX hks hE hS hA (s_bitCount l D cs kf T O X v15  (hO.sub (by decide))) kw_893 kw_692 kw_20 kw_693 (by decide +kernel) ⟨Nat.le_of_ble_eq_true rfl, Nat.le_of_ble_eq_true rfl⟩ rfl rfl hl.1 (Nat.le_of_ble_eq_true rfl) dX11_newYear_18 ⟨Nat.le_of_ble_eq_true rfl, Nat.le_of_ble_eq_true rfl⟩) (fun v18 u H locs hz9 hH hS => ?_)
  obtain ⟨rfl, l_v18, u_v18⟩ := hz9
  have hH : HT D cs A T O X H := hH
  refine W.widen (k := 0) (n := 0) (Nat.le_of_ble_eq_true rfl) (Nat.le_of_ble_eq_true rfl) ?_
  refine lv_istore_n (lv' := [(1, .int v18), (0, .ref a0)]) hx hb dX11_newYear_21 rfl hl (by decide) rfl (fun ls hl => ?_)
  refine lv_aload_n hx hb dX11_newYear_22 rfl (lv_at hl 1 rfl) ?_
  refine t_get (ci := 11) (lst := ft11 w ch) (C := RX11) (F := TX11) (N := 20) hx hb hts uX11 hown hkb hH t_a0 (hO.no t_a0 (by decide)) (fun _ h9 => h9) rfl rfl 4 (by decide) rfl kw_364 (fun _ h9 => h9) dX11_newYear_23 (fun v9 h9 => ?_)
  obtain ⟨v23, rfl, t_v23⟩ := h9
  refine lv_iconst (v := 0) hx hb dX11_newYear_26 (by decide) ?_
  refine t_put (ci := 6) (lst := ft6 0 0) (v := .int 0) (ty := tyX6 0) (C := RX6) (F := TX6) (N := 6) hx hb hts uX6 tyX6 tyX6_ok nmX6 hown hkb hH hS t_v23 (hO.no t_v23 (by decide)) (fun _ => Iff.rfl) rfl rfl 0 (by decide) rfl (⟨_, rfl⟩) kw_186 (fun _ h9 => h9) rfl (tyX6_ok 0 (by decide)) rfl rfl dX11_newYear_27 (fun H locs hH hS => ?_)
  refine lv_aload_n hx hb dX11_newYear_30 rfl (lv_at hl 1 rfl) ?_
  refine t_get (ci := 11) (lst := ft11 w ch) (C := RX11) (F := TX11) (N := 20) hx hb hts uX11 hown hkb hH t_a0 (hO.no t_a0 (by decide)) (fun _ h9 => h9) rfl rfl 4 (by decide) rfl kw_364 (fun _ h9 => h9) dX11_newYear_31 (fun v9 h9 => ?_)
  obtain ⟨v31, rfl, t_v31⟩ := h9
  refine lv_iconst (v := 0) hx hb dX11_newYear_34 (by decide) ?_
  refine t_put (ci := 6) (lst := ft6 0 0) (v := .int 0) (ty := tyX6 2) (C := RX6) (F := TX6) (N := 6) hx hb hts uX6 tyX6 tyX6_ok nmX6 hown hkb hH hS t_v31 (hO.no t_v31 (by decide)) (fun _ => Iff.rfl) rfl rfl 2 (by decide) rfl (⟨_, rfl⟩) kw_191 (fun _ h9 => h9) rfl (tyX6_ok 2 (by decide)) rfl rfl dX11_newYear_35 (fun H locs hH hS => ?_)
  refine lv_aload_n hx hb dX11_newYear_38 rfl (lv_at hl 1 rfl) ?_
  refine t_get (ci := 11) (lst := ft11 w ch) (C := RX11) (F := TX11) (N := 20) hx hb hts uX11 hown hkb hH t_a0 (hO.no t_a0 (by decide)) (fun _ h9 => h9) rfl rfl 4 (by decide) rfl kw_364 (fun _ h9 => h9) dX11_newYear_39 (fun v9 h9 => ?_)
  obtain ⟨v39, rfl, t_v39⟩ := h9
  refine lv_dup hx hb dX11_newYear_42 rfl ?_
  refine t_get (ci := 6) (lst := ft6 0 0) (C := RX6) (F := TX6) (N := 6) hx hb hts uX6 hown hkb hH t_v39 (hO.no t_v39 (by decide)) (fun _ h9 => h9) rfl rfl 3 (by decide) rfl kw_193 (fun _ h9 => h9) dX11_newYear_43 (fun v9 h9 => ?_)
  obtain ⟨v43, rfl⟩ := h9
  refine lv_iconst (v := 1) hx hb dX11_newYear_46 (by decide) ?_
  refine lv_iadd hx hb dX11_newYear_47 ?_
  refine lv_topi (fun v47 ev47 => ?_)
  refine t_put (ci := 6) (lst := ft6 0 0) (v := .int v47) (ty := tyX6 3) (C := RX6) (F := TX6) (N := 6) hx hb hts uX6 tyX6 tyX6_ok nmX6 hown hkb hH hS t_v39 (hO.no t_v39 (by decide)) (fun _ => Iff.rfl) rfl rfl 3 (by decide) rfl (⟨_, rfl⟩) kw_193 (fun _ h9 => h9) rfl (tyX6_ok 3 (by decide)) rfl rfl dX11_newYear_48 (fun H locs hH hS => ?_)
  refine lv_aload_n hx hb dX11_newYear_51 rfl (lv_at hl 1 rfl) ?_
  refine tk_v hH hS hA (tr_V (n := 0) (As := []) hx hb hml hown hts hkb hH hOX hks hE hS hA (s_FW_remember l D cs kf T O X a0 w hw gw ch gq t_a0 t_w t_ch (hO.sub (by decide))) kw_899 kw_901 ks_25 kw_1 kw_902 (by decide +kernel) ⟨Nat.le_of_ble_eq_true rfl, Nat.le_of_ble_eq_true rfl⟩ (HT.recv (ci := 11) hkb hH t_a0 (hO.no t_a0 (by decide)) rfl) rfl rfl hl.1 (Nat.le_of_ble_eq_true rfl) dX11_newYear_52 ⟨Nat.le_of_ble_eq_true rfl, Nat.le_of_ble_eq_true rfl⟩) (fun u H locs hz9 hH hS => ?_)
  have hz9 : u = (T, O, X) := hz9
  subst hz9
  have hH : HT D cs A T O X H := hH
  refine W.widen (k := 0) (n := 0) (Nat.le_of_ble_eq_true rfl) (Nat.le_of_ble_eq_true rfl) ?_
  refine lv_iload_n hx hb dX11_newYear_55 rfl (lv_at hl 0 rfl) ?_
  exact te_i hx hb hr hlocks hH hS (⟨rfl, by omega, by omega⟩) dX11_newYear_56
set_option maxHeartbeats 4000000 in
set_option maxRecDepth 100000 in
theorem s_FW_undo (l : Launch) (D : va_G) (cs : CS) (kf : KF) (T : TF) (O : List Nat) (X : va_W) (a0 w hw gw ch gq : Nat) (x1 : Int32) (t_a0 : T a0 = some (21, w, ch)) (t_w : isW T w hw gw) (t_ch : T ch = some (10, gq, 0)) (hO : okO T O [1, 4, 16, 21]) : TK l D cs kf yX11_undo cX11_undo 2 (some (.int)) { frames := 2, cells := 0, slots := 0, locals := 81 } [.ref a0, .int x1] T O X (Ti D cs (fun r u => u = (T, O, X) ∧ -9 ≤ r.toInt ∧ r.toInt ≤ 9)) := by
  refine tk_of (by decide) (Nat.le_of_ble_eq_true rfl) (fun p e s m below meth c ls A H locs hx hb hr hml hown hts hlocks hnm hkb hH hS hA hOX hks hE hl => ?_)
  have hown : s.vm.findClass RX11 = some m.cls := hown
  have hl : lv_has ls 2 [(0, .ref a0), (1, .int x1)] := hl
  have b1_w := t_w.2.1
  have b2_w := t_w.2.2
  have hO0 := hO
  obtain ⟨fs9, ho9, hH⟩ := hH.take t_a0 (hO0.no t_a0 (by decide))
  have hp0 : okL T (ft11 w ch) fs9 := ho9
  clear ho9
  obtain ⟨v9, fs9, rfl, h9, hp1⟩ := okL_i hp0
  obtain ⟨q0_0, rfl, t_q0_0⟩ := h9
  obtain ⟨v9, fs9, rfl, h9, hp2⟩ := okL_i hp1
  obtain ⟨q0_1, rfl, l_q0_1, u_q0_1, gt_q0_1⟩ := h9
  have eg_q0_1 : q0_1.toInt = (gq : Int) := by have q9 := tl_eq gt_q0_1 t_ch; omega
  obtain ⟨v9, fs9, rfl, h9, hp3⟩ := okL_i hp2
  obtain ⟨q0_2, dq0_2, rfl, t_q0_2, t_dq0_2⟩ := h9
  obtain ⟨v9, fs9, rfl, h9, hp4⟩ := okL_i hp3
  have h9 : v9 = .ref w := h9
  subst h9
  obtain ⟨v9, fs9, rfl, h9, hp5⟩ := okL_i hp4
  obtain ⟨q0_4, rfl, t_q0_4⟩ := h9
  obtain ⟨v9, fs9, rfl, h9, hp6⟩ := okL_i hp5
  obtain ⟨q0_5, rfl, t_q0_5⟩ := h9
  obtain ⟨v9, fs9, rfl, h9, hp7⟩ := okL_i hp6
  obtain ⟨q0_6, rfl, t_q0_6⟩ := h9
  obtain ⟨v9, fs9, rfl, h9, hp8⟩ := okL_i hp7
  obtain ⟨q0_7, rfl, l_q0_7, u_q0_7⟩ := h9
  obtain ⟨v9, fs9, rfl, h9, hp9⟩ := okL_i hp8
  obtain ⟨q0_8, rfl, l_q0_8, u_q0_8⟩ := h9
  obtain ⟨v9, fs9, rfl, h9, hp10⟩ := okL_i hp9
  obtain ⟨q0_9, rfl, t_q0_9⟩ := h9
  obtain ⟨v9, fs9, rfl, h9, hp11⟩ := okL_i hp10
  obtain ⟨q0_10, rfl, t_q0_10⟩ := h9
  obtain ⟨v9, fs9, rfl, h9, hp12⟩ := okL_i hp11
  obtain ⟨q0_11, rfl, t_q0_11⟩ := h9
  obtain ⟨v9, fs9, rfl, h9, hp13⟩ := okL_i hp12
  obtain ⟨q0_12, rfl, t_q0_12⟩ := h9
  obtain ⟨v9, fs9, rfl, h9, hp14⟩ := okL_i hp13
  obtain ⟨q0_13, rfl, t_q0_13⟩ := h9
  obtain ⟨v9, fs9, rfl, h9, hp15⟩ := okL_i hp14
  obtain ⟨q0_14, rfl, t_q0_14⟩ := h9
  obtain ⟨v9, fs9, rfl, h9, hp16⟩ := okL_i hp15
  obtain ⟨q0_15, rfl, t_q0_15⟩ := h9
  obtain ⟨v9, fs9, rfl, h9, hp17⟩ := okL_i hp16
  have h9 : v9 = .ref ch := h9
  subst h9
  obtain ⟨v9, fs9, rfl, h9, hp18⟩ := okL_i hp17
  obtain ⟨q0_17, rfl, t_q0_17⟩ := h9
  obtain ⟨v9, fs9, rfl, h9, hp19⟩ := okL_i hp18
  obtain ⟨q0_18, rfl, t_q0_18⟩ := h9
  obtain ⟨v9, fs9, rfl, h9, hp20⟩ := okL_i hp19
  obtain ⟨q0_19, rfl⟩ := h9
  have hpz := okL_z hp20
  subst hpz
  have hH : HT D cs A T (a0 :: O) ((a0, .inr (11, [.ref q0_0, .int q0_1, .ref q0_2, .ref w, .ref q0_4, .ref q0_5, .ref q0_6, .int q0_7, .int q0_8, .ref q0_9, .ref q0_10, .ref q0_11, .ref q0_12, .ref q0_13, .ref q0_14, .ref q0_15, .ref ch, .ref q0_17, .ref q0_18, .int q0_19])) :: X) H := hH
  have hO : okO T (a0 :: O) [1, 4, 16] := okO.cons (hO0.sub (by decide)) t_a0 (by decide)
  refine lv_iload_n hx hb dX11_undo_0 rfl (lv_at hl 1 rfl) ?_
  refine lv_iconst (v := 1) hx hb dX11_undo_1 (by decide) ?_
  have J13 : ∀  (H : Heap) (locs : List Loc) (ls : Array Slot), HT D cs A T (a0 :: O) ((a0, .inr (11, [.ref q0_0, .int q0_1, .ref q0_2, .ref w, .ref q0_4, .ref q0_5, .ref q0_6, .int q0_7, .int q0_8, .ref q0_9, .ref q0_10, .ref q0_11, .ref q0_12, .ref q0_13, .ref q0_14, .ref q0_15, .ref ch, .ref q0_17, .ref q0_18, .int q0_19])) :: X) H → va_S A s.heap H locs → lv_has ls 2 [] → W p l e { frames := 2, cells := 0, slots := 0, locals := 81 } s m [.ref a0, .int x1].toArray below meth c H locs 0 0 (MQ below (Ti D cs (fun r u => u = (T, O, X) ∧ -9 ≤ r.toInt ∧ r.toInt ≤ 9) A) [.ref a0, .int x1].toArray s 0 0 A) (F0 m 13 ls []) := by
    intro  H locs ls  hH hS hl
    refine lv_bipush (v := (-3)) hx hb dX11_undo_13 (by decide) ?_
    have hH : HT D cs A T O X H := HT.lay (ci := 11) hH t_a0 (okL_c (⟨_, rfl, t_q0_0⟩) (okL_c (⟨_, rfl, by omega, by omega, tl_of t_ch (by omega)⟩) (okL_c (⟨_, _, rfl, t_q0_2, t_dq0_2⟩) (okL_c (rfl) (okL_c (⟨_, rfl, t_q0_4⟩) (okL_c (⟨_, rfl, t_q0_5⟩) (okL_c (⟨_, rfl, t_q0_6⟩) (okL_c (⟨_, rfl, by omega, by omega⟩) (okL_c (⟨_, rfl, by omega, by omega⟩) (okL_c (⟨_, rfl, t_q0_9⟩) (okL_c (⟨_, rfl, t_q0_10⟩) (okL_c (⟨_, rfl, t_q0_11⟩) (okL_c (⟨_, rfl, t_q0_12⟩) (okL_c (⟨_, rfl, t_q0_13⟩) (okL_c (⟨_, rfl, t_q0_14⟩) (okL_c (⟨_, rfl, t_q0_15⟩) (okL_c (rfl) (okL_c (⟨_, rfl, t_q0_17⟩) (okL_c (⟨_, rfl, t_q0_18⟩) (okL_c (⟨_, rfl⟩) (okL_n)))))))))))))))))))))
    have hO := hO0
    exact te_i hx hb hr hlocks hH hS (⟨rfl, by decide, by decide⟩) dX11_undo_15
  refine lv_icmp_lt (tgt := 13) hx hb dX11_undo_2 (by decide) (fun c2 => ?_) (fun c2 => ?_)
  · skip
    have tc2 := f_lt (k := 1) (by decide) c2
    exact J13  _ _ _  hH hS (lv_sub hl [] rfl)
  · skip
    have tc2 := f_nlt (k := 1) (by decide) c2
    refine lv_iload_n hx hb dX11_undo_5 rfl (lv_at hl 1 rfl) ?_
    refine lv_aload_n hx hb dX11_undo_6 rfl (lv_at hl 0 rfl) ?_
    refine x_get (ci := 11) (C := RX11) (F := TX11) (N := 20) (v := .int q0_7) hx hb hts uX11 hown hkb hH rfl 7 (by decide) rfl kw_367 (fun _ h9 => h9) dX11_undo_7 ?_
    refine lv_icmp_le (tgt := 16) hx hb dX11_undo_10 (by decide) (fun c10 => ?_) (fun c10 => ?_)
    · skip
      have fuc10 := full_i x1
      have fvc10 := full_i q0_7
      have tc10 := g_le c10
      refine lv_aload_n hx hb dX11_undo_16 rfl (lv_at hl 0 rfl) ?_
      refine lv_aload_n hx hb dX11_undo_17 rfl (lv_at hl 0 rfl) ?_
      refine x_get (ci := 11) (C := RX11) (F := TX11) (N := 20) (v := .int q0_8) hx hb hts uX11 hown hkb hH rfl 8 (by decide) rfl kw_368 (fun _ h9 => h9) dX11_undo_18 ?_
      refine lv_iload_n hx hb dX11_undo_21 rfl (lv_at hl 1 rfl) ?_
      refine lv_isub hx hb dX11_undo_22 ?_
      refine lv_topi (fun v22 ev22 => ?_)
      have tv22 : v22.toInt = q0_8.toInt - x1.toInt := by rw [ev22]; exact sub_i rfl rfl (by omega) (by omega)
      refine lv_bipush (v := 10) hx hb dX11_undo_23 (by decide) ?_
      refine tk_i hH hS hA (tr_S (n := 2) (As := [.int v22, .int 10]) hx hb hml hown hts hkb hH (ox_c hOX) hks hE hS hA (s_floorMod l D cs kf T (a0 :: O) ((a0, .inr (11, [.ref q0_0, .int q0_1, .ref q0_2, .ref w, .ref q0_4, .ref q0_5, .ref q0_6, .int q0_7, .int q0_8, .ref q0_9, .ref q0_10, .ref q0_11, .ref q0_12, .ref q0_13, .ref q0_14, .ref q0_15, .ref ch, .ref q0_17, .ref q0_18, .int q0_19])) :: X) v22 (10) (by decide) (by decide) (hO.sub (by decide))) kw_955 kw_956 kw_6 kw_957 (by decide +kernel) ⟨Nat.le_of_ble_eq_true rfl, Nat.le_of_ble_eq_true rfl⟩ rfl rfl hl.1 (Nat.le_of_ble_eq_true rfl) dX11_undo_25 ⟨Nat.le_of_ble_eq_true rfl, Nat.le_of_ble_eq_true rfl⟩) (fun v25 u H locs hz9 hH hS => ?_)
      obtain ⟨rfl, l_v25, u_v25⟩ := hz9
      have hH : HT D cs A T (a0 :: O) ((a0, .inr (11, [.ref q0_0, .int q0_1, .ref q0_2, .ref w, .ref q0_4, .ref q0_5, .ref q0_6, .int q0_7, .int q0_8, .ref q0_9, .ref q0_10, .ref q0_11, .ref q0_12, .ref q0_13, .ref q0_14, .ref q0_15, .ref ch, .ref q0_17, .ref q0_18, .int q0_19])) :: X) H := hH
      refine W.widen (k := 0) (n := 0) (Nat.le_of_ble_eq_true rfl) (Nat.le_of_ble_eq_true rfl) ?_
      refine x_put (ci := 11) (v := .int v25) (ty := tyX11 8) (C := RX11) (F := TX11) (N := 20) hx hb hts uX11 tyX11 tyX11_ok nmX11 hown hkb hH hS rfl 8 (by decide) kw_368 (fun _ h9 => h9) rfl (tyX11_ok 8 (by decide)) rfl rfl (Nat.le_of_ble_eq_true rfl) dX11_undo_28 (fun H locs hH hS => ?_)
      have hH : HT D cs A T (a0 :: O) ((a0, .inr (11, [.ref q0_0, .int q0_1, .ref q0_2, .ref w, .ref q0_4, .ref q0_5, .ref q0_6, .int q0_7, .int v25, .ref q0_9, .ref q0_10, .ref q0_11, .ref q0_12, .ref q0_13, .ref q0_14, .ref q0_15, .ref ch, .ref q0_17, .ref q0_18, .int q0_19])) :: X) H := hH
      refine lv_aload_n hx hb dX11_undo_31 rfl (lv_at hl 0 rfl) ?_
      refine lv_dup hx hb dX11_undo_32 rfl ?_
      refine x_get (ci := 11) (C := RX11) (F := TX11) (N := 20) (v := .int q0_7) hx hb hts uX11 hown hkb hH rfl 7 (by decide) rfl kw_367 (fun _ h9 => h9) dX11_undo_33 ?_
      refine lv_iload_n hx hb dX11_undo_36 rfl (lv_at hl 1 rfl) ?_
      refine lv_isub hx hb dX11_undo_37 ?_
      refine lv_topi (fun v37 ev37 => ?_)
      have tv37 : v37.toInt = q0_7.toInt - x1.toInt := by rw [ev37]; exact sub_i rfl rfl (by omega) (by omega)
      refine x_put (ci := 11) (v := .int v37) (ty := tyX11 7) (C := RX11) (F := TX11) (N := 20) hx hb hts uX11 tyX11 tyX11_ok nmX11 hown hkb hH hS rfl 7 (by decide) kw_367 (fun _ h9 => h9) rfl (tyX11_ok 7 (by decide)) rfl rfl (Nat.le_of_ble_eq_true rfl) dX11_undo_38 (fun H locs hH hS => ?_)
      have hH : HT D cs A T (a0 :: O) ((a0, .inr (11, [.ref q0_0, .int q0_1, .ref q0_2, .ref w, .ref q0_4, .ref q0_5, .ref q0_6, .int v37, .int v25, .ref q0_9, .ref q0_10, .ref q0_11, .ref q0_12, .ref q0_13, .ref q0_14, .ref q0_15, .ref ch, .ref q0_17, .ref q0_18, .int q0_19])) :: X) H := hH
      refine lv_aload_n hx hb dX11_undo_41 rfl (lv_at hl 0 rfl) ?_
      refine x_get (ci := 11) (C := RX11) (F := TX11) (N := 20) (v := .ref q0_4) hx hb hts uX11 hown hkb hH rfl 4 (by decide) rfl kw_364 (fun _ h9 => h9) dX11_undo_42 ?_
      refine lv_aload_n hx hb dX11_undo_45 rfl (lv_at hl 0 rfl) ?_
      refine x_get (ci := 11) (C := RX11) (F := TX11) (N := 20) (v := .ref q0_6) hx hb hts uX11 hown hkb hH rfl 6 (by decide) rfl kw_366 (fun _ h9 => h9) dX11_undo_46 ?_
      refine lv_aload_n hx hb dX11_undo_49 rfl (lv_at hl 0 rfl) ?_
      refine x_get (ci := 11) (C := RX11) (F := TX11) (N := 20) (v := .int v25) hx hb hts uX11 hown hkb hH rfl 8 (by decide) rfl kw_368 (fun _ h9 => h9) dX11_undo_50 ?_
      refine t_qld4 hx hb hkb hH t_q0_6 (hO.no t_q0_6 (by decide)) (by omega) (by omega) dX11_undo_53 (fun v53 t_v53 => ?_)
      refine tk_v hH hS hA (tr_V (n := 1) (As := [.ref v53]) hx hb hml hown hts hkb hH (ox_c hOX) hks hE hS hA (s_State_take l D cs kf T (a0 :: O) ((a0, .inr (11, [.ref q0_0, .int q0_1, .ref q0_2, .ref w, .ref q0_4, .ref q0_5, .ref q0_6, .int v37, .int v25, .ref q0_9, .ref q0_10, .ref q0_11, .ref q0_12, .ref q0_13, .ref q0_14, .ref q0_15, .ref ch, .ref q0_17, .ref q0_18, .int q0_19])) :: X) q0_4 v53 t_q0_4 t_v53 (hO.sub (by decide))) kw_757 kw_758 kw_759 kw_7 kw_760 (by decide +kernel) ⟨Nat.le_of_ble_eq_true rfl, Nat.le_of_ble_eq_true rfl⟩ (HT.recv (ci := 6) hkb hH t_q0_4 (hO.no t_q0_4 (by decide)) rfl) rfl rfl hl.1 (Nat.le_of_ble_eq_true rfl) dX11_undo_54 ⟨Nat.le_of_ble_eq_true rfl, Nat.le_of_ble_eq_true rfl⟩) (fun u H locs hz9 hH hS => ?_)
      have hz9 : u = (T, a0 :: O, (a0, .inr (11, [.ref q0_0, .int q0_1, .ref q0_2, .ref w, .ref q0_4, .ref q0_5, .ref q0_6, .int v37, .int v25, .ref q0_9, .ref q0_10, .ref q0_11, .ref q0_12, .ref q0_13, .ref q0_14, .ref q0_15, .ref ch, .ref q0_17, .ref q0_18, .int q0_19])) :: X) := hz9
      subst hz9
      have hH : HT D cs A T (a0 :: O) ((a0, .inr (11, [.ref q0_0, .int q0_1, .ref q0_2, .ref w, .ref q0_4, .ref q0_5, .ref q0_6, .int v37, .int v25, .ref q0_9, .ref q0_10, .ref q0_11, .ref q0_12, .ref q0_13, .ref q0_14, .ref q0_15, .ref ch, .ref q0_17, .ref q0_18, .int q0_19])) :: X) H := hH
      refine W.widen (k := 0) (n := 0) (Nat.le_of_ble_eq_true rfl) (Nat.le_of_ble_eq_true rfl) ?_
      refine lv_aload_n hx hb dX11_undo_57 rfl (lv_at hl 0 rfl) ?_
      refine x_get (ci := 11) (C := RX11) (F := TX11) (N := 20) (v := .int v37) hx hb hts uX11 hown hkb hH rfl 7 (by decide) rfl kw_367 (fun _ h9 => h9) dX11_undo_58 ?_
      have hH : HT D cs A T O X H := HT.lay (ci := 11) hH t_a0 (okL_c (⟨_, rfl, t_q0_0⟩) (okL_c (⟨_, rfl, by omega, by omega, tl_of t_ch (by omega)⟩) (okL_c (⟨_, _, rfl, t_q0_2, t_dq0_2⟩) (okL_c (rfl) (okL_c (⟨_, rfl, t_q0_4⟩) (okL_c (⟨_, rfl, t_q0_5⟩) (okL_c (⟨_, rfl, t_q0_6⟩) (okL_c (⟨_, rfl, by omega, by omega⟩) (okL_c (⟨_, rfl, by omega, by omega⟩) (okL_c (⟨_, rfl, t_q0_9⟩) (okL_c (⟨_, rfl, t_q0_10⟩) (okL_c (⟨_, rfl, t_q0_11⟩) (okL_c (⟨_, rfl, t_q0_12⟩) (okL_c (⟨_, rfl, t_q0_13⟩) (okL_c (⟨_, rfl, t_q0_14⟩) (okL_c (⟨_, rfl, t_q0_15⟩) (okL_c (rfl) (okL_c (⟨_, rfl, t_q0_17⟩) (okL_c (⟨_, rfl, t_q0_18⟩) (okL_c (⟨_, rfl⟩) (okL_n)))))))))))))))))))))
      have hO := hO0
      exact te_i hx hb hr hlocks hH hS (⟨rfl, by omega, by omega⟩) dX11_undo_61
    · skip
      have fuc10 := full_i x1
      have fvc10 := full_i q0_7
      have tc10 := g_nle c10
      exact J13  _ _ _  hH hS (lv_sub hl [] rfl)
set_option maxHeartbeats 4000000 in
set_option maxRecDepth 100000 in
theorem s_FW_season (l : Launch) (D : va_G) (cs : CS) (kf : KF) (T : TF) (O : List Nat) (X : va_W) (a0 w hw gw ch gq : Nat) (x1 : Int32) (x2 : Int32) (t_a0 : T a0 = some (21, w, ch)) (t_w : isW T w hw gw) (t_ch : T ch = some (10, gq, 0)) (hO : okO T O [1, 4, 7, 12, 15, 16, 19, 20, 21]) : TK l D cs kf yX11_season cX11_season 9 (some (.int)) { frames := 7, cells := 0, slots := 0, locals := 173 } [.ref a0, .int x1, .int x2] T O X (Ti D cs (fun r u => u = (T, O, X))) := by
  refine tk_of (by decide) (Nat.le_of_ble_eq_true rfl) (fun p e s m below meth c ls A H locs hx hb hr hml hown hts hlocks hnm hkb hH hS hA hOX hks hE hl => ?_)
  have hown : s.vm.findClass RX11 = some m.cls := hown
  have hl : lv_has ls 9 [(0, .ref a0), (1, .int x1), (2, .int x2)] := hl
  have b1_w := t_w.2.1
  have b2_w := t_w.2.2
  refine lv_iload_n hx hb dX11_season_0 rfl (lv_at hl 2 rfl) ?_
  refine lv_iconst (v := 1) hx hb dX11_season_1 (by decide) ?_
  have J11 : ∀  (H : Heap) (locs : List Loc) (ls : Array Slot), HT D cs A T O X H → va_S A s.heap H locs → lv_has ls 9 [] → W p l e { frames := 7, cells := 0, slots := 0, locals := 173 } s m [.ref a0, .int x1, .int x2].toArray below meth c H locs 0 0 (MQ below (Ti D cs (fun r u => u = (T, O, X)) A) [.ref a0, .int x1, .int x2].toArray s 0 0 A) (F0 m 11 ls []) := by
    intro  H locs ls  hH hS hl
    refine lv_bipush (v := (-3)) hx hb dX11_season_11 (by decide) ?_
    exact te_i hx hb hr hlocks hH hS (rfl) dX11_season_13
  refine lv_icmp_lt (tgt := 11) hx hb dX11_season_2 (by decide) (fun c2 => ?_) (fun c2 => ?_)
  · skip
    have tc2 := f_lt (k := 1) (by decide) c2
    exact J11  _ _ _  hH hS (lv_sub hl [] rfl)
  · skip
    have tc2 := f_nlt (k := 1) (by decide) c2
    refine lv_iload_n hx hb dX11_season_5 rfl (lv_at hl 2 rfl) ?_
    refine lv_bipush (v := 40) hx hb dX11_season_6 (by decide) ?_
    refine lv_icmp_le (tgt := 14) hx hb dX11_season_8 (by decide) (fun c8 => ?_) (fun c8 => ?_)
    · skip
      have tc8 := f_le (k := 40) (by decide) c8
      refine lv_aload_n hx hb dX11_season_14 rfl (lv_at hl 0 rfl) ?_
      refine t_get (ci := 11) (lst := ft11 w ch) (C := RX11) (F := TX11) (N := 20) hx hb hts uX11 hown hkb hH t_a0 (hO.no t_a0 (by decide)) (fun _ h9 => h9) rfl rfl 3 (by decide) rfl kw_363 (fun _ h9 => h9) dX11_season_15 (fun v9 h9 => ?_)
      have h9 : v9 = .ref w := h9
      subst h9
      refine t_get (ci := 9) (lst := ft9w hw gw) (C := RX9) (F := TX9) (N := 14) hx hb hts uX9 hown hkb hH t_w.1 (hO.no t_w.1 (by decide)) (fun fs => (ob9w t_w fs).mp) rfl rfl 1 (by decide) rfl kw_112 (fun _ h9 => h9) dX11_season_18 (fun v9 h9 => ?_)
      have h9 : v9 = .int (nI gw) := h9
      subst h9
      have e_gw : (nI gw).toInt = gw := nI_toInt (by have := t_w.2.2; omega)
      have b_gw := t_w.2.2
      refine lv_if_ne (tgt := 27) hx hb dX11_season_21 (by decide) (fun c21 => ?_) (fun c21 => ?_)
      · skip
        have tc21 := f_ne (k := 0) (by decide) c21
        refine lv_aload_n hx hb dX11_season_27 rfl (lv_at hl 0 rfl) ?_
        refine t_get (ci := 11) (lst := ft11 w ch) (C := RX11) (F := TX11) (N := 20) hx hb hts uX11 hown hkb hH t_a0 (hO.no t_a0 (by decide)) (fun _ h9 => h9) rfl rfl 5 (by decide) rfl kw_365 (fun _ h9 => h9) dX11_season_28 (fun v9 h9 => ?_)
        obtain ⟨v28, rfl, t_v28⟩ := h9
        refine lv_aload_n hx hb dX11_season_31 rfl (lv_at hl 0 rfl) ?_
        refine t_get (ci := 11) (lst := ft11 w ch) (C := RX11) (F := TX11) (N := 20) hx hb hts uX11 hown hkb hH t_a0 (hO.no t_a0 (by decide)) (fun _ h9 => h9) rfl rfl 4 (by decide) rfl kw_364 (fun _ h9 => h9) dX11_season_32 (fun v9 h9 => ?_)
        obtain ⟨v32, rfl, t_v32⟩ := h9
        refine tk_v hH hS hA (tr_V (n := 1) (As := [.ref v32]) hx hb hml hown hts hkb hH hOX hks hE hS hA (s_State_take l D cs kf T O X v28 v32 t_v28 t_v32 (hO.sub (by decide))) kw_757 kw_758 kw_759 kw_7 kw_760 (by decide +kernel) ⟨Nat.le_of_ble_eq_true rfl, Nat.le_of_ble_eq_true rfl⟩ (HT.recv (ci := 6) hkb hH t_v28 (hO.no t_v28 (by decide)) rfl) rfl rfl hl.1 (Nat.le_of_ble_eq_true rfl) dX11_season_35 ⟨Nat.le_of_ble_eq_true rfl, Nat.le_of_ble_eq_true rfl⟩) (fun u H locs hz9 hH hS => ?_)
        have hz9 : u = (T, O, X) := hz9
        subst hz9
        have hH : HT D cs A T O X H := hH
        refine W.widen (k := 0) (n := 0) (Nat.le_of_ble_eq_true rfl) (Nat.le_of_ble_eq_true rfl) ?_
        refine lv_iload_n hx hb dX11_season_38 rfl (lv_at hl 1 rfl) ?_
        refine lv_istore_n (lv' := [(3, .int x1), (0, .ref a0), (1, .int x1), (2, .int x2)]) hx hb dX11_season_39 rfl hl (by decide) rfl (fun ls hl => ?_)
        refine lv_iconst (v := 0) hx hb dX11_season_40 (by decide) ?_
        refine lv_istore (lv' := [(4, .int 0), (3, .int x1), (0, .ref a0), (1, .int x1), (2, .int x2)]) hx hb dX11_season_41 hl (by decide) rfl (fun ls hl => ?_)
        refine lv_iconst (v := 0) hx hb dX11_season_43 (by decide) ?_
        refine lv_istore (lv' := [(5, .int 0), (4, .int 0), (3, .int x1), (0, .ref a0), (1, .int x1), (2, .int x2)]) hx hb dX11_season_44 hl (by decide) rfl (fun ls hl => ?_)
        refine lv_iconst (v := 0) hx hb dX11_season_46 (by decide) ?_
        have J49 : ∀ (n : Nat) (p49_6 : Int32) (p49_5 : Int32) (p49_4 : Int32) (p49_3 : Int32) (H : Heap) (locs : List Loc) (ls : Array Slot), (40 - p49_6.toInt).toNat = n → (0 ≤ p49_6.toInt) → (p49_6.toInt ≤ 40) → (0 ≤ p49_5.toInt) → (p49_5.toInt ≤ 1) → HT D cs A T O X H → va_S A s.heap H locs → lv_has ls 9 [(6, .int p49_6), (5, .int p49_5), (4, .int p49_4), (3, .int p49_3), (0, .ref a0), (2, .int x2)] → W p l e { frames := 7, cells := 0, slots := 0, locals := 173 } s m [.ref a0, .int x1, .int x2].toArray below meth c H locs 0 0 (MQ below (Ti D cs (fun r u => u = (T, O, X)) A) [.ref a0, .int x1, .int x2].toArray s 0 0 A) (F0 m 49 ls []) := by
          intro n
          induction n using Nat.strongRecOn with
          | _ n ih49 =>
            intro p49_6 p49_5 p49_4 p49_3 H locs ls hm49 l_p49_6 u_p49_6 l_p49_5 u_p49_5 hH hS hl
            refine lv_iload hx hb dX11_season_49 (lv_at hl 0 rfl) ?_
            refine lv_iload_n hx hb dX11_season_51 rfl (lv_at hl 5 rfl) ?_
            refine lv_icmp_ge (tgt := 182) hx hb dX11_season_52 (by decide) (fun c52 => ?_) (fun c52 => ?_)
            · skip
              have fuc52 := full_i p49_6
              have fvc52 := full_i x2
              have tc52 := g_le c52
              refine lv_iload hx hb dX11_season_182 (lv_at hl 1 rfl) ?_
              have J191 : ∀  (H : Heap) (locs : List Loc) (ls : Array Slot), HT D cs A T O X H → va_S A s.heap H locs → lv_has ls 9 [(4, .int p49_4)] → W p l e { frames := 7, cells := 0, slots := 0, locals := 173 } s m [.ref a0, .int x1, .int x2].toArray below meth c H locs 0 0 (MQ below (Ti D cs (fun r u => u = (T, O, X)) A) [.ref a0, .int x1, .int x2].toArray s 0 0 A) (F0 m 191 ls []) := by
                intro  H locs ls  hH hS hl
                refine lv_iload hx hb dX11_season_191 (lv_at hl 0 rfl) ?_
                exact te_i hx hb hr hlocks hH hS (rfl) dX11_season_193
              refine lv_if_eq (tgt := 191) hx hb dX11_season_184 (by decide) (fun c184 => ?_) (fun c184 => ?_)
              · skip
                have tc184 := f_eq (k := 0) (by decide) c184
                exact J191  _ _ _  hH hS (lv_sub hl [2] rfl)
              · skip
                have tc184 := f_ne (k := 0) (by decide) c184
                refine lv_aload_n hx hb dX11_season_187 rfl (lv_at hl 4 rfl) ?_
                refine tk_v hH hS hA (tr_V (n := 0) (As := []) hx hb hml hown hts hkb hH hOX hks hE hS hA (s_FW_remember l D cs kf T O X a0 w hw gw ch gq t_a0 t_w t_ch (hO.sub (by decide))) kw_899 kw_901 ks_25 kw_1 kw_902 (by decide +kernel) ⟨Nat.le_of_ble_eq_true rfl, Nat.le_of_ble_eq_true rfl⟩ (HT.recv (ci := 11) hkb hH t_a0 (hO.no t_a0 (by decide)) rfl) rfl rfl hl.1 (Nat.le_of_ble_eq_true rfl) dX11_season_188 ⟨Nat.le_of_ble_eq_true rfl, Nat.le_of_ble_eq_true rfl⟩) (fun u H locs hz9 hH hS => ?_)
                have hz9 : u = (T, O, X) := hz9
                subst hz9
                have hH : HT D cs A T O X H := hH
                refine W.widen (k := 0) (n := 0) (Nat.le_of_ble_eq_true rfl) (Nat.le_of_ble_eq_true rfl) ?_
                exact J191  _ _ _  hH hS (lv_sub hl [2] rfl)
            · skip
              have fuc52 := full_i p49_6
              have fvc52 := full_i x2
              have tc52 := g_nle c52
              refine lv_iload_n hx hb dX11_season_55 rfl (lv_at hl 3 rfl) ?_
              refine tk_i hH hS hA (tr_S (n := 1) (As := [.int p49_3]) hx hb hml hown hts hkb hH hOX hks hE hS hA (s_FW_drawn l D cs kf T O X p49_3  (hO.sub (by decide))) kw_962 kw_963 kw_1 kw_964 (by decide +kernel) ⟨Nat.le_of_ble_eq_true rfl, Nat.le_of_ble_eq_true rfl⟩ rfl rfl hl.1 (Nat.le_of_ble_eq_true rfl) dX11_season_56 ⟨Nat.le_of_ble_eq_true rfl, Nat.le_of_ble_eq_true rfl⟩) (fun v56 u H locs hz9 hH hS => ?_)
              have hz9 : u = (T, O, X) := hz9
              subst hz9
              have hH : HT D cs A T O X H := hH
              refine W.widen (k := 0) (n := 0) (Nat.le_of_ble_eq_true rfl) (Nat.le_of_ble_eq_true rfl) ?_
              refine lv_istore_n (lv' := [(3, .int v56), (6, .int p49_6), (5, .int p49_5), (4, .int p49_4), (0, .ref a0), (2, .int x2)]) hx hb dX11_season_59 rfl hl (by decide) rfl (fun ls hl => ?_)
              refine lv_iload_n hx hb dX11_season_60 rfl (lv_at hl 0 rfl) ?_
              refine lv_bipush (v := 16) hx hb dX11_season_61 (by decide) ?_
              refine lv_iushr hx hb dX11_season_63 rfl ?_
              refine lv_topi (fun v63 ev63 => ?_)
              have tv63 : 0 ≤ v63.toInt ∧ v63.toInt < 65536 := by rw [ev63]; exact ushr_c 16 (by decide +kernel) (by decide) (by decide)
              refine lv_iconst (v := 4) hx hb dX11_season_64 (by decide) ?_
              refine lv_irem hx hb dX11_season_65 (by decide) ?_
              refine lv_topi (fun v65 ev65 => ?_)
              have tv65 : (0 ≤ v63.toInt → 0 ≤ v65.toInt) ∧ v65.toInt < 4 ∧ -4 < v65.toInt ∧ (v63.toInt ≤ 0 → v65.toInt ≤ 0) := by rw [ev65]; exact irem_b (by decide) (by decide)
              refine lv_istore (lv' := [(7, .int v65), (3, .int v56), (6, .int p49_6), (5, .int p49_5), (4, .int p49_4), (0, .ref a0), (2, .int x2)]) hx hb dX11_season_66 hl (by decide) rfl (fun ls hl => ?_)
              refine lv_iload hx hb dX11_season_68 (lv_at hl 0 rfl) ?_
              have J176 : ∀ (p176_5 : Int32) (p176_3 : Int32) (p176_4 : Int32) (H : Heap) (locs : List Loc) (ls : Array Slot), (0 ≤ p176_5.toInt) → (p176_5.toInt ≤ 1) → HT D cs A T O X H → va_S A s.heap H locs → lv_has ls 9 [(5, .int p176_5), (3, .int p176_3), (6, .int p49_6), (4, .int p176_4), (0, .ref a0), (2, .int x2)] → W p l e { frames := 7, cells := 0, slots := 0, locals := 173 } s m [.ref a0, .int x1, .int x2].toArray below meth c H locs 0 0 (MQ below (Ti D cs (fun r u => u = (T, O, X)) A) [.ref a0, .int x1, .int x2].toArray s 0 0 A) (F0 m 176 ls []) := by
                intro p176_5 p176_3 p176_4 H locs ls l_p176_5 u_p176_5 hH hS hl
                obtain ⟨v176, ev176⟩ : ∃ y : Int32, y = p49_6 + 1 := ⟨_, rfl⟩
                have tv176 : v176.toInt = p49_6.toInt + (1) := by rw [ev176]; exact add_i rfl (by decide) (by omega) (by omega)
                refine lv_iinc (v := v176) (lv' := [(6, .int v176), (5, .int p176_5), (3, .int p176_3), (4, .int p176_4), (0, .ref a0), (2, .int x2)]) hx hb dX11_season_176 hl (k := 2) rfl (by rw [ev176]; rfl) (by decide) rfl (fun ls hl => ?_)
                refine lv_goto (tgt := 49) hx hb dX11_season_179 (by decide) ?_
                exact ih49 _ (by omega) v176 p176_5 p176_4 p176_3 _ _ _ rfl (by omega) (by omega) (by omega) (by omega) hH hS (lv_sub hl [0, 1, 3, 2, 4, 5] rfl)
              refine lv_if_ne (tgt := 92) hx hb dX11_season_70 (by decide) (fun c70 => ?_) (fun c70 => ?_)
              · skip
                have tc70 := f_ne (k := 0) (by decide) c70
                refine lv_iload hx hb dX11_season_92 (lv_at hl 0 rfl) ?_
                refine lv_iconst (v := 3) hx hb dX11_season_94 (by decide) ?_
                refine lv_icmp_ne (tgt := 122) hx hb dX11_season_95 (by decide) (fun c95 => ?_) (fun c95 => ?_)
                · skip
                  have tc95 := f_ne (k := 3) (by decide) c95
                  refine lv_iload_n hx hb dX11_season_122 rfl (lv_at hl 1 rfl) ?_
                  refine tk_i hH hS hA (tr_S (n := 1) (As := [.int v56]) hx hb hml hown hts hkb hH hOX hks hE hS hA (s_FW_drawn l D cs kf T O X v56  (hO.sub (by decide))) kw_962 kw_963 kw_1 kw_964 (by decide +kernel) ⟨Nat.le_of_ble_eq_true rfl, Nat.le_of_ble_eq_true rfl⟩ rfl rfl hl.1 (Nat.le_of_ble_eq_true rfl) dX11_season_123 ⟨Nat.le_of_ble_eq_true rfl, Nat.le_of_ble_eq_true rfl⟩) (fun v123 u H locs hz9 hH hS => ?_)
                  have hz9 : u = (T, O, X) := hz9
                  subst hz9
                  have hH : HT D cs A T O X H := hH
                  refine W.widen (k := 0) (n := 0) (Nat.le_of_ble_eq_true rfl) (Nat.le_of_ble_eq_true rfl) ?_
                  refine lv_istore_n (lv' := [(3, .int v123), (7, .int v65), (6, .int p49_6), (5, .int p49_5), (4, .int p49_4), (0, .ref a0), (2, .int x2)]) hx hb dX11_season_126 rfl hl (by decide) rfl (fun ls hl => ?_)
                  refine lv_aload_n hx hb dX11_season_127 rfl (lv_at hl 5 rfl) ?_
                  refine lv_iload_n hx hb dX11_season_128 rfl (lv_at hl 0 rfl) ?_
                  refine lv_bipush (v := 16) hx hb dX11_season_129 (by decide) ?_
                  refine lv_iushr hx hb dX11_season_131 rfl ?_
                  refine lv_topi (fun v131 ev131 => ?_)
                  have tv131 : 0 ≤ v131.toInt ∧ v131.toInt < 65536 := by rw [ev131]; exact ushr_c 16 (by decide +kernel) (by decide) (by decide)
                  refine lv_aload_n hx hb dX11_season_132 rfl (lv_at hl 5 rfl) ?_
                  refine t_get (ci := 11) (lst := ft11 w ch) (C := RX11) (F := TX11) (N := 20) hx hb hts uX11 hown hkb hH t_a0 (hO.no t_a0 (by decide)) (fun _ h9 => h9) rfl rfl 3 (by decide) rfl kw_363 (fun _ h9 => h9) dX11_season_133 (fun v9 h9 => ?_)
                  have h9 : v9 = .ref w := h9
                  subst h9
                  refine t_get (ci := 9) (lst := ft9w hw gw) (C := RX9) (F := TX9) (N := 14) hx hb hts uX9 hown hkb hH t_w.1 (hO.no t_w.1 (by decide)) (fun fs => (ob9w t_w fs).mp) rfl rfl 1 (by decide) rfl kw_112 (fun _ h9 => h9) dX11_season_136 (fun v9 h9 => ?_)
                  have h9 : v9 = .int (nI gw) := h9
                  subst h9
                  have e_gw : (nI gw).toInt = gw := nI_toInt (by have := t_w.2.2; omega)
                  have b_gw := t_w.2.2
                  refine lv_irem hx hb dX11_season_139 (ne0_i (by omega)) ?_
                  refine lv_topi (fun v139 ev139 => ?_)
                  have tv139 : (0 ≤ v131.toInt → 0 ≤ v139.toInt) ∧ v139.toInt < (nI gw).toInt ∧ -(nI gw).toInt < v139.toInt ∧ (v131.toInt ≤ 0 → v139.toInt ≤ 0) := by rw [ev139]; exact irem_b rfl (by omega)
                  refine tk_i hH hS hA (tr_V (n := 1) (As := [.int v139]) hx hb hml hown hts hkb hH hOX hks hE hS hA (s_FW_goUp l D cs kf T O X a0 w hw gw ch gq v139 t_a0 t_w t_ch (by omega) (by omega) (hO.sub (by decide))) kw_908 kw_910 ks_26 kw_1 kw_911 (by decide +kernel) ⟨Nat.le_of_ble_eq_true rfl, Nat.le_of_ble_eq_true rfl⟩ (HT.recv (ci := 11) hkb hH t_a0 (hO.no t_a0 (by decide)) rfl) rfl rfl hl.1 (Nat.le_of_ble_eq_true rfl) dX11_season_140 ⟨Nat.le_of_ble_eq_true rfl, Nat.le_of_ble_eq_true rfl⟩) (fun v140 u H locs hz9 hH hS => ?_)
                  obtain ⟨rfl, l_v140, u_v140⟩ := hz9
                  have hH : HT D cs A T O X H := hH
                  refine W.widen (k := 0) (n := 0) (Nat.le_of_ble_eq_true rfl) (Nat.le_of_ble_eq_true rfl) ?_
                  refine lv_iconst (v := (-1)) hx hb dX11_season_143 (by decide) ?_
                  have J152 : ∀ (k152_0 : Int32) (H : Heap) (locs : List Loc) (ls : Array Slot), (0 ≤ k152_0.toInt) → (k152_0.toInt ≤ 1) → HT D cs A T O X H → va_S A s.heap H locs → lv_has ls 9 [(3, .int v123), (6, .int p49_6), (5, .int p49_5), (4, .int p49_4), (0, .ref a0), (2, .int x2)] → W p l e { frames := 7, cells := 0, slots := 0, locals := 173 } s m [.ref a0, .int x1, .int x2].toArray below meth c H locs 0 0 (MQ below (Ti D cs (fun r u => u = (T, O, X)) A) [.ref a0, .int x1, .int x2].toArray s 0 0 A) (F0 m 152 ls [.int k152_0]) := by
                    intro k152_0 H locs ls l_k152_0 u_k152_0 hH hS hl
                    refine lv_istore (lv' := [(8, .int k152_0), (3, .int v123), (6, .int p49_6), (5, .int p49_5), (4, .int p49_4), (0, .ref a0), (2, .int x2)]) hx hb dX11_season_152 hl (by decide) rfl (fun ls hl => ?_)
                    refine lv_iload hx hb dX11_season_154 (lv_at hl 3 rfl) ?_
                    refine lv_iload hx hb dX11_season_156 (lv_at hl 0 rfl) ?_
                    refine lv_ior hx hb dX11_season_158 ?_
                    refine lv_topi (fun v158 ev158 => ?_)
                    have tv158 : 0 ≤ v158.toInt ∧ v158.toInt < 2 := by rw [ev158]; exact or_b 1 (by decide) (by omega) (by omega) (by omega) (by omega)
                    refine lv_istore (lv' := [(5, .int v158), (8, .int k152_0), (3, .int v123), (6, .int p49_6), (4, .int p49_4), (0, .ref a0), (2, .int x2)]) hx hb dX11_season_159 hl (by decide) rfl (fun ls hl => ?_)
                    refine lv_iload hx hb dX11_season_161 (lv_at hl 4 rfl) ?_
                    refine lv_iload hx hb dX11_season_163 (lv_at hl 1 rfl) ?_
                    have J173 : ∀ (k173_0 : Int32) (H : Heap) (locs : List Loc) (ls : Array Slot), (0 ≤ k173_0.toInt) → (k173_0.toInt ≤ 1) → HT D cs A T O X H → va_S A s.heap H locs → lv_has ls 9 [(5, .int v158), (3, .int v123), (6, .int p49_6), (0, .ref a0), (2, .int x2)] → W p l e { frames := 7, cells := 0, slots := 0, locals := 173 } s m [.ref a0, .int x1, .int x2].toArray below meth c H locs 0 0 (MQ below (Ti D cs (fun r u => u = (T, O, X)) A) [.ref a0, .int x1, .int x2].toArray s 0 0 A) (F0 m 173 ls [.int k173_0, .int p49_4]) := by
                      intro k173_0 H locs ls l_k173_0 u_k173_0 hH hS hl
                      refine lv_iadd hx hb dX11_season_173 ?_
                      refine lv_topi (fun v173 ev173 => ?_)
                      refine lv_istore (lv' := [(4, .int v173), (5, .int v158), (3, .int v123), (6, .int p49_6), (0, .ref a0), (2, .int x2)]) hx hb dX11_season_174 hl (by decide) rfl (fun ls hl => ?_)
                      exact J176 v158 v123 v173 _ _ _ (by omega) (by omega) hH hS (lv_sub hl [1, 2, 3, 0, 4, 5] rfl)
                    refine lv_if_eq (tgt := 172) hx hb dX11_season_165 (by decide) (fun c165 => ?_) (fun c165 => ?_)
                    · skip
                      have tc165 := f_eq (k := 0) (by decide) c165
                      refine lv_iconst (v := 0) hx hb dX11_season_172 (by decide) ?_
                      exact J173 0 _ _ _ (by decide) (by decide) hH hS (lv_sub hl [0, 2, 3, 5, 6] rfl)
                    · skip
                      have tc165 := f_ne (k := 0) (by decide) c165
                      refine lv_iconst (v := 1) hx hb dX11_season_168 (by decide) ?_
                      refine lv_goto (tgt := 173) hx hb dX11_season_169 (by decide) ?_
                      exact J173 1 _ _ _ (by decide) (by decide) hH hS (lv_sub hl [0, 2, 3, 5, 6] rfl)
                  refine lv_icmp_eq (tgt := 151) hx hb dX11_season_144 (by decide) (fun c144 => ?_) (fun c144 => ?_)
                  · skip
                    have tc144 := f_eq (k := -1) (by decide) c144
                    refine lv_iconst (v := 0) hx hb dX11_season_151 (by decide) ?_
                    exact J152 0 _ _ _ (by decide) (by decide) hH hS (lv_sub hl [0, 2, 3, 4, 5, 6] rfl)
                  · skip
                    have tc144 := f_ne (k := -1) (by decide) c144
                    refine lv_iconst (v := 1) hx hb dX11_season_147 (by decide) ?_
                    refine lv_goto (tgt := 152) hx hb dX11_season_148 (by decide) ?_
                    exact J152 1 _ _ _ (by decide) (by decide) hH hS (lv_sub hl [0, 2, 3, 4, 5, 6] rfl)
                · skip
                  have tc95 := f_eq (k := 3) (by decide) c95
                  refine lv_iload hx hb dX11_season_98 (lv_at hl 3 rfl) ?_
                  refine lv_aload_n hx hb dX11_season_100 rfl (lv_at hl 5 rfl) ?_
                  refine t_get (ci := 11) (lst := ft11 w ch) (C := RX11) (F := TX11) (N := 20) hx hb hts uX11 hown hkb hH t_a0 (hO.no t_a0 (by decide)) (fun _ h9 => h9) rfl rfl 4 (by decide) rfl kw_364 (fun _ h9 => h9) dX11_season_101 (fun v9 h9 => ?_)
                  obtain ⟨v101, rfl, t_v101⟩ := h9
                  refine lv_iconst (v := 1) hx hb dX11_season_104 (by decide) ?_
                  refine tk_i hH hS hA (tr_V (n := 1) (As := [.int 1]) hx hb hml hown hts hkb hH hOX hks hE hS hA (s_State_comeBack l D cs kf T O X v101 (1) t_v101 (hO.sub (by decide))) kw_938 kw_939 kw_940 kw_7 kw_941 (by decide +kernel) ⟨Nat.le_of_ble_eq_true rfl, Nat.le_of_ble_eq_true rfl⟩ (HT.recv (ci := 6) hkb hH t_v101 (hO.no t_v101 (by decide)) rfl) rfl rfl hl.1 (Nat.le_of_ble_eq_true rfl) dX11_season_105 ⟨Nat.le_of_ble_eq_true rfl, Nat.le_of_ble_eq_true rfl⟩) (fun v105 u H locs hz9 hH hS => ?_)
                  have hz9 : u = (T, O, X) := hz9
                  subst hz9
                  have hH : HT D cs A T O X H := hH
                  refine W.widen (k := 0) (n := 0) (Nat.le_of_ble_eq_true rfl) (Nat.le_of_ble_eq_true rfl) ?_
                  have J116 : ∀ (k116_0 : Int32) (H : Heap) (locs : List Loc) (ls : Array Slot), (0 ≤ k116_0.toInt) → (k116_0.toInt ≤ 1) → HT D cs A T O X H → va_S A s.heap H locs → lv_has ls 9 [(3, .int v56), (6, .int p49_6), (4, .int p49_4), (0, .ref a0), (2, .int x2)] → W p l e { frames := 7, cells := 0, slots := 0, locals := 173 } s m [.ref a0, .int x1, .int x2].toArray below meth c H locs 0 0 (MQ below (Ti D cs (fun r u => u = (T, O, X)) A) [.ref a0, .int x1, .int x2].toArray s 0 0 A) (F0 m 116 ls [.int k116_0, .int p49_5]) := by
                    intro k116_0 H locs ls l_k116_0 u_k116_0 hH hS hl
                    refine lv_ior hx hb dX11_season_116 ?_
                    refine lv_topi (fun v116 ev116 => ?_)
                    have tv116 : 0 ≤ v116.toInt ∧ v116.toInt < 2 := by rw [ev116]; exact or_b 1 (by decide) (by omega) (by omega) (by omega) (by omega)
                    refine lv_istore (lv' := [(5, .int v116), (3, .int v56), (6, .int p49_6), (4, .int p49_4), (0, .ref a0), (2, .int x2)]) hx hb dX11_season_117 hl (by decide) rfl (fun ls hl => ?_)
                    refine lv_goto (tgt := 176) hx hb dX11_season_119 (by decide) ?_
                    exact J176 v116 v56 p49_4 _ _ _ (by omega) (by omega) hH hS (lv_sub hl [0, 1, 2, 3, 4, 5] rfl)
                  refine lv_if_le (tgt := 115) hx hb dX11_season_108 (by decide) (fun c108 => ?_) (fun c108 => ?_)
                  · skip
                    have tc108 := f_le (k := 0) (by decide) c108
                    refine lv_iconst (v := 0) hx hb dX11_season_115 (by decide) ?_
                    exact J116 0 _ _ _ (by decide) (by decide) hH hS (lv_sub hl [1, 2, 4, 5, 6] rfl)
                  · skip
                    have tc108 := f_nle (k := 0) (by decide) c108
                    refine lv_iconst (v := 1) hx hb dX11_season_111 (by decide) ?_
                    refine lv_goto (tgt := 116) hx hb dX11_season_112 (by decide) ?_
                    exact J116 1 _ _ _ (by decide) (by decide) hH hS (lv_sub hl [1, 2, 4, 5, 6] rfl)
              · skip
                have tc70 := f_eq (k := 0) (by decide) c70
                refine lv_aload_n hx hb dX11_season_73 rfl (lv_at hl 5 rfl) ?_
                refine t_get (ci := 11) (lst := ft11 w ch) (C := RX11) (F := TX11) (N := 20) hx hb hts uX11 hown hkb hH t_a0 (hO.no t_a0 (by decide)) (fun _ h9 => h9) rfl rfl 4 (by decide) rfl kw_364 (fun _ h9 => h9) dX11_season_74 (fun v9 h9 => ?_)
                obtain ⟨v74, rfl, t_v74⟩ := h9
                refine lv_dup hx hb dX11_season_77 rfl ?_
                refine t_get (ci := 6) (lst := ft6 0 0) (C := RX6) (F := TX6) (N := 6) hx hb hts uX6 hown hkb hH t_v74 (hO.no t_v74 (by decide)) (fun _ h9 => h9) rfl rfl 2 (by decide) rfl kw_191 (fun _ h9 => h9) dX11_season_78 (fun v9 h9 => ?_)
                obtain ⟨v78, rfl⟩ := h9
                refine lv_iconst (v := 1) hx hb dX11_season_81 (by decide) ?_
                refine lv_iadd hx hb dX11_season_82 ?_
                refine lv_topi (fun v82 ev82 => ?_)
                refine t_put (ci := 6) (lst := ft6 0 0) (v := .int v82) (ty := tyX6 2) (C := RX6) (F := TX6) (N := 6) hx hb hts uX6 tyX6 tyX6_ok nmX6 hown hkb hH hS t_v74 (hO.no t_v74 (by decide)) (fun _ => Iff.rfl) rfl rfl 2 (by decide) rfl (⟨_, rfl⟩) kw_191 (fun _ h9 => h9) rfl (tyX6_ok 2 (by decide)) rfl rfl dX11_season_83 (fun H locs hH hS => ?_)
                refine lv_iconst (v := 1) hx hb dX11_season_86 (by decide) ?_
                refine lv_istore (lv' := [(5, .int 1), (7, .int v65), (3, .int v56), (6, .int p49_6), (4, .int p49_4), (0, .ref a0), (2, .int x2)]) hx hb dX11_season_87 hl (by decide) rfl (fun ls hl => ?_)
                refine lv_goto (tgt := 176) hx hb dX11_season_89 (by decide) ?_
                exact J176 1 v56 p49_4 _ _ _ (by decide) (by decide) hH hS (lv_sub hl [0, 2, 3, 4, 5, 6] rfl)
        refine lv_istore (lv' := [(6, .int 0), (5, .int 0), (4, .int 0), (3, .int x1), (0, .ref a0), (1, .int x1), (2, .int x2)]) hx hb dX11_season_47 hl (by decide) rfl (fun ls hl => ?_)
        exact J49 _ 0 0 0 x1 _ _ _ rfl (by decide) (by decide) (by decide) (by decide) hH hS (lv_sub hl [0, 1, 2, 3, 4, 6] rfl)
      · skip
        have tc21 := f_eq (k := 0) (by decide) c21
        refine lv_bipush (v := (-5)) hx hb dX11_season_24 (by decide) ?_
        exact te_i hx hb hr hlocks hH hS (rfl) dX11_season_26
    · skip
      have tc8 := f_nle (k := 40) (by decide) c8
      exact J11  _ _ _  hH hS (lv_sub hl [] rfl)
