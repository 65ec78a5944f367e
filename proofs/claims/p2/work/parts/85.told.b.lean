section ThRows8
variable {p : Program} {l : Launch} {e : Env} {R : Room} {s : State} {m : MethodId} {args : Array Value} {below : List Frame} {meth : Method} {c : Code} {H : Heap} {locs : List Loc} {cells slots : Nat} {Q : State → Prop}
variable {cc : ByteArray} {pc : Nat} {ls : Array Slot} {rest : List Value} {D : va_G} {A : Nat → Prop} {a : Nat} {cs : CS} {T : TF} {O : List Nat} {X : va_W} {H0 : Heap}
theorem xa_lld {n : Nat} {f : Nat → Int64} {j : Int32} (hx : p.tables.exec = Jvm.exec) (hb : c.code = cc) (hkb : kb D (tyc cs) s) (hH : HT D cs A T O X H) (i : Nat) (hi : X[i]? = some (a, .inl (cs.2.2.1, n, .inr (.inl f)))) (h0 : 0 ≤ j.toInt) (h1 : j.toInt < n) (hdg : decode cc pc = .ok (.laload, 1))
    (kk : W p l e R s m args below meth c H locs cells slots Q (F0 m (pc + 1) ls (.long (f j.toNatClampNeg) :: rest))) : W p l e R s m args below meth c H locs cells slots Q (F0 m pc ls (.int j :: .ref a :: rest)) := by
  obtain ⟨ws, hP, hD, h3, h4⟩ := hH
  exact va_lald hx hb hkb.1 hP i 2 (ap_l hi) rfl (in_t h0 h1) hdg kk
end ThRows8
set_option maxHeartbeats 4000000 in
set_option maxRecDepth 100000 in
theorem s_M_told (l : Launch) (D : va_G) (cs : CS) (kf : KF) (T : TF) (O : List Nat) (X : va_W) (a0 hg mq : Nat) (x1 : Int32) (t_a0 : T a0 = some (22, hg, mq)) (b_hg : hg < 90) (l_x1 : 0 ≤ x1.toInt) (u_x1 : x1.toInt ≤ 3) (hO : okO T O [1, 2, 8, 22]) : TK l D cs kf yX12_told cX12_told 8 (some (.int)) { frames := 4, cells := 0, slots := 0, locals := 100 } [.ref a0, .int x1] T O X (Ti D cs (fun r u => u = (T, O, X) ∧ -1 ≤ r.toInt ∧ r.toInt ≤ 40)) := by
  refine tk_of (by decide) (Nat.le_of_ble_eq_true rfl) (fun p e s m below meth c ls A H locs hx hb hr hml hown hts hlocks hnm hkb hH hS hA hOX hks hE hl => ?_)
  have hown : s.vm.findClass RX12 = some m.cls := hown
  have hl : lv_has ls 8 [(0, .ref a0), (1, .int x1)] := hl
  have hO0 := hO
  obtain ⟨fs9, ho9, hH⟩ := hH.take t_a0 (hO0.no t_a0 (by decide))
  have hp0 : okL T (ft12 hg mq) fs9 := ho9
  clear ho9
  obtain ⟨v9, fs9, rfl, h9, hp1⟩ := okL_i hp0
  obtain ⟨q0_0, rfl⟩ := h9
  obtain ⟨v9, fs9, rfl, h9, hp2⟩ := okL_i hp1
  obtain ⟨q0_1, rfl, t_q0_1⟩ := h9
  obtain ⟨v9, fs9, rfl, h9, hp3⟩ := okL_i hp2
  obtain ⟨q0_2, rfl, t_q0_2⟩ := h9
  obtain ⟨v9, fs9, rfl, h9, hp4⟩ := okL_i hp3
  obtain ⟨q0_3, rfl, t_q0_3⟩ := h9
  obtain ⟨v9, fs9, rfl, h9, hp5⟩ := okL_i hp4
  obtain ⟨q0_4, rfl, t_q0_4⟩ := h9
  obtain ⟨v9, fs9, rfl, h9, hp6⟩ := okL_i hp5
  obtain ⟨q0_5, rfl, l_q0_5, u_q0_5, eg_q0_5⟩ := h9
  obtain ⟨v9, fs9, rfl, h9, hp7⟩ := okL_i hp6
  obtain ⟨q0_6, rfl⟩ := h9
  obtain ⟨v9, fs9, rfl, h9, hp8⟩ := okL_i hp7
  obtain ⟨q0_7, rfl⟩ := h9
  obtain ⟨v9, fs9, rfl, h9, hp9⟩ := okL_i hp8
  obtain ⟨q0_8, rfl⟩ := h9
  obtain ⟨v9, fs9, rfl, h9, hp10⟩ := okL_i hp9
  obtain ⟨q0_9, rfl⟩ := h9
  obtain ⟨v9, fs9, rfl, h9, hp11⟩ := okL_i hp10
  obtain ⟨q0_10, rfl, l_q0_10, u_q0_10⟩ := h9
  obtain ⟨v9, fs9, rfl, h9, hp12⟩ := okL_i hp11
  obtain ⟨q0_11, rfl⟩ := h9
  obtain ⟨v9, fs9, rfl, h9, hp13⟩ := okL_i hp12
  obtain ⟨q0_12, rfl⟩ := h9
  obtain ⟨v9, fs9, rfl, h9, hp14⟩ := okL_i hp13
  obtain ⟨q0_13, rfl⟩ := h9
  obtain ⟨v9, fs9, rfl, h9, hp15⟩ := okL_i hp14
  obtain ⟨q0_14, rfl⟩ := h9
  obtain ⟨v9, fs9, rfl, h9, hp16⟩ := okL_i hp15
  obtain ⟨q0_15, rfl, t_q0_15⟩ := h9
  obtain ⟨v9, fs9, rfl, h9, hp17⟩ := okL_i hp16
  obtain ⟨q0_16, rfl⟩ := h9
  obtain ⟨v9, fs9, rfl, h9, hp18⟩ := okL_i hp17
  obtain ⟨q0_17, rfl, t_q0_17⟩ := h9
  obtain ⟨v9, fs9, rfl, h9, hp19⟩ := okL_i hp18
  obtain ⟨q0_18, rfl, t_q0_18⟩ := h9
  obtain ⟨v9, fs9, rfl, h9, hp20⟩ := okL_i hp19
  obtain ⟨q0_19, rfl, t_q0_19⟩ := h9
  obtain ⟨v9, fs9, rfl, h9, hp21⟩ := okL_i hp20
  obtain ⟨q0_20, rfl, l_q0_20, u_q0_20⟩ := h9
  obtain ⟨v9, fs9, rfl, h9, hp22⟩ := okL_i hp21
  obtain ⟨q0_21, rfl, t_q0_21⟩ := h9
  obtain ⟨v9, fs9, rfl, h9, hp23⟩ := okL_i hp22
  obtain ⟨q0_22, rfl, t_q0_22⟩ := h9
  obtain ⟨v9, fs9, rfl, h9, hp24⟩ := okL_i hp23
  obtain ⟨q0_23, rfl⟩ := h9
  obtain ⟨v9, fs9, rfl, h9, hp25⟩ := okL_i hp24
  obtain ⟨q0_24, rfl⟩ := h9
  obtain ⟨v9, fs9, rfl, h9, hp26⟩ := okL_i hp25
  obtain ⟨q0_25, rfl⟩ := h9
  obtain ⟨v9, fs9, rfl, h9, hp27⟩ := okL_i hp26
  obtain ⟨q0_26, rfl, t_q0_26⟩ := h9
  obtain ⟨v9, fs9, rfl, h9, hp28⟩ := okL_i hp27
  obtain ⟨q0_27, rfl, t_q0_27⟩ := h9
  obtain ⟨v9, fs9, rfl, h9, hp29⟩ := okL_i hp28
  obtain ⟨q0_28, rfl, t_q0_28⟩ := h9
  obtain ⟨v9, fs9, rfl, h9, hp30⟩ := okL_i hp29
  obtain ⟨q0_29, rfl, t_q0_29⟩ := h9
  obtain ⟨v9, fs9, rfl, h9, hp31⟩ := okL_i hp30
  obtain ⟨q0_30, rfl, t_q0_30⟩ := h9
  obtain ⟨v9, fs9, rfl, h9, hp32⟩ := okL_i hp31
  obtain ⟨q0_31, rfl, t_q0_31⟩ := h9
  obtain ⟨v9, fs9, rfl, h9, hp33⟩ := okL_i hp32
  obtain ⟨q0_32, rfl⟩ := h9
  obtain ⟨v9, fs9, rfl, h9, hp34⟩ := okL_i hp33
  obtain ⟨q0_33, rfl, t_q0_33⟩ := h9
  obtain ⟨v9, fs9, rfl, h9, hp35⟩ := okL_i hp34
  obtain ⟨q0_34, rfl, t_q0_34⟩ := h9
  obtain ⟨v9, fs9, rfl, h9, hp36⟩ := okL_i hp35
  obtain ⟨q0_35, rfl, t_q0_35⟩ := h9
  have hpz := okL_z hp36
  subst hpz
  have hH : HT D cs A T (a0 :: O) ((a0, .inr (12, [.int q0_0, .ref q0_1, .ref q0_2, .ref q0_3, .ref q0_4, .int q0_5, .int q0_6, .int q0_7, .int q0_8, .int q0_9, .int q0_10, .int q0_11, .int q0_12, .int q0_13, .int q0_14, .ref q0_15, .int q0_16, .ref q0_17, .ref q0_18, .ref q0_19, .int q0_20, .ref q0_21, .ref q0_22, .int q0_23, .int q0_24, .int q0_25, .ref q0_26, .ref q0_27, .ref q0_28, .ref q0_29, .ref q0_30, .ref q0_31, .int q0_32, .ref q0_33, .ref q0_34, .ref q0_35])) :: X) H := hH
  have hO : okO T (a0 :: O) [1, 2, 8] := okO.cons (hO0.sub (by decide)) t_a0 (by decide)
  obtain ⟨e9, hs9, hH⟩ := HT.takeA hH t_q0_35 (nm_c (tag_ne t_q0_35 t_a0 (fun q => absurd (show 2 = 22 from congrArg Prod.fst q) (by decide))) (hO0.no t_q0_35 (by decide)))
  obtain ⟨f35, rfl⟩ : ∃ f : Nat → Int64, e9 = .inl (cs.2.2.1, 160, .inr (.inl f)) := hs9
  have hO : okO T (q0_35 :: a0 :: O) [1] := okO.cons (hO.sub (by decide)) t_q0_35 (by decide)
  have hH : HT D cs A T (a0 :: q0_35 :: O) ((a0, .inr (12, [.int q0_0, .ref q0_1, .ref q0_2, .ref q0_3, .ref q0_4, .int q0_5, .int q0_6, .int q0_7, .int q0_8, .int q0_9, .int q0_10, .int q0_11, .int q0_12, .int q0_13, .int q0_14, .ref q0_15, .int q0_16, .ref q0_17, .ref q0_18, .ref q0_19, .int q0_20, .ref q0_21, .ref q0_22, .int q0_23, .int q0_24, .int q0_25, .ref q0_26, .ref q0_27, .ref q0_28, .ref q0_29, .ref q0_30, .ref q0_31, .int q0_32, .ref q0_33, .ref q0_34, .ref q0_35])) :: (q0_35, .inl (cs.2.2.1, 160, .inr (.inl f35))) :: X) H := HT.swap hH
  have hO := okO.swap hO
  obtain ⟨e9, hs9, hH⟩ := HT.takeA hH t_q0_1 (nm_c (tag_ne t_q0_1 t_a0 (by first | decide | exact fun q => absurd (show 8 = 22 from congrArg Prod.fst q) (by decide))) (nm_c (tag_ne t_q0_1 t_q0_35 (fun q => absurd (show 8 = 2 from congrArg Prod.fst q) (by decide))) (hO0.no t_q0_1 (by decide))))
  obtain ⟨f1, rfl, s_f1, g_f1⟩ : ∃ f : Nat → Int32, e9 = .inl (cs.2.1, 3906, .inl f) ∧ B8 3906 f ∧ (3906 = 3906 → f 1 = nI (hg / 6) ∧ f 2 = nI (hg % 6)) := hs9
  have g_f1 := g_f1 rfl
  have hO : okO T (q0_1 :: a0 :: q0_35 :: O) [1] := okO.cons (hO.sub (by decide)) t_q0_1 (by decide)
  refine lv_aload_n hx hb dX12_told_0 rfl (lv_at hl 0 rfl) ?_
  refine lv_iconst (v := 0) hx hb dX12_told_1 (by decide) ?_
  refine x_putk (ci := 12) (v := .int 0) (ty := tyX12 23) (C := RX12) (F := TX12) (N := 36) hx hb hts uX12 tyX12 tyX12_ok nmX12 hown hkb hH hS 1 rfl rfl 23 (by decide) kw_1246 (fun _ h9 => h9) rfl (tyX12_ok 23 (by decide)) rfl rfl (Nat.le_of_ble_eq_true rfl) dX12_told_2 (fun H locs hH hS => ?_)
  have hH : HT D cs A T (q0_1 :: a0 :: q0_35 :: O) ((q0_1, .inl (cs.2.1, 3906, .inl f1)) :: (a0, .inr (12, [.int q0_0, .ref q0_1, .ref q0_2, .ref q0_3, .ref q0_4, .int q0_5, .int q0_6, .int q0_7, .int q0_8, .int q0_9, .int q0_10, .int q0_11, .int q0_12, .int q0_13, .int q0_14, .ref q0_15, .int q0_16, .ref q0_17, .ref q0_18, .ref q0_19, .int q0_20, .ref q0_21, .ref q0_22, .int 0, .int q0_24, .int q0_25, .ref q0_26, .ref q0_27, .ref q0_28, .ref q0_29, .ref q0_30, .ref q0_31, .int q0_32, .ref q0_33, .ref q0_34, .ref q0_35])) :: (q0_35, .inl (cs.2.2.1, 160, .inr (.inl f35))) :: X) H := hH
  refine lv_aload_n hx hb dX12_told_5 rfl (lv_at hl 0 rfl) ?_
  refine lv_iconst (v := 0) hx hb dX12_told_6 (by decide) ?_
  refine x_putk (ci := 12) (v := .int 0) (ty := tyX12 24) (C := RX12) (F := TX12) (N := 36) hx hb hts uX12 tyX12 tyX12_ok nmX12 hown hkb hH hS 1 rfl rfl 24 (by decide) kw_1247 (fun _ h9 => h9) rfl (tyX12_ok 24 (by decide)) rfl rfl (Nat.le_of_ble_eq_true rfl) dX12_told_7 (fun H locs hH hS => ?_)
  have hH : HT D cs A T (q0_1 :: a0 :: q0_35 :: O) ((q0_1, .inl (cs.2.1, 3906, .inl f1)) :: (a0, .inr (12, [.int q0_0, .ref q0_1, .ref q0_2, .ref q0_3, .ref q0_4, .int q0_5, .int q0_6, .int q0_7, .int q0_8, .int q0_9, .int q0_10, .int q0_11, .int q0_12, .int q0_13, .int q0_14, .ref q0_15, .int q0_16, .ref q0_17, .ref q0_18, .ref q0_19, .int q0_20, .ref q0_21, .ref q0_22, .int 0, .int 0, .int q0_25, .ref q0_26, .ref q0_27, .ref q0_28, .ref q0_29, .ref q0_30, .ref q0_31, .int q0_32, .ref q0_33, .ref q0_34, .ref q0_35])) :: (q0_35, .inl (cs.2.2.1, 160, .inr (.inl f35))) :: X) H := hH
  refine lv_aload_n hx hb dX12_told_10 rfl (lv_at hl 0 rfl) ?_
  refine lv_iconst (v := 0) hx hb dX12_told_11 (by decide) ?_
  refine x_putk (ci := 12) (v := .int 0) (ty := tyX12 20) (C := RX12) (F := TX12) (N := 36) hx hb hts uX12 tyX12 tyX12_ok nmX12 hown hkb hH hS 1 rfl rfl 20 (by decide) kw_1243 (fun _ h9 => h9) rfl (tyX12_ok 20 (by decide)) rfl rfl (Nat.le_of_ble_eq_true rfl) dX12_told_12 (fun H locs hH hS => ?_)
  have hH : HT D cs A T (q0_1 :: a0 :: q0_35 :: O) ((q0_1, .inl (cs.2.1, 3906, .inl f1)) :: (a0, .inr (12, [.int q0_0, .ref q0_1, .ref q0_2, .ref q0_3, .ref q0_4, .int q0_5, .int q0_6, .int q0_7, .int q0_8, .int q0_9, .int q0_10, .int q0_11, .int q0_12, .int q0_13, .int q0_14, .ref q0_15, .int q0_16, .ref q0_17, .ref q0_18, .ref q0_19, .int 0, .ref q0_21, .ref q0_22, .int 0, .int 0, .int q0_25, .ref q0_26, .ref q0_27, .ref q0_28, .ref q0_29, .ref q0_30, .ref q0_31, .int q0_32, .ref q0_33, .ref q0_34, .ref q0_35])) :: (q0_35, .inl (cs.2.2.1, 160, .inr (.inl f35))) :: X) H := hH
  refine lv_aload_n hx hb dX12_told_15 rfl (lv_at hl 0 rfl) ?_
  refine x_getk (ci := 12) (C := RX12) (F := TX12) (N := 36) (v := .ref q0_34) hx hb hts uX12 hown hkb hH 1 rfl rfl 34 (by decide) rfl kw_1257 (fun _ h9 => h9) dX12_told_16 ?_
  refine lv_iload_n hx hb dX12_told_19 rfl (lv_at hl 1 rfl) ?_
  refine t_ild hx hb hkb hH t_q0_34 (hO.no t_q0_34 (by decide)) (by omega) (by omega) dX12_told_20 (fun v20 h9 => ?_)
  have tv20 : 0 ≤ v20.toInt ∧ v20.toInt ≤ 40 := h9
  refine lv_istore_n (lv' := [(2, .int v20), (0, .ref a0), (1, .int x1)]) hx hb dX12_told_21 rfl hl (by decide) rfl (fun ls hl => ?_)
  refine lv_iload_n hx hb dX12_told_22 rfl (lv_at hl 0 rfl) ?_
  have J42 : ∀  (H : Heap) (locs : List Loc) (ls : Array Slot), HT D cs A T (q0_1 :: a0 :: q0_35 :: O) ((q0_1, .inl (cs.2.1, 3906, .inl f1)) :: (a0, .inr (12, [.int q0_0, .ref q0_1, .ref q0_2, .ref q0_3, .ref q0_4, .int q0_5, .int q0_6, .int q0_7, .int q0_8, .int q0_9, .int q0_10, .int q0_11, .int q0_12, .int q0_13, .int q0_14, .ref q0_15, .int q0_16, .ref q0_17, .ref q0_18, .ref q0_19, .int 0, .ref q0_21, .ref q0_22, .int 0, .int 0, .int q0_25, .ref q0_26, .ref q0_27, .ref q0_28, .ref q0_29, .ref q0_30, .ref q0_31, .int q0_32, .ref q0_33, .ref q0_34, .ref q0_35])) :: (q0_35, .inl (cs.2.2.1, 160, .inr (.inl f35))) :: X) H → va_S A s.heap H locs → lv_has ls 8 [(0, .ref a0)] → W p l e { frames := 4, cells := 0, slots := 0, locals := 100 } s m [.ref a0, .int x1].toArray below meth c H locs 0 0 (MQ below (Ti D cs (fun r u => u = (T, O, X) ∧ -1 ≤ r.toInt ∧ r.toInt ≤ 40) A) [.ref a0, .int x1].toArray s 0 0 A) (F0 m 42 ls []) := by
    intro  H locs ls  hH hS hl
    refine lv_aload_n hx hb dX12_told_42 rfl (lv_at hl 0 rfl) ?_
    refine lv_iconst (v := 1) hx hb dX12_told_43 (by decide) ?_
    refine x_putk (ci := 12) (v := .int 1) (ty := tyX12 23) (C := RX12) (F := TX12) (N := 36) hx hb hts uX12 tyX12 tyX12_ok nmX12 hown hkb hH hS 1 rfl rfl 23 (by decide) kw_1246 (fun _ h9 => h9) rfl (tyX12_ok 23 (by decide)) rfl rfl (Nat.le_of_ble_eq_true rfl) dX12_told_44 (fun H locs hH hS => ?_)
    have hH : HT D cs A T (q0_1 :: a0 :: q0_35 :: O) ((q0_1, .inl (cs.2.1, 3906, .inl f1)) :: (a0, .inr (12, [.int q0_0, .ref q0_1, .ref q0_2, .ref q0_3, .ref q0_4, .int q0_5, .int q0_6, .int q0_7, .int q0_8, .int q0_9, .int q0_10, .int q0_11, .int q0_12, .int q0_13, .int q0_14, .ref q0_15, .int q0_16, .ref q0_17, .ref q0_18, .ref q0_19, .int 0, .ref q0_21, .ref q0_22, .int 1, .int 0, .int q0_25, .ref q0_26, .ref q0_27, .ref q0_28, .ref q0_29, .ref q0_30, .ref q0_31, .int q0_32, .ref q0_33, .ref q0_34, .ref q0_35])) :: (q0_35, .inl (cs.2.2.1, 160, .inr (.inl f35))) :: X) H := hH
    refine lv_iconst (v := 0) hx hb dX12_told_47 (by decide) ?_
    have hH : HT D cs A T (a0 :: q0_35 :: O) ((a0, .inr (12, [.int q0_0, .ref q0_1, .ref q0_2, .ref q0_3, .ref q0_4, .int q0_5, .int q0_6, .int q0_7, .int q0_8, .int q0_9, .int q0_10, .int q0_11, .int q0_12, .int q0_13, .int q0_14, .ref q0_15, .int q0_16, .ref q0_17, .ref q0_18, .ref q0_19, .int 0, .ref q0_21, .ref q0_22, .int 1, .int 0, .int q0_25, .ref q0_26, .ref q0_27, .ref q0_28, .ref q0_29, .ref q0_30, .ref q0_31, .int q0_32, .ref q0_33, .ref q0_34, .ref q0_35])) :: (q0_35, .inl (cs.2.2.1, 160, .inr (.inl f35))) :: X) H := HT.layA hH t_q0_1 (show sp cs T (8, 3906, hg) _ from ⟨_, rfl, s_f1, fun _ => g_f1⟩)
    have hH : HT D cs A T (q0_35 :: O) ((q0_35, .inl (cs.2.2.1, 160, .inr (.inl f35))) :: X) H := HT.lay (ci := 12) hH t_a0 (okL_c (⟨_, rfl⟩) (okL_c (⟨_, rfl, t_q0_1⟩) (okL_c (⟨_, rfl, t_q0_2⟩) (okL_c (⟨_, rfl, t_q0_3⟩) (okL_c (⟨_, rfl, t_q0_4⟩) (okL_c (⟨_, rfl, by omega, by omega, by omega⟩) (okL_c (⟨_, rfl⟩) (okL_c (⟨_, rfl⟩) (okL_c (⟨_, rfl⟩) (okL_c (⟨_, rfl⟩) (okL_c (⟨_, rfl, by omega, by omega⟩) (okL_c (⟨_, rfl⟩) (okL_c (⟨_, rfl⟩) (okL_c (⟨_, rfl⟩) (okL_c (⟨_, rfl⟩) (okL_c (⟨_, rfl, t_q0_15⟩) (okL_c (⟨_, rfl⟩) (okL_c (⟨_, rfl, t_q0_17⟩) (okL_c (⟨_, rfl, t_q0_18⟩) (okL_c (⟨_, rfl, t_q0_19⟩) (okL_c (⟨_, rfl, by decide, by decide⟩) (okL_c (⟨_, rfl, t_q0_21⟩) (okL_c (⟨_, rfl, t_q0_22⟩) (okL_c (⟨_, rfl⟩) (okL_c (⟨_, rfl⟩) (okL_c (⟨_, rfl⟩) (okL_c (⟨_, rfl, t_q0_26⟩) (okL_c (⟨_, rfl, t_q0_27⟩) (okL_c (⟨_, rfl, t_q0_28⟩) (okL_c (⟨_, rfl, t_q0_29⟩) (okL_c (⟨_, rfl, t_q0_30⟩) (okL_c (⟨_, rfl, t_q0_31⟩) (okL_c (⟨_, rfl⟩) (okL_c (⟨_, rfl, t_q0_33⟩) (okL_c (⟨_, rfl, t_q0_34⟩) (okL_c (⟨_, rfl, t_q0_35⟩) (okL_n)))))))))))))))))))))))))))))))))))))
    have hO := hO0
    have hH : HT D cs A T O X H := HT.layA hH t_q0_35 (show sp cs T (2, 160, 0) _ from ⟨_, rfl⟩)
    have z9_0 : (0 : Int32).toInt = 0 := by decide
    exact te_i hx hb hr hlocks hH hS (⟨rfl, by decide, by decide⟩) dX12_told_48
  refine lv_if_eq (tgt := 42) hx hb dX12_told_23 (by decide) (fun c23 => ?_) (fun c23 => ?_)
  · skip
    have tc23 := f_eq (k := 0) (by decide) c23
    exact J42  _ _ _  hH hS (lv_sub hl [1] rfl)
  · skip
    have tc23 := f_ne (k := 0) (by decide) c23
    refine lv_aload_n hx hb dX12_told_26 rfl (lv_at hl 1 rfl) ?_
    refine lv_aload_n hx hb dX12_told_27 rfl (lv_at hl 1 rfl) ?_
    refine x_getk (ci := 12) (C := RX12) (F := TX12) (N := 36) (v := .ref q0_35) hx hb hts uX12 hown hkb hH 1 rfl rfl 35 (by decide) rfl kw_1258 (fun _ h9 => h9) dX12_told_28 ?_
    refine lv_bipush (v := 40) hx hb dX12_told_31 (by decide) ?_
    refine lv_iload_n hx hb dX12_told_33 rfl (lv_at hl 2 rfl) ?_
    refine lv_imul hx hb dX12_told_34 ?_
    refine lv_topi (fun v34 ev34 => ?_)
    have tv34 : v34.toInt = (40) * x1.toInt := by rw [ev34]; exact mul_i (by decide : (40 : Int32).toInt = 40) rfl (by omega) (by omega)
    refine xa_lld hx hb hkb hH 2 rfl (by omega) (by omega) dX12_told_35 ?_
    refine lv_topl (fun v35 ev35 => ?_)
    have z9_0 : (0 : Int32).toInt = 0 := by decide
    have z9_0 : (0 : Int32).toInt = 0 := by decide
    have z9_0 : (0 : Int32).toInt = 0 := by decide
    refine tk_i hH hS hA (tr_V (n := 1) (As := [.long v35]) hx hb hml hown hts hkb hH (ox_c (ox_c (ox_c hOX))) hks hE hS hA (s_M_isGuideX l D cs kf T (q0_35 :: O) ((q0_35, .inl (cs.2.2.1, 160, .inr (.inl f35))) :: X) a0 hg mq v35 f1 (.int q0_0) q0_1 (.ref q0_2) (.ref q0_3) (.ref q0_4) (.int q0_5) (.int q0_6) (.int q0_7) (.int q0_8) (.int q0_9) (.int q0_10) (.int q0_11) (.int q0_12) (.int q0_13) (.int q0_14) q0_15 q0_16 [.ref q0_17, .ref q0_18, .ref q0_19, .int 0, .ref q0_21, .ref q0_22, .int 0, .int 0, .int q0_25, .ref q0_26, .ref q0_27, .ref q0_28, .ref q0_29, .ref q0_30, .ref q0_31, .int q0_32, .ref q0_33, .ref q0_34, .ref q0_35] t_a0 b_hg s_f1 g_f1 t_q0_1 t_q0_15 (hO.sub (by decide))) kw_1470 kw_1472 ks_67 kw_13 kw_1473 (by decide +kernel) ⟨Nat.le_of_ble_eq_true rfl, Nat.le_of_ble_eq_true rfl⟩ (x_recv (ci := 12) hkb hH 1 rfl rfl) rfl rfl hl.1 (Nat.le_of_ble_eq_true rfl) dX12_told_36 ⟨Nat.le_of_ble_eq_true rfl, Nat.le_of_ble_eq_true rfl⟩) (fun v36 u H locs hz9 hH hS => ?_)
    obtain ⟨rfl, l_v36, u_v36, x_v360⟩ := hz9
    have hH : HT D cs A T (q0_1 :: a0 :: q0_35 :: O) ((q0_1, .inl (cs.2.1, 3906, .inl f1)) :: (a0, .inr (12, [.int q0_0, .ref q0_1, .ref q0_2, .ref q0_3, .ref q0_4, .int q0_5, .int q0_6, .int q0_7, .int q0_8, .int q0_9, .int q0_10, .int q0_11, .int q0_12, .int q0_13, .int q0_14, .ref q0_15, .int q0_16, .ref q0_17, .ref q0_18, .ref q0_19, .int 0, .ref q0_21, .ref q0_22, .int 0, .int 0, .int q0_25, .ref q0_26, .ref q0_27, .ref q0_28, .ref q0_29, .ref q0_30, .ref q0_31, .int q0_32, .ref q0_33, .ref q0_34, .ref q0_35])) :: (q0_35, .inl (cs.2.2.1, 160, .inr (.inl f35))) :: X) H := hH
    refine W.widen (k := 0) (n := 0) (Nat.le_of_ble_eq_true rfl) (Nat.le_of_ble_eq_true rfl) ?_
    refine lv_if_ne (tgt := 49) hx hb dX12_told_39 (by decide) (fun c39 => ?_) (fun c39 => ?_)
    · skip
      have tc39 := f_ne (k := 0) (by decide) c39
      replace x_v360 := x_v360.resolve_left tc39
      refine lv_iconst (v := 0) hx hb dX12_told_49 (by decide) ?_
      refine lv_istore_n (lv' := [(3, .int 0), (2, .int v20), (0, .ref a0), (1, .int x1)]) hx hb dX12_told_50 rfl hl (by decide) rfl (fun ls hl => ?_)
      refine lv_iconst (v := (-1)) hx hb dX12_told_51 (by decide) ?_
      refine lv_istore (lv' := [(4, .int (-1)), (3, .int 0), (2, .int v20), (0, .ref a0), (1, .int x1)]) hx hb dX12_told_52 hl (by decide) rfl (fun ls hl => ?_)
      refine lv_iconst (v := 1) hx hb dX12_told_54 (by decide) ?_
      have J57 : ∀ (n : Nat) (p57_5 : Int32) (p57_4 : Int32) (p57_3 : Int32) (f57_216 : Int32) (f57_220 : Int32) (f57_223 : Int32) (f57_224 : Int32) (H : Heap) (locs : List Loc) (ls : Array Slot), (40 - p57_5.toInt).toNat = n → (1 ≤ p57_5.toInt) → (p57_5.toInt ≤ 40) → (-1 ≤ p57_4.toInt) → (p57_4.toInt ≤ 13) → (0 ≤ f57_220.toInt) → (f57_220.toInt ≤ 14) → (0 ≤ f57_223.toInt) → (f57_223.toInt ≤ 0) → (TD p57_3 f57_220) → HT D cs A T (q0_1 :: a0 :: q0_35 :: O) ((q0_1, .inl (cs.2.1, 3906, .inl f1)) :: (a0, .inr (12, [.int q0_0, .ref q0_1, .ref q0_2, .ref q0_3, .ref q0_4, .int q0_5, .int q0_6, .int q0_7, .int q0_8, .int q0_9, .int q0_10, .int q0_11, .int q0_12, .int q0_13, .int q0_14, .ref q0_15, .int f57_216, .ref q0_17, .ref q0_18, .ref q0_19, .int f57_220, .ref q0_21, .ref q0_22, .int f57_223, .int f57_224, .int q0_25, .ref q0_26, .ref q0_27, .ref q0_28, .ref q0_29, .ref q0_30, .ref q0_31, .int q0_32, .ref q0_33, .ref q0_34, .ref q0_35])) :: (q0_35, .inl (cs.2.2.1, 160, .inr (.inl f35))) :: X) H → va_S A s.heap H locs → lv_has ls 8 [(5, .int p57_5), (4, .int p57_4), (3, .int p57_3), (2, .int v20), (0, .ref a0), (1, .int x1)] → W p l e { frames := 4, cells := 0, slots := 0, locals := 100 } s m [.ref a0, .int x1].toArray below meth c H locs 0 0 (MQ below (Ti D cs (fun r u => u = (T, O, X) ∧ -1 ≤ r.toInt ∧ r.toInt ≤ 40) A) [.ref a0, .int x1].toArray s 0 0 A) (F0 m 57 ls []) := by
        intro n
        induction n using Nat.strongRecOn with
        | _ n ih57 =>
          intro p57_5 p57_4 p57_3 f57_216 f57_220 f57_223 f57_224 H locs ls hm57 l_p57_5 u_p57_5 l_p57_4 u_p57_4 l_f57_220 u_f57_220 l_f57_223 u_f57_223 i57 hH hS hl
          refine lv_iload hx hb dX12_told_57 (lv_at hl 0 rfl) ?_
          refine lv_iload_n hx hb dX12_told_59 rfl (lv_at hl 3 rfl) ?_
          refine lv_icmp_ge (tgt := 176) hx hb dX12_told_60 (by decide) (fun c60 => ?_) (fun c60 => ?_)
          · skip
            have fuc60 := full_i p57_5
            have fvc60 := full_i v20
            have tc60 := g_le c60
            refine lv_iload hx hb dX12_told_176 (lv_at hl 1 rfl) ?_
            refine lv_iconst (v := (-1)) hx hb dX12_told_178 (by decide) ?_
            have J199 : ∀  (H : Heap) (locs : List Loc) (ls : Array Slot), HT D cs A T (q0_1 :: a0 :: q0_35 :: O) ((q0_1, .inl (cs.2.1, 3906, .inl f1)) :: (a0, .inr (12, [.int q0_0, .ref q0_1, .ref q0_2, .ref q0_3, .ref q0_4, .int q0_5, .int q0_6, .int q0_7, .int q0_8, .int q0_9, .int q0_10, .int q0_11, .int q0_12, .int q0_13, .int q0_14, .ref q0_15, .int f57_216, .ref q0_17, .ref q0_18, .ref q0_19, .int f57_220, .ref q0_21, .ref q0_22, .int f57_223, .int f57_224, .int q0_25, .ref q0_26, .ref q0_27, .ref q0_28, .ref q0_29, .ref q0_30, .ref q0_31, .int q0_32, .ref q0_33, .ref q0_34, .ref q0_35])) :: (q0_35, .inl (cs.2.2.1, 160, .inr (.inl f35))) :: X) H → va_S A s.heap H locs → lv_has ls 8 [(2, .int v20), (0, .ref a0)] → W p l e { frames := 4, cells := 0, slots := 0, locals := 100 } s m [.ref a0, .int x1].toArray below meth c H locs 0 0 (MQ below (Ti D cs (fun r u => u = (T, O, X) ∧ -1 ≤ r.toInt ∧ r.toInt ≤ 40) A) [.ref a0, .int x1].toArray s 0 0 A) (F0 m 199 ls []) := by
              intro  H locs ls  hH hS hl
              refine lv_aload_n hx hb dX12_told_199 rfl (lv_at hl 1 rfl) ?_
              refine lv_iconst (v := 4) hx hb dX12_told_200 (by decide) ?_
              refine x_putk (ci := 12) (v := .int 4) (ty := tyX12 23) (C := RX12) (F := TX12) (N := 36) hx hb hts uX12 tyX12 tyX12_ok nmX12 hown hkb hH hS 1 rfl rfl 23 (by decide) kw_1246 (fun _ h9 => h9) rfl (tyX12_ok 23 (by decide)) rfl rfl (Nat.le_of_ble_eq_true rfl) dX12_told_201 (fun H locs hH hS => ?_)
              have hH : HT D cs A T (q0_1 :: a0 :: q0_35 :: O) ((q0_1, .inl (cs.2.1, 3906, .inl f1)) :: (a0, .inr (12, [.int q0_0, .ref q0_1, .ref q0_2, .ref q0_3, .ref q0_4, .int q0_5, .int q0_6, .int q0_7, .int q0_8, .int q0_9, .int q0_10, .int q0_11, .int q0_12, .int q0_13, .int q0_14, .ref q0_15, .int f57_216, .ref q0_17, .ref q0_18, .ref q0_19, .int f57_220, .ref q0_21, .ref q0_22, .int 4, .int f57_224, .int q0_25, .ref q0_26, .ref q0_27, .ref q0_28, .ref q0_29, .ref q0_30, .ref q0_31, .int q0_32, .ref q0_33, .ref q0_34, .ref q0_35])) :: (q0_35, .inl (cs.2.2.1, 160, .inr (.inl f35))) :: X) H := hH
              refine lv_iload_n hx hb dX12_told_204 rfl (lv_at hl 0 rfl) ?_
              have hH : HT D cs A T (a0 :: q0_35 :: O) ((a0, .inr (12, [.int q0_0, .ref q0_1, .ref q0_2, .ref q0_3, .ref q0_4, .int q0_5, .int q0_6, .int q0_7, .int q0_8, .int q0_9, .int q0_10, .int q0_11, .int q0_12, .int q0_13, .int q0_14, .ref q0_15, .int f57_216, .ref q0_17, .ref q0_18, .ref q0_19, .int f57_220, .ref q0_21, .ref q0_22, .int 4, .int f57_224, .int q0_25, .ref q0_26, .ref q0_27, .ref q0_28, .ref q0_29, .ref q0_30, .ref q0_31, .int q0_32, .ref q0_33, .ref q0_34, .ref q0_35])) :: (q0_35, .inl (cs.2.2.1, 160, .inr (.inl f35))) :: X) H := HT.layA hH t_q0_1 (show sp cs T (8, 3906, hg) _ from ⟨_, rfl, s_f1, fun _ => g_f1⟩)
              have hH : HT D cs A T (q0_35 :: O) ((q0_35, .inl (cs.2.2.1, 160, .inr (.inl f35))) :: X) H := HT.lay (ci := 12) hH t_a0 (okL_c (⟨_, rfl⟩) (okL_c (⟨_, rfl, t_q0_1⟩) (okL_c (⟨_, rfl, t_q0_2⟩) (okL_c (⟨_, rfl, t_q0_3⟩) (okL_c (⟨_, rfl, t_q0_4⟩) (okL_c (⟨_, rfl, by omega, by omega, by omega⟩) (okL_c (⟨_, rfl⟩) (okL_c (⟨_, rfl⟩) (okL_c (⟨_, rfl⟩) (okL_c (⟨_, rfl⟩) (okL_c (⟨_, rfl, by omega, by omega⟩) (okL_c (⟨_, rfl⟩) (okL_c (⟨_, rfl⟩) (okL_c (⟨_, rfl⟩) (okL_c (⟨_, rfl⟩) (okL_c (⟨_, rfl, t_q0_15⟩) (okL_c (⟨_, rfl⟩) (okL_c (⟨_, rfl, t_q0_17⟩) (okL_c (⟨_, rfl, t_q0_18⟩) (okL_c (⟨_, rfl, t_q0_19⟩) (okL_c (⟨_, rfl, by omega, by omega⟩) (okL_c (⟨_, rfl, t_q0_21⟩) (okL_c (⟨_, rfl, t_q0_22⟩) (okL_c (⟨_, rfl⟩) (okL_c (⟨_, rfl⟩) (okL_c (⟨_, rfl⟩) (okL_c (⟨_, rfl, t_q0_26⟩) (okL_c (⟨_, rfl, t_q0_27⟩) (okL_c (⟨_, rfl, t_q0_28⟩) (okL_c (⟨_, rfl, t_q0_29⟩) (okL_c (⟨_, rfl, t_q0_30⟩) (okL_c (⟨_, rfl, t_q0_31⟩) (okL_c (⟨_, rfl⟩) (okL_c (⟨_, rfl, t_q0_33⟩) (okL_c (⟨_, rfl, t_q0_34⟩) (okL_c (⟨_, rfl, t_q0_35⟩) (okL_n)))))))))))))))))))))))))))))))))))))
              have hO := hO0
              have hH : HT D cs A T O X H := HT.layA hH t_q0_35 (show sp cs T (2, 160, 0) _ from ⟨_, rfl⟩)
              exact te_i hx hb hr hlocks hH hS (⟨rfl, by omega, by omega⟩) dX12_told_205
            refine lv_icmp_eq (tgt := 199) hx hb dX12_told_179 (by decide) (fun c179 => ?_) (fun c179 => ?_)
            · skip
              have tc179 := f_eq (k := -1) (by decide) c179
              exact J199  _ _ _  hH hS (lv_sub hl [3, 4] rfl)
            · skip
              have tc179 := f_ne (k := -1) (by decide) c179
              refine lv_aload_n hx hb dX12_told_182 rfl (lv_at hl 4 rfl) ?_
              refine x_getk (ci := 12) (C := RX12) (F := TX12) (N := 36) (v := .ref q0_1) hx hb hts uX12 hown hkb hH 1 rfl rfl 1 (by decide) rfl kw_1224 (fun _ h9 => h9) dX12_told_183 ?_
              refine lv_iconst (v := 5) hx hb dX12_told_186 (by decide) ?_
              refine xa_ild hx hb hkb hH 0 rfl (by decide) (by decide) dX12_told_187 ?_
              refine lv_topi (fun v187 ev187 => ?_)
              have tv187 : v187 = f1 5 := by rw [ev187]; rfl
              have bv187 : 0 ≤ v187.toInt ∧ v187.toInt ≤ 16383 := by rw [ev187]; exact (s_f1.at (by decide) 5).2.2.2.1 (by decide)
              refine lv_i2l hx hb dX12_told_188 rfl ?_
              refine lv_iload hx hb dX12_told_189 (lv_at hl 1 rfl) ?_
              refine tk_i hH hS hA (tr_S (n := 2) (As := [.long v187.toInt64, .int p57_4]) hx hb hml hown hts hkb hH (ox_c (ox_c (ox_c hOX))) hks hE hS hA (s_M_isIn2 l D cs kf T (q0_1 :: a0 :: q0_35 :: O) ((q0_1, .inl (cs.2.1, 3906, .inl f1)) :: (a0, .inr (12, [.int q0_0, .ref q0_1, .ref q0_2, .ref q0_3, .ref q0_4, .int q0_5, .int q0_6, .int q0_7, .int q0_8, .int q0_9, .int q0_10, .int q0_11, .int q0_12, .int q0_13, .int q0_14, .ref q0_15, .int f57_216, .ref q0_17, .ref q0_18, .ref q0_19, .int f57_220, .ref q0_21, .ref q0_22, .int f57_223, .int f57_224, .int q0_25, .ref q0_26, .ref q0_27, .ref q0_28, .ref q0_29, .ref q0_30, .ref q0_31, .int q0_32, .ref q0_33, .ref q0_34, .ref q0_35])) :: (q0_35, .inl (cs.2.2.1, 160, .inr (.inl f35))) :: X) v187.toInt64 p57_4  (hO.sub (by decide))) kw_1440 kw_1441 kw_13 kw_1442 (by decide +kernel) ⟨Nat.le_of_ble_eq_true rfl, Nat.le_of_ble_eq_true rfl⟩ rfl rfl hl.1 (Nat.le_of_ble_eq_true rfl) dX12_told_191 ⟨Nat.le_of_ble_eq_true rfl, Nat.le_of_ble_eq_true rfl⟩) (fun v191 u H locs hz9 hH hS => ?_)
              obtain ⟨rfl, l_v191, u_v191, x_v1910⟩ := hz9
              have hH : HT D cs A T (q0_1 :: a0 :: q0_35 :: O) ((q0_1, .inl (cs.2.1, 3906, .inl f1)) :: (a0, .inr (12, [.int q0_0, .ref q0_1, .ref q0_2, .ref q0_3, .ref q0_4, .int q0_5, .int q0_6, .int q0_7, .int q0_8, .int q0_9, .int q0_10, .int q0_11, .int q0_12, .int q0_13, .int q0_14, .ref q0_15, .int f57_216, .ref q0_17, .ref q0_18, .ref q0_19, .int f57_220, .ref q0_21, .ref q0_22, .int f57_223, .int f57_224, .int q0_25, .ref q0_26, .ref q0_27, .ref q0_28, .ref q0_29, .ref q0_30, .ref q0_31, .int q0_32, .ref q0_33, .ref q0_34, .ref q0_35])) :: (q0_35, .inl (cs.2.2.1, 160, .inr (.inl f35))) :: X) H := hH
              refine W.widen (k := 0) (n := 0) (Nat.le_of_ble_eq_true rfl) (Nat.le_of_ble_eq_true rfl) ?_
              refine lv_if_eq (tgt := 199) hx hb dX12_told_194 (by decide) (fun c194 => ?_) (fun c194 => ?_)
              · skip
                have tc194 := f_eq (k := 0) (by decide) c194
                exact J199  _ _ _  hH hS (lv_sub hl [3, 4] rfl)
              · skip
                have tc194 := f_ne (k := 0) (by decide) c194
                refine lv_iconst (v := (-1)) hx hb dX12_told_197 (by decide) ?_
                have hH : HT D cs A T (a0 :: q0_35 :: O) ((a0, .inr (12, [.int q0_0, .ref q0_1, .ref q0_2, .ref q0_3, .ref q0_4, .int q0_5, .int q0_6, .int q0_7, .int q0_8, .int q0_9, .int q0_10, .int q0_11, .int q0_12, .int q0_13, .int q0_14, .ref q0_15, .int f57_216, .ref q0_17, .ref q0_18, .ref q0_19, .int f57_220, .ref q0_21, .ref q0_22, .int f57_223, .int f57_224, .int q0_25, .ref q0_26, .ref q0_27, .ref q0_28, .ref q0_29, .ref q0_30, .ref q0_31, .int q0_32, .ref q0_33, .ref q0_34, .ref q0_35])) :: (q0_35, .inl (cs.2.2.1, 160, .inr (.inl f35))) :: X) H := HT.layA hH t_q0_1 (show sp cs T (8, 3906, hg) _ from ⟨_, rfl, s_f1, fun _ => g_f1⟩)
                have hH : HT D cs A T (q0_35 :: O) ((q0_35, .inl (cs.2.2.1, 160, .inr (.inl f35))) :: X) H := HT.lay (ci := 12) hH t_a0 (okL_c (⟨_, rfl⟩) (okL_c (⟨_, rfl, t_q0_1⟩) (okL_c (⟨_, rfl, t_q0_2⟩) (okL_c (⟨_, rfl, t_q0_3⟩) (okL_c (⟨_, rfl, t_q0_4⟩) (okL_c (⟨_, rfl, by omega, by omega, by omega⟩) (okL_c (⟨_, rfl⟩) (okL_c (⟨_, rfl⟩) (okL_c (⟨_, rfl⟩) (okL_c (⟨_, rfl⟩) (okL_c (⟨_, rfl, by omega, by omega⟩) (okL_c (⟨_, rfl⟩) (okL_c (⟨_, rfl⟩) (okL_c (⟨_, rfl⟩) (okL_c (⟨_, rfl⟩) (okL_c (⟨_, rfl, t_q0_15⟩) (okL_c (⟨_, rfl⟩) (okL_c (⟨_, rfl, t_q0_17⟩) (okL_c (⟨_, rfl, t_q0_18⟩) (okL_c (⟨_, rfl, t_q0_19⟩) (okL_c (⟨_, rfl, by omega, by omega⟩) (okL_c (⟨_, rfl, t_q0_21⟩) (okL_c (⟨_, rfl, t_q0_22⟩) (okL_c (⟨_, rfl⟩) (okL_c (⟨_, rfl⟩) (okL_c (⟨_, rfl⟩) (okL_c (⟨_, rfl, t_q0_26⟩) (okL_c (⟨_, rfl, t_q0_27⟩) (okL_c (⟨_, rfl, t_q0_28⟩) (okL_c (⟨_, rfl, t_q0_29⟩) (okL_c (⟨_, rfl, t_q0_30⟩) (okL_c (⟨_, rfl, t_q0_31⟩) (okL_c (⟨_, rfl⟩) (okL_c (⟨_, rfl, t_q0_33⟩) (okL_c (⟨_, rfl, t_q0_34⟩) (okL_c (⟨_, rfl, t_q0_35⟩) (okL_n)))))))))))))))))))))))))))))))))))))
                have hO := hO0
                have hH : HT D cs A T O X H := HT.layA hH t_q0_35 (show sp cs T (2, 160, 0) _ from ⟨_, rfl⟩)
                have z9_m1 : ((-1) : Int32).toInt = -1 := by decide
                exact te_i hx hb hr hlocks hH hS (⟨rfl, by decide, by decide⟩) dX12_told_198
          · skip
            have fuc60 := full_i p57_5
            have fvc60 := full_i v20
            have tc60 := g_nle c60
            refine lv_aload_n hx hb dX12_told_63 rfl (lv_at hl 4 rfl) ?_
            refine x_getk (ci := 12) (C := RX12) (F := TX12) (N := 36) (v := .ref q0_35) hx hb hts uX12 hown hkb hH 1 rfl rfl 35 (by decide) rfl kw_1258 (fun _ h9 => h9) dX12_told_64 ?_
            refine lv_bipush (v := 40) hx hb dX12_told_67 (by decide) ?_
            refine lv_iload_n hx hb dX12_told_69 rfl (lv_at hl 5 rfl) ?_
            refine lv_imul hx hb dX12_told_70 ?_
            refine lv_topi (fun v70 ev70 => ?_)
            have tv70 : v70.toInt = (40) * x1.toInt := by rw [ev70]; exact mul_i (by decide : (40 : Int32).toInt = 40) rfl (by omega) (by omega)
            refine lv_iload hx hb dX12_told_71 (lv_at hl 0 rfl) ?_
            refine lv_iadd hx hb dX12_told_73 ?_
            refine lv_topi (fun v73 ev73 => ?_)
            have tv73 : v73.toInt = v70.toInt + p57_5.toInt := by rw [ev73]; exact add_i rfl rfl (by omega) (by omega)
            refine xa_lld hx hb hkb hH 2 rfl (by omega) (by omega) dX12_told_74 ?_
            refine lv_topl (fun v74 ev74 => ?_)
            refine lv_lstore (lv' := [(6, .long v74), (5, .int p57_5), (4, .int p57_4), (3, .int p57_3), (2, .int v20), (0, .ref a0), (1, .int x1)]) hx hb dX12_told_75 hl (by decide) rfl (fun ls hl => ?_)
            refine lv_aload_n hx hb dX12_told_77 rfl (lv_at hl 5 rfl) ?_
            refine lv_aload_n hx hb dX12_told_78 rfl (lv_at hl 5 rfl) ?_
            refine lv_aload_n hx hb dX12_told_79 rfl (lv_at hl 5 rfl) ?_
            refine x_getk (ci := 12) (C := RX12) (F := TX12) (N := 36) (v := .ref q0_35) hx hb hts uX12 hown hkb hH 1 rfl rfl 35 (by decide) rfl kw_1258 (fun _ h9 => h9) dX12_told_80 ?_
            refine lv_bipush (v := 40) hx hb dX12_told_83 (by decide) ?_
            refine lv_iload_n hx hb dX12_told_85 rfl (lv_at hl 6 rfl) ?_
            refine lv_imul hx hb dX12_told_86 ?_
            refine lv_topi (fun v86 ev86 => ?_)
            have tv86 : v86.toInt = (40) * x1.toInt := by rw [ev86]; exact mul_i (by decide : (40 : Int32).toInt = 40) rfl (by omega) (by omega)
            refine xa_lld hx hb hkb hH 2 rfl (by omega) (by omega) dX12_told_87 ?_
            refine lv_topl (fun v87 ev87 => ?_)
            have hq9 : v87.toInt = v35.toInt := by rw [ev87, ev35, show v86 = v34 from Int32.toInt_inj.mp (by omega)]
            refine lv_l2i hx hb dX12_told_88 rfl ?_
            refine lv_topi (fun v88 ev88 => ?_)
            have tv88 : v88.toInt = v87.toInt := by rw [ev88]; exact l2i_b (by omega) (by omega)
            refine lv_lload hx hb dX12_told_89 (lv_at hl 0 rfl) ?_
            refine lv_iload_n hx hb dX12_told_91 rfl (lv_at hl 3 rfl) ?_
            refine lv_iload hx hb dX12_told_92 (lv_at hl 2 rfl) ?_
            refine tk_i hH hS hA (tr_V (n := 4) (As := [.int v88, .long v74, .int p57_3, .int p57_4]) hx hb hml hown hts hkb hH (ox_c (ox_c (ox_c hOX))) hks hE hS hA (s_M_whyNotX l D cs kf T (q0_35 :: O) ((q0_35, .inl (cs.2.2.1, 160, .inr (.inl f35))) :: X) a0 hg mq v88 v74 p57_3 p57_4 f1 (.int q0_0) q0_1 (.ref q0_2) (.ref q0_3) (.ref q0_4) (.int q0_5) (.int q0_6) (.int q0_7) (.int q0_8) (.int q0_9) (.int q0_10) (.int q0_11) (.int q0_12) (.int q0_13) (.int q0_14) q0_15 f57_216 [.ref q0_17, .ref q0_18, .ref q0_19, .int f57_220, .ref q0_21, .ref q0_22, .int f57_223, .int f57_224, .int q0_25, .ref q0_26, .ref q0_27, .ref q0_28, .ref q0_29, .ref q0_30, .ref q0_31, .int q0_32, .ref q0_33, .ref q0_34, .ref q0_35] t_a0 b_hg (by omega) (by omega) (by omega) (by omega) s_f1 g_f1 t_q0_1 t_q0_15 (hO.sub (by decide))) kw_1532 kw_1534 ks_77 kw_13 kw_1535 (by decide +kernel) ⟨Nat.le_of_ble_eq_true rfl, Nat.le_of_ble_eq_true rfl⟩ (x_recv (ci := 12) hkb hH 1 rfl rfl) rfl rfl hl.1 (Nat.le_of_ble_eq_true rfl) dX12_told_94 ⟨Nat.le_of_ble_eq_true rfl, Nat.le_of_ble_eq_true rfl⟩) (fun v94 u H locs hz9 hH hS => ?_)
            obtain ⟨n94_1_16, rfl, l_v94, u_v94, x_v940⟩ := hz9
            have hH : HT D cs A T (q0_1 :: a0 :: q0_35 :: O) ((q0_1, .inl (cs.2.1, 3906, .inl f1)) :: (a0, .inr (12, [.int q0_0, .ref q0_1, .ref q0_2, .ref q0_3, .ref q0_4, .int q0_5, .int q0_6, .int q0_7, .int q0_8, .int q0_9, .int q0_10, .int q0_11, .int q0_12, .int q0_13, .int q0_14, .ref q0_15, .int n94_1_16, .ref q0_17, .ref q0_18, .ref q0_19, .int f57_220, .ref q0_21, .ref q0_22, .int f57_223, .int f57_224, .int q0_25, .ref q0_26, .ref q0_27, .ref q0_28, .ref q0_29, .ref q0_30, .ref q0_31, .int q0_32, .ref q0_33, .ref q0_34, .ref q0_35])) :: (q0_35, .inl (cs.2.2.1, 160, .inr (.inl f35))) :: X) H := hH
            refine W.widen (k := 0) (n := 0) (Nat.le_of_ble_eq_true rfl) (Nat.le_of_ble_eq_true rfl) ?_
            refine x_putk (ci := 12) (v := .int v94) (ty := tyX12 23) (C := RX12) (F := TX12) (N := 36) hx hb hts uX12 tyX12 tyX12_ok nmX12 hown hkb hH hS 1 rfl rfl 23 (by decide) kw_1246 (fun _ h9 => h9) rfl (tyX12_ok 23 (by decide)) rfl rfl (Nat.le_of_ble_eq_true rfl) dX12_told_97 (fun H locs hH hS => ?_)
            have hH : HT D cs A T (q0_1 :: a0 :: q0_35 :: O) ((q0_1, .inl (cs.2.1, 3906, .inl f1)) :: (a0, .inr (12, [.int q0_0, .ref q0_1, .ref q0_2, .ref q0_3, .ref q0_4, .int q0_5, .int q0_6, .int q0_7, .int q0_8, .int q0_9, .int q0_10, .int q0_11, .int q0_12, .int q0_13, .int q0_14, .ref q0_15, .int n94_1_16, .ref q0_17, .ref q0_18, .ref q0_19, .int f57_220, .ref q0_21, .ref q0_22, .int v94, .int f57_224, .int q0_25, .ref q0_26, .ref q0_27, .ref q0_28, .ref q0_29, .ref q0_30, .ref q0_31, .int q0_32, .ref q0_33, .ref q0_34, .ref q0_35])) :: (q0_35, .inl (cs.2.2.1, 160, .inr (.inl f35))) :: X) H := hH
            refine lv_aload_n hx hb dX12_told_100 rfl (lv_at hl 5 rfl) ?_
            refine x_getk (ci := 12) (C := RX12) (F := TX12) (N := 36) (v := .int v94) hx hb hts uX12 hown hkb hH 1 rfl rfl 23 (by decide) rfl kw_1246 (fun _ h9 => h9) dX12_told_101 ?_
            refine lv_if_eq (tgt := 110) hx hb dX12_told_104 (by decide) (fun c104 => ?_) (fun c104 => ?_)
            · skip
              have tc104 := f_eq (k := 0) (by decide) c104
              replace x_v940 := x_v940.resolve_left (fun q9 => q9 tc104)
              refine lv_lload hx hb dX12_told_110 (lv_at hl 0 rfl) ?_
              refine lv_l2i hx hb dX12_told_112 rfl ?_
              refine lv_topi (fun v112 ev112 => ?_)
              have tv112 : v112.toInt = v74.toInt := by rw [ev112]; exact l2i_b (by omega) (by omega)
              refine lv_istore (lv' := [(4, .int v112), (6, .long v74), (5, .int p57_5), (3, .int p57_3), (2, .int v20), (0, .ref a0), (1, .int x1)]) hx hb dX12_told_113 hl (by decide) rfl (fun ls hl => ?_)
              refine lv_iload_n hx hb dX12_told_115 rfl (lv_at hl 3 rfl) ?_
              refine lv_iconst (v := 1) hx hb dX12_told_116 (by decide) ?_
              refine lv_iload hx hb dX12_told_117 (lv_at hl 0 rfl) ?_
              refine lv_ishl hx hb dX12_told_119 ?_
              refine lv_topi (fun v119 ev119 => ?_)
              have tv119 : 1 ≤ v119.toInt ∧ v119.toInt ≤ 8192 := by rw [ev119]; exact shl_b 13 (by decide) (by omega) (by omega)
              refine lv_ior hx hb dX12_told_120 ?_
              refine lv_topi (fun v120 ev120 => ?_)
              refine lv_istore_n (lv' := [(3, .int v120), (4, .int v112), (6, .long v74), (5, .int p57_5), (2, .int v20), (0, .ref a0), (1, .int x1)]) hx hb dX12_told_121 rfl hl (by decide) rfl (fun ls hl => ?_)
              have ht9 := TD_s i57 (by omega) (by omega) (by rw [ev112]; exact x_v940.2.2) ev119 ev120
              have ht8 := ht9.1
              refine lv_aload_n hx hb dX12_told_122 rfl (lv_at hl 5 rfl) ?_
              refine x_getk (ci := 12) (C := RX12) (F := TX12) (N := 36) (v := .ref q0_19) hx hb hts uX12 hown hkb hH 1 rfl rfl 19 (by decide) rfl kw_1242 (fun _ h9 => h9) dX12_told_123 ?_
              refine lv_aload_n hx hb dX12_told_126 rfl (lv_at hl 5 rfl) ?_
              refine x_getk (ci := 12) (C := RX12) (F := TX12) (N := 36) (v := .int f57_220) hx hb hts uX12 hown hkb hH 1 rfl rfl 20 (by decide) rfl kw_1243 (fun _ h9 => h9) dX12_told_127 ?_
              refine lv_iload hx hb dX12_told_130 (lv_at hl 1 rfl) ?_
              refine t_ist hx hb hkb hH hS t_q0_19 (hO.no t_q0_19 (by decide)) (by omega) (by omega) (show 0 ≤ v112.toInt ∧ v112.toInt ≤ 13 from by omega) dX12_told_132 (fun H locs hH hS => ?_)
              refine lv_aload_n hx hb dX12_told_133 rfl (lv_at hl 5 rfl) ?_
              refine lv_dup hx hb dX12_told_134 rfl ?_
              refine x_getk (ci := 12) (C := RX12) (F := TX12) (N := 36) (v := .int f57_220) hx hb hts uX12 hown hkb hH 1 rfl rfl 20 (by decide) rfl kw_1243 (fun _ h9 => h9) dX12_told_135 ?_
              refine lv_iconst (v := 1) hx hb dX12_told_138 (by decide) ?_
              refine lv_iadd hx hb dX12_told_139 ?_
              refine lv_topi (fun v139 ev139 => ?_)
              have tv139 : v139.toInt = f57_220.toInt + (1) := by rw [ev139]; exact add_i rfl (by decide : (1 : Int32).toInt = 1) (by omega) (by omega)
              refine x_putk (ci := 12) (v := .int v139) (ty := tyX12 20) (C := RX12) (F := TX12) (N := 36) hx hb hts uX12 tyX12 tyX12_ok nmX12 hown hkb hH hS 1 rfl rfl 20 (by decide) kw_1243 (fun _ h9 => h9) rfl (tyX12_ok 20 (by decide)) rfl rfl (Nat.le_of_ble_eq_true rfl) dX12_told_140 (fun H locs hH hS => ?_)
              have hH : HT D cs A T (q0_1 :: a0 :: q0_35 :: O) ((q0_1, .inl (cs.2.1, 3906, .inl f1)) :: (a0, .inr (12, [.int q0_0, .ref q0_1, .ref q0_2, .ref q0_3, .ref q0_4, .int q0_5, .int q0_6, .int q0_7, .int q0_8, .int q0_9, .int q0_10, .int q0_11, .int q0_12, .int q0_13, .int q0_14, .ref q0_15, .int n94_1_16, .ref q0_17, .ref q0_18, .ref q0_19, .int v139, .ref q0_21, .ref q0_22, .int v94, .int f57_224, .int q0_25, .ref q0_26, .ref q0_27, .ref q0_28, .ref q0_29, .ref q0_30, .ref q0_31, .int q0_32, .ref q0_33, .ref q0_34, .ref q0_35])) :: (q0_35, .inl (cs.2.2.1, 160, .inr (.inl f35))) :: X) H := hH
              refine lv_aload_n hx hb dX12_told_143 rfl (lv_at hl 5 rfl) ?_
              refine lv_dup hx hb dX12_told_144 rfl ?_
              refine x_getk (ci := 12) (C := RX12) (F := TX12) (N := 36) (v := .int f57_224) hx hb hts uX12 hown hkb hH 1 rfl rfl 24 (by decide) rfl kw_1247 (fun _ h9 => h9) dX12_told_145 ?_
              refine lv_aload_n hx hb dX12_told_148 rfl (lv_at hl 5 rfl) ?_
              refine tk_i hH hS hA (tr_V (n := 0) (As := []) hx hb hml hown hts hkb hH (ox_c (ox_c (ox_c hOX))) hks hE hS hA (s_M_endsX l D cs kf T (q0_35 :: O) ((q0_35, .inl (cs.2.2.1, 160, .inr (.inl f35))) :: X) a0 hg mq f1 (.int q0_0) q0_1 (.ref q0_2) (.ref q0_3) (.ref q0_4) (.int q0_5) (.int q0_6) (.int q0_7) (.int q0_8) (.int q0_9) (.int q0_10) (.int q0_11) (.int q0_12) (.int q0_13) (.int q0_14) q0_15 n94_1_16 [.ref q0_17, .ref q0_18, .ref q0_19, .int v139, .ref q0_21, .ref q0_22, .int v94, .int f57_224, .int q0_25, .ref q0_26, .ref q0_27, .ref q0_28, .ref q0_29, .ref q0_30, .ref q0_31, .int q0_32, .ref q0_33, .ref q0_34, .ref q0_35] t_a0 b_hg s_f1 g_f1 t_q0_1 t_q0_15 (hO.sub (by decide))) kw_1536 kw_1538 ks_78 kw_13 kw_1539 (by decide +kernel) ⟨Nat.le_of_ble_eq_true rfl, Nat.le_of_ble_eq_true rfl⟩ (x_recv (ci := 12) hkb hH 1 rfl rfl) rfl rfl hl.1 (Nat.le_of_ble_eq_true rfl) dX12_told_149 ⟨Nat.le_of_ble_eq_true rfl, Nat.le_of_ble_eq_true rfl⟩) (fun v149 u H locs hz9 hH hS => ?_)
              obtain ⟨rfl, l_v149, u_v149⟩ := hz9
              have hH : HT D cs A T (q0_1 :: a0 :: q0_35 :: O) ((q0_1, .inl (cs.2.1, 3906, .inl f1)) :: (a0, .inr (12, [.int q0_0, .ref q0_1, .ref q0_2, .ref q0_3, .ref q0_4, .int q0_5, .int q0_6, .int q0_7, .int q0_8, .int q0_9, .int q0_10, .int q0_11, .int q0_12, .int q0_13, .int q0_14, .ref q0_15, .int n94_1_16, .ref q0_17, .ref q0_18, .ref q0_19, .int v139, .ref q0_21, .ref q0_22, .int v94, .int f57_224, .int q0_25, .ref q0_26, .ref q0_27, .ref q0_28, .ref q0_29, .ref q0_30, .ref q0_31, .int q0_32, .ref q0_33, .ref q0_34, .ref q0_35])) :: (q0_35, .inl (cs.2.2.1, 160, .inr (.inl f35))) :: X) H := hH
              refine W.widen (k := 0) (n := 0) (Nat.le_of_ble_eq_true rfl) (Nat.le_of_ble_eq_true rfl) ?_
              refine lv_i2l hx hb dX12_told_152 rfl ?_
              refine lv_iload hx hb dX12_told_153 (lv_at hl 1 rfl) ?_
              refine tk_i hH hS hA (tr_S (n := 2) (As := [.long v149.toInt64, .int v112]) hx hb hml hown hts hkb hH (ox_c (ox_c (ox_c hOX))) hks hE hS hA (s_M_isIn2 l D cs kf T (q0_1 :: a0 :: q0_35 :: O) ((q0_1, .inl (cs.2.1, 3906, .inl f1)) :: (a0, .inr (12, [.int q0_0, .ref q0_1, .ref q0_2, .ref q0_3, .ref q0_4, .int q0_5, .int q0_6, .int q0_7, .int q0_8, .int q0_9, .int q0_10, .int q0_11, .int q0_12, .int q0_13, .int q0_14, .ref q0_15, .int n94_1_16, .ref q0_17, .ref q0_18, .ref q0_19, .int v139, .ref q0_21, .ref q0_22, .int v94, .int f57_224, .int q0_25, .ref q0_26, .ref q0_27, .ref q0_28, .ref q0_29, .ref q0_30, .ref q0_31, .int q0_32, .ref q0_33, .ref q0_34, .ref q0_35])) :: (q0_35, .inl (cs.2.2.1, 160, .inr (.inl f35))) :: X) v149.toInt64 v112  (hO.sub (by decide))) kw_1440 kw_1441 kw_13 kw_1442 (by decide +kernel) ⟨Nat.le_of_ble_eq_true rfl, Nat.le_of_ble_eq_true rfl⟩ rfl rfl hl.1 (Nat.le_of_ble_eq_true rfl) dX12_told_155 ⟨Nat.le_of_ble_eq_true rfl, Nat.le_of_ble_eq_true rfl⟩) (fun v155 u H locs hz9 hH hS => ?_)
              obtain ⟨rfl, l_v155, u_v155, x_v1550⟩ := hz9
              have hH : HT D cs A T (q0_1 :: a0 :: q0_35 :: O) ((q0_1, .inl (cs.2.1, 3906, .inl f1)) :: (a0, .inr (12, [.int q0_0, .ref q0_1, .ref q0_2, .ref q0_3, .ref q0_4, .int q0_5, .int q0_6, .int q0_7, .int q0_8, .int q0_9, .int q0_10, .int q0_11, .int q0_12, .int q0_13, .int q0_14, .ref q0_15, .int n94_1_16, .ref q0_17, .ref q0_18, .ref q0_19, .int v139, .ref q0_21, .ref q0_22, .int v94, .int f57_224, .int q0_25, .ref q0_26, .ref q0_27, .ref q0_28, .ref q0_29, .ref q0_30, .ref q0_31, .int q0_32, .ref q0_33, .ref q0_34, .ref q0_35])) :: (q0_35, .inl (cs.2.2.1, 160, .inr (.inl f35))) :: X) H := hH
              refine W.widen (k := 0) (n := 0) (Nat.le_of_ble_eq_true rfl) (Nat.le_of_ble_eq_true rfl) ?_
              have J166 : ∀ (k166_0 : Int32) (H : Heap) (locs : List Loc) (ls : Array Slot), (0 ≤ k166_0.toInt) → (k166_0.toInt ≤ 1) → HT D cs A T (q0_1 :: a0 :: q0_35 :: O) ((q0_1, .inl (cs.2.1, 3906, .inl f1)) :: (a0, .inr (12, [.int q0_0, .ref q0_1, .ref q0_2, .ref q0_3, .ref q0_4, .int q0_5, .int q0_6, .int q0_7, .int q0_8, .int q0_9, .int q0_10, .int q0_11, .int q0_12, .int q0_13, .int q0_14, .ref q0_15, .int n94_1_16, .ref q0_17, .ref q0_18, .ref q0_19, .int v139, .ref q0_21, .ref q0_22, .int v94, .int f57_224, .int q0_25, .ref q0_26, .ref q0_27, .ref q0_28, .ref q0_29, .ref q0_30, .ref q0_31, .int q0_32, .ref q0_33, .ref q0_34, .ref q0_35])) :: (q0_35, .inl (cs.2.2.1, 160, .inr (.inl f35))) :: X) H → va_S A s.heap H locs → lv_has ls 8 [(3, .int v120), (4, .int v112), (5, .int p57_5), (2, .int v20), (0, .ref a0), (1, .int x1)] → W p l e { frames := 4, cells := 0, slots := 0, locals := 100 } s m [.ref a0, .int x1].toArray below meth c H locs 0 0 (MQ below (Ti D cs (fun r u => u = (T, O, X) ∧ -1 ≤ r.toInt ∧ r.toInt ≤ 40) A) [.ref a0, .int x1].toArray s 0 0 A) (F0 m 166 ls [.int k166_0, .int f57_224, .ref a0]) := by
                intro k166_0 H locs ls l_k166_0 u_k166_0 hH hS hl
                refine lv_iadd hx hb dX12_told_166 ?_
                refine lv_topi (fun v166 ev166 => ?_)
                refine x_putk (ci := 12) (v := .int v166) (ty := tyX12 24) (C := RX12) (F := TX12) (N := 36) hx hb hts uX12 tyX12 tyX12_ok nmX12 hown hkb hH hS 1 rfl rfl 24 (by decide) kw_1247 (fun _ h9 => h9) rfl (tyX12_ok 24 (by decide)) rfl rfl (Nat.le_of_ble_eq_true rfl) dX12_told_167 (fun H locs hH hS => ?_)
                have hH : HT D cs A T (q0_1 :: a0 :: q0_35 :: O) ((q0_1, .inl (cs.2.1, 3906, .inl f1)) :: (a0, .inr (12, [.int q0_0, .ref q0_1, .ref q0_2, .ref q0_3, .ref q0_4, .int q0_5, .int q0_6, .int q0_7, .int q0_8, .int q0_9, .int q0_10, .int q0_11, .int q0_12, .int q0_13, .int q0_14, .ref q0_15, .int n94_1_16, .ref q0_17, .ref q0_18, .ref q0_19, .int v139, .ref q0_21, .ref q0_22, .int v94, .int v166, .int q0_25, .ref q0_26, .ref q0_27, .ref q0_28, .ref q0_29, .ref q0_30, .ref q0_31, .int q0_32, .ref q0_33, .ref q0_34, .ref q0_35])) :: (q0_35, .inl (cs.2.2.1, 160, .inr (.inl f35))) :: X) H := hH
                obtain ⟨v170, ev170⟩ : ∃ y : Int32, y = p57_5 + 1 := ⟨_, rfl⟩
                have tv170 : v170.toInt = p57_5.toInt + (1) := by rw [ev170]; exact add_i rfl (by decide) (by omega) (by omega)
                refine lv_iinc (v := v170) (lv' := [(5, .int v170), (3, .int v120), (4, .int v112), (2, .int v20), (0, .ref a0), (1, .int x1)]) hx hb dX12_told_170 hl (k := 2) rfl (by rw [ev170]; rfl) (by decide) rfl (fun ls hl => ?_)
                refine lv_goto (tgt := 57) hx hb dX12_told_173 (by decide) ?_
                exact ih57 _ (by omega) v170 v112 v120 n94_1_16 v139 v94 v166 _ _ _ rfl (by omega) (by omega) (by omega) (by omega) (by omega) (by omega) (by omega) (by omega) (by first | (refine TD_0 ?_ ?_ <;> decide) | exact (ht9.2 _ tv139)) hH hS (lv_sub hl [0, 2, 1, 3, 4, 5] rfl)
              refine lv_if_eq (tgt := 165) hx hb dX12_told_158 (by decide) (fun c158 => ?_) (fun c158 => ?_)
              · skip
                have tc158 := f_eq (k := 0) (by decide) c158
                refine lv_iconst (v := 1) hx hb dX12_told_165 (by decide) ?_
                exact J166 1 _ _ _ (by decide) (by decide) hH hS (lv_sub hl [0, 1, 3, 4, 5, 6] rfl)
              · skip
                have tc158 := f_ne (k := 0) (by decide) c158
                refine lv_iconst (v := 0) hx hb dX12_told_161 (by decide) ?_
                refine lv_goto (tgt := 166) hx hb dX12_told_162 (by decide) ?_
                exact J166 0 _ _ _ (by decide) (by decide) hH hS (lv_sub hl [0, 1, 3, 4, 5, 6] rfl)
            · skip
              have tc104 := f_ne (k := 0) (by decide) c104
              clear x_v940
              refine lv_iload hx hb dX12_told_107 (lv_at hl 1 rfl) ?_
              have hH : HT D cs A T (a0 :: q0_35 :: O) ((a0, .inr (12, [.int q0_0, .ref q0_1, .ref q0_2, .ref q0_3, .ref q0_4, .int q0_5, .int q0_6, .int q0_7, .int q0_8, .int q0_9, .int q0_10, .int q0_11, .int q0_12, .int q0_13, .int q0_14, .ref q0_15, .int n94_1_16, .ref q0_17, .ref q0_18, .ref q0_19, .int f57_220, .ref q0_21, .ref q0_22, .int v94, .int f57_224, .int q0_25, .ref q0_26, .ref q0_27, .ref q0_28, .ref q0_29, .ref q0_30, .ref q0_31, .int q0_32, .ref q0_33, .ref q0_34, .ref q0_35])) :: (q0_35, .inl (cs.2.2.1, 160, .inr (.inl f35))) :: X) H := HT.layA hH t_q0_1 (show sp cs T (8, 3906, hg) _ from ⟨_, rfl, s_f1, fun _ => g_f1⟩)
              have hH : HT D cs A T (q0_35 :: O) ((q0_35, .inl (cs.2.2.1, 160, .inr (.inl f35))) :: X) H := HT.lay (ci := 12) hH t_a0 (okL_c (⟨_, rfl⟩) (okL_c (⟨_, rfl, t_q0_1⟩) (okL_c (⟨_, rfl, t_q0_2⟩) (okL_c (⟨_, rfl, t_q0_3⟩) (okL_c (⟨_, rfl, t_q0_4⟩) (okL_c (⟨_, rfl, by omega, by omega, by omega⟩) (okL_c (⟨_, rfl⟩) (okL_c (⟨_, rfl⟩) (okL_c (⟨_, rfl⟩) (okL_c (⟨_, rfl⟩) (okL_c (⟨_, rfl, by omega, by omega⟩) (okL_c (⟨_, rfl⟩) (okL_c (⟨_, rfl⟩) (okL_c (⟨_, rfl⟩) (okL_c (⟨_, rfl⟩) (okL_c (⟨_, rfl, t_q0_15⟩) (okL_c (⟨_, rfl⟩) (okL_c (⟨_, rfl, t_q0_17⟩) (okL_c (⟨_, rfl, t_q0_18⟩) (okL_c (⟨_, rfl, t_q0_19⟩) (okL_c (⟨_, rfl, by omega, by omega⟩) (okL_c (⟨_, rfl, t_q0_21⟩) (okL_c (⟨_, rfl, t_q0_22⟩) (okL_c (⟨_, rfl⟩) (okL_c (⟨_, rfl⟩) (okL_c (⟨_, rfl⟩) (okL_c (⟨_, rfl, t_q0_26⟩) (okL_c (⟨_, rfl, t_q0_27⟩) (okL_c (⟨_, rfl, t_q0_28⟩) (okL_c (⟨_, rfl, t_q0_29⟩) (okL_c (⟨_, rfl, t_q0_30⟩) (okL_c (⟨_, rfl, t_q0_31⟩) (okL_c (⟨_, rfl⟩) (okL_c (⟨_, rfl, t_q0_33⟩) (okL_c (⟨_, rfl, t_q0_34⟩) (okL_c (⟨_, rfl, t_q0_35⟩) (okL_n)))))))))))))))))))))))))))))))))))))
              have hO := hO0
              have hH : HT D cs A T O X H := HT.layA hH t_q0_35 (show sp cs T (2, 160, 0) _ from ⟨_, rfl⟩)
              exact te_i hx hb hr hlocks hH hS (⟨rfl, by omega, by omega⟩) dX12_told_109
      refine lv_istore (lv' := [(5, .int 1), (4, .int (-1)), (3, .int 0), (2, .int v20), (0, .ref a0), (1, .int x1)]) hx hb dX12_told_55 hl (by decide) rfl (fun ls hl => ?_)
      have z_m1 : ((-1) : Int32).toInt = -1 := by decide
      have z_0 : (0 : Int32).toInt = 0 := by decide
      have z_1 : (1 : Int32).toInt = 1 := by decide
      exact J57 _ 1 (-1) 0 q0_16 0 0 0 _ _ _ rfl (by decide) (by decide) (by decide) (by decide) (by decide) (by decide) (by decide) (by decide) (by first | (refine TD_0 ?_ ?_ <;> decide) | exact (ht9.2 _ tv139)) hH hS (lv_sub hl [0, 1, 2, 3, 4, 5] rfl)
    · skip
      have tc39 := f_eq (k := 0) (by decide) c39
      clear x_v360
      exact J42  _ _ _  hH hS (lv_sub hl [1] rfl)
set_option maxHeartbeats 4000000 in
set_option maxRecDepth 100000 in
theorem s_M_judge (l : Launch) (D : va_G) (cs : CS) (kf : KF) (T : TF) (O : List Nat) (X : va_W) (a0 hg mq : Nat) (x1 : Int32) (x2 : Int32) (t_a0 : T a0 = some (22, hg, mq)) (b_hg : hg < 90) (hO : okO T O [1, 2, 8, 22]) : TK l D cs kf yX12_judge cX12_judge 5 (some (.int)) { frames := 5, cells := 0, slots := 0, locals := 127 } [.ref a0, .int x1, .int x2] T O X (Ti D cs (fun r u => u = (T, O, X))) := by
  refine tk_of (by decide) (Nat.le_of_ble_eq_true rfl) (fun p e s m below meth c ls A H locs hx hb hr hml hown hts hlocks hnm hkb hH hS hA hOX hks hE hl => ?_)
  have hown : s.vm.findClass RX12 = some m.cls := hown
  have hl : lv_has ls 5 [(0, .ref a0), (1, .int x1), (2, .int x2)] := hl
  refine lv_aload_n hx hb dX12_judge_0 rfl (lv_at hl 0 rfl) ?_
  refine lv_iconst (v := 0) hx hb dX12_judge_1 (by decide) ?_
  refine t_put (ci := 12) (lst := ft12 hg mq) (v := .int 0) (ty := tyX12 0) (C := RX12) (F := TX12) (N := 36) hx hb hts uX12 tyX12 tyX12_ok nmX12 hown hkb hH hS t_a0 (hO.no t_a0 (by decide)) (fun _ => Iff.rfl) rfl rfl 0 (by decide) rfl (⟨_, rfl⟩) kw_1223 (fun _ h9 => h9) rfl (tyX12_ok 0 (by decide)) rfl rfl dX12_judge_2 (fun H locs hH hS => ?_)
  refine lv_iload_n hx hb dX12_judge_5 rfl (lv_at hl 2 rfl) ?_
  refine lv_i2l hx hb dX12_judge_6 rfl ?_
  refine lv_lconst (v := 0) hx hb dX12_judge_7 (by decide) ?_
  refine lv_ldc2 hx hb hown (hts _ kw_1522) dX12_judge_8 ?_
  refine tk_i hH hS hA (tr_S (n := 3) (As := [.long x2.toInt64, .long 0, .long 2]) hx hb hml hown hts hkb hH hOX hks hE hS hA (s_M_within l D cs kf T O X x2.toInt64 0 2  (hO.sub (by decide))) kw_1341 kw_1342 kw_13 kw_1343 (by decide +kernel) ⟨Nat.le_of_ble_eq_true rfl, Nat.le_of_ble_eq_true rfl⟩ rfl rfl hl.1 (Nat.le_of_ble_eq_true rfl) dX12_judge_11 ⟨Nat.le_of_ble_eq_true rfl, Nat.le_of_ble_eq_true rfl⟩) (fun v11 u H locs hz9 hH hS => ?_)
  obtain ⟨rfl, l_v11, u_v11, x_v110, x_v111⟩ := hz9
  simp only [Int32.toInt_toInt64] at x_v110 x_v111
  have k9_0 : (0 : Int64).toInt = 0 := by decide
  have k9_2 : (2 : Int64).toInt = 2 := by decide
  have hH : HT D cs A T O X H := hH
  refine W.widen (k := 0) (n := 0) (Nat.le_of_ble_eq_true rfl) (Nat.le_of_ble_eq_true rfl) ?_
  refine lv_if_ne (tgt := 20) hx hb dX12_judge_14 (by decide) (fun c14 => ?_) (fun c14 => ?_)
  · skip
    have tc14 := f_ne (k := 0) (by decide) c14
    replace x_v110 := x_v110.resolve_left tc14
    clear x_v111
    refine lv_aload_n hx hb dX12_judge_20 rfl (lv_at hl 0 rfl) ?_
    refine lv_iload_n hx hb dX12_judge_21 rfl (lv_at hl 1 rfl) ?_
    refine tk_i hH hS hA (tr_V (n := 1) (As := [.int x1]) hx hb hml hown hts hkb hH hOX hks hE hS hA (s_M_noTray l D cs kf T O X a0 hg mq x1 t_a0 b_hg (hO.sub (by decide))) kw_1523 kw_1525 ks_75 kw_13 kw_1526 (by decide +kernel) ⟨Nat.le_of_ble_eq_true rfl, Nat.le_of_ble_eq_true rfl⟩ (HT.recv (ci := 12) hkb hH t_a0 (hO.no t_a0 (by decide)) rfl) rfl rfl hl.1 (Nat.le_of_ble_eq_true rfl) dX12_judge_22 ⟨Nat.le_of_ble_eq_true rfl, Nat.le_of_ble_eq_true rfl⟩) (fun v22 u H locs hz9 hH hS => ?_)
    obtain ⟨rfl, l_v22, u_v22, x_v220⟩ := hz9
    have hH : HT D cs A T O X H := hH
    refine W.widen (k := 0) (n := 0) (Nat.le_of_ble_eq_true rfl) (Nat.le_of_ble_eq_true rfl) ?_
    refine lv_istore_n (lv' := [(3, .int v22), (0, .ref a0), (1, .int x1), (2, .int x2)]) hx hb dX12_judge_25 rfl hl (by decide) rfl (fun ls hl => ?_)
    refine lv_iload_n hx hb dX12_judge_26 rfl (lv_at hl 0 rfl) ?_
    refine lv_if_eq (tgt := 32) hx hb dX12_judge_27 (by decide) (fun c27 => ?_) (fun c27 => ?_)
    · skip
      have tc27 := f_eq (k := 0) (by decide) c27
      refine lv_aload_n hx hb dX12_judge_32 rfl (lv_at hl 1 rfl) ?_
      refine lv_iload_n hx hb dX12_judge_33 rfl (lv_at hl 2 rfl) ?_
      refine tk_i hH hS hA (tr_V (n := 1) (As := [.int x1]) hx hb hml hown hts hkb hH hOX hks hE hS hA (s_M_told l D cs kf T O X a0 hg mq x1 t_a0 b_hg (by omega) (by omega) (hO.sub (by decide))) kw_1528 kw_1530 ks_76 kw_13 kw_1531 (by decide +kernel) ⟨Nat.le_of_ble_eq_true rfl, Nat.le_of_ble_eq_true rfl⟩ (HT.recv (ci := 12) hkb hH t_a0 (hO.no t_a0 (by decide)) rfl) rfl rfl hl.1 (Nat.le_of_ble_eq_true rfl) dX12_judge_34 ⟨Nat.le_of_ble_eq_true rfl, Nat.le_of_ble_eq_true rfl⟩) (fun v34 u H locs hz9 hH hS => ?_)
      obtain ⟨rfl, l_v34, u_v34⟩ := hz9
      have hH : HT D cs A T O X H := hH
      refine W.widen (k := 0) (n := 0) (Nat.le_of_ble_eq_true rfl) (Nat.le_of_ble_eq_true rfl) ?_
      refine lv_istore (lv' := [(4, .int v34), (3, .int v22), (0, .ref a0), (1, .int x1), (2, .int x2)]) hx hb dX12_judge_37 hl (by decide) rfl (fun ls hl => ?_)
      refine lv_iload_n hx hb dX12_judge_39 rfl (lv_at hl 4 rfl) ?_
      refine lv_if_ne (tgt := 48) hx hb dX12_judge_40 (by decide) (fun c40 => ?_) (fun c40 => ?_)
      · skip
        have tc40 := f_ne (k := 0) (by decide) c40
        refine lv_iload_n hx hb dX12_judge_48 rfl (lv_at hl 4 rfl) ?_
        refine lv_iconst (v := 1) hx hb dX12_judge_49 (by decide) ?_
        refine lv_icmp_ne (tgt := 60) hx hb dX12_judge_50 (by decide) (fun c50 => ?_) (fun c50 => ?_)
        · skip
          have tc50 := f_ne (k := 1) (by decide) c50
          refine lv_aload_n hx hb dX12_judge_60 rfl (lv_at hl 2 rfl) ?_
          refine t_get (ci := 12) (lst := ft12 hg mq) (C := RX12) (F := TX12) (N := 36) hx hb hts uX12 hown hkb hH t_a0 (hO.no t_a0 (by decide)) (fun _ h9 => h9) rfl rfl 23 (by decide) rfl kw_1246 (fun _ h9 => h9) dX12_judge_61 (fun v9 h9 => ?_)
          obtain ⟨v61, rfl⟩ := h9
          refine lv_if_ne (tgt := 74) hx hb dX12_judge_64 (by decide) (fun c64 => ?_) (fun c64 => ?_)
          · skip
            have tc64 := f_ne (k := 0) (by decide) c64
            refine lv_iconst (v := 0) hx hb dX12_judge_74 (by decide) ?_
            exact te_i hx hb hr hlocks hH hS (rfl) dX12_judge_75
          · skip
            have tc64 := f_eq (k := 0) (by decide) c64
            refine lv_aload_n hx hb dX12_judge_67 rfl (lv_at hl 2 rfl) ?_
            refine t_get (ci := 12) (lst := ft12 hg mq) (C := RX12) (F := TX12) (N := 36) hx hb hts uX12 hown hkb hH t_a0 (hO.no t_a0 (by decide)) (fun _ h9 => h9) rfl rfl 24 (by decide) rfl kw_1247 (fun _ h9 => h9) dX12_judge_68 (fun v9 h9 => ?_)
            obtain ⟨v68, rfl⟩ := h9
            refine lv_goto (tgt := 75) hx hb dX12_judge_71 (by decide) ?_
            exact te_i hx hb hr hlocks hH hS (rfl) dX12_judge_75
        · skip
          have tc50 := f_eq (k := 1) (by decide) c50
          refine lv_aload_n hx hb dX12_judge_53 rfl (lv_at hl 2 rfl) ?_
          refine t_get (ci := 12) (lst := ft12 hg mq) (C := RX12) (F := TX12) (N := 36) hx hb hts uX12 hown hkb hH t_a0 (hO.no t_a0 (by decide)) (fun _ h9 => h9) rfl rfl 23 (by decide) rfl kw_1246 (fun _ h9 => h9) dX12_judge_54 (fun v9 h9 => ?_)
          obtain ⟨v54, rfl⟩ := h9
          refine lv_goto (tgt := 75) hx hb dX12_judge_57 (by decide) ?_
          exact te_i hx hb hr hlocks hH hS (rfl) dX12_judge_75
      · skip
        have tc40 := f_eq (k := 0) (by decide) c40
        refine lv_iload hx hb dX12_judge_43 (lv_at hl 0 rfl) ?_
        refine lv_goto (tgt := 75) hx hb dX12_judge_45 (by decide) ?_
        exact te_i hx hb hr hlocks hH hS (rfl) dX12_judge_75
    · skip
      have tc27 := f_ne (k := 0) (by decide) c27
      refine lv_iload_n hx hb dX12_judge_30 rfl (lv_at hl 0 rfl) ?_
      exact te_i hx hb hr hlocks hH hS (rfl) dX12_judge_31
  · skip
    have tc14 := f_eq (k := 0) (by decide) c14
    clear x_v110
    replace x_v111 := x_v111.resolve_left (fun q9 => q9 tc14)
    refine lv_bipush (v := (-2)) hx hb dX12_judge_17 (by decide) ?_
    exact te_i hx hb hr hlocks hH hS (rfl) dX12_judge_19
set_option maxHeartbeats 4000000 in
set_option maxRecDepth 100000 in
theorem s_M_climb (l : Launch) (D : va_G) (cs : CS) (kf : KF) (T : TF) (O : List Nat) (X : va_W) (a0 hg mq : Nat) (x1 : Int32) (t_a0 : T a0 = some (22, hg, mq)) (b_hg : hg < 90) (hO : okO T O [1, 2, 8, 22]) : TK l D cs kf yX12_climb cX12_climb 4 (some (.int)) { frames := 5, cells := 0, slots := 0, locals := 127 } [.ref a0, .int x1] T O X (Ti D cs (fun r u => u = (T, O, X))) := by
  refine tk_of (by decide) (Nat.le_of_ble_eq_true rfl) (fun p e s m below meth c ls A H locs hx hb hr hml hown hts hlocks hnm hkb hH hS hA hOX hks hE hl => ?_)
  have hown : s.vm.findClass RX12 = some m.cls := hown
  have hl : lv_has ls 4 [(0, .ref a0), (1, .int x1)] := hl
  refine lv_aload_n hx hb dX12_climb_0 rfl (lv_at hl 0 rfl) ?_
  refine lv_iconst (v := 0) hx hb dX12_climb_1 (by decide) ?_
  refine t_put (ci := 12) (lst := ft12 hg mq) (v := .int 0) (ty := tyX12 0) (C := RX12) (F := TX12) (N := 36) hx hb hts uX12 tyX12 tyX12_ok nmX12 hown hkb hH hS t_a0 (hO.no t_a0 (by decide)) (fun _ => Iff.rfl) rfl rfl 0 (by decide) rfl (⟨_, rfl⟩) kw_1223 (fun _ h9 => h9) rfl (tyX12_ok 0 (by decide)) rfl rfl dX12_climb_2 (fun H locs hH hS => ?_)
  refine lv_aload_n hx hb dX12_climb_5 rfl (lv_at hl 0 rfl) ?_
  refine lv_iload_n hx hb dX12_climb_6 rfl (lv_at hl 1 rfl) ?_
  refine tk_i hH hS hA (tr_V (n := 1) (As := [.int x1]) hx hb hml hown hts hkb hH hOX hks hE hS hA (s_M_noTray l D cs kf T O X a0 hg mq x1 t_a0 b_hg (hO.sub (by decide))) kw_1523 kw_1525 ks_75 kw_13 kw_1526 (by decide +kernel) ⟨Nat.le_of_ble_eq_true rfl, Nat.le_of_ble_eq_true rfl⟩ (HT.recv (ci := 12) hkb hH t_a0 (hO.no t_a0 (by decide)) rfl) rfl rfl hl.1 (Nat.le_of_ble_eq_true rfl) dX12_climb_7 ⟨Nat.le_of_ble_eq_true rfl, Nat.le_of_ble_eq_true rfl⟩) (fun v7 u H locs hz9 hH hS => ?_)
  obtain ⟨rfl, l_v7, u_v7, x_v70⟩ := hz9
  have hH : HT D cs A T O X H := hH
  refine W.widen (k := 0) (n := 0) (Nat.le_of_ble_eq_true rfl) (Nat.le_of_ble_eq_true rfl) ?_
  refine lv_istore_n (lv' := [(2, .int v7), (0, .ref a0), (1, .int x1)]) hx hb dX12_climb_10 rfl hl (by decide) rfl (fun ls hl => ?_)
  refine lv_iload_n hx hb dX12_climb_11 rfl (lv_at hl 0 rfl) ?_
  refine lv_if_eq (tgt := 17) hx hb dX12_climb_12 (by decide) (fun c12 => ?_) (fun c12 => ?_)
  · skip
    have tc12 := f_eq (k := 0) (by decide) c12
    refine lv_aload_n hx hb dX12_climb_17 rfl (lv_at hl 1 rfl) ?_
    refine lv_iload_n hx hb dX12_climb_18 rfl (lv_at hl 2 rfl) ?_
    refine tk_i hH hS hA (tr_V (n := 1) (As := [.int x1]) hx hb hml hown hts hkb hH hOX hks hE hS hA (s_M_told l D cs kf T O X a0 hg mq x1 t_a0 b_hg (by omega) (by omega) (hO.sub (by decide))) kw_1528 kw_1530 ks_76 kw_13 kw_1531 (by decide +kernel) ⟨Nat.le_of_ble_eq_true rfl, Nat.le_of_ble_eq_true rfl⟩ (HT.recv (ci := 12) hkb hH t_a0 (hO.no t_a0 (by decide)) rfl) rfl rfl hl.1 (Nat.le_of_ble_eq_true rfl) dX12_climb_19 ⟨Nat.le_of_ble_eq_true rfl, Nat.le_of_ble_eq_true rfl⟩) (fun v19 u H locs hz9 hH hS => ?_)
    obtain ⟨rfl, l_v19, u_v19⟩ := hz9
    have hH : HT D cs A T O X H := hH
    refine W.widen (k := 0) (n := 0) (Nat.le_of_ble_eq_true rfl) (Nat.le_of_ble_eq_true rfl) ?_
    refine lv_iconst (v := (-1)) hx hb dX12_climb_22 (by decide) ?_
    refine lv_icmp_eq (tgt := 29) hx hb dX12_climb_23 (by decide) (fun c23 => ?_) (fun c23 => ?_)
    · skip
      have tc23 := f_eq (k := -1) (by decide) c23
      refine lv_aload_n hx hb dX12_climb_29 rfl (lv_at hl 1 rfl) ?_
      refine tk_v hH hS hA (tr_V (n := 0) (As := []) hx hb hml hown hts hkb hH hOX hks hE hS hA (s_M_keeps l D cs kf T O X a0 hg mq t_a0 b_hg (hO.sub (by decide))) kw_1544 kw_1546 ks_79 kw_13 kw_1547 (by decide +kernel) ⟨Nat.le_of_ble_eq_true rfl, Nat.le_of_ble_eq_true rfl⟩ (HT.recv (ci := 12) hkb hH t_a0 (hO.no t_a0 (by decide)) rfl) rfl rfl hl.1 (Nat.le_of_ble_eq_true rfl) dX12_climb_30 ⟨Nat.le_of_ble_eq_true rfl, Nat.le_of_ble_eq_true rfl⟩) (fun u H locs hz9 hH hS => ?_)
      have hz9 : u = (T, O, X) := hz9
      subst hz9
      have hH : HT D cs A T O X H := hH
      refine W.widen (k := 0) (n := 0) (Nat.le_of_ble_eq_true rfl) (Nat.le_of_ble_eq_true rfl) ?_
      refine lv_aload_n hx hb dX12_climb_33 rfl (lv_at hl 1 rfl) ?_
      refine lv_aload_n hx hb dX12_climb_34 rfl (lv_at hl 1 rfl) ?_
      refine t_get (ci := 12) (lst := ft12 hg mq) (C := RX12) (F := TX12) (N := 36) hx hb hts uX12 hown hkb hH t_a0 (hO.no t_a0 (by decide)) (fun _ h9 => h9) rfl rfl 35 (by decide) rfl kw_1258 (fun _ h9 => h9) dX12_climb_35 (fun v9 h9 => ?_)
      obtain ⟨v35, rfl, t_v35⟩ := h9
      refine lv_bipush (v := 40) hx hb dX12_climb_38 (by decide) ?_
      refine lv_iload_n hx hb dX12_climb_40 rfl (lv_at hl 2 rfl) ?_
      refine lv_imul hx hb dX12_climb_41 ?_
      refine lv_topi (fun v41 ev41 => ?_)
      have tv41 : v41.toInt = (40) * x1.toInt := by rw [ev41]; exact mul_i (by decide : (40 : Int32).toInt = 40) rfl (by omega) (by omega)
      refine t_lld hx hb hkb hH t_v35 (hO.no t_v35 (by decide)) (by omega) (by omega) dX12_climb_42 (fun v42 => ?_)
      refine lv_l2i hx hb dX12_climb_43 rfl ?_
      refine lv_topi (fun v43 ev43 => ?_)
      refine tk_i hH hS hA (tr_V (n := 1) (As := [.int v43]) hx hb hml hown hts hkb hH hOX hks hE hS hA (s_M_usesRow l D cs kf T O X a0 hg mq v43 t_a0 b_hg (hO.sub (by decide))) kw_1548 kw_1550 ks_80 kw_13 kw_1551 (by decide +kernel) ⟨Nat.le_of_ble_eq_true rfl, Nat.le_of_ble_eq_true rfl⟩ (HT.recv (ci := 12) hkb hH t_a0 (hO.no t_a0 (by decide)) rfl) rfl rfl hl.1 (Nat.le_of_ble_eq_true rfl) dX12_climb_44 ⟨Nat.le_of_ble_eq_true rfl, Nat.le_of_ble_eq_true rfl⟩) (fun v44 u H locs hz9 hH hS => ?_)
      have hz9 : u = (T, O, X) := hz9
      subst hz9
      have hH : HT D cs A T O X H := hH
      refine W.widen (k := 0) (n := 0) (Nat.le_of_ble_eq_true rfl) (Nat.le_of_ble_eq_true rfl) ?_
      refine lv_istore_n (lv' := [(3, .int v44), (2, .int v7), (0, .ref a0), (1, .int x1)]) hx hb dX12_climb_47 rfl hl (by decide) rfl (fun ls hl => ?_)
      refine lv_aload_n hx hb dX12_climb_48 rfl (lv_at hl 2 rfl) ?_
      refine tk_v hH hS hA (tr_V (n := 0) (As := []) hx hb hml hown hts hkb hH hOX hks hE hS hA (s_M_notes l D cs kf T O X a0 hg mq t_a0 b_hg (hO.sub (by decide))) kw_1552 kw_1554 ks_81 kw_13 kw_1555 (by decide +kernel) ⟨Nat.le_of_ble_eq_true rfl, Nat.le_of_ble_eq_true rfl⟩ (HT.recv (ci := 12) hkb hH t_a0 (hO.no t_a0 (by decide)) rfl) rfl rfl hl.1 (Nat.le_of_ble_eq_true rfl) dX12_climb_49 ⟨Nat.le_of_ble_eq_true rfl, Nat.le_of_ble_eq_true rfl⟩) (fun u H locs hz9 hH hS => ?_)
      obtain ⟨rfl⟩ := hz9
      have hH : HT D cs A T O X H := hH
      refine W.widen (k := 0) (n := 0) (Nat.le_of_ble_eq_true rfl) (Nat.le_of_ble_eq_true rfl) ?_
      refine lv_iload_n hx hb dX12_climb_52 rfl (lv_at hl 0 rfl) ?_
      exact te_i hx hb hr hlocks hH hS (rfl) dX12_climb_53
    · skip
      have tc23 := f_ne (k := -1) (by decide) c23
      refine lv_bipush (v := (-5)) hx hb dX12_climb_26 (by decide) ?_
      exact te_i hx hb hr hlocks hH hS (rfl) dX12_climb_28
  · skip
    have tc12 := f_ne (k := 0) (by decide) c12
    refine lv_iload_n hx hb dX12_climb_15 rfl (lv_at hl 0 rfl) ?_
    exact te_i hx hb hr hlocks hH hS (rfl) dX12_climb_16
