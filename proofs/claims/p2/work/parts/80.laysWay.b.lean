set_option maxHeartbeats 4000000 in
set_option maxRecDepth 100000 in
theorem s_M_laysWay (l : Launch) (D : va_G) (cs : CS) (kf : KF) (T : TF) (O : List Nat) (X : va_W) (a0 hg mq : Nat) (x1 : Int32) (t_a0 : T a0 = some (22, hg, mq)) (b_hg : hg < 90) (l_x1 : 0 ≤ x1.toInt) (u_x1 : x1.toInt ≤ 16383) (hO : okO T O [1, 8, 9, 22]) : TK l D cs kf yX12_laysWay cX12_laysWay 5 (some (.boolean)) { frames := 2, cells := 0, slots := 0, locals := 45 } [.ref a0, .int x1] T O X (Ti D cs (fun r u => u = (T, O, X) ∧ 0 ≤ r.toInt ∧ r.toInt ≤ 1)) := by
  refine tk_of (by decide) (Nat.le_of_ble_eq_true rfl) (fun p e s m below meth c ls A H locs hx hb hr hml hown hts hlocks hnm hkb hH hS hA hOX hks hE hl => ?_)
  have hown : s.vm.findClass RX12 = some m.cls := hown
  have hl : lv_has ls 5 [(0, .ref a0), (1, .int x1)] := hl
  have hO0 := hO
  obtain ⟨fs9, ho9, hH⟩ := hH.take t_a0 (hO0.no t_a0 (by decide))
  have hp0 : okL T (ft12 hg mq) fs9 := ho9
  clear ho9
  obtain ⟨v9, fs9, rfl, h9, hp1⟩ := okL_i hp0
  obtain ⟨q0_0, rfl⟩ := h9
  obtain ⟨v9, fs9, rfl, h9, hp2⟩ := okL_i hp1
  obtain ⟨q0_1, rfl, t_q0_1⟩ := h9
  obtain ⟨v9, fs9, rfl, h9, hp3⟩ := okL_i hp2
  obtain ⟨q0_2, rfl, t_q0_2⟩ := h9
  obtain ⟨v9, fs9, rfl, h9, hp4⟩ := okL_i hp3
  obtain ⟨q0_3, rfl, t_q0_3⟩ := h9
  obtain ⟨v9, fs9, rfl, h9, hp5⟩ := okL_i hp4
  obtain ⟨q0_4, rfl, t_q0_4⟩ := h9
  obtain ⟨v9, fs9, rfl, h9, hp6⟩ := okL_i hp5
  obtain ⟨q0_5, rfl, l_q0_5, u_q0_5, eg_q0_5⟩ := h9
  obtain ⟨v9, fs9, rfl, h9, hp7⟩ := okL_i hp6
  obtain ⟨q0_6, rfl⟩ := h9
  obtain ⟨v9, fs9, rfl, h9, hp8⟩ := okL_i hp7
  obtain ⟨q0_7, rfl⟩ := h9
  obtain ⟨v9, fs9, rfl, h9, hp9⟩ := okL_i hp8
  obtain ⟨q0_8, rfl⟩ := h9
  obtain ⟨v9, fs9, rfl, h9, hp10⟩ := okL_i hp9
  obtain ⟨q0_9, rfl⟩ := h9
  obtain ⟨v9, fs9, rfl, h9, hp11⟩ := okL_i hp10
  obtain ⟨q0_10, rfl, l_q0_10, u_q0_10⟩ := h9
  obtain ⟨v9, fs9, rfl, h9, hp12⟩ := okL_i hp11
  obtain ⟨q0_11, rfl⟩ := h9
  obtain ⟨v9, fs9, rfl, h9, hp13⟩ := okL_i hp12
  obtain ⟨q0_12, rfl⟩ := h9
  obtain ⟨v9, fs9, rfl, h9, hp14⟩ := okL_i hp13
  obtain ⟨q0_13, rfl⟩ := h9
  obtain ⟨v9, fs9, rfl, h9, hp15⟩ := okL_i hp14
  obtain ⟨q0_14, rfl⟩ := h9
  obtain ⟨v9, fs9, rfl, h9, hp16⟩ := okL_i hp15
  obtain ⟨q0_15, rfl, t_q0_15⟩ := h9
  obtain ⟨v9, fs9, rfl, h9, hp17⟩ := okL_i hp16
  obtain ⟨q0_16, rfl⟩ := h9
  obtain ⟨v9, fs9, rfl, h9, hp18⟩ := okL_i hp17
  obtain ⟨q0_17, rfl, t_q0_17⟩ := h9
  obtain ⟨v9, fs9, rfl, h9, hp19⟩ := okL_i hp18
  obtain ⟨q0_18, rfl, t_q0_18⟩ := h9
  obtain ⟨v9, fs9, rfl, h9, hp20⟩ := okL_i hp19
  obtain ⟨q0_19, rfl, t_q0_19⟩ := h9
  obtain ⟨v9, fs9, rfl, h9, hp21⟩ := okL_i hp20
  obtain ⟨q0_20, rfl, l_q0_20, u_q0_20⟩ := h9
  obtain ⟨v9, fs9, rfl, h9, hp22⟩ := okL_i hp21
  obtain ⟨q0_21, rfl, t_q0_21⟩ := h9
  obtain ⟨v9, fs9, rfl, h9, hp23⟩ := okL_i hp22
  obtain ⟨q0_22, rfl, t_q0_22⟩ := h9
  obtain ⟨v9, fs9, rfl, h9, hp24⟩ := okL_i hp23
  obtain ⟨q0_23, rfl⟩ := h9
  obtain ⟨v9, fs9, rfl, h9, hp25⟩ := okL_i hp24
  obtain ⟨q0_24, rfl⟩ := h9
  obtain ⟨v9, fs9, rfl, h9, hp26⟩ := okL_i hp25
  obtain ⟨q0_25, rfl⟩ := h9
  obtain ⟨v9, fs9, rfl, h9, hp27⟩ := okL_i hp26
  obtain ⟨q0_26, rfl, t_q0_26⟩ := h9
  obtain ⟨v9, fs9, rfl, h9, hp28⟩ := okL_i hp27
  obtain ⟨q0_27, rfl, t_q0_27⟩ := h9
  obtain ⟨v9, fs9, rfl, h9, hp29⟩ := okL_i hp28
  obtain ⟨q0_28, rfl, t_q0_28⟩ := h9
  obtain ⟨v9, fs9, rfl, h9, hp30⟩ := okL_i hp29
  obtain ⟨q0_29, rfl, t_q0_29⟩ := h9
  obtain ⟨v9, fs9, rfl, h9, hp31⟩ := okL_i hp30
  obtain ⟨q0_30, rfl, t_q0_30⟩ := h9
  obtain ⟨v9, fs9, rfl, h9, hp32⟩ := okL_i hp31
  obtain ⟨q0_31, rfl, t_q0_31⟩ := h9
  obtain ⟨v9, fs9, rfl, h9, hp33⟩ := okL_i hp32
  obtain ⟨q0_32, rfl⟩ := h9
  obtain ⟨v9, fs9, rfl, h9, hp34⟩ := okL_i hp33
  obtain ⟨q0_33, rfl, t_q0_33⟩ := h9
  obtain ⟨v9, fs9, rfl, h9, hp35⟩ := okL_i hp34
  obtain ⟨q0_34, rfl, t_q0_34⟩ := h9
  obtain ⟨v9, fs9, rfl, h9, hp36⟩ := okL_i hp35
  obtain ⟨q0_35, rfl, t_q0_35⟩ := h9
  have hpz := okL_z hp36
  subst hpz
  have hH : HT D cs A T (a0 :: O) ((a0, .inr (12, [.int q0_0, .ref q0_1, .ref q0_2, .ref q0_3, .ref q0_4, .int q0_5, .int q0_6, .int q0_7, .int q0_8, .int q0_9, .int q0_10, .int q0_11, .int q0_12, .int q0_13, .int q0_14, .ref q0_15, .int q0_16, .ref q0_17, .ref q0_18, .ref q0_19, .int q0_20, .ref q0_21, .ref q0_22, .int q0_23, .int q0_24, .int q0_25, .ref q0_26, .ref q0_27, .ref q0_28, .ref q0_29, .ref q0_30, .ref q0_31, .int q0_32, .ref q0_33, .ref q0_34, .ref q0_35])) :: X) H := hH
  have hO : okO T (a0 :: O) [1, 8, 9] := okO.cons (hO0.sub (by decide)) t_a0 (by decide)
  obtain ⟨e9, hs9, hH⟩ := HT.takeA hH t_q0_1 (nm_c (tag_ne t_q0_1 t_a0 (by first | decide | exact fun q => absurd (show 8 = 22 from congrArg Prod.fst q) (by decide))) (hO0.no t_q0_1 (by decide)))
  obtain ⟨f1, rfl, s_f1, g_f1⟩ : ∃ f : Nat → Int32, e9 = .inl (cs.2.1, 3906, .inl f) ∧ B8 3906 f ∧ (3906 = 3906 → f 1 = nI (hg / 6) ∧ f 2 = nI (hg % 6)) := hs9
  have g_f1 := g_f1 rfl
  have hO : okO T (q0_1 :: a0 :: O) [1] := okO.cons (hO.sub (by decide)) t_q0_1 (by decide)
  obtain ⟨e9, hs9, hH⟩ := HT.takeA hH t_q0_17 (nm_c (tag_ne t_q0_17 t_q0_1 (fun q => absurd (show 9 = 8 from congrArg Prod.fst q) (by decide))) (nm_c (tag_ne t_q0_17 t_a0 (fun q => absurd (show 9 = 22 from congrArg Prod.fst q) (by decide))) (hO0.no t_q0_17 (by decide))))
  obtain ⟨f17, rfl, c_f17⟩ : ∃ f : Nat → Int32, e9 = .inl (cs.2.1, 14, .inl f) ∧ ∀ j, cp 1 (f j) := hs9
  have hO : okO T (q0_17 :: q0_1 :: a0 :: O) [1] := okO.cons (hO.sub (by decide)) t_q0_17 (by decide)
  obtain ⟨e9, hs9, hH⟩ := HT.takeA hH t_q0_18 (nm_c (tag_ne t_q0_18 t_q0_17 (by decide)) (nm_c (tag_ne t_q0_18 t_q0_1 (fun q => absurd (show 9 = 8 from congrArg Prod.fst q) (by decide))) (nm_c (tag_ne t_q0_18 t_a0 (fun q => absurd (show 9 = 22 from congrArg Prod.fst q) (by decide))) (hO0.no t_q0_18 (by decide)))))
  obtain ⟨f18, rfl, c_f18⟩ : ∃ f : Nat → Int32, e9 = .inl (cs.2.1, 14, .inl f) ∧ ∀ j, cp 8 (f j) := hs9
  have hO : okO T (q0_18 :: q0_17 :: q0_1 :: a0 :: O) [1] := okO.cons (hO.sub (by decide)) t_q0_18 (by decide)
  refine lv_iconst (v := 0) hx hb dX12_laysWay_0 (by decide) ?_
  have J2 : ∀ (n : Nat) (p2_2 : Int32) (g2_0 : Nat → Int32) (H : Heap) (locs : List Loc) (ls : Array Slot), (14 - p2_2.toInt).toNat = n → (∀ j, cp 8 (g2_0 j)) → (0 ≤ p2_2.toInt) → (p2_2.toInt ≤ 14) → (LW0 x1 g2_0 p2_2.toInt.toNat) → HT D cs A T (q0_18 :: q0_17 :: q0_1 :: a0 :: O) ((q0_18, .inl (cs.2.1, 14, .inl g2_0)) :: (q0_17, .inl (cs.2.1, 14, .inl f17)) :: (q0_1, .inl (cs.2.1, 3906, .inl f1)) :: (a0, .inr (12, [.int q0_0, .ref q0_1, .ref q0_2, .ref q0_3, .ref q0_4, .int q0_5, .int q0_6, .int q0_7, .int q0_8, .int q0_9, .int q0_10, .int q0_11, .int q0_12, .int q0_13, .int q0_14, .ref q0_15, .int q0_16, .ref q0_17, .ref q0_18, .ref q0_19, .int q0_20, .ref q0_21, .ref q0_22, .int q0_23, .int q0_24, .int q0_25, .ref q0_26, .ref q0_27, .ref q0_28, .ref q0_29, .ref q0_30, .ref q0_31, .int q0_32, .ref q0_33, .ref q0_34, .ref q0_35])) :: X) H → va_S A s.heap H locs → lv_has ls 5 [(2, .int p2_2), (0, .ref a0), (1, .int x1)] → W p l e { frames := 2, cells := 0, slots := 0, locals := 45 } s m [.ref a0, .int x1].toArray below meth c H locs 0 0 (MQ below (Ti D cs (fun r u => u = (T, O, X) ∧ 0 ≤ r.toInt ∧ r.toInt ≤ 1) A) [.ref a0, .int x1].toArray s 0 0 A) (F0 m 2 ls []) := by
    intro n
    induction n using Nat.strongRecOn with
    | _ n ih2 =>
      intro p2_2 g2_0 H locs ls hm2 c_g2_0 l_p2_2 u_p2_2 i2w hH hS hl
      refine lv_iload_n hx hb dX12_laysWay_2 rfl (lv_at hl 0 rfl) ?_
      refine lv_aload_n hx hb dX12_laysWay_3 rfl (lv_at hl 1 rfl) ?_
      refine x_getk (ci := 12) (C := RX12) (F := TX12) (N := 36) (v := .ref q0_1) hx hb hts uX12 hown hkb hH 3 rfl rfl 1 (by decide) rfl kw_1224 (fun _ h9 => h9) dX12_laysWay_4 ?_
      refine lv_iconst (v := 1) hx hb dX12_laysWay_7 (by decide) ?_
      refine xa_ild hx hb hkb hH 2 rfl (by decide) (by decide) dX12_laysWay_8 ?_
      refine lv_topi (fun v8 ev8 => ?_)
      have tv8 : v8 = f1 1 := by rw [ev8]; rfl
      have bv8 : 0 ≤ v8.toInt ∧ v8.toInt ≤ 14 := by rw [ev8]; exact (s_f1.at (by decide) 1).1 (by decide)
      have hv8 : v8.toInt = ((hg / 6 : Nat) : Int) := by rw [tv8, g_f1.1]; exact nI_toInt (by omega)
      refine lv_icmp_ge (tgt := 46) hx hb dX12_laysWay_9 (by decide) (fun c9 => ?_) (fun c9 => ?_)
      · skip
        have fuc9 := full_i p2_2
        have fvc9 := full_i v8
        have tc9 := g_le c9
        refine lv_iconst (v := 1) hx hb dX12_laysWay_46 (by decide) ?_
        have J48 : ∀ (n : Nat) (p48_2 : Int32) (g48_0 : Nat → Int32) (H : Heap) (locs : List Loc) (ls : Array Slot), (14 - p48_2.toInt).toNat = n → (∀ j, cp 8 (g48_0 j)) → (1 ≤ p48_2.toInt) → (p48_2.toInt ≤ 14) → (LW (hg / 6) x1 f17 g48_0 (p48_2.toInt - 1)) → HT D cs A T (q0_18 :: q0_17 :: q0_1 :: a0 :: O) ((q0_18, .inl (cs.2.1, 14, .inl g48_0)) :: (q0_17, .inl (cs.2.1, 14, .inl f17)) :: (q0_1, .inl (cs.2.1, 3906, .inl f1)) :: (a0, .inr (12, [.int q0_0, .ref q0_1, .ref q0_2, .ref q0_3, .ref q0_4, .int q0_5, .int q0_6, .int q0_7, .int q0_8, .int q0_9, .int q0_10, .int q0_11, .int q0_12, .int q0_13, .int q0_14, .ref q0_15, .int q0_16, .ref q0_17, .ref q0_18, .ref q0_19, .int q0_20, .ref q0_21, .ref q0_22, .int q0_23, .int q0_24, .int q0_25, .ref q0_26, .ref q0_27, .ref q0_28, .ref q0_29, .ref q0_30, .ref q0_31, .int q0_32, .ref q0_33, .ref q0_34, .ref q0_35])) :: X) H → va_S A s.heap H locs → lv_has ls 5 [(2, .int p48_2), (0, .ref a0), (1, .int x1)] → W p l e { frames := 2, cells := 0, slots := 0, locals := 45 } s m [.ref a0, .int x1].toArray below meth c H locs 0 0 (MQ below (Ti D cs (fun r u => u = (T, O, X) ∧ 0 ≤ r.toInt ∧ r.toInt ≤ 1) A) [.ref a0, .int x1].toArray s 0 0 A) (F0 m 48 ls []) := by
          intro n
          induction n using Nat.strongRecOn with
          | _ n ih48 =>
            intro p48_2 g48_0 H locs ls hm48 c_g48_0 l_p48_2 u_p48_2 i48w hH hS hl
            refine lv_iload_n hx hb dX12_laysWay_48 rfl (lv_at hl 0 rfl) ?_
            refine lv_aload_n hx hb dX12_laysWay_49 rfl (lv_at hl 1 rfl) ?_
            refine x_getk (ci := 12) (C := RX12) (F := TX12) (N := 36) (v := .ref q0_1) hx hb hts uX12 hown hkb hH 3 rfl rfl 1 (by decide) rfl kw_1224 (fun _ h9 => h9) dX12_laysWay_50 ?_
            refine lv_iconst (v := 1) hx hb dX12_laysWay_53 (by decide) ?_
            refine xa_ild hx hb hkb hH 2 rfl (by decide) (by decide) dX12_laysWay_54 ?_
            refine lv_topi (fun v54 ev54 => ?_)
            have tv54 : v54 = f1 1 := by rw [ev54]; rfl
            have bv54 : 0 ≤ v54.toInt ∧ v54.toInt ≤ 14 := by rw [ev54]; exact (s_f1.at (by decide) 1).1 (by decide)
            have hv54 : v54.toInt = ((hg / 6 : Nat) : Int) := by rw [tv54, g_f1.1]; exact nI_toInt (by omega)
            refine lv_icmp_ge (tgt := 128) hx hb dX12_laysWay_55 (by decide) (fun c55 => ?_) (fun c55 => ?_)
            · skip
              have fuc55 := full_i p48_2
              have fvc55 := full_i v54
              have tc55 := g_le c55
              refine lv_bipush (v := 99) hx hb dX12_laysWay_128 (by decide) ?_
              refine lv_istore_n (lv' := [(2, .int 99), (0, .ref a0), (1, .int x1)]) hx hb dX12_laysWay_130 rfl hl (by decide) rfl (fun ls hl => ?_)
              refine lv_iconst (v := 0) hx hb dX12_laysWay_131 (by decide) ?_
              have J133 : ∀ (n : Nat) (p133_3 : Int32) (p133_2 : Int32) (H : Heap) (locs : List Loc) (ls : Array Slot), (14 - p133_3.toInt).toNat = n → (0 ≤ p133_3.toInt) → (p133_3.toInt ≤ 14) → (p133_2.toInt ≤ 99) → (LB (hg / 6) (f1 4) g48_0 p133_2) → (p133_2.toInt ≤ 99) → HT D cs A T (q0_18 :: q0_17 :: q0_1 :: a0 :: O) ((q0_18, .inl (cs.2.1, 14, .inl g48_0)) :: (q0_17, .inl (cs.2.1, 14, .inl f17)) :: (q0_1, .inl (cs.2.1, 3906, .inl f1)) :: (a0, .inr (12, [.int q0_0, .ref q0_1, .ref q0_2, .ref q0_3, .ref q0_4, .int q0_5, .int q0_6, .int q0_7, .int q0_8, .int q0_9, .int q0_10, .int q0_11, .int q0_12, .int q0_13, .int q0_14, .ref q0_15, .int q0_16, .ref q0_17, .ref q0_18, .ref q0_19, .int q0_20, .ref q0_21, .ref q0_22, .int q0_23, .int q0_24, .int q0_25, .ref q0_26, .ref q0_27, .ref q0_28, .ref q0_29, .ref q0_30, .ref q0_31, .int q0_32, .ref q0_33, .ref q0_34, .ref q0_35])) :: X) H → va_S A s.heap H locs → lv_has ls 5 [(3, .int p133_3), (2, .int p133_2), (0, .ref a0), (1, .int x1)] → W p l e { frames := 2, cells := 0, slots := 0, locals := 45 } s m [.ref a0, .int x1].toArray below meth c H locs 0 0 (MQ below (Ti D cs (fun r u => u = (T, O, X) ∧ 0 ≤ r.toInt ∧ r.toInt ≤ 1) A) [.ref a0, .int x1].toArray s 0 0 A) (F0 m 133 ls []) := by
                intro n
                induction n using Nat.strongRecOn with
                | _ n ih133 =>
                  intro p133_3 p133_2 H locs ls hm133 l_p133_3 u_p133_3 u_p133_2 i133b i133c hH hS hl
                  refine lv_iload_n hx hb dX12_laysWay_133 rfl (lv_at hl 0 rfl) ?_
                  refine lv_aload_n hx hb dX12_laysWay_134 rfl (lv_at hl 2 rfl) ?_
                  refine x_getk (ci := 12) (C := RX12) (F := TX12) (N := 36) (v := .ref q0_1) hx hb hts uX12 hown hkb hH 3 rfl rfl 1 (by decide) rfl kw_1224 (fun _ h9 => h9) dX12_laysWay_135 ?_
                  refine lv_iconst (v := 1) hx hb dX12_laysWay_138 (by decide) ?_
                  refine xa_ild hx hb hkb hH 2 rfl (by decide) (by decide) dX12_laysWay_139 ?_
                  refine lv_topi (fun v139 ev139 => ?_)
                  have tv139 : v139 = f1 1 := by rw [ev139]; rfl
                  have bv139 : 0 ≤ v139.toInt ∧ v139.toInt ≤ 14 := by rw [ev139]; exact (s_f1.at (by decide) 1).1 (by decide)
                  have hv139 : v139.toInt = ((hg / 6 : Nat) : Int) := by rw [tv139, g_f1.1]; exact nI_toInt (by omega)
                  refine lv_icmp_ge (tgt := 180) hx hb dX12_laysWay_140 (by decide) (fun c140 => ?_) (fun c140 => ?_)
                  · skip
                    have fuc140 := full_i p133_3
                    have fvc140 := full_i v139
                    have tc140 := g_le c140
                    refine lv_iload_n hx hb dX12_laysWay_180 rfl (lv_at hl 1 rfl) ?_
                    refine lv_bipush (v := 99) hx hb dX12_laysWay_181 (by decide) ?_
                    refine lv_icmp_ne (tgt := 188) hx hb dX12_laysWay_183 (by decide) (fun c183 => ?_) (fun c183 => ?_)
                    · skip
                      have tc183 := f_ne (k := 99) (by decide) c183
                      refine lv_aload_n hx hb dX12_laysWay_188 rfl (lv_at hl 2 rfl) ?_
                      refine lv_aload_n hx hb dX12_laysWay_189 rfl (lv_at hl 2 rfl) ?_
                      refine x_getk (ci := 12) (C := RX12) (F := TX12) (N := 36) (v := .ref q0_1) hx hb hts uX12 hown hkb hH 3 rfl rfl 1 (by decide) rfl kw_1224 (fun _ h9 => h9) dX12_laysWay_190 ?_
                      refine lv_iconst (v := 4) hx hb dX12_laysWay_193 (by decide) ?_
                      refine xa_ild hx hb hkb hH 2 rfl (by decide) (by decide) dX12_laysWay_194 ?_
                      refine lv_topi (fun v194 ev194 => ?_)
                      have tv194 : v194 = f1 4 := by rw [ev194]; rfl
                      have bv194 : 0 ≤ v194.toInt ∧ v194.toInt ≤ 16383 := by rw [ev194]; exact (s_f1.at (by decide) 4).2.2.1 (by decide)
                      refine lv_iload_n hx hb dX12_laysWay_195 rfl (lv_at hl 3 rfl) ?_
                      refine lv_iand hx hb dX12_laysWay_196 ?_
                      refine lv_topi (fun v196 ev196 => ?_)
                      have tv196 : 0 ≤ v196.toInt ∧ v196.toInt ≤ v194.toInt := by rw [ev196]; exact and_l (by omega)
                      have ttv196 : 0 ≤ v196.toInt ∧ v196.toInt ≤ x1.toInt := by rw [ev196]; exact and_r (by omega)
                      refine lv_iload_n hx hb dX12_laysWay_197 rfl (lv_at hl 1 rfl) ?_
                      refine tk_i hH hS hA (tr_V (n := 2) (As := [.int v196, .int p133_2]) hx hb hml hown hts hkb hH (ox_c (ox_c (ox_c (ox_c hOX)))) hks hE hS hA (s_M_nearer l D cs kf T O X a0 hg mq v196 p133_2 g48_0 f17 f1 (.int q0_0) q0_1 (.ref q0_2) (.ref q0_3) (.ref q0_4) (.int q0_5) (.int q0_6) (.int q0_7) (.int q0_8) (.int q0_9) (.int q0_10) (.int q0_11) (.int q0_12) (.int q0_13) (.int q0_14) (.ref q0_15) (.int q0_16) q0_17 q0_18 [.ref q0_19, .int q0_20, .ref q0_21, .ref q0_22, .int q0_23, .int q0_24, .int q0_25, .ref q0_26, .ref q0_27, .ref q0_28, .ref q0_29, .ref q0_30, .ref q0_31, .int q0_32, .ref q0_33, .ref q0_34, .ref q0_35] t_a0 b_hg s_f1 g_f1 t_q0_1 t_q0_17 t_q0_18 (hO.sub (by decide))) kw_1568 kw_1570 ks_84 kw_13 kw_1571 (by decide +kernel) ⟨Nat.le_of_ble_eq_true rfl, Nat.le_of_ble_eq_true rfl⟩ (x_recv (ci := 12) hkb hH 3 rfl rfl) rfl rfl hl.1 (Nat.le_of_ble_eq_true rfl) dX12_laysWay_198 ⟨Nat.le_of_ble_eq_true rfl, Nat.le_of_ble_eq_true rfl⟩) (fun v198 u H locs hz9 hH hS => ?_)
                      obtain ⟨rfl, l_v198, u_v198, x_v1980⟩ := hz9
                      have hH : HT D cs A T (q0_18 :: q0_17 :: q0_1 :: a0 :: O) ((q0_18, .inl (cs.2.1, 14, .inl g48_0)) :: (q0_17, .inl (cs.2.1, 14, .inl f17)) :: (q0_1, .inl (cs.2.1, 3906, .inl f1)) :: (a0, .inr (12, [.int q0_0, .ref q0_1, .ref q0_2, .ref q0_3, .ref q0_4, .int q0_5, .int q0_6, .int q0_7, .int q0_8, .int q0_9, .int q0_10, .int q0_11, .int q0_12, .int q0_13, .int q0_14, .ref q0_15, .int q0_16, .ref q0_17, .ref q0_18, .ref q0_19, .int q0_20, .ref q0_21, .ref q0_22, .int q0_23, .int q0_24, .int q0_25, .ref q0_26, .ref q0_27, .ref q0_28, .ref q0_29, .ref q0_30, .ref q0_31, .int q0_32, .ref q0_33, .ref q0_34, .ref q0_35])) :: X) H := hH
                      refine W.widen (k := 0) (n := 0) (Nat.le_of_ble_eq_true rfl) (Nat.le_of_ble_eq_true rfl) ?_
                      refine lv_istore_n (lv' := [(3, .int v198), (2, .int p133_2), (0, .ref a0), (1, .int x1)]) hx hb dX12_laysWay_201 rfl hl (by decide) rfl (fun ls hl => ?_)
                      have hb4 : 0 ≤ (f1 4).toInt := by rw [← tv194]; omega
                      have hn9 := LB_nr (by omega) (i48w.le (by omega)) i133b tc183 hb4 (by omega) (show v196 = f1 4 &&& x1 by rw [ev196, tv194]) x_v1980
                      refine lv_aload_n hx hb dX12_laysWay_202 rfl (lv_at hl 2 rfl) ?_
                      refine lv_iconst (v := 0) hx hb dX12_laysWay_203 (by decide) ?_
                      refine x_putk (ci := 12) (v := .int 0) (ty := tyX12 20) (C := RX12) (F := TX12) (N := 36) hx hb hts uX12 tyX12 tyX12_ok nmX12 hown hkb hH hS 3 rfl rfl 20 (by decide) kw_1243 (fun _ h9 => h9) rfl (tyX12_ok 20 (by decide)) rfl rfl (Nat.le_of_ble_eq_true rfl) dX12_laysWay_204 (fun H locs hH hS => ?_)
                      have hH : HT D cs A T (q0_18 :: q0_17 :: q0_1 :: a0 :: O) ((q0_18, .inl (cs.2.1, 14, .inl g48_0)) :: (q0_17, .inl (cs.2.1, 14, .inl f17)) :: (q0_1, .inl (cs.2.1, 3906, .inl f1)) :: (a0, .inr (12, [.int q0_0, .ref q0_1, .ref q0_2, .ref q0_3, .ref q0_4, .int q0_5, .int q0_6, .int q0_7, .int q0_8, .int q0_9, .int q0_10, .int q0_11, .int q0_12, .int q0_13, .int q0_14, .ref q0_15, .int q0_16, .ref q0_17, .ref q0_18, .ref q0_19, .int 0, .ref q0_21, .ref q0_22, .int q0_23, .int q0_24, .int q0_25, .ref q0_26, .ref q0_27, .ref q0_28, .ref q0_29, .ref q0_30, .ref q0_31, .int q0_32, .ref q0_33, .ref q0_34, .ref q0_35])) :: X) H := hH
                      refine lv_iload_n hx hb dX12_laysWay_207 rfl (lv_at hl 1 rfl) ?_
                      have J210 : ∀ (n : Nat) (p210_4 : Int32) (p210_3 : Int32) (f210_420 : Int32) (H : Heap) (locs : List Loc) (ls : Array Slot), (p210_4.toInt + 1).toNat = n → (-1 ≤ p210_4.toInt) → (p210_4.toInt ≤ 13) → (0 ≤ p210_3.toInt) → (p210_3.toInt ≤ 13) → (0 ≤ f210_420.toInt) → (f210_420.toInt ≤ 14) → (p210_4.toInt + f210_420.toInt = p133_2.toInt) → (p210_4.toInt = -1 ∨ (0 ≤ p210_3.toInt ∧ p210_3.toInt < ((hg / 6 : Nat) : Int) ∧ (g48_0 p210_3.toInt.toNat).toInt = p210_4.toInt)) → HT D cs A T (q0_18 :: q0_17 :: q0_1 :: a0 :: O) ((q0_18, .inl (cs.2.1, 14, .inl g48_0)) :: (q0_17, .inl (cs.2.1, 14, .inl f17)) :: (q0_1, .inl (cs.2.1, 3906, .inl f1)) :: (a0, .inr (12, [.int q0_0, .ref q0_1, .ref q0_2, .ref q0_3, .ref q0_4, .int q0_5, .int q0_6, .int q0_7, .int q0_8, .int q0_9, .int q0_10, .int q0_11, .int q0_12, .int q0_13, .int q0_14, .ref q0_15, .int q0_16, .ref q0_17, .ref q0_18, .ref q0_19, .int f210_420, .ref q0_21, .ref q0_22, .int q0_23, .int q0_24, .int q0_25, .ref q0_26, .ref q0_27, .ref q0_28, .ref q0_29, .ref q0_30, .ref q0_31, .int q0_32, .ref q0_33, .ref q0_34, .ref q0_35])) :: X) H → va_S A s.heap H locs → lv_has ls 5 [(4, .int p210_4), (3, .int p210_3), (0, .ref a0), (1, .int x1)] → W p l e { frames := 2, cells := 0, slots := 0, locals := 45 } s m [.ref a0, .int x1].toArray below meth c H locs 0 0 (MQ below (Ti D cs (fun r u => u = (T, O, X) ∧ 0 ≤ r.toInt ∧ r.toInt ≤ 1) A) [.ref a0, .int x1].toArray s 0 0 A) (F0 m 210 ls []) := by
                        intro n
                        induction n using Nat.strongRecOn with
                        | _ n ih210 =>
                          intro p210_4 p210_3 f210_420 H locs ls hm210 l_p210_4 u_p210_4 l_p210_3 u_p210_3 l_f210_420 u_f210_420 i210a i210b hH hS hl
                          refine lv_iload hx hb dX12_laysWay_210 (lv_at hl 0 rfl) ?_
                          refine lv_if_lt (tgt := 263) hx hb dX12_laysWay_212 (by decide) (fun c212 => ?_) (fun c212 => ?_)
                          · skip
                            have tc212 := f_lt (k := 0) (by decide) c212
                            refine lv_iconst (v := 1) hx hb dX12_laysWay_263 (by decide) ?_
                            have hH : HT D cs A T (q0_17 :: q0_1 :: a0 :: O) ((q0_17, .inl (cs.2.1, 14, .inl f17)) :: (q0_1, .inl (cs.2.1, 3906, .inl f1)) :: (a0, .inr (12, [.int q0_0, .ref q0_1, .ref q0_2, .ref q0_3, .ref q0_4, .int q0_5, .int q0_6, .int q0_7, .int q0_8, .int q0_9, .int q0_10, .int q0_11, .int q0_12, .int q0_13, .int q0_14, .ref q0_15, .int q0_16, .ref q0_17, .ref q0_18, .ref q0_19, .int f210_420, .ref q0_21, .ref q0_22, .int q0_23, .int q0_24, .int q0_25, .ref q0_26, .ref q0_27, .ref q0_28, .ref q0_29, .ref q0_30, .ref q0_31, .int q0_32, .ref q0_33, .ref q0_34, .ref q0_35])) :: X) H := HT.layA hH t_q0_18 (show sp cs T (9, 14, 8) _ from ⟨_, rfl, c_g48_0⟩)
                            have hH : HT D cs A T (q0_1 :: a0 :: O) ((q0_1, .inl (cs.2.1, 3906, .inl f1)) :: (a0, .inr (12, [.int q0_0, .ref q0_1, .ref q0_2, .ref q0_3, .ref q0_4, .int q0_5, .int q0_6, .int q0_7, .int q0_8, .int q0_9, .int q0_10, .int q0_11, .int q0_12, .int q0_13, .int q0_14, .ref q0_15, .int q0_16, .ref q0_17, .ref q0_18, .ref q0_19, .int f210_420, .ref q0_21, .ref q0_22, .int q0_23, .int q0_24, .int q0_25, .ref q0_26, .ref q0_27, .ref q0_28, .ref q0_29, .ref q0_30, .ref q0_31, .int q0_32, .ref q0_33, .ref q0_34, .ref q0_35])) :: X) H := HT.layA hH t_q0_17 (show sp cs T (9, 14, 1) _ from ⟨_, rfl, c_f17⟩)
                            have hH : HT D cs A T (a0 :: O) ((a0, .inr (12, [.int q0_0, .ref q0_1, .ref q0_2, .ref q0_3, .ref q0_4, .int q0_5, .int q0_6, .int q0_7, .int q0_8, .int q0_9, .int q0_10, .int q0_11, .int q0_12, .int q0_13, .int q0_14, .ref q0_15, .int q0_16, .ref q0_17, .ref q0_18, .ref q0_19, .int f210_420, .ref q0_21, .ref q0_22, .int q0_23, .int q0_24, .int q0_25, .ref q0_26, .ref q0_27, .ref q0_28, .ref q0_29, .ref q0_30, .ref q0_31, .int q0_32, .ref q0_33, .ref q0_34, .ref q0_35])) :: X) H := HT.layA hH t_q0_1 (show sp cs T (8, 3906, hg) _ from ⟨_, rfl, s_f1, fun _ => g_f1⟩)
                            have hH : HT D cs A T O X H := HT.lay (ci := 12) hH t_a0 (okL_c (⟨_, rfl⟩) (okL_c (⟨_, rfl, t_q0_1⟩) (okL_c (⟨_, rfl, t_q0_2⟩) (okL_c (⟨_, rfl, t_q0_3⟩) (okL_c (⟨_, rfl, t_q0_4⟩) (okL_c (⟨_, rfl, by omega, by omega, by omega⟩) (okL_c (⟨_, rfl⟩) (okL_c (⟨_, rfl⟩) (okL_c (⟨_, rfl⟩) (okL_c (⟨_, rfl⟩) (okL_c (⟨_, rfl, by omega, by omega⟩) (okL_c (⟨_, rfl⟩) (okL_c (⟨_, rfl⟩) (okL_c (⟨_, rfl⟩) (okL_c (⟨_, rfl⟩) (okL_c (⟨_, rfl, t_q0_15⟩) (okL_c (⟨_, rfl⟩) (okL_c (⟨_, rfl, t_q0_17⟩) (okL_c (⟨_, rfl, t_q0_18⟩) (okL_c (⟨_, rfl, t_q0_19⟩) (okL_c (⟨_, rfl, by omega, by omega⟩) (okL_c (⟨_, rfl, t_q0_21⟩) (okL_c (⟨_, rfl, t_q0_22⟩) (okL_c (⟨_, rfl⟩) (okL_c (⟨_, rfl⟩) (okL_c (⟨_, rfl⟩) (okL_c (⟨_, rfl, t_q0_26⟩) (okL_c (⟨_, rfl, t_q0_27⟩) (okL_c (⟨_, rfl, t_q0_28⟩) (okL_c (⟨_, rfl, t_q0_29⟩) (okL_c (⟨_, rfl, t_q0_30⟩) (okL_c (⟨_, rfl, t_q0_31⟩) (okL_c (⟨_, rfl⟩) (okL_c (⟨_, rfl, t_q0_33⟩) (okL_c (⟨_, rfl, t_q0_34⟩) (okL_c (⟨_, rfl, t_q0_35⟩) (okL_n)))))))))))))))))))))))))))))))))))))
                            have hO := hO0
                            have z9_1 : (1 : Int32).toInt = 1 := by decide
                            exact te_z hx hb hr hlocks (by rfl) hH hS (⟨rfl, by decide, by decide⟩) dX12_laysWay_264
                          · skip
                            have tc212 := f_nlt (k := 0) (by decide) c212
                            have h210 := i210b.resolve_left (by omega)
                            refine lv_aload_n hx hb dX12_laysWay_215 rfl (lv_at hl 2 rfl) ?_
                            refine x_getk (ci := 12) (C := RX12) (F := TX12) (N := 36) (v := .ref q0_19) hx hb hts uX12 hown hkb hH 3 rfl rfl 19 (by decide) rfl kw_1242 (fun _ h9 => h9) dX12_laysWay_216 ?_
                            refine lv_aload_n hx hb dX12_laysWay_219 rfl (lv_at hl 2 rfl) ?_
                            refine x_getk (ci := 12) (C := RX12) (F := TX12) (N := 36) (v := .int f210_420) hx hb hts uX12 hown hkb hH 3 rfl rfl 20 (by decide) rfl kw_1243 (fun _ h9 => h9) dX12_laysWay_220 ?_
                            refine lv_iload_n hx hb dX12_laysWay_223 rfl (lv_at hl 1 rfl) ?_
                            refine t_ist hx hb hkb hH hS t_q0_19 (hO.no t_q0_19 (by decide)) (by omega) (by omega) (show 0 ≤ p210_3.toInt ∧ p210_3.toInt ≤ 13 from by omega) dX12_laysWay_224 (fun H locs hH hS => ?_)
                            refine lv_aload_n hx hb dX12_laysWay_225 rfl (lv_at hl 2 rfl) ?_
                            refine lv_dup hx hb dX12_laysWay_226 rfl ?_
                            refine x_getk (ci := 12) (C := RX12) (F := TX12) (N := 36) (v := .int f210_420) hx hb hts uX12 hown hkb hH 3 rfl rfl 20 (by decide) rfl kw_1243 (fun _ h9 => h9) dX12_laysWay_227 ?_
                            refine lv_iconst (v := 1) hx hb dX12_laysWay_230 (by decide) ?_
                            refine lv_iadd hx hb dX12_laysWay_231 ?_
                            refine lv_topi (fun v231 ev231 => ?_)
                            have tv231 : v231.toInt = f210_420.toInt + (1) := by rw [ev231]; exact add_i rfl (by decide : (1 : Int32).toInt = 1) (by omega) (by omega)
                            refine x_putk (ci := 12) (v := .int v231) (ty := tyX12 20) (C := RX12) (F := TX12) (N := 36) hx hb hts uX12 tyX12 tyX12_ok nmX12 hown hkb hH hS 3 rfl rfl 20 (by decide) kw_1243 (fun _ h9 => h9) rfl (tyX12_ok 20 (by decide)) rfl rfl (Nat.le_of_ble_eq_true rfl) dX12_laysWay_232 (fun H locs hH hS => ?_)
                            have hH : HT D cs A T (q0_18 :: q0_17 :: q0_1 :: a0 :: O) ((q0_18, .inl (cs.2.1, 14, .inl g48_0)) :: (q0_17, .inl (cs.2.1, 14, .inl f17)) :: (q0_1, .inl (cs.2.1, 3906, .inl f1)) :: (a0, .inr (12, [.int q0_0, .ref q0_1, .ref q0_2, .ref q0_3, .ref q0_4, .int q0_5, .int q0_6, .int q0_7, .int q0_8, .int q0_9, .int q0_10, .int q0_11, .int q0_12, .int q0_13, .int q0_14, .ref q0_15, .int q0_16, .ref q0_17, .ref q0_18, .ref q0_19, .int v231, .ref q0_21, .ref q0_22, .int q0_23, .int q0_24, .int q0_25, .ref q0_26, .ref q0_27, .ref q0_28, .ref q0_29, .ref q0_30, .ref q0_31, .int q0_32, .ref q0_33, .ref q0_34, .ref q0_35])) :: X) H := hH
                            refine lv_iload hx hb dX12_laysWay_235 (lv_at hl 0 rfl) ?_
                            refine lv_if_le (tgt := 257) hx hb dX12_laysWay_237 (by decide) (fun c237 => ?_) (fun c237 => ?_)
                            · skip
                              have tc237 := f_le (k := 0) (by decide) c237
                              obtain ⟨v257, ev257⟩ : ∃ y : Int32, y = p210_4 + (-1) := ⟨_, rfl⟩
                              have tv257 : v257.toInt = p210_4.toInt + (-1) := by rw [ev257]; exact add_i rfl (by decide) (by omega) (by omega)
                              refine lv_iinc (v := v257) (lv' := [(4, .int v257), (3, .int p210_3), (0, .ref a0), (1, .int x1)]) hx hb dX12_laysWay_257 hl (k := 0) rfl (by rw [ev257]; rfl) (by decide) rfl (fun ls hl => ?_)
                              refine lv_goto (tgt := 210) hx hb dX12_laysWay_260 (by decide) ?_
                              exact ih210 _ (by omega) v257 p210_3 v231 _ _ _ rfl (by omega) (by omega) (by omega) (by omega) (by omega) (by omega) (by omega) (by first | (refine Or.inl ?_; omega) | (refine Or.inr ⟨?_, ?_, hn9.2.2.1⟩ <;> omega) | (have hm8 := hm9.2.2; refine Or.inr ⟨hm9.1, hm9.2.1, ?_⟩; omega)) hH hS (lv_sub hl [0, 1, 2, 3] rfl)
                            · skip
                              have tc237 := f_nle (k := 0) (by decide) c237
                              refine lv_aload_n hx hb dX12_laysWay_240 rfl (lv_at hl 2 rfl) ?_
                              refine lv_aload_n hx hb dX12_laysWay_241 rfl (lv_at hl 2 rfl) ?_
                              refine x_getk (ci := 12) (C := RX12) (F := TX12) (N := 36) (v := .ref q0_17) hx hb hts uX12 hown hkb hH 3 rfl rfl 17 (by decide) rfl kw_1240 (fun _ h9 => h9) dX12_laysWay_242 ?_
                              refine lv_iload_n hx hb dX12_laysWay_245 rfl (lv_at hl 1 rfl) ?_
                              refine xa_ild hx hb hkb hH 1 rfl (by omega) (by omega) dX12_laysWay_246 ?_
                              refine lv_topi (fun v246 ev246 => ?_)
                              have tv246 : v246 = f17 p210_3.toInt.toNat := ev246
                              refine lv_iload_n hx hb dX12_laysWay_247 rfl (lv_at hl 3 rfl) ?_
                              refine lv_iand hx hb dX12_laysWay_248 ?_
                              refine lv_topi (fun v248 ev248 => ?_)
                              have tv248 : 0 ≤ v248.toInt ∧ v248.toInt ≤ x1.toInt := by rw [ev248]; exact and_r (by omega)
                              refine lv_iload hx hb dX12_laysWay_249 (lv_at hl 0 rfl) ?_
                              refine lv_iconst (v := 1) hx hb dX12_laysWay_251 (by decide) ?_
                              refine lv_isub hx hb dX12_laysWay_252 ?_
                              refine lv_topi (fun v252 ev252 => ?_)
                              have tv252 : v252.toInt = p210_4.toInt - (1) := by rw [ev252]; exact sub_i rfl (by decide : (1 : Int32).toInt = 1) (by omega) (by omega)
                              refine tk_i hH hS hA (tr_V (n := 2) (As := [.int v248, .int v252]) hx hb hml hown hts hkb hH (ox_c (ox_c (ox_c (ox_c hOX)))) hks hE hS hA (s_M_nearer l D cs kf T O X a0 hg mq v248 v252 g48_0 f17 f1 (.int q0_0) q0_1 (.ref q0_2) (.ref q0_3) (.ref q0_4) (.int q0_5) (.int q0_6) (.int q0_7) (.int q0_8) (.int q0_9) (.int q0_10) (.int q0_11) (.int q0_12) (.int q0_13) (.int q0_14) (.ref q0_15) (.int q0_16) q0_17 q0_18 [.ref q0_19, .int v231, .ref q0_21, .ref q0_22, .int q0_23, .int q0_24, .int q0_25, .ref q0_26, .ref q0_27, .ref q0_28, .ref q0_29, .ref q0_30, .ref q0_31, .int q0_32, .ref q0_33, .ref q0_34, .ref q0_35] t_a0 b_hg s_f1 g_f1 t_q0_1 t_q0_17 t_q0_18 (hO.sub (by decide))) kw_1568 kw_1570 ks_84 kw_13 kw_1571 (by decide +kernel) ⟨Nat.le_of_ble_eq_true rfl, Nat.le_of_ble_eq_true rfl⟩ (x_recv (ci := 12) hkb hH 3 rfl rfl) rfl rfl hl.1 (Nat.le_of_ble_eq_true rfl) dX12_laysWay_253 ⟨Nat.le_of_ble_eq_true rfl, Nat.le_of_ble_eq_true rfl⟩) (fun v253 u H locs hz9 hH hS => ?_)
                              obtain ⟨rfl, l_v253, u_v253, x_v2530⟩ := hz9
                              have hH : HT D cs A T (q0_18 :: q0_17 :: q0_1 :: a0 :: O) ((q0_18, .inl (cs.2.1, 14, .inl g48_0)) :: (q0_17, .inl (cs.2.1, 14, .inl f17)) :: (q0_1, .inl (cs.2.1, 3906, .inl f1)) :: (a0, .inr (12, [.int q0_0, .ref q0_1, .ref q0_2, .ref q0_3, .ref q0_4, .int q0_5, .int q0_6, .int q0_7, .int q0_8, .int q0_9, .int q0_10, .int q0_11, .int q0_12, .int q0_13, .int q0_14, .ref q0_15, .int q0_16, .ref q0_17, .ref q0_18, .ref q0_19, .int v231, .ref q0_21, .ref q0_22, .int q0_23, .int q0_24, .int q0_25, .ref q0_26, .ref q0_27, .ref q0_28, .ref q0_29, .ref q0_30, .ref q0_31, .int q0_32, .ref q0_33, .ref q0_34, .ref q0_35])) :: X) H := hH
                              refine W.widen (k := 0) (n := 0) (Nat.le_of_ble_eq_true rfl) (Nat.le_of_ble_eq_true rfl) ?_
                              have hm9 := LW_nr (i48w.le (by omega)) h210.1 (by omega) h210.2.2 (by omega) (by omega) tv252 tv246 ev248 x_v2530
                              refine lv_istore_n (lv' := [(3, .int v253), (4, .int p210_4), (0, .ref a0), (1, .int x1)]) hx hb dX12_laysWay_256 rfl hl (by decide) rfl (fun ls hl => ?_)
                              obtain ⟨v257, ev257⟩ : ∃ y : Int32, y = p210_4 + (-1) := ⟨_, rfl⟩
                              have tv257 : v257.toInt = p210_4.toInt + (-1) := by rw [ev257]; exact add_i rfl (by decide) (by omega) (by omega)
                              refine lv_iinc (v := v257) (lv' := [(4, .int v257), (3, .int v253), (0, .ref a0), (1, .int x1)]) hx hb dX12_laysWay_257 hl (k := 1) rfl (by rw [ev257]; rfl) (by decide) rfl (fun ls hl => ?_)
                              refine lv_goto (tgt := 210) hx hb dX12_laysWay_260 (by decide) ?_
                              exact ih210 _ (by omega) v257 v253 v231 _ _ _ rfl (by omega) (by omega) (by omega) (by omega) (by omega) (by omega) (by omega) (by first | (refine Or.inl ?_; omega) | (refine Or.inr ⟨?_, ?_, hn9.2.2.1⟩ <;> omega) | (have hm8 := hm9.2.2; refine Or.inr ⟨hm9.1, hm9.2.1, ?_⟩; omega)) hH hS (lv_sub hl [0, 1, 2, 3] rfl)
                      refine lv_istore (lv' := [(4, .int p133_2), (3, .int v198), (2, .int p133_2), (0, .ref a0), (1, .int x1)]) hx hb dX12_laysWay_208 hl (by decide) rfl (fun ls hl => ?_)
                      have z_0 : (0 : Int32).toInt = 0 := by decide
                      exact J210 _ p133_2 v198 0 _ _ _ rfl (by omega) (by omega) (by omega) (by omega) (by decide) (by decide) (by omega) (by first | (refine Or.inl ?_; omega) | (refine Or.inr ⟨?_, ?_, hn9.2.2.1⟩ <;> omega) | (have hm8 := hm9.2.2; refine Or.inr ⟨hm9.1, hm9.2.1, ?_⟩; omega)) hH hS (lv_sub hl [0, 1, 3, 4] rfl)
                    · skip
                      have tc183 := f_eq (k := 99) (by decide) c183
                      refine lv_iconst (v := 0) hx hb dX12_laysWay_186 (by decide) ?_
                      have hH : HT D cs A T (q0_17 :: q0_1 :: a0 :: O) ((q0_17, .inl (cs.2.1, 14, .inl f17)) :: (q0_1, .inl (cs.2.1, 3906, .inl f1)) :: (a0, .inr (12, [.int q0_0, .ref q0_1, .ref q0_2, .ref q0_3, .ref q0_4, .int q0_5, .int q0_6, .int q0_7, .int q0_8, .int q0_9, .int q0_10, .int q0_11, .int q0_12, .int q0_13, .int q0_14, .ref q0_15, .int q0_16, .ref q0_17, .ref q0_18, .ref q0_19, .int q0_20, .ref q0_21, .ref q0_22, .int q0_23, .int q0_24, .int q0_25, .ref q0_26, .ref q0_27, .ref q0_28, .ref q0_29, .ref q0_30, .ref q0_31, .int q0_32, .ref q0_33, .ref q0_34, .ref q0_35])) :: X) H := HT.layA hH t_q0_18 (show sp cs T (9, 14, 8) _ from ⟨_, rfl, c_g48_0⟩)
                      have hH : HT D cs A T (q0_1 :: a0 :: O) ((q0_1, .inl (cs.2.1, 3906, .inl f1)) :: (a0, .inr (12, [.int q0_0, .ref q0_1, .ref q0_2, .ref q0_3, .ref q0_4, .int q0_5, .int q0_6, .int q0_7, .int q0_8, .int q0_9, .int q0_10, .int q0_11, .int q0_12, .int q0_13, .int q0_14, .ref q0_15, .int q0_16, .ref q0_17, .ref q0_18, .ref q0_19, .int q0_20, .ref q0_21, .ref q0_22, .int q0_23, .int q0_24, .int q0_25, .ref q0_26, .ref q0_27, .ref q0_28, .ref q0_29, .ref q0_30, .ref q0_31, .int q0_32, .ref q0_33, .ref q0_34, .ref q0_35])) :: X) H := HT.layA hH t_q0_17 (show sp cs T (9, 14, 1) _ from ⟨_, rfl, c_f17⟩)
                      have hH : HT D cs A T (a0 :: O) ((a0, .inr (12, [.int q0_0, .ref q0_1, .ref q0_2, .ref q0_3, .ref q0_4, .int q0_5, .int q0_6, .int q0_7, .int q0_8, .int q0_9, .int q0_10, .int q0_11, .int q0_12, .int q0_13, .int q0_14, .ref q0_15, .int q0_16, .ref q0_17, .ref q0_18, .ref q0_19, .int q0_20, .ref q0_21, .ref q0_22, .int q0_23, .int q0_24, .int q0_25, .ref q0_26, .ref q0_27, .ref q0_28, .ref q0_29, .ref q0_30, .ref q0_31, .int q0_32, .ref q0_33, .ref q0_34, .ref q0_35])) :: X) H := HT.layA hH t_q0_1 (show sp cs T (8, 3906, hg) _ from ⟨_, rfl, s_f1, fun _ => g_f1⟩)
                      have hH : HT D cs A T O X H := HT.lay (ci := 12) hH t_a0 (okL_c (⟨_, rfl⟩) (okL_c (⟨_, rfl, t_q0_1⟩) (okL_c (⟨_, rfl, t_q0_2⟩) (okL_c (⟨_, rfl, t_q0_3⟩) (okL_c (⟨_, rfl, t_q0_4⟩) (okL_c (⟨_, rfl, by omega, by omega, by omega⟩) (okL_c (⟨_, rfl⟩) (okL_c (⟨_, rfl⟩) (okL_c (⟨_, rfl⟩) (okL_c (⟨_, rfl⟩) (okL_c (⟨_, rfl, by omega, by omega⟩) (okL_c (⟨_, rfl⟩) (okL_c (⟨_, rfl⟩) (okL_c (⟨_, rfl⟩) (okL_c (⟨_, rfl⟩) (okL_c (⟨_, rfl, t_q0_15⟩) (okL_c (⟨_, rfl⟩) (okL_c (⟨_, rfl, t_q0_17⟩) (okL_c (⟨_, rfl, t_q0_18⟩) (okL_c (⟨_, rfl, t_q0_19⟩) (okL_c (⟨_, rfl, by omega, by omega⟩) (okL_c (⟨_, rfl, t_q0_21⟩) (okL_c (⟨_, rfl, t_q0_22⟩) (okL_c (⟨_, rfl⟩) (okL_c (⟨_, rfl⟩) (okL_c (⟨_, rfl⟩) (okL_c (⟨_, rfl, t_q0_26⟩) (okL_c (⟨_, rfl, t_q0_27⟩) (okL_c (⟨_, rfl, t_q0_28⟩) (okL_c (⟨_, rfl, t_q0_29⟩) (okL_c (⟨_, rfl, t_q0_30⟩) (okL_c (⟨_, rfl, t_q0_31⟩) (okL_c (⟨_, rfl⟩) (okL_c (⟨_, rfl, t_q0_33⟩) (okL_c (⟨_, rfl, t_q0_34⟩) (okL_c (⟨_, rfl, t_q0_35⟩) (okL_n)))))))))))))))))))))))))))))))))))))
                      have hO := hO0
                      have z9_0 : (0 : Int32).toInt = 0 := by decide
                      exact te_z hx hb hr hlocks (by rfl) hH hS (⟨rfl, by decide, by decide⟩) dX12_laysWay_187
                  · skip
                    have fuc140 := full_i p133_3
                    have fvc140 := full_i v139
                    have tc140 := g_nle c140
                    refine lv_aload_n hx hb dX12_laysWay_143 rfl (lv_at hl 2 rfl) ?_
                    refine x_getk (ci := 12) (C := RX12) (F := TX12) (N := 36) (v := .ref q0_1) hx hb hts uX12 hown hkb hH 3 rfl rfl 1 (by decide) rfl kw_1224 (fun _ h9 => h9) dX12_laysWay_144 ?_
                    refine lv_iconst (v := 4) hx hb dX12_laysWay_147 (by decide) ?_
                    refine xa_ild hx hb hkb hH 2 rfl (by decide) (by decide) dX12_laysWay_148 ?_
                    refine lv_topi (fun v148 ev148 => ?_)
                    have tv148 : v148 = f1 4 := by rw [ev148]; rfl
                    have bv148 : 0 ≤ v148.toInt ∧ v148.toInt ≤ 16383 := by rw [ev148]; exact (s_f1.at (by decide) 4).2.2.1 (by decide)
                    refine lv_i2l hx hb dX12_laysWay_149 rfl ?_
                    refine lv_iload_n hx hb dX12_laysWay_150 rfl (lv_at hl 0 rfl) ?_
                    refine tk_i hH hS hA (tr_S (n := 2) (As := [.long v148.toInt64, .int p133_3]) hx hb hml hown hts hkb hH (ox_c (ox_c (ox_c (ox_c hOX)))) hks hE hS hA (s_M_isIn2 l D cs kf T (q0_18 :: q0_17 :: q0_1 :: a0 :: O) ((q0_18, .inl (cs.2.1, 14, .inl g48_0)) :: (q0_17, .inl (cs.2.1, 14, .inl f17)) :: (q0_1, .inl (cs.2.1, 3906, .inl f1)) :: (a0, .inr (12, [.int q0_0, .ref q0_1, .ref q0_2, .ref q0_3, .ref q0_4, .int q0_5, .int q0_6, .int q0_7, .int q0_8, .int q0_9, .int q0_10, .int q0_11, .int q0_12, .int q0_13, .int q0_14, .ref q0_15, .int q0_16, .ref q0_17, .ref q0_18, .ref q0_19, .int q0_20, .ref q0_21, .ref q0_22, .int q0_23, .int q0_24, .int q0_25, .ref q0_26, .ref q0_27, .ref q0_28, .ref q0_29, .ref q0_30, .ref q0_31, .int q0_32, .ref q0_33, .ref q0_34, .ref q0_35])) :: X) v148.toInt64 p133_3  (hO.sub (by decide))) kw_1440 kw_1441 kw_13 kw_1442 (by decide +kernel) ⟨Nat.le_of_ble_eq_true rfl, Nat.le_of_ble_eq_true rfl⟩ rfl rfl hl.1 (Nat.le_of_ble_eq_true rfl) dX12_laysWay_151 ⟨Nat.le_of_ble_eq_true rfl, Nat.le_of_ble_eq_true rfl⟩) (fun v151 u H locs hz9 hH hS => ?_)
                    obtain ⟨rfl, l_v151, u_v151, x_v1510⟩ := hz9
                    have hH : HT D cs A T (q0_18 :: q0_17 :: q0_1 :: a0 :: O) ((q0_18, .inl (cs.2.1, 14, .inl g48_0)) :: (q0_17, .inl (cs.2.1, 14, .inl f17)) :: (q0_1, .inl (cs.2.1, 3906, .inl f1)) :: (a0, .inr (12, [.int q0_0, .ref q0_1, .ref q0_2, .ref q0_3, .ref q0_4, .int q0_5, .int q0_6, .int q0_7, .int q0_8, .int q0_9, .int q0_10, .int q0_11, .int q0_12, .int q0_13, .int q0_14, .ref q0_15, .int q0_16, .ref q0_17, .ref q0_18, .ref q0_19, .int q0_20, .ref q0_21, .ref q0_22, .int q0_23, .int q0_24, .int q0_25, .ref q0_26, .ref q0_27, .ref q0_28, .ref q0_29, .ref q0_30, .ref q0_31, .int q0_32, .ref q0_33, .ref q0_34, .ref q0_35])) :: X) H := hH
                    refine W.widen (k := 0) (n := 0) (Nat.le_of_ble_eq_true rfl) (Nat.le_of_ble_eq_true rfl) ?_
                    refine lv_if_eq (tgt := 174) hx hb dX12_laysWay_154 (by decide) (fun c154 => ?_) (fun c154 => ?_)
                    · skip
                      have tc154 := f_eq (k := 0) (by decide) c154
                      obtain ⟨v174, ev174⟩ : ∃ y : Int32, y = p133_3 + 1 := ⟨_, rfl⟩
                      have tv174 : v174.toInt = p133_3.toInt + (1) := by rw [ev174]; exact add_i rfl (by decide) (by omega) (by omega)
                      refine lv_iinc (v := v174) (lv' := [(3, .int v174), (2, .int p133_2), (0, .ref a0), (1, .int x1)]) hx hb dX12_laysWay_174 hl (k := 0) rfl (by rw [ev174]; rfl) (by decide) rfl (fun ls hl => ?_)
                      refine lv_goto (tgt := 133) hx hb dX12_laysWay_177 (by decide) ?_
                      exact ih133 _ (by omega) v174 p133_2 _ _ _ rfl (by omega) (by omega) (by omega) (by first | exact i133b | (refine Or.inl ?_; decide) | (refine LB_put ?_ ?_ hs9 tv172 ?_ <;> omega)) (by omega) hH hS (lv_sub hl [0, 1, 2, 3] rfl)
                    · skip
                      have tc154 := f_ne (k := 0) (by decide) c154
                      refine lv_aload_n hx hb dX12_laysWay_157 rfl (lv_at hl 2 rfl) ?_
                      refine x_getk (ci := 12) (C := RX12) (F := TX12) (N := 36) (v := .ref q0_18) hx hb hts uX12 hown hkb hH 3 rfl rfl 18 (by decide) rfl kw_1241 (fun _ h9 => h9) dX12_laysWay_158 ?_
                      refine lv_iload_n hx hb dX12_laysWay_161 rfl (lv_at hl 0 rfl) ?_
                      refine xa_ild hx hb hkb hH 0 rfl (by omega) (by omega) dX12_laysWay_162 ?_
                      refine lv_topi (fun v162 ev162 => ?_)
                      have tv162 : v162 = g48_0 p133_3.toInt.toNat := ev162
                      refine lv_iload_n hx hb dX12_laysWay_163 rfl (lv_at hl 1 rfl) ?_
                      refine lv_icmp_ge (tgt := 174) hx hb dX12_laysWay_164 (by decide) (fun c164 => ?_) (fun c164 => ?_)
                      · skip
                        have fuc164 := full_i v162
                        have fvc164 := full_i p133_2
                        have tc164 := g_le c164
                        obtain ⟨v174, ev174⟩ : ∃ y : Int32, y = p133_3 + 1 := ⟨_, rfl⟩
                        have tv174 : v174.toInt = p133_3.toInt + (1) := by rw [ev174]; exact add_i rfl (by decide) (by omega) (by omega)
                        refine lv_iinc (v := v174) (lv' := [(3, .int v174), (2, .int p133_2), (0, .ref a0), (1, .int x1)]) hx hb dX12_laysWay_174 hl (k := 0) rfl (by rw [ev174]; rfl) (by decide) rfl (fun ls hl => ?_)
                        refine lv_goto (tgt := 133) hx hb dX12_laysWay_177 (by decide) ?_
                        exact ih133 _ (by omega) v174 p133_2 _ _ _ rfl (by omega) (by omega) (by omega) (by first | exact i133b | (refine Or.inl ?_; decide) | (refine LB_put ?_ ?_ hs9 tv172 ?_ <;> omega)) (by omega) hH hS (lv_sub hl [0, 1, 2, 3] rfl)
                      · skip
                        have fuc164 := full_i v162
                        have fvc164 := full_i p133_2
                        have tc164 := g_nle c164
                        have hs9 := inF_nz x_v1510 tc154
                        rw [tv148] at hs9
                        refine lv_aload_n hx hb dX12_laysWay_167 rfl (lv_at hl 2 rfl) ?_
                        refine x_getk (ci := 12) (C := RX12) (F := TX12) (N := 36) (v := .ref q0_18) hx hb hts uX12 hown hkb hH 3 rfl rfl 18 (by decide) rfl kw_1241 (fun _ h9 => h9) dX12_laysWay_168 ?_
                        refine lv_iload_n hx hb dX12_laysWay_171 rfl (lv_at hl 0 rfl) ?_
                        refine xa_ild hx hb hkb hH 0 rfl (by omega) (by omega) dX12_laysWay_172 ?_
                        refine lv_topi (fun v172 ev172 => ?_)
                        have tv172 : v172 = g48_0 p133_3.toInt.toNat := ev172
                        have hv9 : v172.toInt = v162.toInt := by rw [tv172, tv162]
                        refine lv_istore_n (lv' := [(2, .int v172), (3, .int p133_3), (0, .ref a0), (1, .int x1)]) hx hb dX12_laysWay_173 rfl hl (by decide) rfl (fun ls hl => ?_)
                        obtain ⟨v174, ev174⟩ : ∃ y : Int32, y = p133_3 + 1 := ⟨_, rfl⟩
                        have tv174 : v174.toInt = p133_3.toInt + (1) := by rw [ev174]; exact add_i rfl (by decide) (by omega) (by omega)
                        refine lv_iinc (v := v174) (lv' := [(3, .int v174), (2, .int v172), (0, .ref a0), (1, .int x1)]) hx hb dX12_laysWay_174 hl (k := 1) rfl (by rw [ev174]; rfl) (by decide) rfl (fun ls hl => ?_)
                        refine lv_goto (tgt := 133) hx hb dX12_laysWay_177 (by decide) ?_
                        exact ih133 _ (by omega) v174 v172 _ _ _ rfl (by omega) (by omega) (by omega) (by first | exact i133b | (refine Or.inl ?_; decide) | (refine LB_put ?_ ?_ hs9 tv172 ?_ <;> omega)) (by omega) hH hS (lv_sub hl [0, 1, 2, 3] rfl)
              refine lv_istore_n (lv' := [(3, .int 0), (2, .int 99), (0, .ref a0), (1, .int x1)]) hx hb dX12_laysWay_132 rfl hl (by decide) rfl (fun ls hl => ?_)
              have z_0 : (0 : Int32).toInt = 0 := by decide
              have z_99 : (99 : Int32).toInt = 99 := by decide
              exact J133 _ 0 99 _ _ _ rfl (by decide) (by decide) (by decide) (by first | exact i133b | (refine Or.inl ?_; decide) | (refine LB_put ?_ ?_ hs9 tv172 ?_ <;> omega)) (by omega) hH hS (lv_sub hl [0, 1, 2, 3] rfl)
            · skip
              have fuc55 := full_i p48_2
              have fvc55 := full_i v54
              have tc55 := g_nle c55
              refine lv_iconst (v := 0) hx hb dX12_laysWay_58 (by decide) ?_
              have J60 : ∀ (n : Nat) (p60_3 : Int32) (g60_0 : Nat → Int32) (H : Heap) (locs : List Loc) (ls : Array Slot), (14 - p60_3.toInt).toNat = n → (∀ j, cp 8 (g60_0 j)) → (0 ≤ p60_3.toInt) → (p60_3.toInt ≤ 14) → (LW (hg / 6) x1 f17 g60_0 p48_2.toInt) → HT D cs A T (q0_18 :: q0_17 :: q0_1 :: a0 :: O) ((q0_18, .inl (cs.2.1, 14, .inl g60_0)) :: (q0_17, .inl (cs.2.1, 14, .inl f17)) :: (q0_1, .inl (cs.2.1, 3906, .inl f1)) :: (a0, .inr (12, [.int q0_0, .ref q0_1, .ref q0_2, .ref q0_3, .ref q0_4, .int q0_5, .int q0_6, .int q0_7, .int q0_8, .int q0_9, .int q0_10, .int q0_11, .int q0_12, .int q0_13, .int q0_14, .ref q0_15, .int q0_16, .ref q0_17, .ref q0_18, .ref q0_19, .int q0_20, .ref q0_21, .ref q0_22, .int q0_23, .int q0_24, .int q0_25, .ref q0_26, .ref q0_27, .ref q0_28, .ref q0_29, .ref q0_30, .ref q0_31, .int q0_32, .ref q0_33, .ref q0_34, .ref q0_35])) :: X) H → va_S A s.heap H locs → lv_has ls 5 [(3, .int p60_3), (2, .int p48_2), (0, .ref a0), (1, .int x1)] → W p l e { frames := 2, cells := 0, slots := 0, locals := 45 } s m [.ref a0, .int x1].toArray below meth c H locs 0 0 (MQ below (Ti D cs (fun r u => u = (T, O, X) ∧ 0 ≤ r.toInt ∧ r.toInt ≤ 1) A) [.ref a0, .int x1].toArray s 0 0 A) (F0 m 60 ls []) := by
                intro n
                induction n using Nat.strongRecOn with
                | _ n ih60 =>
                  intro p60_3 g60_0 H locs ls hm60 c_g60_0 l_p60_3 u_p60_3 i60w hH hS hl
                  refine lv_iload_n hx hb dX12_laysWay_60 rfl (lv_at hl 0 rfl) ?_
                  refine lv_aload_n hx hb dX12_laysWay_61 rfl (lv_at hl 2 rfl) ?_
                  refine x_getk (ci := 12) (C := RX12) (F := TX12) (N := 36) (v := .ref q0_1) hx hb hts uX12 hown hkb hH 3 rfl rfl 1 (by decide) rfl kw_1224 (fun _ h9 => h9) dX12_laysWay_62 ?_
                  refine lv_iconst (v := 1) hx hb dX12_laysWay_65 (by decide) ?_
                  refine xa_ild hx hb hkb hH 2 rfl (by decide) (by decide) dX12_laysWay_66 ?_
                  refine lv_topi (fun v66 ev66 => ?_)
                  have tv66 : v66 = f1 1 := by rw [ev66]; rfl
                  have bv66 : 0 ≤ v66.toInt ∧ v66.toInt ≤ 14 := by rw [ev66]; exact (s_f1.at (by decide) 1).1 (by decide)
                  have hv66 : v66.toInt = ((hg / 6 : Nat) : Int) := by rw [tv66, g_f1.1]; exact nI_toInt (by omega)
                  refine lv_icmp_ge (tgt := 122) hx hb dX12_laysWay_67 (by decide) (fun c67 => ?_) (fun c67 => ?_)
                  · skip
                    have fuc67 := full_i p60_3
                    have fvc67 := full_i v66
                    have tc67 := g_le c67
                    obtain ⟨v122, ev122⟩ : ∃ y : Int32, y = p48_2 + 1 := ⟨_, rfl⟩
                    have tv122 : v122.toInt = p48_2.toInt + (1) := by rw [ev122]; exact add_i rfl (by decide) (by omega) (by omega)
                    refine lv_iinc (v := v122) (lv' := [(2, .int v122), (3, .int p60_3), (0, .ref a0), (1, .int x1)]) hx hb dX12_laysWay_122 hl (k := 1) rfl (by rw [ev122]; rfl) (by decide) rfl (fun ls hl => ?_)
                    refine lv_goto (tgt := 48) hx hb dX12_laysWay_125 (by decide) ?_
                    exact ih48 _ (by omega) v122 g60_0 _ _ _ rfl c_g60_0 (by omega) (by omega) (by first | (refine (LW_of i2w ?_).le ?_; omega; decide) | (refine i60w.le ?_; omega)) hH hS (lv_sub hl [0, 2, 3] rfl)
                  · skip
                    have fuc67 := full_i p60_3
                    have fvc67 := full_i v66
                    have tc67 := g_nle c67
                    refine lv_aload_n hx hb dX12_laysWay_70 rfl (lv_at hl 2 rfl) ?_
                    refine x_getk (ci := 12) (C := RX12) (F := TX12) (N := 36) (v := .ref q0_18) hx hb hts uX12 hown hkb hH 3 rfl rfl 18 (by decide) rfl kw_1241 (fun _ h9 => h9) dX12_laysWay_71 ?_
                    refine lv_iload_n hx hb dX12_laysWay_74 rfl (lv_at hl 0 rfl) ?_
                    refine xa_ild hx hb hkb hH 0 rfl (by omega) (by omega) dX12_laysWay_75 ?_
                    refine lv_topi (fun v75 ev75 => ?_)
                    have tv75 : v75 = g60_0 p60_3.toInt.toNat := ev75
                    refine lv_bipush (v := 99) hx hb dX12_laysWay_76 (by decide) ?_
                    refine lv_icmp_ne (tgt := 116) hx hb dX12_laysWay_78 (by decide) (fun c78 => ?_) (fun c78 => ?_)
                    · skip
                      have tc78 := f_ne (k := 99) (by decide) c78
                      obtain ⟨v116, ev116⟩ : ∃ y : Int32, y = p60_3 + 1 := ⟨_, rfl⟩
                      have tv116 : v116.toInt = p60_3.toInt + (1) := by rw [ev116]; exact add_i rfl (by decide) (by omega) (by omega)
                      refine lv_iinc (v := v116) (lv' := [(3, .int v116), (2, .int p48_2), (0, .ref a0), (1, .int x1)]) hx hb dX12_laysWay_116 hl (k := 0) rfl (by rw [ev116]; rfl) (by decide) rfl (fun ls hl => ?_)
                      refine lv_goto (tgt := 60) hx hb dX12_laysWay_119 (by decide) ?_
                      exact ih60 _ (by omega) v116 g60_0 _ _ _ rfl c_g60_0 (by omega) (by omega) (by first | exact i60w | (refine i48w.le ?_; omega) | (refine LW_put i60w ?_ ?_ ?_ ?_ tv75 ?_ (inF_nz x_v840 tc87) tv96 ev98 tv101 x_v1020 tc106 eF115 <;> omega)) hH hS (lv_sub hl [0, 1, 2, 3] rfl)
                    · skip
                      have tc78 := f_eq (k := 99) (by decide) c78
                      refine lv_iload_n hx hb dX12_laysWay_81 rfl (lv_at hl 3 rfl) ?_
                      refine lv_i2l hx hb dX12_laysWay_82 rfl ?_
                      refine lv_iload_n hx hb dX12_laysWay_83 rfl (lv_at hl 0 rfl) ?_
                      refine tk_i hH hS hA (tr_S (n := 2) (As := [.long x1.toInt64, .int p60_3]) hx hb hml hown hts hkb hH (ox_c (ox_c (ox_c (ox_c hOX)))) hks hE hS hA (s_M_isIn2 l D cs kf T (q0_18 :: q0_17 :: q0_1 :: a0 :: O) ((q0_18, .inl (cs.2.1, 14, .inl g60_0)) :: (q0_17, .inl (cs.2.1, 14, .inl f17)) :: (q0_1, .inl (cs.2.1, 3906, .inl f1)) :: (a0, .inr (12, [.int q0_0, .ref q0_1, .ref q0_2, .ref q0_3, .ref q0_4, .int q0_5, .int q0_6, .int q0_7, .int q0_8, .int q0_9, .int q0_10, .int q0_11, .int q0_12, .int q0_13, .int q0_14, .ref q0_15, .int q0_16, .ref q0_17, .ref q0_18, .ref q0_19, .int q0_20, .ref q0_21, .ref q0_22, .int q0_23, .int q0_24, .int q0_25, .ref q0_26, .ref q0_27, .ref q0_28, .ref q0_29, .ref q0_30, .ref q0_31, .int q0_32, .ref q0_33, .ref q0_34, .ref q0_35])) :: X) x1.toInt64 p60_3  (hO.sub (by decide))) kw_1440 kw_1441 kw_13 kw_1442 (by decide +kernel) ⟨Nat.le_of_ble_eq_true rfl, Nat.le_of_ble_eq_true rfl⟩ rfl rfl hl.1 (Nat.le_of_ble_eq_true rfl) dX12_laysWay_84 ⟨Nat.le_of_ble_eq_true rfl, Nat.le_of_ble_eq_true rfl⟩) (fun v84 u H locs hz9 hH hS => ?_)
                      obtain ⟨rfl, l_v84, u_v84, x_v840⟩ := hz9
                      have hH : HT D cs A T (q0_18 :: q0_17 :: q0_1 :: a0 :: O) ((q0_18, .inl (cs.2.1, 14, .inl g60_0)) :: (q0_17, .inl (cs.2.1, 14, .inl f17)) :: (q0_1, .inl (cs.2.1, 3906, .inl f1)) :: (a0, .inr (12, [.int q0_0, .ref q0_1, .ref q0_2, .ref q0_3, .ref q0_4, .int q0_5, .int q0_6, .int q0_7, .int q0_8, .int q0_9, .int q0_10, .int q0_11, .int q0_12, .int q0_13, .int q0_14, .ref q0_15, .int q0_16, .ref q0_17, .ref q0_18, .ref q0_19, .int q0_20, .ref q0_21, .ref q0_22, .int q0_23, .int q0_24, .int q0_25, .ref q0_26, .ref q0_27, .ref q0_28, .ref q0_29, .ref q0_30, .ref q0_31, .int q0_32, .ref q0_33, .ref q0_34, .ref q0_35])) :: X) H := hH
                      refine W.widen (k := 0) (n := 0) (Nat.le_of_ble_eq_true rfl) (Nat.le_of_ble_eq_true rfl) ?_
                      refine lv_if_eq (tgt := 116) hx hb dX12_laysWay_87 (by decide) (fun c87 => ?_) (fun c87 => ?_)
                      · skip
                        have tc87 := f_eq (k := 0) (by decide) c87
                        obtain ⟨v116, ev116⟩ : ∃ y : Int32, y = p60_3 + 1 := ⟨_, rfl⟩
                        have tv116 : v116.toInt = p60_3.toInt + (1) := by rw [ev116]; exact add_i rfl (by decide) (by omega) (by omega)
                        refine lv_iinc (v := v116) (lv' := [(3, .int v116), (2, .int p48_2), (0, .ref a0), (1, .int x1)]) hx hb dX12_laysWay_116 hl (k := 0) rfl (by rw [ev116]; rfl) (by decide) rfl (fun ls hl => ?_)
                        refine lv_goto (tgt := 60) hx hb dX12_laysWay_119 (by decide) ?_
                        exact ih60 _ (by omega) v116 g60_0 _ _ _ rfl c_g60_0 (by omega) (by omega) (by first | exact i60w | (refine i48w.le ?_; omega) | (refine LW_put i60w ?_ ?_ ?_ ?_ tv75 ?_ (inF_nz x_v840 tc87) tv96 ev98 tv101 x_v1020 tc106 eF115 <;> omega)) hH hS (lv_sub hl [0, 1, 2, 3] rfl)
                      · skip
                        have tc87 := f_ne (k := 0) (by decide) c87
                        refine lv_aload_n hx hb dX12_laysWay_90 rfl (lv_at hl 2 rfl) ?_
                        refine lv_aload_n hx hb dX12_laysWay_91 rfl (lv_at hl 2 rfl) ?_
                        refine x_getk (ci := 12) (C := RX12) (F := TX12) (N := 36) (v := .ref q0_17) hx hb hts uX12 hown hkb hH 3 rfl rfl 17 (by decide) rfl kw_1240 (fun _ h9 => h9) dX12_laysWay_92 ?_
                        refine lv_iload_n hx hb dX12_laysWay_95 rfl (lv_at hl 0 rfl) ?_
                        refine xa_ild hx hb hkb hH 1 rfl (by omega) (by omega) dX12_laysWay_96 ?_
                        refine lv_topi (fun v96 ev96 => ?_)
                        have tv96 : v96 = f17 p60_3.toInt.toNat := ev96
                        refine lv_iload_n hx hb dX12_laysWay_97 rfl (lv_at hl 3 rfl) ?_
                        refine lv_iand hx hb dX12_laysWay_98 ?_
                        refine lv_topi (fun v98 ev98 => ?_)
                        have tv98 : 0 ≤ v98.toInt ∧ v98.toInt ≤ x1.toInt := by rw [ev98]; exact and_r (by omega)
                        refine lv_iload_n hx hb dX12_laysWay_99 rfl (lv_at hl 1 rfl) ?_
                        refine lv_iconst (v := 1) hx hb dX12_laysWay_100 (by decide) ?_
                        refine lv_isub hx hb dX12_laysWay_101 ?_
                        refine lv_topi (fun v101 ev101 => ?_)
                        have tv101 : v101.toInt = p48_2.toInt - (1) := by rw [ev101]; exact sub_i rfl (by decide : (1 : Int32).toInt = 1) (by omega) (by omega)
                        refine tk_i hH hS hA (tr_V (n := 2) (As := [.int v98, .int v101]) hx hb hml hown hts hkb hH (ox_c (ox_c (ox_c (ox_c hOX)))) hks hE hS hA (s_M_nearer l D cs kf T O X a0 hg mq v98 v101 g60_0 f17 f1 (.int q0_0) q0_1 (.ref q0_2) (.ref q0_3) (.ref q0_4) (.int q0_5) (.int q0_6) (.int q0_7) (.int q0_8) (.int q0_9) (.int q0_10) (.int q0_11) (.int q0_12) (.int q0_13) (.int q0_14) (.ref q0_15) (.int q0_16) q0_17 q0_18 [.ref q0_19, .int q0_20, .ref q0_21, .ref q0_22, .int q0_23, .int q0_24, .int q0_25, .ref q0_26, .ref q0_27, .ref q0_28, .ref q0_29, .ref q0_30, .ref q0_31, .int q0_32, .ref q0_33, .ref q0_34, .ref q0_35] t_a0 b_hg s_f1 g_f1 t_q0_1 t_q0_17 t_q0_18 (hO.sub (by decide))) kw_1568 kw_1570 ks_84 kw_13 kw_1571 (by decide +kernel) ⟨Nat.le_of_ble_eq_true rfl, Nat.le_of_ble_eq_true rfl⟩ (x_recv (ci := 12) hkb hH 3 rfl rfl) rfl rfl hl.1 (Nat.le_of_ble_eq_true rfl) dX12_laysWay_102 ⟨Nat.le_of_ble_eq_true rfl, Nat.le_of_ble_eq_true rfl⟩) (fun v102 u H locs hz9 hH hS => ?_)
                        obtain ⟨rfl, l_v102, u_v102, x_v1020⟩ := hz9
                        have hH : HT D cs A T (q0_18 :: q0_17 :: q0_1 :: a0 :: O) ((q0_18, .inl (cs.2.1, 14, .inl g60_0)) :: (q0_17, .inl (cs.2.1, 14, .inl f17)) :: (q0_1, .inl (cs.2.1, 3906, .inl f1)) :: (a0, .inr (12, [.int q0_0, .ref q0_1, .ref q0_2, .ref q0_3, .ref q0_4, .int q0_5, .int q0_6, .int q0_7, .int q0_8, .int q0_9, .int q0_10, .int q0_11, .int q0_12, .int q0_13, .int q0_14, .ref q0_15, .int q0_16, .ref q0_17, .ref q0_18, .ref q0_19, .int q0_20, .ref q0_21, .ref q0_22, .int q0_23, .int q0_24, .int q0_25, .ref q0_26, .ref q0_27, .ref q0_28, .ref q0_29, .ref q0_30, .ref q0_31, .int q0_32, .ref q0_33, .ref q0_34, .ref q0_35])) :: X) H := hH
                        refine W.widen (k := 0) (n := 0) (Nat.le_of_ble_eq_true rfl) (Nat.le_of_ble_eq_true rfl) ?_
                        refine lv_iconst (v := (-1)) hx hb dX12_laysWay_105 (by decide) ?_
                        refine lv_icmp_eq (tgt := 116) hx hb dX12_laysWay_106 (by decide) (fun c106 => ?_) (fun c106 => ?_)
                        · skip
                          have tc106 := f_eq (k := -1) (by decide) c106
                          obtain ⟨v116, ev116⟩ : ∃ y : Int32, y = p60_3 + 1 := ⟨_, rfl⟩
                          have tv116 : v116.toInt = p60_3.toInt + (1) := by rw [ev116]; exact add_i rfl (by decide) (by omega) (by omega)
                          refine lv_iinc (v := v116) (lv' := [(3, .int v116), (2, .int p48_2), (0, .ref a0), (1, .int x1)]) hx hb dX12_laysWay_116 hl (k := 0) rfl (by rw [ev116]; rfl) (by decide) rfl (fun ls hl => ?_)
                          refine lv_goto (tgt := 60) hx hb dX12_laysWay_119 (by decide) ?_
                          exact ih60 _ (by omega) v116 g60_0 _ _ _ rfl c_g60_0 (by omega) (by omega) (by first | exact i60w | (refine i48w.le ?_; omega) | (refine LW_put i60w ?_ ?_ ?_ ?_ tv75 ?_ (inF_nz x_v840 tc87) tv96 ev98 tv101 x_v1020 tc106 eF115 <;> omega)) hH hS (lv_sub hl [0, 1, 2, 3] rfl)
                        · skip
                          have tc106 := f_ne (k := -1) (by decide) c106
                          refine lv_aload_n hx hb dX12_laysWay_109 rfl (lv_at hl 2 rfl) ?_
                          refine x_getk (ci := 12) (C := RX12) (F := TX12) (N := 36) (v := .ref q0_18) hx hb hts uX12 hown hkb hH 3 rfl rfl 18 (by decide) rfl kw_1241 (fun _ h9 => h9) dX12_laysWay_110 ?_
                          refine lv_iload_n hx hb dX12_laysWay_113 rfl (lv_at hl 0 rfl) ?_
                          refine lv_iload_n hx hb dX12_laysWay_114 rfl (lv_at hl 1 rfl) ?_
                          refine xa_ist hx hb hkb hH hS 0 rfl (by omega) (by omega) dX12_laysWay_115 (fun H locs hH hS => ?_)
                          have hH : HT D cs A T (q0_18 :: q0_17 :: q0_1 :: a0 :: O) ((q0_18, .inl (cs.2.1, 14, .inl (upd g60_0 (p60_3.toInt.toNat) p48_2))) :: (q0_17, .inl (cs.2.1, 14, .inl f17)) :: (q0_1, .inl (cs.2.1, 3906, .inl f1)) :: (a0, .inr (12, [.int q0_0, .ref q0_1, .ref q0_2, .ref q0_3, .ref q0_4, .int q0_5, .int q0_6, .int q0_7, .int q0_8, .int q0_9, .int q0_10, .int q0_11, .int q0_12, .int q0_13, .int q0_14, .ref q0_15, .int q0_16, .ref q0_17, .ref q0_18, .ref q0_19, .int q0_20, .ref q0_21, .ref q0_22, .int q0_23, .int q0_24, .int q0_25, .ref q0_26, .ref q0_27, .ref q0_28, .ref q0_29, .ref q0_30, .ref q0_31, .int q0_32, .ref q0_33, .ref q0_34, .ref q0_35])) :: X) H := hH
                          obtain ⟨F115, eF115⟩ : ∃ f9, f9 = upd g60_0 (p60_3.toInt.toNat) p48_2 := ⟨_, rfl⟩
                          have hH : HT D cs A T (q0_18 :: q0_17 :: q0_1 :: a0 :: O) ((q0_18, .inl (cs.2.1, 14, .inl F115)) :: (q0_17, .inl (cs.2.1, 14, .inl f17)) :: (q0_1, .inl (cs.2.1, 3906, .inl f1)) :: (a0, .inr (12, [.int q0_0, .ref q0_1, .ref q0_2, .ref q0_3, .ref q0_4, .int q0_5, .int q0_6, .int q0_7, .int q0_8, .int q0_9, .int q0_10, .int q0_11, .int q0_12, .int q0_13, .int q0_14, .ref q0_15, .int q0_16, .ref q0_17, .ref q0_18, .ref q0_19, .int q0_20, .ref q0_21, .ref q0_22, .int q0_23, .int q0_24, .int q0_25, .ref q0_26, .ref q0_27, .ref q0_28, .ref q0_29, .ref q0_30, .ref q0_31, .int q0_32, .ref q0_33, .ref q0_34, .ref q0_35])) :: X) H := eF115 ▸ hH
                          have c_F115 : ∀ j, cp 8 (F115 j) := by rw [eF115]; exact c9_put c_g60_0 (by omega) (by omega)
                          obtain ⟨v116, ev116⟩ : ∃ y : Int32, y = p60_3 + 1 := ⟨_, rfl⟩
                          have tv116 : v116.toInt = p60_3.toInt + (1) := by rw [ev116]; exact add_i rfl (by decide) (by omega) (by omega)
                          refine lv_iinc (v := v116) (lv' := [(3, .int v116), (2, .int p48_2), (0, .ref a0), (1, .int x1)]) hx hb dX12_laysWay_116 hl (k := 0) rfl (by rw [ev116]; rfl) (by decide) rfl (fun ls hl => ?_)
                          refine lv_goto (tgt := 60) hx hb dX12_laysWay_119 (by decide) ?_
                          exact ih60 _ (by omega) v116 F115 _ _ _ rfl c_F115 (by omega) (by omega) (by first | exact i60w | (refine i48w.le ?_; omega) | (refine LW_put i60w ?_ ?_ ?_ ?_ tv75 ?_ (inF_nz x_v840 tc87) tv96 ev98 tv101 x_v1020 tc106 eF115 <;> omega)) hH hS (lv_sub hl [0, 1, 2, 3] rfl)
              refine lv_istore_n (lv' := [(3, .int 0), (2, .int p48_2), (0, .ref a0), (1, .int x1)]) hx hb dX12_laysWay_59 rfl hl (by decide) rfl (fun ls hl => ?_)
              have z_0 : (0 : Int32).toInt = 0 := by decide
              exact J60 _ 0 g48_0 _ _ _ rfl c_g48_0 (by decide) (by decide) (by first | exact i60w | (refine i48w.le ?_; omega) | (refine LW_put i60w ?_ ?_ ?_ ?_ tv75 ?_ (inF_nz x_v840 tc87) tv96 ev98 tv101 x_v1020 tc106 eF115 <;> omega)) hH hS (lv_sub hl [0, 1, 2, 3] rfl)
        refine lv_istore_n (lv' := [(2, .int 1), (0, .ref a0), (1, .int x1)]) hx hb dX12_laysWay_47 rfl hl (by decide) rfl (fun ls hl => ?_)
        have z_1 : (1 : Int32).toInt = 1 := by decide
        exact J48 _ 1 g2_0 _ _ _ rfl c_g2_0 (by decide) (by decide) (by first | (refine (LW_of i2w ?_).le ?_; omega; decide) | (refine i60w.le ?_; omega)) hH hS (lv_sub hl [0, 1, 2] rfl)
      · skip
        have fuc9 := full_i p2_2
        have fvc9 := full_i v8
        have tc9 := g_nle c9
        refine lv_aload_n hx hb dX12_laysWay_12 rfl (lv_at hl 1 rfl) ?_
        refine x_getk (ci := 12) (C := RX12) (F := TX12) (N := 36) (v := .ref q0_18) hx hb hts uX12 hown hkb hH 3 rfl rfl 18 (by decide) rfl kw_1241 (fun _ h9 => h9) dX12_laysWay_13 ?_
        refine lv_iload_n hx hb dX12_laysWay_16 rfl (lv_at hl 0 rfl) ?_
        refine lv_iload_n hx hb dX12_laysWay_17 rfl (lv_at hl 2 rfl) ?_
        refine lv_aload_n hx hb dX12_laysWay_18 rfl (lv_at hl 1 rfl) ?_
        refine x_getk (ci := 12) (C := RX12) (F := TX12) (N := 36) (v := .ref q0_1) hx hb hts uX12 hown hkb hH 3 rfl rfl 1 (by decide) rfl kw_1224 (fun _ h9 => h9) dX12_laysWay_19 ?_
        refine lv_iconst (v := 5) hx hb dX12_laysWay_22 (by decide) ?_
        refine xa_ild hx hb hkb hH 2 rfl (by decide) (by decide) dX12_laysWay_23 ?_
        refine lv_topi (fun v23 ev23 => ?_)
        have tv23 : v23 = f1 5 := by rw [ev23]; rfl
        have bv23 : 0 ≤ v23.toInt ∧ v23.toInt ≤ 16383 := by rw [ev23]; exact (s_f1.at (by decide) 5).2.2.2.1 (by decide)
        refine lv_iand hx hb dX12_laysWay_24 ?_
        refine lv_topi (fun v24 ev24 => ?_)
        have tv24 : 0 ≤ v24.toInt ∧ v24.toInt ≤ x1.toInt := by rw [ev24]; exact and_l (by omega)
        have ttv24 : 0 ≤ v24.toInt ∧ v24.toInt ≤ v23.toInt := by rw [ev24]; exact and_r (by omega)
        refine lv_i2l hx hb dX12_laysWay_25 rfl ?_
        refine lv_iload_n hx hb dX12_laysWay_26 rfl (lv_at hl 0 rfl) ?_
        refine tk_i hH hS hA (tr_S (n := 2) (As := [.long v24.toInt64, .int p2_2]) hx hb hml hown hts hkb hH (ox_c (ox_c (ox_c (ox_c hOX)))) hks hE hS hA (s_M_isIn2 l D cs kf T (q0_18 :: q0_17 :: q0_1 :: a0 :: O) ((q0_18, .inl (cs.2.1, 14, .inl g2_0)) :: (q0_17, .inl (cs.2.1, 14, .inl f17)) :: (q0_1, .inl (cs.2.1, 3906, .inl f1)) :: (a0, .inr (12, [.int q0_0, .ref q0_1, .ref q0_2, .ref q0_3, .ref q0_4, .int q0_5, .int q0_6, .int q0_7, .int q0_8, .int q0_9, .int q0_10, .int q0_11, .int q0_12, .int q0_13, .int q0_14, .ref q0_15, .int q0_16, .ref q0_17, .ref q0_18, .ref q0_19, .int q0_20, .ref q0_21, .ref q0_22, .int q0_23, .int q0_24, .int q0_25, .ref q0_26, .ref q0_27, .ref q0_28, .ref q0_29, .ref q0_30, .ref q0_31, .int q0_32, .ref q0_33, .ref q0_34, .ref q0_35])) :: X) v24.toInt64 p2_2  (hO.sub (by decide))) kw_1440 kw_1441 kw_13 kw_1442 (by decide +kernel) ⟨Nat.le_of_ble_eq_true rfl, Nat.le_of_ble_eq_true rfl⟩ rfl rfl hl.1 (Nat.le_of_ble_eq_true rfl) dX12_laysWay_27 ⟨Nat.le_of_ble_eq_true rfl, Nat.le_of_ble_eq_true rfl⟩) (fun v27 u H locs hz9 hH hS => ?_)
        obtain ⟨rfl, l_v27, u_v27, x_v270⟩ := hz9
        have hH : HT D cs A T (q0_18 :: q0_17 :: q0_1 :: a0 :: O) ((q0_18, .inl (cs.2.1, 14, .inl g2_0)) :: (q0_17, .inl (cs.2.1, 14, .inl f17)) :: (q0_1, .inl (cs.2.1, 3906, .inl f1)) :: (a0, .inr (12, [.int q0_0, .ref q0_1, .ref q0_2, .ref q0_3, .ref q0_4, .int q0_5, .int q0_6, .int q0_7, .int q0_8, .int q0_9, .int q0_10, .int q0_11, .int q0_12, .int q0_13, .int q0_14, .ref q0_15, .int q0_16, .ref q0_17, .ref q0_18, .ref q0_19, .int q0_20, .ref q0_21, .ref q0_22, .int q0_23, .int q0_24, .int q0_25, .ref q0_26, .ref q0_27, .ref q0_28, .ref q0_29, .ref q0_30, .ref q0_31, .int q0_32, .ref q0_33, .ref q0_34, .ref q0_35])) :: X) H := hH
        refine W.widen (k := 0) (n := 0) (Nat.le_of_ble_eq_true rfl) (Nat.le_of_ble_eq_true rfl) ?_
        refine lv_if_eq (tgt := 37) hx hb dX12_laysWay_30 (by decide) (fun c30 => ?_) (fun c30 => ?_)
        · skip
          have tc30 := f_eq (k := 0) (by decide) c30
          refine lv_bipush (v := 99) hx hb dX12_laysWay_37 (by decide) ?_
          refine xa_ist hx hb hkb hH hS 0 rfl (by omega) (by omega) dX12_laysWay_39 (fun H locs hH hS => ?_)
          have hH : HT D cs A T (q0_18 :: q0_17 :: q0_1 :: a0 :: O) ((q0_18, .inl (cs.2.1, 14, .inl (upd g2_0 (p2_2.toInt.toNat) (99 : Int32)))) :: (q0_17, .inl (cs.2.1, 14, .inl f17)) :: (q0_1, .inl (cs.2.1, 3906, .inl f1)) :: (a0, .inr (12, [.int q0_0, .ref q0_1, .ref q0_2, .ref q0_3, .ref q0_4, .int q0_5, .int q0_6, .int q0_7, .int q0_8, .int q0_9, .int q0_10, .int q0_11, .int q0_12, .int q0_13, .int q0_14, .ref q0_15, .int q0_16, .ref q0_17, .ref q0_18, .ref q0_19, .int q0_20, .ref q0_21, .ref q0_22, .int q0_23, .int q0_24, .int q0_25, .ref q0_26, .ref q0_27, .ref q0_28, .ref q0_29, .ref q0_30, .ref q0_31, .int q0_32, .ref q0_33, .ref q0_34, .ref q0_35])) :: X) H := hH
          obtain ⟨F39, eF39⟩ : ∃ f9, f9 = upd g2_0 (p2_2.toInt.toNat) (99 : Int32) := ⟨_, rfl⟩
          have hH : HT D cs A T (q0_18 :: q0_17 :: q0_1 :: a0 :: O) ((q0_18, .inl (cs.2.1, 14, .inl F39)) :: (q0_17, .inl (cs.2.1, 14, .inl f17)) :: (q0_1, .inl (cs.2.1, 3906, .inl f1)) :: (a0, .inr (12, [.int q0_0, .ref q0_1, .ref q0_2, .ref q0_3, .ref q0_4, .int q0_5, .int q0_6, .int q0_7, .int q0_8, .int q0_9, .int q0_10, .int q0_11, .int q0_12, .int q0_13, .int q0_14, .ref q0_15, .int q0_16, .ref q0_17, .ref q0_18, .ref q0_19, .int q0_20, .ref q0_21, .ref q0_22, .int q0_23, .int q0_24, .int q0_25, .ref q0_26, .ref q0_27, .ref q0_28, .ref q0_29, .ref q0_30, .ref q0_31, .int q0_32, .ref q0_33, .ref q0_34, .ref q0_35])) :: X) H := eF39 ▸ hH
          have c_F39 : ∀ j, cp 8 (F39 j) := by rw [eF39]; exact c9_put c_g2_0 (by decide) (by decide)
          obtain ⟨v40, ev40⟩ : ∃ y : Int32, y = p2_2 + 1 := ⟨_, rfl⟩
          have tv40 : v40.toInt = p2_2.toInt + (1) := by rw [ev40]; exact add_i rfl (by decide) (by omega) (by omega)
          refine lv_iinc (v := v40) (lv' := [(2, .int v40), (0, .ref a0), (1, .int x1)]) hx hb dX12_laysWay_40 hl (k := 0) rfl (by rw [ev40]; rfl) (by decide) rfl (fun ls hl => ?_)
          refine lv_goto (tgt := 2) hx hb dX12_laysWay_43 (by decide) ?_
          exact ih2 _ (by omega) v40 F39 _ _ _ rfl c_F39 (by omega) (by omega) (by first | (refine LW0_0 ?_; decide) | (refine LW0_s i2w ?_ tv40 eF39 (Or.inl ?_); omega; decide) | (refine LW0_s i2w ?_ tv40 eF39 (Or.inr ⟨?_, hb8⟩); omega; decide)) hH hS (lv_sub hl [0, 1, 2] rfl)
        · skip
          have tc30 := f_ne (k := 0) (by decide) c30
          have hb9 := inF_nz x_v270 tc30
          rw [ev24] at hb9
          have hb8 := ((inF_and (by omega) (by omega) (by omega) (by omega)).mp hb9).1
          refine lv_iconst (v := 0) hx hb dX12_laysWay_33 (by decide) ?_
          refine lv_goto (tgt := 39) hx hb dX12_laysWay_34 (by decide) ?_
          refine xa_ist hx hb hkb hH hS 0 rfl (by omega) (by omega) dX12_laysWay_39 (fun H locs hH hS => ?_)
          have hH : HT D cs A T (q0_18 :: q0_17 :: q0_1 :: a0 :: O) ((q0_18, .inl (cs.2.1, 14, .inl (upd g2_0 (p2_2.toInt.toNat) (0 : Int32)))) :: (q0_17, .inl (cs.2.1, 14, .inl f17)) :: (q0_1, .inl (cs.2.1, 3906, .inl f1)) :: (a0, .inr (12, [.int q0_0, .ref q0_1, .ref q0_2, .ref q0_3, .ref q0_4, .int q0_5, .int q0_6, .int q0_7, .int q0_8, .int q0_9, .int q0_10, .int q0_11, .int q0_12, .int q0_13, .int q0_14, .ref q0_15, .int q0_16, .ref q0_17, .ref q0_18, .ref q0_19, .int q0_20, .ref q0_21, .ref q0_22, .int q0_23, .int q0_24, .int q0_25, .ref q0_26, .ref q0_27, .ref q0_28, .ref q0_29, .ref q0_30, .ref q0_31, .int q0_32, .ref q0_33, .ref q0_34, .ref q0_35])) :: X) H := hH
          obtain ⟨F39, eF39⟩ : ∃ f9, f9 = upd g2_0 (p2_2.toInt.toNat) (0 : Int32) := ⟨_, rfl⟩
          have hH : HT D cs A T (q0_18 :: q0_17 :: q0_1 :: a0 :: O) ((q0_18, .inl (cs.2.1, 14, .inl F39)) :: (q0_17, .inl (cs.2.1, 14, .inl f17)) :: (q0_1, .inl (cs.2.1, 3906, .inl f1)) :: (a0, .inr (12, [.int q0_0, .ref q0_1, .ref q0_2, .ref q0_3, .ref q0_4, .int q0_5, .int q0_6, .int q0_7, .int q0_8, .int q0_9, .int q0_10, .int q0_11, .int q0_12, .int q0_13, .int q0_14, .ref q0_15, .int q0_16, .ref q0_17, .ref q0_18, .ref q0_19, .int q0_20, .ref q0_21, .ref q0_22, .int q0_23, .int q0_24, .int q0_25, .ref q0_26, .ref q0_27, .ref q0_28, .ref q0_29, .ref q0_30, .ref q0_31, .int q0_32, .ref q0_33, .ref q0_34, .ref q0_35])) :: X) H := eF39 ▸ hH
          have c_F39 : ∀ j, cp 8 (F39 j) := by rw [eF39]; exact c9_put c_g2_0 (by decide) (by decide)
          obtain ⟨v40, ev40⟩ : ∃ y : Int32, y = p2_2 + 1 := ⟨_, rfl⟩
          have tv40 : v40.toInt = p2_2.toInt + (1) := by rw [ev40]; exact add_i rfl (by decide) (by omega) (by omega)
          refine lv_iinc (v := v40) (lv' := [(2, .int v40), (0, .ref a0), (1, .int x1)]) hx hb dX12_laysWay_40 hl (k := 0) rfl (by rw [ev40]; rfl) (by decide) rfl (fun ls hl => ?_)
          refine lv_goto (tgt := 2) hx hb dX12_laysWay_43 (by decide) ?_
          exact ih2 _ (by omega) v40 F39 _ _ _ rfl c_F39 (by omega) (by omega) (by first | (refine LW0_0 ?_; decide) | (refine LW0_s i2w ?_ tv40 eF39 (Or.inl ?_); omega; decide) | (refine LW0_s i2w ?_ tv40 eF39 (Or.inr ⟨?_, hb8⟩); omega; decide)) hH hS (lv_sub hl [0, 1, 2] rfl)
  refine lv_istore_n (lv' := [(2, .int 0), (0, .ref a0), (1, .int x1)]) hx hb dX12_laysWay_1 rfl hl (by decide) rfl (fun ls hl => ?_)
  have z_0 : (0 : Int32).toInt = 0 := by decide
  exact J2 _ 0 f18 _ _ _ rfl c_f18 (by decide) (by decide) (by first | (refine LW0_0 ?_; decide) | (refine LW0_s i2w ?_ tv40 eF39 (Or.inl ?_); omega; decide) | (refine LW0_s i2w ?_ tv40 eF39 (Or.inr ⟨?_, hb8⟩); omega; decide)) hH hS (lv_sub hl [0, 1, 2] rfl)
set_option maxHeartbeats 4000000 in
set_option maxRecDepth 100000 in
theorem s_M_laysWayOf (l : Launch) (D : va_G) (cs : CS) (kf : KF) (T : TF) (O : List Nat) (X : va_W) (a0 hg mq : Nat) (x1 : Int32) (t_a0 : T a0 = some (22, hg, mq)) (b_hg : hg < 90) (l_x1 : 0 ≤ x1.toInt) (u_x1 : x1.toInt ≤ 4) (hO : okO T O [1, 8, 9, 22]) : TK l D cs kf yX12_laysWayOf cX12_laysWayOf 2 (some (.boolean)) { frames := 5, cells := 0, slots := 0, locals := 119 } [.ref a0, .int x1] T O X (Ti D cs (fun r u => u = (T, O, X) ∧ 0 ≤ r.toInt ∧ r.toInt ≤ 1)) := by
  refine tk_of (by decide) (Nat.le_of_ble_eq_true rfl) (fun p e s m below meth c ls A H locs hx hb hr hml hown hts hlocks hnm hkb hH hS hA hOX hks hE hl => ?_)
  have hown : s.vm.findClass RX12 = some m.cls := hown
  have hl : lv_has ls 2 [(0, .ref a0), (1, .int x1)] := hl
  refine lv_aload_n hx hb dX12_laysWayOf_0 rfl (lv_at hl 0 rfl) ?_
  refine lv_iload_n hx hb dX12_laysWayOf_1 rfl (lv_at hl 1 rfl) ?_
  refine tk_v hH hS hA (tr_V (n := 1) (As := [.int x1]) hx hb hml hown hts hkb hH hOX hks hE hS hA (s_M_laysGuide l D cs kf T O X a0 hg mq x1 t_a0 b_hg (by omega) (by omega) (hO.sub (by decide))) kw_1502 kw_1504 ks_71 kw_13 kw_1505 (by decide +kernel) ⟨Nat.le_of_ble_eq_true rfl, Nat.le_of_ble_eq_true rfl⟩ (HT.recv (ci := 12) hkb hH t_a0 (hO.no t_a0 (by decide)) rfl) rfl rfl hl.1 (Nat.le_of_ble_eq_true rfl) dX12_laysWayOf_2 ⟨Nat.le_of_ble_eq_true rfl, Nat.le_of_ble_eq_true rfl⟩) (fun u H locs hz9 hH hS => ?_)
  have hz9 : u = (T, O, X) := hz9
  subst hz9
  have hH : HT D cs A T O X H := hH
  refine W.widen (k := 0) (n := 0) (Nat.le_of_ble_eq_true rfl) (Nat.le_of_ble_eq_true rfl) ?_
  refine lv_aload_n hx hb dX12_laysWayOf_5 rfl (lv_at hl 0 rfl) ?_
  refine lv_aload_n hx hb dX12_laysWayOf_6 rfl (lv_at hl 0 rfl) ?_
  refine tk_i hH hS hA (tr_V (n := 0) (As := []) hx hb hml hown hts hkb hH hOX hks hE hS hA (s_M_openSet l D cs kf T O X a0 hg mq t_a0 b_hg (hO.sub (by decide))) kw_1510 kw_1512 ks_73 kw_13 kw_1513 (by decide +kernel) ⟨Nat.le_of_ble_eq_true rfl, Nat.le_of_ble_eq_true rfl⟩ (HT.recv (ci := 12) hkb hH t_a0 (hO.no t_a0 (by decide)) rfl) rfl rfl hl.1 (Nat.le_of_ble_eq_true rfl) dX12_laysWayOf_7 ⟨Nat.le_of_ble_eq_true rfl, Nat.le_of_ble_eq_true rfl⟩) (fun v7 u H locs hz9 hH hS => ?_)
  obtain ⟨rfl, l_v7, u_v7⟩ := hz9
  have hH : HT D cs A T O X H := hH
  refine W.widen (k := 0) (n := 0) (Nat.le_of_ble_eq_true rfl) (Nat.le_of_ble_eq_true rfl) ?_
  refine tk_i hH hS hA (tr_V (n := 1) (As := [.int v7]) hx hb hml hown hts hkb hH hOX hks hE hS hA (s_M_laysWay l D cs kf T O X a0 hg mq v7 t_a0 b_hg (by omega) (by omega) (hO.sub (by decide))) kw_1564 kw_1566 ks_83 kw_13 kw_1567 (by decide +kernel) ⟨Nat.le_of_ble_eq_true rfl, Nat.le_of_ble_eq_true rfl⟩ (HT.recv (ci := 12) hkb hH t_a0 (hO.no t_a0 (by decide)) rfl) rfl rfl hl.1 (Nat.le_of_ble_eq_true rfl) dX12_laysWayOf_10 ⟨Nat.le_of_ble_eq_true rfl, Nat.le_of_ble_eq_true rfl⟩) (fun v10 u H locs hz9 hH hS => ?_)
  obtain ⟨rfl, l_v10, u_v10⟩ := hz9
  have hH : HT D cs A T O X H := hH
  refine W.widen (k := 0) (n := 0) (Nat.le_of_ble_eq_true rfl) (Nat.le_of_ble_eq_true rfl) ?_
  exact te_z hx hb hr hlocks (nar01 (by omega) (by omega)) hH hS (⟨rfl, by omega, by omega⟩) dX12_laysWayOf_13
