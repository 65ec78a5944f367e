set_option maxHeartbeats 4000000 in
set_option maxRecDepth 100000 in
theorem s_Law_joined (l : Launch) (D : va_G) (cs : CS) (kf : KF) (T : TF) (O : List Nat) (X : va_W) (x0 : Int32) (x1 : Int32) (x2 : Int32)  (hO : okO T O []) : TK l D cs kf yX2_joined cX2_joined 5 (some (.int)) { frames := 0, cells := 0, slots := 0, locals := 0 } [.int x0, .int x1, .int x2] T O X (Ti D cs (fun r u => u = (T, O, X))) := by
  refine tk_of (by decide) (Nat.le_of_ble_eq_true rfl) (fun p e s m below meth c ls A H locs hx hb hr hml hown hts hlocks hnm hkb hH hS hA hOX hks hE hl => ?_)
  have hown : s.vm.findClass RX2 = some m.cls := hown
  have hl : lv_has ls 5 [(0, .int x0), (1, .int x1), (2, .int x2)] := hl
  refine lv_lconst (v := 0) hx hb dX2_joined_0 (by decide) ?_
  refine lv_lstore_n (lv' := [(3, .long 0), (0, .int x0), (1, .int x1), (2, .int x2)]) hx hb dX2_joined_1 rfl hl (by decide) rfl (fun ls hl => ?_)
  refine lv_iload_n hx hb dX2_joined_2 rfl (lv_at hl 1 rfl) ?_
  have J96 : ∀ (p96_3 : Int64) (H : Heap) (locs : List Loc) (ls : Array Slot), HT D cs A T O X H → va_S A s.heap H locs → lv_has ls 5 [(3, .long p96_3)] → W p l e { frames := 0, cells := 0, slots := 0, locals := 0 } s m [.int x0, .int x1, .int x2].toArray below meth c H locs 0 0 (MQ below (Ti D cs (fun r u => u = (T, O, X)) A) [.int x0, .int x1, .int x2].toArray s 0 0 A) (F0 m 96 ls []) := by
    intro p96_3 H locs ls  hH hS hl
    refine lv_lload_n hx hb dX2_joined_96 rfl (lv_at hl 0 rfl) ?_
    refine lv_ldc2 hx hb hown (hts _ kw_821) dX2_joined_97 ?_
    refine W.lcmp hx hb dX2_joined_100 ?_
    have J124 : ∀ (k124_0 : Int32) (H : Heap) (locs : List Loc) (ls : Array Slot), HT D cs A T O X H → va_S A s.heap H locs → lv_has ls 5 [] → W p l e { frames := 0, cells := 0, slots := 0, locals := 0 } s m [.int x0, .int x1, .int x2].toArray below meth c H locs 0 0 (MQ below (Ti D cs (fun r u => u = (T, O, X)) A) [.int x0, .int x1, .int x2].toArray s 0 0 A) (F0 m 124 ls [.int k124_0]) := by
      intro k124_0 H locs ls  hH hS hl
      exact te_i hx hb hr hlocks hH hS (rfl) dX2_joined_124
    refine lv_if_le (tgt := 109) hx hb dX2_joined_101 (by decide) (fun c101 => ?_) (fun c101 => ?_)
    · skip
      have tc101 := le_l c101
      have kc101_1000000 : (1000000 : Int64).toInt = 1000000 := by decide
      refine lv_lload_n hx hb dX2_joined_109 rfl (lv_at hl 0 rfl) ?_
      refine lv_ldc2 hx hb hown (hts _ kw_823) dX2_joined_110 ?_
      refine W.lcmp hx hb dX2_joined_113 ?_
      refine lv_if_ge (tgt := 122) hx hb dX2_joined_114 (by decide) (fun c114 => ?_) (fun c114 => ?_)
      · skip
        have tc114 := ge_l c114
        have kc114_m1000000 : ((-1000000) : Int64).toInt = -1000000 := by decide
        refine lv_lload_n hx hb dX2_joined_122 rfl (lv_at hl 0 rfl) ?_
        refine lv_l2i hx hb dX2_joined_123 rfl ?_
        refine lv_topi (fun v123 ev123 => ?_)
        have tv123 : v123.toInt = p96_3.toInt := by rw [ev123]; exact l2i_b (by omega) (by omega)
        exact J124 v123 _ _ _  hH hS (lv_sub hl [] rfl)
      · skip
        have tc114 := nge_l c114
        have kc114_m1000000 : ((-1000000) : Int64).toInt = -1000000 := by decide
        refine lv_ldc hx hb hown (hts _ kw_824) dX2_joined_117 ?_
        refine lv_goto (tgt := 124) hx hb dX2_joined_119 (by decide) ?_
        exact J124 (-1000000) _ _ _  hH hS (lv_sub hl [] rfl)
    · skip
      have tc101 := nle_l c101
      have kc101_1000000 : (1000000 : Int64).toInt = 1000000 := by decide
      refine lv_ldc hx hb hown (hts _ kw_822) dX2_joined_104 ?_
      refine lv_goto (tgt := 124) hx hb dX2_joined_106 (by decide) ?_
      exact J124 1000000 _ _ _  hH hS (lv_sub hl [] rfl)
  by_cases c3_0 : x0 = 5
  · skip
    refine lv_topc c3_0 ?_
    have tc3_0 := f_eq (k := 5) (by decide) c3_0
    refine lv_tableIn (off := 33) (tgt := 36) hx hb dX2_joined_3 (by decide) (by decide) (by decide) (by decide) ?_
    refine lv_iload_n hx hb dX2_joined_36 rfl (lv_at hl 2 rfl) ?_
    refine lv_i2l hx hb dX2_joined_37 rfl ?_
    refine lv_iload_n hx hb dX2_joined_38 rfl (lv_at hl 3 rfl) ?_
    refine lv_i2l hx hb dX2_joined_39 rfl ?_
    refine lv_ladd hx hb dX2_joined_40 ?_
    refine lv_topl (fun v40 ev40 => ?_)
    refine lv_lstore_n (lv' := [(3, .long v40), (0, .int x0), (1, .int x1), (2, .int x2)]) hx hb dX2_joined_41 rfl hl (by decide) rfl (fun ls hl => ?_)
    refine lv_goto (tgt := 96) hx hb dX2_joined_42 (by decide) ?_
    exact J96 v40 _ _ _  hH hS (lv_sub hl [0] rfl)
  have tc3_0 := f_ne (k := 5) (by decide) c3_0
  by_cases c3_1 : x0 = 6
  · skip
    refine lv_topc c3_1 ?_
    have tc3_1 := f_eq (k := 6) (by decide) c3_1
    refine lv_tableIn (off := 42) (tgt := 45) hx hb dX2_joined_3 (by decide) (by decide) (by decide) (by decide) ?_
    refine lv_iload_n hx hb dX2_joined_45 rfl (lv_at hl 2 rfl) ?_
    refine lv_i2l hx hb dX2_joined_46 rfl ?_
    refine lv_iload_n hx hb dX2_joined_47 rfl (lv_at hl 3 rfl) ?_
    refine lv_i2l hx hb dX2_joined_48 rfl ?_
    refine lv_lsub hx hb dX2_joined_49 ?_
    refine lv_topl (fun v49 ev49 => ?_)
    refine lv_lstore_n (lv' := [(3, .long v49), (0, .int x0), (1, .int x1), (2, .int x2)]) hx hb dX2_joined_50 rfl hl (by decide) rfl (fun ls hl => ?_)
    refine lv_goto (tgt := 96) hx hb dX2_joined_51 (by decide) ?_
    exact J96 v49 _ _ _  hH hS (lv_sub hl [0] rfl)
  have tc3_1 := f_ne (k := 6) (by decide) c3_1
  by_cases c3_2 : x0 = 7
  · skip
    refine lv_topc c3_2 ?_
    have tc3_2 := f_eq (k := 7) (by decide) c3_2
    refine lv_tableIn (off := 51) (tgt := 54) hx hb dX2_joined_3 (by decide) (by decide) (by decide) (by decide) ?_
    refine lv_iload_n hx hb dX2_joined_54 rfl (lv_at hl 2 rfl) ?_
    refine lv_i2l hx hb dX2_joined_55 rfl ?_
    refine lv_iload_n hx hb dX2_joined_56 rfl (lv_at hl 3 rfl) ?_
    refine lv_i2l hx hb dX2_joined_57 rfl ?_
    refine lv_lmul hx hb dX2_joined_58 ?_
    refine lv_topl (fun v58 ev58 => ?_)
    refine lv_lstore_n (lv' := [(3, .long v58), (0, .int x0), (1, .int x1), (2, .int x2)]) hx hb dX2_joined_59 rfl hl (by decide) rfl (fun ls hl => ?_)
    refine lv_goto (tgt := 96) hx hb dX2_joined_60 (by decide) ?_
    exact J96 v58 _ _ _  hH hS (lv_sub hl [0] rfl)
  have tc3_2 := f_ne (k := 7) (by decide) c3_2
  by_cases c3_3 : x0 = 8
  · skip
    refine lv_topc c3_3 ?_
    have tc3_3 := f_eq (k := 8) (by decide) c3_3
    refine lv_tableIn (off := 60) (tgt := 63) hx hb dX2_joined_3 (by decide) (by decide) (by decide) (by decide) ?_
    refine lv_iload_n hx hb dX2_joined_63 rfl (lv_at hl 2 rfl) ?_
    refine lv_iload_n hx hb dX2_joined_64 rfl (lv_at hl 3 rfl) ?_
    have J73 : ∀ (k73_0 : Int32) (H : Heap) (locs : List Loc) (ls : Array Slot), (0 ≤ k73_0.toInt) → (k73_0.toInt ≤ 1) → HT D cs A T O X H → va_S A s.heap H locs → lv_has ls 5 [] → W p l e { frames := 0, cells := 0, slots := 0, locals := 0 } s m [.int x0, .int x1, .int x2].toArray below meth c H locs 0 0 (MQ below (Ti D cs (fun r u => u = (T, O, X)) A) [.int x0, .int x1, .int x2].toArray s 0 0 A) (F0 m 73 ls [.int k73_0]) := by
      intro k73_0 H locs ls l_k73_0 u_k73_0 hH hS hl
      exact te_i hx hb hr hlocks hH hS (rfl) dX2_joined_73
    refine lv_icmp_ne (tgt := 72) hx hb dX2_joined_65 (by decide) (fun c65 => ?_) (fun c65 => ?_)
    · skip
      have fuc65 := full_i x1
      have fvc65 := full_i x2
      have tc65 := g_ne c65
      refine lv_iconst (v := 0) hx hb dX2_joined_72 (by decide) ?_
      exact J73 0 _ _ _ (by decide) (by decide) hH hS (lv_sub hl [] rfl)
    · skip
      have fuc65 := full_i x1
      have fvc65 := full_i x2
      have tc65 := g_eq c65
      refine lv_iconst (v := 1) hx hb dX2_joined_68 (by decide) ?_
      refine lv_goto (tgt := 73) hx hb dX2_joined_69 (by decide) ?_
      exact J73 1 _ _ _ (by decide) (by decide) hH hS (lv_sub hl [] rfl)
  have tc3_3 := f_ne (k := 8) (by decide) c3_3
  by_cases c3_4 : x0 = 9
  · skip
    refine lv_topc c3_4 ?_
    have tc3_4 := f_eq (k := 9) (by decide) c3_4
    refine lv_tableIn (off := 71) (tgt := 74) hx hb dX2_joined_3 (by decide) (by decide) (by decide) (by decide) ?_
    refine lv_iload_n hx hb dX2_joined_74 rfl (lv_at hl 2 rfl) ?_
    refine lv_iload_n hx hb dX2_joined_75 rfl (lv_at hl 3 rfl) ?_
    have J84 : ∀ (k84_0 : Int32) (H : Heap) (locs : List Loc) (ls : Array Slot), (0 ≤ k84_0.toInt) → (k84_0.toInt ≤ 1) → HT D cs A T O X H → va_S A s.heap H locs → lv_has ls 5 [] → W p l e { frames := 0, cells := 0, slots := 0, locals := 0 } s m [.int x0, .int x1, .int x2].toArray below meth c H locs 0 0 (MQ below (Ti D cs (fun r u => u = (T, O, X)) A) [.int x0, .int x1, .int x2].toArray s 0 0 A) (F0 m 84 ls [.int k84_0]) := by
      intro k84_0 H locs ls l_k84_0 u_k84_0 hH hS hl
      exact te_i hx hb hr hlocks hH hS (rfl) dX2_joined_84
    refine lv_icmp_ge (tgt := 83) hx hb dX2_joined_76 (by decide) (fun c76 => ?_) (fun c76 => ?_)
    · skip
      have fuc76 := full_i x1
      have fvc76 := full_i x2
      have tc76 := g_le c76
      refine lv_iconst (v := 0) hx hb dX2_joined_83 (by decide) ?_
      exact J84 0 _ _ _ (by decide) (by decide) hH hS (lv_sub hl [] rfl)
    · skip
      have fuc76 := full_i x1
      have fvc76 := full_i x2
      have tc76 := g_nle c76
      refine lv_iconst (v := 1) hx hb dX2_joined_79 (by decide) ?_
      refine lv_goto (tgt := 84) hx hb dX2_joined_80 (by decide) ?_
      exact J84 1 _ _ _ (by decide) (by decide) hH hS (lv_sub hl [] rfl)
  have tc3_4 := f_ne (k := 9) (by decide) c3_4
  refine lv_tableOut (tgt := 85) hx hb dX2_joined_3 (by omega) (by decide) ?_
  refine lv_iload_n hx hb dX2_joined_85 rfl (lv_at hl 2 rfl) ?_
  refine lv_iload_n hx hb dX2_joined_86 rfl (lv_at hl 3 rfl) ?_
  have J95 : ∀ (k95_0 : Int32) (H : Heap) (locs : List Loc) (ls : Array Slot), (0 ≤ k95_0.toInt) → (k95_0.toInt ≤ 1) → HT D cs A T O X H → va_S A s.heap H locs → lv_has ls 5 [] → W p l e { frames := 0, cells := 0, slots := 0, locals := 0 } s m [.int x0, .int x1, .int x2].toArray below meth c H locs 0 0 (MQ below (Ti D cs (fun r u => u = (T, O, X)) A) [.int x0, .int x1, .int x2].toArray s 0 0 A) (F0 m 95 ls [.int k95_0]) := by
    intro k95_0 H locs ls l_k95_0 u_k95_0 hH hS hl
    exact te_i hx hb hr hlocks hH hS (rfl) dX2_joined_95
  refine lv_icmp_le (tgt := 94) hx hb dX2_joined_87 (by decide) (fun c87 => ?_) (fun c87 => ?_)
  · skip
    have fuc87 := full_i x1
    have fvc87 := full_i x2
    have tc87 := g_le c87
    refine lv_iconst (v := 0) hx hb dX2_joined_94 (by decide) ?_
    exact J95 0 _ _ _ (by decide) (by decide) hH hS (lv_sub hl [] rfl)
  · skip
    have fuc87 := full_i x1
    have fvc87 := full_i x2
    have tc87 := g_nle c87
    refine lv_iconst (v := 1) hx hb dX2_joined_90 (by decide) ?_
    refine lv_goto (tgt := 95) hx hb dX2_joined_91 (by decide) ?_
    exact J95 1 _ _ _ (by decide) (by decide) hH hS (lv_sub hl [] rfl)
set_option maxHeartbeats 4000000 in
set_option maxRecDepth 100000 in
theorem s_Law_asks (l : Launch) (D : va_G) (cs : CS) (kf : KF) (T : TF) (O : List Nat) (X : va_W) (a0 na0 : Nat) (x1 : Int32) (t_a0 : T a0 = some (12, na0, 0)) (b_a0 : na0 ≤ 900) (hO : okO T O [1, 12]) : TK l D cs kf yX2_asks cX2_asks 4 (some (.boolean)) { frames := 0, cells := 0, slots := 0, locals := 0 } [.ref a0, .int x1] T O X (Ti D cs (fun r u => u = (T, O, X) ∧ 0 ≤ r.toInt ∧ r.toInt ≤ 1)) := by
  refine tk_of (by decide) (Nat.le_of_ble_eq_true rfl) (fun p e s m below meth c ls A H locs hx hb hr hml hown hts hlocks hnm hkb hH hS hA hOX hks hE hl => ?_)
  have hown : s.vm.findClass RX2 = some m.cls := hown
  have hl : lv_has ls 4 [(0, .ref a0), (1, .int x1)] := hl
  refine lv_iconst (v := 1) hx hb dX2_asks_0 (by decide) ?_
  refine lv_iload_n hx hb dX2_asks_1 rfl (lv_at hl 1 rfl) ?_
  refine lv_iconst (v := 4) hx hb dX2_asks_2 (by decide) ?_
  refine lv_ishl hx hb dX2_asks_3 ?_
  refine lv_topi (fun v3 ev3 => ?_)
  refine lv_ior hx hb dX2_asks_4 ?_
  refine lv_topi (fun v4 ev4 => ?_)
  refine lv_istore_n (lv' := [(2, .int v4), (0, .ref a0), (1, .int x1)]) hx hb dX2_asks_5 rfl hl (by decide) rfl (fun ls hl => ?_)
  refine lv_iconst (v := 0) hx hb dX2_asks_6 (by decide) ?_
  have J8 : ∀ (n : Nat) (p8_3 : Int32) (H : Heap) (locs : List Loc) (ls : Array Slot), (900 - p8_3.toInt).toNat = n → (0 ≤ p8_3.toInt) → (p8_3.toInt ≤ 900) → HT D cs A T O X H → va_S A s.heap H locs → lv_has ls 4 [(3, .int p8_3), (2, .int v4), (0, .ref a0)] → W p l e { frames := 0, cells := 0, slots := 0, locals := 0 } s m [.ref a0, .int x1].toArray below meth c H locs 0 0 (MQ below (Ti D cs (fun r u => u = (T, O, X) ∧ 0 ≤ r.toInt ∧ r.toInt ≤ 1) A) [.ref a0, .int x1].toArray s 0 0 A) (F0 m 8 ls []) := by
    intro n
    induction n using Nat.strongRecOn with
    | _ n ih8 =>
      intro p8_3 H locs ls hm8 l_p8_3 u_p8_3 hH hS hl
      refine lv_iload_n hx hb dX2_asks_8 rfl (lv_at hl 0 rfl) ?_
      refine lv_aload_n hx hb dX2_asks_9 rfl (lv_at hl 2 rfl) ?_
      refine t_get (ci := 2) (lst := ft2 na0 0) (C := RX2) (F := TX2) (N := 3) hx hb hts uX2 hown hkb hH t_a0 (hO.no t_a0 (by decide)) (fun _ h9 => h9) rfl rfl 0 (by decide) rfl kw_739 (fun _ h9 => h9) dX2_asks_10 (fun v9 h9 => ?_)
      obtain ⟨v10, rfl, t_v10⟩ := h9
      refine t_len1 hx hb hkb hH t_v10 (hO.no t_v10 (by decide)) dX2_asks_13 ?_
      have e_na0 : (nI na0).toInt = na0 := nI_toInt (by omega)
      refine lv_icmp_ge (tgt := 35) hx hb dX2_asks_14 (by decide) (fun c14 => ?_) (fun c14 => ?_)
      · skip
        have fuc14 := full_i p8_3
        have fvc14 := full_i (nI na0)
        have tc14 := g_le c14
        refine lv_iconst (v := 0) hx hb dX2_asks_35 (by decide) ?_
        exact te_z hx hb hr hlocks (by rfl) hH hS (⟨rfl, by decide, by decide⟩) dX2_asks_36
      · skip
        have fuc14 := full_i p8_3
        have fvc14 := full_i (nI na0)
        have tc14 := g_nle c14
        refine lv_aload_n hx hb dX2_asks_17 rfl (lv_at hl 2 rfl) ?_
        refine t_get (ci := 2) (lst := ft2 na0 0) (C := RX2) (F := TX2) (N := 3) hx hb hts uX2 hown hkb hH t_a0 (hO.no t_a0 (by decide)) (fun _ h9 => h9) rfl rfl 0 (by decide) rfl kw_739 (fun _ h9 => h9) dX2_asks_18 (fun v9 h9 => ?_)
        obtain ⟨v18, rfl, t_v18⟩ := h9
        refine lv_iload_n hx hb dX2_asks_21 rfl (lv_at hl 0 rfl) ?_
        refine t_ild hx hb hkb hH t_v18 (hO.no t_v18 (by decide)) (by omega) (by omega) dX2_asks_22 (fun v22 h9 => ?_)
        refine lv_iload_n hx hb dX2_asks_23 rfl (lv_at hl 1 rfl) ?_
        refine lv_icmp_ne (tgt := 29) hx hb dX2_asks_24 (by decide) (fun c24 => ?_) (fun c24 => ?_)
        · skip
          have fuc24 := full_i v22
          have fvc24 := full_i v4
          have tc24 := g_ne c24
          obtain ⟨v29, ev29⟩ : ∃ y : Int32, y = p8_3 + 1 := ⟨_, rfl⟩
          have tv29 : v29.toInt = p8_3.toInt + (1) := by rw [ev29]; exact add_i rfl (by decide) (by omega) (by omega)
          refine lv_iinc (v := v29) (lv' := [(3, .int v29), (2, .int v4), (0, .ref a0)]) hx hb dX2_asks_29 hl (k := 0) rfl (by rw [ev29]; rfl) (by decide) rfl (fun ls hl => ?_)
          refine lv_goto (tgt := 8) hx hb dX2_asks_32 (by decide) ?_
          exact ih8 _ (by omega) v29 _ _ _ rfl (by omega) (by omega) hH hS (lv_sub hl [0, 1, 2] rfl)
        · skip
          have fuc24 := full_i v22
          have fvc24 := full_i v4
          have tc24 := g_eq c24
          refine lv_iconst (v := 1) hx hb dX2_asks_27 (by decide) ?_
          exact te_z hx hb hr hlocks (by rfl) hH hS (⟨rfl, by decide, by decide⟩) dX2_asks_28
  refine lv_istore_n (lv' := [(3, .int 0), (2, .int v4), (0, .ref a0), (1, .int x1)]) hx hb dX2_asks_7 rfl hl (by decide) rfl (fun ls hl => ?_)
  exact J8 _ 0 _ _ _ rfl (by decide) (by decide) hH hS (lv_sub hl [0, 1, 2] rfl)
