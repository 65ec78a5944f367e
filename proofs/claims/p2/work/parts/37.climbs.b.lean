set_option maxHeartbeats 4000000 in
set_option maxRecDepth 100000 in
theorem s_Ways_climbsUpTo (l : Launch) (D : va_G) (cs : CS) (kf : KF) (T : TF) (O : List Nat) (X : va_W) (a0 : Nat) (a1 : Nat) (x2 : Int32) (x3 : Int32) (t_a0 : T a0 = some (20, 0, 0)) (t_a1 : T a1 = some (15, 0, 0)) (l_x3 : 1 ≤ x3.toInt) (u_x3 : x3.toInt ≤ 7) (hO : okO T O [1, 12, 15, 19, 20]) : TK l D cs kf yX10_climbsUpTo cX10_climbsUpTo 10 (some (.long)) { frames := 9, cells := 0, slots := 0, locals := 241 } [.ref a0, .ref a1, .int x2, .int x3] T O X (Tl D cs (fun _ u => u = (T, O, X))) := by
  refine tk_of (by decide) (Nat.le_of_ble_eq_true rfl) (fun p e s m below meth c ls A H locs hx hb hr hml hown hts hlocks hnm hkb hH hS hA hOX hks hE hl => ?_)
  have hown : s.vm.findClass RX10 = some m.cls := hown
  have hl : lv_has ls 10 [(0, .ref a0), (1, .ref a1), (2, .int x2), (3, .int x3)] := hl
  have hO0 := hO
  obtain ⟨fs9, ho9, hH⟩ := hH.take t_a0 (hO0.no t_a0 (by decide))
  have hp0 : okL T (ft10 0 0) fs9 := ho9
  clear ho9
  obtain ⟨v9, fs9, rfl, h9, hp1⟩ := okL_i hp0
  obtain ⟨q0_0, rfl, t_q0_0⟩ := h9
  obtain ⟨v9, fs9, rfl, h9, hp2⟩ := okL_i hp1
  obtain ⟨q0_1, rfl, t_q0_1⟩ := h9
  obtain ⟨v9, fs9, rfl, h9, hp3⟩ := okL_i hp2
  obtain ⟨q0_2, rfl, l_q0_2, u_q0_2⟩ := h9
  obtain ⟨v9, fs9, rfl, h9, hp4⟩ := okL_i hp3
  obtain ⟨q0_3, rfl, t_q0_3⟩ := h9
  obtain ⟨v9, fs9, rfl, h9, hp5⟩ := okL_i hp4
  obtain ⟨q0_4, rfl, t_q0_4⟩ := h9
  obtain ⟨v9, fs9, rfl, h9, hp6⟩ := okL_i hp5
  obtain ⟨q0_5, rfl, t_q0_5⟩ := h9
  obtain ⟨v9, fs9, rfl, h9, hp7⟩ := okL_i hp6
  obtain ⟨q0_6, rfl, l_q0_6, u_q0_6⟩ := h9
  have hpz := okL_z hp7
  subst hpz
  have hH : HT D cs A T (a0 :: O) ((a0, .inr (10, [.ref q0_0, .ref q0_1, .int q0_2, .ref q0_3, .ref q0_4, .ref q0_5, .int q0_6])) :: X) H := hH
  have hO : okO T (a0 :: O) [1, 12, 15, 19] := okO.cons (hO0.sub (by decide)) t_a0 (by decide)
  refine lv_iload_n hx hb dX10_climbsUpTo_0 rfl (lv_at hl 2 rfl) ?_
  refine lv_aload_n hx hb dX10_climbsUpTo_1 rfl (lv_at hl 1 rfl) ?_
  refine t_get (ci := 5) (lst := ft5 0 0) (C := RX5) (F := TX5) (N := 6) hx hb hts uX5 hown hkb hH t_a1 (hO.no t_a1 (by decide)) (fun _ h9 => h9) rfl rfl 0 (by decide) rfl kw_246 (fun _ h9 => h9) dX10_climbsUpTo_2 (fun v9 h9 => ?_)
  obtain ⟨v2, hv2, gv2, rfl, t_v2⟩ := h9
  refine t_get (ci := 9) (lst := ft9w hv2 gv2) (C := RX9) (F := TX9) (N := 14) hx hb hts uX9 hown hkb hH t_v2.1 (hO.no t_v2.1 (by decide)) (fun fs => (ob9w t_v2 fs).mp) rfl rfl 4 (by decide) rfl kw_126 (fun _ h9 => h9) dX10_climbsUpTo_5 (fun v9 h9 => ?_)
  obtain ⟨v5, rfl, l_v5, u_v5⟩ := h9
  refine lv_iand hx hb dX10_climbsUpTo_8 ?_
  refine lv_topi (fun v8 ev8 => ?_)
  have tv8 : 0 ≤ v8.toInt ∧ v8.toInt ≤ v5.toInt := by rw [ev8]; exact and_r (by omega)
  refine lv_istore (lv' := [(4, .int v8), (0, .ref a0), (1, .ref a1), (2, .int x2), (3, .int x3)]) hx hb dX10_climbsUpTo_9 hl (by decide) rfl (fun ls hl => ?_)
  refine lv_iload_n hx hb dX10_climbsUpTo_11 rfl (lv_at hl 3 rfl) ?_
  refine lv_aload_n hx hb dX10_climbsUpTo_12 rfl (lv_at hl 2 rfl) ?_
  refine t_get (ci := 5) (lst := ft5 0 0) (C := RX5) (F := TX5) (N := 6) hx hb hts uX5 hown hkb hH t_a1 (hO.no t_a1 (by decide)) (fun _ h9 => h9) rfl rfl 0 (by decide) rfl kw_246 (fun _ h9 => h9) dX10_climbsUpTo_13 (fun v9 h9 => ?_)
  obtain ⟨v13, hv13, gv13, rfl, t_v13⟩ := h9
  refine t_get (ci := 9) (lst := ft9w hv13 gv13) (C := RX9) (F := TX9) (N := 14) hx hb hts uX9 hown hkb hH t_v13.1 (hO.no t_v13.1 (by decide)) (fun fs => (ob9w t_v13 fs).mp) rfl rfl 3 (by decide) rfl kw_118 (fun _ h9 => h9) dX10_climbsUpTo_16 (fun v9 h9 => ?_)
  obtain ⟨v16, rfl, l_v16, u_v16⟩ := h9
  refine lv_iand hx hb dX10_climbsUpTo_19 ?_
  refine lv_topi (fun v19 ev19 => ?_)
  have tv19 : 0 ≤ v19.toInt ∧ v19.toInt ≤ v16.toInt := by rw [ev19]; exact and_r (by omega)
  refine lv_istore (lv' := [(5, .int v19), (4, .int v8), (0, .ref a0), (1, .ref a1), (2, .int x2), (3, .int x3)]) hx hb dX10_climbsUpTo_20 hl (by decide) rfl (fun ls hl => ?_)
  refine lv_iload_n hx hb dX10_climbsUpTo_22 rfl (lv_at hl 4 rfl) ?_
  refine lv_iload hx hb dX10_climbsUpTo_23 (lv_at hl 1 rfl) ?_
  refine lv_iconst (v := (-1)) hx hb dX10_climbsUpTo_25 (by decide) ?_
  refine lv_ixor hx hb dX10_climbsUpTo_26 ?_
  refine lv_topi (fun v26 ev26 => ?_)
  refine lv_iand hx hb dX10_climbsUpTo_27 ?_
  refine lv_topi (fun v27 ev27 => ?_)
  refine lv_istore (lv' := [(6, .int v27), (5, .int v19), (4, .int v8), (0, .ref a0), (1, .ref a1), (2, .int x2), (3, .int x3)]) hx hb dX10_climbsUpTo_28 hl (by decide) rfl (fun ls hl => ?_)
  refine lv_aload_n hx hb dX10_climbsUpTo_30 rfl (lv_at hl 3 rfl) ?_
  refine lv_iconst (v := 0) hx hb dX10_climbsUpTo_31 (by decide) ?_
  refine x_put (ci := 10) (v := .int 0) (ty := tyX10 6) (C := RX10) (F := TX10) (N := 7) hx hb hts uX10 tyX10 tyX10_ok nmX10 hown hkb hH hS rfl 6 (by decide) kw_279 (fun _ h9 => h9) rfl (tyX10_ok 6 (by decide)) rfl rfl (Nat.le_of_ble_eq_true rfl) dX10_climbsUpTo_32 (fun H locs hH hS => ?_)
  have hH : HT D cs A T (a0 :: O) ((a0, .inr (10, [.ref q0_0, .ref q0_1, .int q0_2, .ref q0_3, .ref q0_4, .ref q0_5, .int 0])) :: X) H := hH
  refine lv_iconst (v := 0) hx hb dX10_climbsUpTo_35 (by decide) ?_
  have J38 : ∀ (n : Nat) (p38_7 : Int32) (f38_6 : Int32) (H : Heap) (locs : List Loc) (ls : Array Slot), (14 - p38_7.toInt).toNat = n → (0 ≤ p38_7.toInt) → (p38_7.toInt ≤ 14) → (0 ≤ f38_6.toInt) → (f38_6.toInt ≤ 14) → (f38_6.toInt ≤ p38_7.toInt) → HT D cs A T (a0 :: O) ((a0, .inr (10, [.ref q0_0, .ref q0_1, .int q0_2, .ref q0_3, .ref q0_4, .ref q0_5, .int f38_6])) :: X) H → va_S A s.heap H locs → lv_has ls 10 [(7, .int p38_7), (6, .int v27), (5, .int v19), (4, .int v8), (0, .ref a0), (1, .ref a1), (3, .int x3)] → W p l e { frames := 9, cells := 0, slots := 0, locals := 241 } s m [.ref a0, .ref a1, .int x2, .int x3].toArray below meth c H locs 0 0 (MQ below (Tl D cs (fun _ u => u = (T, O, X)) A) [.ref a0, .ref a1, .int x2, .int x3].toArray s 0 0 A) (F0 m 38 ls []) := by
    intro n
    induction n using Nat.strongRecOn with
    | _ n ih38 =>
      intro p38_7 f38_6 H locs ls hm38 l_p38_7 u_p38_7 l_f38_6 u_f38_6 i38 hH hS hl
      refine lv_iload hx hb dX10_climbsUpTo_38 (lv_at hl 0 rfl) ?_
      refine lv_bipush (v := 14) hx hb dX10_climbsUpTo_40 (by decide) ?_
      refine lv_icmp_ge (tgt := 88) hx hb dX10_climbsUpTo_42 (by decide) (fun c42 => ?_) (fun c42 => ?_)
      · skip
        have tc42 := f_ge (k := 14) (by decide) c42
        refine lv_iload hx hb dX10_climbsUpTo_88 (lv_at hl 2 rfl) ?_
        refine lv_iload hx hb dX10_climbsUpTo_90 (lv_at hl 3 rfl) ?_
        refine lv_iand hx hb dX10_climbsUpTo_92 ?_
        refine lv_topi (fun v92 ev92 => ?_)
        have tv92 : 0 ≤ v92.toInt ∧ v92.toInt ≤ v19.toInt := by rw [ev92]; exact and_l (by omega)
        have ttv92 : 0 ≤ v92.toInt ∧ v92.toInt ≤ v8.toInt := by rw [ev92]; exact and_r (by omega)
        refine tk_i hH hS hA (tr_S (n := 1) (As := [.int v92]) hx hb hml hown hts hkb hH (ox_c hOX) hks hE hS hA (s_bitCount l D cs kf T (a0 :: O) ((a0, .inr (10, [.ref q0_0, .ref q0_1, .int q0_2, .ref q0_3, .ref q0_4, .ref q0_5, .int f38_6])) :: X) v92  (hO.sub (by decide))) kw_1001 kw_692 kw_20 kw_693 (by decide +kernel) ⟨Nat.le_of_ble_eq_true rfl, Nat.le_of_ble_eq_true rfl⟩ rfl rfl hl.1 (Nat.le_of_ble_eq_true rfl) dX10_climbsUpTo_93 ⟨Nat.le_of_ble_eq_true rfl, Nat.le_of_ble_eq_true rfl⟩) (fun v93 u H locs hz9 hH hS => ?_)
        obtain ⟨rfl, l_v93, u_v93⟩ := hz9
        have hH : HT D cs A T (a0 :: O) ((a0, .inr (10, [.ref q0_0, .ref q0_1, .int q0_2, .ref q0_3, .ref q0_4, .ref q0_5, .int f38_6])) :: X) H := hH
        refine W.widen (k := 0) (n := 0) (Nat.le_of_ble_eq_true rfl) (Nat.le_of_ble_eq_true rfl) ?_
        refine lv_i2l hx hb dX10_climbsUpTo_96 rfl ?_
        refine lv_lstore (lv' := [(7, .long v93.toInt64), (6, .int v27), (5, .int v19), (4, .int v8), (0, .ref a0), (1, .ref a1), (3, .int x3)]) hx hb dX10_climbsUpTo_97 hl (by decide) rfl (fun ls hl => ?_)
        refine lv_iconst (v := 0) hx hb dX10_climbsUpTo_99 (by decide) ?_
        have J102 : ∀ (n : Nat) (p102_9 : Int32) (p102_7 : Int64) (f102_0 : Nat) (f102_1 : Nat) (f102_2 : Int32) (f102_3 : Nat) (f102_4 : Nat) (f102_5 : Nat) (f102_6 : Int32) (H : Heap) (locs : List Loc) (ls : Array Slot), (14 - p102_9.toInt).toNat = n → (T f102_0 = some (1, 14, 1)) → (T f102_1 = some (1, 14, 0)) → (T f102_3 = some (2, 14, 0)) → (T f102_4 = some (1, 14, 0)) → (T f102_5 = some (1, 14, 0)) → (0 ≤ p102_9.toInt) → (p102_9.toInt ≤ 14) → (0 ≤ f102_2.toInt) → (f102_2.toInt ≤ 14) → (0 ≤ f102_6.toInt) → (f102_6.toInt ≤ 14) → HT D cs A T (a0 :: O) ((a0, .inr (10, [.ref f102_0, .ref f102_1, .int f102_2, .ref f102_3, .ref f102_4, .ref f102_5, .int f102_6])) :: X) H → va_S A s.heap H locs → lv_has ls 10 [(9, .int p102_9), (7, .long p102_7), (6, .int v27), (5, .int v19), (0, .ref a0), (1, .ref a1), (3, .int x3)] → W p l e { frames := 9, cells := 0, slots := 0, locals := 241 } s m [.ref a0, .ref a1, .int x2, .int x3].toArray below meth c H locs 0 0 (MQ below (Tl D cs (fun _ u => u = (T, O, X)) A) [.ref a0, .ref a1, .int x2, .int x3].toArray s 0 0 A) (F0 m 102 ls []) := by
          intro n
          induction n using Nat.strongRecOn with
          | _ n ih102 =>
            intro p102_9 p102_7 f102_0 f102_1 f102_2 f102_3 f102_4 f102_5 f102_6 H locs ls hm102 t_f102_0 t_f102_1 t_f102_3 t_f102_4 t_f102_5 l_p102_9 u_p102_9 l_f102_2 u_f102_2 l_f102_6 u_f102_6 hH hS hl
            refine lv_iload hx hb dX10_climbsUpTo_102 (lv_at hl 0 rfl) ?_
            refine lv_bipush (v := 14) hx hb dX10_climbsUpTo_104 (by decide) ?_
            refine lv_icmp_ge (tgt := 152) hx hb dX10_climbsUpTo_106 (by decide) (fun c106 => ?_) (fun c106 => ?_)
            · skip
              have tc106 := f_ge (k := 14) (by decide) c106
              refine lv_lload hx hb dX10_climbsUpTo_152 (lv_at hl 1 rfl) ?_
              have hH : HT D cs A T O X H := HT.lay (ci := 10) hH t_a0 (okL_c (⟨_, rfl, t_f102_0⟩) (okL_c (⟨_, rfl, t_f102_1⟩) (okL_c (⟨_, rfl, by omega, by omega⟩) (okL_c (⟨_, rfl, t_f102_3⟩) (okL_c (⟨_, rfl, t_f102_4⟩) (okL_c (⟨_, rfl, t_f102_5⟩) (okL_c (⟨_, rfl, by omega, by omega⟩) (okL_n))))))))
              have hO := hO0
              exact te_l hx hb hr hlocks hH hS rfl dX10_climbsUpTo_154
            · skip
              have tc106 := f_nge (k := 14) (by decide) c106
              refine lv_iload hx hb dX10_climbsUpTo_109 (lv_at hl 3 rfl) ?_
              refine lv_iload hx hb dX10_climbsUpTo_111 (lv_at hl 2 rfl) ?_
              refine lv_iand hx hb dX10_climbsUpTo_113 ?_
              refine lv_topi (fun v113 ev113 => ?_)
              have tv113 : 0 ≤ v113.toInt ∧ v113.toInt ≤ v19.toInt := by rw [ev113]; exact and_l (by omega)
              refine lv_iload hx hb dX10_climbsUpTo_114 (lv_at hl 0 rfl) ?_
              refine lv_ishr hx hb dX10_climbsUpTo_116 ?_
              refine lv_topi (fun v116 ev116 => ?_)
              have tv116 : 0 ≤ v116.toInt ∧ v116.toInt ≤ v113.toInt := by rw [ev116]; exact shr_b (by omega)
              refine lv_iconst (v := 1) hx hb dX10_climbsUpTo_117 (by decide) ?_
              refine lv_iand hx hb dX10_climbsUpTo_118 ?_
              refine lv_topi (fun v118 ev118 => ?_)
              have tv118 : 0 ≤ v118.toInt ∧ v118.toInt ≤ 1 := by rw [ev118]; exact and_r (by decide)
              have J146 : ∀ (p146_7 : Int64) (f146_0 : Nat) (f146_1 : Nat) (f146_2 : Int32) (f146_3 : Nat) (f146_4 : Nat) (f146_5 : Nat) (f146_6 : Int32) (H : Heap) (locs : List Loc) (ls : Array Slot), (T f146_0 = some (1, 14, 1)) → (T f146_1 = some (1, 14, 0)) → (T f146_3 = some (2, 14, 0)) → (T f146_4 = some (1, 14, 0)) → (T f146_5 = some (1, 14, 0)) → (0 ≤ f146_2.toInt) → (f146_2.toInt ≤ 14) → (0 ≤ f146_6.toInt) → (f146_6.toInt ≤ 14) → HT D cs A T (a0 :: O) ((a0, .inr (10, [.ref f146_0, .ref f146_1, .int f146_2, .ref f146_3, .ref f146_4, .ref f146_5, .int f146_6])) :: X) H → va_S A s.heap H locs → lv_has ls 10 [(9, .int p102_9), (7, .long p146_7), (6, .int v27), (5, .int v19), (0, .ref a0), (1, .ref a1), (3, .int x3)] → W p l e { frames := 9, cells := 0, slots := 0, locals := 241 } s m [.ref a0, .ref a1, .int x2, .int x3].toArray below meth c H locs 0 0 (MQ below (Tl D cs (fun _ u => u = (T, O, X)) A) [.ref a0, .ref a1, .int x2, .int x3].toArray s 0 0 A) (F0 m 146 ls []) := by
                intro p146_7 f146_0 f146_1 f146_2 f146_3 f146_4 f146_5 f146_6 H locs ls t_f146_0 t_f146_1 t_f146_3 t_f146_4 t_f146_5 l_f146_2 u_f146_2 l_f146_6 u_f146_6 hH hS hl
                obtain ⟨v146, ev146⟩ : ∃ y : Int32, y = p102_9 + 1 := ⟨_, rfl⟩
                have tv146 : v146.toInt = p102_9.toInt + (1) := by rw [ev146]; exact add_i rfl (by decide) (by omega) (by omega)
                refine lv_iinc (v := v146) (lv' := [(9, .int v146), (7, .long p146_7), (6, .int v27), (5, .int v19), (0, .ref a0), (1, .ref a1), (3, .int x3)]) hx hb dX10_climbsUpTo_146 hl (k := 0) rfl (by rw [ev146]; rfl) (by decide) rfl (fun ls hl => ?_)
                refine lv_goto (tgt := 102) hx hb dX10_climbsUpTo_149 (by decide) ?_
                exact ih102 _ (by omega) v146 p146_7 f146_0 f146_1 f146_2 f146_3 f146_4 f146_5 f146_6 _ _ _ rfl t_f146_0 t_f146_1 t_f146_3 t_f146_4 t_f146_5 (by omega) (by omega) (by omega) (by omega) (by omega) (by omega) hH hS (lv_sub hl [0, 1, 2, 3, 4, 5, 6] rfl)
              refine lv_if_eq (tgt := 146) hx hb dX10_climbsUpTo_119 (by decide) (fun c119 => ?_) (fun c119 => ?_)
              · skip
                have tc119 := f_eq (k := 0) (by decide) c119
                exact J146 p102_7 f102_0 f102_1 f102_2 f102_3 f102_4 f102_5 f102_6 _ _ _ t_f102_0 t_f102_1 t_f102_3 t_f102_4 t_f102_5 (by omega) (by omega) (by omega) (by omega) hH hS (lv_sub hl [0, 1, 2, 3, 4, 5, 6] rfl)
              · skip
                have tc119 := f_ne (k := 0) (by decide) c119
                refine lv_lload hx hb dX10_climbsUpTo_122 (lv_at hl 1 rfl) ?_
                refine lv_aload_n hx hb dX10_climbsUpTo_124 rfl (lv_at hl 4 rfl) ?_
                refine lv_aload_n hx hb dX10_climbsUpTo_125 rfl (lv_at hl 5 rfl) ?_
                refine lv_iload hx hb dX10_climbsUpTo_126 (lv_at hl 0 rfl) ?_
                refine lv_iload hx hb dX10_climbsUpTo_128 (lv_at hl 2 rfl) ?_
                refine lv_iconst (v := 1) hx hb dX10_climbsUpTo_130 (by decide) ?_
                refine lv_iload hx hb dX10_climbsUpTo_131 (lv_at hl 0 rfl) ?_
                refine lv_ishl hx hb dX10_climbsUpTo_133 ?_
                refine lv_topi (fun v133 ev133 => ?_)
                have tv133 : 1 ≤ v133.toInt ∧ v133.toInt ≤ 8192 := by rw [ev133]; exact shl_b 13 (by decide) (by omega) (by omega)
                refine lv_iconst (v := (-1)) hx hb dX10_climbsUpTo_134 (by decide) ?_
                refine lv_ixor hx hb dX10_climbsUpTo_135 ?_
                refine lv_topi (fun v135 ev135 => ?_)
                refine lv_iand hx hb dX10_climbsUpTo_136 ?_
                refine lv_topi (fun v136 ev136 => ?_)
                refine lv_iload_n hx hb dX10_climbsUpTo_137 rfl (lv_at hl 6 rfl) ?_
                refine lv_iconst (v := 1) hx hb dX10_climbsUpTo_138 (by decide) ?_
                refine lv_isub hx hb dX10_climbsUpTo_139 ?_
                refine lv_topi (fun v139 ev139 => ?_)
                have tv139 : v139.toInt = x3.toInt - (1) := by rw [ev139]; exact sub_i rfl (by decide : (1 : Int32).toInt = 1) (by omega) (by omega)
                have hH : HT D cs A T O X H := HT.lay (ci := 10) hH t_a0 (okL_c (⟨_, rfl, t_f102_0⟩) (okL_c (⟨_, rfl, t_f102_1⟩) (okL_c (⟨_, rfl, by omega, by omega⟩) (okL_c (⟨_, rfl, t_f102_3⟩) (okL_c (⟨_, rfl, t_f102_4⟩) (okL_c (⟨_, rfl, t_f102_5⟩) (okL_c (⟨_, rfl, by omega, by omega⟩) (okL_n))))))))
                have hO := hO0
                refine tk_l hH hS hA (tr_V (n := 4) (As := [.ref a1, .int p102_9, .int v136, .int v139]) hx hb hml hown hts hkb hH hOX hks hE hS hA (s_Ways_climbsOn6 l D cs kf T O X a0 a1 p102_9 v136 v139 t_a0 t_a1 (by omega) (hO.sub (by decide))) kw_1002 kw_1004 ks_30 kw_9 kw_1005 (by decide +kernel) ⟨Nat.le_of_ble_eq_true rfl, Nat.le_of_ble_eq_true rfl⟩ (HT.recv (ci := 10) hkb hH t_a0 (hO.no t_a0 (by decide)) rfl) rfl rfl hl.1 (Nat.le_of_ble_eq_true rfl) dX10_climbsUpTo_140 ⟨Nat.le_of_ble_eq_true rfl, Nat.le_of_ble_eq_true rfl⟩) (fun v140 u H locs hz9 hH hS => ?_)
                have hz9 : u = (T, O, X) := hz9
                subst hz9
                have hH : HT D cs A T O X H := hH
                obtain ⟨fs9, ho9, hH⟩ := hH.take t_a0 (hO0.no t_a0 (by decide))
                have hp0 : okL T (ft10 0 0) fs9 := ho9
                clear ho9
                obtain ⟨v9, fs9, rfl, h9, hp1⟩ := okL_i hp0
                obtain ⟨q140_0, rfl, t_q140_0⟩ := h9
                obtain ⟨v9, fs9, rfl, h9, hp2⟩ := okL_i hp1
                obtain ⟨q140_1, rfl, t_q140_1⟩ := h9
                obtain ⟨v9, fs9, rfl, h9, hp3⟩ := okL_i hp2
                obtain ⟨q140_2, rfl, l_q140_2, u_q140_2⟩ := h9
                obtain ⟨v9, fs9, rfl, h9, hp4⟩ := okL_i hp3
                obtain ⟨q140_3, rfl, t_q140_3⟩ := h9
                obtain ⟨v9, fs9, rfl, h9, hp5⟩ := okL_i hp4
                obtain ⟨q140_4, rfl, t_q140_4⟩ := h9
                obtain ⟨v9, fs9, rfl, h9, hp6⟩ := okL_i hp5
                obtain ⟨q140_5, rfl, t_q140_5⟩ := h9
                obtain ⟨v9, fs9, rfl, h9, hp7⟩ := okL_i hp6
                obtain ⟨q140_6, rfl, l_q140_6, u_q140_6⟩ := h9
                have hpz := okL_z hp7
                subst hpz
                have hH : HT D cs A T (a0 :: O) ((a0, .inr (10, [.ref q140_0, .ref q140_1, .int q140_2, .ref q140_3, .ref q140_4, .ref q140_5, .int q140_6])) :: X) H := hH
                have hO : okO T (a0 :: O) [1, 12, 15, 19] := okO.cons (hO0.sub (by decide)) t_a0 (by decide)
                refine W.widen (k := 0) (n := 0) (Nat.le_of_ble_eq_true rfl) (Nat.le_of_ble_eq_true rfl) ?_
                refine lv_ladd hx hb dX10_climbsUpTo_143 ?_
                refine lv_topl (fun v143 ev143 => ?_)
                refine lv_lstore (lv' := [(7, .long v143), (9, .int p102_9), (6, .int v27), (5, .int v19), (0, .ref a0), (1, .ref a1), (3, .int x3)]) hx hb dX10_climbsUpTo_144 hl (by decide) rfl (fun ls hl => ?_)
                exact J146 v143 q140_0 q140_1 q140_2 q140_3 q140_4 q140_5 q140_6 _ _ _ t_q140_0 t_q140_1 t_q140_3 t_q140_4 t_q140_5 (by omega) (by omega) (by omega) (by omega) hH hS (lv_sub hl [1, 0, 2, 3, 4, 5, 6] rfl)
        refine lv_istore (lv' := [(9, .int 0), (7, .long v93.toInt64), (6, .int v27), (5, .int v19), (4, .int v8), (0, .ref a0), (1, .ref a1), (3, .int x3)]) hx hb dX10_climbsUpTo_100 hl (by decide) rfl (fun ls hl => ?_)
        exact J102 _ 0 v93.toInt64 q0_0 q0_1 q0_2 q0_3 q0_4 q0_5 f38_6 _ _ _ rfl t_q0_0 t_q0_1 t_q0_3 t_q0_4 t_q0_5 (by decide) (by decide) (by omega) (by omega) (by omega) (by omega) hH hS (lv_sub hl [0, 1, 2, 3, 5, 6, 7] rfl)
      · skip
        have tc42 := f_nge (k := 14) (by decide) c42
        refine lv_iload hx hb dX10_climbsUpTo_45 (lv_at hl 3 rfl) ?_
        refine lv_iload hx hb dX10_climbsUpTo_47 (lv_at hl 0 rfl) ?_
        refine lv_ishr hx hb dX10_climbsUpTo_49 ?_
        refine lv_topi (fun v49 ev49 => ?_)
        have tv49 : 0 ≤ v49.toInt ∧ v49.toInt ≤ v8.toInt := by rw [ev49]; exact shr_b (by omega)
        refine lv_iconst (v := 1) hx hb dX10_climbsUpTo_50 (by decide) ?_
        refine lv_iand hx hb dX10_climbsUpTo_51 ?_
        refine lv_topi (fun v51 ev51 => ?_)
        have tv51 : 0 ≤ v51.toInt ∧ v51.toInt ≤ 1 := by rw [ev51]; exact and_r (by decide)
        have J82 : ∀ (f82_6 : Int32) (H : Heap) (locs : List Loc) (ls : Array Slot), (0 ≤ f82_6.toInt) → (f82_6.toInt ≤ 14) → (f82_6.toInt ≤ p38_7.toInt + 1) → HT D cs A T (a0 :: O) ((a0, .inr (10, [.ref q0_0, .ref q0_1, .int q0_2, .ref q0_3, .ref q0_4, .ref q0_5, .int f82_6])) :: X) H → va_S A s.heap H locs → lv_has ls 10 [(7, .int p38_7), (6, .int v27), (5, .int v19), (4, .int v8), (0, .ref a0), (1, .ref a1), (3, .int x3)] → W p l e { frames := 9, cells := 0, slots := 0, locals := 241 } s m [.ref a0, .ref a1, .int x2, .int x3].toArray below meth c H locs 0 0 (MQ below (Tl D cs (fun _ u => u = (T, O, X)) A) [.ref a0, .ref a1, .int x2, .int x3].toArray s 0 0 A) (F0 m 82 ls []) := by
          intro f82_6 H locs ls l_f82_6 u_f82_6 i82 hH hS hl
          obtain ⟨v82, ev82⟩ : ∃ y : Int32, y = p38_7 + 1 := ⟨_, rfl⟩
          have tv82 : v82.toInt = p38_7.toInt + (1) := by rw [ev82]; exact add_i rfl (by decide) (by omega) (by omega)
          refine lv_iinc (v := v82) (lv' := [(7, .int v82), (6, .int v27), (5, .int v19), (4, .int v8), (0, .ref a0), (1, .ref a1), (3, .int x3)]) hx hb dX10_climbsUpTo_82 hl (k := 0) rfl (by rw [ev82]; rfl) (by decide) rfl (fun ls hl => ?_)
          refine lv_goto (tgt := 38) hx hb dX10_climbsUpTo_85 (by decide) ?_
          exact ih38 _ (by omega) v82 f82_6 _ _ _ rfl (by omega) (by omega) (by omega) (by omega) (by omega) hH hS (lv_sub hl [0, 1, 2, 3, 4, 5, 6] rfl)
        refine lv_if_eq (tgt := 82) hx hb dX10_climbsUpTo_52 (by decide) (fun c52 => ?_) (fun c52 => ?_)
        · skip
          have tc52 := f_eq (k := 0) (by decide) c52
          exact J82 f38_6 _ _ _ (by omega) (by omega) (by omega) hH hS (lv_sub hl [0, 1, 2, 3, 4, 5, 6] rfl)
        · skip
          have tc52 := f_ne (k := 0) (by decide) c52
          refine lv_aload_n hx hb dX10_climbsUpTo_55 rfl (lv_at hl 4 rfl) ?_
          refine x_get (ci := 10) (C := RX10) (F := TX10) (N := 7) (v := .ref q0_5) hx hb hts uX10 hown hkb hH rfl 5 (by decide) rfl kw_278 (fun _ h9 => h9) dX10_climbsUpTo_56 ?_
          refine lv_aload_n hx hb dX10_climbsUpTo_59 rfl (lv_at hl 4 rfl) ?_
          refine x_get (ci := 10) (C := RX10) (F := TX10) (N := 7) (v := .int f38_6) hx hb hts uX10 hown hkb hH rfl 6 (by decide) rfl kw_279 (fun _ h9 => h9) dX10_climbsUpTo_60 ?_
          refine lv_aload_n hx hb dX10_climbsUpTo_63 rfl (lv_at hl 5 rfl) ?_
          refine lv_iload hx hb dX10_climbsUpTo_64 (lv_at hl 1 rfl) ?_
          refine lv_iload hx hb dX10_climbsUpTo_66 (lv_at hl 0 rfl) ?_
          refine tk_i hH hS hA (tr_S (n := 3) (As := [.ref a1, .int v27, .int p38_7]) hx hb hml hown hts hkb hH (ox_c hOX) hks hE hS hA (s_Ways_leadingTo l D cs kf T (a0 :: O) ((a0, .inr (10, [.ref q0_0, .ref q0_1, .int q0_2, .ref q0_3, .ref q0_4, .ref q0_5, .int f38_6])) :: X) a1 v27 p38_7 t_a1 (hO.sub (by decide))) kw_998 kw_999 kw_9 kw_1000 (by decide +kernel) ⟨Nat.le_of_ble_eq_true rfl, Nat.le_of_ble_eq_true rfl⟩ rfl rfl hl.1 (Nat.le_of_ble_eq_true rfl) dX10_climbsUpTo_68 ⟨Nat.le_of_ble_eq_true rfl, Nat.le_of_ble_eq_true rfl⟩) (fun v68 u H locs hz9 hH hS => ?_)
          obtain ⟨rfl, l_v68, u_v68⟩ := hz9
          have hH : HT D cs A T (a0 :: O) ((a0, .inr (10, [.ref q0_0, .ref q0_1, .int q0_2, .ref q0_3, .ref q0_4, .ref q0_5, .int f38_6])) :: X) H := hH
          refine W.widen (k := 0) (n := 0) (Nat.le_of_ble_eq_true rfl) (Nat.le_of_ble_eq_true rfl) ?_
          refine t_ist hx hb hkb hH hS t_q0_5 (hO.no t_q0_5 (by decide)) (by omega) (by omega) (cp_0 _) dX10_climbsUpTo_71 (fun H locs hH hS => ?_)
          refine lv_aload_n hx hb dX10_climbsUpTo_72 rfl (lv_at hl 4 rfl) ?_
          refine lv_dup hx hb dX10_climbsUpTo_73 rfl ?_
          refine x_get (ci := 10) (C := RX10) (F := TX10) (N := 7) (v := .int f38_6) hx hb hts uX10 hown hkb hH rfl 6 (by decide) rfl kw_279 (fun _ h9 => h9) dX10_climbsUpTo_74 ?_
          refine lv_iconst (v := 1) hx hb dX10_climbsUpTo_77 (by decide) ?_
          refine lv_iadd hx hb dX10_climbsUpTo_78 ?_
          refine lv_topi (fun v78 ev78 => ?_)
          have tv78 : v78.toInt = f38_6.toInt + (1) := by rw [ev78]; exact add_i rfl (by decide : (1 : Int32).toInt = 1) (by omega) (by omega)
          refine x_put (ci := 10) (v := .int v78) (ty := tyX10 6) (C := RX10) (F := TX10) (N := 7) hx hb hts uX10 tyX10 tyX10_ok nmX10 hown hkb hH hS rfl 6 (by decide) kw_279 (fun _ h9 => h9) rfl (tyX10_ok 6 (by decide)) rfl rfl (Nat.le_of_ble_eq_true rfl) dX10_climbsUpTo_79 (fun H locs hH hS => ?_)
          have hH : HT D cs A T (a0 :: O) ((a0, .inr (10, [.ref q0_0, .ref q0_1, .int q0_2, .ref q0_3, .ref q0_4, .ref q0_5, .int v78])) :: X) H := hH
          exact J82 v78 _ _ _ (by omega) (by omega) (by omega) hH hS (lv_sub hl [0, 1, 2, 3, 4, 5, 6] rfl)
  refine lv_istore (lv' := [(7, .int 0), (6, .int v27), (5, .int v19), (4, .int v8), (0, .ref a0), (1, .ref a1), (2, .int x2), (3, .int x3)]) hx hb dX10_climbsUpTo_36 hl (by decide) rfl (fun ls hl => ?_)
  have z_0 : (0 : Int32).toInt = 0 := by decide
  exact J38 _ 0 0 _ _ _ rfl (by decide) (by decide) (by decide) (by decide) (by omega) hH hS (lv_sub hl [0, 1, 2, 3, 4, 5, 7] rfl)
set_option maxHeartbeats 4000000 in
set_option maxRecDepth 100000 in
theorem s_FW_climbs (l : Launch) (D : va_G) (cs : CS) (kf : KF) (T : TF) (O : List Nat) (X : va_W) (a0 w hw gw ch gq : Nat) (x1 : Int32) (x2 : Int32) (t_a0 : T a0 = some (21, w, ch)) (t_w : isW T w hw gw) (t_ch : T ch = some (10, gq, 0)) (hO : okO T O [1, 7, 12, 15, 16, 19, 20, 21]) : TK l D cs kf yX11_climbs cX11_climbs 3 (some (.long)) { frames := 10, cells := 0, slots := 0, locals := 270 } [.ref a0, .int x1, .int x2] T O X (Tl D cs (fun _ u => u = (T, O, X))) := by
  refine tk_of (by decide) (Nat.le_of_ble_eq_true rfl) (fun p e s m below meth c ls A H locs hx hb hr hml hown hts hlocks hnm hkb hH hS hA hOX hks hE hl => ?_)
  have hown : s.vm.findClass RX11 = some m.cls := hown
  have hl : lv_has ls 3 [(0, .ref a0), (1, .int x1), (2, .int x2)] := hl
  have b1_w := t_w.2.1
  have b2_w := t_w.2.2
  refine lv_aload_n hx hb dX11_climbs_0 rfl (lv_at hl 0 rfl) ?_
  refine lv_iload_n hx hb dX11_climbs_1 rfl (lv_at hl 1 rfl) ?_
  refine tk_i hH hS hA (tr_V (n := 1) (As := [.int x1]) hx hb hml hown hts hkb hH hOX hks hE hS hA (s_FW_isGuide l D cs kf T O X a0 w hw gw ch gq x1 t_a0 t_w t_ch (hO.sub (by decide))) kw_794 kw_796 ks_20 kw_1 kw_797 (by decide +kernel) ⟨Nat.le_of_ble_eq_true rfl, Nat.le_of_ble_eq_true rfl⟩ (HT.recv (ci := 11) hkb hH t_a0 (hO.no t_a0 (by decide)) rfl) rfl rfl hl.1 (Nat.le_of_ble_eq_true rfl) dX11_climbs_2 ⟨Nat.le_of_ble_eq_true rfl, Nat.le_of_ble_eq_true rfl⟩) (fun v2 u H locs hz9 hH hS => ?_)
  obtain ⟨rfl, l_v2, u_v2, x_v20⟩ := hz9
  have hH : HT D cs A T O X H := hH
  refine W.widen (k := 0) (n := 0) (Nat.le_of_ble_eq_true rfl) (Nat.le_of_ble_eq_true rfl) ?_
  refine lv_if_ne (tgt := 12) hx hb dX11_climbs_5 (by decide) (fun c5 => ?_) (fun c5 => ?_)
  · skip
    have tc5 := f_ne (k := 0) (by decide) c5
    refine lv_iload_n hx hb dX11_climbs_12 rfl (lv_at hl 2 rfl) ?_
    refine lv_iconst (v := 1) hx hb dX11_climbs_13 (by decide) ?_
    have J23 : ∀  (H : Heap) (locs : List Loc) (ls : Array Slot), HT D cs A T O X H → va_S A s.heap H locs → lv_has ls 3 [] → W p l e { frames := 10, cells := 0, slots := 0, locals := 270 } s m [.ref a0, .int x1, .int x2].toArray below meth c H locs 0 0 (MQ below (Tl D cs (fun _ u => u = (T, O, X)) A) [.ref a0, .int x1, .int x2].toArray s 0 0 A) (F0 m 23 ls []) := by
      intro  H locs ls  hH hS hl
      refine lv_ldc2 hx hb hown (hts _ kw_993) dX11_climbs_23 ?_
      exact te_l hx hb hr hlocks hH hS rfl dX11_climbs_26
    refine lv_icmp_lt (tgt := 23) hx hb dX11_climbs_14 (by decide) (fun c14 => ?_) (fun c14 => ?_)
    · skip
      have tc14 := f_lt (k := 1) (by decide) c14
      exact J23  _ _ _  hH hS (lv_sub hl [] rfl)
    · skip
      have tc14 := f_nlt (k := 1) (by decide) c14
      refine lv_iload_n hx hb dX11_climbs_17 rfl (lv_at hl 2 rfl) ?_
      refine lv_bipush (v := 7) hx hb dX11_climbs_18 (by decide) ?_
      refine lv_icmp_le (tgt := 27) hx hb dX11_climbs_20 (by decide) (fun c20 => ?_) (fun c20 => ?_)
      · skip
        have tc20 := f_le (k := 7) (by decide) c20
        refine lv_aload_n hx hb dX11_climbs_27 rfl (lv_at hl 0 rfl) ?_
        refine t_get (ci := 11) (lst := ft11 w ch) (C := RX11) (F := TX11) (N := 20) hx hb hts uX11 hown hkb hH t_a0 (hO.no t_a0 (by decide)) (fun _ h9 => h9) rfl rfl 14 (by decide) rfl kw_374 (fun _ h9 => h9) dX11_climbs_28 (fun v9 h9 => ?_)
        obtain ⟨v28, rfl, t_v28⟩ := h9
        refine lv_aload_n hx hb dX11_climbs_31 rfl (lv_at hl 0 rfl) ?_
        refine lv_iload_n hx hb dX11_climbs_32 rfl (lv_at hl 1 rfl) ?_
        refine tk_r hH hS hA (tr_V (n := 1) (As := [.int x1]) hx hb hml hown hts hkb hH hOX hks hE hS hA (s_FW_rowsOf l D cs kf T O X a0 w hw gw ch gq x1 t_a0 t_w t_ch (by omega) (by omega) (hO.sub (by decide))) kw_830 kw_832 ks_21 kw_1 kw_833 (by decide +kernel) ⟨Nat.le_of_ble_eq_true rfl, Nat.le_of_ble_eq_true rfl⟩ (HT.recv (ci := 11) hkb hH t_a0 (hO.no t_a0 (by decide)) rfl) rfl rfl hl.1 (Nat.le_of_ble_eq_true rfl) dX11_climbs_33 ⟨Nat.le_of_ble_eq_true rfl, Nat.le_of_ble_eq_true rfl⟩) (fun v33 u H locs hz9 hH hS => ?_)
        obtain ⟨hu9, t_v33⟩ := hz9
        have hu9 : u = (T, O, X) := hu9
        subst hu9
        have hH : HT D cs A T O X H := hH
        refine W.widen (k := 0) (n := 0) (Nat.le_of_ble_eq_true rfl) (Nat.le_of_ble_eq_true rfl) ?_
        refine lv_aload_n hx hb dX11_climbs_36 rfl (lv_at hl 0 rfl) ?_
        refine tk_i hH hS hA (tr_V (n := 0) (As := []) hx hb hml hown hts hkb hH hOX hks hE hS hA (s_FW_openNow l D cs kf T O X a0 w hw gw ch gq t_a0 t_w t_ch (hO.sub (by decide))) kw_846 kw_848 ks_22 kw_1 kw_849 (by decide +kernel) ⟨Nat.le_of_ble_eq_true rfl, Nat.le_of_ble_eq_true rfl⟩ (HT.recv (ci := 11) hkb hH t_a0 (hO.no t_a0 (by decide)) rfl) rfl rfl hl.1 (Nat.le_of_ble_eq_true rfl) dX11_climbs_37 ⟨Nat.le_of_ble_eq_true rfl, Nat.le_of_ble_eq_true rfl⟩) (fun v37 u H locs hz9 hH hS => ?_)
        obtain ⟨rfl, l_v37, u_v37⟩ := hz9
        have hH : HT D cs A T O X H := hH
        refine W.widen (k := 0) (n := 0) (Nat.le_of_ble_eq_true rfl) (Nat.le_of_ble_eq_true rfl) ?_
        refine lv_iload_n hx hb dX11_climbs_40 rfl (lv_at hl 2 rfl) ?_
        refine tk_l hH hS hA (tr_V (n := 3) (As := [.ref v33, .int v37, .int x2]) hx hb hml hown hts hkb hH hOX hks hE hS hA (s_Ways_climbsUpTo l D cs kf T O X v28 v33 v37 x2 t_v28 t_v33 (by omega) (by omega) (hO.sub (by decide))) kw_994 kw_995 kw_996 kw_9 kw_997 (by decide +kernel) ⟨Nat.le_of_ble_eq_true rfl, Nat.le_of_ble_eq_true rfl⟩ (HT.recv (ci := 10) hkb hH t_v28 (hO.no t_v28 (by decide)) rfl) rfl rfl hl.1 (Nat.le_of_ble_eq_true rfl) dX11_climbs_41 ⟨Nat.le_of_ble_eq_true rfl, Nat.le_of_ble_eq_true rfl⟩) (fun v41 u H locs hz9 hH hS => ?_)
        have hz9 : u = (T, O, X) := hz9
        subst hz9
        have hH : HT D cs A T O X H := hH
        refine W.widen (k := 0) (n := 0) (Nat.le_of_ble_eq_true rfl) (Nat.le_of_ble_eq_true rfl) ?_
        exact te_l hx hb hr hlocks hH hS rfl dX11_climbs_44
      · skip
        have tc20 := f_nle (k := 7) (by decide) c20
        exact J23  _ _ _  hH hS (lv_sub hl [] rfl)
  · skip
    have tc5 := f_eq (k := 0) (by decide) c5
    refine lv_ldc2 hx hb hown (hts _ kw_988) dX11_climbs_8 ?_
    exact te_l hx hb hr hlocks hH hS rfl dX11_climbs_11
