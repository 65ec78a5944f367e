set_option maxHeartbeats 4000000 in
set_option maxRecDepth 100000 in
theorem s_Ways_findLayers (l : Launch) (D : va_G) (cs : CS) (kf : KF) (T : TF) (O : List Nat) (X : va_W) (a0 : Nat) (a1 : Nat) (x2 : Int32) (t_a0 : T a0 = some (20, 0, 0)) (t_a1 : T a1 = some (15, 0, 0)) (hO : okO T O [1, 12, 15, 19, 20]) : TK l D cs kf yX10_findLayers cX10_findLayers 7 (some (.int)) { frames := 4, cells := 0, slots := 0, locals := 101 } [.ref a0, .ref a1, .int x2] T O X (Ti D cs (fun r u => u = (T, O, X) ∧ 0 ≤ r.toInt ∧ r.toInt ≤ 14)) := by
  refine tk_of (by decide) (Nat.le_of_ble_eq_true rfl) (fun p e s m below meth c ls A H locs hx hb hr hml hown hts hlocks hnm hkb hH hS hA hOX hks hE hl => ?_)
  have hown : s.vm.findClass RX10 = some m.cls := hown
  have hl : lv_has ls 7 [(0, .ref a0), (1, .ref a1), (2, .int x2)] := hl
  refine lv_aload_n hx hb dX10_findLayers_0 rfl (lv_at hl 1 rfl) ?_
  refine t_get (ci := 5) (lst := ft5 0 0) (C := RX5) (F := TX5) (N := 6) hx hb hts uX5 hown hkb hH t_a1 (hO.no t_a1 (by decide)) (fun _ h9 => h9) rfl rfl 0 (by decide) rfl kw_246 (fun _ h9 => h9) dX10_findLayers_1 (fun v9 h9 => ?_)
  obtain ⟨v1, hv1, gv1, rfl, t_v1⟩ := h9
  refine t_get (ci := 9) (lst := ft9w hv1 gv1) (C := RX9) (F := TX9) (N := 14) hx hb hts uX9 hown hkb hH t_v1.1 (hO.no t_v1.1 (by decide)) (fun fs => (ob9w t_v1 fs).mp) rfl rfl 3 (by decide) rfl kw_118 (fun _ h9 => h9) dX10_findLayers_4 (fun v9 h9 => ?_)
  obtain ⟨v4, rfl, l_v4, u_v4⟩ := h9
  refine lv_iload_n hx hb dX10_findLayers_7 rfl (lv_at hl 2 rfl) ?_
  refine lv_iand hx hb dX10_findLayers_8 ?_
  refine lv_topi (fun v8 ev8 => ?_)
  have tv8 : 0 ≤ v8.toInt ∧ v8.toInt ≤ v4.toInt := by rw [ev8]; exact and_l (by omega)
  refine lv_istore_n (lv' := [(3, .int v8), (0, .ref a0), (1, .ref a1), (2, .int x2)]) hx hb dX10_findLayers_9 rfl hl (by decide) rfl (fun ls hl => ?_)
  refine lv_aload_n hx hb dX10_findLayers_10 rfl (lv_at hl 1 rfl) ?_
  refine t_get (ci := 10) (lst := ft10 0 0) (C := RX10) (F := TX10) (N := 7) hx hb hts uX10 hown hkb hH t_a0 (hO.no t_a0 (by decide)) (fun _ h9 => h9) rfl rfl 0 (by decide) rfl kw_272 (fun _ h9 => h9) dX10_findLayers_11 (fun v9 h9 => ?_)
  obtain ⟨v11, rfl, t_v11⟩ := h9
  refine lv_iconst (v := 0) hx hb dX10_findLayers_14 (by decide) ?_
  refine lv_iload_n hx hb dX10_findLayers_15 rfl (lv_at hl 0 rfl) ?_
  refine t_ist hx hb hkb hH hS t_v11 (hO.no t_v11 (by decide)) (by decide) (by decide) (show 0 ≤ v8.toInt ∧ v8.toInt ≤ 16383 from by omega) dX10_findLayers_16 (fun H locs hH hS => ?_)
  refine lv_iconst (v := 0) hx hb dX10_findLayers_17 (by decide) ?_
  have J20 : ∀ (n : Nat) (p20_4 : Int32) (p20_3 : Int32) (H : Heap) (locs : List Loc) (ls : Array Slot), (14 - p20_4.toInt).toNat = n → (0 ≤ p20_4.toInt) → (p20_4.toInt ≤ 14) → (0 ≤ p20_3.toInt) → (p20_3.toInt ≤ 16383) → HT D cs A T O X H → va_S A s.heap H locs → lv_has ls 7 [(4, .int p20_4), (3, .int p20_3), (0, .ref a0), (1, .ref a1), (2, .int x2)] → W p l e { frames := 4, cells := 0, slots := 0, locals := 101 } s m [.ref a0, .ref a1, .int x2].toArray below meth c H locs 0 0 (MQ below (Ti D cs (fun r u => u = (T, O, X) ∧ 0 ≤ r.toInt ∧ r.toInt ≤ 14) A) [.ref a0, .ref a1, .int x2].toArray s 0 0 A) (F0 m 20 ls []) := by
    intro n
    induction n using Nat.strongRecOn with
    | _ n ih20 =>
      intro p20_4 p20_3 H locs ls hm20 l_p20_4 u_p20_4 l_p20_3 u_p20_3 hH hS hl
      refine lv_iload hx hb dX10_findLayers_20 (lv_at hl 0 rfl) ?_
      refine lv_bipush (v := 14) hx hb dX10_findLayers_22 (by decide) ?_
      refine lv_icmp_ge (tgt := 155) hx hb dX10_findLayers_24 (by decide) (fun c24 => ?_) (fun c24 => ?_)
      · skip
        have tc24 := f_ge (k := 14) (by decide) c24
        refine lv_iconst (v := 0) hx hb dX10_findLayers_155 (by decide) ?_
        exact te_i hx hb hr hlocks hH hS (⟨rfl, by decide, by decide⟩) dX10_findLayers_156
      · skip
        have tc24 := f_nge (k := 14) (by decide) c24
        refine lv_aload_n hx hb dX10_findLayers_27 rfl (lv_at hl 2 rfl) ?_
        refine t_get (ci := 10) (lst := ft10 0 0) (C := RX10) (F := TX10) (N := 7) hx hb hts uX10 hown hkb hH t_a0 (hO.no t_a0 (by decide)) (fun _ h9 => h9) rfl rfl 0 (by decide) rfl kw_272 (fun _ h9 => h9) dX10_findLayers_28 (fun v9 h9 => ?_)
        obtain ⟨v28, rfl, t_v28⟩ := h9
        refine lv_iload hx hb dX10_findLayers_31 (lv_at hl 0 rfl) ?_
        refine t_ild hx hb hkb hH t_v28 (hO.no t_v28 (by decide)) (by omega) (by omega) dX10_findLayers_33 (fun v33 h9 => ?_)
        have tv33 : 0 ≤ v33.toInt ∧ v33.toInt ≤ 16383 := h9
        refine lv_aload_n hx hb dX10_findLayers_34 rfl (lv_at hl 3 rfl) ?_
        refine t_get (ci := 5) (lst := ft5 0 0) (C := RX5) (F := TX5) (N := 6) hx hb hts uX5 hown hkb hH t_a1 (hO.no t_a1 (by decide)) (fun _ h9 => h9) rfl rfl 0 (by decide) rfl kw_246 (fun _ h9 => h9) dX10_findLayers_35 (fun v9 h9 => ?_)
        obtain ⟨v35, hv35, gv35, rfl, t_v35⟩ := h9
        refine t_get (ci := 9) (lst := ft9w hv35 gv35) (C := RX9) (F := TX9) (N := 14) hx hb hts uX9 hown hkb hH t_v35.1 (hO.no t_v35.1 (by decide)) (fun fs => (ob9w t_v35 fs).mp) rfl rfl 4 (by decide) rfl kw_126 (fun _ h9 => h9) dX10_findLayers_38 (fun v9 h9 => ?_)
        obtain ⟨v38, rfl, l_v38, u_v38⟩ := h9
        refine lv_iand hx hb dX10_findLayers_41 ?_
        refine lv_topi (fun v41 ev41 => ?_)
        have tv41 : 0 ≤ v41.toInt ∧ v41.toInt ≤ v33.toInt := by rw [ev41]; exact and_l (by omega)
        have ttv41 : 0 ≤ v41.toInt ∧ v41.toInt ≤ v38.toInt := by rw [ev41]; exact and_r (by omega)
        refine lv_if_eq (tgt := 67) hx hb dX10_findLayers_42 (by decide) (fun c42 => ?_) (fun c42 => ?_)
        · skip
          have tc42 := f_eq (k := 0) (by decide) c42
          refine lv_iconst (v := 0) hx hb dX10_findLayers_67 (by decide) ?_
          refine lv_istore (lv' := [(5, .int 0), (4, .int p20_4), (3, .int p20_3), (0, .ref a0), (1, .ref a1), (2, .int x2)]) hx hb dX10_findLayers_68 hl (by decide) rfl (fun ls hl => ?_)
          refine lv_iconst (v := 0) hx hb dX10_findLayers_70 (by decide) ?_
          have J73 : ∀ (n : Nat) (p73_6 : Int32) (p73_5 : Int32) (H : Heap) (locs : List Loc) (ls : Array Slot), (14 - p73_6.toInt).toNat = n → (0 ≤ p73_6.toInt) → (p73_6.toInt ≤ 14) → (0 ≤ p73_5.toInt) → (p73_5.toInt ≤ 16383) → HT D cs A T O X H → va_S A s.heap H locs → lv_has ls 7 [(6, .int p73_6), (5, .int p73_5), (4, .int p20_4), (3, .int p20_3), (0, .ref a0), (1, .ref a1), (2, .int x2)] → W p l e { frames := 4, cells := 0, slots := 0, locals := 101 } s m [.ref a0, .ref a1, .int x2].toArray below meth c H locs 0 0 (MQ below (Ti D cs (fun r u => u = (T, O, X) ∧ 0 ≤ r.toInt ∧ r.toInt ≤ 14) A) [.ref a0, .ref a1, .int x2].toArray s 0 0 A) (F0 m 73 ls []) := by
            intro n
            induction n using Nat.strongRecOn with
            | _ n ih73 =>
              intro p73_6 p73_5 H locs ls hm73 l_p73_6 u_p73_6 l_p73_5 u_p73_5 hH hS hl
              refine lv_iload hx hb dX10_findLayers_73 (lv_at hl 0 rfl) ?_
              refine lv_bipush (v := 14) hx hb dX10_findLayers_75 (by decide) ?_
              refine lv_icmp_ge (tgt := 117) hx hb dX10_findLayers_77 (by decide) (fun c77 => ?_) (fun c77 => ?_)
              · skip
                have tc77 := f_ge (k := 14) (by decide) c77
                refine lv_iload hx hb dX10_findLayers_117 (lv_at hl 1 rfl) ?_
                have J131 : ∀  (H : Heap) (locs : List Loc) (ls : Array Slot), HT D cs A T O X H → va_S A s.heap H locs → lv_has ls 7 [] → W p l e { frames := 4, cells := 0, slots := 0, locals := 101 } s m [.ref a0, .ref a1, .int x2].toArray below meth c H locs 0 0 (MQ below (Ti D cs (fun r u => u = (T, O, X) ∧ 0 ≤ r.toInt ∧ r.toInt ≤ 14) A) [.ref a0, .ref a1, .int x2].toArray s 0 0 A) (F0 m 131 ls []) := by
                  intro  H locs ls  hH hS hl
                  refine lv_iconst (v := 0) hx hb dX10_findLayers_131 (by decide) ?_
                  exact te_i hx hb hr hlocks hH hS (⟨rfl, by decide, by decide⟩) dX10_findLayers_132
                refine lv_if_eq (tgt := 131) hx hb dX10_findLayers_119 (by decide) (fun c119 => ?_) (fun c119 => ?_)
                · skip
                  have tc119 := f_eq (k := 0) (by decide) c119
                  exact J131  _ _ _  hH hS (lv_sub hl [] rfl)
                · skip
                  have tc119 := f_ne (k := 0) (by decide) c119
                  refine lv_iload hx hb dX10_findLayers_122 (lv_at hl 2 rfl) ?_
                  refine lv_iconst (v := 1) hx hb dX10_findLayers_124 (by decide) ?_
                  refine lv_iadd hx hb dX10_findLayers_125 ?_
                  refine lv_topi (fun v125 ev125 => ?_)
                  have tv125 : v125.toInt = p20_4.toInt + (1) := by rw [ev125]; exact add_i rfl (by decide : (1 : Int32).toInt = 1) (by omega) (by omega)
                  refine lv_bipush (v := 14) hx hb dX10_findLayers_126 (by decide) ?_
                  refine lv_icmp_lt (tgt := 133) hx hb dX10_findLayers_128 (by decide) (fun c128 => ?_) (fun c128 => ?_)
                  · skip
                    have tc128 := f_lt (k := 14) (by decide) c128
                    refine lv_iload_n hx hb dX10_findLayers_133 rfl (lv_at hl 3 rfl) ?_
                    refine lv_iload hx hb dX10_findLayers_134 (lv_at hl 1 rfl) ?_
                    refine lv_ior hx hb dX10_findLayers_136 ?_
                    refine lv_topi (fun v136 ev136 => ?_)
                    have tv136 : 0 ≤ v136.toInt ∧ v136.toInt < 16384 := by rw [ev136]; exact or_b 14 (by decide) (by omega) (by omega) (by omega) (by omega)
                    refine lv_istore_n (lv' := [(3, .int v136), (6, .int p73_6), (5, .int p73_5), (4, .int p20_4), (0, .ref a0), (1, .ref a1), (2, .int x2)]) hx hb dX10_findLayers_137 rfl hl (by decide) rfl (fun ls hl => ?_)
                    refine lv_aload_n hx hb dX10_findLayers_138 rfl (lv_at hl 4 rfl) ?_
                    refine t_get (ci := 10) (lst := ft10 0 0) (C := RX10) (F := TX10) (N := 7) hx hb hts uX10 hown hkb hH t_a0 (hO.no t_a0 (by decide)) (fun _ h9 => h9) rfl rfl 0 (by decide) rfl kw_272 (fun _ h9 => h9) dX10_findLayers_139 (fun v9 h9 => ?_)
                    obtain ⟨v139, rfl, t_v139⟩ := h9
                    refine lv_iload hx hb dX10_findLayers_142 (lv_at hl 3 rfl) ?_
                    refine lv_iconst (v := 1) hx hb dX10_findLayers_144 (by decide) ?_
                    refine lv_iadd hx hb dX10_findLayers_145 ?_
                    refine lv_topi (fun v145 ev145 => ?_)
                    have tv145 : v145.toInt = p20_4.toInt + (1) := by rw [ev145]; exact add_i rfl (by decide : (1 : Int32).toInt = 1) (by omega) (by omega)
                    refine lv_iload hx hb dX10_findLayers_146 (lv_at hl 2 rfl) ?_
                    refine t_ist hx hb hkb hH hS t_v139 (hO.no t_v139 (by decide)) (by omega) (by omega) (show 0 ≤ p73_5.toInt ∧ p73_5.toInt ≤ 16383 from by omega) dX10_findLayers_148 (fun H locs hH hS => ?_)
                    obtain ⟨v149, ev149⟩ : ∃ y : Int32, y = p20_4 + 1 := ⟨_, rfl⟩
                    have tv149 : v149.toInt = p20_4.toInt + (1) := by rw [ev149]; exact add_i rfl (by decide) (by omega) (by omega)
                    refine lv_iinc (v := v149) (lv' := [(4, .int v149), (3, .int v136), (6, .int p73_6), (5, .int p73_5), (0, .ref a0), (1, .ref a1), (2, .int x2)]) hx hb dX10_findLayers_149 hl (k := 3) rfl (by rw [ev149]; rfl) (by decide) rfl (fun ls hl => ?_)
                    refine lv_goto (tgt := 20) hx hb dX10_findLayers_152 (by decide) ?_
                    exact ih20 _ (by omega) v149 v136 _ _ _ rfl (by omega) (by omega) (by omega) (by omega) hH hS (lv_sub hl [0, 1, 4, 5, 6] rfl)
                  · skip
                    have tc128 := f_nlt (k := 14) (by decide) c128
                    exact J131  _ _ _  hH hS (lv_sub hl [] rfl)
              · skip
                have tc77 := f_nge (k := 14) (by decide) c77
                refine lv_aload_n hx hb dX10_findLayers_80 rfl (lv_at hl 4 rfl) ?_
                refine t_get (ci := 10) (lst := ft10 0 0) (C := RX10) (F := TX10) (N := 7) hx hb hts uX10 hown hkb hH t_a0 (hO.no t_a0 (by decide)) (fun _ h9 => h9) rfl rfl 0 (by decide) rfl kw_272 (fun _ h9 => h9) dX10_findLayers_81 (fun v9 h9 => ?_)
                obtain ⟨v81, rfl, t_v81⟩ := h9
                refine lv_iload hx hb dX10_findLayers_84 (lv_at hl 2 rfl) ?_
                refine t_ild hx hb hkb hH t_v81 (hO.no t_v81 (by decide)) (by omega) (by omega) dX10_findLayers_86 (fun v86 h9 => ?_)
                have tv86 : 0 ≤ v86.toInt ∧ v86.toInt ≤ 16383 := h9
                refine lv_iload hx hb dX10_findLayers_87 (lv_at hl 0 rfl) ?_
                refine lv_ishr hx hb dX10_findLayers_89 ?_
                refine lv_topi (fun v89 ev89 => ?_)
                have tv89 : 0 ≤ v89.toInt ∧ v89.toInt ≤ v86.toInt := by rw [ev89]; exact shr_b (by omega)
                refine lv_iconst (v := 1) hx hb dX10_findLayers_90 (by decide) ?_
                refine lv_iand hx hb dX10_findLayers_91 ?_
                refine lv_topi (fun v91 ev91 => ?_)
                have tv91 : 0 ≤ v91.toInt ∧ v91.toInt ≤ 1 := by rw [ev91]; exact and_r (by decide)
                have J111 : ∀ (p111_5 : Int32) (H : Heap) (locs : List Loc) (ls : Array Slot), (0 ≤ p111_5.toInt) → (p111_5.toInt ≤ 16383) → HT D cs A T O X H → va_S A s.heap H locs → lv_has ls 7 [(6, .int p73_6), (5, .int p111_5), (4, .int p20_4), (3, .int p20_3), (0, .ref a0), (1, .ref a1), (2, .int x2)] → W p l e { frames := 4, cells := 0, slots := 0, locals := 101 } s m [.ref a0, .ref a1, .int x2].toArray below meth c H locs 0 0 (MQ below (Ti D cs (fun r u => u = (T, O, X) ∧ 0 ≤ r.toInt ∧ r.toInt ≤ 14) A) [.ref a0, .ref a1, .int x2].toArray s 0 0 A) (F0 m 111 ls []) := by
                  intro p111_5 H locs ls l_p111_5 u_p111_5 hH hS hl
                  obtain ⟨v111, ev111⟩ : ∃ y : Int32, y = p73_6 + 1 := ⟨_, rfl⟩
                  have tv111 : v111.toInt = p73_6.toInt + (1) := by rw [ev111]; exact add_i rfl (by decide) (by omega) (by omega)
                  refine lv_iinc (v := v111) (lv' := [(6, .int v111), (5, .int p111_5), (4, .int p20_4), (3, .int p20_3), (0, .ref a0), (1, .ref a1), (2, .int x2)]) hx hb dX10_findLayers_111 hl (k := 0) rfl (by rw [ev111]; rfl) (by decide) rfl (fun ls hl => ?_)
                  refine lv_goto (tgt := 73) hx hb dX10_findLayers_114 (by decide) ?_
                  exact ih73 _ (by omega) v111 p111_5 _ _ _ rfl (by omega) (by omega) (by omega) (by omega) hH hS (lv_sub hl [0, 1, 2, 3, 4, 5, 6] rfl)
                refine lv_if_eq (tgt := 111) hx hb dX10_findLayers_92 (by decide) (fun c92 => ?_) (fun c92 => ?_)
                · skip
                  have tc92 := f_eq (k := 0) (by decide) c92
                  exact J111 p73_5 _ _ _ (by omega) (by omega) hH hS (lv_sub hl [0, 1, 2, 3, 4, 5, 6] rfl)
                · skip
                  have tc92 := f_ne (k := 0) (by decide) c92
                  refine lv_iload hx hb dX10_findLayers_95 (lv_at hl 1 rfl) ?_
                  refine lv_aload_n hx hb dX10_findLayers_97 rfl (lv_at hl 5 rfl) ?_
                  refine lv_iload hx hb dX10_findLayers_98 (lv_at hl 0 rfl) ?_
                  refine lv_iload_n hx hb dX10_findLayers_100 rfl (lv_at hl 6 rfl) ?_
                  refine lv_iload_n hx hb dX10_findLayers_101 rfl (lv_at hl 3 rfl) ?_
                  refine lv_iconst (v := (-1)) hx hb dX10_findLayers_102 (by decide) ?_
                  refine lv_ixor hx hb dX10_findLayers_103 ?_
                  refine lv_topi (fun v103 ev103 => ?_)
                  refine lv_iand hx hb dX10_findLayers_104 ?_
                  refine lv_topi (fun v104 ev104 => ?_)
                  refine tk_i hH hS hA (tr_V (n := 2) (As := [.int p73_6, .int v104]) hx hb hml hown hts hkb hH hOX hks hE hS hA (s_Rows_stepped l D cs kf T O X a1 p73_6 v104 t_a1 (hO.sub (by decide))) kw_920 kw_863 kw_864 kw_8 kw_865 (by decide +kernel) ⟨Nat.le_of_ble_eq_true rfl, Nat.le_of_ble_eq_true rfl⟩ (HT.recv (ci := 5) hkb hH t_a1 (hO.no t_a1 (by decide)) rfl) rfl rfl hl.1 (Nat.le_of_ble_eq_true rfl) dX10_findLayers_105 ⟨Nat.le_of_ble_eq_true rfl, Nat.le_of_ble_eq_true rfl⟩) (fun v105 u H locs hz9 hH hS => ?_)
                  obtain ⟨rfl, l_v105, u_v105⟩ := hz9
                  have hH : HT D cs A T O X H := hH
                  refine W.widen (k := 0) (n := 0) (Nat.le_of_ble_eq_true rfl) (Nat.le_of_ble_eq_true rfl) ?_
                  refine lv_ior hx hb dX10_findLayers_108 ?_
                  refine lv_topi (fun v108 ev108 => ?_)
                  have tv108 : 0 ≤ v108.toInt ∧ v108.toInt < 16384 := by rw [ev108]; exact or_b 14 (by decide) (by omega) (by omega) (by omega) (by omega)
                  refine lv_istore (lv' := [(5, .int v108), (6, .int p73_6), (4, .int p20_4), (3, .int p20_3), (0, .ref a0), (1, .ref a1), (2, .int x2)]) hx hb dX10_findLayers_109 hl (by decide) rfl (fun ls hl => ?_)
                  exact J111 v108 _ _ _ (by omega) (by omega) hH hS (lv_sub hl [1, 0, 2, 3, 4, 5, 6] rfl)
          refine lv_istore (lv' := [(6, .int 0), (5, .int 0), (4, .int p20_4), (3, .int p20_3), (0, .ref a0), (1, .ref a1), (2, .int x2)]) hx hb dX10_findLayers_71 hl (by decide) rfl (fun ls hl => ?_)
          exact J73 _ 0 0 _ _ _ rfl (by decide) (by decide) (by decide) (by decide) hH hS (lv_sub hl [0, 1, 2, 3, 4, 5, 6] rfl)
        · skip
          have tc42 := f_ne (k := 0) (by decide) c42
          refine lv_aload_n hx hb dX10_findLayers_45 rfl (lv_at hl 2 rfl) ?_
          refine t_get (ci := 10) (lst := ft10 0 0) (C := RX10) (F := TX10) (N := 7) hx hb hts uX10 hown hkb hH t_a0 (hO.no t_a0 (by decide)) (fun _ h9 => h9) rfl rfl 0 (by decide) rfl kw_272 (fun _ h9 => h9) dX10_findLayers_46 (fun v9 h9 => ?_)
          obtain ⟨v46, rfl, t_v46⟩ := h9
          refine lv_iload hx hb dX10_findLayers_49 (lv_at hl 0 rfl) ?_
          refine lv_dup2_11 hx hb dX10_findLayers_51 rfl rfl ?_
          refine t_ild hx hb hkb hH t_v46 (hO.no t_v46 (by decide)) (by omega) (by omega) dX10_findLayers_52 (fun v52 h9 => ?_)
          have tv52 : 0 ≤ v52.toInt ∧ v52.toInt ≤ 16383 := h9
          refine lv_aload_n hx hb dX10_findLayers_53 rfl (lv_at hl 3 rfl) ?_
          refine t_get (ci := 5) (lst := ft5 0 0) (C := RX5) (F := TX5) (N := 6) hx hb hts uX5 hown hkb hH t_a1 (hO.no t_a1 (by decide)) (fun _ h9 => h9) rfl rfl 0 (by decide) rfl kw_246 (fun _ h9 => h9) dX10_findLayers_54 (fun v9 h9 => ?_)
          obtain ⟨v54, hv54, gv54, rfl, t_v54⟩ := h9
          refine t_get (ci := 9) (lst := ft9w hv54 gv54) (C := RX9) (F := TX9) (N := 14) hx hb hts uX9 hown hkb hH t_v54.1 (hO.no t_v54.1 (by decide)) (fun fs => (ob9w t_v54 fs).mp) rfl rfl 4 (by decide) rfl kw_126 (fun _ h9 => h9) dX10_findLayers_57 (fun v9 h9 => ?_)
          obtain ⟨v57, rfl, l_v57, u_v57⟩ := h9
          refine lv_iand hx hb dX10_findLayers_60 ?_
          refine lv_topi (fun v60 ev60 => ?_)
          have tv60 : 0 ≤ v60.toInt ∧ v60.toInt ≤ v52.toInt := by rw [ev60]; exact and_l (by omega)
          have ttv60 : 0 ≤ v60.toInt ∧ v60.toInt ≤ v57.toInt := by rw [ev60]; exact and_r (by omega)
          refine t_ist hx hb hkb hH hS t_v46 (hO.no t_v46 (by decide)) (by omega) (by omega) (show 0 ≤ v60.toInt ∧ v60.toInt ≤ 16383 from by omega) dX10_findLayers_61 (fun H locs hH hS => ?_)
          refine lv_iload hx hb dX10_findLayers_62 (lv_at hl 0 rfl) ?_
          refine lv_iconst (v := 1) hx hb dX10_findLayers_64 (by decide) ?_
          refine lv_iadd hx hb dX10_findLayers_65 ?_
          refine lv_topi (fun v65 ev65 => ?_)
          have tv65 : v65.toInt = p20_4.toInt + (1) := by rw [ev65]; exact add_i rfl (by decide : (1 : Int32).toInt = 1) (by omega) (by omega)
          exact te_i hx hb hr hlocks hH hS (⟨rfl, by omega, by omega⟩) dX10_findLayers_66
  refine lv_istore (lv' := [(4, .int 0), (3, .int v8), (0, .ref a0), (1, .ref a1), (2, .int x2)]) hx hb dX10_findLayers_18 hl (by decide) rfl (fun ls hl => ?_)
  exact J20 _ 0 v8 _ _ _ rfl (by decide) (by decide) (by omega) (by omega) hH hS (lv_sub hl [0, 1, 2, 3, 4] rfl)
set_option maxHeartbeats 4000000 in
set_option maxRecDepth 100000 in
theorem s_Ways_keepLeading (l : Launch) (D : va_G) (cs : CS) (kf : KF) (T : TF) (O : List Nat) (X : va_W) (a0 : Nat) (a1 : Nat) (x2 : Int32) (t_a0 : T a0 = some (20, 0, 0)) (t_a1 : T a1 = some (15, 0, 0)) (l_x2 : 0 ≤ x2.toInt) (u_x2 : x2.toInt ≤ 14) (hO : okO T O [1, 12, 15, 19, 20]) : TK l D cs kf yX10_keepLeading cX10_keepLeading 5 none { frames := 4, cells := 0, slots := 0, locals := 101 } [.ref a0, .ref a1, .int x2] T O X (Tv D cs (fun u => u = (T, O, X))) := by
  refine tk_of (by decide) (Nat.le_of_ble_eq_true rfl) (fun p e s m below meth c ls A H locs hx hb hr hml hown hts hlocks hnm hkb hH hS hA hOX hks hE hl => ?_)
  have hown : s.vm.findClass RX10 = some m.cls := hown
  have hl : lv_has ls 5 [(0, .ref a0), (1, .ref a1), (2, .int x2)] := hl
  refine lv_iload_n hx hb dX10_keepLeading_0 rfl (lv_at hl 2 rfl) ?_
  refine lv_iconst (v := 2) hx hb dX10_keepLeading_1 (by decide) ?_
  refine lv_isub hx hb dX10_keepLeading_2 ?_
  refine lv_topi (fun v2 ev2 => ?_)
  have tv2 : v2.toInt = x2.toInt - (2) := by rw [ev2]; exact sub_i rfl (by decide : (2 : Int32).toInt = 2) (by omega) (by omega)
  have J4 : ∀ (n : Nat) (p4_3 : Int32) (H : Heap) (locs : List Loc) (ls : Array Slot), (p4_3.toInt - (-2)).toNat = n → (-2 ≤ p4_3.toInt) → (p4_3.toInt ≤ 12) → HT D cs A T O X H → va_S A s.heap H locs → lv_has ls 5 [(3, .int p4_3), (0, .ref a0), (1, .ref a1)] → W p l e { frames := 4, cells := 0, slots := 0, locals := 101 } s m [.ref a0, .ref a1, .int x2].toArray below meth c H locs 0 0 (MQ below (Tv D cs (fun u => u = (T, O, X)) A) [.ref a0, .ref a1, .int x2].toArray s 0 0 A) (F0 m 4 ls []) := by
    intro n
    induction n using Nat.strongRecOn with
    | _ n ih4 =>
      intro p4_3 H locs ls hm4 l_p4_3 u_p4_3 hH hS hl
      refine lv_iload_n hx hb dX10_keepLeading_4 rfl (lv_at hl 0 rfl) ?_
      refine lv_if_lt (tgt := 76) hx hb dX10_keepLeading_5 (by decide) (fun c5 => ?_) (fun c5 => ?_)
      · skip
        have tc5 := f_lt (k := 0) (by decide) c5
        exact te_v hx hb hr hlocks hH hS rfl dX10_keepLeading_76
      · skip
        have tc5 := f_nlt (k := 0) (by decide) c5
        refine lv_iconst (v := 0) hx hb dX10_keepLeading_8 (by decide) ?_
        have J11 : ∀ (n : Nat) (p11_4 : Int32) (H : Heap) (locs : List Loc) (ls : Array Slot), (14 - p11_4.toInt).toNat = n → (0 ≤ p11_4.toInt) → (p11_4.toInt ≤ 14) → HT D cs A T O X H → va_S A s.heap H locs → lv_has ls 5 [(4, .int p11_4), (3, .int p4_3), (0, .ref a0), (1, .ref a1)] → W p l e { frames := 4, cells := 0, slots := 0, locals := 101 } s m [.ref a0, .ref a1, .int x2].toArray below meth c H locs 0 0 (MQ below (Tv D cs (fun u => u = (T, O, X)) A) [.ref a0, .ref a1, .int x2].toArray s 0 0 A) (F0 m 11 ls []) := by
          intro n
          induction n using Nat.strongRecOn with
          | _ n ih11 =>
            intro p11_4 H locs ls hm11 l_p11_4 u_p11_4 hH hS hl
            refine lv_iload hx hb dX10_keepLeading_11 (lv_at hl 0 rfl) ?_
            refine lv_bipush (v := 14) hx hb dX10_keepLeading_13 (by decide) ?_
            refine lv_icmp_ge (tgt := 70) hx hb dX10_keepLeading_15 (by decide) (fun c15 => ?_) (fun c15 => ?_)
            · skip
              have tc15 := f_ge (k := 14) (by decide) c15
              obtain ⟨v70, ev70⟩ : ∃ y : Int32, y = p4_3 + (-1) := ⟨_, rfl⟩
              have tv70 : v70.toInt = p4_3.toInt + (-1) := by rw [ev70]; exact add_i rfl (by decide) (by omega) (by omega)
              refine lv_iinc (v := v70) (lv' := [(3, .int v70), (4, .int p11_4), (0, .ref a0), (1, .ref a1)]) hx hb dX10_keepLeading_70 hl (k := 1) rfl (by rw [ev70]; rfl) (by decide) rfl (fun ls hl => ?_)
              refine lv_goto (tgt := 4) hx hb dX10_keepLeading_73 (by decide) ?_
              exact ih4 _ (by omega) v70 _ _ _ rfl (by omega) (by omega) hH hS (lv_sub hl [0, 2, 3] rfl)
            · skip
              have tc15 := f_nge (k := 14) (by decide) c15
              refine lv_aload_n hx hb dX10_keepLeading_18 rfl (lv_at hl 2 rfl) ?_
              refine t_get (ci := 10) (lst := ft10 0 0) (C := RX10) (F := TX10) (N := 7) hx hb hts uX10 hown hkb hH t_a0 (hO.no t_a0 (by decide)) (fun _ h9 => h9) rfl rfl 0 (by decide) rfl kw_272 (fun _ h9 => h9) dX10_keepLeading_19 (fun v9 h9 => ?_)
              obtain ⟨v19, rfl, t_v19⟩ := h9
              refine lv_iload_n hx hb dX10_keepLeading_22 rfl (lv_at hl 1 rfl) ?_
              refine t_ild hx hb hkb hH t_v19 (hO.no t_v19 (by decide)) (by omega) (by omega) dX10_keepLeading_23 (fun v23 h9 => ?_)
              have tv23 : 0 ≤ v23.toInt ∧ v23.toInt ≤ 16383 := h9
              refine lv_iload hx hb dX10_keepLeading_24 (lv_at hl 0 rfl) ?_
              refine lv_ishr hx hb dX10_keepLeading_26 ?_
              refine lv_topi (fun v26 ev26 => ?_)
              have tv26 : 0 ≤ v26.toInt ∧ v26.toInt ≤ v23.toInt := by rw [ev26]; exact shr_b (by omega)
              refine lv_iconst (v := 1) hx hb dX10_keepLeading_27 (by decide) ?_
              refine lv_iand hx hb dX10_keepLeading_28 ?_
              refine lv_topi (fun v28 ev28 => ?_)
              have tv28 : 0 ≤ v28.toInt ∧ v28.toInt ≤ 1 := by rw [ev28]; exact and_r (by decide)
              have J64 : ∀  (H : Heap) (locs : List Loc) (ls : Array Slot), HT D cs A T O X H → va_S A s.heap H locs → lv_has ls 5 [(4, .int p11_4), (3, .int p4_3), (0, .ref a0), (1, .ref a1)] → W p l e { frames := 4, cells := 0, slots := 0, locals := 101 } s m [.ref a0, .ref a1, .int x2].toArray below meth c H locs 0 0 (MQ below (Tv D cs (fun u => u = (T, O, X)) A) [.ref a0, .ref a1, .int x2].toArray s 0 0 A) (F0 m 64 ls []) := by
                intro  H locs ls  hH hS hl
                obtain ⟨v64, ev64⟩ : ∃ y : Int32, y = p11_4 + 1 := ⟨_, rfl⟩
                have tv64 : v64.toInt = p11_4.toInt + (1) := by rw [ev64]; exact add_i rfl (by decide) (by omega) (by omega)
                refine lv_iinc (v := v64) (lv' := [(4, .int v64), (3, .int p4_3), (0, .ref a0), (1, .ref a1)]) hx hb dX10_keepLeading_64 hl (k := 0) rfl (by rw [ev64]; rfl) (by decide) rfl (fun ls hl => ?_)
                refine lv_goto (tgt := 11) hx hb dX10_keepLeading_67 (by decide) ?_
                exact ih11 _ (by omega) v64 _ _ _ rfl (by omega) (by omega) hH hS (lv_sub hl [0, 1, 2, 3] rfl)
              refine lv_if_eq (tgt := 64) hx hb dX10_keepLeading_29 (by decide) (fun c29 => ?_) (fun c29 => ?_)
              · skip
                have tc29 := f_eq (k := 0) (by decide) c29
                exact J64  _ _ _  hH hS (lv_sub hl [0, 1, 2, 3] rfl)
              · skip
                have tc29 := f_ne (k := 0) (by decide) c29
                refine lv_aload_n hx hb dX10_keepLeading_32 rfl (lv_at hl 3 rfl) ?_
                refine lv_iload hx hb dX10_keepLeading_33 (lv_at hl 0 rfl) ?_
                refine lv_aload_n hx hb dX10_keepLeading_35 rfl (lv_at hl 2 rfl) ?_
                refine t_get (ci := 10) (lst := ft10 0 0) (C := RX10) (F := TX10) (N := 7) hx hb hts uX10 hown hkb hH t_a0 (hO.no t_a0 (by decide)) (fun _ h9 => h9) rfl rfl 0 (by decide) rfl kw_272 (fun _ h9 => h9) dX10_keepLeading_36 (fun v9 h9 => ?_)
                obtain ⟨v36, rfl, t_v36⟩ := h9
                refine lv_iload_n hx hb dX10_keepLeading_39 rfl (lv_at hl 1 rfl) ?_
                refine lv_iconst (v := 1) hx hb dX10_keepLeading_40 (by decide) ?_
                refine lv_iadd hx hb dX10_keepLeading_41 ?_
                refine lv_topi (fun v41 ev41 => ?_)
                have tv41 : v41.toInt = p4_3.toInt + (1) := by rw [ev41]; exact add_i rfl (by decide : (1 : Int32).toInt = 1) (by omega) (by omega)
                refine t_ild hx hb hkb hH t_v36 (hO.no t_v36 (by decide)) (by omega) (by omega) dX10_keepLeading_42 (fun v42 h9 => ?_)
                have tv42 : 0 ≤ v42.toInt ∧ v42.toInt ≤ 16383 := h9
                refine tk_i hH hS hA (tr_V (n := 2) (As := [.int p11_4, .int v42]) hx hb hml hown hts hkb hH hOX hks hE hS hA (s_Rows_stepped l D cs kf T O X a1 p11_4 v42 t_a1 (hO.sub (by decide))) kw_920 kw_863 kw_864 kw_8 kw_865 (by decide +kernel) ⟨Nat.le_of_ble_eq_true rfl, Nat.le_of_ble_eq_true rfl⟩ (HT.recv (ci := 5) hkb hH t_a1 (hO.no t_a1 (by decide)) rfl) rfl rfl hl.1 (Nat.le_of_ble_eq_true rfl) dX10_keepLeading_43 ⟨Nat.le_of_ble_eq_true rfl, Nat.le_of_ble_eq_true rfl⟩) (fun v43 u H locs hz9 hH hS => ?_)
                obtain ⟨rfl, l_v43, u_v43⟩ := hz9
                have hH : HT D cs A T O X H := hH
                refine W.widen (k := 0) (n := 0) (Nat.le_of_ble_eq_true rfl) (Nat.le_of_ble_eq_true rfl) ?_
                refine lv_if_ne (tgt := 64) hx hb dX10_keepLeading_46 (by decide) (fun c46 => ?_) (fun c46 => ?_)
                · skip
                  have tc46 := f_ne (k := 0) (by decide) c46
                  exact J64  _ _ _  hH hS (lv_sub hl [0, 1, 2, 3] rfl)
                · skip
                  have tc46 := f_eq (k := 0) (by decide) c46
                  refine lv_aload_n hx hb dX10_keepLeading_49 rfl (lv_at hl 2 rfl) ?_
                  refine t_get (ci := 10) (lst := ft10 0 0) (C := RX10) (F := TX10) (N := 7) hx hb hts uX10 hown hkb hH t_a0 (hO.no t_a0 (by decide)) (fun _ h9 => h9) rfl rfl 0 (by decide) rfl kw_272 (fun _ h9 => h9) dX10_keepLeading_50 (fun v9 h9 => ?_)
                  obtain ⟨v50, rfl, t_v50⟩ := h9
                  refine lv_iload_n hx hb dX10_keepLeading_53 rfl (lv_at hl 1 rfl) ?_
                  refine lv_dup2_11 hx hb dX10_keepLeading_54 rfl rfl ?_
                  refine t_ild hx hb hkb hH t_v50 (hO.no t_v50 (by decide)) (by omega) (by omega) dX10_keepLeading_55 (fun v55 h9 => ?_)
                  have tv55 : 0 ≤ v55.toInt ∧ v55.toInt ≤ 16383 := h9
                  refine lv_iconst (v := 1) hx hb dX10_keepLeading_56 (by decide) ?_
                  refine lv_iload hx hb dX10_keepLeading_57 (lv_at hl 0 rfl) ?_
                  refine lv_ishl hx hb dX10_keepLeading_59 ?_
                  refine lv_topi (fun v59 ev59 => ?_)
                  have tv59 : 1 ≤ v59.toInt ∧ v59.toInt ≤ 8192 := by rw [ev59]; exact shl_b 13 (by decide) (by omega) (by omega)
                  refine lv_iconst (v := (-1)) hx hb dX10_keepLeading_60 (by decide) ?_
                  refine lv_ixor hx hb dX10_keepLeading_61 ?_
                  refine lv_topi (fun v61 ev61 => ?_)
                  refine lv_iand hx hb dX10_keepLeading_62 ?_
                  refine lv_topi (fun v62 ev62 => ?_)
                  have tv62 : 0 ≤ v62.toInt ∧ v62.toInt ≤ v55.toInt := by rw [ev62]; exact and_l (by omega)
                  refine t_ist hx hb hkb hH hS t_v50 (hO.no t_v50 (by decide)) (by omega) (by omega) (show 0 ≤ v62.toInt ∧ v62.toInt ≤ 16383 from by omega) dX10_keepLeading_63 (fun H locs hH hS => ?_)
                  exact J64  _ _ _  hH hS (lv_sub hl [0, 1, 2, 3] rfl)
        refine lv_istore (lv' := [(4, .int 0), (3, .int p4_3), (0, .ref a0), (1, .ref a1)]) hx hb dX10_keepLeading_9 hl (by decide) rfl (fun ls hl => ?_)
        exact J11 _ 0 _ _ _ rfl (by decide) (by decide) hH hS (lv_sub hl [0, 1, 2, 3] rfl)
  refine lv_istore_n (lv' := [(3, .int v2), (0, .ref a0), (1, .ref a1), (2, .int x2)]) hx hb dX10_keepLeading_3 rfl hl (by decide) rfl (fun ls hl => ?_)
  exact J4 _ v2 _ _ _ rfl (by omega) (by omega) hH hS (lv_sub hl [0, 1, 2] rfl)
set_option maxHeartbeats 4000000 in
set_option maxRecDepth 100000 in
theorem s_Ways_find (l : Launch) (D : va_G) (cs : CS) (kf : KF) (T : TF) (O : List Nat) (X : va_W) (a0 : Nat) (a1 : Nat) (x2 : Int32) (t_a0 : T a0 = some (20, 0, 0)) (t_a1 : T a1 = some (15, 0, 0)) (hO : okO T O [1, 12, 15, 19, 20]) : TK l D cs kf yX10_find cX10_find 6 (some (.int)) { frames := 5, cells := 0, slots := 0, locals := 127 } [.ref a0, .ref a1, .int x2] T O X (Ti D cs (fun r u => u = (T, O, X) ∧ 0 ≤ r.toInt ∧ r.toInt ≤ 14)) := by
  refine tk_of (by decide) (Nat.le_of_ble_eq_true rfl) (fun p e s m below meth c ls A H locs hx hb hr hml hown hts hlocks hnm hkb hH hS hA hOX hks hE hl => ?_)
  have hown : s.vm.findClass RX10 = some m.cls := hown
  have hl : lv_has ls 6 [(0, .ref a0), (1, .ref a1), (2, .int x2)] := hl
  refine lv_aload_n hx hb dX10_find_0 rfl (lv_at hl 0 rfl) ?_
  refine lv_aload_n hx hb dX10_find_1 rfl (lv_at hl 0 rfl) ?_
  refine lv_aload_n hx hb dX10_find_2 rfl (lv_at hl 1 rfl) ?_
  refine lv_iload_n hx hb dX10_find_3 rfl (lv_at hl 2 rfl) ?_
  refine tk_i hH hS hA (tr_V (n := 2) (As := [.ref a1, .int x2]) hx hb hml hown hts hkb hH hOX hks hE hS hA (s_Ways_findLayers l D cs kf T O X a0 a1 x2 t_a0 t_a1 (hO.sub (by decide))) kw_916 kw_918 ks_27 kw_9 kw_919 (by decide +kernel) ⟨Nat.le_of_ble_eq_true rfl, Nat.le_of_ble_eq_true rfl⟩ (HT.recv (ci := 10) hkb hH t_a0 (hO.no t_a0 (by decide)) rfl) rfl rfl hl.1 (Nat.le_of_ble_eq_true rfl) dX10_find_4 ⟨Nat.le_of_ble_eq_true rfl, Nat.le_of_ble_eq_true rfl⟩) (fun v4 u H locs hz9 hH hS => ?_)
  obtain ⟨rfl, l_v4, u_v4⟩ := hz9
  have hH : HT D cs A T O X H := hH
  refine W.widen (k := 0) (n := 0) (Nat.le_of_ble_eq_true rfl) (Nat.le_of_ble_eq_true rfl) ?_
  refine t_put (ci := 10) (lst := ft10 0 0) (v := .int v4) (ty := tyX10 2) (C := RX10) (F := TX10) (N := 7) hx hb hts uX10 tyX10 tyX10_ok nmX10 hown hkb hH hS t_a0 (hO.no t_a0 (by decide)) (fun _ => Iff.rfl) rfl rfl 2 (by decide) rfl (⟨_, rfl, by omega, by omega⟩) kw_275 (fun _ h9 => h9) rfl (tyX10_ok 2 (by decide)) rfl rfl dX10_find_7 (fun H locs hH hS => ?_)
  refine lv_aload_n hx hb dX10_find_10 rfl (lv_at hl 0 rfl) ?_
  refine lv_aload_n hx hb dX10_find_11 rfl (lv_at hl 1 rfl) ?_
  refine lv_aload_n hx hb dX10_find_12 rfl (lv_at hl 0 rfl) ?_
  refine t_get (ci := 10) (lst := ft10 0 0) (C := RX10) (F := TX10) (N := 7) hx hb hts uX10 hown hkb hH t_a0 (hO.no t_a0 (by decide)) (fun _ h9 => h9) rfl rfl 2 (by decide) rfl kw_275 (fun _ h9 => h9) dX10_find_13 (fun v9 h9 => ?_)
  obtain ⟨v13, rfl, l_v13, u_v13⟩ := h9
  refine tk_v hH hS hA (tr_V (n := 2) (As := [.ref a1, .int v13]) hx hb hml hown hts hkb hH hOX hks hE hS hA (s_Ways_keepLeading l D cs kf T O X a0 a1 v13 t_a0 t_a1 (by omega) (by omega) (hO.sub (by decide))) kw_921 kw_923 ks_28 kw_9 kw_924 (by decide +kernel) ⟨Nat.le_of_ble_eq_true rfl, Nat.le_of_ble_eq_true rfl⟩ (HT.recv (ci := 10) hkb hH t_a0 (hO.no t_a0 (by decide)) rfl) rfl rfl hl.1 (Nat.le_of_ble_eq_true rfl) dX10_find_16 ⟨Nat.le_of_ble_eq_true rfl, Nat.le_of_ble_eq_true rfl⟩) (fun u H locs hz9 hH hS => ?_)
  have hz9 : u = (T, O, X) := hz9
  subst hz9
  have hH : HT D cs A T O X H := hH
  refine W.widen (k := 0) (n := 0) (Nat.le_of_ble_eq_true rfl) (Nat.le_of_ble_eq_true rfl) ?_
  refine lv_aload_n hx hb dX10_find_19 rfl (lv_at hl 0 rfl) ?_
  refine t_get (ci := 10) (lst := ft10 0 0) (C := RX10) (F := TX10) (N := 7) hx hb hts uX10 hown hkb hH t_a0 (hO.no t_a0 (by decide)) (fun _ h9 => h9) rfl rfl 2 (by decide) rfl kw_275 (fun _ h9 => h9) dX10_find_20 (fun v9 h9 => ?_)
  obtain ⟨v20, rfl, l_v20, u_v20⟩ := h9
  have J36 : ∀ (k36_0 : Int32) (H : Heap) (locs : List Loc) (ls : Array Slot), (0 ≤ k36_0.toInt) → (k36_0.toInt ≤ 16383) → HT D cs A T O X H → va_S A s.heap H locs → lv_has ls 6 [(0, .ref a0), (1, .ref a1)] → W p l e { frames := 5, cells := 0, slots := 0, locals := 127 } s m [.ref a0, .ref a1, .int x2].toArray below meth c H locs 0 0 (MQ below (Ti D cs (fun r u => u = (T, O, X) ∧ 0 ≤ r.toInt ∧ r.toInt ≤ 14) A) [.ref a0, .ref a1, .int x2].toArray s 0 0 A) (F0 m 36 ls [.int k36_0]) := by
    intro k36_0 H locs ls l_k36_0 u_k36_0 hH hS hl
    refine lv_istore_n (lv' := [(3, .int k36_0), (0, .ref a0), (1, .ref a1)]) hx hb dX10_find_36 rfl hl (by decide) rfl (fun ls hl => ?_)
    refine lv_iconst (v := 0) hx hb dX10_find_37 (by decide) ?_
    have J40 : ∀ (n : Nat) (p40_4 : Int32) (p40_3 : Int32) (H : Heap) (locs : List Loc) (ls : Array Slot), (14 - p40_4.toInt).toNat = n → (0 ≤ p40_4.toInt) → (p40_4.toInt ≤ 14) → (0 ≤ p40_3.toInt) → (p40_3.toInt ≤ 16383) → HT D cs A T O X H → va_S A s.heap H locs → lv_has ls 6 [(4, .int p40_4), (3, .int p40_3), (0, .ref a0), (1, .ref a1)] → W p l e { frames := 5, cells := 0, slots := 0, locals := 127 } s m [.ref a0, .ref a1, .int x2].toArray below meth c H locs 0 0 (MQ below (Ti D cs (fun r u => u = (T, O, X) ∧ 0 ≤ r.toInt ∧ r.toInt ≤ 14) A) [.ref a0, .ref a1, .int x2].toArray s 0 0 A) (F0 m 40 ls []) := by
      intro n
      induction n using Nat.strongRecOn with
      | _ n ih40 =>
        intro p40_4 p40_3 H locs ls hm40 l_p40_4 u_p40_4 l_p40_3 u_p40_3 hH hS hl
        refine lv_iload hx hb dX10_find_40 (lv_at hl 0 rfl) ?_
        refine lv_aload_n hx hb dX10_find_42 rfl (lv_at hl 2 rfl) ?_
        refine t_get (ci := 10) (lst := ft10 0 0) (C := RX10) (F := TX10) (N := 7) hx hb hts uX10 hown hkb hH t_a0 (hO.no t_a0 (by decide)) (fun _ h9 => h9) rfl rfl 2 (by decide) rfl kw_275 (fun _ h9 => h9) dX10_find_43 (fun v9 h9 => ?_)
        obtain ⟨v43, rfl, l_v43, u_v43⟩ := h9
        refine lv_icmp_ge (tgt := 101) hx hb dX10_find_46 (by decide) (fun c46 => ?_) (fun c46 => ?_)
        · skip
          have fuc46 := full_i p40_4
          have fvc46 := full_i v43
          have tc46 := g_le c46
          refine lv_aload_n hx hb dX10_find_101 rfl (lv_at hl 2 rfl) ?_
          refine t_get (ci := 10) (lst := ft10 0 0) (C := RX10) (F := TX10) (N := 7) hx hb hts uX10 hown hkb hH t_a0 (hO.no t_a0 (by decide)) (fun _ h9 => h9) rfl rfl 2 (by decide) rfl kw_275 (fun _ h9 => h9) dX10_find_102 (fun v9 h9 => ?_)
          obtain ⟨v102, rfl, l_v102, u_v102⟩ := h9
          exact te_i hx hb hr hlocks hH hS (⟨rfl, by omega, by omega⟩) dX10_find_105
        · skip
          have fuc46 := full_i p40_4
          have fvc46 := full_i v43
          have tc46 := g_nle c46
          refine lv_iload_n hx hb dX10_find_49 rfl (lv_at hl 1 rfl) ?_
          refine tk_i hH hS hA (tr_S (n := 1) (As := [.int p40_3]) hx hb hml hown hts hkb hH hOX hks hE hS hA (s_ntz l D cs kf T O X p40_3  (hO.sub (by decide))) kw_925 kw_859 kw_20 kw_860 (by decide +kernel) ⟨Nat.le_of_ble_eq_true rfl, Nat.le_of_ble_eq_true rfl⟩ rfl rfl hl.1 (Nat.le_of_ble_eq_true rfl) dX10_find_50 ⟨Nat.le_of_ble_eq_true rfl, Nat.le_of_ble_eq_true rfl⟩) (fun v50 u H locs hz9 hH hS => ?_)
          have hz9 : u = (T, O, X) := hz9
          subst hz9
          have hH : HT D cs A T O X H := hH
          refine W.widen (k := 0) (n := 0) (Nat.le_of_ble_eq_true rfl) (Nat.le_of_ble_eq_true rfl) ?_
          refine lv_istore (lv' := [(5, .int v50), (4, .int p40_4), (3, .int p40_3), (0, .ref a0), (1, .ref a1)]) hx hb dX10_find_53 hl (by decide) rfl (fun ls hl => ?_)
          refine lv_aload_n hx hb dX10_find_55 rfl (lv_at hl 3 rfl) ?_
          refine t_get (ci := 10) (lst := ft10 0 0) (C := RX10) (F := TX10) (N := 7) hx hb hts uX10 hown hkb hH t_a0 (hO.no t_a0 (by decide)) (fun _ h9 => h9) rfl rfl 1 (by decide) rfl kw_273 (fun _ h9 => h9) dX10_find_56 (fun v9 h9 => ?_)
          obtain ⟨v56, rfl, t_v56⟩ := h9
          refine lv_iload hx hb dX10_find_59 (lv_at hl 1 rfl) ?_
          refine lv_iload hx hb dX10_find_61 (lv_at hl 0 rfl) ?_
          refine t_ist hx hb hkb hH hS t_v56 (hO.no t_v56 (by decide)) (by omega) (by omega) (cp_0 _) dX10_find_63 (fun H locs hH hS => ?_)
          refine lv_iload hx hb dX10_find_64 (lv_at hl 1 rfl) ?_
          refine lv_iconst (v := 1) hx hb dX10_find_66 (by decide) ?_
          refine lv_iadd hx hb dX10_find_67 ?_
          refine lv_topi (fun v67 ev67 => ?_)
          have tv67 : v67.toInt = p40_4.toInt + (1) := by rw [ev67]; exact add_i rfl (by decide : (1 : Int32).toInt = 1) (by omega) (by omega)
          refine lv_aload_n hx hb dX10_find_68 rfl (lv_at hl 3 rfl) ?_
          refine t_get (ci := 10) (lst := ft10 0 0) (C := RX10) (F := TX10) (N := 7) hx hb hts uX10 hown hkb hH t_a0 (hO.no t_a0 (by decide)) (fun _ h9 => h9) rfl rfl 2 (by decide) rfl kw_275 (fun _ h9 => h9) dX10_find_69 (fun v9 h9 => ?_)
          obtain ⟨v69, rfl, l_v69, u_v69⟩ := h9
          have J94 : ∀ (k94_0 : Int32) (H : Heap) (locs : List Loc) (ls : Array Slot), (0 ≤ k94_0.toInt) → (k94_0.toInt ≤ 16383) → HT D cs A T O X H → va_S A s.heap H locs → lv_has ls 6 [(4, .int p40_4), (0, .ref a0), (1, .ref a1)] → W p l e { frames := 5, cells := 0, slots := 0, locals := 127 } s m [.ref a0, .ref a1, .int x2].toArray below meth c H locs 0 0 (MQ below (Ti D cs (fun r u => u = (T, O, X) ∧ 0 ≤ r.toInt ∧ r.toInt ≤ 14) A) [.ref a0, .ref a1, .int x2].toArray s 0 0 A) (F0 m 94 ls [.int k94_0]) := by
            intro k94_0 H locs ls l_k94_0 u_k94_0 hH hS hl
            refine lv_istore_n (lv' := [(3, .int k94_0), (4, .int p40_4), (0, .ref a0), (1, .ref a1)]) hx hb dX10_find_94 rfl hl (by decide) rfl (fun ls hl => ?_)
            obtain ⟨v95, ev95⟩ : ∃ y : Int32, y = p40_4 + 1 := ⟨_, rfl⟩
            have tv95 : v95.toInt = p40_4.toInt + (1) := by rw [ev95]; exact add_i rfl (by decide) (by omega) (by omega)
            refine lv_iinc (v := v95) (lv' := [(4, .int v95), (3, .int k94_0), (0, .ref a0), (1, .ref a1)]) hx hb dX10_find_95 hl (k := 1) rfl (by rw [ev95]; rfl) (by decide) rfl (fun ls hl => ?_)
            refine lv_goto (tgt := 40) hx hb dX10_find_98 (by decide) ?_
            exact ih40 _ (by omega) v95 k94_0 _ _ _ rfl (by omega) (by omega) (by omega) (by omega) hH hS (lv_sub hl [0, 1, 2, 3] rfl)
          refine lv_icmp_ge (tgt := 93) hx hb dX10_find_72 (by decide) (fun c72 => ?_) (fun c72 => ?_)
          · skip
            have fuc72 := full_i v67
            have fvc72 := full_i v69
            have tc72 := g_le c72
            refine lv_iconst (v := 0) hx hb dX10_find_93 (by decide) ?_
            exact J94 0 _ _ _ (by decide) (by decide) hH hS (lv_sub hl [1, 3, 4] rfl)
          · skip
            have fuc72 := full_i v67
            have fvc72 := full_i v69
            have tc72 := g_nle c72
            refine lv_aload_n hx hb dX10_find_75 rfl (lv_at hl 4 rfl) ?_
            refine lv_iload hx hb dX10_find_76 (lv_at hl 0 rfl) ?_
            refine lv_aload_n hx hb dX10_find_78 rfl (lv_at hl 3 rfl) ?_
            refine t_get (ci := 10) (lst := ft10 0 0) (C := RX10) (F := TX10) (N := 7) hx hb hts uX10 hown hkb hH t_a0 (hO.no t_a0 (by decide)) (fun _ h9 => h9) rfl rfl 0 (by decide) rfl kw_272 (fun _ h9 => h9) dX10_find_79 (fun v9 h9 => ?_)
            obtain ⟨v79, rfl, t_v79⟩ := h9
            refine lv_iload hx hb dX10_find_82 (lv_at hl 1 rfl) ?_
            refine lv_iconst (v := 1) hx hb dX10_find_84 (by decide) ?_
            refine lv_iadd hx hb dX10_find_85 ?_
            refine lv_topi (fun v85 ev85 => ?_)
            have tv85 : v85.toInt = p40_4.toInt + (1) := by rw [ev85]; exact add_i rfl (by decide : (1 : Int32).toInt = 1) (by omega) (by omega)
            refine t_ild hx hb hkb hH t_v79 (hO.no t_v79 (by decide)) (by omega) (by omega) dX10_find_86 (fun v86 h9 => ?_)
            have tv86 : 0 ≤ v86.toInt ∧ v86.toInt ≤ 16383 := h9
            refine tk_i hH hS hA (tr_V (n := 2) (As := [.int v50, .int v86]) hx hb hml hown hts hkb hH hOX hks hE hS hA (s_Rows_stepped l D cs kf T O X a1 v50 v86 t_a1 (hO.sub (by decide))) kw_920 kw_863 kw_864 kw_8 kw_865 (by decide +kernel) ⟨Nat.le_of_ble_eq_true rfl, Nat.le_of_ble_eq_true rfl⟩ (HT.recv (ci := 5) hkb hH t_a1 (hO.no t_a1 (by decide)) rfl) rfl rfl hl.1 (Nat.le_of_ble_eq_true rfl) dX10_find_87 ⟨Nat.le_of_ble_eq_true rfl, Nat.le_of_ble_eq_true rfl⟩) (fun v87 u H locs hz9 hH hS => ?_)
            obtain ⟨rfl, l_v87, u_v87⟩ := hz9
            have hH : HT D cs A T O X H := hH
            refine W.widen (k := 0) (n := 0) (Nat.le_of_ble_eq_true rfl) (Nat.le_of_ble_eq_true rfl) ?_
            refine lv_goto (tgt := 94) hx hb dX10_find_90 (by decide) ?_
            exact J94 v87 _ _ _ (by omega) (by omega) hH hS (lv_sub hl [1, 3, 4] rfl)
    refine lv_istore (lv' := [(4, .int 0), (3, .int k36_0), (0, .ref a0), (1, .ref a1)]) hx hb dX10_find_38 hl (by decide) rfl (fun ls hl => ?_)
    exact J40 _ 0 k36_0 _ _ _ rfl (by decide) (by decide) (by omega) (by omega) hH hS (lv_sub hl [0, 1, 2, 3] rfl)
  refine lv_if_le (tgt := 35) hx hb dX10_find_23 (by decide) (fun c23 => ?_) (fun c23 => ?_)
  · skip
    have tc23 := f_le (k := 0) (by decide) c23
    refine lv_iconst (v := 0) hx hb dX10_find_35 (by decide) ?_
    exact J36 0 _ _ _ (by decide) (by decide) hH hS (lv_sub hl [0, 1] rfl)
  · skip
    have tc23 := f_nle (k := 0) (by decide) c23
    refine lv_aload_n hx hb dX10_find_26 rfl (lv_at hl 0 rfl) ?_
    refine t_get (ci := 10) (lst := ft10 0 0) (C := RX10) (F := TX10) (N := 7) hx hb hts uX10 hown hkb hH t_a0 (hO.no t_a0 (by decide)) (fun _ h9 => h9) rfl rfl 0 (by decide) rfl kw_272 (fun _ h9 => h9) dX10_find_27 (fun v9 h9 => ?_)
    obtain ⟨v27, rfl, t_v27⟩ := h9
    refine lv_iconst (v := 0) hx hb dX10_find_30 (by decide) ?_
    refine t_ild hx hb hkb hH t_v27 (hO.no t_v27 (by decide)) (by decide) (by decide) dX10_find_31 (fun v31 h9 => ?_)
    have tv31 : 0 ≤ v31.toInt ∧ v31.toInt ≤ 16383 := h9
    refine lv_goto (tgt := 36) hx hb dX10_find_32 (by decide) ?_
    exact J36 v31 _ _ _ (by omega) (by omega) hH hS (lv_sub hl [0, 1] rfl)
set_option maxHeartbeats 4000000 in
set_option maxRecDepth 100000 in
theorem s_Ways_pathSet (l : Launch) (D : va_G) (cs : CS) (kf : KF) (T : TF) (O : List Nat) (X : va_W) (a0 : Nat) (t_a0 : T a0 = some (20, 0, 0)) (hO : okO T O [1, 20]) : TK l D cs kf yX10_pathSet cX10_pathSet 3 (some (.int)) { frames := 0, cells := 0, slots := 0, locals := 0 } [.ref a0] T O X (Ti D cs (fun r u => u = (T, O, X))) := by
  refine tk_of (by decide) (Nat.le_of_ble_eq_true rfl) (fun p e s m below meth c ls A H locs hx hb hr hml hown hts hlocks hnm hkb hH hS hA hOX hks hE hl => ?_)
  have hown : s.vm.findClass RX10 = some m.cls := hown
  have hl : lv_has ls 3 [(0, .ref a0)] := hl
  refine lv_iconst (v := 0) hx hb dX10_pathSet_0 (by decide) ?_
  refine lv_istore_n (lv' := [(1, .int 0), (0, .ref a0)]) hx hb dX10_pathSet_1 rfl hl (by decide) rfl (fun ls hl => ?_)
  refine lv_iconst (v := 0) hx hb dX10_pathSet_2 (by decide) ?_
  have J4 : ∀ (n : Nat) (p4_2 : Int32) (p4_1 : Int32) (H : Heap) (locs : List Loc) (ls : Array Slot), (14 - p4_2.toInt).toNat = n → (0 ≤ p4_2.toInt) → (p4_2.toInt ≤ 14) → HT D cs A T O X H → va_S A s.heap H locs → lv_has ls 3 [(2, .int p4_2), (1, .int p4_1), (0, .ref a0)] → W p l e { frames := 0, cells := 0, slots := 0, locals := 0 } s m [.ref a0].toArray below meth c H locs 0 0 (MQ below (Ti D cs (fun r u => u = (T, O, X)) A) [.ref a0].toArray s 0 0 A) (F0 m 4 ls []) := by
    intro n
    induction n using Nat.strongRecOn with
    | _ n ih4 =>
      intro p4_2 p4_1 H locs ls hm4 l_p4_2 u_p4_2 hH hS hl
      refine lv_iload_n hx hb dX10_pathSet_4 rfl (lv_at hl 0 rfl) ?_
      refine lv_aload_n hx hb dX10_pathSet_5 rfl (lv_at hl 2 rfl) ?_
      refine t_get (ci := 10) (lst := ft10 0 0) (C := RX10) (F := TX10) (N := 7) hx hb hts uX10 hown hkb hH t_a0 (hO.no t_a0 (by decide)) (fun _ h9 => h9) rfl rfl 2 (by decide) rfl kw_275 (fun _ h9 => h9) dX10_pathSet_6 (fun v9 h9 => ?_)
      obtain ⟨v6, rfl, l_v6, u_v6⟩ := h9
      refine lv_icmp_ge (tgt := 29) hx hb dX10_pathSet_9 (by decide) (fun c9 => ?_) (fun c9 => ?_)
      · skip
        have fuc9 := full_i p4_2
        have fvc9 := full_i v6
        have tc9 := g_le c9
        refine lv_iload_n hx hb dX10_pathSet_29 rfl (lv_at hl 1 rfl) ?_
        exact te_i hx hb hr hlocks hH hS (rfl) dX10_pathSet_30
      · skip
        have fuc9 := full_i p4_2
        have fvc9 := full_i v6
        have tc9 := g_nle c9
        refine lv_iload_n hx hb dX10_pathSet_12 rfl (lv_at hl 1 rfl) ?_
        refine lv_iconst (v := 1) hx hb dX10_pathSet_13 (by decide) ?_
        refine lv_aload_n hx hb dX10_pathSet_14 rfl (lv_at hl 2 rfl) ?_
        refine t_get (ci := 10) (lst := ft10 0 0) (C := RX10) (F := TX10) (N := 7) hx hb hts uX10 hown hkb hH t_a0 (hO.no t_a0 (by decide)) (fun _ h9 => h9) rfl rfl 1 (by decide) rfl kw_273 (fun _ h9 => h9) dX10_pathSet_15 (fun v9 h9 => ?_)
        obtain ⟨v15, rfl, t_v15⟩ := h9
        refine lv_iload_n hx hb dX10_pathSet_18 rfl (lv_at hl 0 rfl) ?_
        refine t_ild hx hb hkb hH t_v15 (hO.no t_v15 (by decide)) (by omega) (by omega) dX10_pathSet_19 (fun v19 h9 => ?_)
        refine lv_ishl hx hb dX10_pathSet_20 ?_
        refine lv_topi (fun v20 ev20 => ?_)
        refine lv_ior hx hb dX10_pathSet_21 ?_
        refine lv_topi (fun v21 ev21 => ?_)
        refine lv_istore_n (lv' := [(1, .int v21), (2, .int p4_2), (0, .ref a0)]) hx hb dX10_pathSet_22 rfl hl (by decide) rfl (fun ls hl => ?_)
        obtain ⟨v23, ev23⟩ : ∃ y : Int32, y = p4_2 + 1 := ⟨_, rfl⟩
        have tv23 : v23.toInt = p4_2.toInt + (1) := by rw [ev23]; exact add_i rfl (by decide) (by omega) (by omega)
        refine lv_iinc (v := v23) (lv' := [(2, .int v23), (1, .int v21), (0, .ref a0)]) hx hb dX10_pathSet_23 hl (k := 1) rfl (by rw [ev23]; rfl) (by decide) rfl (fun ls hl => ?_)
        refine lv_goto (tgt := 4) hx hb dX10_pathSet_26 (by decide) ?_
        exact ih4 _ (by omega) v23 v21 _ _ _ rfl (by omega) (by omega) hH hS (lv_sub hl [0, 1, 2] rfl)
  refine lv_istore_n (lv' := [(2, .int 0), (1, .int 0), (0, .ref a0)]) hx hb dX10_pathSet_3 rfl hl (by decide) rfl (fun ls hl => ?_)
  exact J4 _ 0 0 _ _ _ rfl (by decide) (by decide) hH hS (lv_sub hl [0, 1, 2] rfl)
set_option maxHeartbeats 4000000 in
set_option maxRecDepth 100000 in
theorem s_Ways_numberFromAll (l : Launch) (D : va_G) (cs : CS) (kf : KF) (T : TF) (O : List Nat) (X : va_W) (a0 : Nat) (x1 : Int32) (t_a0 : T a0 = some (20, 0, 0)) (hO : okO T O [2, 20]) : TK l D cs kf yX10_numberFromAll cX10_numberFromAll 5 (some (.long)) { frames := 0, cells := 0, slots := 0, locals := 0 } [.ref a0, .int x1] T O X (Tl D cs (fun _ u => u = (T, O, X))) := by
  refine tk_of (by decide) (Nat.le_of_ble_eq_true rfl) (fun p e s m below meth c ls A H locs hx hb hr hml hown hts hlocks hnm hkb hH hS hA hOX hks hE hl => ?_)
  have hown : s.vm.findClass RX10 = some m.cls := hown
  have hl : lv_has ls 5 [(0, .ref a0), (1, .int x1)] := hl
  refine lv_lconst (v := 0) hx hb dX10_numberFromAll_0 (by decide) ?_
  refine lv_lstore_n (lv' := [(2, .long 0), (0, .ref a0), (1, .int x1)]) hx hb dX10_numberFromAll_1 rfl hl (by decide) rfl (fun ls hl => ?_)
  refine lv_iconst (v := 0) hx hb dX10_numberFromAll_2 (by decide) ?_
  have J5 : ∀ (n : Nat) (p5_4 : Int32) (p5_2 : Int64) (H : Heap) (locs : List Loc) (ls : Array Slot), (14 - p5_4.toInt).toNat = n → (0 ≤ p5_4.toInt) → (p5_4.toInt ≤ 14) → HT D cs A T O X H → va_S A s.heap H locs → lv_has ls 5 [(4, .int p5_4), (2, .long p5_2), (0, .ref a0), (1, .int x1)] → W p l e { frames := 0, cells := 0, slots := 0, locals := 0 } s m [.ref a0, .int x1].toArray below meth c H locs 0 0 (MQ below (Tl D cs (fun _ u => u = (T, O, X)) A) [.ref a0, .int x1].toArray s 0 0 A) (F0 m 5 ls []) := by
    intro n
    induction n using Nat.strongRecOn with
    | _ n ih5 =>
      intro p5_4 p5_2 H locs ls hm5 l_p5_4 u_p5_4 hH hS hl
      refine lv_iload hx hb dX10_numberFromAll_5 (lv_at hl 0 rfl) ?_
      refine lv_bipush (v := 14) hx hb dX10_numberFromAll_7 (by decide) ?_
      refine lv_icmp_ge (tgt := 37) hx hb dX10_numberFromAll_9 (by decide) (fun c9 => ?_) (fun c9 => ?_)
      · skip
        have tc9 := f_ge (k := 14) (by decide) c9
        refine lv_lload_n hx hb dX10_numberFromAll_37 rfl (lv_at hl 1 rfl) ?_
        exact te_l hx hb hr hlocks hH hS rfl dX10_numberFromAll_38
      · skip
        have tc9 := f_nge (k := 14) (by decide) c9
        refine lv_iload_n hx hb dX10_numberFromAll_12 rfl (lv_at hl 3 rfl) ?_
        refine lv_iload hx hb dX10_numberFromAll_13 (lv_at hl 0 rfl) ?_
        refine lv_ishr hx hb dX10_numberFromAll_15 ?_
        refine lv_topi (fun v15 ev15 => ?_)
        refine lv_iconst (v := 1) hx hb dX10_numberFromAll_16 (by decide) ?_
        refine lv_iand hx hb dX10_numberFromAll_17 ?_
        refine lv_topi (fun v17 ev17 => ?_)
        have tv17 : 0 ≤ v17.toInt ∧ v17.toInt ≤ 1 := by rw [ev17]; exact and_r (by decide)
        have J31 : ∀ (p31_2 : Int64) (H : Heap) (locs : List Loc) (ls : Array Slot), HT D cs A T O X H → va_S A s.heap H locs → lv_has ls 5 [(4, .int p5_4), (2, .long p31_2), (0, .ref a0), (1, .int x1)] → W p l e { frames := 0, cells := 0, slots := 0, locals := 0 } s m [.ref a0, .int x1].toArray below meth c H locs 0 0 (MQ below (Tl D cs (fun _ u => u = (T, O, X)) A) [.ref a0, .int x1].toArray s 0 0 A) (F0 m 31 ls []) := by
          intro p31_2 H locs ls  hH hS hl
          obtain ⟨v31, ev31⟩ : ∃ y : Int32, y = p5_4 + 1 := ⟨_, rfl⟩
          have tv31 : v31.toInt = p5_4.toInt + (1) := by rw [ev31]; exact add_i rfl (by decide) (by omega) (by omega)
          refine lv_iinc (v := v31) (lv' := [(4, .int v31), (2, .long p31_2), (0, .ref a0), (1, .int x1)]) hx hb dX10_numberFromAll_31 hl (k := 0) rfl (by rw [ev31]; rfl) (by decide) rfl (fun ls hl => ?_)
          refine lv_goto (tgt := 5) hx hb dX10_numberFromAll_34 (by decide) ?_
          exact ih5 _ (by omega) v31 p31_2 _ _ _ rfl (by omega) (by omega) hH hS (lv_sub hl [0, 1, 2, 3] rfl)
        refine lv_if_eq (tgt := 31) hx hb dX10_numberFromAll_18 (by decide) (fun c18 => ?_) (fun c18 => ?_)
        · skip
          have tc18 := f_eq (k := 0) (by decide) c18
          exact J31 p5_2 _ _ _  hH hS (lv_sub hl [0, 1, 2, 3] rfl)
        · skip
          have tc18 := f_ne (k := 0) (by decide) c18
          refine lv_lload_n hx hb dX10_numberFromAll_21 rfl (lv_at hl 1 rfl) ?_
          refine lv_aload_n hx hb dX10_numberFromAll_22 rfl (lv_at hl 2 rfl) ?_
          refine t_get (ci := 10) (lst := ft10 0 0) (C := RX10) (F := TX10) (N := 7) hx hb hts uX10 hown hkb hH t_a0 (hO.no t_a0 (by decide)) (fun _ h9 => h9) rfl rfl 3 (by decide) rfl kw_276 (fun _ h9 => h9) dX10_numberFromAll_23 (fun v9 h9 => ?_)
          obtain ⟨v23, rfl, t_v23⟩ := h9
          refine lv_iload hx hb dX10_numberFromAll_26 (lv_at hl 0 rfl) ?_
          refine t_lld hx hb hkb hH t_v23 (hO.no t_v23 (by decide)) (by omega) (by omega) dX10_numberFromAll_28 (fun v28 => ?_)
          refine lv_ladd hx hb dX10_numberFromAll_29 ?_
          refine lv_topl (fun v29 ev29 => ?_)
          refine lv_lstore_n (lv' := [(2, .long v29), (4, .int p5_4), (0, .ref a0), (1, .int x1)]) hx hb dX10_numberFromAll_30 rfl hl (by decide) rfl (fun ls hl => ?_)
          exact J31 v29 _ _ _  hH hS (lv_sub hl [1, 0, 2, 3] rfl)
  refine lv_istore (lv' := [(4, .int 0), (2, .long 0), (0, .ref a0), (1, .int x1)]) hx hb dX10_numberFromAll_3 hl (by decide) rfl (fun ls hl => ?_)
  exact J5 _ 0 0 _ _ _ rfl (by decide) (by decide) hH hS (lv_sub hl [0, 1, 2, 3] rfl)
set_option maxHeartbeats 4000000 in
set_option maxRecDepth 100000 in
theorem s_Ways_howMany (l : Launch) (D : va_G) (cs : CS) (kf : KF) (T : TF) (O : List Nat) (X : va_W) (a0 : Nat) (a1 : Nat) (x2 : Int32) (t_a0 : T a0 = some (20, 0, 0)) (t_a1 : T a1 = some (15, 0, 0)) (hO : okO T O [1, 2, 12, 15, 19, 20]) : TK l D cs kf yX10_howMany cX10_howMany 6 (some (.long)) { frames := 5, cells := 0, slots := 0, locals := 127 } [.ref a0, .ref a1, .int x2] T O X (Tl D cs (fun _ u => u = (T, O, X))) := by
  refine tk_of (by decide) (Nat.le_of_ble_eq_true rfl) (fun p e s m below meth c ls A H locs hx hb hr hml hown hts hlocks hnm hkb hH hS hA hOX hks hE hl => ?_)
  have hown : s.vm.findClass RX10 = some m.cls := hown
  have hl : lv_has ls 6 [(0, .ref a0), (1, .ref a1), (2, .int x2)] := hl
  refine lv_aload_n hx hb dX10_howMany_0 rfl (lv_at hl 0 rfl) ?_
  refine lv_aload_n hx hb dX10_howMany_1 rfl (lv_at hl 1 rfl) ?_
  refine lv_iload_n hx hb dX10_howMany_2 rfl (lv_at hl 2 rfl) ?_
  refine tk_i hH hS hA (tr_V (n := 2) (As := [.ref a1, .int x2]) hx hb hml hown hts hkb hH hOX hks hE hS hA (s_Ways_findLayers l D cs kf T O X a0 a1 x2 t_a0 t_a1 (hO.sub (by decide))) kw_916 kw_918 ks_27 kw_9 kw_919 (by decide +kernel) ⟨Nat.le_of_ble_eq_true rfl, Nat.le_of_ble_eq_true rfl⟩ (HT.recv (ci := 10) hkb hH t_a0 (hO.no t_a0 (by decide)) rfl) rfl rfl hl.1 (Nat.le_of_ble_eq_true rfl) dX10_howMany_3 ⟨Nat.le_of_ble_eq_true rfl, Nat.le_of_ble_eq_true rfl⟩) (fun v3 u H locs hz9 hH hS => ?_)
  obtain ⟨rfl, l_v3, u_v3⟩ := hz9
  have hH : HT D cs A T O X H := hH
  refine W.widen (k := 0) (n := 0) (Nat.le_of_ble_eq_true rfl) (Nat.le_of_ble_eq_true rfl) ?_
  refine lv_istore_n (lv' := [(3, .int v3), (0, .ref a0), (1, .ref a1), (2, .int x2)]) hx hb dX10_howMany_6 rfl hl (by decide) rfl (fun ls hl => ?_)
  refine lv_iload_n hx hb dX10_howMany_7 rfl (lv_at hl 0 rfl) ?_
  refine lv_iconst (v := 1) hx hb dX10_howMany_8 (by decide) ?_
  refine lv_isub hx hb dX10_howMany_9 ?_
  refine lv_topi (fun v9 ev9 => ?_)
  have tv9 : v9.toInt = v3.toInt - (1) := by rw [ev9]; exact sub_i rfl (by decide : (1 : Int32).toInt = 1) (by omega) (by omega)
  have J12 : ∀ (n : Nat) (p12_4 : Int32) (H : Heap) (locs : List Loc) (ls : Array Slot), (p12_4.toInt - (-1)).toNat = n → (-1 ≤ p12_4.toInt) → (p12_4.toInt ≤ 13) → (p12_4.toInt < v3.toInt) → HT D cs A T O X H → va_S A s.heap H locs → lv_has ls 6 [(4, .int p12_4), (3, .int v3), (0, .ref a0), (1, .ref a1)] → W p l e { frames := 5, cells := 0, slots := 0, locals := 127 } s m [.ref a0, .ref a1, .int x2].toArray below meth c H locs 0 0 (MQ below (Tl D cs (fun _ u => u = (T, O, X)) A) [.ref a0, .ref a1, .int x2].toArray s 0 0 A) (F0 m 12 ls []) := by
    intro n
    induction n using Nat.strongRecOn with
    | _ n ih12 =>
      intro p12_4 H locs ls hm12 l_p12_4 u_p12_4 i12 hH hS hl
      refine lv_iload hx hb dX10_howMany_12 (lv_at hl 0 rfl) ?_
      refine lv_if_lt (tgt := 92) hx hb dX10_howMany_14 (by decide) (fun c14 => ?_) (fun c14 => ?_)
      · skip
        have tc14 := f_lt (k := 0) (by decide) c14
        refine lv_iload_n hx hb dX10_howMany_92 rfl (lv_at hl 1 rfl) ?_
        have J110 : ∀ (k110_0 : Int64) (H : Heap) (locs : List Loc) (ls : Array Slot), HT D cs A T O X H → va_S A s.heap H locs → lv_has ls 6 [] → W p l e { frames := 5, cells := 0, slots := 0, locals := 127 } s m [.ref a0, .ref a1, .int x2].toArray below meth c H locs 0 0 (MQ below (Tl D cs (fun _ u => u = (T, O, X)) A) [.ref a0, .ref a1, .int x2].toArray s 0 0 A) (F0 m 110 ls [.long k110_0]) := by
          intro k110_0 H locs ls  hH hS hl
          exact te_l hx hb hr hlocks hH hS rfl dX10_howMany_110
        refine lv_if_ne (tgt := 100) hx hb dX10_howMany_93 (by decide) (fun c93 => ?_) (fun c93 => ?_)
        · skip
          have tc93 := f_ne (k := 0) (by decide) c93
          refine lv_aload_n hx hb dX10_howMany_100 rfl (lv_at hl 2 rfl) ?_
          refine lv_aload_n hx hb dX10_howMany_101 rfl (lv_at hl 2 rfl) ?_
          refine t_get (ci := 10) (lst := ft10 0 0) (C := RX10) (F := TX10) (N := 7) hx hb hts uX10 hown hkb hH t_a0 (hO.no t_a0 (by decide)) (fun _ h9 => h9) rfl rfl 0 (by decide) rfl kw_272 (fun _ h9 => h9) dX10_howMany_102 (fun v9 h9 => ?_)
          obtain ⟨v102, rfl, t_v102⟩ := h9
          refine lv_iconst (v := 0) hx hb dX10_howMany_105 (by decide) ?_
          refine t_ild hx hb hkb hH t_v102 (hO.no t_v102 (by decide)) (by decide) (by decide) dX10_howMany_106 (fun v106 h9 => ?_)
          have tv106 : 0 ≤ v106.toInt ∧ v106.toInt ≤ 16383 := h9
          refine tk_l hH hS hA (tr_V (n := 1) (As := [.int v106]) hx hb hml hown hts hkb hH hOX hks hE hS hA (s_Ways_numberFromAll l D cs kf T O X a0 v106 t_a0 (hO.sub (by decide))) kw_984 kw_986 ks_29 kw_9 kw_987 (by decide +kernel) ⟨Nat.le_of_ble_eq_true rfl, Nat.le_of_ble_eq_true rfl⟩ (HT.recv (ci := 10) hkb hH t_a0 (hO.no t_a0 (by decide)) rfl) rfl rfl hl.1 (Nat.le_of_ble_eq_true rfl) dX10_howMany_107 ⟨Nat.le_of_ble_eq_true rfl, Nat.le_of_ble_eq_true rfl⟩) (fun v107 u H locs hz9 hH hS => ?_)
          have hz9 : u = (T, O, X) := hz9
          subst hz9
          have hH : HT D cs A T O X H := hH
          refine W.widen (k := 0) (n := 0) (Nat.le_of_ble_eq_true rfl) (Nat.le_of_ble_eq_true rfl) ?_
          exact J110 v107 _ _ _  hH hS (lv_sub hl [] rfl)
        · skip
          have tc93 := f_eq (k := 0) (by decide) c93
          refine lv_lconst (v := 0) hx hb dX10_howMany_96 (by decide) ?_
          refine lv_goto (tgt := 110) hx hb dX10_howMany_97 (by decide) ?_
          exact J110 0 _ _ _  hH hS (lv_sub hl [] rfl)
      · skip
        have tc14 := f_nlt (k := 0) (by decide) c14
        refine lv_iconst (v := 0) hx hb dX10_howMany_17 (by decide) ?_
        have J20 : ∀ (n : Nat) (p20_5 : Int32) (H : Heap) (locs : List Loc) (ls : Array Slot), (14 - p20_5.toInt).toNat = n → (0 ≤ p20_5.toInt) → (p20_5.toInt ≤ 14) → HT D cs A T O X H → va_S A s.heap H locs → lv_has ls 6 [(5, .int p20_5), (4, .int p12_4), (3, .int v3), (0, .ref a0), (1, .ref a1)] → W p l e { frames := 5, cells := 0, slots := 0, locals := 127 } s m [.ref a0, .ref a1, .int x2].toArray below meth c H locs 0 0 (MQ below (Tl D cs (fun _ u => u = (T, O, X)) A) [.ref a0, .ref a1, .int x2].toArray s 0 0 A) (F0 m 20 ls []) := by
          intro n
          induction n using Nat.strongRecOn with
          | _ n ih20 =>
            intro p20_5 H locs ls hm20 l_p20_5 u_p20_5 hH hS hl
            refine lv_iload hx hb dX10_howMany_20 (lv_at hl 0 rfl) ?_
            refine lv_bipush (v := 14) hx hb dX10_howMany_22 (by decide) ?_
            refine lv_icmp_ge (tgt := 86) hx hb dX10_howMany_24 (by decide) (fun c24 => ?_) (fun c24 => ?_)
            · skip
              have tc24 := f_ge (k := 14) (by decide) c24
              obtain ⟨v86, ev86⟩ : ∃ y : Int32, y = p12_4 + (-1) := ⟨_, rfl⟩
              have tv86 : v86.toInt = p12_4.toInt + (-1) := by rw [ev86]; exact add_i rfl (by decide) (by omega) (by omega)
              refine lv_iinc (v := v86) (lv' := [(4, .int v86), (5, .int p20_5), (3, .int v3), (0, .ref a0), (1, .ref a1)]) hx hb dX10_howMany_86 hl (k := 1) rfl (by rw [ev86]; rfl) (by decide) rfl (fun ls hl => ?_)
              refine lv_goto (tgt := 12) hx hb dX10_howMany_89 (by decide) ?_
              exact ih12 _ (by omega) v86 _ _ _ rfl (by omega) (by omega) (by omega) hH hS (lv_sub hl [0, 2, 3, 4] rfl)
            · skip
              have tc24 := f_nge (k := 14) (by decide) c24
              refine lv_aload_n hx hb dX10_howMany_27 rfl (lv_at hl 3 rfl) ?_
              refine t_get (ci := 10) (lst := ft10 0 0) (C := RX10) (F := TX10) (N := 7) hx hb hts uX10 hown hkb hH t_a0 (hO.no t_a0 (by decide)) (fun _ h9 => h9) rfl rfl 0 (by decide) rfl kw_272 (fun _ h9 => h9) dX10_howMany_28 (fun v9 h9 => ?_)
              obtain ⟨v28, rfl, t_v28⟩ := h9
              refine lv_iload hx hb dX10_howMany_31 (lv_at hl 1 rfl) ?_
              refine t_ild hx hb hkb hH t_v28 (hO.no t_v28 (by decide)) (by omega) (by omega) dX10_howMany_33 (fun v33 h9 => ?_)
              have tv33 : 0 ≤ v33.toInt ∧ v33.toInt ≤ 16383 := h9
              refine lv_iload hx hb dX10_howMany_34 (lv_at hl 0 rfl) ?_
              refine lv_ishr hx hb dX10_howMany_36 ?_
              refine lv_topi (fun v36 ev36 => ?_)
              have tv36 : 0 ≤ v36.toInt ∧ v36.toInt ≤ v33.toInt := by rw [ev36]; exact shr_b (by omega)
              refine lv_iconst (v := 1) hx hb dX10_howMany_37 (by decide) ?_
              refine lv_iand hx hb dX10_howMany_38 ?_
              refine lv_topi (fun v38 ev38 => ?_)
              have tv38 : 0 ≤ v38.toInt ∧ v38.toInt ≤ 1 := by rw [ev38]; exact and_r (by decide)
              have J80 : ∀  (H : Heap) (locs : List Loc) (ls : Array Slot), HT D cs A T O X H → va_S A s.heap H locs → lv_has ls 6 [(5, .int p20_5), (4, .int p12_4), (3, .int v3), (0, .ref a0), (1, .ref a1)] → W p l e { frames := 5, cells := 0, slots := 0, locals := 127 } s m [.ref a0, .ref a1, .int x2].toArray below meth c H locs 0 0 (MQ below (Tl D cs (fun _ u => u = (T, O, X)) A) [.ref a0, .ref a1, .int x2].toArray s 0 0 A) (F0 m 80 ls []) := by
                intro  H locs ls  hH hS hl
                obtain ⟨v80, ev80⟩ : ∃ y : Int32, y = p20_5 + 1 := ⟨_, rfl⟩
                have tv80 : v80.toInt = p20_5.toInt + (1) := by rw [ev80]; exact add_i rfl (by decide) (by omega) (by omega)
                refine lv_iinc (v := v80) (lv' := [(5, .int v80), (4, .int p12_4), (3, .int v3), (0, .ref a0), (1, .ref a1)]) hx hb dX10_howMany_80 hl (k := 0) rfl (by rw [ev80]; rfl) (by decide) rfl (fun ls hl => ?_)
                refine lv_goto (tgt := 20) hx hb dX10_howMany_83 (by decide) ?_
                exact ih20 _ (by omega) v80 _ _ _ rfl (by omega) (by omega) hH hS (lv_sub hl [0, 1, 2, 3, 4] rfl)
              refine lv_if_eq (tgt := 80) hx hb dX10_howMany_39 (by decide) (fun c39 => ?_) (fun c39 => ?_)
              · skip
                have tc39 := f_eq (k := 0) (by decide) c39
                exact J80  _ _ _  hH hS (lv_sub hl [0, 1, 2, 3, 4] rfl)
              · skip
                have tc39 := f_ne (k := 0) (by decide) c39
                refine lv_aload_n hx hb dX10_howMany_42 rfl (lv_at hl 3 rfl) ?_
                refine t_get (ci := 10) (lst := ft10 0 0) (C := RX10) (F := TX10) (N := 7) hx hb hts uX10 hown hkb hH t_a0 (hO.no t_a0 (by decide)) (fun _ h9 => h9) rfl rfl 3 (by decide) rfl kw_276 (fun _ h9 => h9) dX10_howMany_43 (fun v9 h9 => ?_)
                obtain ⟨v43, rfl, t_v43⟩ := h9
                refine lv_iload hx hb dX10_howMany_46 (lv_at hl 0 rfl) ?_
                refine lv_iload hx hb dX10_howMany_48 (lv_at hl 1 rfl) ?_
                refine lv_iload_n hx hb dX10_howMany_50 rfl (lv_at hl 2 rfl) ?_
                refine lv_iconst (v := 1) hx hb dX10_howMany_51 (by decide) ?_
                refine lv_isub hx hb dX10_howMany_52 ?_
                refine lv_topi (fun v52 ev52 => ?_)
                have tv52 : v52.toInt = v3.toInt - (1) := by rw [ev52]; exact sub_i rfl (by decide : (1 : Int32).toInt = 1) (by omega) (by omega)
                have J79 : ∀ (k79_0 : Int64) (H : Heap) (locs : List Loc) (ls : Array Slot), HT D cs A T O X H → va_S A s.heap H locs → lv_has ls 6 [(5, .int p20_5), (4, .int p12_4), (3, .int v3), (0, .ref a0), (1, .ref a1)] → W p l e { frames := 5, cells := 0, slots := 0, locals := 127 } s m [.ref a0, .ref a1, .int x2].toArray below meth c H locs 0 0 (MQ below (Tl D cs (fun _ u => u = (T, O, X)) A) [.ref a0, .ref a1, .int x2].toArray s 0 0 A) (F0 m 79 ls [.long k79_0, .int p20_5, .ref v43]) := by
                  intro k79_0 H locs ls  hH hS hl
                  refine t_lst hx hb hkb hH hS t_v43 (hO.no t_v43 (by decide)) (by omega) (by omega) dX10_howMany_79 (fun H locs hH hS => ?_)
                  exact J80  _ _ _  hH hS (lv_sub hl [0, 1, 2, 3, 4] rfl)
                refine lv_icmp_ne (tgt := 60) hx hb dX10_howMany_53 (by decide) (fun c53 => ?_) (fun c53 => ?_)
                · skip
                  have fuc53 := full_i p12_4
                  have fvc53 := full_i v52
                  have tc53 := g_ne c53
                  refine lv_aload_n hx hb dX10_howMany_60 rfl (lv_at hl 3 rfl) ?_
                  refine lv_aload_n hx hb dX10_howMany_61 rfl (lv_at hl 4 rfl) ?_
                  refine lv_iload hx hb dX10_howMany_62 (lv_at hl 0 rfl) ?_
                  refine lv_aload_n hx hb dX10_howMany_64 rfl (lv_at hl 3 rfl) ?_
                  refine t_get (ci := 10) (lst := ft10 0 0) (C := RX10) (F := TX10) (N := 7) hx hb hts uX10 hown hkb hH t_a0 (hO.no t_a0 (by decide)) (fun _ h9 => h9) rfl rfl 0 (by decide) rfl kw_272 (fun _ h9 => h9) dX10_howMany_65 (fun v9 h9 => ?_)
                  obtain ⟨v65, rfl, t_v65⟩ := h9
                  refine lv_iload hx hb dX10_howMany_68 (lv_at hl 1 rfl) ?_
                  refine lv_iconst (v := 1) hx hb dX10_howMany_70 (by decide) ?_
                  refine lv_iadd hx hb dX10_howMany_71 ?_
                  refine lv_topi (fun v71 ev71 => ?_)
                  have tv71 : v71.toInt = p12_4.toInt + (1) := by rw [ev71]; exact add_i rfl (by decide : (1 : Int32).toInt = 1) (by omega) (by omega)
                  refine t_ild hx hb hkb hH t_v65 (hO.no t_v65 (by decide)) (by omega) (by omega) dX10_howMany_72 (fun v72 h9 => ?_)
                  have tv72 : 0 ≤ v72.toInt ∧ v72.toInt ≤ 16383 := h9
                  refine tk_i hH hS hA (tr_V (n := 2) (As := [.int p20_5, .int v72]) hx hb hml hown hts hkb hH hOX hks hE hS hA (s_Rows_stepped l D cs kf T O X a1 p20_5 v72 t_a1 (hO.sub (by decide))) kw_920 kw_863 kw_864 kw_8 kw_865 (by decide +kernel) ⟨Nat.le_of_ble_eq_true rfl, Nat.le_of_ble_eq_true rfl⟩ (HT.recv (ci := 5) hkb hH t_a1 (hO.no t_a1 (by decide)) rfl) rfl rfl hl.1 (Nat.le_of_ble_eq_true rfl) dX10_howMany_73 ⟨Nat.le_of_ble_eq_true rfl, Nat.le_of_ble_eq_true rfl⟩) (fun v73 u H locs hz9 hH hS => ?_)
                  obtain ⟨rfl, l_v73, u_v73⟩ := hz9
                  have hH : HT D cs A T O X H := hH
                  refine W.widen (k := 0) (n := 0) (Nat.le_of_ble_eq_true rfl) (Nat.le_of_ble_eq_true rfl) ?_
                  refine tk_l hH hS hA (tr_V (n := 1) (As := [.int v73]) hx hb hml hown hts hkb hH hOX hks hE hS hA (s_Ways_numberFromAll l D cs kf T O X a0 v73 t_a0 (hO.sub (by decide))) kw_984 kw_986 ks_29 kw_9 kw_987 (by decide +kernel) ⟨Nat.le_of_ble_eq_true rfl, Nat.le_of_ble_eq_true rfl⟩ (HT.recv (ci := 10) hkb hH t_a0 (hO.no t_a0 (by decide)) rfl) rfl rfl hl.1 (Nat.le_of_ble_eq_true rfl) dX10_howMany_76 ⟨Nat.le_of_ble_eq_true rfl, Nat.le_of_ble_eq_true rfl⟩) (fun v76 u H locs hz9 hH hS => ?_)
                  have hz9 : u = (T, O, X) := hz9
                  subst hz9
                  have hH : HT D cs A T O X H := hH
                  refine W.widen (k := 0) (n := 0) (Nat.le_of_ble_eq_true rfl) (Nat.le_of_ble_eq_true rfl) ?_
                  exact J79 v76 _ _ _  hH hS (lv_sub hl [0, 1, 2, 3, 4] rfl)
                · skip
                  have fuc53 := full_i p12_4
                  have fvc53 := full_i v52
                  have tc53 := g_eq c53
                  refine lv_lconst (v := 1) hx hb dX10_howMany_56 (by decide) ?_
                  refine lv_goto (tgt := 79) hx hb dX10_howMany_57 (by decide) ?_
                  exact J79 1 _ _ _  hH hS (lv_sub hl [0, 1, 2, 3, 4] rfl)
        refine lv_istore (lv' := [(5, .int 0), (4, .int p12_4), (3, .int v3), (0, .ref a0), (1, .ref a1)]) hx hb dX10_howMany_18 hl (by decide) rfl (fun ls hl => ?_)
        exact J20 _ 0 _ _ _ rfl (by decide) (by decide) hH hS (lv_sub hl [0, 1, 2, 3, 4] rfl)
  refine lv_istore (lv' := [(4, .int v9), (3, .int v3), (0, .ref a0), (1, .ref a1), (2, .int x2)]) hx hb dX10_howMany_10 hl (by decide) rfl (fun ls hl => ?_)
  exact J12 _ v9 _ _ _ rfl (by omega) (by omega) (by omega) hH hS (lv_sub hl [0, 1, 2, 3] rfl)
set_option maxHeartbeats 4000000 in
set_option maxRecDepth 100000 in
theorem s_Ways_leastFromAny (l : Launch) (D : va_G) (cs : CS) (kf : KF) (T : TF) (O : List Nat) (X : va_W) (a0 : Nat) (x1 : Int32) (t_a0 : T a0 = some (20, 0, 0)) (hO : okO T O [1, 20]) : TK l D cs kf yX10_leastFromAny cX10_leastFromAny 4 (some (.int)) { frames := 1, cells := 0, slots := 0, locals := 13 } [.ref a0, .int x1] T O X (Ti D cs (fun r u => u = (T, O, X) ∧ r.toInt ≤ 16384)) := by
  refine tk_of (by decide) (Nat.le_of_ble_eq_true rfl) (fun p e s m below meth c ls A H locs hx hb hr hml hown hts hlocks hnm hkb hH hS hA hOX hks hE hl => ?_)
  have hown : s.vm.findClass RX10 = some m.cls := hown
  have hl : lv_has ls 4 [(0, .ref a0), (1, .int x1)] := hl
  refine lv_sipush (v := 16384) hx hb dX10_leastFromAny_0 (by decide) ?_
  refine lv_istore_n (lv' := [(2, .int 16384), (0, .ref a0), (1, .int x1)]) hx hb dX10_leastFromAny_3 rfl hl (by decide) rfl (fun ls hl => ?_)
  refine lv_iconst (v := 0) hx hb dX10_leastFromAny_4 (by decide) ?_
  have J6 : ∀ (n : Nat) (p6_3 : Int32) (p6_2 : Int32) (H : Heap) (locs : List Loc) (ls : Array Slot), (14 - p6_3.toInt).toNat = n → (0 ≤ p6_3.toInt) → (p6_3.toInt ≤ 14) → (p6_2.toInt ≤ 16384) → HT D cs A T O X H → va_S A s.heap H locs → lv_has ls 4 [(3, .int p6_3), (2, .int p6_2), (0, .ref a0), (1, .int x1)] → W p l e { frames := 1, cells := 0, slots := 0, locals := 13 } s m [.ref a0, .int x1].toArray below meth c H locs 0 0 (MQ below (Ti D cs (fun r u => u = (T, O, X) ∧ r.toInt ≤ 16384) A) [.ref a0, .int x1].toArray s 0 0 A) (F0 m 6 ls []) := by
    intro n
    induction n using Nat.strongRecOn with
    | _ n ih6 =>
      intro p6_3 p6_2 H locs ls hm6 l_p6_3 u_p6_3 u_p6_2 hH hS hl
      refine lv_iload_n hx hb dX10_leastFromAny_6 rfl (lv_at hl 0 rfl) ?_
      refine lv_bipush (v := 14) hx hb dX10_leastFromAny_7 (by decide) ?_
      refine lv_icmp_ge (tgt := 37) hx hb dX10_leastFromAny_9 (by decide) (fun c9 => ?_) (fun c9 => ?_)
      · skip
        have tc9 := f_ge (k := 14) (by decide) c9
        refine lv_iload_n hx hb dX10_leastFromAny_37 rfl (lv_at hl 1 rfl) ?_
        exact te_i hx hb hr hlocks hH hS (⟨rfl, by omega⟩) dX10_leastFromAny_38
      · skip
        have tc9 := f_nge (k := 14) (by decide) c9
        refine lv_iload_n hx hb dX10_leastFromAny_12 rfl (lv_at hl 3 rfl) ?_
        refine lv_iload_n hx hb dX10_leastFromAny_13 rfl (lv_at hl 0 rfl) ?_
        refine lv_ishr hx hb dX10_leastFromAny_14 ?_
        refine lv_topi (fun v14 ev14 => ?_)
        refine lv_iconst (v := 1) hx hb dX10_leastFromAny_15 (by decide) ?_
        refine lv_iand hx hb dX10_leastFromAny_16 ?_
        refine lv_topi (fun v16 ev16 => ?_)
        have tv16 : 0 ≤ v16.toInt ∧ v16.toInt ≤ 1 := by rw [ev16]; exact and_r (by decide)
        have J31 : ∀ (p31_2 : Int32) (H : Heap) (locs : List Loc) (ls : Array Slot), (p31_2.toInt ≤ 16384) → HT D cs A T O X H → va_S A s.heap H locs → lv_has ls 4 [(3, .int p6_3), (2, .int p31_2), (0, .ref a0), (1, .int x1)] → W p l e { frames := 1, cells := 0, slots := 0, locals := 13 } s m [.ref a0, .int x1].toArray below meth c H locs 0 0 (MQ below (Ti D cs (fun r u => u = (T, O, X) ∧ r.toInt ≤ 16384) A) [.ref a0, .int x1].toArray s 0 0 A) (F0 m 31 ls []) := by
          intro p31_2 H locs ls u_p31_2 hH hS hl
          obtain ⟨v31, ev31⟩ : ∃ y : Int32, y = p6_3 + 1 := ⟨_, rfl⟩
          have tv31 : v31.toInt = p6_3.toInt + (1) := by rw [ev31]; exact add_i rfl (by decide) (by omega) (by omega)
          refine lv_iinc (v := v31) (lv' := [(3, .int v31), (2, .int p31_2), (0, .ref a0), (1, .int x1)]) hx hb dX10_leastFromAny_31 hl (k := 0) rfl (by rw [ev31]; rfl) (by decide) rfl (fun ls hl => ?_)
          refine lv_goto (tgt := 6) hx hb dX10_leastFromAny_34 (by decide) ?_
          exact ih6 _ (by omega) v31 p31_2 _ _ _ rfl (by omega) (by omega) (by omega) hH hS (lv_sub hl [0, 1, 2, 3] rfl)
        refine lv_if_eq (tgt := 31) hx hb dX10_leastFromAny_17 (by decide) (fun c17 => ?_) (fun c17 => ?_)
        · skip
          have tc17 := f_eq (k := 0) (by decide) c17
          exact J31 p6_2 _ _ _ (by omega) hH hS (lv_sub hl [0, 1, 2, 3] rfl)
        · skip
          have tc17 := f_ne (k := 0) (by decide) c17
          refine lv_iload_n hx hb dX10_leastFromAny_20 rfl (lv_at hl 1 rfl) ?_
          refine lv_aload_n hx hb dX10_leastFromAny_21 rfl (lv_at hl 2 rfl) ?_
          refine t_get (ci := 10) (lst := ft10 0 0) (C := RX10) (F := TX10) (N := 7) hx hb hts uX10 hown hkb hH t_a0 (hO.no t_a0 (by decide)) (fun _ h9 => h9) rfl rfl 4 (by decide) rfl kw_277 (fun _ h9 => h9) dX10_leastFromAny_22 (fun v9 h9 => ?_)
          obtain ⟨v22, rfl, t_v22⟩ := h9
          refine lv_iload_n hx hb dX10_leastFromAny_25 rfl (lv_at hl 0 rfl) ?_
          refine t_ild hx hb hkb hH t_v22 (hO.no t_v22 (by decide)) (by omega) (by omega) dX10_leastFromAny_26 (fun v26 h9 => ?_)
          refine va_mmin hx hb (by rw [hml]; exact hl.1.symm) hown (hts _ kw_1159) (hts _ kw_450) (hts _ kw_6) (hts _ kw_451) (Nat.le_of_ble_eq_true rfl) (Nat.le_of_ble_eq_true rfl) (Nat.le_of_ble_eq_true rfl) (Nat.le_of_ble_eq_true rfl) dX10_leastFromAny_27 ?_
          refine lv_topi (fun v27 ev27 => ?_)
          have tv27 : v27.toInt = min p6_2.toInt v26.toInt := by rw [ev27]; exact min_i rfl rfl
          refine lv_istore_n (lv' := [(2, .int v27), (3, .int p6_3), (0, .ref a0), (1, .int x1)]) hx hb dX10_leastFromAny_30 rfl hl (by decide) rfl (fun ls hl => ?_)
          exact J31 v27 _ _ _ (by omega) hH hS (lv_sub hl [1, 0, 2, 3] rfl)
  refine lv_istore_n (lv' := [(3, .int 0), (2, .int 16384), (0, .ref a0), (1, .int x1)]) hx hb dX10_leastFromAny_5 rfl hl (by decide) rfl (fun ls hl => ?_)
  exact J6 _ 0 16384 _ _ _ rfl (by decide) (by decide) (by decide) hH hS (lv_sub hl [0, 1, 2, 3] rfl)
set_option maxHeartbeats 4000000 in
set_option maxRecDepth 100000 in
theorem s_Ways_leastUsed (l : Launch) (D : va_G) (cs : CS) (kf : KF) (T : TF) (O : List Nat) (X : va_W) (a0 : Nat) (a1 : Nat) (x2 : Int32) (t_a0 : T a0 = some (20, 0, 0)) (t_a1 : T a1 = some (15, 0, 0)) (hO : okO T O [1, 12, 15, 19, 20]) : TK l D cs kf yX10_leastUsed cX10_leastUsed 8 (some (.int)) { frames := 5, cells := 0, slots := 0, locals := 127 } [.ref a0, .ref a1, .int x2] T O X (Ti D cs (fun r u => u = (T, O, X) ∧ r.toInt ≤ 16384)) := by
  refine tk_of (by decide) (Nat.le_of_ble_eq_true rfl) (fun p e s m below meth c ls A H locs hx hb hr hml hown hts hlocks hnm hkb hH hS hA hOX hks hE hl => ?_)
  have hown : s.vm.findClass RX10 = some m.cls := hown
  have hl : lv_has ls 8 [(0, .ref a0), (1, .ref a1), (2, .int x2)] := hl
  refine lv_aload_n hx hb dX10_leastUsed_0 rfl (lv_at hl 0 rfl) ?_
  refine lv_aload_n hx hb dX10_leastUsed_1 rfl (lv_at hl 1 rfl) ?_
  refine lv_iload_n hx hb dX10_leastUsed_2 rfl (lv_at hl 2 rfl) ?_
  refine tk_i hH hS hA (tr_V (n := 2) (As := [.ref a1, .int x2]) hx hb hml hown hts hkb hH hOX hks hE hS hA (s_Ways_findLayers l D cs kf T O X a0 a1 x2 t_a0 t_a1 (hO.sub (by decide))) kw_916 kw_918 ks_27 kw_9 kw_919 (by decide +kernel) ⟨Nat.le_of_ble_eq_true rfl, Nat.le_of_ble_eq_true rfl⟩ (HT.recv (ci := 10) hkb hH t_a0 (hO.no t_a0 (by decide)) rfl) rfl rfl hl.1 (Nat.le_of_ble_eq_true rfl) dX10_leastUsed_3 ⟨Nat.le_of_ble_eq_true rfl, Nat.le_of_ble_eq_true rfl⟩) (fun v3 u H locs hz9 hH hS => ?_)
  obtain ⟨rfl, l_v3, u_v3⟩ := hz9
  have hH : HT D cs A T O X H := hH
  refine W.widen (k := 0) (n := 0) (Nat.le_of_ble_eq_true rfl) (Nat.le_of_ble_eq_true rfl) ?_
  refine lv_istore_n (lv' := [(3, .int v3), (0, .ref a0), (1, .ref a1), (2, .int x2)]) hx hb dX10_leastUsed_6 rfl hl (by decide) rfl (fun ls hl => ?_)
  refine lv_aload_n hx hb dX10_leastUsed_7 rfl (lv_at hl 1 rfl) ?_
  refine lv_aload_n hx hb dX10_leastUsed_8 rfl (lv_at hl 2 rfl) ?_
  refine lv_iload_n hx hb dX10_leastUsed_9 rfl (lv_at hl 0 rfl) ?_
  refine tk_v hH hS hA (tr_V (n := 2) (As := [.ref a1, .int v3]) hx hb hml hown hts hkb hH hOX hks hE hS hA (s_Ways_keepLeading l D cs kf T O X a0 a1 v3 t_a0 t_a1 (by omega) (by omega) (hO.sub (by decide))) kw_921 kw_923 ks_28 kw_9 kw_924 (by decide +kernel) ⟨Nat.le_of_ble_eq_true rfl, Nat.le_of_ble_eq_true rfl⟩ (HT.recv (ci := 10) hkb hH t_a0 (hO.no t_a0 (by decide)) rfl) rfl rfl hl.1 (Nat.le_of_ble_eq_true rfl) dX10_leastUsed_10 ⟨Nat.le_of_ble_eq_true rfl, Nat.le_of_ble_eq_true rfl⟩) (fun u H locs hz9 hH hS => ?_)
  have hz9 : u = (T, O, X) := hz9
  subst hz9
  have hH : HT D cs A T O X H := hH
  refine W.widen (k := 0) (n := 0) (Nat.le_of_ble_eq_true rfl) (Nat.le_of_ble_eq_true rfl) ?_
  refine lv_aload_n hx hb dX10_leastUsed_13 rfl (lv_at hl 2 rfl) ?_
  refine t_get (ci := 5) (lst := ft5 0 0) (C := RX5) (F := TX5) (N := 6) hx hb hts uX5 hown hkb hH t_a1 (hO.no t_a1 (by decide)) (fun _ h9 => h9) rfl rfl 0 (by decide) rfl kw_246 (fun _ h9 => h9) dX10_leastUsed_14 (fun v9 h9 => ?_)
  obtain ⟨v14, hv14, gv14, rfl, t_v14⟩ := h9
  refine tk_i hH hS hA (tr_V (n := 0) (As := []) hx hb hml hown hts hkb hH hOX hks hE hS hA (s_Wall_middles l D cs kf T O X v14 hv14 gv14 t_v14 (hO.sub (by decide))) kw_1154 kw_683 kw_684 kw_5 kw_685 (by decide +kernel) ⟨Nat.le_of_ble_eq_true rfl, Nat.le_of_ble_eq_true rfl⟩ (HT.recv (ci := 9) hkb hH t_v14.1 (hO.no t_v14.1 (by decide)) rfl) rfl rfl hl.1 (Nat.le_of_ble_eq_true rfl) dX10_leastUsed_17 ⟨Nat.le_of_ble_eq_true rfl, Nat.le_of_ble_eq_true rfl⟩) (fun v17 u H locs hz9 hH hS => ?_)
  obtain ⟨rfl, l_v17, u_v17⟩ := hz9
  have hH : HT D cs A T O X H := hH
  refine W.widen (k := 0) (n := 0) (Nat.le_of_ble_eq_true rfl) (Nat.le_of_ble_eq_true rfl) ?_
  refine lv_istore (lv' := [(4, .int v17), (3, .int v3), (0, .ref a0), (1, .ref a1), (2, .int x2)]) hx hb dX10_leastUsed_20 hl (by decide) rfl (fun ls hl => ?_)
  refine lv_iload_n hx hb dX10_leastUsed_22 rfl (lv_at hl 1 rfl) ?_
  refine lv_iconst (v := 1) hx hb dX10_leastUsed_23 (by decide) ?_
  refine lv_isub hx hb dX10_leastUsed_24 ?_
  refine lv_topi (fun v24 ev24 => ?_)
  have tv24 : v24.toInt = v3.toInt - (1) := by rw [ev24]; exact sub_i rfl (by decide : (1 : Int32).toInt = 1) (by omega) (by omega)
  have J27 : ∀ (n : Nat) (p27_5 : Int32) (H : Heap) (locs : List Loc) (ls : Array Slot), (p27_5.toInt - (-1)).toNat = n → (-1 ≤ p27_5.toInt) → (p27_5.toInt ≤ 13) → (p27_5.toInt < v3.toInt) → HT D cs A T O X H → va_S A s.heap H locs → lv_has ls 8 [(5, .int p27_5), (4, .int v17), (3, .int v3), (0, .ref a0), (1, .ref a1)] → W p l e { frames := 5, cells := 0, slots := 0, locals := 127 } s m [.ref a0, .ref a1, .int x2].toArray below meth c H locs 0 0 (MQ below (Ti D cs (fun r u => u = (T, O, X) ∧ r.toInt ≤ 16384) A) [.ref a0, .ref a1, .int x2].toArray s 0 0 A) (F0 m 27 ls []) := by
    intro n
    induction n using Nat.strongRecOn with
    | _ n ih27 =>
      intro p27_5 H locs ls hm27 l_p27_5 u_p27_5 i27 hH hS hl
      refine lv_iload hx hb dX10_leastUsed_27 (lv_at hl 0 rfl) ?_
      refine lv_if_lt (tgt := 119) hx hb dX10_leastUsed_29 (by decide) (fun c29 => ?_) (fun c29 => ?_)
      · skip
        have tc29 := f_lt (k := 0) (by decide) c29
        refine lv_iload_n hx hb dX10_leastUsed_119 rfl (lv_at hl 2 rfl) ?_
        have J137 : ∀ (k137_0 : Int32) (H : Heap) (locs : List Loc) (ls : Array Slot), (k137_0.toInt ≤ 16384) → HT D cs A T O X H → va_S A s.heap H locs → lv_has ls 8 [] → W p l e { frames := 5, cells := 0, slots := 0, locals := 127 } s m [.ref a0, .ref a1, .int x2].toArray below meth c H locs 0 0 (MQ below (Ti D cs (fun r u => u = (T, O, X) ∧ r.toInt ≤ 16384) A) [.ref a0, .ref a1, .int x2].toArray s 0 0 A) (F0 m 137 ls [.int k137_0]) := by
          intro k137_0 H locs ls u_k137_0 hH hS hl
          exact te_i hx hb hr hlocks hH hS (⟨rfl, by omega⟩) dX10_leastUsed_137
        refine lv_if_ne (tgt := 127) hx hb dX10_leastUsed_120 (by decide) (fun c120 => ?_) (fun c120 => ?_)
        · skip
          have tc120 := f_ne (k := 0) (by decide) c120
          refine lv_aload_n hx hb dX10_leastUsed_127 rfl (lv_at hl 3 rfl) ?_
          refine lv_aload_n hx hb dX10_leastUsed_128 rfl (lv_at hl 3 rfl) ?_
          refine t_get (ci := 10) (lst := ft10 0 0) (C := RX10) (F := TX10) (N := 7) hx hb hts uX10 hown hkb hH t_a0 (hO.no t_a0 (by decide)) (fun _ h9 => h9) rfl rfl 0 (by decide) rfl kw_272 (fun _ h9 => h9) dX10_leastUsed_129 (fun v9 h9 => ?_)
          obtain ⟨v129, rfl, t_v129⟩ := h9
          refine lv_iconst (v := 0) hx hb dX10_leastUsed_132 (by decide) ?_
          refine t_ild hx hb hkb hH t_v129 (hO.no t_v129 (by decide)) (by decide) (by decide) dX10_leastUsed_133 (fun v133 h9 => ?_)
          have tv133 : 0 ≤ v133.toInt ∧ v133.toInt ≤ 16383 := h9
          refine tk_i hH hS hA (tr_V (n := 1) (As := [.int v133]) hx hb hml hown hts hkb hH hOX hks hE hS hA (s_Ways_leastFromAny l D cs kf T O X a0 v133 t_a0 (hO.sub (by decide))) kw_1155 kw_1157 ks_41 kw_9 kw_1158 (by decide +kernel) ⟨Nat.le_of_ble_eq_true rfl, Nat.le_of_ble_eq_true rfl⟩ (HT.recv (ci := 10) hkb hH t_a0 (hO.no t_a0 (by decide)) rfl) rfl rfl hl.1 (Nat.le_of_ble_eq_true rfl) dX10_leastUsed_134 ⟨Nat.le_of_ble_eq_true rfl, Nat.le_of_ble_eq_true rfl⟩) (fun v134 u H locs hz9 hH hS => ?_)
          obtain ⟨rfl, u_v134⟩ := hz9
          have hH : HT D cs A T O X H := hH
          refine W.widen (k := 0) (n := 0) (Nat.le_of_ble_eq_true rfl) (Nat.le_of_ble_eq_true rfl) ?_
          exact J137 v134 _ _ _ (by omega) hH hS (lv_sub hl [] rfl)
        · skip
          have tc120 := f_eq (k := 0) (by decide) c120
          refine lv_iconst (v := (-1)) hx hb dX10_leastUsed_123 (by decide) ?_
          refine lv_goto (tgt := 137) hx hb dX10_leastUsed_124 (by decide) ?_
          exact J137 (-1) _ _ _ (by decide) hH hS (lv_sub hl [] rfl)
      · skip
        have tc29 := f_nlt (k := 0) (by decide) c29
        refine lv_iconst (v := 0) hx hb dX10_leastUsed_32 (by decide) ?_
        have J35 : ∀ (n : Nat) (p35_6 : Int32) (H : Heap) (locs : List Loc) (ls : Array Slot), (14 - p35_6.toInt).toNat = n → (0 ≤ p35_6.toInt) → (p35_6.toInt ≤ 14) → HT D cs A T O X H → va_S A s.heap H locs → lv_has ls 8 [(6, .int p35_6), (5, .int p27_5), (4, .int v17), (3, .int v3), (0, .ref a0), (1, .ref a1)] → W p l e { frames := 5, cells := 0, slots := 0, locals := 127 } s m [.ref a0, .ref a1, .int x2].toArray below meth c H locs 0 0 (MQ below (Ti D cs (fun r u => u = (T, O, X) ∧ r.toInt ≤ 16384) A) [.ref a0, .ref a1, .int x2].toArray s 0 0 A) (F0 m 35 ls []) := by
          intro n
          induction n using Nat.strongRecOn with
          | _ n ih35 =>
            intro p35_6 H locs ls hm35 l_p35_6 u_p35_6 hH hS hl
            refine lv_iload hx hb dX10_leastUsed_35 (lv_at hl 0 rfl) ?_
            refine lv_bipush (v := 14) hx hb dX10_leastUsed_37 (by decide) ?_
            refine lv_icmp_ge (tgt := 113) hx hb dX10_leastUsed_39 (by decide) (fun c39 => ?_) (fun c39 => ?_)
            · skip
              have tc39 := f_ge (k := 14) (by decide) c39
              obtain ⟨v113, ev113⟩ : ∃ y : Int32, y = p27_5 + (-1) := ⟨_, rfl⟩
              have tv113 : v113.toInt = p27_5.toInt + (-1) := by rw [ev113]; exact add_i rfl (by decide) (by omega) (by omega)
              refine lv_iinc (v := v113) (lv' := [(5, .int v113), (6, .int p35_6), (4, .int v17), (3, .int v3), (0, .ref a0), (1, .ref a1)]) hx hb dX10_leastUsed_113 hl (k := 1) rfl (by rw [ev113]; rfl) (by decide) rfl (fun ls hl => ?_)
              refine lv_goto (tgt := 27) hx hb dX10_leastUsed_116 (by decide) ?_
              exact ih27 _ (by omega) v113 _ _ _ rfl (by omega) (by omega) (by omega) hH hS (lv_sub hl [0, 2, 3, 4, 5] rfl)
            · skip
              have tc39 := f_nge (k := 14) (by decide) c39
              refine lv_aload_n hx hb dX10_leastUsed_42 rfl (lv_at hl 4 rfl) ?_
              refine t_get (ci := 10) (lst := ft10 0 0) (C := RX10) (F := TX10) (N := 7) hx hb hts uX10 hown hkb hH t_a0 (hO.no t_a0 (by decide)) (fun _ h9 => h9) rfl rfl 0 (by decide) rfl kw_272 (fun _ h9 => h9) dX10_leastUsed_43 (fun v9 h9 => ?_)
              obtain ⟨v43, rfl, t_v43⟩ := h9
              refine lv_iload hx hb dX10_leastUsed_46 (lv_at hl 1 rfl) ?_
              refine t_ild hx hb hkb hH t_v43 (hO.no t_v43 (by decide)) (by omega) (by omega) dX10_leastUsed_48 (fun v48 h9 => ?_)
              have tv48 : 0 ≤ v48.toInt ∧ v48.toInt ≤ 16383 := h9
              refine lv_iload hx hb dX10_leastUsed_49 (lv_at hl 0 rfl) ?_
              refine lv_ishr hx hb dX10_leastUsed_51 ?_
              refine lv_topi (fun v51 ev51 => ?_)
              have tv51 : 0 ≤ v51.toInt ∧ v51.toInt ≤ v48.toInt := by rw [ev51]; exact shr_b (by omega)
              refine lv_iconst (v := 1) hx hb dX10_leastUsed_52 (by decide) ?_
              refine lv_iand hx hb dX10_leastUsed_53 ?_
              refine lv_topi (fun v53 ev53 => ?_)
              have tv53 : 0 ≤ v53.toInt ∧ v53.toInt ≤ 1 := by rw [ev53]; exact and_r (by decide)
              have J107 : ∀  (H : Heap) (locs : List Loc) (ls : Array Slot), HT D cs A T O X H → va_S A s.heap H locs → lv_has ls 8 [(6, .int p35_6), (5, .int p27_5), (4, .int v17), (3, .int v3), (0, .ref a0), (1, .ref a1)] → W p l e { frames := 5, cells := 0, slots := 0, locals := 127 } s m [.ref a0, .ref a1, .int x2].toArray below meth c H locs 0 0 (MQ below (Ti D cs (fun r u => u = (T, O, X) ∧ r.toInt ≤ 16384) A) [.ref a0, .ref a1, .int x2].toArray s 0 0 A) (F0 m 107 ls []) := by
                intro  H locs ls  hH hS hl
                obtain ⟨v107, ev107⟩ : ∃ y : Int32, y = p35_6 + 1 := ⟨_, rfl⟩
                have tv107 : v107.toInt = p35_6.toInt + (1) := by rw [ev107]; exact add_i rfl (by decide) (by omega) (by omega)
                refine lv_iinc (v := v107) (lv' := [(6, .int v107), (5, .int p27_5), (4, .int v17), (3, .int v3), (0, .ref a0), (1, .ref a1)]) hx hb dX10_leastUsed_107 hl (k := 0) rfl (by rw [ev107]; rfl) (by decide) rfl (fun ls hl => ?_)
                refine lv_goto (tgt := 35) hx hb dX10_leastUsed_110 (by decide) ?_
                exact ih35 _ (by omega) v107 _ _ _ rfl (by omega) (by omega) hH hS (lv_sub hl [0, 1, 2, 3, 4, 5] rfl)
              refine lv_if_eq (tgt := 107) hx hb dX10_leastUsed_54 (by decide) (fun c54 => ?_) (fun c54 => ?_)
              · skip
                have tc54 := f_eq (k := 0) (by decide) c54
                exact J107  _ _ _  hH hS (lv_sub hl [0, 1, 2, 3, 4, 5] rfl)
              · skip
                have tc54 := f_ne (k := 0) (by decide) c54
                refine lv_iload hx hb dX10_leastUsed_57 (lv_at hl 1 rfl) ?_
                refine lv_iload_n hx hb dX10_leastUsed_59 rfl (lv_at hl 3 rfl) ?_
                refine lv_iconst (v := 1) hx hb dX10_leastUsed_60 (by decide) ?_
                refine lv_isub hx hb dX10_leastUsed_61 ?_
                refine lv_topi (fun v61 ev61 => ?_)
                have tv61 : v61.toInt = v3.toInt - (1) := by rw [ev61]; exact sub_i rfl (by decide : (1 : Int32).toInt = 1) (by omega) (by omega)
                have J88 : ∀ (k88_0 : Int32) (H : Heap) (locs : List Loc) (ls : Array Slot), (k88_0.toInt ≤ 16384) → HT D cs A T O X H → va_S A s.heap H locs → lv_has ls 8 [(6, .int p35_6), (5, .int p27_5), (4, .int v17), (3, .int v3), (0, .ref a0), (1, .ref a1)] → W p l e { frames := 5, cells := 0, slots := 0, locals := 127 } s m [.ref a0, .ref a1, .int x2].toArray below meth c H locs 0 0 (MQ below (Ti D cs (fun r u => u = (T, O, X) ∧ r.toInt ≤ 16384) A) [.ref a0, .ref a1, .int x2].toArray s 0 0 A) (F0 m 88 ls [.int k88_0]) := by
                  intro k88_0 H locs ls u_k88_0 hH hS hl
                  refine lv_istore (lv' := [(7, .int k88_0), (6, .int p35_6), (5, .int p27_5), (4, .int v17), (3, .int v3), (0, .ref a0), (1, .ref a1)]) hx hb dX10_leastUsed_88 hl (by decide) rfl (fun ls hl => ?_)
                  refine lv_aload_n hx hb dX10_leastUsed_90 rfl (lv_at hl 5 rfl) ?_
                  refine t_get (ci := 10) (lst := ft10 0 0) (C := RX10) (F := TX10) (N := 7) hx hb hts uX10 hown hkb hH t_a0 (hO.no t_a0 (by decide)) (fun _ h9 => h9) rfl rfl 4 (by decide) rfl kw_277 (fun _ h9 => h9) dX10_leastUsed_91 (fun v9 h9 => ?_)
                  obtain ⟨v91, rfl, t_v91⟩ := h9
                  refine lv_iload hx hb dX10_leastUsed_94 (lv_at hl 1 rfl) ?_
                  refine lv_iload hx hb dX10_leastUsed_96 (lv_at hl 0 rfl) ?_
                  refine lv_iload hx hb dX10_leastUsed_98 (lv_at hl 3 rfl) ?_
                  refine lv_iconst (v := 1) hx hb dX10_leastUsed_100 (by decide) ?_
                  refine lv_iload hx hb dX10_leastUsed_101 (lv_at hl 1 rfl) ?_
                  refine lv_ishl hx hb dX10_leastUsed_103 ?_
                  refine lv_topi (fun v103 ev103 => ?_)
                  have tv103 : 1 ≤ v103.toInt ∧ v103.toInt ≤ 8192 := by rw [ev103]; exact shl_b 13 (by decide) (by omega) (by omega)
                  refine lv_iand hx hb dX10_leastUsed_104 ?_
                  refine lv_topi (fun v104 ev104 => ?_)
                  have tv104 : 0 ≤ v104.toInt ∧ v104.toInt ≤ v17.toInt := by rw [ev104]; exact and_l (by omega)
                  have ttv104 : 0 ≤ v104.toInt ∧ v104.toInt ≤ v103.toInt := by rw [ev104]; exact and_r (by omega)
                  refine lv_ior hx hb dX10_leastUsed_105 ?_
                  refine lv_topi (fun v105 ev105 => ?_)
                  refine t_ist hx hb hkb hH hS t_v91 (hO.no t_v91 (by decide)) (by omega) (by omega) (cp_0 _) dX10_leastUsed_106 (fun H locs hH hS => ?_)
                  exact J107  _ _ _  hH hS (lv_sub hl [1, 2, 3, 4, 5, 6] rfl)
                refine lv_icmp_ne (tgt := 69) hx hb dX10_leastUsed_62 (by decide) (fun c62 => ?_) (fun c62 => ?_)
                · skip
                  have fuc62 := full_i p27_5
                  have fvc62 := full_i v61
                  have tc62 := g_ne c62
                  refine lv_aload_n hx hb dX10_leastUsed_69 rfl (lv_at hl 4 rfl) ?_
                  refine lv_aload_n hx hb dX10_leastUsed_70 rfl (lv_at hl 5 rfl) ?_
                  refine lv_iload hx hb dX10_leastUsed_71 (lv_at hl 0 rfl) ?_
                  refine lv_aload_n hx hb dX10_leastUsed_73 rfl (lv_at hl 4 rfl) ?_
                  refine t_get (ci := 10) (lst := ft10 0 0) (C := RX10) (F := TX10) (N := 7) hx hb hts uX10 hown hkb hH t_a0 (hO.no t_a0 (by decide)) (fun _ h9 => h9) rfl rfl 0 (by decide) rfl kw_272 (fun _ h9 => h9) dX10_leastUsed_74 (fun v9 h9 => ?_)
                  obtain ⟨v74, rfl, t_v74⟩ := h9
                  refine lv_iload hx hb dX10_leastUsed_77 (lv_at hl 1 rfl) ?_
                  refine lv_iconst (v := 1) hx hb dX10_leastUsed_79 (by decide) ?_
                  refine lv_iadd hx hb dX10_leastUsed_80 ?_
                  refine lv_topi (fun v80 ev80 => ?_)
                  have tv80 : v80.toInt = p27_5.toInt + (1) := by rw [ev80]; exact add_i rfl (by decide : (1 : Int32).toInt = 1) (by omega) (by omega)
                  refine t_ild hx hb hkb hH t_v74 (hO.no t_v74 (by decide)) (by omega) (by omega) dX10_leastUsed_81 (fun v81 h9 => ?_)
                  have tv81 : 0 ≤ v81.toInt ∧ v81.toInt ≤ 16383 := h9
                  refine tk_i hH hS hA (tr_V (n := 2) (As := [.int p35_6, .int v81]) hx hb hml hown hts hkb hH hOX hks hE hS hA (s_Rows_stepped l D cs kf T O X a1 p35_6 v81 t_a1 (hO.sub (by decide))) kw_920 kw_863 kw_864 kw_8 kw_865 (by decide +kernel) ⟨Nat.le_of_ble_eq_true rfl, Nat.le_of_ble_eq_true rfl⟩ (HT.recv (ci := 5) hkb hH t_a1 (hO.no t_a1 (by decide)) rfl) rfl rfl hl.1 (Nat.le_of_ble_eq_true rfl) dX10_leastUsed_82 ⟨Nat.le_of_ble_eq_true rfl, Nat.le_of_ble_eq_true rfl⟩) (fun v82 u H locs hz9 hH hS => ?_)
                  obtain ⟨rfl, l_v82, u_v82⟩ := hz9
                  have hH : HT D cs A T O X H := hH
                  refine W.widen (k := 0) (n := 0) (Nat.le_of_ble_eq_true rfl) (Nat.le_of_ble_eq_true rfl) ?_
                  refine tk_i hH hS hA (tr_V (n := 1) (As := [.int v82]) hx hb hml hown hts hkb hH hOX hks hE hS hA (s_Ways_leastFromAny l D cs kf T O X a0 v82 t_a0 (hO.sub (by decide))) kw_1155 kw_1157 ks_41 kw_9 kw_1158 (by decide +kernel) ⟨Nat.le_of_ble_eq_true rfl, Nat.le_of_ble_eq_true rfl⟩ (HT.recv (ci := 10) hkb hH t_a0 (hO.no t_a0 (by decide)) rfl) rfl rfl hl.1 (Nat.le_of_ble_eq_true rfl) dX10_leastUsed_85 ⟨Nat.le_of_ble_eq_true rfl, Nat.le_of_ble_eq_true rfl⟩) (fun v85 u H locs hz9 hH hS => ?_)
                  obtain ⟨rfl, u_v85⟩ := hz9
                  have hH : HT D cs A T O X H := hH
                  refine W.widen (k := 0) (n := 0) (Nat.le_of_ble_eq_true rfl) (Nat.le_of_ble_eq_true rfl) ?_
                  exact J88 v85 _ _ _ (by omega) hH hS (lv_sub hl [0, 1, 2, 3, 4, 5] rfl)
                · skip
                  have fuc62 := full_i p27_5
                  have fvc62 := full_i v61
                  have tc62 := g_eq c62
                  refine lv_iconst (v := 0) hx hb dX10_leastUsed_65 (by decide) ?_
                  refine lv_goto (tgt := 88) hx hb dX10_leastUsed_66 (by decide) ?_
                  exact J88 0 _ _ _ (by decide) hH hS (lv_sub hl [0, 1, 2, 3, 4, 5] rfl)
        refine lv_istore (lv' := [(6, .int 0), (5, .int p27_5), (4, .int v17), (3, .int v3), (0, .ref a0), (1, .ref a1)]) hx hb dX10_leastUsed_33 hl (by decide) rfl (fun ls hl => ?_)
        exact J35 _ 0 _ _ _ rfl (by decide) (by decide) hH hS (lv_sub hl [0, 1, 2, 3, 4, 5] rfl)
  refine lv_istore (lv' := [(5, .int v24), (4, .int v17), (3, .int v3), (0, .ref a0), (1, .ref a1), (2, .int x2)]) hx hb dX10_leastUsed_25 hl (by decide) rfl (fun ls hl => ?_)
  exact J27 _ v24 _ _ _ rfl (by omega) (by omega) (by omega) hH hS (lv_sub hl [0, 1, 2, 3, 4] rfl)
