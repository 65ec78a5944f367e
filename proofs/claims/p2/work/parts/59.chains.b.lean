set_option maxHeartbeats 4000000 in
set_option maxRecDepth 100000 in
theorem s_Ch_inClimbs (l : Launch) (D : va_G) (cs : CS) (kf : KF) (T : TF) (O : List Nat) (X : va_W) (a0 : Nat) (a1 : Nat) (x2 : Int32) (y0 : Nat) (y1 : Int32) (y2 : Nat) (y3 : Nat) (nn j gq : Nat) (t_a0 : T a0 = some (10, gq, 0)) (t_a1 : T a1 = some (15, 0, 0)) (t_y0 : T y0 = some (1, nn, 0)) (l_y1 : 0 ≤ y1.toInt) (u_y1 : y1.toInt ≤ 16383) (t_y2 : T y2 = some (1, 14, 1)) (t_y3 : T y3 = some (1, 14, 0)) (hn : nn = 2 ^ j) (hj : j ≤ 14) (hO : okO T (a0 :: O) [1, 12, 15, 19]) : TKD l D cs kf yX0_inClimbs cX0_inClimbs 10 (some (.int)) { frames := 6, cells := 1, slots := 16384, locals := 150 } [.ref a0, .ref a1, .int x2] T (a0 :: O) ((a0, .inr (0, [.ref y0, .int y1, .ref y2, .ref y3])) :: X) (fun kk ss => Ti D cs ((fun kk ss r u => ∃ T2 : TF, Tgr T T2 ∧ ∃ (n2 : Nat) (j2 : Nat) (n0_0 : Nat) (n0_1 : Int32), u = (T2, a0 :: O, (a0, .inr (0, [.ref n0_0, .int n0_1, .ref y2, .ref y3])) :: X) ∧ 0 ≤ r.toInt ∧ r.toInt ≤ 16383 ∧ (T2 n0_0 = some (1, n2, 0)) ∧ (n2 = 2 ^ j2) ∧ (j ≤ j2) ∧ (j2 ≤ 14) ∧ (0 ≤ n0_1.toInt) ∧ (n0_1.toInt ≤ 16383) ∧ (n0_1.toInt < n2) ∧ (kk + j ≤ j2) ∧ (ss + 16384 * j ≤ 16384 * j2) ∧ (kk ≤ 1) ∧ (ss ≤ 16384)) kk ss)) := by
  refine tkd_of (by decide) (Nat.le_of_ble_eq_true rfl) (fun p e s m below meth c ls A H locs hx hb hr hml hown hts hlocks hnm hkb hH hS hA hOX hks hE hl => ?_)
  have hown : s.vm.findClass RX0 = some m.cls := hown
  have hl : lv_has ls 10 [(0, .ref a0), (1, .ref a1), (2, .int x2)] := hl
  have hOXf := hOX
  have hnb := p2_le hn hj
  refine lv_aload_n hx hb dX0_inClimbs_0 rfl (lv_at hl 1 rfl) ?_
  refine lv_iload_n hx hb dX0_inClimbs_1 rfl (lv_at hl 2 rfl) ?_
  refine tk_i hH hS hA (tr_V (n := 1) (As := [.int x2]) hx hb hml hown hts hkb hH (ox_map hOX rfl) hks hE hS hA (s_Rows_reached l D cs kf T (a0 :: O) ((a0, .inr (0, [.ref y0, .int y1, .ref y2, .ref y3])) :: X) a1 x2 t_a1 (hO.sub (by decide))) kw_1071 kw_851 kw_852 kw_8 kw_853 (by decide +kernel) ⟨Nat.le_of_ble_eq_true rfl, Nat.le_of_ble_eq_true rfl⟩ (HT.recv (ci := 5) hkb hH t_a1 (hO.no t_a1 (by decide)) rfl) rfl rfl hl.1 (Nat.le_of_ble_eq_true rfl) dX0_inClimbs_2 ⟨by show 0 + 0 ≤ 1; omega, by show 0 + 0 ≤ 16384; omega⟩) (fun v2 u H locs hz9 hH hS => ?_)
  obtain ⟨rfl, l_v2, u_v2⟩ := hz9
  have hH : HT D cs A T (a0 :: O) ((a0, .inr (0, [.ref y0, .int y1, .ref y2, .ref y3])) :: X) H := hH
  refine W.widen (k := 0) (n := 0) (Nat.le_refl _) (Nat.le_refl _) ?_
  refine lv_istore_n (lv' := [(3, .int v2), (0, .ref a0), (1, .ref a1), (2, .int x2)]) hx hb dX0_inClimbs_5 rfl hl (by decide) rfl (fun ls hl => ?_)
  refine lv_iload_n hx hb dX0_inClimbs_6 rfl (lv_at hl 0 rfl) ?_
  refine lv_aload_n hx hb dX0_inClimbs_7 rfl (lv_at hl 2 rfl) ?_
  refine t_get (ci := 5) (lst := ft5 0 0) (C := RX5) (F := TX5) (N := 6) hx hb hts uX5 hown hkb hH t_a1 (hO.no t_a1 (by decide)) (fun _ h9 => h9) rfl rfl 0 (by decide) rfl kw_247 (fun _ h9 => h9) dX0_inClimbs_8 (fun v9 h9 => ?_)
  obtain ⟨v8, hv8, gv8, rfl, t_v8⟩ := h9
  refine t_get (ci := 9) (lst := ft9w hv8 gv8) (C := RX9) (F := TX9) (N := 14) hx hb hts uX9 hown hkb hH t_v8.1 (hO.no t_v8.1 (by decide)) (fun fs => (ob9w t_v8 fs).mp) rfl rfl 4 (by decide) rfl kw_125 (fun _ h9 => h9) dX0_inClimbs_11 (fun v9 h9 => ?_)
  obtain ⟨v11, rfl, l_v11, u_v11⟩ := h9
  refine lv_iand hx hb dX0_inClimbs_14 ?_
  refine lv_topi (fun v14 ev14 => ?_)
  have tv14 : 0 ≤ v14.toInt ∧ v14.toInt ≤ v2.toInt := by rw [ev14]; exact and_l (by omega)
  have ttv14 : 0 ≤ v14.toInt ∧ v14.toInt ≤ v11.toInt := by rw [ev14]; exact and_r (by omega)
  refine lv_istore (lv' := [(4, .int v14), (3, .int v2), (0, .ref a0), (1, .ref a1), (2, .int x2)]) hx hb dX0_inClimbs_15 hl (by decide) rfl (fun ls hl => ?_)
  refine lv_iload_n hx hb dX0_inClimbs_17 rfl (lv_at hl 4 rfl) ?_
  refine lv_aload_n hx hb dX0_inClimbs_18 rfl (lv_at hl 3 rfl) ?_
  refine t_get (ci := 5) (lst := ft5 0 0) (C := RX5) (F := TX5) (N := 6) hx hb hts uX5 hown hkb hH t_a1 (hO.no t_a1 (by decide)) (fun _ h9 => h9) rfl rfl 0 (by decide) rfl kw_247 (fun _ h9 => h9) dX0_inClimbs_19 (fun v9 h9 => ?_)
  obtain ⟨v19, hv19, gv19, rfl, t_v19⟩ := h9
  refine t_get (ci := 9) (lst := ft9w hv19 gv19) (C := RX9) (F := TX9) (N := 14) hx hb hts uX9 hown hkb hH t_v19.1 (hO.no t_v19.1 (by decide)) (fun fs => (ob9w t_v19 fs).mp) rfl rfl 3 (by decide) rfl kw_119 (fun _ h9 => h9) dX0_inClimbs_22 (fun v9 h9 => ?_)
  obtain ⟨v22, rfl, l_v22, u_v22⟩ := h9
  refine lv_iand hx hb dX0_inClimbs_25 ?_
  refine lv_topi (fun v25 ev25 => ?_)
  have tv25 : 0 ≤ v25.toInt ∧ v25.toInt ≤ v22.toInt := by rw [ev25]; exact and_r (by omega)
  refine lv_istore (lv' := [(5, .int v25), (4, .int v14), (3, .int v2), (0, .ref a0), (1, .ref a1), (2, .int x2)]) hx hb dX0_inClimbs_26 hl (by decide) rfl (fun ls hl => ?_)
  refine lv_aload_n hx hb dX0_inClimbs_28 rfl (lv_at hl 3 rfl) ?_
  refine lv_aload_n hx hb dX0_inClimbs_29 rfl (lv_at hl 4 rfl) ?_
  refine lv_aload_n hx hb dX0_inClimbs_30 rfl (lv_at hl 4 rfl) ?_
  refine lv_iload_n hx hb dX0_inClimbs_31 rfl (lv_at hl 2 rfl) ?_
  refine lv_iload hx hb dX0_inClimbs_32 (lv_at hl 1 rfl) ?_
  refine lv_iconst (v := (-1)) hx hb dX0_inClimbs_34 (by decide) ?_
  refine lv_ixor hx hb dX0_inClimbs_35 ?_
  refine lv_topi (fun v35 ev35 => ?_)
  refine lv_iand hx hb dX0_inClimbs_36 ?_
  refine lv_topi (fun v36 ev36 => ?_)
  have tv36 : 0 ≤ v36.toInt ∧ v36.toInt ≤ v2.toInt := by rw [ev36]; exact and_l (by omega)
  refine lv_iload hx hb dX0_inClimbs_37 (lv_at hl 1 rfl) ?_
  refine tk_i hH hS hA (tr_S (n := 3) (As := [.ref a1, .int v36, .int v14]) hx hb hml hown hts hkb hH (ox_map hOX rfl) hks hE hS hA (s_Ch_leadingOn l D cs kf T (a0 :: O) ((a0, .inr (0, [.ref y0, .int y1, .ref y2, .ref y3])) :: X) a1 v36 v14 t_a1 (by omega) (by omega) (hO.sub (by decide))) kw_1072 kw_1073 kw_11 kw_1074 (by decide +kernel) ⟨Nat.le_of_ble_eq_true rfl, Nat.le_of_ble_eq_true rfl⟩ rfl rfl hl.1 (Nat.le_of_ble_eq_true rfl) dX0_inClimbs_39 ⟨by show 0 + 0 ≤ 1; omega, by show 0 + 0 ≤ 16384; omega⟩) (fun v39 u H locs hz9 hH hS => ?_)
  obtain ⟨rfl, l_v39, u_v39⟩ := hz9
  have hH : HT D cs A T (a0 :: O) ((a0, .inr (0, [.ref y0, .int y1, .ref y2, .ref y3])) :: X) H := hH
  refine W.widen (k := 0) (n := 0) (Nat.le_refl _) (Nat.le_refl _) ?_
  refine lv_iload hx hb dX0_inClimbs_42 (lv_at hl 1 rfl) ?_
  refine tk_vD hH hS hA (tr_VD (n := 3) (As := [.ref a1, .int v39, .int v14]) hx hb hml hown hts hkb hH (ox_map hOX rfl) hks hE hS hA (s_Ch_prepare l D cs kf T O X a0 a1 v39 v14 y0 y1 y2 y3 nn j gq t_a0 t_a1 (by omega) (by omega) t_y0 (by omega) (by omega) t_y2 t_y3 hn (by omega) (hO.sub (by decide))) kw_1076 kw_1078 ks_38 kw_11 kw_1079 (by decide +kernel) ⟨Nat.le_of_ble_eq_true rfl, Nat.le_of_ble_eq_true rfl⟩ (x_recv (ci := 0) hkb hH 0 rfl rfl) rfl rfl hl.1 (Nat.le_of_ble_eq_true rfl) dX0_inClimbs_44 ⟨by show 0 + 1 ≤ 1; omega, by show 0 + 16384 ≤ 16384; omega⟩) (fun kc44 ks44 u H locs hz9 hH hS => ?_)
  obtain ⟨T44, le_T44, n2_44, j2_44, n44_0_0, n44_0_1, rfl, x_v440, x_v441, x_v442, x_v443, x_v444, x_v445, x_v446, x_v447, x_v448, x_v449, x_v4410⟩ := hz9
  have t_a0 := le_T44.1 _ _ t_a0
  have t_a1 := le_T44.1 _ _ t_a1
  have t_y0 := le_T44.1 _ _ t_y0
  have t_y2 := le_T44.1 _ _ t_y2
  have t_y3 := le_T44.1 _ _ t_y3
  have t_v8 := isW.le le_T44.1 t_v8
  have t_v19 := isW.le le_T44.1 t_v19
  have hO := okO.le le_T44.1 hO
  have t_n44_0_0 := x_v440
  have hnb_44 := p2_le x_v441 (by omega)
  have hH : HT D cs A T44 (a0 :: O) ((a0, .inr (0, [.ref n44_0_0, .int n44_0_1, .ref y2, .ref y3])) :: X) H := hH
  refine lv_iconst (v := 1) hx hb dX0_inClimbs_47 (by decide) ?_
  refine lv_aload_n hx hb dX0_inClimbs_48 rfl (lv_at hl 3 rfl) ?_
  refine x_getk (ci := 0) (C := RX0) (F := TX0) (N := 4) (v := .int n44_0_1) hx hb hts uX0 hown hkb hH 0 rfl rfl 1 (by decide) rfl kw_331 (fun _ h9 => h9) dX0_inClimbs_49 ?_
  refine tk_i hH hS hA (tr_S (n := 1) (As := [.int n44_0_1]) hx hb hml hown hts hkb hH (ox_map hOX rfl) hks hE hS hA (s_bitCount l D cs kf T44 (a0 :: O) ((a0, .inr (0, [.ref n44_0_0, .int n44_0_1, .ref y2, .ref y3])) :: X) n44_0_1  (hO.sub (by decide))) kw_1088 kw_692 kw_20 kw_693 (by decide +kernel) ⟨Nat.le_of_ble_eq_true rfl, Nat.le_of_ble_eq_true rfl⟩ rfl rfl hl.1 (Nat.le_of_ble_eq_true rfl) dX0_inClimbs_52 ⟨by show (0 + kc44) + 0 ≤ 1; omega, by show (0 + ks44) + 0 ≤ 16384; omega⟩) (fun v52 u H locs hz9 hH hS => ?_)
  obtain ⟨rfl, l_v52, u_v52⟩ := hz9
  have hH : HT D cs A T44 (a0 :: O) ((a0, .inr (0, [.ref n44_0_0, .int n44_0_1, .ref y2, .ref y3])) :: X) H := hH
  refine W.widen (k := 0 + kc44) (n := 0 + ks44) (Nat.le_refl _) (Nat.le_refl _) ?_
  refine lv_ishl hx hb dX0_inClimbs_55 ?_
  refine lv_topi (fun v55 ev55 => ?_)
  refine lv_istore (lv' := [(6, .int v55), (5, .int v25), (4, .int v14), (3, .int v2), (0, .ref a0), (1, .ref a1), (2, .int x2)]) hx hb dX0_inClimbs_56 hl (by decide) rfl (fun ls hl => ?_)
  refine lv_iconst (v := 0) hx hb dX0_inClimbs_58 (by decide) ?_
  refine lv_istore (lv' := [(7, .int 0), (6, .int v55), (5, .int v25), (4, .int v14), (3, .int v2), (0, .ref a0), (1, .ref a1), (2, .int x2)]) hx hb dX0_inClimbs_59 hl (by decide) rfl (fun ls hl => ?_)
  refine lv_iconst (v := 0) hx hb dX0_inClimbs_61 (by decide) ?_
  refine lv_istore (lv' := [(8, .int 0), (7, .int 0), (6, .int v55), (5, .int v25), (4, .int v14), (3, .int v2), (0, .ref a0), (1, .ref a1), (2, .int x2)]) hx hb dX0_inClimbs_62 hl (by decide) rfl (fun ls hl => ?_)
  refine lv_iconst (v := 1) hx hb dX0_inClimbs_64 (by decide) ?_
  have J67 : ∀ (n : Nat) (p67_9 : Int32) (p67_8 : Int32) (p67_7 : Int32) (H : Heap) (locs : List Loc) (ls : Array Slot), (2147483647 - p67_9.toInt).toNat = n → (1 ≤ p67_9.toInt) → (0 ≤ p67_8.toInt) → (p67_8.toInt ≤ 16383) → (0 ≤ p67_7.toInt) → (p67_7.toInt ≤ 16383) → (p67_7.toInt ≤ n44_0_1.toInt ∧ 0 ≤ p67_7.toInt) → HT D cs A T44 (a0 :: O) ((a0, .inr (0, [.ref n44_0_0, .int n44_0_1, .ref y2, .ref y3])) :: X) H → va_S A s.heap H locs → lv_has ls 10 [(9, .int p67_9), (8, .int p67_8), (7, .int p67_7), (6, .int v55), (5, .int v25), (4, .int v14), (0, .ref a0)] → W p l e { frames := 6, cells := 1, slots := 16384, locals := 150 } s m [.ref a0, .ref a1, .int x2].toArray below meth c H locs (0 + kc44) (0 + ks44) (MQD below (fun kk ss => Ti D cs ((fun kk ss r u => ∃ T2 : TF, Tgr T T2 ∧ ∃ (n2 : Nat) (j2 : Nat) (n0_0 : Nat) (n0_1 : Int32), u = (T2, a0 :: O, (a0, .inr (0, [.ref n0_0, .int n0_1, .ref y2, .ref y3])) :: X) ∧ 0 ≤ r.toInt ∧ r.toInt ≤ 16383 ∧ (T2 n0_0 = some (1, n2, 0)) ∧ (n2 = 2 ^ j2) ∧ (j ≤ j2) ∧ (j2 ≤ 14) ∧ (0 ≤ n0_1.toInt) ∧ (n0_1.toInt ≤ 16383) ∧ (n0_1.toInt < n2) ∧ (kk + j ≤ j2) ∧ (ss + 16384 * j ≤ 16384 * j2) ∧ (kk ≤ 1) ∧ (ss ≤ 16384)) kk ss) A) [.ref a0, .ref a1, .int x2].toArray s A) (F0 m 67 ls []) := by
    intro n
    induction n using Nat.strongRecOn with
    | _ n ih67 =>
      intro p67_9 p67_8 p67_7 H locs ls hm67 l_p67_9 l_p67_8 u_p67_8 l_p67_7 u_p67_7 i67 hH hS hl
      refine lv_iload hx hb dX0_inClimbs_67 (lv_at hl 0 rfl) ?_
      refine lv_iload hx hb dX0_inClimbs_69 (lv_at hl 3 rfl) ?_
      have J129 : ∀  (H : Heap) (locs : List Loc) (ls : Array Slot), HT D cs A T44 (a0 :: O) ((a0, .inr (0, [.ref n44_0_0, .int n44_0_1, .ref y2, .ref y3])) :: X) H → va_S A s.heap H locs → lv_has ls 10 [(8, .int p67_8), (4, .int v14)] → W p l e { frames := 6, cells := 1, slots := 16384, locals := 150 } s m [.ref a0, .ref a1, .int x2].toArray below meth c H locs (0 + kc44) (0 + ks44) (MQD below (fun kk ss => Ti D cs ((fun kk ss r u => ∃ T2 : TF, Tgr T T2 ∧ ∃ (n2 : Nat) (j2 : Nat) (n0_0 : Nat) (n0_1 : Int32), u = (T2, a0 :: O, (a0, .inr (0, [.ref n0_0, .int n0_1, .ref y2, .ref y3])) :: X) ∧ 0 ≤ r.toInt ∧ r.toInt ≤ 16383 ∧ (T2 n0_0 = some (1, n2, 0)) ∧ (n2 = 2 ^ j2) ∧ (j ≤ j2) ∧ (j2 ≤ 14) ∧ (0 ≤ n0_1.toInt) ∧ (n0_1.toInt ≤ 16383) ∧ (n0_1.toInt < n2) ∧ (kk + j ≤ j2) ∧ (ss + 16384 * j ≤ 16384 * j2) ∧ (kk ≤ 1) ∧ (ss ≤ 16384)) kk ss) A) [.ref a0, .ref a1, .int x2].toArray s A) (F0 m 129 ls []) := by
        intro  H locs ls  hH hS hl
        refine lv_iload hx hb dX0_inClimbs_129 (lv_at hl 0 rfl) ?_
        refine lv_iload hx hb dX0_inClimbs_131 (lv_at hl 1 rfl) ?_
        refine lv_ior hx hb dX0_inClimbs_133 ?_
        refine lv_topi (fun v133 ev133 => ?_)
        have tv133 : 0 ≤ v133.toInt ∧ v133.toInt < 16384 := by rw [ev133]; exact or_b 14 (by decide) (by omega) (by omega) (by omega) (by omega)
        exact te_iD hx hb hr hlocks hH hS (⟨T44, le_T44, n2_44, j2_44, n44_0_0, n44_0_1, rfl, by omega, by omega, t_n44_0_0, x_v441, by omega, by omega, by omega, by omega, by omega, by omega, by omega, by omega, by omega⟩) dX0_inClimbs_134
      refine lv_icmp_ge (tgt := 129) hx hb dX0_inClimbs_71 (by decide) (fun c71 => ?_) (fun c71 => ?_)
      · skip
        have fuc71 := full_i p67_9
        have fvc71 := full_i v55
        have tc71 := g_le c71
        exact J129  _ _ _  hH hS (lv_sub hl [1, 5] rfl)
      · skip
        have fuc71 := full_i p67_9
        have fvc71 := full_i v55
        have tc71 := g_nle c71
        refine lv_iload hx hb dX0_inClimbs_74 (lv_at hl 1 rfl) ?_
        refine lv_aload_n hx hb dX0_inClimbs_76 rfl (lv_at hl 6 rfl) ?_
        refine x_getk (ci := 0) (C := RX0) (F := TX0) (N := 4) (v := .int n44_0_1) hx hb hts uX0 hown hkb hH 0 rfl rfl 1 (by decide) rfl kw_331 (fun _ h9 => h9) dX0_inClimbs_77 ?_
        refine lv_icmp_eq (tgt := 129) hx hb dX0_inClimbs_80 (by decide) (fun c80 => ?_) (fun c80 => ?_)
        · skip
          have fuc80 := full_i p67_8
          have fvc80 := full_i n44_0_1
          have tc80 := g_eq c80
          exact J129  _ _ _  hH hS (lv_sub hl [1, 5] rfl)
        · skip
          have fuc80 := full_i p67_8
          have fvc80 := full_i n44_0_1
          have tc80 := g_ne c80
          refine lv_iload hx hb dX0_inClimbs_83 (lv_at hl 2 rfl) ?_
          refine lv_aload_n hx hb dX0_inClimbs_85 rfl (lv_at hl 6 rfl) ?_
          refine x_getk (ci := 0) (C := RX0) (F := TX0) (N := 4) (v := .int n44_0_1) hx hb hts uX0 hown hkb hH 0 rfl rfl 1 (by decide) rfl kw_331 (fun _ h9 => h9) dX0_inClimbs_86 ?_
          refine lv_isub hx hb dX0_inClimbs_89 ?_
          refine lv_topi (fun v89 ev89 => ?_)
          have tv89 : v89.toInt = p67_7.toInt - n44_0_1.toInt := by rw [ev89]; exact sub_i rfl rfl (by omega) (by omega)
          refine lv_aload_n hx hb dX0_inClimbs_90 rfl (lv_at hl 6 rfl) ?_
          refine x_getk (ci := 0) (C := RX0) (F := TX0) (N := 4) (v := .int n44_0_1) hx hb hts uX0 hown hkb hH 0 rfl rfl 1 (by decide) rfl kw_331 (fun _ h9 => h9) dX0_inClimbs_91 ?_
          refine lv_iand hx hb dX0_inClimbs_94 ?_
          refine lv_topi (fun v94 ev94 => ?_)
          have tv94 : 0 ≤ v94.toInt ∧ v94.toInt ≤ n44_0_1.toInt := by rw [ev94]; exact and_r (by omega)
          refine lv_istore (lv' := [(7, .int v94), (9, .int p67_9), (8, .int p67_8), (6, .int v55), (5, .int v25), (4, .int v14), (0, .ref a0)]) hx hb dX0_inClimbs_95 hl (by decide) rfl (fun ls hl => ?_)
          refine lv_aload_n hx hb dX0_inClimbs_97 rfl (lv_at hl 6 rfl) ?_
          refine lv_iload hx hb dX0_inClimbs_98 (lv_at hl 0 rfl) ?_
          refine tk_v hH hS hA (tr_V (n := 1) (As := [.int v94]) hx hb hml hown hts hkb hH (ox_map hOX rfl) hks hE hS hA (s_Ch_growFrom l D cs kf T44 O X a0 v94 n44_0_0 n44_0_1 y2 y3 n2_44 j2_44 gq t_a0 (by omega) (by omega) t_n44_0_0 (by omega) (by omega) t_y2 t_y3 x_v441 (by omega) (by omega) (by omega) (hO.sub (by decide))) kw_1089 kw_1091 ks_39 kw_11 kw_1092 (by decide +kernel) ⟨Nat.le_of_ble_eq_true rfl, Nat.le_of_ble_eq_true rfl⟩ (x_recv (ci := 0) hkb hH 0 rfl rfl) rfl rfl hl.1 (Nat.le_of_ble_eq_true rfl) dX0_inClimbs_100 ⟨by show (0 + kc44) + 0 ≤ 1; omega, by show (0 + ks44) + 0 ≤ 16384; omega⟩) (fun u H locs hz9 hH hS => ?_)
          obtain ⟨rfl⟩ := hz9
          have hH : HT D cs A T44 (a0 :: O) ((a0, .inr (0, [.ref n44_0_0, .int n44_0_1, .ref y2, .ref y3])) :: X) H := hH
          refine W.widen (k := 0 + kc44) (n := 0 + ks44) (Nat.le_refl _) (Nat.le_refl _) ?_
          refine lv_aload_n hx hb dX0_inClimbs_103 rfl (lv_at hl 6 rfl) ?_
          refine x_getk (ci := 0) (C := RX0) (F := TX0) (N := 4) (v := .ref n44_0_0) hx hb hts uX0 hown hkb hH 0 rfl rfl 0 (by decide) rfl kw_330 (fun _ h9 => h9) dX0_inClimbs_104 ?_
          refine lv_iload hx hb dX0_inClimbs_107 (lv_at hl 0 rfl) ?_
          refine t_ild hx hb hkb hH t_n44_0_0 (hO.no t_n44_0_0 (by decide)) (by omega) (by omega) dX0_inClimbs_109 (fun v109 h9 => ?_)
          refine lv_iload hx hb dX0_inClimbs_110 (lv_at hl 4 rfl) ?_
          refine lv_iand hx hb dX0_inClimbs_112 ?_
          refine lv_topi (fun v112 ev112 => ?_)
          have tv112 : 0 ≤ v112.toInt ∧ v112.toInt ≤ v25.toInt := by rw [ev112]; exact and_r (by omega)
          have J123 : ∀ (p123_8 : Int32) (H : Heap) (locs : List Loc) (ls : Array Slot), (0 ≤ p123_8.toInt) → (p123_8.toInt ≤ 16383) → HT D cs A T44 (a0 :: O) ((a0, .inr (0, [.ref n44_0_0, .int n44_0_1, .ref y2, .ref y3])) :: X) H → va_S A s.heap H locs → lv_has ls 10 [(7, .int v94), (9, .int p67_9), (8, .int p123_8), (6, .int v55), (5, .int v25), (4, .int v14), (0, .ref a0)] → W p l e { frames := 6, cells := 1, slots := 16384, locals := 150 } s m [.ref a0, .ref a1, .int x2].toArray below meth c H locs (0 + kc44) (0 + ks44) (MQD below (fun kk ss => Ti D cs ((fun kk ss r u => ∃ T2 : TF, Tgr T T2 ∧ ∃ (n2 : Nat) (j2 : Nat) (n0_0 : Nat) (n0_1 : Int32), u = (T2, a0 :: O, (a0, .inr (0, [.ref n0_0, .int n0_1, .ref y2, .ref y3])) :: X) ∧ 0 ≤ r.toInt ∧ r.toInt ≤ 16383 ∧ (T2 n0_0 = some (1, n2, 0)) ∧ (n2 = 2 ^ j2) ∧ (j ≤ j2) ∧ (j2 ≤ 14) ∧ (0 ≤ n0_1.toInt) ∧ (n0_1.toInt ≤ 16383) ∧ (n0_1.toInt < n2) ∧ (kk + j ≤ j2) ∧ (ss + 16384 * j ≤ 16384 * j2) ∧ (kk ≤ 1) ∧ (ss ≤ 16384)) kk ss) A) [.ref a0, .ref a1, .int x2].toArray s A) (F0 m 123 ls []) := by
            intro p123_8 H locs ls l_p123_8 u_p123_8 hH hS hl
            obtain ⟨v123, ev123⟩ : ∃ y : Int32, y = p67_9 + 1 := ⟨_, rfl⟩
            have tv123 : v123.toInt = p67_9.toInt + (1) := by rw [ev123]; exact add_i rfl (by decide) (by omega) (by omega)
            refine lv_iinc (v := v123) (lv' := [(9, .int v123), (7, .int v94), (8, .int p123_8), (6, .int v55), (5, .int v25), (4, .int v14), (0, .ref a0)]) hx hb dX0_inClimbs_123 hl (k := 1) rfl (by rw [ev123]; rfl) (by decide) rfl (fun ls hl => ?_)
            refine lv_goto (tgt := 67) hx hb dX0_inClimbs_126 (by decide) ?_
            exact ih67 _ (by omega) v123 p123_8 v94 _ _ _ rfl (by omega) (by omega) (by omega) (by omega) (by omega) (by omega) hH hS (lv_sub hl [0, 2, 1, 3, 4, 5, 6] rfl)
          refine lv_if_eq (tgt := 123) hx hb dX0_inClimbs_113 (by decide) (fun c113 => ?_) (fun c113 => ?_)
          · skip
            have tc113 := f_eq (k := 0) (by decide) c113
            exact J123 p67_8 _ _ _ (by omega) (by omega) hH hS (lv_sub hl [0, 1, 2, 3, 4, 5, 6] rfl)
          · skip
            have tc113 := f_ne (k := 0) (by decide) c113
            refine lv_iload hx hb dX0_inClimbs_116 (lv_at hl 2 rfl) ?_
            refine lv_iload hx hb dX0_inClimbs_118 (lv_at hl 0 rfl) ?_
            refine lv_ior hx hb dX0_inClimbs_120 ?_
            refine lv_topi (fun v120 ev120 => ?_)
            have tv120 : 0 ≤ v120.toInt ∧ v120.toInt < 16384 := by rw [ev120]; exact or_b 14 (by decide) (by omega) (by omega) (by omega) (by omega)
            refine lv_istore (lv' := [(8, .int v120), (7, .int v94), (9, .int p67_9), (6, .int v55), (5, .int v25), (4, .int v14), (0, .ref a0)]) hx hb dX0_inClimbs_121 hl (by decide) rfl (fun ls hl => ?_)
            exact J123 v120 _ _ _ (by omega) (by omega) hH hS (lv_sub hl [1, 2, 0, 3, 4, 5, 6] rfl)
  refine lv_istore (lv' := [(9, .int 1), (8, .int 0), (7, .int 0), (6, .int v55), (5, .int v25), (4, .int v14), (3, .int v2), (0, .ref a0), (1, .ref a1), (2, .int x2)]) hx hb dX0_inClimbs_65 hl (by decide) rfl (fun ls hl => ?_)
  have z_0 : (0 : Int32).toInt = 0 := by decide
  have z_1 : (1 : Int32).toInt = 1 := by decide
  exact J67 _ 1 0 0 _ _ _ rfl (by decide) (by decide) (by decide) (by decide) (by decide) (by omega) hH hS (lv_sub hl [0, 1, 2, 3, 4, 5, 7] rfl)
set_option maxHeartbeats 4000000 in
set_option maxRecDepth 100000 in
theorem s_Ch_fewest (l : Launch) (D : va_G) (cs : CS) (kf : KF) (T : TF) (O : List Nat) (X : va_W) (a0 : Nat) (a1 : Nat) (x2 : Int32) (x3 : Int32) (y0 : Nat) (y1 : Int32) (y2 : Nat) (y3 : Nat) (nn j gq : Nat) (t_a0 : T a0 = some (10, gq, 0)) (t_a1 : T a1 = some (15, 0, 0)) (t_y0 : T y0 = some (1, nn, 0)) (l_y1 : 0 ≤ y1.toInt) (u_y1 : y1.toInt ≤ 16383) (t_y2 : T y2 = some (1, 14, 1)) (t_y3 : T y3 = some (1, 14, 0)) (hn : nn = 2 ^ j) (hj : j ≤ 14) (hO : okO T (a0 :: O) [1, 12, 15, 19]) : TKD l D cs kf yX0_fewest cX0_fewest 14 (some (.int)) { frames := 5, cells := 1, slots := 16384, locals := 129 } [.ref a0, .ref a1, .int x2, .int x3] T (a0 :: O) ((a0, .inr (0, [.ref y0, .int y1, .ref y2, .ref y3])) :: X) (fun kk ss => Ti D cs ((fun kk ss r u => ∃ T2 : TF, Tgr T T2 ∧ ∃ (n2 : Nat) (j2 : Nat) (n0_0 : Nat) (n0_1 : Int32), u = (T2, a0 :: O, (a0, .inr (0, [.ref n0_0, .int n0_1, .ref y2, .ref y3])) :: X) ∧ -1 ≤ r.toInt ∧ r.toInt ≤ 63 ∧ (T2 n0_0 = some (1, n2, 0)) ∧ (n2 = 2 ^ j2) ∧ (j ≤ j2) ∧ (j2 ≤ 14) ∧ (0 ≤ n0_1.toInt) ∧ (n0_1.toInt ≤ 16383) ∧ (True) ∧ (kk + j ≤ j2) ∧ (ss + 16384 * j ≤ 16384 * j2) ∧ (kk ≤ 1) ∧ (ss ≤ 16384)) kk ss)) := by
  refine tkd_of (by decide) (Nat.le_of_ble_eq_true rfl) (fun p e s m below meth c ls A H locs hx hb hr hml hown hts hlocks hnm hkb hH hS hA hOX hks hE hl => ?_)
  have hown : s.vm.findClass RX0 = some m.cls := hown
  have hl : lv_has ls 14 [(0, .ref a0), (1, .ref a1), (2, .int x2), (3, .int x3)] := hl
  have hOXf := hOX
  have hnb := p2_le hn hj
  refine lv_iload_n hx hb dX0_fewest_0 rfl (lv_at hl 3 rfl) ?_
  refine lv_aload_n hx hb dX0_fewest_1 rfl (lv_at hl 1 rfl) ?_
  refine t_get (ci := 5) (lst := ft5 0 0) (C := RX5) (F := TX5) (N := 6) hx hb hts uX5 hown hkb hH t_a1 (hO.no t_a1 (by decide)) (fun _ h9 => h9) rfl rfl 0 (by decide) rfl kw_247 (fun _ h9 => h9) dX0_fewest_2 (fun v9 h9 => ?_)
  obtain ⟨v2, hv2, gv2, rfl, t_v2⟩ := h9
  refine t_get (ci := 9) (lst := ft9w hv2 gv2) (C := RX9) (F := TX9) (N := 14) hx hb hts uX9 hown hkb hH t_v2.1 (hO.no t_v2.1 (by decide)) (fun fs => (ob9w t_v2 fs).mp) rfl rfl 4 (by decide) rfl kw_125 (fun _ h9 => h9) dX0_fewest_5 (fun v9 h9 => ?_)
  obtain ⟨v5, rfl, l_v5, u_v5⟩ := h9
  refine lv_iand hx hb dX0_fewest_8 ?_
  refine lv_topi (fun v8 ev8 => ?_)
  have tv8 : 0 ≤ v8.toInt ∧ v8.toInt ≤ v5.toInt := by rw [ev8]; exact and_r (by omega)
  refine lv_istore (lv' := [(4, .int v8), (0, .ref a0), (1, .ref a1), (2, .int x2), (3, .int x3)]) hx hb dX0_fewest_9 hl (by decide) rfl (fun ls hl => ?_)
  refine lv_iload_n hx hb dX0_fewest_11 rfl (lv_at hl 4 rfl) ?_
  refine lv_aload_n hx hb dX0_fewest_12 rfl (lv_at hl 2 rfl) ?_
  refine t_get (ci := 5) (lst := ft5 0 0) (C := RX5) (F := TX5) (N := 6) hx hb hts uX5 hown hkb hH t_a1 (hO.no t_a1 (by decide)) (fun _ h9 => h9) rfl rfl 0 (by decide) rfl kw_247 (fun _ h9 => h9) dX0_fewest_13 (fun v9 h9 => ?_)
  obtain ⟨v13, hv13, gv13, rfl, t_v13⟩ := h9
  refine t_get (ci := 9) (lst := ft9w hv13 gv13) (C := RX9) (F := TX9) (N := 14) hx hb hts uX9 hown hkb hH t_v13.1 (hO.no t_v13.1 (by decide)) (fun fs => (ob9w t_v13 fs).mp) rfl rfl 3 (by decide) rfl kw_119 (fun _ h9 => h9) dX0_fewest_16 (fun v9 h9 => ?_)
  obtain ⟨v16, rfl, l_v16, u_v16⟩ := h9
  refine lv_iand hx hb dX0_fewest_19 ?_
  refine lv_topi (fun v19 ev19 => ?_)
  have tv19 : 0 ≤ v19.toInt ∧ v19.toInt ≤ v16.toInt := by rw [ev19]; exact and_r (by omega)
  refine lv_istore (lv' := [(5, .int v19), (4, .int v8), (0, .ref a0), (1, .ref a1), (2, .int x2), (3, .int x3)]) hx hb dX0_fewest_20 hl (by decide) rfl (fun ls hl => ?_)
  refine lv_iload_n hx hb dX0_fewest_22 rfl (lv_at hl 4 rfl) ?_
  have J36 : ∀  (H : Heap) (locs : List Loc) (ls : Array Slot), HT D cs A T (a0 :: O) ((a0, .inr (0, [.ref y0, .int y1, .ref y2, .ref y3])) :: X) H → va_S A s.heap H locs → lv_has ls 14 [(5, .int v19), (4, .int v8), (0, .ref a0), (1, .ref a1), (2, .int x2)] → W p l e { frames := 5, cells := 1, slots := 16384, locals := 129 } s m [.ref a0, .ref a1, .int x2, .int x3].toArray below meth c H locs 0 0 (MQD below (fun kk ss => Ti D cs ((fun kk ss r u => ∃ T2 : TF, Tgr T T2 ∧ ∃ (n2 : Nat) (j2 : Nat) (n0_0 : Nat) (n0_1 : Int32), u = (T2, a0 :: O, (a0, .inr (0, [.ref n0_0, .int n0_1, .ref y2, .ref y3])) :: X) ∧ -1 ≤ r.toInt ∧ r.toInt ≤ 63 ∧ (T2 n0_0 = some (1, n2, 0)) ∧ (n2 = 2 ^ j2) ∧ (j ≤ j2) ∧ (j2 ≤ 14) ∧ (0 ≤ n0_1.toInt) ∧ (n0_1.toInt ≤ 16383) ∧ (True) ∧ (kk + j ≤ j2) ∧ (ss + 16384 * j ≤ 16384 * j2) ∧ (kk ≤ 1) ∧ (ss ≤ 16384)) kk ss) A) [.ref a0, .ref a1, .int x2, .int x3].toArray s A) (F0 m 36 ls []) := by
    intro  H locs ls  hH hS hl
    refine lv_iload hx hb dX0_fewest_36 (lv_at hl 0 rfl) ?_
    refine lv_iload hx hb dX0_fewest_38 (lv_at hl 1 rfl) ?_
    refine lv_iconst (v := (-1)) hx hb dX0_fewest_40 (by decide) ?_
    refine lv_ixor hx hb dX0_fewest_41 ?_
    refine lv_topi (fun v41 ev41 => ?_)
    refine lv_iand hx hb dX0_fewest_42 ?_
    refine lv_topi (fun v42 ev42 => ?_)
    have tv42 : 0 ≤ v42.toInt ∧ v42.toInt ≤ v19.toInt := by rw [ev42]; exact and_l (by omega)
    refine lv_istore (lv' := [(6, .int v42), (5, .int v19), (4, .int v8), (0, .ref a0), (1, .ref a1), (2, .int x2)]) hx hb dX0_fewest_43 hl (by decide) rfl (fun ls hl => ?_)
    refine lv_aload_n hx hb dX0_fewest_45 rfl (lv_at hl 4 rfl) ?_
    refine lv_iload hx hb dX0_fewest_46 (lv_at hl 0 rfl) ?_
    refine lv_iload_n hx hb dX0_fewest_48 rfl (lv_at hl 5 rfl) ?_
    refine lv_iload hx hb dX0_fewest_49 (lv_at hl 0 rfl) ?_
    refine lv_ior hx hb dX0_fewest_51 ?_
    refine lv_topi (fun v51 ev51 => ?_)
    refine lv_iload_n hx hb dX0_fewest_52 rfl (lv_at hl 5 rfl) ?_
    refine lv_iload hx hb dX0_fewest_53 (lv_at hl 0 rfl) ?_
    refine lv_ior hx hb dX0_fewest_55 ?_
    refine lv_topi (fun v55 ev55 => ?_)
    refine lv_iload hx hb dX0_fewest_56 (lv_at hl 2 rfl) ?_
    refine lv_ior hx hb dX0_fewest_58 ?_
    refine lv_topi (fun v58 ev58 => ?_)
    refine lv_iconst (v := 0) hx hb dX0_fewest_59 (by decide) ?_
    refine tk_i hH hS hA (tr_V (n := 4) (As := [.int v42, .int v51, .int v58, .int 0]) hx hb hml hown hts hkb hH (ox_map hOX rfl) hks hE hS hA (s_Rows_spread l D cs kf T (a0 :: O) ((a0, .inr (0, [.ref y0, .int y1, .ref y2, .ref y3])) :: X) a1 v42 v51 v58 (0) t_a1 (by omega) (by omega) (hO.sub (by decide))) kw_1131 kw_855 kw_856 kw_8 kw_857 (by decide +kernel) ⟨Nat.le_of_ble_eq_true rfl, Nat.le_of_ble_eq_true rfl⟩ (HT.recv (ci := 5) hkb hH t_a1 (hO.no t_a1 (by decide)) rfl) rfl rfl hl.1 (Nat.le_of_ble_eq_true rfl) dX0_fewest_60 ⟨by show 0 + 0 ≤ 1; omega, by show 0 + 0 ≤ 16384; omega⟩) (fun v60 u H locs hz9 hH hS => ?_)
    obtain ⟨rfl, l_v60, u_v60⟩ := hz9
    have hH : HT D cs A T (a0 :: O) ((a0, .inr (0, [.ref y0, .int y1, .ref y2, .ref y3])) :: X) H := hH
    refine W.widen (k := 0) (n := 0) (Nat.le_refl _) (Nat.le_refl _) ?_
    refine lv_istore (lv' := [(7, .int v60), (6, .int v42), (5, .int v19), (4, .int v8), (0, .ref a0), (1, .ref a1), (2, .int x2)]) hx hb dX0_fewest_63 hl (by decide) rfl (fun ls hl => ?_)
    refine lv_aload_n hx hb dX0_fewest_65 rfl (lv_at hl 5 rfl) ?_
    refine lv_iload hx hb dX0_fewest_66 (lv_at hl 0 rfl) ?_
    refine lv_iload hx hb dX0_fewest_68 (lv_at hl 3 rfl) ?_
    refine lv_iconst (v := (-1)) hx hb dX0_fewest_70 (by decide) ?_
    refine lv_ixor hx hb dX0_fewest_71 ?_
    refine lv_topi (fun v71 ev71 => ?_)
    refine lv_iand hx hb dX0_fewest_72 ?_
    refine lv_topi (fun v72 ev72 => ?_)
    have tv72 : 0 ≤ v72.toInt ∧ v72.toInt ≤ v60.toInt := by rw [ev72]; exact and_l (by omega)
    refine lv_iload hx hb dX0_fewest_73 (lv_at hl 3 rfl) ?_
    refine lv_iload hx hb dX0_fewest_75 (lv_at hl 0 rfl) ?_
    refine lv_iand hx hb dX0_fewest_77 ?_
    refine lv_topi (fun v77 ev77 => ?_)
    have tv77 : 0 ≤ v77.toInt ∧ v77.toInt ≤ v8.toInt := by rw [ev77]; exact and_l (by omega)
    have ttv77 : 0 ≤ v77.toInt ∧ v77.toInt ≤ v60.toInt := by rw [ev77]; exact and_r (by omega)
    refine tk_i hH hS hA (tr_S (n := 3) (As := [.ref a1, .int v72, .int v77]) hx hb hml hown hts hkb hH (ox_map hOX rfl) hks hE hS hA (s_Ch_leadingOn l D cs kf T (a0 :: O) ((a0, .inr (0, [.ref y0, .int y1, .ref y2, .ref y3])) :: X) a1 v72 v77 t_a1 (by omega) (by omega) (hO.sub (by decide))) kw_1072 kw_1073 kw_11 kw_1074 (by decide +kernel) ⟨Nat.le_of_ble_eq_true rfl, Nat.le_of_ble_eq_true rfl⟩ rfl rfl hl.1 (Nat.le_of_ble_eq_true rfl) dX0_fewest_78 ⟨by show 0 + 0 ≤ 1; omega, by show 0 + 0 ≤ 16384; omega⟩) (fun v78 u H locs hz9 hH hS => ?_)
    obtain ⟨rfl, l_v78, u_v78⟩ := hz9
    have hH : HT D cs A T (a0 :: O) ((a0, .inr (0, [.ref y0, .int y1, .ref y2, .ref y3])) :: X) H := hH
    refine W.widen (k := 0) (n := 0) (Nat.le_refl _) (Nat.le_refl _) ?_
    refine lv_istore (lv' := [(8, .int v78), (7, .int v60), (6, .int v42), (5, .int v19), (4, .int v8), (0, .ref a0), (1, .ref a1), (2, .int x2)]) hx hb dX0_fewest_81 hl (by decide) rfl (fun ls hl => ?_)
    refine lv_iload hx hb dX0_fewest_83 (lv_at hl 2 rfl) ?_
    refine lv_iload hx hb dX0_fewest_85 (lv_at hl 0 rfl) ?_
    refine lv_iand hx hb dX0_fewest_87 ?_
    refine lv_topi (fun v87 ev87 => ?_)
    have tv87 : 0 ≤ v87.toInt ∧ v87.toInt ≤ v42.toInt := by rw [ev87]; exact and_l (by omega)
    have ttv87 : 0 ≤ v87.toInt ∧ v87.toInt ≤ v78.toInt := by rw [ev87]; exact and_r (by omega)
    refine lv_istore (lv' := [(6, .int v87), (8, .int v78), (7, .int v60), (5, .int v19), (4, .int v8), (0, .ref a0), (1, .ref a1), (2, .int x2)]) hx hb dX0_fewest_88 hl (by decide) rfl (fun ls hl => ?_)
    refine lv_iload hx hb dX0_fewest_90 (lv_at hl 1 rfl) ?_
    refine lv_iload_n hx hb dX0_fewest_92 rfl (lv_at hl 7 rfl) ?_
    refine lv_iand hx hb dX0_fewest_93 ?_
    refine lv_topi (fun v93 ev93 => ?_)
    have tv93 : 0 ≤ v93.toInt ∧ v93.toInt ≤ v78.toInt := by rw [ev93]; exact and_l (by omega)
    refine lv_iload_n hx hb dX0_fewest_94 rfl (lv_at hl 7 rfl) ?_
    have J103 : ∀  (H : Heap) (locs : List Loc) (ls : Array Slot), HT D cs A T (a0 :: O) ((a0, .inr (0, [.ref y0, .int y1, .ref y2, .ref y3])) :: X) H → va_S A s.heap H locs → lv_has ls 14 [] → W p l e { frames := 5, cells := 1, slots := 16384, locals := 129 } s m [.ref a0, .ref a1, .int x2, .int x3].toArray below meth c H locs 0 0 (MQD below (fun kk ss => Ti D cs ((fun kk ss r u => ∃ T2 : TF, Tgr T T2 ∧ ∃ (n2 : Nat) (j2 : Nat) (n0_0 : Nat) (n0_1 : Int32), u = (T2, a0 :: O, (a0, .inr (0, [.ref n0_0, .int n0_1, .ref y2, .ref y3])) :: X) ∧ -1 ≤ r.toInt ∧ r.toInt ≤ 63 ∧ (T2 n0_0 = some (1, n2, 0)) ∧ (n2 = 2 ^ j2) ∧ (j ≤ j2) ∧ (j2 ≤ 14) ∧ (0 ≤ n0_1.toInt) ∧ (n0_1.toInt ≤ 16383) ∧ (True) ∧ (kk + j ≤ j2) ∧ (ss + 16384 * j ≤ 16384 * j2) ∧ (kk ≤ 1) ∧ (ss ≤ 16384)) kk ss) A) [.ref a0, .ref a1, .int x2, .int x3].toArray s A) (F0 m 103 ls []) := by
      intro  H locs ls  hH hS hl
      refine lv_iconst (v := (-1)) hx hb dX0_fewest_103 (by decide) ?_
      have z9_m1 : ((-1) : Int32).toInt = -1 := by decide
      exact te_iD hx hb hr hlocks hH hS (⟨T, Tgr.rf, nn, j, y0, y1, rfl, by decide, by decide, t_y0, hn, by omega, by omega, by omega, by omega, trivial, by omega, by omega, by omega, by omega⟩) dX0_fewest_104
    refine lv_icmp_ne (tgt := 103) hx hb dX0_fewest_95 (by decide) (fun c95 => ?_) (fun c95 => ?_)
    · skip
      have fuc95 := full_i v93
      have fvc95 := full_i x2
      have tc95 := g_ne c95
      exact J103  _ _ _  hH hS (lv_sub hl [] rfl)
    · skip
      have fuc95 := full_i v93
      have fvc95 := full_i x2
      have tc95 := g_eq c95
      refine lv_iload hx hb dX0_fewest_98 (lv_at hl 0 rfl) ?_
      refine lv_if_ne (tgt := 105) hx hb dX0_fewest_100 (by decide) (fun c100 => ?_) (fun c100 => ?_)
      · skip
        have tc100 := f_ne (k := 0) (by decide) c100
        refine lv_aload_n hx hb dX0_fewest_105 rfl (lv_at hl 5 rfl) ?_
        refine lv_aload_n hx hb dX0_fewest_106 rfl (lv_at hl 6 rfl) ?_
        refine lv_iload hx hb dX0_fewest_107 (lv_at hl 1 rfl) ?_
        refine lv_iload hx hb dX0_fewest_109 (lv_at hl 4 rfl) ?_
        refine tk_vD hH hS hA (tr_VD (n := 3) (As := [.ref a1, .int v78, .int v8]) hx hb hml hown hts hkb hH (ox_map hOX rfl) hks hE hS hA (s_Ch_prepare l D cs kf T O X a0 a1 v78 v8 y0 y1 y2 y3 nn j gq t_a0 t_a1 (by omega) (by omega) t_y0 (by omega) (by omega) t_y2 t_y3 hn (by omega) (hO.sub (by decide))) kw_1076 kw_1078 ks_38 kw_11 kw_1079 (by decide +kernel) ⟨Nat.le_of_ble_eq_true rfl, Nat.le_of_ble_eq_true rfl⟩ (x_recv (ci := 0) hkb hH 0 rfl rfl) rfl rfl hl.1 (Nat.le_of_ble_eq_true rfl) dX0_fewest_111 ⟨by show 0 + 1 ≤ 1; omega, by show 0 + 16384 ≤ 16384; omega⟩) (fun kc111 ks111 u H locs hz9 hH hS => ?_)
        obtain ⟨T111, le_T111, n2_111, j2_111, n111_0_0, n111_0_1, rfl, x_v1110, x_v1111, x_v1112, x_v1113, x_v1114, x_v1115, x_v1116, x_v1117, x_v1118, x_v1119, x_v11110⟩ := hz9
        have t_a0 := le_T111.1 _ _ t_a0
        have t_a1 := le_T111.1 _ _ t_a1
        have t_y0 := le_T111.1 _ _ t_y0
        have t_y2 := le_T111.1 _ _ t_y2
        have t_y3 := le_T111.1 _ _ t_y3
        have t_v2 := isW.le le_T111.1 t_v2
        have t_v13 := isW.le le_T111.1 t_v13
        have hO := okO.le le_T111.1 hO
        have t_n111_0_0 := x_v1110
        have hnb_111 := p2_le x_v1111 (by omega)
        have hH : HT D cs A T111 (a0 :: O) ((a0, .inr (0, [.ref n111_0_0, .int n111_0_1, .ref y2, .ref y3])) :: X) H := hH
        refine lv_iconst (v := (-1)) hx hb dX0_fewest_114 (by decide) ?_
        refine lv_istore (lv' := [(9, .int (-1)), (6, .int v87), (8, .int v78), (7, .int v60), (5, .int v19), (4, .int v8), (0, .ref a0), (1, .ref a1), (2, .int x2)]) hx hb dX0_fewest_115 hl (by decide) rfl (fun ls hl => ?_)
        refine lv_iconst (v := 1) hx hb dX0_fewest_117 (by decide) ?_
        refine lv_aload_n hx hb dX0_fewest_118 rfl (lv_at hl 6 rfl) ?_
        refine x_getk (ci := 0) (C := RX0) (F := TX0) (N := 4) (v := .int n111_0_1) hx hb hts uX0 hown hkb hH 0 rfl rfl 1 (by decide) rfl kw_331 (fun _ h9 => h9) dX0_fewest_119 ?_
        refine tk_i hH hS hA (tr_S (n := 1) (As := [.int n111_0_1]) hx hb hml hown hts hkb hH (ox_map hOX rfl) hks hE hS hA (s_bitCount l D cs kf T111 (a0 :: O) ((a0, .inr (0, [.ref n111_0_0, .int n111_0_1, .ref y2, .ref y3])) :: X) n111_0_1  (hO.sub (by decide))) kw_1088 kw_692 kw_20 kw_693 (by decide +kernel) ⟨Nat.le_of_ble_eq_true rfl, Nat.le_of_ble_eq_true rfl⟩ rfl rfl hl.1 (Nat.le_of_ble_eq_true rfl) dX0_fewest_122 ⟨by show (0 + kc111) + 0 ≤ 1; omega, by show (0 + ks111) + 0 ≤ 16384; omega⟩) (fun v122 u H locs hz9 hH hS => ?_)
        obtain ⟨rfl, l_v122, u_v122⟩ := hz9
        have hH : HT D cs A T111 (a0 :: O) ((a0, .inr (0, [.ref n111_0_0, .int n111_0_1, .ref y2, .ref y3])) :: X) H := hH
        refine W.widen (k := 0 + kc111) (n := 0 + ks111) (Nat.le_refl _) (Nat.le_refl _) ?_
        refine lv_ishl hx hb dX0_fewest_125 ?_
        refine lv_topi (fun v125 ev125 => ?_)
        refine lv_istore (lv' := [(10, .int v125), (9, .int (-1)), (6, .int v87), (8, .int v78), (7, .int v60), (5, .int v19), (4, .int v8), (0, .ref a0), (1, .ref a1), (2, .int x2)]) hx hb dX0_fewest_126 hl (by decide) rfl (fun ls hl => ?_)
        refine lv_iconst (v := 0) hx hb dX0_fewest_128 (by decide) ?_
        refine lv_istore (lv' := [(11, .int 0), (10, .int v125), (9, .int (-1)), (6, .int v87), (8, .int v78), (7, .int v60), (5, .int v19), (4, .int v8), (0, .ref a0), (1, .ref a1), (2, .int x2)]) hx hb dX0_fewest_129 hl (by decide) rfl (fun ls hl => ?_)
        refine lv_iconst (v := 1) hx hb dX0_fewest_131 (by decide) ?_
        have J134 : ∀ (n : Nat) (p134_12 : Int32) (p134_11 : Int32) (p134_9 : Int32) (H : Heap) (locs : List Loc) (ls : Array Slot), (2147483647 - p134_12.toInt).toNat = n → (1 ≤ p134_12.toInt) → (0 ≤ p134_11.toInt) → (p134_11.toInt ≤ 16383) → (-1 ≤ p134_9.toInt) → (p134_9.toInt ≤ 63) → (p134_11.toInt ≤ n111_0_1.toInt ∧ 0 ≤ p134_11.toInt) → HT D cs A T111 (a0 :: O) ((a0, .inr (0, [.ref n111_0_0, .int n111_0_1, .ref y2, .ref y3])) :: X) H → va_S A s.heap H locs → lv_has ls 14 [(12, .int p134_12), (11, .int p134_11), (10, .int v125), (9, .int p134_9), (6, .int v87), (0, .ref a0), (2, .int x2)] → W p l e { frames := 5, cells := 1, slots := 16384, locals := 129 } s m [.ref a0, .ref a1, .int x2, .int x3].toArray below meth c H locs (0 + kc111) (0 + ks111) (MQD below (fun kk ss => Ti D cs ((fun kk ss r u => ∃ T2 : TF, Tgr T T2 ∧ ∃ (n2 : Nat) (j2 : Nat) (n0_0 : Nat) (n0_1 : Int32), u = (T2, a0 :: O, (a0, .inr (0, [.ref n0_0, .int n0_1, .ref y2, .ref y3])) :: X) ∧ -1 ≤ r.toInt ∧ r.toInt ≤ 63 ∧ (T2 n0_0 = some (1, n2, 0)) ∧ (n2 = 2 ^ j2) ∧ (j ≤ j2) ∧ (j2 ≤ 14) ∧ (0 ≤ n0_1.toInt) ∧ (n0_1.toInt ≤ 16383) ∧ (True) ∧ (kk + j ≤ j2) ∧ (ss + 16384 * j ≤ 16384 * j2) ∧ (kk ≤ 1) ∧ (ss ≤ 16384)) kk ss) A) [.ref a0, .ref a1, .int x2, .int x3].toArray s A) (F0 m 134 ls []) := by
          intro n
          induction n using Nat.strongRecOn with
          | _ n ih134 =>
            intro p134_12 p134_11 p134_9 H locs ls hm134 l_p134_12 l_p134_11 u_p134_11 l_p134_9 u_p134_9 i134 hH hS hl
            refine lv_iload hx hb dX0_fewest_134 (lv_at hl 0 rfl) ?_
            refine lv_iload hx hb dX0_fewest_136 (lv_at hl 2 rfl) ?_
            refine lv_icmp_ge (tgt := 212) hx hb dX0_fewest_138 (by decide) (fun c138 => ?_) (fun c138 => ?_)
            · skip
              have fuc138 := full_i p134_12
              have fvc138 := full_i v125
              have tc138 := g_le c138
              refine lv_iload hx hb dX0_fewest_212 (lv_at hl 3 rfl) ?_
              exact te_iD hx hb hr hlocks hH hS (⟨T111, le_T111, n2_111, j2_111, n111_0_0, n111_0_1, rfl, by omega, by omega, t_n111_0_0, x_v1111, by omega, by omega, by omega, by omega, trivial, by omega, by omega, by omega, by omega⟩) dX0_fewest_214
            · skip
              have fuc138 := full_i p134_12
              have fvc138 := full_i v125
              have tc138 := g_nle c138
              refine lv_iload hx hb dX0_fewest_141 (lv_at hl 1 rfl) ?_
              refine lv_aload_n hx hb dX0_fewest_143 rfl (lv_at hl 5 rfl) ?_
              refine x_getk (ci := 0) (C := RX0) (F := TX0) (N := 4) (v := .int n111_0_1) hx hb hts uX0 hown hkb hH 0 rfl rfl 1 (by decide) rfl kw_331 (fun _ h9 => h9) dX0_fewest_144 ?_
              refine lv_isub hx hb dX0_fewest_147 ?_
              refine lv_topi (fun v147 ev147 => ?_)
              have tv147 : v147.toInt = p134_11.toInt - n111_0_1.toInt := by rw [ev147]; exact sub_i rfl rfl (by omega) (by omega)
              refine lv_aload_n hx hb dX0_fewest_148 rfl (lv_at hl 5 rfl) ?_
              refine x_getk (ci := 0) (C := RX0) (F := TX0) (N := 4) (v := .int n111_0_1) hx hb hts uX0 hown hkb hH 0 rfl rfl 1 (by decide) rfl kw_331 (fun _ h9 => h9) dX0_fewest_149 ?_
              refine lv_iand hx hb dX0_fewest_152 ?_
              refine lv_topi (fun v152 ev152 => ?_)
              have tv152 : 0 ≤ v152.toInt ∧ v152.toInt ≤ n111_0_1.toInt := by rw [ev152]; exact and_r (by omega)
              refine lv_istore (lv' := [(11, .int v152), (12, .int p134_12), (10, .int v125), (9, .int p134_9), (6, .int v87), (0, .ref a0), (2, .int x2)]) hx hb dX0_fewest_153 hl (by decide) rfl (fun ls hl => ?_)
              refine lv_aload_n hx hb dX0_fewest_155 rfl (lv_at hl 5 rfl) ?_
              refine lv_iload hx hb dX0_fewest_156 (lv_at hl 0 rfl) ?_
              refine tk_v hH hS hA (tr_V (n := 1) (As := [.int v152]) hx hb hml hown hts hkb hH (ox_map hOX rfl) hks hE hS hA (s_Ch_growFrom l D cs kf T111 O X a0 v152 n111_0_0 n111_0_1 y2 y3 n2_111 j2_111 gq t_a0 (by omega) (by omega) t_n111_0_0 (by omega) (by omega) t_y2 t_y3 x_v1111 (by omega) (by omega) (by omega) (hO.sub (by decide))) kw_1089 kw_1091 ks_39 kw_11 kw_1092 (by decide +kernel) ⟨Nat.le_of_ble_eq_true rfl, Nat.le_of_ble_eq_true rfl⟩ (x_recv (ci := 0) hkb hH 0 rfl rfl) rfl rfl hl.1 (Nat.le_of_ble_eq_true rfl) dX0_fewest_158 ⟨by show (0 + kc111) + 0 ≤ 1; omega, by show (0 + ks111) + 0 ≤ 16384; omega⟩) (fun u H locs hz9 hH hS => ?_)
              obtain ⟨rfl⟩ := hz9
              have hH : HT D cs A T111 (a0 :: O) ((a0, .inr (0, [.ref n111_0_0, .int n111_0_1, .ref y2, .ref y3])) :: X) H := hH
              refine W.widen (k := 0 + kc111) (n := 0 + ks111) (Nat.le_refl _) (Nat.le_refl _) ?_
              refine lv_iload hx hb dX0_fewest_161 (lv_at hl 0 rfl) ?_
              refine tk_i hH hS hA (tr_S (n := 1) (As := [.int v152]) hx hb hml hown hts hkb hH (ox_map hOX rfl) hks hE hS hA (s_bitCount l D cs kf T111 (a0 :: O) ((a0, .inr (0, [.ref n111_0_0, .int n111_0_1, .ref y2, .ref y3])) :: X) v152  (hO.sub (by decide))) kw_1088 kw_692 kw_20 kw_693 (by decide +kernel) ⟨Nat.le_of_ble_eq_true rfl, Nat.le_of_ble_eq_true rfl⟩ rfl rfl hl.1 (Nat.le_of_ble_eq_true rfl) dX0_fewest_163 ⟨by show (0 + kc111) + 0 ≤ 1; omega, by show (0 + ks111) + 0 ≤ 16384; omega⟩) (fun v163 u H locs hz9 hH hS => ?_)
              obtain ⟨rfl, l_v163, u_v163⟩ := hz9
              have hH : HT D cs A T111 (a0 :: O) ((a0, .inr (0, [.ref n111_0_0, .int n111_0_1, .ref y2, .ref y3])) :: X) H := hH
              refine W.widen (k := 0 + kc111) (n := 0 + ks111) (Nat.le_refl _) (Nat.le_refl _) ?_
              refine lv_istore (lv' := [(13, .int v163), (11, .int v152), (12, .int p134_12), (10, .int v125), (9, .int p134_9), (6, .int v87), (0, .ref a0), (2, .int x2)]) hx hb dX0_fewest_166 hl (by decide) rfl (fun ls hl => ?_)
              refine lv_iload hx hb dX0_fewest_168 (lv_at hl 1 rfl) ?_
              refine lv_iload_n hx hb dX0_fewest_170 rfl (lv_at hl 7 rfl) ?_
              refine lv_iand hx hb dX0_fewest_171 ?_
              refine lv_topi (fun v171 ev171 => ?_)
              have tv171 : 0 ≤ v171.toInt ∧ v171.toInt ≤ v152.toInt := by rw [ev171]; exact and_l (by omega)
              have ttv171 : 0 ≤ v171.toInt ∧ v171.toInt ≤ x2.toInt := by rw [ev171]; exact and_r (by omega)
              refine lv_iload_n hx hb dX0_fewest_172 rfl (lv_at hl 7 rfl) ?_
              have J206 : ∀ (p206_9 : Int32) (H : Heap) (locs : List Loc) (ls : Array Slot), (-1 ≤ p206_9.toInt) → (p206_9.toInt ≤ 63) → HT D cs A T111 (a0 :: O) ((a0, .inr (0, [.ref n111_0_0, .int n111_0_1, .ref y2, .ref y3])) :: X) H → va_S A s.heap H locs → lv_has ls 14 [(11, .int v152), (12, .int p134_12), (10, .int v125), (9, .int p206_9), (6, .int v87), (0, .ref a0), (2, .int x2)] → W p l e { frames := 5, cells := 1, slots := 16384, locals := 129 } s m [.ref a0, .ref a1, .int x2, .int x3].toArray below meth c H locs (0 + kc111) (0 + ks111) (MQD below (fun kk ss => Ti D cs ((fun kk ss r u => ∃ T2 : TF, Tgr T T2 ∧ ∃ (n2 : Nat) (j2 : Nat) (n0_0 : Nat) (n0_1 : Int32), u = (T2, a0 :: O, (a0, .inr (0, [.ref n0_0, .int n0_1, .ref y2, .ref y3])) :: X) ∧ -1 ≤ r.toInt ∧ r.toInt ≤ 63 ∧ (T2 n0_0 = some (1, n2, 0)) ∧ (n2 = 2 ^ j2) ∧ (j ≤ j2) ∧ (j2 ≤ 14) ∧ (0 ≤ n0_1.toInt) ∧ (n0_1.toInt ≤ 16383) ∧ (True) ∧ (kk + j ≤ j2) ∧ (ss + 16384 * j ≤ 16384 * j2) ∧ (kk ≤ 1) ∧ (ss ≤ 16384)) kk ss) A) [.ref a0, .ref a1, .int x2, .int x3].toArray s A) (F0 m 206 ls []) := by
                intro p206_9 H locs ls l_p206_9 u_p206_9 hH hS hl
                obtain ⟨v206, ev206⟩ : ∃ y : Int32, y = p134_12 + 1 := ⟨_, rfl⟩
                have tv206 : v206.toInt = p134_12.toInt + (1) := by rw [ev206]; exact add_i rfl (by decide) (by omega) (by omega)
                refine lv_iinc (v := v206) (lv' := [(12, .int v206), (11, .int v152), (10, .int v125), (9, .int p206_9), (6, .int v87), (0, .ref a0), (2, .int x2)]) hx hb dX0_fewest_206 hl (k := 1) rfl (by rw [ev206]; rfl) (by decide) rfl (fun ls hl => ?_)
                refine lv_goto (tgt := 134) hx hb dX0_fewest_209 (by decide) ?_
                exact ih134 _ (by omega) v206 v152 p206_9 _ _ _ rfl (by omega) (by omega) (by omega) (by omega) (by omega) (by omega) hH hS (lv_sub hl [0, 1, 2, 3, 4, 5, 6] rfl)
              refine lv_icmp_ne (tgt := 206) hx hb dX0_fewest_173 (by decide) (fun c173 => ?_) (fun c173 => ?_)
              · skip
                have fuc173 := full_i v171
                have fvc173 := full_i x2
                have tc173 := g_ne c173
                exact J206 p134_9 _ _ _ (by omega) (by omega) hH hS (lv_sub hl [1, 2, 3, 4, 5, 6, 7] rfl)
              · skip
                have fuc173 := full_i v171
                have fvc173 := full_i x2
                have tc173 := g_eq c173
                refine lv_aload_n hx hb dX0_fewest_176 rfl (lv_at hl 6 rfl) ?_
                refine x_getk (ci := 0) (C := RX0) (F := TX0) (N := 4) (v := .ref n111_0_0) hx hb hts uX0 hown hkb hH 0 rfl rfl 0 (by decide) rfl kw_330 (fun _ h9 => h9) dX0_fewest_177 ?_
                refine lv_iload hx hb dX0_fewest_180 (lv_at hl 1 rfl) ?_
                refine t_ild hx hb hkb hH t_n111_0_0 (hO.no t_n111_0_0 (by decide)) (by omega) (by omega) dX0_fewest_182 (fun v182 h9 => ?_)
                refine lv_iload hx hb dX0_fewest_183 (lv_at hl 5 rfl) ?_
                refine lv_iand hx hb dX0_fewest_185 ?_
                refine lv_topi (fun v185 ev185 => ?_)
                have tv185 : 0 ≤ v185.toInt ∧ v185.toInt ≤ v87.toInt := by rw [ev185]; exact and_r (by omega)
                refine lv_if_eq (tgt := 206) hx hb dX0_fewest_186 (by decide) (fun c186 => ?_) (fun c186 => ?_)
                · skip
                  have tc186 := f_eq (k := 0) (by decide) c186
                  exact J206 p134_9 _ _ _ (by omega) (by omega) hH hS (lv_sub hl [1, 2, 3, 4, 5, 6, 7] rfl)
                · skip
                  have tc186 := f_ne (k := 0) (by decide) c186
                  refine lv_iload hx hb dX0_fewest_189 (lv_at hl 4 rfl) ?_
                  refine lv_iconst (v := (-1)) hx hb dX0_fewest_191 (by decide) ?_
                  have J202 : ∀  (H : Heap) (locs : List Loc) (ls : Array Slot), HT D cs A T111 (a0 :: O) ((a0, .inr (0, [.ref n111_0_0, .int n111_0_1, .ref y2, .ref y3])) :: X) H → va_S A s.heap H locs → lv_has ls 14 [(13, .int v163), (11, .int v152), (12, .int p134_12), (10, .int v125), (6, .int v87), (0, .ref a0), (2, .int x2)] → W p l e { frames := 5, cells := 1, slots := 16384, locals := 129 } s m [.ref a0, .ref a1, .int x2, .int x3].toArray below meth c H locs (0 + kc111) (0 + ks111) (MQD below (fun kk ss => Ti D cs ((fun kk ss r u => ∃ T2 : TF, Tgr T T2 ∧ ∃ (n2 : Nat) (j2 : Nat) (n0_0 : Nat) (n0_1 : Int32), u = (T2, a0 :: O, (a0, .inr (0, [.ref n0_0, .int n0_1, .ref y2, .ref y3])) :: X) ∧ -1 ≤ r.toInt ∧ r.toInt ≤ 63 ∧ (T2 n0_0 = some (1, n2, 0)) ∧ (n2 = 2 ^ j2) ∧ (j ≤ j2) ∧ (j2 ≤ 14) ∧ (0 ≤ n0_1.toInt) ∧ (n0_1.toInt ≤ 16383) ∧ (True) ∧ (kk + j ≤ j2) ∧ (ss + 16384 * j ≤ 16384 * j2) ∧ (kk ≤ 1) ∧ (ss ≤ 16384)) kk ss) A) [.ref a0, .ref a1, .int x2, .int x3].toArray s A) (F0 m 202 ls []) := by
                    intro  H locs ls  hH hS hl
                    refine lv_iload hx hb dX0_fewest_202 (lv_at hl 0 rfl) ?_
                    refine lv_istore (lv' := [(9, .int v163), (13, .int v163), (11, .int v152), (12, .int p134_12), (10, .int v125), (6, .int v87), (0, .ref a0), (2, .int x2)]) hx hb dX0_fewest_204 hl (by decide) rfl (fun ls hl => ?_)
                    exact J206 v163 _ _ _ (by omega) (by omega) hH hS (lv_sub hl [2, 3, 4, 0, 5, 6, 7] rfl)
                  refine lv_icmp_eq (tgt := 202) hx hb dX0_fewest_192 (by decide) (fun c192 => ?_) (fun c192 => ?_)
                  · skip
                    have tc192 := f_eq (k := -1) (by decide) c192
                    exact J202  _ _ _  hH hS (lv_sub hl [0, 1, 2, 3, 5, 6, 7] rfl)
                  · skip
                    have tc192 := f_ne (k := -1) (by decide) c192
                    refine lv_iload hx hb dX0_fewest_195 (lv_at hl 0 rfl) ?_
                    refine lv_iload hx hb dX0_fewest_197 (lv_at hl 4 rfl) ?_
                    refine lv_icmp_ge (tgt := 206) hx hb dX0_fewest_199 (by decide) (fun c199 => ?_) (fun c199 => ?_)
                    · skip
                      have fuc199 := full_i v163
                      have fvc199 := full_i p134_9
                      have tc199 := g_le c199
                      exact J206 p134_9 _ _ _ (by omega) (by omega) hH hS (lv_sub hl [1, 2, 3, 4, 5, 6, 7] rfl)
                    · skip
                      have fuc199 := full_i v163
                      have fvc199 := full_i p134_9
                      have tc199 := g_nle c199
                      exact J202  _ _ _  hH hS (lv_sub hl [0, 1, 2, 3, 5, 6, 7] rfl)
        refine lv_istore (lv' := [(12, .int 1), (11, .int 0), (10, .int v125), (9, .int (-1)), (6, .int v87), (8, .int v78), (7, .int v60), (5, .int v19), (4, .int v8), (0, .ref a0), (1, .ref a1), (2, .int x2)]) hx hb dX0_fewest_132 hl (by decide) rfl (fun ls hl => ?_)
        have z_m1 : ((-1) : Int32).toInt = -1 := by decide
        have z_0 : (0 : Int32).toInt = 0 := by decide
        have z_1 : (1 : Int32).toInt = 1 := by decide
        exact J134 _ 1 0 (-1) _ _ _ rfl (by decide) (by decide) (by decide) (by decide) (by decide) (by omega) hH hS (lv_sub hl [0, 1, 2, 3, 4, 9, 11] rfl)
      · skip
        have tc100 := f_eq (k := 0) (by decide) c100
        exact J103  _ _ _  hH hS (lv_sub hl [] rfl)
  refine lv_if_ne (tgt := 36) hx hb dX0_fewest_23 (by decide) (fun c23 => ?_) (fun c23 => ?_)
  · skip
    have tc23 := f_ne (k := 0) (by decide) c23
    exact J36  _ _ _  hH hS (lv_sub hl [0, 1, 2, 3, 4] rfl)
  · skip
    have tc23 := f_eq (k := 0) (by decide) c23
    refine lv_iload hx hb dX0_fewest_26 (lv_at hl 0 rfl) ?_
    refine lv_iload hx hb dX0_fewest_28 (lv_at hl 1 rfl) ?_
    refine lv_iand hx hb dX0_fewest_30 ?_
    refine lv_topi (fun v30 ev30 => ?_)
    have tv30 : 0 ≤ v30.toInt ∧ v30.toInt ≤ v19.toInt := by rw [ev30]; exact and_l (by omega)
    have ttv30 : 0 ≤ v30.toInt ∧ v30.toInt ≤ v8.toInt := by rw [ev30]; exact and_r (by omega)
    refine lv_if_eq (tgt := 36) hx hb dX0_fewest_31 (by decide) (fun c31 => ?_) (fun c31 => ?_)
    · skip
      have tc31 := f_eq (k := 0) (by decide) c31
      exact J36  _ _ _  hH hS (lv_sub hl [0, 1, 2, 3, 4] rfl)
    · skip
      have tc31 := f_ne (k := 0) (by decide) c31
      refine lv_iconst (v := 0) hx hb dX0_fewest_34 (by decide) ?_
      have z9_0 : (0 : Int32).toInt = 0 := by decide
      exact te_iD hx hb hr hlocks hH hS (⟨T, Tgr.rf, nn, j, y0, y1, rfl, by decide, by decide, t_y0, hn, by omega, by omega, by omega, by omega, trivial, by omega, by omega, by omega, by omega⟩) dX0_fewest_35
set_option maxHeartbeats 4000000 in
set_option maxRecDepth 100000 in
theorem s_Ch_first (l : Launch) (D : va_G) (cs : CS) (kf : KF) (T : TF) (O : List Nat) (X : va_W) (a0 : Nat) (a1 : Nat) (x2 : Int32) (x3 : Int32) (y0 : Nat) (y1 : Int32) (y2 : Nat) (y3 : Nat) (nn j gq : Nat) (t_a0 : T a0 = some (10, gq, 0)) (t_a1 : T a1 = some (15, 0, 0)) (t_y0 : T y0 = some (1, nn, 0)) (l_y1 : 0 ≤ y1.toInt) (u_y1 : y1.toInt ≤ 16383) (t_y2 : T y2 = some (1, 14, 1)) (t_y3 : T y3 = some (1, 14, 0)) (hn : nn = 2 ^ j) (hj : j ≤ 14) (hO : okO T (a0 :: O) [1, 12, 15, 19]) : TKD l D cs kf yX0_first cX0_first 12 (some (.int)) { frames := 6, cells := 1, slots := 16384, locals := 162 } [.ref a0, .ref a1, .int x2, .int x3] T (a0 :: O) ((a0, .inr (0, [.ref y0, .int y1, .ref y2, .ref y3])) :: X) (fun kk ss => Ti D cs ((fun kk ss r u => ∃ T2 : TF, Tgr T T2 ∧ ∃ (n2 : Nat) (j2 : Nat) (n0_0 : Nat) (n0_1 : Int32), u = (T2, a0 :: O, (a0, .inr (0, [.ref n0_0, .int n0_1, .ref y2, .ref y3])) :: X) ∧ 0 ≤ r.toInt ∧ r.toInt ≤ 14 ∧ (T2 n0_0 = some (1, n2, 0)) ∧ (n2 = 2 ^ j2) ∧ (j ≤ j2) ∧ (j2 ≤ 14) ∧ (0 ≤ n0_1.toInt) ∧ (n0_1.toInt ≤ 16383) ∧ (True) ∧ (kk + j ≤ j2) ∧ (ss + 16384 * j ≤ 16384 * j2) ∧ (kk ≤ 1) ∧ (ss ≤ 16384)) kk ss)) := by
  refine tkd_of (by decide) (Nat.le_of_ble_eq_true rfl) (fun p e s m below meth c ls A H locs hx hb hr hml hown hts hlocks hnm hkb hH hS hA hOX hks hE hl => ?_)
  have hown : s.vm.findClass RX0 = some m.cls := hown
  have hl : lv_has ls 12 [(0, .ref a0), (1, .ref a1), (2, .int x2), (3, .int x3)] := hl
  have hOXf := hOX
  have hnb := p2_le hn hj
  refine lv_aload_n hx hb dX0_first_0 rfl (lv_at hl 0 rfl) ?_
  refine lv_aload_n hx hb dX0_first_1 rfl (lv_at hl 1 rfl) ?_
  refine lv_iload_n hx hb dX0_first_2 rfl (lv_at hl 2 rfl) ?_
  refine lv_iload_n hx hb dX0_first_3 rfl (lv_at hl 3 rfl) ?_
  refine tk_iD hH hS hA (tr_VD (n := 3) (As := [.ref a1, .int x2, .int x3]) hx hb hml hown hts hkb hH (ox_map hOX rfl) hks hE hS hA (s_Ch_fewest l D cs kf T O X a0 a1 x2 x3 y0 y1 y2 y3 nn j gq t_a0 t_a1 t_y0 (by omega) (by omega) t_y2 t_y3 hn (by omega) (hO.sub (by decide))) kw_1140 kw_1128 kw_1129 kw_11 kw_1130 (by decide +kernel) ⟨Nat.le_of_ble_eq_true rfl, Nat.le_of_ble_eq_true rfl⟩ (x_recv (ci := 0) hkb hH 0 rfl rfl) rfl rfl hl.1 (Nat.le_of_ble_eq_true rfl) dX0_first_4 ⟨by show 0 + 1 ≤ 1; omega, by show 0 + 16384 ≤ 16384; omega⟩) (fun v4 kc4 ks4 u H locs hz9 hH hS => ?_)
  obtain ⟨T4, le_T4, n2_4, j2_4, n4_0_0, n4_0_1, rfl, l_v4, u_v4, x_v40, x_v41, x_v42, x_v43, x_v44, x_v45, x_v46, x_v47, x_v48, x_v49, x_v410⟩ := hz9
  have t_a0 := le_T4.1 _ _ t_a0
  have t_a1 := le_T4.1 _ _ t_a1
  have t_y0 := le_T4.1 _ _ t_y0
  have t_y2 := le_T4.1 _ _ t_y2
  have t_y3 := le_T4.1 _ _ t_y3
  have hO := okO.le le_T4.1 hO
  have t_n4_0_0 := x_v40
  have hnb_4 := p2_le x_v41 (by omega)
  have hH : HT D cs A T4 (a0 :: O) ((a0, .inr (0, [.ref n4_0_0, .int n4_0_1, .ref y2, .ref y3])) :: X) H := hH
  refine lv_istore (lv' := [(4, .int v4), (0, .ref a0), (1, .ref a1), (2, .int x2), (3, .int x3)]) hx hb dX0_first_7 hl (by decide) rfl (fun ls hl => ?_)
  refine lv_iload_n hx hb dX0_first_9 rfl (lv_at hl 4 rfl) ?_
  refine lv_aload_n hx hb dX0_first_10 rfl (lv_at hl 2 rfl) ?_
  refine t_get (ci := 5) (lst := ft5 0 0) (C := RX5) (F := TX5) (N := 6) hx hb hts uX5 hown hkb hH t_a1 (hO.no t_a1 (by decide)) (fun _ h9 => h9) rfl rfl 0 (by decide) rfl kw_247 (fun _ h9 => h9) dX0_first_11 (fun v9 h9 => ?_)
  obtain ⟨v11, hv11, gv11, rfl, t_v11⟩ := h9
  refine t_get (ci := 9) (lst := ft9w hv11 gv11) (C := RX9) (F := TX9) (N := 14) hx hb hts uX9 hown hkb hH t_v11.1 (hO.no t_v11.1 (by decide)) (fun fs => (ob9w t_v11 fs).mp) rfl rfl 4 (by decide) rfl kw_125 (fun _ h9 => h9) dX0_first_14 (fun v9 h9 => ?_)
  obtain ⟨v14, rfl, l_v14, u_v14⟩ := h9
  refine lv_iand hx hb dX0_first_17 ?_
  refine lv_topi (fun v17 ev17 => ?_)
  have tv17 : 0 ≤ v17.toInt ∧ v17.toInt ≤ v14.toInt := by rw [ev17]; exact and_r (by omega)
  refine lv_istore (lv' := [(5, .int v17), (4, .int v4), (0, .ref a0), (1, .ref a1), (2, .int x2), (3, .int x3)]) hx hb dX0_first_18 hl (by decide) rfl (fun ls hl => ?_)
  refine lv_iload hx hb dX0_first_20 (lv_at hl 1 rfl) ?_
  refine lv_iconst (v := (-1)) hx hb dX0_first_22 (by decide) ?_
  have J33 : ∀  (H : Heap) (locs : List Loc) (ls : Array Slot), HT D cs A T4 (a0 :: O) ((a0, .inr (0, [.ref n4_0_0, .int n4_0_1, .ref y2, .ref y3])) :: X) H → va_S A s.heap H locs → lv_has ls 12 [] → W p l e { frames := 6, cells := 1, slots := 16384, locals := 162 } s m [.ref a0, .ref a1, .int x2, .int x3].toArray below meth c H locs (0 + kc4) (0 + ks4) (MQD below (fun kk ss => Ti D cs ((fun kk ss r u => ∃ T2 : TF, Tgr T T2 ∧ ∃ (n2 : Nat) (j2 : Nat) (n0_0 : Nat) (n0_1 : Int32), u = (T2, a0 :: O, (a0, .inr (0, [.ref n0_0, .int n0_1, .ref y2, .ref y3])) :: X) ∧ 0 ≤ r.toInt ∧ r.toInt ≤ 14 ∧ (T2 n0_0 = some (1, n2, 0)) ∧ (n2 = 2 ^ j2) ∧ (j ≤ j2) ∧ (j2 ≤ 14) ∧ (0 ≤ n0_1.toInt) ∧ (n0_1.toInt ≤ 16383) ∧ (True) ∧ (kk + j ≤ j2) ∧ (ss + 16384 * j ≤ 16384 * j2) ∧ (kk ≤ 1) ∧ (ss ≤ 16384)) kk ss) A) [.ref a0, .ref a1, .int x2, .int x3].toArray s A) (F0 m 33 ls []) := by
    intro  H locs ls  hH hS hl
    refine lv_iconst (v := 0) hx hb dX0_first_33 (by decide) ?_
    have z9_0 : (0 : Int32).toInt = 0 := by decide
    exact te_iD hx hb hr hlocks hH hS (⟨T4, le_T4, n2_4, j2_4, n4_0_0, n4_0_1, rfl, by decide, by decide, t_n4_0_0, x_v41, by omega, by omega, by omega, by omega, trivial, by omega, by omega, by omega, by omega⟩) dX0_first_34
  refine lv_icmp_eq (tgt := 33) hx hb dX0_first_23 (by decide) (fun c23 => ?_) (fun c23 => ?_)
  · skip
    have tc23 := f_eq (k := -1) (by decide) c23
    exact J33  _ _ _  hH hS (lv_sub hl [] rfl)
  · skip
    have tc23 := f_ne (k := -1) (by decide) c23
    refine lv_iload hx hb dX0_first_26 (lv_at hl 1 rfl) ?_
    refine lv_bipush (v := 14) hx hb dX0_first_28 (by decide) ?_
    refine lv_icmp_lt (tgt := 35) hx hb dX0_first_30 (by decide) (fun c30 => ?_) (fun c30 => ?_)
    · skip
      have tc30 := f_lt (k := 14) (by decide) c30
      refine lv_iload hx hb dX0_first_35 (lv_at hl 1 rfl) ?_
      have J48 : ∀ (k48_0 : Int32) (H : Heap) (locs : List Loc) (ls : Array Slot), (0 ≤ k48_0.toInt) → (k48_0.toInt ≤ 16383) → HT D cs A T4 (a0 :: O) ((a0, .inr (0, [.ref n4_0_0, .int n4_0_1, .ref y2, .ref y3])) :: X) H → va_S A s.heap H locs → lv_has ls 12 [(5, .int v17), (4, .int v4), (0, .ref a0), (1, .ref a1), (2, .int x2), (3, .int x3)] → W p l e { frames := 6, cells := 1, slots := 16384, locals := 162 } s m [.ref a0, .ref a1, .int x2, .int x3].toArray below meth c H locs (0 + kc4) (0 + ks4) (MQD below (fun kk ss => Ti D cs ((fun kk ss r u => ∃ T2 : TF, Tgr T T2 ∧ ∃ (n2 : Nat) (j2 : Nat) (n0_0 : Nat) (n0_1 : Int32), u = (T2, a0 :: O, (a0, .inr (0, [.ref n0_0, .int n0_1, .ref y2, .ref y3])) :: X) ∧ 0 ≤ r.toInt ∧ r.toInt ≤ 14 ∧ (T2 n0_0 = some (1, n2, 0)) ∧ (n2 = 2 ^ j2) ∧ (j ≤ j2) ∧ (j2 ≤ 14) ∧ (0 ≤ n0_1.toInt) ∧ (n0_1.toInt ≤ 16383) ∧ (True) ∧ (kk + j ≤ j2) ∧ (ss + 16384 * j ≤ 16384 * j2) ∧ (kk ≤ 1) ∧ (ss ≤ 16384)) kk ss) A) [.ref a0, .ref a1, .int x2, .int x3].toArray s A) (F0 m 48 ls [.int k48_0]) := by
        intro k48_0 H locs ls l_k48_0 u_k48_0 hH hS hl
        refine lv_istore (lv' := [(6, .int k48_0), (5, .int v17), (4, .int v4), (0, .ref a0), (1, .ref a1), (2, .int x2), (3, .int x3)]) hx hb dX0_first_48 hl (by decide) rfl (fun ls hl => ?_)
        refine lv_iload hx hb dX0_first_50 (lv_at hl 0 rfl) ?_
        refine lv_iload_n hx hb dX0_first_52 rfl (lv_at hl 5 rfl) ?_
        refine lv_iconst (v := (-1)) hx hb dX0_first_53 (by decide) ?_
        refine lv_ixor hx hb dX0_first_54 ?_
        refine lv_topi (fun v54 ev54 => ?_)
        refine lv_iand hx hb dX0_first_55 ?_
        refine lv_topi (fun v55 ev55 => ?_)
        have tv55 : 0 ≤ v55.toInt ∧ v55.toInt ≤ k48_0.toInt := by rw [ev55]; exact and_l (by omega)
        refine lv_istore (lv' := [(7, .int v55), (6, .int k48_0), (5, .int v17), (4, .int v4), (0, .ref a0), (1, .ref a1), (2, .int x2), (3, .int x3)]) hx hb dX0_first_56 hl (by decide) rfl (fun ls hl => ?_)
        refine lv_iload_n hx hb dX0_first_58 rfl (lv_at hl 7 rfl) ?_
        refine lv_aload_n hx hb dX0_first_59 rfl (lv_at hl 5 rfl) ?_
        refine t_get (ci := 5) (lst := ft5 0 0) (C := RX5) (F := TX5) (N := 6) hx hb hts uX5 hown hkb hH t_a1 (hO.no t_a1 (by decide)) (fun _ h9 => h9) rfl rfl 0 (by decide) rfl kw_247 (fun _ h9 => h9) dX0_first_60 (fun v9 h9 => ?_)
        obtain ⟨v60, hv60, gv60, rfl, t_v60⟩ := h9
        refine t_get (ci := 9) (lst := ft9w hv60 gv60) (C := RX9) (F := TX9) (N := 14) hx hb hts uX9 hown hkb hH t_v60.1 (hO.no t_v60.1 (by decide)) (fun fs => (ob9w t_v60 fs).mp) rfl rfl 3 (by decide) rfl kw_119 (fun _ h9 => h9) dX0_first_63 (fun v9 h9 => ?_)
        obtain ⟨v63, rfl, l_v63, u_v63⟩ := h9
        refine lv_iand hx hb dX0_first_66 ?_
        refine lv_topi (fun v66 ev66 => ?_)
        have tv66 : 0 ≤ v66.toInt ∧ v66.toInt ≤ v63.toInt := by rw [ev66]; exact and_r (by omega)
        refine lv_istore (lv' := [(8, .int v66), (7, .int v55), (6, .int k48_0), (5, .int v17), (4, .int v4), (0, .ref a0), (1, .ref a1), (2, .int x2), (3, .int x3)]) hx hb dX0_first_67 hl (by decide) rfl (fun ls hl => ?_)
        refine lv_iconst (v := 0) hx hb dX0_first_69 (by decide) ?_
        have J72 : ∀ (n : Nat) (p72_9 : Int32) (p72_8 : Int32) (p72_6 : Int32) (H : Heap) (locs : List Loc) (ls : Array Slot), (13 - p72_9.toInt).toNat = n → (0 ≤ p72_9.toInt) → (p72_9.toInt ≤ 13) → (0 ≤ p72_8.toInt) → (p72_8.toInt ≤ 16383) → (0 ≤ p72_6.toInt) → (p72_6.toInt ≤ 16383) → HT D cs A T4 (a0 :: O) ((a0, .inr (0, [.ref n4_0_0, .int n4_0_1, .ref y2, .ref y3])) :: X) H → va_S A s.heap H locs → lv_has ls 12 [(9, .int p72_9), (8, .int p72_8), (7, .int v55), (6, .int p72_6), (5, .int v17), (4, .int v4), (0, .ref a0), (1, .ref a1), (2, .int x2)] → W p l e { frames := 6, cells := 1, slots := 16384, locals := 162 } s m [.ref a0, .ref a1, .int x2, .int x3].toArray below meth c H locs (0 + kc4) (0 + ks4) (MQD below (fun kk ss => Ti D cs ((fun kk ss r u => ∃ T2 : TF, Tgr T T2 ∧ ∃ (n2 : Nat) (j2 : Nat) (n0_0 : Nat) (n0_1 : Int32), u = (T2, a0 :: O, (a0, .inr (0, [.ref n0_0, .int n0_1, .ref y2, .ref y3])) :: X) ∧ 0 ≤ r.toInt ∧ r.toInt ≤ 14 ∧ (T2 n0_0 = some (1, n2, 0)) ∧ (n2 = 2 ^ j2) ∧ (j ≤ j2) ∧ (j2 ≤ 14) ∧ (0 ≤ n0_1.toInt) ∧ (n0_1.toInt ≤ 16383) ∧ (True) ∧ (kk + j ≤ j2) ∧ (ss + 16384 * j ≤ 16384 * j2) ∧ (kk ≤ 1) ∧ (ss ≤ 16384)) kk ss) A) [.ref a0, .ref a1, .int x2, .int x3].toArray s A) (F0 m 72 ls []) := by
          intro n
          induction n using Nat.strongRecOn with
          | _ n ih72 =>
            intro p72_9 p72_8 p72_6 H locs ls hm72 l_p72_9 u_p72_9 l_p72_8 u_p72_8 l_p72_6 u_p72_6 hH hS hl
            refine lv_iload hx hb dX0_first_72 (lv_at hl 0 rfl) ?_
            refine lv_iload hx hb dX0_first_74 (lv_at hl 5 rfl) ?_
            refine lv_icmp_ge (tgt := 148) hx hb dX0_first_76 (by decide) (fun c76 => ?_) (fun c76 => ?_)
            · skip
              have fuc76 := full_i p72_9
              have fvc76 := full_i v4
              have tc76 := g_le c76
              refine lv_aload_n hx hb dX0_first_148 rfl (lv_at hl 6 rfl) ?_
              refine x_getk (ci := 0) (C := RX0) (F := TX0) (N := 4) (v := .ref y3) hx hb hts uX0 hown hkb hH 0 rfl rfl 3 (by decide) rfl kw_333 (fun _ h9 => h9) dX0_first_149 ?_
              refine lv_iload hx hb dX0_first_152 (lv_at hl 5 rfl) ?_
              refine lv_iload hx hb dX0_first_154 (lv_at hl 1 rfl) ?_
              refine lv_iload hx hb dX0_first_156 (lv_at hl 4 rfl) ?_
              refine lv_iand hx hb dX0_first_158 ?_
              refine lv_topi (fun v158 ev158 => ?_)
              have tv158 : 0 ≤ v158.toInt ∧ v158.toInt ≤ p72_8.toInt := by rw [ev158]; exact and_l (by omega)
              have ttv158 : 0 ≤ v158.toInt ∧ v158.toInt ≤ v17.toInt := by rw [ev158]; exact and_r (by omega)
              refine tk_i hH hS hA (tr_S (n := 1) (As := [.int v158]) hx hb hml hown hts hkb hH (ox_map hOX rfl) hks hE hS hA (s_ntz l D cs kf T4 (a0 :: O) ((a0, .inr (0, [.ref n4_0_0, .int n4_0_1, .ref y2, .ref y3])) :: X) v158  (hO.sub (by decide))) kw_1145 kw_859 kw_20 kw_860 (by decide +kernel) ⟨Nat.le_of_ble_eq_true rfl, Nat.le_of_ble_eq_true rfl⟩ rfl rfl hl.1 (Nat.le_of_ble_eq_true rfl) dX0_first_159 ⟨by show (0 + kc4) + 0 ≤ 1; omega, by show (0 + ks4) + 0 ≤ 16384; omega⟩) (fun v159 u H locs hz9 hH hS => ?_)
              have hz9 : u = (T4, a0 :: O, (a0, .inr (0, [.ref n4_0_0, .int n4_0_1, .ref y2, .ref y3])) :: X) := hz9
              subst hz9
              have hH : HT D cs A T4 (a0 :: O) ((a0, .inr (0, [.ref n4_0_0, .int n4_0_1, .ref y2, .ref y3])) :: X) H := hH
              refine W.widen (k := 0 + kc4) (n := 0 + ks4) (Nat.le_refl _) (Nat.le_refl _) ?_
              refine t_ist hx hb hkb hH hS t_y3 (hO.no t_y3 (by decide)) (by omega) (by omega) (cp_0 _) dX0_first_162 (fun H locs hH hS => ?_)
              refine lv_iload hx hb dX0_first_163 (lv_at hl 5 rfl) ?_
              refine lv_iconst (v := 1) hx hb dX0_first_165 (by decide) ?_
              refine lv_iadd hx hb dX0_first_166 ?_
              refine lv_topi (fun v166 ev166 => ?_)
              have tv166 : v166.toInt = v4.toInt + (1) := by rw [ev166]; exact add_i rfl (by decide : (1 : Int32).toInt = 1) (by omega) (by omega)
              exact te_iD hx hb hr hlocks hH hS (⟨T4, le_T4, n2_4, j2_4, n4_0_0, n4_0_1, rfl, by omega, by omega, t_n4_0_0, x_v41, by omega, by omega, by omega, by omega, trivial, by omega, by omega, by omega, by omega⟩) dX0_first_167
            · skip
              have fuc76 := full_i p72_9
              have fvc76 := full_i v4
              have tc76 := g_nle c76
              refine lv_aload_n hx hb dX0_first_79 rfl (lv_at hl 6 rfl) ?_
              refine lv_iload_n hx hb dX0_first_80 rfl (lv_at hl 8 rfl) ?_
              refine lv_iload hx hb dX0_first_81 (lv_at hl 3 rfl) ?_
              refine lv_iand hx hb dX0_first_83 ?_
              refine lv_topi (fun v83 ev83 => ?_)
              have tv83 : 0 ≤ v83.toInt ∧ v83.toInt ≤ p72_6.toInt := by rw [ev83]; exact and_r (by omega)
              refine lv_iload hx hb dX0_first_84 (lv_at hl 2 rfl) ?_
              refine lv_iload hx hb dX0_first_86 (lv_at hl 3 rfl) ?_
              refine lv_iand hx hb dX0_first_88 ?_
              refine lv_topi (fun v88 ev88 => ?_)
              have tv88 : 0 ≤ v88.toInt ∧ v88.toInt ≤ v55.toInt := by rw [ev88]; exact and_l (by omega)
              have ttv88 : 0 ≤ v88.toInt ∧ v88.toInt ≤ p72_6.toInt := by rw [ev88]; exact and_r (by omega)
              refine lv_iload hx hb dX0_first_89 (lv_at hl 5 rfl) ?_
              refine lv_iload hx hb dX0_first_91 (lv_at hl 0 rfl) ?_
              refine lv_isub hx hb dX0_first_93 ?_
              refine lv_topi (fun v93 ev93 => ?_)
              have tv93 : v93.toInt = v4.toInt - p72_9.toInt := by rw [ev93]; exact sub_i rfl rfl (by omega) (by omega)
              refine tk_i hH hS hA (tr_V (n := 3) (As := [.int v83, .int v88, .int v93]) hx hb hml hown hts hkb hH (ox_map hOX rfl) hks hE hS hA (s_Ch_begunOver l D cs kf T4 O X a0 v83 v88 v93 n4_0_0 n4_0_1 y2 y3 n2_4 j2_4 gq t_a0 t_n4_0_0 (by omega) (by omega) t_y2 t_y3 x_v41 (by omega) (hO.sub (by decide))) kw_1141 kw_1143 ks_40 kw_11 kw_1144 (by decide +kernel) ⟨Nat.le_of_ble_eq_true rfl, Nat.le_of_ble_eq_true rfl⟩ (x_recv (ci := 0) hkb hH 0 rfl rfl) rfl rfl hl.1 (Nat.le_of_ble_eq_true rfl) dX0_first_94 ⟨by show (0 + kc4) + 0 ≤ 1; omega, by show (0 + ks4) + 0 ≤ 16384; omega⟩) (fun v94 u H locs hz9 hH hS => ?_)
              obtain ⟨rfl⟩ := hz9
              have hH : HT D cs A T4 (a0 :: O) ((a0, .inr (0, [.ref n4_0_0, .int n4_0_1, .ref y2, .ref y3])) :: X) H := hH
              refine W.widen (k := 0 + kc4) (n := 0 + ks4) (Nat.le_refl _) (Nat.le_refl _) ?_
              refine lv_iload hx hb dX0_first_97 (lv_at hl 1 rfl) ?_
              refine lv_iand hx hb dX0_first_99 ?_
              refine lv_topi (fun v99 ev99 => ?_)
              have tv99 : 0 ≤ v99.toInt ∧ v99.toInt ≤ p72_8.toInt := by rw [ev99]; exact and_r (by omega)
              refine lv_istore (lv' := [(10, .int v99), (9, .int p72_9), (8, .int p72_8), (7, .int v55), (6, .int p72_6), (5, .int v17), (4, .int v4), (0, .ref a0), (1, .ref a1), (2, .int x2)]) hx hb dX0_first_100 hl (by decide) rfl (fun ls hl => ?_)
              refine lv_iload hx hb dX0_first_102 (lv_at hl 0 rfl) ?_
              refine tk_i hH hS hA (tr_S (n := 1) (As := [.int v99]) hx hb hml hown hts hkb hH (ox_map hOX rfl) hks hE hS hA (s_ntz l D cs kf T4 (a0 :: O) ((a0, .inr (0, [.ref n4_0_0, .int n4_0_1, .ref y2, .ref y3])) :: X) v99  (hO.sub (by decide))) kw_1145 kw_859 kw_20 kw_860 (by decide +kernel) ⟨Nat.le_of_ble_eq_true rfl, Nat.le_of_ble_eq_true rfl⟩ rfl rfl hl.1 (Nat.le_of_ble_eq_true rfl) dX0_first_104 ⟨by show (0 + kc4) + 0 ≤ 1; omega, by show (0 + ks4) + 0 ≤ 16384; omega⟩) (fun v104 u H locs hz9 hH hS => ?_)
              have hz9 : u = (T4, a0 :: O, (a0, .inr (0, [.ref n4_0_0, .int n4_0_1, .ref y2, .ref y3])) :: X) := hz9
              subst hz9
              have hH : HT D cs A T4 (a0 :: O) ((a0, .inr (0, [.ref n4_0_0, .int n4_0_1, .ref y2, .ref y3])) :: X) H := hH
              refine W.widen (k := 0 + kc4) (n := 0 + ks4) (Nat.le_refl _) (Nat.le_refl _) ?_
              refine lv_istore (lv' := [(11, .int v104), (10, .int v99), (9, .int p72_9), (8, .int p72_8), (7, .int v55), (6, .int p72_6), (5, .int v17), (4, .int v4), (0, .ref a0), (1, .ref a1), (2, .int x2)]) hx hb dX0_first_107 hl (by decide) rfl (fun ls hl => ?_)
              refine lv_aload_n hx hb dX0_first_109 rfl (lv_at hl 8 rfl) ?_
              refine x_getk (ci := 0) (C := RX0) (F := TX0) (N := 4) (v := .ref y3) hx hb hts uX0 hown hkb hH 0 rfl rfl 3 (by decide) rfl kw_333 (fun _ h9 => h9) dX0_first_110 ?_
              refine lv_iload hx hb dX0_first_113 (lv_at hl 2 rfl) ?_
              refine lv_iload hx hb dX0_first_115 (lv_at hl 0 rfl) ?_
              refine t_ist hx hb hkb hH hS t_y3 (hO.no t_y3 (by decide)) (by omega) (by omega) (cp_0 _) dX0_first_117 (fun H locs hH hS => ?_)
              refine lv_iload hx hb dX0_first_118 (lv_at hl 5 rfl) ?_
              refine lv_iconst (v := 1) hx hb dX0_first_120 (by decide) ?_
              refine lv_iload hx hb dX0_first_121 (lv_at hl 0 rfl) ?_
              refine lv_ishl hx hb dX0_first_123 ?_
              refine lv_topi (fun v123 ev123 => ?_)
              refine lv_iconst (v := (-1)) hx hb dX0_first_124 (by decide) ?_
              refine lv_ixor hx hb dX0_first_125 ?_
              refine lv_topi (fun v125 ev125 => ?_)
              refine lv_iand hx hb dX0_first_126 ?_
              refine lv_topi (fun v126 ev126 => ?_)
              have tv126 : 0 ≤ v126.toInt ∧ v126.toInt ≤ p72_6.toInt := by rw [ev126]; exact and_l (by omega)
              refine lv_istore (lv' := [(6, .int v126), (11, .int v104), (10, .int v99), (9, .int p72_9), (8, .int p72_8), (7, .int v55), (5, .int v17), (4, .int v4), (0, .ref a0), (1, .ref a1), (2, .int x2)]) hx hb dX0_first_127 hl (by decide) rfl (fun ls hl => ?_)
              refine lv_aload_n hx hb dX0_first_129 rfl (lv_at hl 9 rfl) ?_
              refine lv_iload hx hb dX0_first_130 (lv_at hl 1 rfl) ?_
              refine lv_iload hx hb dX0_first_132 (lv_at hl 0 rfl) ?_
              refine lv_iload hx hb dX0_first_134 (lv_at hl 6 rfl) ?_
              refine lv_ior hx hb dX0_first_136 ?_
              refine lv_topi (fun v136 ev136 => ?_)
              have tv136 : 0 ≤ v136.toInt ∧ v136.toInt < 16384 := by rw [ev136]; exact or_b 14 (by decide) (by omega) (by omega) (by omega) (by omega)
              refine tk_i hH hS hA (tr_V (n := 2) (As := [.int v104, .int v136]) hx hb hml hown hts hkb hH (ox_map hOX rfl) hks hE hS hA (s_Rows_stepped l D cs kf T4 (a0 :: O) ((a0, .inr (0, [.ref n4_0_0, .int n4_0_1, .ref y2, .ref y3])) :: X) a1 v104 v136 t_a1 (hO.sub (by decide))) kw_1075 kw_863 kw_864 kw_8 kw_865 (by decide +kernel) ⟨Nat.le_of_ble_eq_true rfl, Nat.le_of_ble_eq_true rfl⟩ (HT.recv (ci := 5) hkb hH t_a1 (hO.no t_a1 (by decide)) rfl) rfl rfl hl.1 (Nat.le_of_ble_eq_true rfl) dX0_first_137 ⟨by show (0 + kc4) + 0 ≤ 1; omega, by show (0 + ks4) + 0 ≤ 16384; omega⟩) (fun v137 u H locs hz9 hH hS => ?_)
              obtain ⟨rfl, l_v137, u_v137⟩ := hz9
              have hH : HT D cs A T4 (a0 :: O) ((a0, .inr (0, [.ref n4_0_0, .int n4_0_1, .ref y2, .ref y3])) :: X) H := hH
              refine W.widen (k := 0 + kc4) (n := 0 + ks4) (Nat.le_refl _) (Nat.le_refl _) ?_
              refine lv_istore (lv' := [(8, .int v137), (6, .int v126), (11, .int v104), (10, .int v99), (9, .int p72_9), (7, .int v55), (5, .int v17), (4, .int v4), (0, .ref a0), (1, .ref a1), (2, .int x2)]) hx hb dX0_first_140 hl (by decide) rfl (fun ls hl => ?_)
              obtain ⟨v142, ev142⟩ : ∃ y : Int32, y = p72_9 + 1 := ⟨_, rfl⟩
              have tv142 : v142.toInt = p72_9.toInt + (1) := by rw [ev142]; exact add_i rfl (by decide) (by omega) (by omega)
              refine lv_iinc (v := v142) (lv' := [(9, .int v142), (8, .int v137), (6, .int v126), (11, .int v104), (10, .int v99), (7, .int v55), (5, .int v17), (4, .int v4), (0, .ref a0), (1, .ref a1), (2, .int x2)]) hx hb dX0_first_142 hl (k := 4) rfl (by rw [ev142]; rfl) (by decide) rfl (fun ls hl => ?_)
              refine lv_goto (tgt := 72) hx hb dX0_first_145 (by decide) ?_
              exact ih72 _ (by omega) v142 v137 v126 _ _ _ rfl (by omega) (by omega) (by omega) (by omega) (by omega) (by omega) hH hS (lv_sub hl [0, 1, 5, 2, 6, 7, 8, 9, 10] rfl)
        refine lv_istore (lv' := [(9, .int 0), (8, .int v66), (7, .int v55), (6, .int k48_0), (5, .int v17), (4, .int v4), (0, .ref a0), (1, .ref a1), (2, .int x2), (3, .int x3)]) hx hb dX0_first_70 hl (by decide) rfl (fun ls hl => ?_)
        exact J72 _ 0 v66 k48_0 _ _ _ rfl (by decide) (by decide) (by omega) (by omega) (by omega) (by omega) hH hS (lv_sub hl [0, 1, 2, 3, 4, 5, 6, 7, 8] rfl)
      refine lv_if_ne (tgt := 44) hx hb dX0_first_37 (by decide) (fun c37 => ?_) (fun c37 => ?_)
      · skip
        have tc37 := f_ne (k := 0) (by decide) c37
        refine lv_aload_n hx hb dX0_first_44 rfl (lv_at hl 2 rfl) ?_
        refine x_getk (ci := 0) (C := RX0) (F := TX0) (N := 4) (v := .int n4_0_1) hx hb hts uX0 hown hkb hH 0 rfl rfl 1 (by decide) rfl kw_331 (fun _ h9 => h9) dX0_first_45 ?_
        exact J48 n4_0_1 _ _ _ (by omega) (by omega) hH hS (lv_sub hl [0, 1, 2, 3, 4, 5] rfl)
      · skip
        have tc37 := f_eq (k := 0) (by decide) c37
        refine lv_iconst (v := 0) hx hb dX0_first_40 (by decide) ?_
        refine lv_goto (tgt := 48) hx hb dX0_first_41 (by decide) ?_
        exact J48 0 _ _ _ (by decide) (by decide) hH hS (lv_sub hl [0, 1, 2, 3, 4, 5] rfl)
    · skip
      have tc30 := f_nlt (k := 14) (by decide) c30
      exact J33  _ _ _  hH hS (lv_sub hl [] rfl)
