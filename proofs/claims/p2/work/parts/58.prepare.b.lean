set_option maxHeartbeats 4000000 in
set_option maxRecDepth 100000 in
theorem s_Ch_prepare (l : Launch) (D : va_G) (cs : CS) (kf : KF) (T : TF) (O : List Nat) (X : va_W) (a0 : Nat) (a1 : Nat) (x2 : Int32) (x3 : Int32) (y0 : Nat) (y1 : Int32) (y2 : Nat) (y3 : Nat) (nn j gq : Nat) (t_a0 : T a0 = some (10, gq, 0)) (t_a1 : T a1 = some (15, 0, 0)) (l_x2 : 0 ≤ x2.toInt) (u_x2 : x2.toInt ≤ 16383) (t_y0 : T y0 = some (1, nn, 0)) (l_y1 : 0 ≤ y1.toInt) (u_y1 : y1.toInt ≤ 16383) (t_y2 : T y2 = some (1, 14, 1)) (t_y3 : T y3 = some (1, 14, 0)) (hn : nn = 2 ^ j) (hj : j ≤ 14) (hO : okO T (a0 :: O) [1, 12, 15, 19]) : TKD l D cs kf yX0_prepare cX0_prepare 8 none { frames := 4, cells := 1, slots := 16384, locals := 101 } [.ref a0, .ref a1, .int x2, .int x3] T (a0 :: O) ((a0, .inr (0, [.ref y0, .int y1, .ref y2, .ref y3])) :: X) (fun kk ss => Tv D cs ((fun kk ss u => ∃ T2 : TF, Tgr T T2 ∧ ∃ (n2 : Nat) (j2 : Nat) (n0_0 : Nat) (n0_1 : Int32), u = (T2, a0 :: O, (a0, .inr (0, [.ref n0_0, .int n0_1, .ref y2, .ref y3])) :: X) ∧ (T2 n0_0 = some (1, n2, 0)) ∧ (n2 = 2 ^ j2) ∧ (j ≤ j2) ∧ (j2 ≤ 14) ∧ (0 ≤ n0_1.toInt) ∧ (n0_1.toInt ≤ 16383) ∧ (n0_1.toInt < n2) ∧ (kk + j ≤ j2) ∧ (ss + 16384 * j ≤ 16384 * j2) ∧ (kk ≤ 1) ∧ (ss ≤ 16384)) kk ss)) := by
  refine tkd_of (by decide) (Nat.le_of_ble_eq_true rfl) (fun p e s m below meth c ls A H locs hx hb hr hml hown hts hlocks hnm hkb hH hS hA hOX hks hE hl => ?_)
  have hown : s.vm.findClass RX0 = some m.cls := hown
  have hl : lv_has ls 8 [(0, .ref a0), (1, .ref a1), (2, .int x2), (3, .int x3)] := hl
  have hOXf := hOX
  have hnb := p2_le hn hj
  refine lv_aload_n hx hb dX0_prepare_0 rfl (lv_at hl 0 rfl) ?_
  refine lv_iload_n hx hb dX0_prepare_1 rfl (lv_at hl 2 rfl) ?_
  refine x_putk (ci := 0) (v := .int x2) (ty := tyX0 1) (C := RX0) (F := TX0) (N := 4) hx hb hts uX0 tyX0 tyX0_ok nmX0 hown hkb hH hS 0 rfl rfl 1 (by decide) kw_331 (fun _ h9 => h9) rfl (tyX0_ok 1 (by decide)) rfl rfl (Nat.le_of_ble_eq_true rfl) dX0_prepare_2 (fun H locs hH hS => ?_)
  have hH : HT D cs A T (a0 :: O) ((a0, .inr (0, [.ref y0, .int x2, .ref y2, .ref y3])) :: X) H := hH
  refine lv_iconst (v := 1) hx hb dX0_prepare_5 (by decide) ?_
  refine lv_iconst (v := 2) hx hb dX0_prepare_6 (by decide) ?_
  refine lv_aload_n hx hb dX0_prepare_7 rfl (lv_at hl 0 rfl) ?_
  refine x_getk (ci := 0) (C := RX0) (F := TX0) (N := 4) (v := .int x2) hx hb hts uX0 hown hkb hH 0 rfl rfl 1 (by decide) rfl kw_331 (fun _ h9 => h9) dX0_prepare_8 ?_
  refine tk_i hH hS hA (tr_S (n := 1) (As := [.int x2]) hx hb hml hown hts hkb hH (ox_map hOX rfl) hks hE hS hA (s_hob l D cs kf T (a0 :: O) ((a0, .inr (0, [.ref y0, .int x2, .ref y2, .ref y3])) :: X) x2 (by omega) (by omega) (hO.sub (by decide))) kw_1080 kw_1081 kw_20 kw_1082 (by decide +kernel) ⟨Nat.le_of_ble_eq_true rfl, Nat.le_of_ble_eq_true rfl⟩ rfl rfl hl.1 (Nat.le_of_ble_eq_true rfl) dX0_prepare_11 ⟨by show 0 + 0 ≤ 1; omega, by show 0 + 0 ≤ 16384; omega⟩) (fun v11 u H locs hz9 hH hS => ?_)
  obtain ⟨rfl, l_v11, u_v11, x_v110, x_v111, x_v112⟩ := hz9
  have hH : HT D cs A T (a0 :: O) ((a0, .inr (0, [.ref y0, .int x2, .ref y2, .ref y3])) :: X) H := hH
  refine W.widen (k := 0) (n := 0) (Nat.le_refl _) (Nat.le_refl _) ?_
  refine lv_imul hx hb dX0_prepare_14 ?_
  refine lv_topi (fun v14 ev14 => ?_)
  have tv14 : v14.toInt = (2) * v11.toInt := by rw [ev14]; exact mul_i (by decide : (2 : Int32).toInt = 2) rfl (by omega) (by omega)
  refine va_mmax hx hb (by rw [hml]; exact hl.1.symm) hown (hts _ kw_1087) (hts _ kw_100) (hts _ kw_6) (hts _ kw_101) (Nat.le_of_ble_eq_true rfl) (Nat.le_of_ble_eq_true rfl) (Nat.le_of_ble_eq_true rfl) (Nat.le_of_ble_eq_true rfl) dX0_prepare_15 ?_
  refine lv_topi (fun v15 ev15 => ?_)
  have tv15 : v15.toInt = max (1) v14.toInt := by rw [ev15]; exact max_i (by decide : (1 : Int32).toInt = 1) rfl
  refine lv_istore (lv' := [(4, .int v15), (0, .ref a0), (1, .ref a1), (2, .int x2), (3, .int x3)]) hx hb dX0_prepare_18 hl (by decide) rfl (fun ls hl => ?_)
  refine lv_aload_n hx hb dX0_prepare_20 rfl (lv_at hl 1 rfl) ?_
  refine x_getk (ci := 0) (C := RX0) (F := TX0) (N := 4) (v := .ref y0) hx hb hts uX0 hown hkb hH 0 rfl rfl 0 (by decide) rfl kw_330 (fun _ h9 => h9) dX0_prepare_21 ?_
  refine t_len1 hx hb hkb hH t_y0 (hO.no t_y0 (by decide)) dX0_prepare_24 ?_
  have e_nn : (nI nn).toInt = nn := nI_toInt (by omega)
  refine lv_iload hx hb dX0_prepare_25 (lv_at hl 0 rfl) ?_
  have J38 : ∀ (T38q : TF) (kc38 ks38 : Nat) (f38_100 : Nat) (nf38_100 jf38_100 : Nat) (H : Heap) (locs : List Loc) (ls : Array Slot), Tgr T T38q → (T38q f38_100 = some (1, nf38_100, 0)) → (nf38_100 = 2 ^ jf38_100) → (jf38_100 ≤ 14) → (kc38 + j ≤ jf38_100) → (ks38 + 16384 * j ≤ 16384 * jf38_100) → (x2.toInt < nf38_100) → (kc38 ≤ 1 ∧ ks38 ≤ 16384) → HT D cs A T38q (a0 :: O) ((a0, .inr (0, [.ref f38_100, .int x2, .ref y2, .ref y3])) :: X) H → va_S A s.heap H locs → lv_has ls 8 [(0, .ref a0), (1, .ref a1), (3, .int x3)] → W p l e { frames := 4, cells := 1, slots := 16384, locals := 101 } s m [.ref a0, .ref a1, .int x2, .int x3].toArray below meth c H locs kc38 ks38 (MQD below (fun kk ss => Tv D cs ((fun kk ss u => ∃ T2 : TF, Tgr T T2 ∧ ∃ (n2 : Nat) (j2 : Nat) (n0_0 : Nat) (n0_1 : Int32), u = (T2, a0 :: O, (a0, .inr (0, [.ref n0_0, .int n0_1, .ref y2, .ref y3])) :: X) ∧ (T2 n0_0 = some (1, n2, 0)) ∧ (n2 = 2 ^ j2) ∧ (j ≤ j2) ∧ (j2 ≤ 14) ∧ (0 ≤ n0_1.toInt) ∧ (n0_1.toInt ≤ 16383) ∧ (n0_1.toInt < n2) ∧ (kk + j ≤ j2) ∧ (ss + 16384 * j ≤ 16384 * j2) ∧ (kk ≤ 1) ∧ (ss ≤ 16384)) kk ss) A) [.ref a0, .ref a1, .int x2, .int x3].toArray s A) (F0 m 38 ls []) := by
    intro T38q kc38 ks38 f38_100 nf38_100 jf38_100 H locs ls le_T38q t_f38_100 q_f38_100 qj_f38_100 i38a i38b i38c i38d hH hS hl
    have t_a0 := le_T38q.1 _ _ t_a0
    have t_a1 := le_T38q.1 _ _ t_a1
    have t_y0 := le_T38q.1 _ _ t_y0
    have t_y2 := le_T38q.1 _ _ t_y2
    have t_y3 := le_T38q.1 _ _ t_y3
    have hO := okO.le le_T38q.1 hO
    have qb_f38_100 := p2_le q_f38_100 qj_f38_100
    refine lv_iconst (v := 1) hx hb dX0_prepare_38 (by decide) ?_
    refine lv_aload_n hx hb dX0_prepare_39 rfl (lv_at hl 0 rfl) ?_
    refine x_getk (ci := 0) (C := RX0) (F := TX0) (N := 4) (v := .int x2) hx hb hts uX0 hown hkb hH 0 rfl rfl 1 (by decide) rfl kw_331 (fun _ h9 => h9) dX0_prepare_40 ?_
    refine tk_i hH hS hA (tr_S (n := 1) (As := [.int x2]) hx hb hml hown hts hkb hH (ox_map hOX rfl) hks hE hS hA (s_bitCount l D cs kf T38q (a0 :: O) ((a0, .inr (0, [.ref f38_100, .int x2, .ref y2, .ref y3])) :: X) x2  (hO.sub (by decide))) kw_1088 kw_692 kw_20 kw_693 (by decide +kernel) ⟨Nat.le_of_ble_eq_true rfl, Nat.le_of_ble_eq_true rfl⟩ rfl rfl hl.1 (Nat.le_of_ble_eq_true rfl) dX0_prepare_43 ⟨by show kc38 + 0 ≤ 1; omega, by show ks38 + 0 ≤ 16384; omega⟩) (fun v43 u H locs hz9 hH hS => ?_)
    obtain ⟨rfl, l_v43, u_v43⟩ := hz9
    have hH : HT D cs A T38q (a0 :: O) ((a0, .inr (0, [.ref f38_100, .int x2, .ref y2, .ref y3])) :: X) H := hH
    refine W.widen (k := kc38) (n := ks38) (Nat.le_refl _) (Nat.le_refl _) ?_
    refine lv_ishl hx hb dX0_prepare_46 ?_
    refine lv_topi (fun v46 ev46 => ?_)
    refine lv_istore (lv' := [(5, .int v46), (0, .ref a0), (1, .ref a1), (3, .int x3)]) hx hb dX0_prepare_47 hl (by decide) rfl (fun ls hl => ?_)
    refine lv_iconst (v := 0) hx hb dX0_prepare_49 (by decide) ?_
    refine lv_istore (lv' := [(6, .int 0), (5, .int v46), (0, .ref a0), (1, .ref a1), (3, .int x3)]) hx hb dX0_prepare_50 hl (by decide) rfl (fun ls hl => ?_)
    refine lv_iconst (v := 0) hx hb dX0_prepare_52 (by decide) ?_
    have J55 : ∀ (n : Nat) (p55_7 : Int32) (p55_6 : Int32) (H : Heap) (locs : List Loc) (ls : Array Slot), (2147483647 - p55_7.toInt).toNat = n → (0 ≤ p55_7.toInt) → (0 ≤ p55_6.toInt) → (p55_6.toInt ≤ 16383) → (p55_6.toInt ≤ x2.toInt) → HT D cs A T38q (a0 :: O) ((a0, .inr (0, [.ref f38_100, .int x2, .ref y2, .ref y3])) :: X) H → va_S A s.heap H locs → lv_has ls 8 [(7, .int p55_7), (6, .int p55_6), (5, .int v46), (0, .ref a0), (1, .ref a1), (3, .int x3)] → W p l e { frames := 4, cells := 1, slots := 16384, locals := 101 } s m [.ref a0, .ref a1, .int x2, .int x3].toArray below meth c H locs kc38 ks38 (MQD below (fun kk ss => Tv D cs ((fun kk ss u => ∃ T2 : TF, Tgr T T2 ∧ ∃ (n2 : Nat) (j2 : Nat) (n0_0 : Nat) (n0_1 : Int32), u = (T2, a0 :: O, (a0, .inr (0, [.ref n0_0, .int n0_1, .ref y2, .ref y3])) :: X) ∧ (T2 n0_0 = some (1, n2, 0)) ∧ (n2 = 2 ^ j2) ∧ (j ≤ j2) ∧ (j2 ≤ 14) ∧ (0 ≤ n0_1.toInt) ∧ (n0_1.toInt ≤ 16383) ∧ (n0_1.toInt < n2) ∧ (kk + j ≤ j2) ∧ (ss + 16384 * j ≤ 16384 * j2) ∧ (kk ≤ 1) ∧ (ss ≤ 16384)) kk ss) A) [.ref a0, .ref a1, .int x2, .int x3].toArray s A) (F0 m 55 ls []) := by
      intro n
      induction n using Nat.strongRecOn with
      | _ n ih55 =>
        intro p55_7 p55_6 H locs ls hm55 l_p55_7 l_p55_6 u_p55_6 i55 hH hS hl
        refine lv_iload hx hb dX0_prepare_55 (lv_at hl 0 rfl) ?_
        refine lv_iload hx hb dX0_prepare_57 (lv_at hl 2 rfl) ?_
        refine lv_icmp_ge (tgt := 90) hx hb dX0_prepare_59 (by decide) (fun c59 => ?_) (fun c59 => ?_)
        · skip
          have fuc59 := full_i p55_7
          have fvc59 := full_i v46
          have tc59 := g_le c59
          refine lv_iconst (v := 0) hx hb dX0_prepare_90 (by decide) ?_
          have J93 : ∀ (n : Nat) (p93_7 : Int32) (H : Heap) (locs : List Loc) (ls : Array Slot), (14 - p93_7.toInt).toNat = n → (0 ≤ p93_7.toInt) → (p93_7.toInt ≤ 14) → HT D cs A T38q (a0 :: O) ((a0, .inr (0, [.ref f38_100, .int x2, .ref y2, .ref y3])) :: X) H → va_S A s.heap H locs → lv_has ls 8 [(7, .int p93_7), (0, .ref a0), (1, .ref a1), (3, .int x3)] → W p l e { frames := 4, cells := 1, slots := 16384, locals := 101 } s m [.ref a0, .ref a1, .int x2, .int x3].toArray below meth c H locs kc38 ks38 (MQD below (fun kk ss => Tv D cs ((fun kk ss u => ∃ T2 : TF, Tgr T T2 ∧ ∃ (n2 : Nat) (j2 : Nat) (n0_0 : Nat) (n0_1 : Int32), u = (T2, a0 :: O, (a0, .inr (0, [.ref n0_0, .int n0_1, .ref y2, .ref y3])) :: X) ∧ (T2 n0_0 = some (1, n2, 0)) ∧ (n2 = 2 ^ j2) ∧ (j ≤ j2) ∧ (j2 ≤ 14) ∧ (0 ≤ n0_1.toInt) ∧ (n0_1.toInt ≤ 16383) ∧ (n0_1.toInt < n2) ∧ (kk + j ≤ j2) ∧ (ss + 16384 * j ≤ 16384 * j2) ∧ (kk ≤ 1) ∧ (ss ≤ 16384)) kk ss) A) [.ref a0, .ref a1, .int x2, .int x3].toArray s A) (F0 m 93 ls []) := by
            intro n
            induction n using Nat.strongRecOn with
            | _ n ih93 =>
              intro p93_7 H locs ls hm93 l_p93_7 u_p93_7 hH hS hl
              refine lv_iload hx hb dX0_prepare_93 (lv_at hl 0 rfl) ?_
              refine lv_bipush (v := 14) hx hb dX0_prepare_95 (by decide) ?_
              refine lv_icmp_ge (tgt := 162) hx hb dX0_prepare_97 (by decide) (fun c97 => ?_) (fun c97 => ?_)
              · skip
                have tc97 := f_ge (k := 14) (by decide) c97
                exact te_vD hx hb hr hlocks hH hS (⟨T38q, le_T38q, nf38_100, jf38_100, f38_100, x2, rfl, t_f38_100, q_f38_100, by omega, by omega, by omega, by omega, by omega, by omega, by omega, by omega, by omega⟩) dX0_prepare_162
              · skip
                have tc97 := f_nge (k := 14) (by decide) c97
                refine lv_aload_n hx hb dX0_prepare_100 rfl (lv_at hl 1 rfl) ?_
                refine x_getk (ci := 0) (C := RX0) (F := TX0) (N := 4) (v := .int x2) hx hb hts uX0 hown hkb hH 0 rfl rfl 1 (by decide) rfl kw_331 (fun _ h9 => h9) dX0_prepare_101 ?_
                refine lv_iload hx hb dX0_prepare_104 (lv_at hl 0 rfl) ?_
                refine lv_ishr hx hb dX0_prepare_106 ?_
                refine lv_topi (fun v106 ev106 => ?_)
                have tv106 : 0 ≤ v106.toInt ∧ v106.toInt ≤ x2.toInt := by rw [ev106]; exact shr_b (by omega)
                refine lv_iconst (v := 1) hx hb dX0_prepare_107 (by decide) ?_
                refine lv_iand hx hb dX0_prepare_108 ?_
                refine lv_topi (fun v108 ev108 => ?_)
                have tv108 : 0 ≤ v108.toInt ∧ v108.toInt ≤ 1 := by rw [ev108]; exact and_r (by decide)
                have J156 : ∀  (H : Heap) (locs : List Loc) (ls : Array Slot), HT D cs A T38q (a0 :: O) ((a0, .inr (0, [.ref f38_100, .int x2, .ref y2, .ref y3])) :: X) H → va_S A s.heap H locs → lv_has ls 8 [(7, .int p93_7), (0, .ref a0), (1, .ref a1), (3, .int x3)] → W p l e { frames := 4, cells := 1, slots := 16384, locals := 101 } s m [.ref a0, .ref a1, .int x2, .int x3].toArray below meth c H locs kc38 ks38 (MQD below (fun kk ss => Tv D cs ((fun kk ss u => ∃ T2 : TF, Tgr T T2 ∧ ∃ (n2 : Nat) (j2 : Nat) (n0_0 : Nat) (n0_1 : Int32), u = (T2, a0 :: O, (a0, .inr (0, [.ref n0_0, .int n0_1, .ref y2, .ref y3])) :: X) ∧ (T2 n0_0 = some (1, n2, 0)) ∧ (n2 = 2 ^ j2) ∧ (j ≤ j2) ∧ (j2 ≤ 14) ∧ (0 ≤ n0_1.toInt) ∧ (n0_1.toInt ≤ 16383) ∧ (n0_1.toInt < n2) ∧ (kk + j ≤ j2) ∧ (ss + 16384 * j ≤ 16384 * j2) ∧ (kk ≤ 1) ∧ (ss ≤ 16384)) kk ss) A) [.ref a0, .ref a1, .int x2, .int x3].toArray s A) (F0 m 156 ls []) := by
                  intro  H locs ls  hH hS hl
                  obtain ⟨v156, ev156⟩ : ∃ y : Int32, y = p93_7 + 1 := ⟨_, rfl⟩
                  have tv156 : v156.toInt = p93_7.toInt + (1) := by rw [ev156]; exact add_i rfl (by decide) (by omega) (by omega)
                  refine lv_iinc (v := v156) (lv' := [(7, .int v156), (0, .ref a0), (1, .ref a1), (3, .int x3)]) hx hb dX0_prepare_156 hl (k := 0) rfl (by rw [ev156]; rfl) (by decide) rfl (fun ls hl => ?_)
                  refine lv_goto (tgt := 93) hx hb dX0_prepare_159 (by decide) ?_
                  exact ih93 _ (by omega) v156 _ _ _ rfl (by omega) (by omega) hH hS (lv_sub hl [0, 1, 2, 3] rfl)
                refine lv_if_eq (tgt := 156) hx hb dX0_prepare_109 (by decide) (fun c109 => ?_) (fun c109 => ?_)
                · skip
                  have tc109 := f_eq (k := 0) (by decide) c109
                  exact J156  _ _ _  hH hS (lv_sub hl [0, 1, 2, 3] rfl)
                · skip
                  have tc109 := f_ne (k := 0) (by decide) c109
                  refine lv_aload_n hx hb dX0_prepare_112 rfl (lv_at hl 1 rfl) ?_
                  refine x_getk (ci := 0) (C := RX0) (F := TX0) (N := 4) (v := .ref y2) hx hb hts uX0 hown hkb hH 0 rfl rfl 2 (by decide) rfl kw_332 (fun _ h9 => h9) dX0_prepare_113 ?_
                  refine lv_iload hx hb dX0_prepare_116 (lv_at hl 0 rfl) ?_
                  refine lv_aload_n hx hb dX0_prepare_118 rfl (lv_at hl 2 rfl) ?_
                  refine lv_iload hx hb dX0_prepare_119 (lv_at hl 0 rfl) ?_
                  refine lv_aload_n hx hb dX0_prepare_121 rfl (lv_at hl 1 rfl) ?_
                  refine x_getk (ci := 0) (C := RX0) (F := TX0) (N := 4) (v := .int x2) hx hb hts uX0 hown hkb hH 0 rfl rfl 1 (by decide) rfl kw_331 (fun _ h9 => h9) dX0_prepare_122 ?_
                  refine tk_i hH hS hA (tr_V (n := 2) (As := [.int p93_7, .int x2]) hx hb hml hown hts hkb hH (ox_map hOX rfl) hks hE hS hA (s_Rows_stepped l D cs kf T38q (a0 :: O) ((a0, .inr (0, [.ref f38_100, .int x2, .ref y2, .ref y3])) :: X) a1 p93_7 x2 t_a1 (hO.sub (by decide))) kw_1075 kw_863 kw_864 kw_8 kw_865 (by decide +kernel) ⟨Nat.le_of_ble_eq_true rfl, Nat.le_of_ble_eq_true rfl⟩ (HT.recv (ci := 5) hkb hH t_a1 (hO.no t_a1 (by decide)) rfl) rfl rfl hl.1 (Nat.le_of_ble_eq_true rfl) dX0_prepare_125 ⟨by show kc38 + 0 ≤ 1; omega, by show ks38 + 0 ≤ 16384; omega⟩) (fun v125 u H locs hz9 hH hS => ?_)
                  obtain ⟨rfl, l_v125, u_v125⟩ := hz9
                  have hH : HT D cs A T38q (a0 :: O) ((a0, .inr (0, [.ref f38_100, .int x2, .ref y2, .ref y3])) :: X) H := hH
                  refine W.widen (k := kc38) (n := ks38) (Nat.le_refl _) (Nat.le_refl _) ?_
                  refine t_ist hx hb hkb hH hS t_y2 (hO.no t_y2 (by decide)) (by omega) (by omega) (show 0 ≤ v125.toInt ∧ v125.toInt ≤ 16383 from by omega) dX0_prepare_128 (fun H locs hH hS => ?_)
                  have hb9 := bit_le (by omega) (by omega) (by omega) ev106 ev108 (by omega)
                  refine lv_aload_n hx hb dX0_prepare_129 rfl (lv_at hl 1 rfl) ?_
                  refine x_getk (ci := 0) (C := RX0) (F := TX0) (N := 4) (v := .ref f38_100) hx hb hts uX0 hown hkb hH 0 rfl rfl 0 (by decide) rfl kw_330 (fun _ h9 => h9) dX0_prepare_130 ?_
                  refine lv_iconst (v := 1) hx hb dX0_prepare_133 (by decide) ?_
                  refine lv_iload hx hb dX0_prepare_134 (lv_at hl 0 rfl) ?_
                  refine lv_ishl hx hb dX0_prepare_136 ?_
                  refine lv_topi (fun v136 ev136 => ?_)
                  have tv136 : 1 ≤ v136.toInt ∧ v136.toInt ≤ 8192 := by rw [ev136]; exact shl_b 13 (by decide) (by omega) (by omega)
                  rw [← ev136] at hb9
                  refine lv_aload_n hx hb dX0_prepare_137 rfl (lv_at hl 2 rfl) ?_
                  refine lv_iload hx hb dX0_prepare_138 (lv_at hl 0 rfl) ?_
                  refine lv_iload_n hx hb dX0_prepare_140 rfl (lv_at hl 3 rfl) ?_
                  refine tk_i hH hS hA (tr_V (n := 2) (As := [.int p93_7, .int x3]) hx hb hml hown hts hkb hH (ox_map hOX rfl) hks hE hS hA (s_Rows_stepped l D cs kf T38q (a0 :: O) ((a0, .inr (0, [.ref f38_100, .int x2, .ref y2, .ref y3])) :: X) a1 p93_7 x3 t_a1 (hO.sub (by decide))) kw_1075 kw_863 kw_864 kw_8 kw_865 (by decide +kernel) ⟨Nat.le_of_ble_eq_true rfl, Nat.le_of_ble_eq_true rfl⟩ (HT.recv (ci := 5) hkb hH t_a1 (hO.no t_a1 (by decide)) rfl) rfl rfl hl.1 (Nat.le_of_ble_eq_true rfl) dX0_prepare_141 ⟨by show kc38 + 0 ≤ 1; omega, by show ks38 + 0 ≤ 16384; omega⟩) (fun v141 u H locs hz9 hH hS => ?_)
                  obtain ⟨rfl, l_v141, u_v141⟩ := hz9
                  have hH : HT D cs A T38q (a0 :: O) ((a0, .inr (0, [.ref f38_100, .int x2, .ref y2, .ref y3])) :: X) H := hH
                  refine W.widen (k := kc38) (n := ks38) (Nat.le_refl _) (Nat.le_refl _) ?_
                  have J155 : ∀ (k155_0 : Int32) (H : Heap) (locs : List Loc) (ls : Array Slot), (0 ≤ k155_0.toInt) → (k155_0.toInt ≤ 8192) → HT D cs A T38q (a0 :: O) ((a0, .inr (0, [.ref f38_100, .int x2, .ref y2, .ref y3])) :: X) H → va_S A s.heap H locs → lv_has ls 8 [(7, .int p93_7), (0, .ref a0), (1, .ref a1), (3, .int x3)] → W p l e { frames := 4, cells := 1, slots := 16384, locals := 101 } s m [.ref a0, .ref a1, .int x2, .int x3].toArray below meth c H locs kc38 ks38 (MQD below (fun kk ss => Tv D cs ((fun kk ss u => ∃ T2 : TF, Tgr T T2 ∧ ∃ (n2 : Nat) (j2 : Nat) (n0_0 : Nat) (n0_1 : Int32), u = (T2, a0 :: O, (a0, .inr (0, [.ref n0_0, .int n0_1, .ref y2, .ref y3])) :: X) ∧ (T2 n0_0 = some (1, n2, 0)) ∧ (n2 = 2 ^ j2) ∧ (j ≤ j2) ∧ (j2 ≤ 14) ∧ (0 ≤ n0_1.toInt) ∧ (n0_1.toInt ≤ 16383) ∧ (n0_1.toInt < n2) ∧ (kk + j ≤ j2) ∧ (ss + 16384 * j ≤ 16384 * j2) ∧ (kk ≤ 1) ∧ (ss ≤ 16384)) kk ss) A) [.ref a0, .ref a1, .int x2, .int x3].toArray s A) (F0 m 155 ls [.int k155_0, .int v136, .ref f38_100]) := by
                    intro k155_0 H locs ls l_k155_0 u_k155_0 hH hS hl
                    refine t_ist hx hb hkb hH hS t_f38_100 (hO.no t_f38_100 (by decide)) (by omega) (by omega) (cp_0 _) dX0_prepare_155 (fun H locs hH hS => ?_)
                    exact J156  _ _ _  hH hS (lv_sub hl [0, 1, 2, 3] rfl)
                  refine lv_if_eq (tgt := 154) hx hb dX0_prepare_144 (by decide) (fun c144 => ?_) (fun c144 => ?_)
                  · skip
                    have tc144 := f_eq (k := 0) (by decide) c144
                    refine lv_iconst (v := 0) hx hb dX0_prepare_154 (by decide) ?_
                    exact J155 0 _ _ _ (by decide) (by decide) hH hS (lv_sub hl [0, 1, 2, 3] rfl)
                  · skip
                    have tc144 := f_ne (k := 0) (by decide) c144
                    refine lv_iconst (v := 1) hx hb dX0_prepare_147 (by decide) ?_
                    refine lv_iload hx hb dX0_prepare_148 (lv_at hl 0 rfl) ?_
                    refine lv_ishl hx hb dX0_prepare_150 ?_
                    refine lv_topi (fun v150 ev150 => ?_)
                    have tv150 : 1 ≤ v150.toInt ∧ v150.toInt ≤ 8192 := by rw [ev150]; exact shl_b 13 (by decide) (by omega) (by omega)
                    refine lv_goto (tgt := 155) hx hb dX0_prepare_151 (by decide) ?_
                    exact J155 v150 _ _ _ (by omega) (by omega) hH hS (lv_sub hl [0, 1, 2, 3] rfl)
          refine lv_istore (lv' := [(7, .int 0), (6, .int p55_6), (5, .int v46), (0, .ref a0), (1, .ref a1), (3, .int x3)]) hx hb dX0_prepare_91 hl (by decide) rfl (fun ls hl => ?_)
          exact J93 _ 0 _ _ _ rfl (by decide) (by decide) hH hS (lv_sub hl [0, 3, 4, 5] rfl)
        · skip
          have fuc59 := full_i p55_7
          have fvc59 := full_i v46
          have tc59 := g_nle c59
          refine lv_aload_n hx hb dX0_prepare_62 rfl (lv_at hl 3 rfl) ?_
          refine x_getk (ci := 0) (C := RX0) (F := TX0) (N := 4) (v := .ref f38_100) hx hb hts uX0 hown hkb hH 0 rfl rfl 0 (by decide) rfl kw_330 (fun _ h9 => h9) dX0_prepare_63 ?_
          refine lv_iload hx hb dX0_prepare_66 (lv_at hl 1 rfl) ?_
          refine lv_iconst (v := 0) hx hb dX0_prepare_68 (by decide) ?_
          refine t_ist hx hb hkb hH hS t_f38_100 (hO.no t_f38_100 (by decide)) (by omega) (by omega) (cp_0 _) dX0_prepare_69 (fun H locs hH hS => ?_)
          refine lv_iload hx hb dX0_prepare_70 (lv_at hl 1 rfl) ?_
          refine lv_aload_n hx hb dX0_prepare_72 rfl (lv_at hl 3 rfl) ?_
          refine x_getk (ci := 0) (C := RX0) (F := TX0) (N := 4) (v := .int x2) hx hb hts uX0 hown hkb hH 0 rfl rfl 1 (by decide) rfl kw_331 (fun _ h9 => h9) dX0_prepare_73 ?_
          refine lv_isub hx hb dX0_prepare_76 ?_
          refine lv_topi (fun v76 ev76 => ?_)
          have tv76 : v76.toInt = p55_6.toInt - x2.toInt := by rw [ev76]; exact sub_i rfl rfl (by omega) (by omega)
          refine lv_aload_n hx hb dX0_prepare_77 rfl (lv_at hl 3 rfl) ?_
          refine x_getk (ci := 0) (C := RX0) (F := TX0) (N := 4) (v := .int x2) hx hb hts uX0 hown hkb hH 0 rfl rfl 1 (by decide) rfl kw_331 (fun _ h9 => h9) dX0_prepare_78 ?_
          refine lv_iand hx hb dX0_prepare_81 ?_
          refine lv_topi (fun v81 ev81 => ?_)
          have tv81 : 0 ≤ v81.toInt ∧ v81.toInt ≤ x2.toInt := by rw [ev81]; exact and_r (by omega)
          refine lv_istore (lv' := [(6, .int v81), (7, .int p55_7), (5, .int v46), (0, .ref a0), (1, .ref a1), (3, .int x3)]) hx hb dX0_prepare_82 hl (by decide) rfl (fun ls hl => ?_)
          obtain ⟨v84, ev84⟩ : ∃ y : Int32, y = p55_7 + 1 := ⟨_, rfl⟩
          have tv84 : v84.toInt = p55_7.toInt + (1) := by rw [ev84]; exact add_i rfl (by decide) (by omega) (by omega)
          refine lv_iinc (v := v84) (lv' := [(7, .int v84), (6, .int v81), (5, .int v46), (0, .ref a0), (1, .ref a1), (3, .int x3)]) hx hb dX0_prepare_84 hl (k := 1) rfl (by rw [ev84]; rfl) (by decide) rfl (fun ls hl => ?_)
          refine lv_goto (tgt := 55) hx hb dX0_prepare_87 (by decide) ?_
          exact ih55 _ (by omega) v84 v81 _ _ _ rfl (by omega) (by omega) (by omega) (by omega) hH hS (lv_sub hl [0, 1, 2, 3, 4, 5] rfl)
    refine lv_istore (lv' := [(7, .int 0), (6, .int 0), (5, .int v46), (0, .ref a0), (1, .ref a1), (3, .int x3)]) hx hb dX0_prepare_53 hl (by decide) rfl (fun ls hl => ?_)
    have z_0 : (0 : Int32).toInt = 0 := by decide
    exact J55 _ 0 0 _ _ _ rfl (by decide) (by decide) (by decide) (by omega) hH hS (lv_sub hl [0, 1, 2, 3, 4, 5] rfl)
  refine lv_icmp_ge (tgt := 38) hx hb dX0_prepare_27 (by decide) (fun c27 => ?_) (fun c27 => ?_)
  · skip
    have fuc27 := full_i (nI nn)
    have fvc27 := full_i v15
    have tc27 := g_le c27
    exact J38 T 0 0 y0 nn j _ _ _ Tgr.rf t_y0 hn (by omega) (by omega) (by omega) (by omega) (by omega) hH hS (lv_sub hl [1, 2, 4] rfl)
  · skip
    have fuc27 := full_i (nI nn)
    have fvc27 := full_i v15
    have tc27 := g_nle c27
    obtain ⟨jz, hz1, hz2⟩ := hob_size x_v112 tv14 tv15
    have hzl := p2_lt hn hz2 (by omega)
    refine lv_aload_n hx hb dX0_prepare_30 rfl (lv_at hl 1 rfl) ?_
    refine lv_iload hx hb dX0_prepare_31 (lv_at hl 0 rfl) ?_
    refine t_newI (N' := (v15.toInt.toNat)) (k := 0) hx hb hts kw_92 hkb hH (ox_map hOX rfl) hS hA (by omega) (by omega) (cp_0 _) (by show 0 + 1 ≤ 1; omega) (by show 0 + (v15.toInt.toNat) ≤ 16384; omega) dX0_prepare_33 (fun v33 T33 H le_T33 t_v33 hH hS => ?_)
    have t_a0 := le_T33.1 _ _ t_a0
    have t_a1 := le_T33.1 _ _ t_a1
    have t_y0 := le_T33.1 _ _ t_y0
    have t_y2 := le_T33.1 _ _ t_y2
    have t_y3 := le_T33.1 _ _ t_y3
    have hO := okO.le le_T33.1 hO
    refine x_putk (ci := 0) (v := .ref v33) (ty := tyX0 0) (C := RX0) (F := TX0) (N := 4) hx hb hts uX0 tyX0 tyX0_ok nmX0 hown hkb hH hS 0 rfl rfl 0 (by decide) kw_330 (fun _ h9 => h9) rfl (tyX0_ok 0 (by decide)) rfl rfl (Nat.le_of_ble_eq_true rfl) dX0_prepare_35 (fun H locs hH hS => ?_)
    have hH : HT D cs A T33 (a0 :: O) ((a0, .inr (0, [.ref v33, .int x2, .ref y2, .ref y3])) :: X) H := hH
    exact J38 T33 (0 + 1) (0 + (v15.toInt.toNat)) v33 (v15.toInt.toNat) jz _ _ _ le_T33 t_v33 hz2 (by omega) (by omega) (by omega) (by omega) (by omega) hH hS (lv_sub hl [1, 2, 4] rfl)
