set_option maxHeartbeats 4000000 in
set_option maxRecDepth 100000 in
theorem s_LR_readAtom0 (l : Launch) (D : va_G) (cs : CS) (kf : KF) (T : TF) (O : List Nat) (X : va_W) (a0 : Nat) (x1 : Int32) (y0 : Nat) (y1 : Int32) (y2 : Int32) (y3 : Int32) (y4 : Int32) (y5 : Int32) (y6 : Int32) (y7 : Int32) (ft : Nat → Int32) (t : Tp) (tn : Nat) (tk : Nat) (t_a0 : T a0 = some (13, 0, 0)) (l_x1 : 0 ≤ x1.toInt) (u_x1 : x1.toInt ≤ 0) (t_y0 : T y0 = some (0, 900, 0)) (l_y1 : 0 ≤ y1.toInt) (u_y1 : y1.toInt ≤ 900) (l_y2 : 0 ≤ y2.toInt) (u_y2 : y2.toInt ≤ 900) (l_y3 : 0 ≤ y3.toInt) (u_y3 : y3.toInt ≤ 900) (hn : y1.toInt = (tn : Int)) (htb : TB ft t) (hto : TSS t tn y2 y3 y4 y5) (t_tk : T tk = some (17, 0, 0)) (hU7 : ∀ (b : Nat) (q : Nat), T b = some (17, 0, q) → b = tk) (hz : y6.toInt = 0) (hO : okO T (tk :: y0 :: O) [1, 13]) : TK l D cs kf yX3_readAtom cX3_readAtom 3 (some (.boolean)) { frames := 24, cells := 0, slots := 0, locals := 541 } [.ref a0, .int x1] T (tk :: y0 :: O) ((tk, .inr (7, [.ref y0, .int y1, .int y2, .int y3, .int y4, .int y5, .int y6, .int y7])) :: (y0, .inl (cs.1, 900, .inl ft)) :: X) (Ti D cs (fun r u => ∃ (n0_2 : Int32) (n0_3 : Int32) (n0_4 : Int32) (n0_5 : Int32) (n0_6 : Int32) (n0_7 : Int32), u = (T, tk :: y0 :: O, (tk, .inr (7, [.ref y0, .int y1, .int n0_2, .int n0_3, .int n0_4, .int n0_5, .int n0_6, .int n0_7])) :: (y0, .inl (cs.1, 900, .inl ft)) :: X) ∧ 0 ≤ r.toInt ∧ r.toInt ≤ 1 ∧ (r.toInt = 0 ∨ (TSS t tn n0_2 n0_3 n0_4 n0_5 ∧ n0_6.toInt = 0 ∧ n0_7.toInt = y7.toInt ∧ GL t tn [(0, 0)] [] y2 n0_2)) ∧ (r.toInt ≠ 0 ∨ BL t tn [(0, 0)] y2 n0_6 n0_7) ∧ (y2.toInt ≤ n0_2.toInt ∧ n0_2.toInt ≤ n0_3.toInt ∧ n0_3.toInt ≤ y1.toInt))) := by
  refine tk_of (by decide) (Nat.le_of_ble_eq_true rfl) (fun p e s m below meth c ls A H locs hx hb hr hml hown hts hlocks hnm hkb hH hS hA hOX hks hE hl => ?_)
  have hown : s.vm.findClass RX3 = some m.cls := hown
  have hl : lv_has ls 3 [(0, .ref a0), (1, .int x1)] := hl
  have hOXf := hOX
  have hb9 := hto.b
  have hc9 := hto.cs
  refine lv_aload_n hx hb dX3_readAtom_0 rfl (lv_at hl 0 rfl) ?_
  refine t_get (ci := 3) (lst := ft3 0 0) (C := RX3) (F := TX3) (N := 3) hx hb hts uX3 hown hkb hH t_a0 (hO.no t_a0 (by decide)) (fun _ h9 => h9) rfl rfl 0 (by decide) rfl kw_82 (fun _ h9 => h9) dX3_readAtom_1 (fun v9 h9 => ?_)
  obtain ⟨v1, rfl, t_v1⟩ := h9
  have e9 := (hU7 _ _ t_v1).symm
  subst e9
  refine lv_bipush (v := 40) hx hb dX3_readAtom_4 (by decide) ?_
  have z9_40 : (40 : Int32).toInt = 40 := by decide
  refine tk_i hH hS hA (tr_V (n := 1) (As := [.int 40]) hx hb hml hown hts hkb hH (ox_map hOX rfl) hks hE hS hA (s_Tok_isSign l D cs kf T O X tk (40) y0 y1 y2 y3 y4 y5 y6 y7 ft t tn 35 t_tk t_y0 (by omega) (by omega) (by omega) (by omega) (by omega) (by omega) (by omega) htb hto (by decide) (by decide) (hO.sub (by decide))) kw_646 kw_615 kw_616 kw_3 kw_617 (by decide +kernel) ⟨Nat.le_of_ble_eq_true rfl, Nat.le_of_ble_eq_true rfl⟩ (x_recv (ci := 7) hkb hH 0 rfl rfl) rfl rfl hl.1 (Nat.le_of_ble_eq_true rfl) dX3_readAtom_6 ⟨Nat.le_of_ble_eq_true rfl, Nat.le_of_ble_eq_true rfl⟩) (fun v6 u H locs hz9 hH hS => ?_)
  obtain ⟨rfl, l_v6, u_v6, x_v60, x_v61⟩ := hz9
  have hH : HT D cs A T (tk :: y0 :: O) ((tk, .inr (7, [.ref y0, .int y1, .int y2, .int y3, .int y4, .int y5, .int y6, .int y7])) :: (y0, .inl (cs.1, 900, .inl ft)) :: X) H := hH
  refine W.widen (k := 0) (n := 0) (Nat.le_of_ble_eq_true rfl) (Nat.le_of_ble_eq_true rfl) ?_
  refine lv_if_eq (tgt := 48) hx hb dX3_readAtom_9 (by decide) (fun c9 => ?_) (fun c9 => ?_)
  · skip
    have tc9 := f_eq (k := 0) (by decide) c9
    clear x_v60
    replace x_v61 := x_v61.resolve_left (fun q9 => q9 tc9)
    refine lv_aload_n hx hb dX3_readAtom_48 rfl (lv_at hl 0 rfl) ?_
    refine t_get (ci := 3) (lst := ft3 0 0) (C := RX3) (F := TX3) (N := 3) hx hb hts uX3 hown hkb hH t_a0 (hO.no t_a0 (by decide)) (fun _ h9 => h9) rfl rfl 0 (by decide) rfl kw_82 (fun _ h9 => h9) dX3_readAtom_49 (fun v9 h9 => ?_)
    obtain ⟨v49, rfl, t_v49⟩ := h9
    have e9 := (hU7 _ _ t_v49).symm
    subst e9
    refine x_getk (ci := 7) (C := RX7) (F := TX7) (N := 8) (v := .int y4) hx hb hts uX7 hown hkb hH 0 rfl rfl 4 (by decide) rfl kw_50 (fun _ h9 => h9) dX3_readAtom_52 ?_
    refine lv_iconst (v := 2) hx hb dX3_readAtom_55 (by decide) ?_
    refine lv_icmp_ne (tgt := 80) hx hb dX3_readAtom_56 (by decide) (fun c56 => ?_) (fun c56 => ?_)
    · skip
      have tc56 := f_ne (k := 2) (by decide) c56
      refine lv_aload_n hx hb dX3_readAtom_80 rfl (lv_at hl 0 rfl) ?_
      refine tk_i hH hS hA (tr_V (n := 0) (As := []) hx hb hml hown hts hkb hH (ox_map hOX rfl) hks hE hS hA (s_LR_factHere l D cs kf T O X a0 y0 y1 y2 y3 y4 y5 y6 y7 ft t tn tk t_a0 t_y0 (by omega) (by omega) (by omega) (by omega) (by omega) (by omega) (by omega) htb hto t_tk hU7 (hO.sub (by decide))) kw_660 kw_662 ks_13 kw_4 kw_663 (by decide +kernel) ⟨Nat.le_of_ble_eq_true rfl, Nat.le_of_ble_eq_true rfl⟩ (HT.recv (ci := 3) hkb hH t_a0 (hO.no t_a0 (by decide)) rfl) rfl rfl hl.1 (Nat.le_of_ble_eq_true rfl) dX3_readAtom_81 ⟨Nat.le_of_ble_eq_true rfl, Nat.le_of_ble_eq_true rfl⟩) (fun v81 u H locs hz9 hH hS => ?_)
      obtain ⟨rfl, l_v81, u_v81, x_v810, x_v811⟩ := hz9
      have hH : HT D cs A T (tk :: y0 :: O) ((tk, .inr (7, [.ref y0, .int y1, .int y2, .int y3, .int y4, .int y5, .int y6, .int y7])) :: (y0, .inl (cs.1, 900, .inl ft)) :: X) H := hH
      refine W.widen (k := 0) (n := 0) (Nat.le_of_ble_eq_true rfl) (Nat.le_of_ble_eq_true rfl) ?_
      refine lv_istore_n (lv' := [(2, .int v81), (0, .ref a0), (1, .int x1)]) hx hb dX3_readAtom_84 rfl hl (by decide) rfl (fun ls hl => ?_)
      refine lv_iload_n hx hb dX3_readAtom_85 rfl (lv_at hl 0 rfl) ?_
      refine lv_iconst (v := (-1)) hx hb dX3_readAtom_86 (by decide) ?_
      refine lv_icmp_ne (tgt := 99) hx hb dX3_readAtom_87 (by decide) (fun c87 => ?_) (fun c87 => ?_)
      · skip
        have tc87 := f_ne (k := -1) (by decide) c87
        replace x_v810 := x_v810.resolve_left tc87
        clear x_v811
        refine lv_aload_n hx hb dX3_readAtom_99 rfl (lv_at hl 1 rfl) ?_
        refine lv_iconst (v := 1) hx hb dX3_readAtom_100 (by decide) ?_
        refine lv_iload_n hx hb dX3_readAtom_101 rfl (lv_at hl 0 rfl) ?_
        refine tk_v hH hS hA (tr_V (n := 2) (As := [.int 1, .int v81]) hx hb hml hown hts hkb hH (ox_map hOX rfl) hks hE hS hA (s_LR_put l D cs kf T (tk :: y0 :: O) ((tk, .inr (7, [.ref y0, .int y1, .int y2, .int y3, .int y4, .int y5, .int y6, .int y7])) :: (y0, .inl (cs.1, 900, .inl ft)) :: X) a0 (1) v81 t_a0 (hO.sub (by decide))) kw_642 kw_644 ks_9 kw_4 kw_645 (by decide +kernel) ⟨Nat.le_of_ble_eq_true rfl, Nat.le_of_ble_eq_true rfl⟩ (HT.recv (ci := 3) hkb hH t_a0 (hO.no t_a0 (by decide)) rfl) rfl rfl hl.1 (Nat.le_of_ble_eq_true rfl) dX3_readAtom_102 ⟨Nat.le_of_ble_eq_true rfl, Nat.le_of_ble_eq_true rfl⟩) (fun u H locs hz9 hH hS => ?_)
        have hz9 : u = (T, tk :: y0 :: O, (tk, .inr (7, [.ref y0, .int y1, .int y2, .int y3, .int y4, .int y5, .int y6, .int y7])) :: (y0, .inl (cs.1, 900, .inl ft)) :: X) := hz9
        subst hz9
        have hH : HT D cs A T (tk :: y0 :: O) ((tk, .inr (7, [.ref y0, .int y1, .int y2, .int y3, .int y4, .int y5, .int y6, .int y7])) :: (y0, .inl (cs.1, 900, .inl ft)) :: X) H := hH
        refine W.widen (k := 0) (n := 0) (Nat.le_of_ble_eq_true rfl) (Nat.le_of_ble_eq_true rfl) ?_
        refine lv_aload_n hx hb dX3_readAtom_105 rfl (lv_at hl 1 rfl) ?_
        refine t_get (ci := 3) (lst := ft3 0 0) (C := RX3) (F := TX3) (N := 3) hx hb hts uX3 hown hkb hH t_a0 (hO.no t_a0 (by decide)) (fun _ h9 => h9) rfl rfl 0 (by decide) rfl kw_82 (fun _ h9 => h9) dX3_readAtom_106 (fun v9 h9 => ?_)
        obtain ⟨v106, rfl, t_v106⟩ := h9
        have e9 := (hU7 _ _ t_v106).symm
        subst e9
        refine tk_v hH hS hA (tr_V (n := 0) (As := []) hx hb hml hown hts hkb hH (ox_map hOX rfl) hks hE hS hA (s_Tok_go l D cs kf T O X tk y0 y1 y2 y3 y4 y5 y6 y7 ft t tn t_tk t_y0 (by omega) (by omega) (by omega) (by omega) (by omega) (by omega) (by omega) htb (by have q9 := (hto).b; omega) (hO.sub (by decide))) kw_641 kw_453 kw_454 kw_3 kw_455 (by decide +kernel) ⟨Nat.le_of_ble_eq_true rfl, Nat.le_of_ble_eq_true rfl⟩ (x_recv (ci := 7) hkb hH 0 rfl rfl) rfl rfl hl.1 (Nat.le_of_ble_eq_true rfl) dX3_readAtom_109 ⟨Nat.le_of_ble_eq_true rfl, Nat.le_of_ble_eq_true rfl⟩) (fun u H locs hz9 hH hS => ?_)
        obtain ⟨n109_0_2, n109_0_3, n109_0_4, n109_0_5, rfl, x_v1090, x_v1091, x_v1092⟩ := hz9
        have px109 := TSS.nx hto x_v1091
        have hH : HT D cs A T (tk :: y0 :: O) ((tk, .inr (7, [.ref y0, .int y1, .int n109_0_2, .int n109_0_3, .int n109_0_4, .int n109_0_5, .int y6, .int y7])) :: (y0, .inl (cs.1, 900, .inl ft)) :: X) H := hH
        refine W.widen (k := 0) (n := 0) (Nat.le_of_ble_eq_true rfl) (Nat.le_of_ble_eq_true rfl) ?_
        refine lv_iconst (v := 1) hx hb dX3_readAtom_112 (by decide) ?_
        have z9_1 : (1 : Int32).toInt = 1 := by decide
        exact te_z hx hb hr hlocks (by rfl) hH hS (⟨n109_0_2, n109_0_3, n109_0_4, n109_0_5, y6, y7, rfl, by decide, by decide, (Or.inr ⟨x_v1090, by omega, by omega, (by first | (refine g30.tr (GL_nx (fun _ _ => st_xY x_v360.2.2.1) x_v360.2.1)) | (refine GL_nx (fun _ _ => st_aV ?_) px75; omega) | (refine GL_nx (fun _ _ => st_aV ?_) px109; omega))⟩), Or.inl (by decide), (by omega)⟩) dX3_readAtom_113
      · skip
        have tc87 := f_eq (k := -1) (by decide) c87
        clear x_v810
        replace x_v811 := x_v811.resolve_left (fun q9 => q9 tc87)
        refine lv_aload_n hx hb dX3_readAtom_90 rfl (lv_at hl 1 rfl) ?_
        refine t_get (ci := 3) (lst := ft3 0 0) (C := RX3) (F := TX3) (N := 3) hx hb hts uX3 hown hkb hH t_a0 (hO.no t_a0 (by decide)) (fun _ h9 => h9) rfl rfl 0 (by decide) rfl kw_82 (fun _ h9 => h9) dX3_readAtom_91 (fun v9 h9 => ?_)
        obtain ⟨v91, rfl, t_v91⟩ := h9
        have e9 := (hU7 _ _ t_v91).symm
        subst e9
        refine lv_iconst (v := 2) hx hb dX3_readAtom_94 (by decide) ?_
        have z9_2 : (2 : Int32).toInt = 2 := by decide
        refine tk_i hH hS hA (tr_V (n := 1) (As := [.int 2]) hx hb hml hown hts hkb hH (ox_map hOX rfl) hks hE hS hA (s_Tok_refuse l D cs kf T O X tk (2) y0 y1 y2 y3 y4 y5 y6 y7 ft t tn t_tk t_y0 (by omega) (by omega) (by omega) (by omega) (by omega) (by omega) (by omega) htb hto (hO.sub (by decide))) kw_640 kw_580 kw_581 kw_3 kw_582 (by decide +kernel) ⟨Nat.le_of_ble_eq_true rfl, Nat.le_of_ble_eq_true rfl⟩ (x_recv (ci := 7) hkb hH 0 rfl rfl) rfl rfl hl.1 (Nat.le_of_ble_eq_true rfl) dX3_readAtom_95 ⟨Nat.le_of_ble_eq_true rfl, Nat.le_of_ble_eq_true rfl⟩) (fun v95 u H locs hz9 hH hS => ?_)
        obtain ⟨n95_0_6, n95_0_7, rfl, l_v95, u_v95, x_v950, x_v951⟩ := hz9
        have hH : HT D cs A T (tk :: y0 :: O) ((tk, .inr (7, [.ref y0, .int y1, .int y2, .int y3, .int y4, .int y5, .int n95_0_6, .int n95_0_7])) :: (y0, .inl (cs.1, 900, .inl ft)) :: X) H := hH
        refine W.widen (k := 0) (n := 0) (Nat.le_of_ble_eq_true rfl) (Nat.le_of_ble_eq_true rfl) ?_
        exact te_z hx hb hr hlocks (nar01 (by omega) (by omega)) hH hS (⟨y2, y3, y4, y5, n95_0_6, n95_0_7, rfl, by omega, by omega, (Or.inl (by omega)), (Or.inr (by first | (refine BL_f (fun _ _ => st_aD ?_) x_v140 (by decide) x_v141 ?_ <;> omega) | (refine g20.bd (BL.cons x_v241)) | (refine g30.bd (BL_f (fun _ _ => st_xN x_v361.1) x_v361.2.1 (by decide) x_v361.2.2 ?_); omega) | (refine BL_f (fun _ _ => st_aN ?_ ?_) x_v950 (by decide) x_v951 ?_ <;> omega))), (by omega)⟩) dX3_readAtom_98
    · skip
      have tc56 := f_eq (k := 2) (by decide) c56
      refine lv_aload_n hx hb dX3_readAtom_59 rfl (lv_at hl 0 rfl) ?_
      refine lv_iconst (v := 0) hx hb dX3_readAtom_60 (by decide) ?_
      refine lv_aload_n hx hb dX3_readAtom_61 rfl (lv_at hl 0 rfl) ?_
      refine t_get (ci := 3) (lst := ft3 0 0) (C := RX3) (F := TX3) (N := 3) hx hb hts uX3 hown hkb hH t_a0 (hO.no t_a0 (by decide)) (fun _ h9 => h9) rfl rfl 0 (by decide) rfl kw_82 (fun _ h9 => h9) dX3_readAtom_62 (fun v9 h9 => ?_)
      obtain ⟨v62, rfl, t_v62⟩ := h9
      have e9 := (hU7 _ _ t_v62).symm
      subst e9
      refine x_getk (ci := 7) (C := RX7) (F := TX7) (N := 8) (v := .int y5) hx hb hts uX7 hown hkb hH 0 rfl rfl 5 (by decide) rfl kw_53 (fun _ h9 => h9) dX3_readAtom_65 ?_
      refine tk_v hH hS hA (tr_V (n := 2) (As := [.int 0, .int y5]) hx hb hml hown hts hkb hH (ox_map hOX rfl) hks hE hS hA (s_LR_put l D cs kf T (tk :: y0 :: O) ((tk, .inr (7, [.ref y0, .int y1, .int y2, .int y3, .int y4, .int y5, .int y6, .int y7])) :: (y0, .inl (cs.1, 900, .inl ft)) :: X) a0 (0) y5 t_a0 (hO.sub (by decide))) kw_642 kw_644 ks_9 kw_4 kw_645 (by decide +kernel) ⟨Nat.le_of_ble_eq_true rfl, Nat.le_of_ble_eq_true rfl⟩ (HT.recv (ci := 3) hkb hH t_a0 (hO.no t_a0 (by decide)) rfl) rfl rfl hl.1 (Nat.le_of_ble_eq_true rfl) dX3_readAtom_68 ⟨Nat.le_of_ble_eq_true rfl, Nat.le_of_ble_eq_true rfl⟩) (fun u H locs hz9 hH hS => ?_)
      have hz9 : u = (T, tk :: y0 :: O, (tk, .inr (7, [.ref y0, .int y1, .int y2, .int y3, .int y4, .int y5, .int y6, .int y7])) :: (y0, .inl (cs.1, 900, .inl ft)) :: X) := hz9
      subst hz9
      have hH : HT D cs A T (tk :: y0 :: O) ((tk, .inr (7, [.ref y0, .int y1, .int y2, .int y3, .int y4, .int y5, .int y6, .int y7])) :: (y0, .inl (cs.1, 900, .inl ft)) :: X) H := hH
      refine W.widen (k := 0) (n := 0) (Nat.le_of_ble_eq_true rfl) (Nat.le_of_ble_eq_true rfl) ?_
      refine lv_aload_n hx hb dX3_readAtom_71 rfl (lv_at hl 0 rfl) ?_
      refine t_get (ci := 3) (lst := ft3 0 0) (C := RX3) (F := TX3) (N := 3) hx hb hts uX3 hown hkb hH t_a0 (hO.no t_a0 (by decide)) (fun _ h9 => h9) rfl rfl 0 (by decide) rfl kw_82 (fun _ h9 => h9) dX3_readAtom_72 (fun v9 h9 => ?_)
      obtain ⟨v72, rfl, t_v72⟩ := h9
      have e9 := (hU7 _ _ t_v72).symm
      subst e9
      refine tk_v hH hS hA (tr_V (n := 0) (As := []) hx hb hml hown hts hkb hH (ox_map hOX rfl) hks hE hS hA (s_Tok_go l D cs kf T O X tk y0 y1 y2 y3 y4 y5 y6 y7 ft t tn t_tk t_y0 (by omega) (by omega) (by omega) (by omega) (by omega) (by omega) (by omega) htb (by have q9 := (hto).b; omega) (hO.sub (by decide))) kw_641 kw_453 kw_454 kw_3 kw_455 (by decide +kernel) ⟨Nat.le_of_ble_eq_true rfl, Nat.le_of_ble_eq_true rfl⟩ (x_recv (ci := 7) hkb hH 0 rfl rfl) rfl rfl hl.1 (Nat.le_of_ble_eq_true rfl) dX3_readAtom_75 ⟨Nat.le_of_ble_eq_true rfl, Nat.le_of_ble_eq_true rfl⟩) (fun u H locs hz9 hH hS => ?_)
      obtain ⟨n75_0_2, n75_0_3, n75_0_4, n75_0_5, rfl, x_v750, x_v751, x_v752⟩ := hz9
      have px75 := TSS.nx hto x_v751
      have hH : HT D cs A T (tk :: y0 :: O) ((tk, .inr (7, [.ref y0, .int y1, .int n75_0_2, .int n75_0_3, .int n75_0_4, .int n75_0_5, .int y6, .int y7])) :: (y0, .inl (cs.1, 900, .inl ft)) :: X) H := hH
      refine W.widen (k := 0) (n := 0) (Nat.le_of_ble_eq_true rfl) (Nat.le_of_ble_eq_true rfl) ?_
      refine lv_iconst (v := 1) hx hb dX3_readAtom_78 (by decide) ?_
      have z9_1 : (1 : Int32).toInt = 1 := by decide
      exact te_z hx hb hr hlocks (by rfl) hH hS (⟨n75_0_2, n75_0_3, n75_0_4, n75_0_5, y6, y7, rfl, by decide, by decide, (Or.inr ⟨x_v750, by omega, by omega, (by first | (refine g30.tr (GL_nx (fun _ _ => st_xY x_v360.2.2.1) x_v360.2.1)) | (refine GL_nx (fun _ _ => st_aV ?_) px75; omega) | (refine GL_nx (fun _ _ => st_aV ?_) px109; omega))⟩), Or.inl (by decide), (by omega)⟩) dX3_readAtom_79
  · skip
    have tc9 := f_ne (k := 0) (by decide) c9
    replace x_v60 := x_v60.resolve_left tc9
    clear x_v61
    refine lv_aload_n hx hb dX3_readAtom_12 rfl (lv_at hl 0 rfl) ?_
    refine lv_iload_n hx hb dX3_readAtom_13 rfl (lv_at hl 1 rfl) ?_
    refine tk_i hH hS hA (tr_V (n := 1) (As := [.int x1]) hx hb hml hown hts hkb hH (ox_map hOX rfl) hks hE hS hA (s_LR_enter0 l D cs kf T O X a0 x1 y0 y1 y2 y3 y4 y5 y6 y7 ft t tn tk t_a0 (by omega) (by omega) t_y0 (by omega) (by omega) (by omega) (by omega) (by omega) (by omega) (by omega) htb hto t_tk hU7 (hO.sub (by decide))) kw_636 kw_638 ks_8 kw_4 kw_639 (by decide +kernel) ⟨Nat.le_of_ble_eq_true rfl, Nat.le_of_ble_eq_true rfl⟩ (HT.recv (ci := 3) hkb hH t_a0 (hO.no t_a0 (by decide)) rfl) rfl rfl hl.1 (Nat.le_of_ble_eq_true rfl) dX3_readAtom_14 ⟨Nat.le_of_ble_eq_true rfl, Nat.le_of_ble_eq_true rfl⟩) (fun v14 u H locs hz9 hH hS => ?_)
    obtain ⟨n14_0_2, n14_0_3, n14_0_4, n14_0_5, rfl, l_v14, u_v14, x_v140, x_v141, x_v142⟩ := hz9
    have hH : HT D cs A T (tk :: y0 :: O) ((tk, .inr (7, [.ref y0, .int y1, .int n14_0_2, .int n14_0_3, .int n14_0_4, .int n14_0_5, .int y6, .int y7])) :: (y0, .inl (cs.1, 900, .inl ft)) :: X) H := hH
    refine W.widen (k := 0) (n := 0) (Nat.le_of_ble_eq_true rfl) (Nat.le_of_ble_eq_true rfl) ?_
    refine lv_if_eq (tgt := 46) hx hb dX3_readAtom_17 (by decide) (fun c17 => ?_) (fun c17 => ?_)
    · skip
      have tc17 := f_eq (k := 0) (by decide) c17
      exfalso; omega
    · skip
      have tc17 := f_ne (k := 0) (by decide) c17
      have g20 : GL t tn [(0, 0)] [(3, 1), (20, 36)] y2 n14_0_2 := GL_nx (fun _ _ => st_aP (by omega) (by decide)) x_v141
      refine lv_aload_n hx hb dX3_readAtom_20 rfl (lv_at hl 0 rfl) ?_
      refine lv_iload_n hx hb dX3_readAtom_21 rfl (lv_at hl 1 rfl) ?_
      refine lv_iconst (v := 1) hx hb dX3_readAtom_22 (by decide) ?_
      refine lv_iadd hx hb dX3_readAtom_23 ?_
      refine lv_topi (fun v23 ev23 => ?_)
      have tv23 : v23.toInt = x1.toInt + (1) := by rw [ev23]; exact add_i rfl (by decide : (1 : Int32).toInt = 1) (by omega) (by omega)
      refine tk_i hH hS hA (tr_V (n := 1) (As := [.int v23]) hx hb hml hown hts hkb hH (ox_map hOX rfl) hks hE hS hA (s_LR_readSum1 l D cs kf T O X a0 v23 y0 y1 n14_0_2 n14_0_3 n14_0_4 n14_0_5 y6 y7 ft t tn tk t_a0 (by omega) (by omega) t_y0 (by omega) (by omega) (by omega) (by omega) (by omega) (by omega) (by omega) htb x_v140 t_tk hU7 (by omega) (hO.sub (by decide))) kw_648 kw_650 ks_10 kw_4 kw_651 (by decide +kernel) ⟨Nat.le_of_ble_eq_true rfl, Nat.le_of_ble_eq_true rfl⟩ (HT.recv (ci := 3) hkb hH t_a0 (hO.no t_a0 (by decide)) rfl) rfl rfl hl.1 (Nat.le_of_ble_eq_true rfl) dX3_readAtom_24 ⟨Nat.le_of_ble_eq_true rfl, Nat.le_of_ble_eq_true rfl⟩) (fun v24 u H locs hz9 hH hS => ?_)
      obtain ⟨n24_0_2, n24_0_3, n24_0_4, n24_0_5, n24_0_6, n24_0_7, rfl, l_v24, u_v24, x_v240, x_v241, x_v242⟩ := hz9
      have hH : HT D cs A T (tk :: y0 :: O) ((tk, .inr (7, [.ref y0, .int y1, .int n24_0_2, .int n24_0_3, .int n24_0_4, .int n24_0_5, .int n24_0_6, .int n24_0_7])) :: (y0, .inl (cs.1, 900, .inl ft)) :: X) H := hH
      refine W.widen (k := 0) (n := 0) (Nat.le_of_ble_eq_true rfl) (Nat.le_of_ble_eq_true rfl) ?_
      refine lv_if_eq (tgt := 46) hx hb dX3_readAtom_27 (by decide) (fun c27 => ?_) (fun c27 => ?_)
      · skip
        have tc27 := f_eq (k := 0) (by decide) c27
        clear x_v240
        replace x_v241 := x_v241.resolve_left (fun q9 => q9 tc27)
        refine lv_iconst (v := 0) hx hb dX3_readAtom_46 (by decide) ?_
        have z9_0 : (0 : Int32).toInt = 0 := by decide
        exact te_z hx hb hr hlocks (by rfl) hH hS (⟨n24_0_2, n24_0_3, n24_0_4, n24_0_5, n24_0_6, n24_0_7, rfl, by decide, by decide, Or.inl (by decide), (Or.inr (by first | (refine BL_f (fun _ _ => st_aD ?_) x_v140 (by decide) x_v141 ?_ <;> omega) | (refine g20.bd (BL.cons x_v241)) | (refine g30.bd (BL_f (fun _ _ => st_xN x_v361.1) x_v361.2.1 (by decide) x_v361.2.2 ?_); omega) | (refine BL_f (fun _ _ => st_aN ?_ ?_) x_v950 (by decide) x_v951 ?_ <;> omega))), (by omega)⟩) dX3_readAtom_47
      · skip
        have tc27 := f_ne (k := 0) (by decide) c27
        replace x_v240 := x_v240.resolve_left tc27
        clear x_v241
        have g30 := g20.tr (GL.cons x_v240.2.2.2)
        refine lv_aload_n hx hb dX3_readAtom_30 rfl (lv_at hl 0 rfl) ?_
        refine t_get (ci := 3) (lst := ft3 0 0) (C := RX3) (F := TX3) (N := 3) hx hb hts uX3 hown hkb hH t_a0 (hO.no t_a0 (by decide)) (fun _ h9 => h9) rfl rfl 0 (by decide) rfl kw_82 (fun _ h9 => h9) dX3_readAtom_31 (fun v9 h9 => ?_)
        obtain ⟨v31, rfl, t_v31⟩ := h9
        have e9 := (hU7 _ _ t_v31).symm
        subst e9
        refine lv_bipush (v := 41) hx hb dX3_readAtom_34 (by decide) ?_
        have z9_41 : (41 : Int32).toInt = 41 := by decide
        refine tk_i hH hS hA (tr_V (n := 1) (As := [.int 41]) hx hb hml hown hts hkb hH (ox_map hOX rfl) hks hE hS hA (s_Tok_takeSign l D cs kf T O X tk (41) y0 y1 n24_0_2 n24_0_3 n24_0_4 n24_0_5 n24_0_6 n24_0_7 ft t tn 36 t_tk t_y0 (by omega) (by omega) (by omega) (by omega) (by omega) (by omega) (by omega) htb x_v240.1 (by decide) (by decide) (hO.sub (by decide))) kw_647 kw_611 kw_612 kw_3 kw_613 (by decide +kernel) ⟨Nat.le_of_ble_eq_true rfl, Nat.le_of_ble_eq_true rfl⟩ (x_recv (ci := 7) hkb hH 0 rfl rfl) rfl rfl hl.1 (Nat.le_of_ble_eq_true rfl) dX3_readAtom_36 ⟨Nat.le_of_ble_eq_true rfl, Nat.le_of_ble_eq_true rfl⟩) (fun v36 u H locs hz9 hH hS => ?_)
        obtain ⟨n36_0_2, n36_0_3, n36_0_4, n36_0_5, n36_0_6, n36_0_7, rfl, l_v36, u_v36, x_v360, x_v361, x_v362⟩ := hz9
        have hH : HT D cs A T (tk :: y0 :: O) ((tk, .inr (7, [.ref y0, .int y1, .int n36_0_2, .int n36_0_3, .int n36_0_4, .int n36_0_5, .int n36_0_6, .int n36_0_7])) :: (y0, .inl (cs.1, 900, .inl ft)) :: X) H := hH
        refine W.widen (k := 0) (n := 0) (Nat.le_of_ble_eq_true rfl) (Nat.le_of_ble_eq_true rfl) ?_
        refine lv_if_eq (tgt := 46) hx hb dX3_readAtom_39 (by decide) (fun c39 => ?_) (fun c39 => ?_)
        · skip
          have tc39 := f_eq (k := 0) (by decide) c39
          clear x_v360
          replace x_v361 := x_v361.resolve_left (fun q9 => q9 tc39)
          refine lv_iconst (v := 0) hx hb dX3_readAtom_46 (by decide) ?_
          have z9_0 : (0 : Int32).toInt = 0 := by decide
          exact te_z hx hb hr hlocks (by rfl) hH hS (⟨n36_0_2, n36_0_3, n36_0_4, n36_0_5, n36_0_6, n36_0_7, rfl, by decide, by decide, Or.inl (by decide), (Or.inr (by first | (refine BL_f (fun _ _ => st_aD ?_) x_v140 (by decide) x_v141 ?_ <;> omega) | (refine g20.bd (BL.cons x_v241)) | (refine g30.bd (BL_f (fun _ _ => st_xN x_v361.1) x_v361.2.1 (by decide) x_v361.2.2 ?_); omega) | (refine BL_f (fun _ _ => st_aN ?_ ?_) x_v950 (by decide) x_v951 ?_ <;> omega))), (by omega)⟩) dX3_readAtom_47
        · skip
          have tc39 := f_ne (k := 0) (by decide) c39
          replace x_v360 := x_v360.resolve_left tc39
          clear x_v361
          refine lv_iconst (v := 1) hx hb dX3_readAtom_42 (by decide) ?_
          refine lv_goto (tgt := 47) hx hb dX3_readAtom_43 (by decide) ?_
          have z9_1 : (1 : Int32).toInt = 1 := by decide
          exact te_z hx hb hr hlocks (by rfl) hH hS (⟨n36_0_2, n36_0_3, n36_0_4, n36_0_5, n36_0_6, n36_0_7, rfl, by decide, by decide, (Or.inr ⟨x_v360.1, by omega, by omega, (by first | (refine g30.tr (GL_nx (fun _ _ => st_xY x_v360.2.2.1) x_v360.2.1)) | (refine GL_nx (fun _ _ => st_aV ?_) px75; omega) | (refine GL_nx (fun _ _ => st_aV ?_) px109; omega))⟩), Or.inl (by decide), (by omega)⟩) dX3_readAtom_47
set_option maxHeartbeats 4000000 in
set_option maxRecDepth 100000 in
theorem s_LR_readTerm0 (l : Launch) (D : va_G) (cs : CS) (kf : KF) (T : TF) (O : List Nat) (X : va_W) (a0 : Nat) (x1 : Int32) (y0 : Nat) (y1 : Int32) (y2 : Int32) (y3 : Int32) (y4 : Int32) (y5 : Int32) (y6 : Int32) (y7 : Int32) (ft : Nat → Int32) (t : Tp) (tn : Nat) (tk : Nat) (t_a0 : T a0 = some (13, 0, 0)) (l_x1 : 0 ≤ x1.toInt) (u_x1 : x1.toInt ≤ 0) (t_y0 : T y0 = some (0, 900, 0)) (l_y1 : 0 ≤ y1.toInt) (u_y1 : y1.toInt ≤ 900) (l_y2 : 0 ≤ y2.toInt) (u_y2 : y2.toInt ≤ 900) (l_y3 : 0 ≤ y3.toInt) (u_y3 : y3.toInt ≤ 900) (hn : y1.toInt = (tn : Int)) (htb : TB ft t) (hto : TSS t tn y2 y3 y4 y5) (t_tk : T tk = some (17, 0, 0)) (hU7 : ∀ (b : Nat) (q : Nat), T b = some (17, 0, q) → b = tk) (hz : y6.toInt = 0) (hO : okO T (tk :: y0 :: O) [1, 13]) : TK l D cs kf yX3_readTerm cX3_readTerm 4 (some (.boolean)) { frames := 25, cells := 0, slots := 0, locals := 563 } [.ref a0, .int x1] T (tk :: y0 :: O) ((tk, .inr (7, [.ref y0, .int y1, .int y2, .int y3, .int y4, .int y5, .int y6, .int y7])) :: (y0, .inl (cs.1, 900, .inl ft)) :: X) (Ti D cs (fun r u => ∃ (n0_2 : Int32) (n0_3 : Int32) (n0_4 : Int32) (n0_5 : Int32) (n0_6 : Int32) (n0_7 : Int32), u = (T, tk :: y0 :: O, (tk, .inr (7, [.ref y0, .int y1, .int n0_2, .int n0_3, .int n0_4, .int n0_5, .int n0_6, .int n0_7])) :: (y0, .inl (cs.1, 900, .inl ft)) :: X) ∧ 0 ≤ r.toInt ∧ r.toInt ≤ 1 ∧ (r.toInt = 0 ∨ (TSS t tn n0_2 n0_3 n0_4 n0_5 ∧ n0_6.toInt = 0 ∧ n0_7.toInt = y7.toInt ∧ GL t tn [(1, 0)] [] y2 n0_2)) ∧ (r.toInt ≠ 0 ∨ BL t tn [(1, 0)] y2 n0_6 n0_7) ∧ (y2.toInt ≤ n0_2.toInt ∧ n0_2.toInt ≤ n0_3.toInt ∧ n0_3.toInt ≤ y1.toInt))) := by
  refine tk_of (by decide) (Nat.le_of_ble_eq_true rfl) (fun p e s m below meth c ls A H locs hx hb hr hml hown hts hlocks hnm hkb hH hS hA hOX hks hE hl => ?_)
  have hown : s.vm.findClass RX3 = some m.cls := hown
  have hl : lv_has ls 4 [(0, .ref a0), (1, .int x1)] := hl
  have hOXf := hOX
  have hb9 := hto.b
  have hc9 := hto.cs
  refine lv_aload_n hx hb dX3_readTerm_0 rfl (lv_at hl 0 rfl) ?_
  refine lv_iload_n hx hb dX3_readTerm_1 rfl (lv_at hl 1 rfl) ?_
  refine tk_i hH hS hA (tr_V (n := 1) (As := [.int x1]) hx hb hml hown hts hkb hH (ox_map hOX rfl) hks hE hS hA (s_LR_readAtom0 l D cs kf T O X a0 x1 y0 y1 y2 y3 y4 y5 y6 y7 ft t tn tk t_a0 (by omega) (by omega) t_y0 (by omega) (by omega) (by omega) (by omega) (by omega) (by omega) (by omega) htb hto t_tk hU7 (by omega) (hO.sub (by decide))) kw_656 kw_658 ks_12 kw_4 kw_659 (by decide +kernel) ⟨Nat.le_of_ble_eq_true rfl, Nat.le_of_ble_eq_true rfl⟩ (HT.recv (ci := 3) hkb hH t_a0 (hO.no t_a0 (by decide)) rfl) rfl rfl hl.1 (Nat.le_of_ble_eq_true rfl) dX3_readTerm_2 ⟨Nat.le_of_ble_eq_true rfl, Nat.le_of_ble_eq_true rfl⟩) (fun v2 u H locs hz9 hH hS => ?_)
  obtain ⟨n2_0_2, n2_0_3, n2_0_4, n2_0_5, n2_0_6, n2_0_7, rfl, l_v2, u_v2, x_v20, x_v21, x_v22⟩ := hz9
  have hH : HT D cs A T (tk :: y0 :: O) ((tk, .inr (7, [.ref y0, .int y1, .int n2_0_2, .int n2_0_3, .int n2_0_4, .int n2_0_5, .int n2_0_6, .int n2_0_7])) :: (y0, .inl (cs.1, 900, .inl ft)) :: X) H := hH
  refine W.widen (k := 0) (n := 0) (Nat.le_of_ble_eq_true rfl) (Nat.le_of_ble_eq_true rfl) ?_
  refine lv_istore_n (lv' := [(2, .int v2), (0, .ref a0), (1, .int x1)]) hx hb dX3_readTerm_5 rfl hl (by decide) rfl (fun ls hl => ?_)
  refine lv_iconst (v := 0) hx hb dX3_readTerm_6 (by decide) ?_
  have J8 : ∀ (n : Nat) (p8_3 : Int32) (p8_2 : Int32) (f8_102 : Int32) (f8_103 : Int32) (f8_104 : Int32) (f8_105 : Int32) (f8_106 : Int32) (f8_107 : Int32) (H : Heap) (locs : List Loc) (ls : Array Slot), (900 - p8_3.toInt).toNat = n → (0 ≤ p8_3.toInt) → (p8_3.toInt ≤ 900) → (0 ≤ p8_2.toInt) → (p8_2.toInt ≤ 1) → (0 ≤ f8_102.toInt) → (f8_102.toInt ≤ 900) → (0 ≤ f8_103.toInt) → (f8_103.toInt ≤ 900) → (LTI t tn [(1, 0)] [(2, 0)] y2 p8_2 f8_102 f8_103 f8_104 f8_105 f8_106 f8_107 y7) → (y2.toInt ≤ f8_102.toInt ∧ f8_102.toInt ≤ f8_103.toInt ∧ f8_103.toInt ≤ y1.toInt) → (p8_2.toInt = 0 ∨ p8_3.toInt ≤ f8_102.toInt) → HT D cs A T (tk :: y0 :: O) ((tk, .inr (7, [.ref y0, .int y1, .int f8_102, .int f8_103, .int f8_104, .int f8_105, .int f8_106, .int f8_107])) :: (y0, .inl (cs.1, 900, .inl ft)) :: X) H → va_S A s.heap H locs → lv_has ls 4 [(3, .int p8_3), (2, .int p8_2), (0, .ref a0), (1, .int x1)] → W p l e { frames := 25, cells := 0, slots := 0, locals := 563 } s m [.ref a0, .int x1].toArray below meth c H locs 0 0 (MQ below (Ti D cs (fun r u => ∃ (n0_2 : Int32) (n0_3 : Int32) (n0_4 : Int32) (n0_5 : Int32) (n0_6 : Int32) (n0_7 : Int32), u = (T, tk :: y0 :: O, (tk, .inr (7, [.ref y0, .int y1, .int n0_2, .int n0_3, .int n0_4, .int n0_5, .int n0_6, .int n0_7])) :: (y0, .inl (cs.1, 900, .inl ft)) :: X) ∧ 0 ≤ r.toInt ∧ r.toInt ≤ 1 ∧ (r.toInt = 0 ∨ (TSS t tn n0_2 n0_3 n0_4 n0_5 ∧ n0_6.toInt = 0 ∧ n0_7.toInt = y7.toInt ∧ GL t tn [(1, 0)] [] y2 n0_2)) ∧ (r.toInt ≠ 0 ∨ BL t tn [(1, 0)] y2 n0_6 n0_7) ∧ (y2.toInt ≤ n0_2.toInt ∧ n0_2.toInt ≤ n0_3.toInt ∧ n0_3.toInt ≤ y1.toInt)) A) [.ref a0, .int x1].toArray s 0 0 A) (F0 m 8 ls []) := by
    intro n
    induction n using Nat.strongRecOn with
    | _ n ih8 =>
      intro p8_3 p8_2 f8_102 f8_103 f8_104 f8_105 f8_106 f8_107 H locs ls hm8 l_p8_3 u_p8_3 l_p8_2 u_p8_2 l_f8_102 u_f8_102 l_f8_103 u_f8_103 i8t i8n i8c hH hS hl
      refine lv_iload_n hx hb dX3_readTerm_8 rfl (lv_at hl 0 rfl) ?_
      refine lv_sipush (v := 900) hx hb dX3_readTerm_9 (by decide) ?_
      refine lv_icmp_ge (tgt := 57) hx hb dX3_readTerm_12 (by decide) (fun c12 => ?_) (fun c12 => ?_)
      · skip
        have tc12 := f_ge (k := 900) (by decide) c12
        have hk9 : p8_2.toInt = 0 ∨ GL t tn [(2, 0)] [] f8_102 f8_102 := by first | (refine Or.inl ?_; omega) | exact Or.inr (fun _ _ => st_tN x_v251) | (by_cases q9 : p8_2.toInt = 0; exact Or.inl q9; refine Or.inr (fun _ _ => st_tN ?_); have q8 := LTI.ok i8t q9; have q7 := q8.1.b; rw [kd_end (by omega)]; decide)
        have hz9 := LTI.en i8t hk9
        refine lv_iload_n hx hb dX3_readTerm_57 rfl (lv_at hl 1 rfl) ?_
        exact te_z hx hb hr hlocks (nar01 (by omega) (by omega)) hH hS (⟨f8_102, f8_103, f8_104, f8_105, f8_106, f8_107, rfl, by omega, by omega, hz9.1, hz9.2, (by omega)⟩) dX3_readTerm_58
      · skip
        have tc12 := f_nge (k := 900) (by decide) c12
        refine lv_iload_n hx hb dX3_readTerm_15 rfl (lv_at hl 1 rfl) ?_
        refine lv_if_eq (tgt := 57) hx hb dX3_readTerm_16 (by decide) (fun c16 => ?_) (fun c16 => ?_)
        · skip
          have tc16 := f_eq (k := 0) (by decide) c16
          have hk9 : p8_2.toInt = 0 ∨ GL t tn [(2, 0)] [] f8_102 f8_102 := by first | (refine Or.inl ?_; omega) | exact Or.inr (fun _ _ => st_tN x_v251) | (by_cases q9 : p8_2.toInt = 0; exact Or.inl q9; refine Or.inr (fun _ _ => st_tN ?_); have q8 := LTI.ok i8t q9; have q7 := q8.1.b; rw [kd_end (by omega)]; decide)
          have hz9 := LTI.en i8t hk9
          refine lv_iload_n hx hb dX3_readTerm_57 rfl (lv_at hl 1 rfl) ?_
          exact te_z hx hb hr hlocks (nar01 (by omega) (by omega)) hH hS (⟨f8_102, f8_103, f8_104, f8_105, f8_106, f8_107, rfl, by omega, by omega, hz9.1, hz9.2, (by omega)⟩) dX3_readTerm_58
        · skip
          have tc16 := f_ne (k := 0) (by decide) c16
          have h19 := LTI.ok i8t (by omega)
          have hb19 := h19.1.b
          have hc19 := h19.1.cs
          refine lv_aload_n hx hb dX3_readTerm_19 rfl (lv_at hl 2 rfl) ?_
          refine t_get (ci := 3) (lst := ft3 0 0) (C := RX3) (F := TX3) (N := 3) hx hb hts uX3 hown hkb hH t_a0 (hO.no t_a0 (by decide)) (fun _ h9 => h9) rfl rfl 0 (by decide) rfl kw_82 (fun _ h9 => h9) dX3_readTerm_20 (fun v9 h9 => ?_)
          obtain ⟨v20, rfl, t_v20⟩ := h9
          have e9 := (hU7 _ _ t_v20).symm
          subst e9
          refine lv_bipush (v := 42) hx hb dX3_readTerm_23 (by decide) ?_
          have z9_42 : (42 : Int32).toInt = 42 := by decide
          refine tk_i hH hS hA (tr_V (n := 1) (As := [.int 42]) hx hb hml hown hts hkb hH (ox_map hOX rfl) hks hE hS hA (s_Tok_isSign l D cs kf T O X tk (42) y0 y1 f8_102 f8_103 f8_104 f8_105 f8_106 f8_107 ft t tn 34 t_tk t_y0 (by omega) (by omega) (by omega) (by omega) (by omega) (by omega) (by omega) htb h19.1 (by decide) (by decide) (hO.sub (by decide))) kw_646 kw_615 kw_616 kw_3 kw_617 (by decide +kernel) ⟨Nat.le_of_ble_eq_true rfl, Nat.le_of_ble_eq_true rfl⟩ (x_recv (ci := 7) hkb hH 0 rfl rfl) rfl rfl hl.1 (Nat.le_of_ble_eq_true rfl) dX3_readTerm_25 ⟨Nat.le_of_ble_eq_true rfl, Nat.le_of_ble_eq_true rfl⟩) (fun v25 u H locs hz9 hH hS => ?_)
          obtain ⟨rfl, l_v25, u_v25, x_v250, x_v251⟩ := hz9
          have hH : HT D cs A T (tk :: y0 :: O) ((tk, .inr (7, [.ref y0, .int y1, .int f8_102, .int f8_103, .int f8_104, .int f8_105, .int f8_106, .int f8_107])) :: (y0, .inl (cs.1, 900, .inl ft)) :: X) H := hH
          refine W.widen (k := 0) (n := 0) (Nat.le_of_ble_eq_true rfl) (Nat.le_of_ble_eq_true rfl) ?_
          refine lv_if_eq (tgt := 57) hx hb dX3_readTerm_28 (by decide) (fun c28 => ?_) (fun c28 => ?_)
          · skip
            have tc28 := f_eq (k := 0) (by decide) c28
            clear x_v250
            replace x_v251 := x_v251.resolve_left (fun q9 => q9 tc28)
            have hk9 : p8_2.toInt = 0 ∨ GL t tn [(2, 0)] [] f8_102 f8_102 := by first | (refine Or.inl ?_; omega) | exact Or.inr (fun _ _ => st_tN x_v251) | (by_cases q9 : p8_2.toInt = 0; exact Or.inl q9; refine Or.inr (fun _ _ => st_tN ?_); have q8 := LTI.ok i8t q9; have q7 := q8.1.b; rw [kd_end (by omega)]; decide)
            have hz9 := LTI.en i8t hk9
            refine lv_iload_n hx hb dX3_readTerm_57 rfl (lv_at hl 1 rfl) ?_
            exact te_z hx hb hr hlocks (nar01 (by omega) (by omega)) hH hS (⟨f8_102, f8_103, f8_104, f8_105, f8_106, f8_107, rfl, by omega, by omega, hz9.1, hz9.2, (by omega)⟩) dX3_readTerm_58
          · skip
            have tc28 := f_ne (k := 0) (by decide) c28
            replace x_v250 := x_v250.resolve_left tc28
            clear x_v251
            refine lv_aload_n hx hb dX3_readTerm_31 rfl (lv_at hl 2 rfl) ?_
            refine t_get (ci := 3) (lst := ft3 0 0) (C := RX3) (F := TX3) (N := 3) hx hb hts uX3 hown hkb hH t_a0 (hO.no t_a0 (by decide)) (fun _ h9 => h9) rfl rfl 0 (by decide) rfl kw_82 (fun _ h9 => h9) dX3_readTerm_32 (fun v9 h9 => ?_)
            obtain ⟨v32, rfl, t_v32⟩ := h9
            have e9 := (hU7 _ _ t_v32).symm
            subst e9
            have hl9 := h19.1.lt (by omega)
            refine tk_v hH hS hA (tr_V (n := 0) (As := []) hx hb hml hown hts hkb hH (ox_map hOX rfl) hks hE hS hA (s_Tok_go l D cs kf T O X tk y0 y1 f8_102 f8_103 f8_104 f8_105 f8_106 f8_107 ft t tn t_tk t_y0 (by omega) (by omega) (by omega) (by omega) (by omega) (by omega) (by omega) htb (by have q9 := (h19.1).b; omega) (hO.sub (by decide))) kw_641 kw_453 kw_454 kw_3 kw_455 (by decide +kernel) ⟨Nat.le_of_ble_eq_true rfl, Nat.le_of_ble_eq_true rfl⟩ (x_recv (ci := 7) hkb hH 0 rfl rfl) rfl rfl hl.1 (Nat.le_of_ble_eq_true rfl) dX3_readTerm_35 ⟨Nat.le_of_ble_eq_true rfl, Nat.le_of_ble_eq_true rfl⟩) (fun u H locs hz9 hH hS => ?_)
            obtain ⟨n35_0_2, n35_0_3, n35_0_4, n35_0_5, rfl, x_v350, x_v351, x_v352⟩ := hz9
            have px35 := TSS.nx h19.1 x_v351
            have hH : HT D cs A T (tk :: y0 :: O) ((tk, .inr (7, [.ref y0, .int y1, .int n35_0_2, .int n35_0_3, .int n35_0_4, .int n35_0_5, .int f8_106, .int f8_107])) :: (y0, .inl (cs.1, 900, .inl ft)) :: X) H := hH
            refine W.widen (k := 0) (n := 0) (Nat.le_of_ble_eq_true rfl) (Nat.le_of_ble_eq_true rfl) ?_
            refine lv_aload_n hx hb dX3_readTerm_38 rfl (lv_at hl 2 rfl) ?_
            refine lv_iload_n hx hb dX3_readTerm_39 rfl (lv_at hl 3 rfl) ?_
            refine tk_i hH hS hA (tr_V (n := 1) (As := [.int x1]) hx hb hml hown hts hkb hH (ox_map hOX rfl) hks hE hS hA (s_LR_readAtom0 l D cs kf T O X a0 x1 y0 y1 n35_0_2 n35_0_3 n35_0_4 n35_0_5 f8_106 f8_107 ft t tn tk t_a0 (by omega) (by omega) t_y0 (by omega) (by omega) (by omega) (by omega) (by omega) (by omega) (by omega) htb x_v350 t_tk hU7 (by omega) (hO.sub (by decide))) kw_656 kw_658 ks_12 kw_4 kw_659 (by decide +kernel) ⟨Nat.le_of_ble_eq_true rfl, Nat.le_of_ble_eq_true rfl⟩ (HT.recv (ci := 3) hkb hH t_a0 (hO.no t_a0 (by decide)) rfl) rfl rfl hl.1 (Nat.le_of_ble_eq_true rfl) dX3_readTerm_40 ⟨Nat.le_of_ble_eq_true rfl, Nat.le_of_ble_eq_true rfl⟩) (fun v40 u H locs hz9 hH hS => ?_)
            obtain ⟨n40_0_2, n40_0_3, n40_0_4, n40_0_5, n40_0_6, n40_0_7, rfl, l_v40, u_v40, x_v400, x_v401, x_v402⟩ := hz9
            have hH : HT D cs A T (tk :: y0 :: O) ((tk, .inr (7, [.ref y0, .int y1, .int n40_0_2, .int n40_0_3, .int n40_0_4, .int n40_0_5, .int n40_0_6, .int n40_0_7])) :: (y0, .inl (cs.1, 900, .inl ft)) :: X) H := hH
            refine W.widen (k := 0) (n := 0) (Nat.le_of_ble_eq_true rfl) (Nat.le_of_ble_eq_true rfl) ?_
            refine lv_istore_n (lv' := [(2, .int v40), (3, .int p8_3), (0, .ref a0), (1, .int x1)]) hx hb dX3_readTerm_43 rfl hl (by decide) rfl (fun ls hl => ?_)
            refine lv_aload_n hx hb dX3_readTerm_44 rfl (lv_at hl 2 rfl) ?_
            refine lv_bipush (v := 7) hx hb dX3_readTerm_45 (by decide) ?_
            refine lv_iconst (v := 0) hx hb dX3_readTerm_47 (by decide) ?_
            refine tk_v hH hS hA (tr_V (n := 2) (As := [.int 7, .int 0]) hx hb hml hown hts hkb hH (ox_map hOX rfl) hks hE hS hA (s_LR_put l D cs kf T (tk :: y0 :: O) ((tk, .inr (7, [.ref y0, .int y1, .int n40_0_2, .int n40_0_3, .int n40_0_4, .int n40_0_5, .int n40_0_6, .int n40_0_7])) :: (y0, .inl (cs.1, 900, .inl ft)) :: X) a0 (7) (0) t_a0 (hO.sub (by decide))) kw_642 kw_644 ks_9 kw_4 kw_645 (by decide +kernel) ⟨Nat.le_of_ble_eq_true rfl, Nat.le_of_ble_eq_true rfl⟩ (HT.recv (ci := 3) hkb hH t_a0 (hO.no t_a0 (by decide)) rfl) rfl rfl hl.1 (Nat.le_of_ble_eq_true rfl) dX3_readTerm_48 ⟨Nat.le_of_ble_eq_true rfl, Nat.le_of_ble_eq_true rfl⟩) (fun u H locs hz9 hH hS => ?_)
            have hz9 : u = (T, tk :: y0 :: O, (tk, .inr (7, [.ref y0, .int y1, .int n40_0_2, .int n40_0_3, .int n40_0_4, .int n40_0_5, .int n40_0_6, .int n40_0_7])) :: (y0, .inl (cs.1, 900, .inl ft)) :: X) := hz9
            subst hz9
            have hH : HT D cs A T (tk :: y0 :: O) ((tk, .inr (7, [.ref y0, .int y1, .int n40_0_2, .int n40_0_3, .int n40_0_4, .int n40_0_5, .int n40_0_6, .int n40_0_7])) :: (y0, .inl (cs.1, 900, .inl ft)) :: X) H := hH
            refine W.widen (k := 0) (n := 0) (Nat.le_of_ble_eq_true rfl) (Nat.le_of_ble_eq_true rfl) ?_
            obtain ⟨v51, ev51⟩ : ∃ y : Int32, y = p8_3 + 1 := ⟨_, rfl⟩
            have tv51 : v51.toInt = p8_3.toInt + (1) := by rw [ev51]; exact add_i rfl (by decide) (by omega) (by omega)
            refine lv_iinc (v := v51) (lv' := [(3, .int v51), (2, .int v40), (0, .ref a0), (1, .int x1)]) hx hb dX3_readTerm_51 hl (k := 1) rfl (by rw [ev51]; rfl) (by decide) rfl (fun ls hl => ?_)
            refine lv_goto (tgt := 8) hx hb dX3_readTerm_54 (by decide) ?_
            exact ih8 _ (by omega) v51 v40 n40_0_2 n40_0_3 n40_0_4 n40_0_5 n40_0_6 n40_0_7 _ _ _ rfl (by omega) (by omega) (by omega) (by omega) (by omega) (by omega) (by omega) (by omega) (by first | (refine LTI.st (fun _ _ => st_t) x_v20 x_v21 l_v2 u_v2 rfl) | (refine LTI.st (h19.2.2.2.tr (GL_nx (fun _ _ => st_tY x_v250) px35)) x_v400 x_v401 l_v40 u_v40 ?_; omega)) (by omega) (by omega) hH hS (lv_sub hl [0, 1, 2, 3] rfl)
  refine lv_istore_n (lv' := [(3, .int 0), (2, .int v2), (0, .ref a0), (1, .int x1)]) hx hb dX3_readTerm_7 rfl hl (by decide) rfl (fun ls hl => ?_)
  have z_0 : (0 : Int32).toInt = 0 := by decide
  exact J8 _ 0 v2 n2_0_2 n2_0_3 n2_0_4 n2_0_5 n2_0_6 n2_0_7 _ _ _ rfl (by decide) (by decide) (by omega) (by omega) (by omega) (by omega) (by omega) (by omega) (by first | (refine LTI.st (fun _ _ => st_t) x_v20 x_v21 l_v2 u_v2 rfl) | (refine LTI.st (h19.2.2.2.tr (GL_nx (fun _ _ => st_tY x_v250) px35)) x_v400 x_v401 l_v40 u_v40 ?_; omega)) (by omega) (by omega) hH hS (lv_sub hl [0, 1, 2, 3] rfl)
set_option maxHeartbeats 4000000 in
set_option maxRecDepth 100000 in
theorem s_LR_readSum0 (l : Launch) (D : va_G) (cs : CS) (kf : KF) (T : TF) (O : List Nat) (X : va_W) (a0 : Nat) (x1 : Int32) (y0 : Nat) (y1 : Int32) (y2 : Int32) (y3 : Int32) (y4 : Int32) (y5 : Int32) (y6 : Int32) (y7 : Int32) (ft : Nat → Int32) (t : Tp) (tn : Nat) (tk : Nat) (t_a0 : T a0 = some (13, 0, 0)) (l_x1 : 0 ≤ x1.toInt) (u_x1 : x1.toInt ≤ 0) (t_y0 : T y0 = some (0, 900, 0)) (l_y1 : 0 ≤ y1.toInt) (u_y1 : y1.toInt ≤ 900) (l_y2 : 0 ≤ y2.toInt) (u_y2 : y2.toInt ≤ 900) (l_y3 : 0 ≤ y3.toInt) (u_y3 : y3.toInt ≤ 900) (hn : y1.toInt = (tn : Int)) (htb : TB ft t) (hto : TSS t tn y2 y3 y4 y5) (t_tk : T tk = some (17, 0, 0)) (hU7 : ∀ (b : Nat) (q : Nat), T b = some (17, 0, q) → b = tk) (hz : y6.toInt = 0) (hO : okO T (tk :: y0 :: O) [1, 13]) : TK l D cs kf yX3_readSum cX3_readSum 5 (some (.boolean)) { frames := 26, cells := 0, slots := 0, locals := 586 } [.ref a0, .int x1] T (tk :: y0 :: O) ((tk, .inr (7, [.ref y0, .int y1, .int y2, .int y3, .int y4, .int y5, .int y6, .int y7])) :: (y0, .inl (cs.1, 900, .inl ft)) :: X) (Ti D cs (fun r u => ∃ (n0_2 : Int32) (n0_3 : Int32) (n0_4 : Int32) (n0_5 : Int32) (n0_6 : Int32) (n0_7 : Int32), u = (T, tk :: y0 :: O, (tk, .inr (7, [.ref y0, .int y1, .int n0_2, .int n0_3, .int n0_4, .int n0_5, .int n0_6, .int n0_7])) :: (y0, .inl (cs.1, 900, .inl ft)) :: X) ∧ 0 ≤ r.toInt ∧ r.toInt ≤ 1 ∧ (r.toInt = 0 ∨ (TSS t tn n0_2 n0_3 n0_4 n0_5 ∧ n0_6.toInt = 0 ∧ n0_7.toInt = y7.toInt ∧ GL t tn [(3, 0)] [] y2 n0_2)) ∧ (r.toInt ≠ 0 ∨ BL t tn [(3, 0)] y2 n0_6 n0_7) ∧ (y2.toInt ≤ n0_2.toInt ∧ n0_2.toInt ≤ n0_3.toInt ∧ n0_3.toInt ≤ y1.toInt))) := by
  refine tk_of (by decide) (Nat.le_of_ble_eq_true rfl) (fun p e s m below meth c ls A H locs hx hb hr hml hown hts hlocks hnm hkb hH hS hA hOX hks hE hl => ?_)
  have hown : s.vm.findClass RX3 = some m.cls := hown
  have hl : lv_has ls 5 [(0, .ref a0), (1, .int x1)] := hl
  have hOXf := hOX
  have hb9 := hto.b
  have hc9 := hto.cs
  refine lv_aload_n hx hb dX3_readSum_0 rfl (lv_at hl 0 rfl) ?_
  refine lv_iload_n hx hb dX3_readSum_1 rfl (lv_at hl 1 rfl) ?_
  refine tk_i hH hS hA (tr_V (n := 1) (As := [.int x1]) hx hb hml hown hts hkb hH (ox_map hOX rfl) hks hE hS hA (s_LR_readTerm0 l D cs kf T O X a0 x1 y0 y1 y2 y3 y4 y5 y6 y7 ft t tn tk t_a0 (by omega) (by omega) t_y0 (by omega) (by omega) (by omega) (by omega) (by omega) (by omega) (by omega) htb hto t_tk hU7 (by omega) (hO.sub (by decide))) kw_652 kw_654 ks_11 kw_4 kw_655 (by decide +kernel) ⟨Nat.le_of_ble_eq_true rfl, Nat.le_of_ble_eq_true rfl⟩ (HT.recv (ci := 3) hkb hH t_a0 (hO.no t_a0 (by decide)) rfl) rfl rfl hl.1 (Nat.le_of_ble_eq_true rfl) dX3_readSum_2 ⟨Nat.le_of_ble_eq_true rfl, Nat.le_of_ble_eq_true rfl⟩) (fun v2 u H locs hz9 hH hS => ?_)
  obtain ⟨n2_0_2, n2_0_3, n2_0_4, n2_0_5, n2_0_6, n2_0_7, rfl, l_v2, u_v2, x_v20, x_v21, x_v22⟩ := hz9
  have hH : HT D cs A T (tk :: y0 :: O) ((tk, .inr (7, [.ref y0, .int y1, .int n2_0_2, .int n2_0_3, .int n2_0_4, .int n2_0_5, .int n2_0_6, .int n2_0_7])) :: (y0, .inl (cs.1, 900, .inl ft)) :: X) H := hH
  refine W.widen (k := 0) (n := 0) (Nat.le_of_ble_eq_true rfl) (Nat.le_of_ble_eq_true rfl) ?_
  refine lv_istore_n (lv' := [(2, .int v2), (0, .ref a0), (1, .int x1)]) hx hb dX3_readSum_5 rfl hl (by decide) rfl (fun ls hl => ?_)
  refine lv_iconst (v := 0) hx hb dX3_readSum_6 (by decide) ?_
  have J8 : ∀ (n : Nat) (p8_3 : Int32) (p8_2 : Int32) (f8_102 : Int32) (f8_103 : Int32) (f8_104 : Int32) (f8_105 : Int32) (f8_106 : Int32) (f8_107 : Int32) (H : Heap) (locs : List Loc) (ls : Array Slot), (900 - p8_3.toInt).toNat = n → (0 ≤ p8_3.toInt) → (p8_3.toInt ≤ 900) → (0 ≤ p8_2.toInt) → (p8_2.toInt ≤ 1) → (0 ≤ f8_102.toInt) → (f8_102.toInt ≤ 900) → (0 ≤ f8_103.toInt) → (f8_103.toInt ≤ 900) → (LTI t tn [(3, 0)] [(4, 0)] y2 p8_2 f8_102 f8_103 f8_104 f8_105 f8_106 f8_107 y7) → (y2.toInt ≤ f8_102.toInt ∧ f8_102.toInt ≤ f8_103.toInt ∧ f8_103.toInt ≤ y1.toInt) → (p8_2.toInt = 0 ∨ p8_3.toInt ≤ f8_102.toInt) → HT D cs A T (tk :: y0 :: O) ((tk, .inr (7, [.ref y0, .int y1, .int f8_102, .int f8_103, .int f8_104, .int f8_105, .int f8_106, .int f8_107])) :: (y0, .inl (cs.1, 900, .inl ft)) :: X) H → va_S A s.heap H locs → lv_has ls 5 [(3, .int p8_3), (2, .int p8_2), (0, .ref a0), (1, .int x1)] → W p l e { frames := 26, cells := 0, slots := 0, locals := 586 } s m [.ref a0, .int x1].toArray below meth c H locs 0 0 (MQ below (Ti D cs (fun r u => ∃ (n0_2 : Int32) (n0_3 : Int32) (n0_4 : Int32) (n0_5 : Int32) (n0_6 : Int32) (n0_7 : Int32), u = (T, tk :: y0 :: O, (tk, .inr (7, [.ref y0, .int y1, .int n0_2, .int n0_3, .int n0_4, .int n0_5, .int n0_6, .int n0_7])) :: (y0, .inl (cs.1, 900, .inl ft)) :: X) ∧ 0 ≤ r.toInt ∧ r.toInt ≤ 1 ∧ (r.toInt = 0 ∨ (TSS t tn n0_2 n0_3 n0_4 n0_5 ∧ n0_6.toInt = 0 ∧ n0_7.toInt = y7.toInt ∧ GL t tn [(3, 0)] [] y2 n0_2)) ∧ (r.toInt ≠ 0 ∨ BL t tn [(3, 0)] y2 n0_6 n0_7) ∧ (y2.toInt ≤ n0_2.toInt ∧ n0_2.toInt ≤ n0_3.toInt ∧ n0_3.toInt ≤ y1.toInt)) A) [.ref a0, .int x1].toArray s 0 0 A) (F0 m 8 ls []) := by
    intro n
    induction n using Nat.strongRecOn with
    | _ n ih8 =>
      intro p8_3 p8_2 f8_102 f8_103 f8_104 f8_105 f8_106 f8_107 H locs ls hm8 l_p8_3 u_p8_3 l_p8_2 u_p8_2 l_f8_102 u_f8_102 l_f8_103 u_f8_103 i8t i8n i8c hH hS hl
      refine lv_iload_n hx hb dX3_readSum_8 rfl (lv_at hl 0 rfl) ?_
      refine lv_sipush (v := 900) hx hb dX3_readSum_9 (by decide) ?_
      refine lv_icmp_ge (tgt := 89) hx hb dX3_readSum_12 (by decide) (fun c12 => ?_) (fun c12 => ?_)
      · skip
        have tc12 := f_ge (k := 900) (by decide) c12
        have hk9 : p8_2.toInt = 0 ∨ GL t tn [(4, 0)] [] f8_102 f8_102 := by first | (refine Or.inl ?_; omega) | exact Or.inr (fun _ _ => st_sN (by omega)) | (by_cases q9 : p8_2.toInt = 0; exact Or.inl q9; refine Or.inr (fun _ _ => st_sN ?_); have q8 := LTI.ok i8t q9; have q7 := q8.1.b; rw [kd_end (by omega)]; decide)
        have hz9 := LTI.en i8t hk9
        refine lv_iload_n hx hb dX3_readSum_89 rfl (lv_at hl 1 rfl) ?_
        exact te_z hx hb hr hlocks (nar01 (by omega) (by omega)) hH hS (⟨f8_102, f8_103, f8_104, f8_105, f8_106, f8_107, rfl, by omega, by omega, hz9.1, hz9.2, (by omega)⟩) dX3_readSum_90
      · skip
        have tc12 := f_nge (k := 900) (by decide) c12
        refine lv_iload_n hx hb dX3_readSum_15 rfl (lv_at hl 1 rfl) ?_
        refine lv_if_eq (tgt := 89) hx hb dX3_readSum_16 (by decide) (fun c16 => ?_) (fun c16 => ?_)
        · skip
          have tc16 := f_eq (k := 0) (by decide) c16
          have hk9 : p8_2.toInt = 0 ∨ GL t tn [(4, 0)] [] f8_102 f8_102 := by first | (refine Or.inl ?_; omega) | exact Or.inr (fun _ _ => st_sN (by omega)) | (by_cases q9 : p8_2.toInt = 0; exact Or.inl q9; refine Or.inr (fun _ _ => st_sN ?_); have q8 := LTI.ok i8t q9; have q7 := q8.1.b; rw [kd_end (by omega)]; decide)
          have hz9 := LTI.en i8t hk9
          refine lv_iload_n hx hb dX3_readSum_89 rfl (lv_at hl 1 rfl) ?_
          exact te_z hx hb hr hlocks (nar01 (by omega) (by omega)) hH hS (⟨f8_102, f8_103, f8_104, f8_105, f8_106, f8_107, rfl, by omega, by omega, hz9.1, hz9.2, (by omega)⟩) dX3_readSum_90
        · skip
          have tc16 := f_ne (k := 0) (by decide) c16
          have h19 := LTI.ok i8t (by omega)
          have hb19 := h19.1.b
          have hc19 := h19.1.cs
          refine lv_aload_n hx hb dX3_readSum_19 rfl (lv_at hl 2 rfl) ?_
          refine t_get (ci := 3) (lst := ft3 0 0) (C := RX3) (F := TX3) (N := 3) hx hb hts uX3 hown hkb hH t_a0 (hO.no t_a0 (by decide)) (fun _ h9 => h9) rfl rfl 0 (by decide) rfl kw_82 (fun _ h9 => h9) dX3_readSum_20 (fun v9 h9 => ?_)
          obtain ⟨v20, rfl, t_v20⟩ := h9
          have e9 := (hU7 _ _ t_v20).symm
          subst e9
          refine lv_bipush (v := 43) hx hb dX3_readSum_23 (by decide) ?_
          have z9_43 : (43 : Int32).toInt = 43 := by decide
          refine tk_i hH hS hA (tr_V (n := 1) (As := [.int 43]) hx hb hml hown hts hkb hH (ox_map hOX rfl) hks hE hS hA (s_Tok_isSign l D cs kf T O X tk (43) y0 y1 f8_102 f8_103 f8_104 f8_105 f8_106 f8_107 ft t tn 32 t_tk t_y0 (by omega) (by omega) (by omega) (by omega) (by omega) (by omega) (by omega) htb h19.1 (by decide) (by decide) (hO.sub (by decide))) kw_646 kw_615 kw_616 kw_3 kw_617 (by decide +kernel) ⟨Nat.le_of_ble_eq_true rfl, Nat.le_of_ble_eq_true rfl⟩ (x_recv (ci := 7) hkb hH 0 rfl rfl) rfl rfl hl.1 (Nat.le_of_ble_eq_true rfl) dX3_readSum_25 ⟨Nat.le_of_ble_eq_true rfl, Nat.le_of_ble_eq_true rfl⟩) (fun v25 u H locs hz9 hH hS => ?_)
          obtain ⟨rfl, l_v25, u_v25, x_v250, x_v251⟩ := hz9
          have hH : HT D cs A T (tk :: y0 :: O) ((tk, .inr (7, [.ref y0, .int y1, .int f8_102, .int f8_103, .int f8_104, .int f8_105, .int f8_106, .int f8_107])) :: (y0, .inl (cs.1, 900, .inl ft)) :: X) H := hH
          refine W.widen (k := 0) (n := 0) (Nat.le_of_ble_eq_true rfl) (Nat.le_of_ble_eq_true rfl) ?_
          refine lv_if_ne (tgt := 43) hx hb dX3_readSum_28 (by decide) (fun c28 => ?_) (fun c28 => ?_)
          · skip
            have tc28 := f_ne (k := 0) (by decide) c28
            replace x_v250 := x_v250.resolve_left tc28
            clear x_v251
            refine lv_aload_n hx hb dX3_readSum_43 rfl (lv_at hl 2 rfl) ?_
            refine t_get (ci := 3) (lst := ft3 0 0) (C := RX3) (F := TX3) (N := 3) hx hb hts uX3 hown hkb hH t_a0 (hO.no t_a0 (by decide)) (fun _ h9 => h9) rfl rfl 0 (by decide) rfl kw_82 (fun _ h9 => h9) dX3_readSum_44 (fun v9 h9 => ?_)
            obtain ⟨v44, rfl, t_v44⟩ := h9
            have e9 := (hU7 _ _ t_v44).symm
            subst e9
            refine lv_bipush (v := 43) hx hb dX3_readSum_47 (by decide) ?_
            have z9_43 : (43 : Int32).toInt = 43 := by decide
            refine tk_i hH hS hA (tr_V (n := 1) (As := [.int 43]) hx hb hml hown hts hkb hH (ox_map hOX rfl) hks hE hS hA (s_Tok_isSign l D cs kf T O X tk (43) y0 y1 f8_102 f8_103 f8_104 f8_105 f8_106 f8_107 ft t tn 32 t_tk t_y0 (by omega) (by omega) (by omega) (by omega) (by omega) (by omega) (by omega) htb h19.1 (by decide) (by decide) (hO.sub (by decide))) kw_646 kw_615 kw_616 kw_3 kw_617 (by decide +kernel) ⟨Nat.le_of_ble_eq_true rfl, Nat.le_of_ble_eq_true rfl⟩ (x_recv (ci := 7) hkb hH 0 rfl rfl) rfl rfl hl.1 (Nat.le_of_ble_eq_true rfl) dX3_readSum_49 ⟨Nat.le_of_ble_eq_true rfl, Nat.le_of_ble_eq_true rfl⟩) (fun v49 u H locs hz9 hH hS => ?_)
            obtain ⟨rfl, l_v49, u_v49, x_v490, x_v491⟩ := hz9
            have hH : HT D cs A T (tk :: y0 :: O) ((tk, .inr (7, [.ref y0, .int y1, .int f8_102, .int f8_103, .int f8_104, .int f8_105, .int f8_106, .int f8_107])) :: (y0, .inl (cs.1, 900, .inl ft)) :: X) H := hH
            refine W.widen (k := 0) (n := 0) (Nat.le_of_ble_eq_true rfl) (Nat.le_of_ble_eq_true rfl) ?_
            refine lv_if_eq (tgt := 59) hx hb dX3_readSum_52 (by decide) (fun c52 => ?_) (fun c52 => ?_)
            · skip
              have tc52 := f_eq (k := 0) (by decide) c52
              clear x_v490
              replace x_v491 := x_v491.resolve_left (fun q9 => q9 tc52)
              refine lv_bipush (v := 6) hx hb dX3_readSum_59 (by decide) ?_
              refine lv_istore (lv' := [(4, .int 6), (3, .int p8_3), (2, .int p8_2), (0, .ref a0), (1, .int x1)]) hx hb dX3_readSum_61 hl (by decide) rfl (fun ls hl => ?_)
              refine lv_aload_n hx hb dX3_readSum_63 rfl (lv_at hl 3 rfl) ?_
              refine t_get (ci := 3) (lst := ft3 0 0) (C := RX3) (F := TX3) (N := 3) hx hb hts uX3 hown hkb hH t_a0 (hO.no t_a0 (by decide)) (fun _ h9 => h9) rfl rfl 0 (by decide) rfl kw_82 (fun _ h9 => h9) dX3_readSum_64 (fun v9 h9 => ?_)
              obtain ⟨v64, rfl, t_v64⟩ := h9
              have e9 := (hU7 _ _ t_v64).symm
              subst e9
              have hl9 := h19.1.lt (by omega)
              refine tk_v hH hS hA (tr_V (n := 0) (As := []) hx hb hml hown hts hkb hH (ox_map hOX rfl) hks hE hS hA (s_Tok_go l D cs kf T O X tk y0 y1 f8_102 f8_103 f8_104 f8_105 f8_106 f8_107 ft t tn t_tk t_y0 (by omega) (by omega) (by omega) (by omega) (by omega) (by omega) (by omega) htb (by have q9 := (h19.1).b; omega) (hO.sub (by decide))) kw_641 kw_453 kw_454 kw_3 kw_455 (by decide +kernel) ⟨Nat.le_of_ble_eq_true rfl, Nat.le_of_ble_eq_true rfl⟩ (x_recv (ci := 7) hkb hH 0 rfl rfl) rfl rfl hl.1 (Nat.le_of_ble_eq_true rfl) dX3_readSum_67 ⟨Nat.le_of_ble_eq_true rfl, Nat.le_of_ble_eq_true rfl⟩) (fun u H locs hz9 hH hS => ?_)
              obtain ⟨n67_0_2, n67_0_3, n67_0_4, n67_0_5, rfl, x_v670, x_v671, x_v672⟩ := hz9
              have px67 := TSS.nx h19.1 x_v671
              have hH : HT D cs A T (tk :: y0 :: O) ((tk, .inr (7, [.ref y0, .int y1, .int n67_0_2, .int n67_0_3, .int n67_0_4, .int n67_0_5, .int f8_106, .int f8_107])) :: (y0, .inl (cs.1, 900, .inl ft)) :: X) H := hH
              refine W.widen (k := 0) (n := 0) (Nat.le_of_ble_eq_true rfl) (Nat.le_of_ble_eq_true rfl) ?_
              refine lv_aload_n hx hb dX3_readSum_70 rfl (lv_at hl 3 rfl) ?_
              refine lv_iload_n hx hb dX3_readSum_71 rfl (lv_at hl 4 rfl) ?_
              refine tk_i hH hS hA (tr_V (n := 1) (As := [.int x1]) hx hb hml hown hts hkb hH (ox_map hOX rfl) hks hE hS hA (s_LR_readTerm0 l D cs kf T O X a0 x1 y0 y1 n67_0_2 n67_0_3 n67_0_4 n67_0_5 f8_106 f8_107 ft t tn tk t_a0 (by omega) (by omega) t_y0 (by omega) (by omega) (by omega) (by omega) (by omega) (by omega) (by omega) htb x_v670 t_tk hU7 (by omega) (hO.sub (by decide))) kw_652 kw_654 ks_11 kw_4 kw_655 (by decide +kernel) ⟨Nat.le_of_ble_eq_true rfl, Nat.le_of_ble_eq_true rfl⟩ (HT.recv (ci := 3) hkb hH t_a0 (hO.no t_a0 (by decide)) rfl) rfl rfl hl.1 (Nat.le_of_ble_eq_true rfl) dX3_readSum_72 ⟨Nat.le_of_ble_eq_true rfl, Nat.le_of_ble_eq_true rfl⟩) (fun v72 u H locs hz9 hH hS => ?_)
              obtain ⟨n72_0_2, n72_0_3, n72_0_4, n72_0_5, n72_0_6, n72_0_7, rfl, l_v72, u_v72, x_v720, x_v721, x_v722⟩ := hz9
              have hH : HT D cs A T (tk :: y0 :: O) ((tk, .inr (7, [.ref y0, .int y1, .int n72_0_2, .int n72_0_3, .int n72_0_4, .int n72_0_5, .int n72_0_6, .int n72_0_7])) :: (y0, .inl (cs.1, 900, .inl ft)) :: X) H := hH
              refine W.widen (k := 0) (n := 0) (Nat.le_of_ble_eq_true rfl) (Nat.le_of_ble_eq_true rfl) ?_
              refine lv_istore_n (lv' := [(2, .int v72), (4, .int 6), (3, .int p8_3), (0, .ref a0), (1, .int x1)]) hx hb dX3_readSum_75 rfl hl (by decide) rfl (fun ls hl => ?_)
              refine lv_aload_n hx hb dX3_readSum_76 rfl (lv_at hl 3 rfl) ?_
              refine lv_iload hx hb dX3_readSum_77 (lv_at hl 1 rfl) ?_
              refine lv_iconst (v := 0) hx hb dX3_readSum_79 (by decide) ?_
              refine tk_v hH hS hA (tr_V (n := 2) (As := [.int 6, .int 0]) hx hb hml hown hts hkb hH (ox_map hOX rfl) hks hE hS hA (s_LR_put l D cs kf T (tk :: y0 :: O) ((tk, .inr (7, [.ref y0, .int y1, .int n72_0_2, .int n72_0_3, .int n72_0_4, .int n72_0_5, .int n72_0_6, .int n72_0_7])) :: (y0, .inl (cs.1, 900, .inl ft)) :: X) a0 (6) (0) t_a0 (hO.sub (by decide))) kw_642 kw_644 ks_9 kw_4 kw_645 (by decide +kernel) ⟨Nat.le_of_ble_eq_true rfl, Nat.le_of_ble_eq_true rfl⟩ (HT.recv (ci := 3) hkb hH t_a0 (hO.no t_a0 (by decide)) rfl) rfl rfl hl.1 (Nat.le_of_ble_eq_true rfl) dX3_readSum_80 ⟨Nat.le_of_ble_eq_true rfl, Nat.le_of_ble_eq_true rfl⟩) (fun u H locs hz9 hH hS => ?_)
              have hz9 : u = (T, tk :: y0 :: O, (tk, .inr (7, [.ref y0, .int y1, .int n72_0_2, .int n72_0_3, .int n72_0_4, .int n72_0_5, .int n72_0_6, .int n72_0_7])) :: (y0, .inl (cs.1, 900, .inl ft)) :: X) := hz9
              subst hz9
              have hH : HT D cs A T (tk :: y0 :: O) ((tk, .inr (7, [.ref y0, .int y1, .int n72_0_2, .int n72_0_3, .int n72_0_4, .int n72_0_5, .int n72_0_6, .int n72_0_7])) :: (y0, .inl (cs.1, 900, .inl ft)) :: X) H := hH
              refine W.widen (k := 0) (n := 0) (Nat.le_of_ble_eq_true rfl) (Nat.le_of_ble_eq_true rfl) ?_
              obtain ⟨v83, ev83⟩ : ∃ y : Int32, y = p8_3 + 1 := ⟨_, rfl⟩
              have tv83 : v83.toInt = p8_3.toInt + (1) := by rw [ev83]; exact add_i rfl (by decide) (by omega) (by omega)
              refine lv_iinc (v := v83) (lv' := [(3, .int v83), (2, .int v72), (4, .int 6), (0, .ref a0), (1, .int x1)]) hx hb dX3_readSum_83 hl (k := 2) rfl (by rw [ev83]; rfl) (by decide) rfl (fun ls hl => ?_)
              refine lv_goto (tgt := 8) hx hb dX3_readSum_86 (by decide) ?_
              exact ih8 _ (by omega) v83 v72 n72_0_2 n72_0_3 n72_0_4 n72_0_5 n72_0_6 n72_0_7 _ _ _ rfl (by omega) (by omega) (by omega) (by omega) (by omega) (by omega) (by omega) (by omega) (by first | (refine LTI.st (fun _ _ => st_s) x_v20 x_v21 l_v2 u_v2 rfl) | (refine LTI.st (h19.2.2.2.tr (GL_nx (fun _ _ => st_sY (Or.inl x_v250)) px67)) x_v720 x_v721 l_v72 u_v72 ?_; omega) | (refine LTI.st (h19.2.2.2.tr (GL_nx (fun _ _ => st_sY (Or.inr x_v370)) px67)) x_v720 x_v721 l_v72 u_v72 ?_; omega)) (by omega) (by omega) hH hS (lv_sub hl [0, 1, 3, 4] rfl)
            · skip
              have tc52 := f_ne (k := 0) (by decide) c52
              replace x_v490 := x_v490.resolve_left tc52
              clear x_v491
              refine lv_iconst (v := 5) hx hb dX3_readSum_55 (by decide) ?_
              refine lv_goto (tgt := 61) hx hb dX3_readSum_56 (by decide) ?_
              refine lv_istore (lv' := [(4, .int 5), (3, .int p8_3), (2, .int p8_2), (0, .ref a0), (1, .int x1)]) hx hb dX3_readSum_61 hl (by decide) rfl (fun ls hl => ?_)
              refine lv_aload_n hx hb dX3_readSum_63 rfl (lv_at hl 3 rfl) ?_
              refine t_get (ci := 3) (lst := ft3 0 0) (C := RX3) (F := TX3) (N := 3) hx hb hts uX3 hown hkb hH t_a0 (hO.no t_a0 (by decide)) (fun _ h9 => h9) rfl rfl 0 (by decide) rfl kw_82 (fun _ h9 => h9) dX3_readSum_64 (fun v9 h9 => ?_)
              obtain ⟨v64, rfl, t_v64⟩ := h9
              have e9 := (hU7 _ _ t_v64).symm
              subst e9
              have hl9 := h19.1.lt (by omega)
              refine tk_v hH hS hA (tr_V (n := 0) (As := []) hx hb hml hown hts hkb hH (ox_map hOX rfl) hks hE hS hA (s_Tok_go l D cs kf T O X tk y0 y1 f8_102 f8_103 f8_104 f8_105 f8_106 f8_107 ft t tn t_tk t_y0 (by omega) (by omega) (by omega) (by omega) (by omega) (by omega) (by omega) htb (by have q9 := (h19.1).b; omega) (hO.sub (by decide))) kw_641 kw_453 kw_454 kw_3 kw_455 (by decide +kernel) ⟨Nat.le_of_ble_eq_true rfl, Nat.le_of_ble_eq_true rfl⟩ (x_recv (ci := 7) hkb hH 0 rfl rfl) rfl rfl hl.1 (Nat.le_of_ble_eq_true rfl) dX3_readSum_67 ⟨Nat.le_of_ble_eq_true rfl, Nat.le_of_ble_eq_true rfl⟩) (fun u H locs hz9 hH hS => ?_)
              obtain ⟨n67_0_2, n67_0_3, n67_0_4, n67_0_5, rfl, x_v670, x_v671, x_v672⟩ := hz9
              have px67 := TSS.nx h19.1 x_v671
              have hH : HT D cs A T (tk :: y0 :: O) ((tk, .inr (7, [.ref y0, .int y1, .int n67_0_2, .int n67_0_3, .int n67_0_4, .int n67_0_5, .int f8_106, .int f8_107])) :: (y0, .inl (cs.1, 900, .inl ft)) :: X) H := hH
              refine W.widen (k := 0) (n := 0) (Nat.le_of_ble_eq_true rfl) (Nat.le_of_ble_eq_true rfl) ?_
              refine lv_aload_n hx hb dX3_readSum_70 rfl (lv_at hl 3 rfl) ?_
              refine lv_iload_n hx hb dX3_readSum_71 rfl (lv_at hl 4 rfl) ?_
              refine tk_i hH hS hA (tr_V (n := 1) (As := [.int x1]) hx hb hml hown hts hkb hH (ox_map hOX rfl) hks hE hS hA (s_LR_readTerm0 l D cs kf T O X a0 x1 y0 y1 n67_0_2 n67_0_3 n67_0_4 n67_0_5 f8_106 f8_107 ft t tn tk t_a0 (by omega) (by omega) t_y0 (by omega) (by omega) (by omega) (by omega) (by omega) (by omega) (by omega) htb x_v670 t_tk hU7 (by omega) (hO.sub (by decide))) kw_652 kw_654 ks_11 kw_4 kw_655 (by decide +kernel) ⟨Nat.le_of_ble_eq_true rfl, Nat.le_of_ble_eq_true rfl⟩ (HT.recv (ci := 3) hkb hH t_a0 (hO.no t_a0 (by decide)) rfl) rfl rfl hl.1 (Nat.le_of_ble_eq_true rfl) dX3_readSum_72 ⟨Nat.le_of_ble_eq_true rfl, Nat.le_of_ble_eq_true rfl⟩) (fun v72 u H locs hz9 hH hS => ?_)
              obtain ⟨n72_0_2, n72_0_3, n72_0_4, n72_0_5, n72_0_6, n72_0_7, rfl, l_v72, u_v72, x_v720, x_v721, x_v722⟩ := hz9
              have hH : HT D cs A T (tk :: y0 :: O) ((tk, .inr (7, [.ref y0, .int y1, .int n72_0_2, .int n72_0_3, .int n72_0_4, .int n72_0_5, .int n72_0_6, .int n72_0_7])) :: (y0, .inl (cs.1, 900, .inl ft)) :: X) H := hH
              refine W.widen (k := 0) (n := 0) (Nat.le_of_ble_eq_true rfl) (Nat.le_of_ble_eq_true rfl) ?_
              refine lv_istore_n (lv' := [(2, .int v72), (4, .int 5), (3, .int p8_3), (0, .ref a0), (1, .int x1)]) hx hb dX3_readSum_75 rfl hl (by decide) rfl (fun ls hl => ?_)
              refine lv_aload_n hx hb dX3_readSum_76 rfl (lv_at hl 3 rfl) ?_
              refine lv_iload hx hb dX3_readSum_77 (lv_at hl 1 rfl) ?_
              refine lv_iconst (v := 0) hx hb dX3_readSum_79 (by decide) ?_
              refine tk_v hH hS hA (tr_V (n := 2) (As := [.int 5, .int 0]) hx hb hml hown hts hkb hH (ox_map hOX rfl) hks hE hS hA (s_LR_put l D cs kf T (tk :: y0 :: O) ((tk, .inr (7, [.ref y0, .int y1, .int n72_0_2, .int n72_0_3, .int n72_0_4, .int n72_0_5, .int n72_0_6, .int n72_0_7])) :: (y0, .inl (cs.1, 900, .inl ft)) :: X) a0 (5) (0) t_a0 (hO.sub (by decide))) kw_642 kw_644 ks_9 kw_4 kw_645 (by decide +kernel) ⟨Nat.le_of_ble_eq_true rfl, Nat.le_of_ble_eq_true rfl⟩ (HT.recv (ci := 3) hkb hH t_a0 (hO.no t_a0 (by decide)) rfl) rfl rfl hl.1 (Nat.le_of_ble_eq_true rfl) dX3_readSum_80 ⟨Nat.le_of_ble_eq_true rfl, Nat.le_of_ble_eq_true rfl⟩) (fun u H locs hz9 hH hS => ?_)
              have hz9 : u = (T, tk :: y0 :: O, (tk, .inr (7, [.ref y0, .int y1, .int n72_0_2, .int n72_0_3, .int n72_0_4, .int n72_0_5, .int n72_0_6, .int n72_0_7])) :: (y0, .inl (cs.1, 900, .inl ft)) :: X) := hz9
              subst hz9
              have hH : HT D cs A T (tk :: y0 :: O) ((tk, .inr (7, [.ref y0, .int y1, .int n72_0_2, .int n72_0_3, .int n72_0_4, .int n72_0_5, .int n72_0_6, .int n72_0_7])) :: (y0, .inl (cs.1, 900, .inl ft)) :: X) H := hH
              refine W.widen (k := 0) (n := 0) (Nat.le_of_ble_eq_true rfl) (Nat.le_of_ble_eq_true rfl) ?_
              obtain ⟨v83, ev83⟩ : ∃ y : Int32, y = p8_3 + 1 := ⟨_, rfl⟩
              have tv83 : v83.toInt = p8_3.toInt + (1) := by rw [ev83]; exact add_i rfl (by decide) (by omega) (by omega)
              refine lv_iinc (v := v83) (lv' := [(3, .int v83), (2, .int v72), (4, .int 5), (0, .ref a0), (1, .int x1)]) hx hb dX3_readSum_83 hl (k := 2) rfl (by rw [ev83]; rfl) (by decide) rfl (fun ls hl => ?_)
              refine lv_goto (tgt := 8) hx hb dX3_readSum_86 (by decide) ?_
              exact ih8 _ (by omega) v83 v72 n72_0_2 n72_0_3 n72_0_4 n72_0_5 n72_0_6 n72_0_7 _ _ _ rfl (by omega) (by omega) (by omega) (by omega) (by omega) (by omega) (by omega) (by omega) (by first | (refine LTI.st (fun _ _ => st_s) x_v20 x_v21 l_v2 u_v2 rfl) | (refine LTI.st (h19.2.2.2.tr (GL_nx (fun _ _ => st_sY (Or.inl x_v250)) px67)) x_v720 x_v721 l_v72 u_v72 ?_; omega) | (refine LTI.st (h19.2.2.2.tr (GL_nx (fun _ _ => st_sY (Or.inr x_v370)) px67)) x_v720 x_v721 l_v72 u_v72 ?_; omega)) (by omega) (by omega) hH hS (lv_sub hl [0, 1, 3, 4] rfl)
          · skip
            have tc28 := f_eq (k := 0) (by decide) c28
            clear x_v250
            replace x_v251 := x_v251.resolve_left (fun q9 => q9 tc28)
            refine lv_aload_n hx hb dX3_readSum_31 rfl (lv_at hl 2 rfl) ?_
            refine t_get (ci := 3) (lst := ft3 0 0) (C := RX3) (F := TX3) (N := 3) hx hb hts uX3 hown hkb hH t_a0 (hO.no t_a0 (by decide)) (fun _ h9 => h9) rfl rfl 0 (by decide) rfl kw_82 (fun _ h9 => h9) dX3_readSum_32 (fun v9 h9 => ?_)
            obtain ⟨v32, rfl, t_v32⟩ := h9
            have e9 := (hU7 _ _ t_v32).symm
            subst e9
            refine lv_bipush (v := 45) hx hb dX3_readSum_35 (by decide) ?_
            have z9_45 : (45 : Int32).toInt = 45 := by decide
            refine tk_i hH hS hA (tr_V (n := 1) (As := [.int 45]) hx hb hml hown hts hkb hH (ox_map hOX rfl) hks hE hS hA (s_Tok_isSign l D cs kf T O X tk (45) y0 y1 f8_102 f8_103 f8_104 f8_105 f8_106 f8_107 ft t tn 33 t_tk t_y0 (by omega) (by omega) (by omega) (by omega) (by omega) (by omega) (by omega) htb h19.1 (by decide) (by decide) (hO.sub (by decide))) kw_646 kw_615 kw_616 kw_3 kw_617 (by decide +kernel) ⟨Nat.le_of_ble_eq_true rfl, Nat.le_of_ble_eq_true rfl⟩ (x_recv (ci := 7) hkb hH 0 rfl rfl) rfl rfl hl.1 (Nat.le_of_ble_eq_true rfl) dX3_readSum_37 ⟨Nat.le_of_ble_eq_true rfl, Nat.le_of_ble_eq_true rfl⟩) (fun v37 u H locs hz9 hH hS => ?_)
            obtain ⟨rfl, l_v37, u_v37, x_v370, x_v371⟩ := hz9
            have hH : HT D cs A T (tk :: y0 :: O) ((tk, .inr (7, [.ref y0, .int y1, .int f8_102, .int f8_103, .int f8_104, .int f8_105, .int f8_106, .int f8_107])) :: (y0, .inl (cs.1, 900, .inl ft)) :: X) H := hH
            refine W.widen (k := 0) (n := 0) (Nat.le_of_ble_eq_true rfl) (Nat.le_of_ble_eq_true rfl) ?_
            refine lv_if_eq (tgt := 89) hx hb dX3_readSum_40 (by decide) (fun c40 => ?_) (fun c40 => ?_)
            · skip
              have tc40 := f_eq (k := 0) (by decide) c40
              clear x_v370
              replace x_v371 := x_v371.resolve_left (fun q9 => q9 tc40)
              have hk9 : p8_2.toInt = 0 ∨ GL t tn [(4, 0)] [] f8_102 f8_102 := by first | (refine Or.inl ?_; omega) | exact Or.inr (fun _ _ => st_sN (by omega)) | (by_cases q9 : p8_2.toInt = 0; exact Or.inl q9; refine Or.inr (fun _ _ => st_sN ?_); have q8 := LTI.ok i8t q9; have q7 := q8.1.b; rw [kd_end (by omega)]; decide)
              have hz9 := LTI.en i8t hk9
              refine lv_iload_n hx hb dX3_readSum_89 rfl (lv_at hl 1 rfl) ?_
              exact te_z hx hb hr hlocks (nar01 (by omega) (by omega)) hH hS (⟨f8_102, f8_103, f8_104, f8_105, f8_106, f8_107, rfl, by omega, by omega, hz9.1, hz9.2, (by omega)⟩) dX3_readSum_90
            · skip
              have tc40 := f_ne (k := 0) (by decide) c40
              replace x_v370 := x_v370.resolve_left tc40
              clear x_v371
              refine lv_aload_n hx hb dX3_readSum_43 rfl (lv_at hl 2 rfl) ?_
              refine t_get (ci := 3) (lst := ft3 0 0) (C := RX3) (F := TX3) (N := 3) hx hb hts uX3 hown hkb hH t_a0 (hO.no t_a0 (by decide)) (fun _ h9 => h9) rfl rfl 0 (by decide) rfl kw_82 (fun _ h9 => h9) dX3_readSum_44 (fun v9 h9 => ?_)
              obtain ⟨v44, rfl, t_v44⟩ := h9
              have e9 := (hU7 _ _ t_v44).symm
              subst e9
              refine lv_bipush (v := 43) hx hb dX3_readSum_47 (by decide) ?_
              have z9_43 : (43 : Int32).toInt = 43 := by decide
              refine tk_i hH hS hA (tr_V (n := 1) (As := [.int 43]) hx hb hml hown hts hkb hH (ox_map hOX rfl) hks hE hS hA (s_Tok_isSign l D cs kf T O X tk (43) y0 y1 f8_102 f8_103 f8_104 f8_105 f8_106 f8_107 ft t tn 32 t_tk t_y0 (by omega) (by omega) (by omega) (by omega) (by omega) (by omega) (by omega) htb h19.1 (by decide) (by decide) (hO.sub (by decide))) kw_646 kw_615 kw_616 kw_3 kw_617 (by decide +kernel) ⟨Nat.le_of_ble_eq_true rfl, Nat.le_of_ble_eq_true rfl⟩ (x_recv (ci := 7) hkb hH 0 rfl rfl) rfl rfl hl.1 (Nat.le_of_ble_eq_true rfl) dX3_readSum_49 ⟨Nat.le_of_ble_eq_true rfl, Nat.le_of_ble_eq_true rfl⟩) (fun v49 u H locs hz9 hH hS => ?_)
              obtain ⟨rfl, l_v49, u_v49, x_v490, x_v491⟩ := hz9
              have hH : HT D cs A T (tk :: y0 :: O) ((tk, .inr (7, [.ref y0, .int y1, .int f8_102, .int f8_103, .int f8_104, .int f8_105, .int f8_106, .int f8_107])) :: (y0, .inl (cs.1, 900, .inl ft)) :: X) H := hH
              refine W.widen (k := 0) (n := 0) (Nat.le_of_ble_eq_true rfl) (Nat.le_of_ble_eq_true rfl) ?_
              refine lv_if_eq (tgt := 59) hx hb dX3_readSum_52 (by decide) (fun c52 => ?_) (fun c52 => ?_)
              · skip
                have tc52 := f_eq (k := 0) (by decide) c52
                clear x_v490
                replace x_v491 := x_v491.resolve_left (fun q9 => q9 tc52)
                refine lv_bipush (v := 6) hx hb dX3_readSum_59 (by decide) ?_
                refine lv_istore (lv' := [(4, .int 6), (3, .int p8_3), (2, .int p8_2), (0, .ref a0), (1, .int x1)]) hx hb dX3_readSum_61 hl (by decide) rfl (fun ls hl => ?_)
                refine lv_aload_n hx hb dX3_readSum_63 rfl (lv_at hl 3 rfl) ?_
                refine t_get (ci := 3) (lst := ft3 0 0) (C := RX3) (F := TX3) (N := 3) hx hb hts uX3 hown hkb hH t_a0 (hO.no t_a0 (by decide)) (fun _ h9 => h9) rfl rfl 0 (by decide) rfl kw_82 (fun _ h9 => h9) dX3_readSum_64 (fun v9 h9 => ?_)
                obtain ⟨v64, rfl, t_v64⟩ := h9
                have e9 := (hU7 _ _ t_v64).symm
                subst e9
                have hl9 := h19.1.lt (by omega)
                refine tk_v hH hS hA (tr_V (n := 0) (As := []) hx hb hml hown hts hkb hH (ox_map hOX rfl) hks hE hS hA (s_Tok_go l D cs kf T O X tk y0 y1 f8_102 f8_103 f8_104 f8_105 f8_106 f8_107 ft t tn t_tk t_y0 (by omega) (by omega) (by omega) (by omega) (by omega) (by omega) (by omega) htb (by have q9 := (h19.1).b; omega) (hO.sub (by decide))) kw_641 kw_453 kw_454 kw_3 kw_455 (by decide +kernel) ⟨Nat.le_of_ble_eq_true rfl, Nat.le_of_ble_eq_true rfl⟩ (x_recv (ci := 7) hkb hH 0 rfl rfl) rfl rfl hl.1 (Nat.le_of_ble_eq_true rfl) dX3_readSum_67 ⟨Nat.le_of_ble_eq_true rfl, Nat.le_of_ble_eq_true rfl⟩) (fun u H locs hz9 hH hS => ?_)
                obtain ⟨n67_0_2, n67_0_3, n67_0_4, n67_0_5, rfl, x_v670, x_v671, x_v672⟩ := hz9
                have px67 := TSS.nx h19.1 x_v671
                have hH : HT D cs A T (tk :: y0 :: O) ((tk, .inr (7, [.ref y0, .int y1, .int n67_0_2, .int n67_0_3, .int n67_0_4, .int n67_0_5, .int f8_106, .int f8_107])) :: (y0, .inl (cs.1, 900, .inl ft)) :: X) H := hH
                refine W.widen (k := 0) (n := 0) (Nat.le_of_ble_eq_true rfl) (Nat.le_of_ble_eq_true rfl) ?_
                refine lv_aload_n hx hb dX3_readSum_70 rfl (lv_at hl 3 rfl) ?_
                refine lv_iload_n hx hb dX3_readSum_71 rfl (lv_at hl 4 rfl) ?_
                refine tk_i hH hS hA (tr_V (n := 1) (As := [.int x1]) hx hb hml hown hts hkb hH (ox_map hOX rfl) hks hE hS hA (s_LR_readTerm0 l D cs kf T O X a0 x1 y0 y1 n67_0_2 n67_0_3 n67_0_4 n67_0_5 f8_106 f8_107 ft t tn tk t_a0 (by omega) (by omega) t_y0 (by omega) (by omega) (by omega) (by omega) (by omega) (by omega) (by omega) htb x_v670 t_tk hU7 (by omega) (hO.sub (by decide))) kw_652 kw_654 ks_11 kw_4 kw_655 (by decide +kernel) ⟨Nat.le_of_ble_eq_true rfl, Nat.le_of_ble_eq_true rfl⟩ (HT.recv (ci := 3) hkb hH t_a0 (hO.no t_a0 (by decide)) rfl) rfl rfl hl.1 (Nat.le_of_ble_eq_true rfl) dX3_readSum_72 ⟨Nat.le_of_ble_eq_true rfl, Nat.le_of_ble_eq_true rfl⟩) (fun v72 u H locs hz9 hH hS => ?_)
                obtain ⟨n72_0_2, n72_0_3, n72_0_4, n72_0_5, n72_0_6, n72_0_7, rfl, l_v72, u_v72, x_v720, x_v721, x_v722⟩ := hz9
                have hH : HT D cs A T (tk :: y0 :: O) ((tk, .inr (7, [.ref y0, .int y1, .int n72_0_2, .int n72_0_3, .int n72_0_4, .int n72_0_5, .int n72_0_6, .int n72_0_7])) :: (y0, .inl (cs.1, 900, .inl ft)) :: X) H := hH
                refine W.widen (k := 0) (n := 0) (Nat.le_of_ble_eq_true rfl) (Nat.le_of_ble_eq_true rfl) ?_
                refine lv_istore_n (lv' := [(2, .int v72), (4, .int 6), (3, .int p8_3), (0, .ref a0), (1, .int x1)]) hx hb dX3_readSum_75 rfl hl (by decide) rfl (fun ls hl => ?_)
                refine lv_aload_n hx hb dX3_readSum_76 rfl (lv_at hl 3 rfl) ?_
                refine lv_iload hx hb dX3_readSum_77 (lv_at hl 1 rfl) ?_
                refine lv_iconst (v := 0) hx hb dX3_readSum_79 (by decide) ?_
                refine tk_v hH hS hA (tr_V (n := 2) (As := [.int 6, .int 0]) hx hb hml hown hts hkb hH (ox_map hOX rfl) hks hE hS hA (s_LR_put l D cs kf T (tk :: y0 :: O) ((tk, .inr (7, [.ref y0, .int y1, .int n72_0_2, .int n72_0_3, .int n72_0_4, .int n72_0_5, .int n72_0_6, .int n72_0_7])) :: (y0, .inl (cs.1, 900, .inl ft)) :: X) a0 (6) (0) t_a0 (hO.sub (by decide))) kw_642 kw_644 ks_9 kw_4 kw_645 (by decide +kernel) ⟨Nat.le_of_ble_eq_true rfl, Nat.le_of_ble_eq_true rfl⟩ (HT.recv (ci := 3) hkb hH t_a0 (hO.no t_a0 (by decide)) rfl) rfl rfl hl.1 (Nat.le_of_ble_eq_true rfl) dX3_readSum_80 ⟨Nat.le_of_ble_eq_true rfl, Nat.le_of_ble_eq_true rfl⟩) (fun u H locs hz9 hH hS => ?_)
                have hz9 : u = (T, tk :: y0 :: O, (tk, .inr (7, [.ref y0, .int y1, .int n72_0_2, .int n72_0_3, .int n72_0_4, .int n72_0_5, .int n72_0_6, .int n72_0_7])) :: (y0, .inl (cs.1, 900, .inl ft)) :: X) := hz9
                subst hz9
                have hH : HT D cs A T (tk :: y0 :: O) ((tk, .inr (7, [.ref y0, .int y1, .int n72_0_2, .int n72_0_3, .int n72_0_4, .int n72_0_5, .int n72_0_6, .int n72_0_7])) :: (y0, .inl (cs.1, 900, .inl ft)) :: X) H := hH
                refine W.widen (k := 0) (n := 0) (Nat.le_of_ble_eq_true rfl) (Nat.le_of_ble_eq_true rfl) ?_
                obtain ⟨v83, ev83⟩ : ∃ y : Int32, y = p8_3 + 1 := ⟨_, rfl⟩
                have tv83 : v83.toInt = p8_3.toInt + (1) := by rw [ev83]; exact add_i rfl (by decide) (by omega) (by omega)
                refine lv_iinc (v := v83) (lv' := [(3, .int v83), (2, .int v72), (4, .int 6), (0, .ref a0), (1, .int x1)]) hx hb dX3_readSum_83 hl (k := 2) rfl (by rw [ev83]; rfl) (by decide) rfl (fun ls hl => ?_)
                refine lv_goto (tgt := 8) hx hb dX3_readSum_86 (by decide) ?_
                exact ih8 _ (by omega) v83 v72 n72_0_2 n72_0_3 n72_0_4 n72_0_5 n72_0_6 n72_0_7 _ _ _ rfl (by omega) (by omega) (by omega) (by omega) (by omega) (by omega) (by omega) (by omega) (by first | (refine LTI.st (fun _ _ => st_s) x_v20 x_v21 l_v2 u_v2 rfl) | (refine LTI.st (h19.2.2.2.tr (GL_nx (fun _ _ => st_sY (Or.inl x_v250)) px67)) x_v720 x_v721 l_v72 u_v72 ?_; omega) | (refine LTI.st (h19.2.2.2.tr (GL_nx (fun _ _ => st_sY (Or.inr x_v370)) px67)) x_v720 x_v721 l_v72 u_v72 ?_; omega)) (by omega) (by omega) hH hS (lv_sub hl [0, 1, 3, 4] rfl)
              · skip
                have tc52 := f_ne (k := 0) (by decide) c52
                replace x_v490 := x_v490.resolve_left tc52
                clear x_v491
                refine lv_iconst (v := 5) hx hb dX3_readSum_55 (by decide) ?_
                refine lv_goto (tgt := 61) hx hb dX3_readSum_56 (by decide) ?_
                refine lv_istore (lv' := [(4, .int 5), (3, .int p8_3), (2, .int p8_2), (0, .ref a0), (1, .int x1)]) hx hb dX3_readSum_61 hl (by decide) rfl (fun ls hl => ?_)
                refine lv_aload_n hx hb dX3_readSum_63 rfl (lv_at hl 3 rfl) ?_
                refine t_get (ci := 3) (lst := ft3 0 0) (C := RX3) (F := TX3) (N := 3) hx hb hts uX3 hown hkb hH t_a0 (hO.no t_a0 (by decide)) (fun _ h9 => h9) rfl rfl 0 (by decide) rfl kw_82 (fun _ h9 => h9) dX3_readSum_64 (fun v9 h9 => ?_)
                obtain ⟨v64, rfl, t_v64⟩ := h9
                have e9 := (hU7 _ _ t_v64).symm
                subst e9
                have hl9 := h19.1.lt (by omega)
                refine tk_v hH hS hA (tr_V (n := 0) (As := []) hx hb hml hown hts hkb hH (ox_map hOX rfl) hks hE hS hA (s_Tok_go l D cs kf T O X tk y0 y1 f8_102 f8_103 f8_104 f8_105 f8_106 f8_107 ft t tn t_tk t_y0 (by omega) (by omega) (by omega) (by omega) (by omega) (by omega) (by omega) htb (by have q9 := (h19.1).b; omega) (hO.sub (by decide))) kw_641 kw_453 kw_454 kw_3 kw_455 (by decide +kernel) ⟨Nat.le_of_ble_eq_true rfl, Nat.le_of_ble_eq_true rfl⟩ (x_recv (ci := 7) hkb hH 0 rfl rfl) rfl rfl hl.1 (Nat.le_of_ble_eq_true rfl) dX3_readSum_67 ⟨Nat.le_of_ble_eq_true rfl, Nat.le_of_ble_eq_true rfl⟩) (fun u H locs hz9 hH hS => ?_)
                obtain ⟨n67_0_2, n67_0_3, n67_0_4, n67_0_5, rfl, x_v670, x_v671, x_v672⟩ := hz9
                have px67 := TSS.nx h19.1 x_v671
                have hH : HT D cs A T (tk :: y0 :: O) ((tk, .inr (7, [.ref y0, .int y1, .int n67_0_2, .int n67_0_3, .int n67_0_4, .int n67_0_5, .int f8_106, .int f8_107])) :: (y0, .inl (cs.1, 900, .inl ft)) :: X) H := hH
                refine W.widen (k := 0) (n := 0) (Nat.le_of_ble_eq_true rfl) (Nat.le_of_ble_eq_true rfl) ?_
                refine lv_aload_n hx hb dX3_readSum_70 rfl (lv_at hl 3 rfl) ?_
                refine lv_iload_n hx hb dX3_readSum_71 rfl (lv_at hl 4 rfl) ?_
                refine tk_i hH hS hA (tr_V (n := 1) (As := [.int x1]) hx hb hml hown hts hkb hH (ox_map hOX rfl) hks hE hS hA (s_LR_readTerm0 l D cs kf T O X a0 x1 y0 y1 n67_0_2 n67_0_3 n67_0_4 n67_0_5 f8_106 f8_107 ft t tn tk t_a0 (by omega) (by omega) t_y0 (by omega) (by omega) (by omega) (by omega) (by omega) (by omega) (by omega) htb x_v670 t_tk hU7 (by omega) (hO.sub (by decide))) kw_652 kw_654 ks_11 kw_4 kw_655 (by decide +kernel) ⟨Nat.le_of_ble_eq_true rfl, Nat.le_of_ble_eq_true rfl⟩ (HT.recv (ci := 3) hkb hH t_a0 (hO.no t_a0 (by decide)) rfl) rfl rfl hl.1 (Nat.le_of_ble_eq_true rfl) dX3_readSum_72 ⟨Nat.le_of_ble_eq_true rfl, Nat.le_of_ble_eq_true rfl⟩) (fun v72 u H locs hz9 hH hS => ?_)
                obtain ⟨n72_0_2, n72_0_3, n72_0_4, n72_0_5, n72_0_6, n72_0_7, rfl, l_v72, u_v72, x_v720, x_v721, x_v722⟩ := hz9
                have hH : HT D cs A T (tk :: y0 :: O) ((tk, .inr (7, [.ref y0, .int y1, .int n72_0_2, .int n72_0_3, .int n72_0_4, .int n72_0_5, .int n72_0_6, .int n72_0_7])) :: (y0, .inl (cs.1, 900, .inl ft)) :: X) H := hH
                refine W.widen (k := 0) (n := 0) (Nat.le_of_ble_eq_true rfl) (Nat.le_of_ble_eq_true rfl) ?_
                refine lv_istore_n (lv' := [(2, .int v72), (4, .int 5), (3, .int p8_3), (0, .ref a0), (1, .int x1)]) hx hb dX3_readSum_75 rfl hl (by decide) rfl (fun ls hl => ?_)
                refine lv_aload_n hx hb dX3_readSum_76 rfl (lv_at hl 3 rfl) ?_
                refine lv_iload hx hb dX3_readSum_77 (lv_at hl 1 rfl) ?_
                refine lv_iconst (v := 0) hx hb dX3_readSum_79 (by decide) ?_
                refine tk_v hH hS hA (tr_V (n := 2) (As := [.int 5, .int 0]) hx hb hml hown hts hkb hH (ox_map hOX rfl) hks hE hS hA (s_LR_put l D cs kf T (tk :: y0 :: O) ((tk, .inr (7, [.ref y0, .int y1, .int n72_0_2, .int n72_0_3, .int n72_0_4, .int n72_0_5, .int n72_0_6, .int n72_0_7])) :: (y0, .inl (cs.1, 900, .inl ft)) :: X) a0 (5) (0) t_a0 (hO.sub (by decide))) kw_642 kw_644 ks_9 kw_4 kw_645 (by decide +kernel) ⟨Nat.le_of_ble_eq_true rfl, Nat.le_of_ble_eq_true rfl⟩ (HT.recv (ci := 3) hkb hH t_a0 (hO.no t_a0 (by decide)) rfl) rfl rfl hl.1 (Nat.le_of_ble_eq_true rfl) dX3_readSum_80 ⟨Nat.le_of_ble_eq_true rfl, Nat.le_of_ble_eq_true rfl⟩) (fun u H locs hz9 hH hS => ?_)
                have hz9 : u = (T, tk :: y0 :: O, (tk, .inr (7, [.ref y0, .int y1, .int n72_0_2, .int n72_0_3, .int n72_0_4, .int n72_0_5, .int n72_0_6, .int n72_0_7])) :: (y0, .inl (cs.1, 900, .inl ft)) :: X) := hz9
                subst hz9
                have hH : HT D cs A T (tk :: y0 :: O) ((tk, .inr (7, [.ref y0, .int y1, .int n72_0_2, .int n72_0_3, .int n72_0_4, .int n72_0_5, .int n72_0_6, .int n72_0_7])) :: (y0, .inl (cs.1, 900, .inl ft)) :: X) H := hH
                refine W.widen (k := 0) (n := 0) (Nat.le_of_ble_eq_true rfl) (Nat.le_of_ble_eq_true rfl) ?_
                obtain ⟨v83, ev83⟩ : ∃ y : Int32, y = p8_3 + 1 := ⟨_, rfl⟩
                have tv83 : v83.toInt = p8_3.toInt + (1) := by rw [ev83]; exact add_i rfl (by decide) (by omega) (by omega)
                refine lv_iinc (v := v83) (lv' := [(3, .int v83), (2, .int v72), (4, .int 5), (0, .ref a0), (1, .int x1)]) hx hb dX3_readSum_83 hl (k := 2) rfl (by rw [ev83]; rfl) (by decide) rfl (fun ls hl => ?_)
                refine lv_goto (tgt := 8) hx hb dX3_readSum_86 (by decide) ?_
                exact ih8 _ (by omega) v83 v72 n72_0_2 n72_0_3 n72_0_4 n72_0_5 n72_0_6 n72_0_7 _ _ _ rfl (by omega) (by omega) (by omega) (by omega) (by omega) (by omega) (by omega) (by omega) (by first | (refine LTI.st (fun _ _ => st_s) x_v20 x_v21 l_v2 u_v2 rfl) | (refine LTI.st (h19.2.2.2.tr (GL_nx (fun _ _ => st_sY (Or.inl x_v250)) px67)) x_v720 x_v721 l_v72 u_v72 ?_; omega) | (refine LTI.st (h19.2.2.2.tr (GL_nx (fun _ _ => st_sY (Or.inr x_v370)) px67)) x_v720 x_v721 l_v72 u_v72 ?_; omega)) (by omega) (by omega) hH hS (lv_sub hl [0, 1, 3, 4] rfl)
  refine lv_istore_n (lv' := [(3, .int 0), (2, .int v2), (0, .ref a0), (1, .int x1)]) hx hb dX3_readSum_7 rfl hl (by decide) rfl (fun ls hl => ?_)
  have z_0 : (0 : Int32).toInt = 0 := by decide
  exact J8 _ 0 v2 n2_0_2 n2_0_3 n2_0_4 n2_0_5 n2_0_6 n2_0_7 _ _ _ rfl (by decide) (by decide) (by omega) (by omega) (by omega) (by omega) (by omega) (by omega) (by first | (refine LTI.st (fun _ _ => st_s) x_v20 x_v21 l_v2 u_v2 rfl) | (refine LTI.st (h19.2.2.2.tr (GL_nx (fun _ _ => st_sY (Or.inl x_v250)) px67)) x_v720 x_v721 l_v72 u_v72 ?_; omega) | (refine LTI.st (h19.2.2.2.tr (GL_nx (fun _ _ => st_sY (Or.inr x_v370)) px67)) x_v720 x_v721 l_v72 u_v72 ?_; omega)) (by omega) (by omega) hH hS (lv_sub hl [0, 1, 2, 3] rfl)
set_option maxHeartbeats 4000000 in
set_option maxRecDepth 100000 in
theorem s_LR_readUnit0 (l : Launch) (D : va_G) (cs : CS) (kf : KF) (T : TF) (O : List Nat) (X : va_W) (a0 : Nat) (x1 : Int32) (y0 : Nat) (y1 : Int32) (y2 : Int32) (y3 : Int32) (y4 : Int32) (y5 : Int32) (y6 : Int32) (y7 : Int32) (ft : Nat → Int32) (t : Tp) (tn : Nat) (tk : Nat) (t_a0 : T a0 = some (13, 0, 0)) (l_x1 : 0 ≤ x1.toInt) (u_x1 : x1.toInt ≤ 0) (t_y0 : T y0 = some (0, 900, 0)) (l_y1 : 0 ≤ y1.toInt) (u_y1 : y1.toInt ≤ 900) (l_y2 : 0 ≤ y2.toInt) (u_y2 : y2.toInt ≤ 900) (l_y3 : 0 ≤ y3.toInt) (u_y3 : y3.toInt ≤ 900) (hn : y1.toInt = (tn : Int)) (htb : TB ft t) (hto : TSS t tn y2 y3 y4 y5) (t_tk : T tk = some (17, 0, 0)) (hU7 : ∀ (b : Nat) (q : Nat), T b = some (17, 0, q) → b = tk) (hz : y6.toInt = 0) (hO : okO T (tk :: y0 :: O) [1, 13]) : TK l D cs kf yX3_readUnit cX3_readUnit 3 (some (.boolean)) { frames := 27, cells := 0, slots := 0, locals := 616 } [.ref a0, .int x1] T (tk :: y0 :: O) ((tk, .inr (7, [.ref y0, .int y1, .int y2, .int y3, .int y4, .int y5, .int y6, .int y7])) :: (y0, .inl (cs.1, 900, .inl ft)) :: X) (Ti D cs (fun r u => ∃ (n0_2 : Int32) (n0_3 : Int32) (n0_4 : Int32) (n0_5 : Int32) (n0_6 : Int32) (n0_7 : Int32), u = (T, tk :: y0 :: O, (tk, .inr (7, [.ref y0, .int y1, .int n0_2, .int n0_3, .int n0_4, .int n0_5, .int n0_6, .int n0_7])) :: (y0, .inl (cs.1, 900, .inl ft)) :: X) ∧ 0 ≤ r.toInt ∧ r.toInt ≤ 1 ∧ (r.toInt = 0 ∨ (TSS t tn n0_2 n0_3 n0_4 n0_5 ∧ n0_6.toInt = 0 ∧ n0_7.toInt = y7.toInt ∧ GL t tn [(5, 0)] [] y2 n0_2)) ∧ (r.toInt ≠ 0 ∨ BL t tn [(5, 0)] y2 n0_6 n0_7) ∧ (y2.toInt ≤ n0_2.toInt ∧ n0_2.toInt ≤ n0_3.toInt ∧ n0_3.toInt ≤ y1.toInt))) := by
  refine tk_of (by decide) (Nat.le_of_ble_eq_true rfl) (fun p e s m below meth c ls A H locs hx hb hr hml hown hts hlocks hnm hkb hH hS hA hOX hks hE hl => ?_)
  have hown : s.vm.findClass RX3 = some m.cls := hown
  have hl : lv_has ls 3 [(0, .ref a0), (1, .int x1)] := hl
  have hOXf := hOX
  have hb9 := hto.b
  have hc9 := hto.cs
  refine lv_aload_n hx hb dX3_readUnit_0 rfl (lv_at hl 0 rfl) ?_
  refine t_get (ci := 3) (lst := ft3 0 0) (C := RX3) (F := TX3) (N := 3) hx hb hts uX3 hown hkb hH t_a0 (hO.no t_a0 (by decide)) (fun _ h9 => h9) rfl rfl 0 (by decide) rfl kw_82 (fun _ h9 => h9) dX3_readUnit_1 (fun v9 h9 => ?_)
  obtain ⟨v1, rfl, t_v1⟩ := h9
  have e9 := (hU7 _ _ t_v1).symm
  subst e9
  refine va_ldcS (q := kf.1 10) hx hb hown (hks ("FootholdWall$LawReader", 65, "not", 10) (by decide +kernel)) dX3_readUnit_4 ?_
  refine tk_i hH hS hA (tr_V (n := 1) (As := [.ref (kf.1 10)]) hx hb hml hown hts hkb hH (ox_map hOX rfl) hks hE hS hA (s_Tok_isWord l D cs kf T O X tk 10 y0 y1 y2 y3 y4 y5 y6 y7 ft t tn 15 t_tk (by decide) t_y0 (by omega) (by omega) (by omega) (by omega) (by omega) (by omega) (by omega) htb hto (by decide) (by decide) (hO.sub (by decide))) kw_635 kw_551 kw_552 kw_3 kw_553 (by decide +kernel) ⟨Nat.le_of_ble_eq_true rfl, Nat.le_of_ble_eq_true rfl⟩ (x_recv (ci := 7) hkb hH 0 rfl rfl) rfl rfl hl.1 (Nat.le_of_ble_eq_true rfl) dX3_readUnit_6 ⟨Nat.le_of_ble_eq_true rfl, Nat.le_of_ble_eq_true rfl⟩) (fun v6 u H locs hz9 hH hS => ?_)
  obtain ⟨rfl, l_v6, u_v6, x_v60, x_v61⟩ := hz9
  have hH : HT D cs A T (tk :: y0 :: O) ((tk, .inr (7, [.ref y0, .int y1, .int y2, .int y3, .int y4, .int y5, .int y6, .int y7])) :: (y0, .inl (cs.1, 900, .inl ft)) :: X) H := hH
  refine W.widen (k := 0) (n := 0) (Nat.le_of_ble_eq_true rfl) (Nat.le_of_ble_eq_true rfl) ?_
  refine lv_if_eq (tgt := 40) hx hb dX3_readUnit_9 (by decide) (fun c9 => ?_) (fun c9 => ?_)
  · skip
    have tc9 := f_eq (k := 0) (by decide) c9
    clear x_v60
    replace x_v61 := x_v61.resolve_left (fun q9 => q9 tc9)
    refine lv_aload_n hx hb dX3_readUnit_40 rfl (lv_at hl 0 rfl) ?_
    refine t_get (ci := 3) (lst := ft3 0 0) (C := RX3) (F := TX3) (N := 3) hx hb hts uX3 hown hkb hH t_a0 (hO.no t_a0 (by decide)) (fun _ h9 => h9) rfl rfl 0 (by decide) rfl kw_82 (fun _ h9 => h9) dX3_readUnit_41 (fun v9 h9 => ?_)
    obtain ⟨v41, rfl, t_v41⟩ := h9
    have e9 := (hU7 _ _ t_v41).symm
    subst e9
    refine lv_bipush (v := 91) hx hb dX3_readUnit_44 (by decide) ?_
    have z9_91 : (91 : Int32).toInt = 91 := by decide
    refine tk_i hH hS hA (tr_V (n := 1) (As := [.int 91]) hx hb hml hown hts hkb hH (ox_map hOX rfl) hks hE hS hA (s_Tok_isSign l D cs kf T O X tk (91) y0 y1 y2 y3 y4 y5 y6 y7 ft t tn 37 t_tk t_y0 (by omega) (by omega) (by omega) (by omega) (by omega) (by omega) (by omega) htb hto (by decide) (by decide) (hO.sub (by decide))) kw_646 kw_615 kw_616 kw_3 kw_617 (by decide +kernel) ⟨Nat.le_of_ble_eq_true rfl, Nat.le_of_ble_eq_true rfl⟩ (x_recv (ci := 7) hkb hH 0 rfl rfl) rfl rfl hl.1 (Nat.le_of_ble_eq_true rfl) dX3_readUnit_46 ⟨Nat.le_of_ble_eq_true rfl, Nat.le_of_ble_eq_true rfl⟩) (fun v46 u H locs hz9 hH hS => ?_)
    obtain ⟨rfl, l_v46, u_v46, x_v460, x_v461⟩ := hz9
    have hH : HT D cs A T (tk :: y0 :: O) ((tk, .inr (7, [.ref y0, .int y1, .int y2, .int y3, .int y4, .int y5, .int y6, .int y7])) :: (y0, .inl (cs.1, 900, .inl ft)) :: X) H := hH
    refine W.widen (k := 0) (n := 0) (Nat.le_of_ble_eq_true rfl) (Nat.le_of_ble_eq_true rfl) ?_
    refine lv_if_eq (tgt := 88) hx hb dX3_readUnit_49 (by decide) (fun c49 => ?_) (fun c49 => ?_)
    · skip
      have tc49 := f_eq (k := 0) (by decide) c49
      clear x_v460
      replace x_v461 := x_v461.resolve_left (fun q9 => q9 tc49)
      have g88 : GL t tn [(5, 0)] [(3, 0), (21, 0)] y2 y2 := fun _ _ => st_uS (by omega) (by omega)
      refine lv_aload_n hx hb dX3_readUnit_88 rfl (lv_at hl 0 rfl) ?_
      refine lv_iload_n hx hb dX3_readUnit_89 rfl (lv_at hl 1 rfl) ?_
      refine tk_i hH hS hA (tr_V (n := 1) (As := [.int x1]) hx hb hml hown hts hkb hH (ox_map hOX rfl) hks hE hS hA (s_LR_readSum0 l D cs kf T O X a0 x1 y0 y1 y2 y3 y4 y5 y6 y7 ft t tn tk t_a0 (by omega) (by omega) t_y0 (by omega) (by omega) (by omega) (by omega) (by omega) (by omega) (by omega) htb hto t_tk hU7 (by omega) (hO.sub (by decide))) kw_648 kw_650 ks_10 kw_4 kw_651 (by decide +kernel) ⟨Nat.le_of_ble_eq_true rfl, Nat.le_of_ble_eq_true rfl⟩ (HT.recv (ci := 3) hkb hH t_a0 (hO.no t_a0 (by decide)) rfl) rfl rfl hl.1 (Nat.le_of_ble_eq_true rfl) dX3_readUnit_90 ⟨Nat.le_of_ble_eq_true rfl, Nat.le_of_ble_eq_true rfl⟩) (fun v90 u H locs hz9 hH hS => ?_)
      obtain ⟨n90_0_2, n90_0_3, n90_0_4, n90_0_5, n90_0_6, n90_0_7, rfl, l_v90, u_v90, x_v900, x_v901, x_v902⟩ := hz9
      have hH : HT D cs A T (tk :: y0 :: O) ((tk, .inr (7, [.ref y0, .int y1, .int n90_0_2, .int n90_0_3, .int n90_0_4, .int n90_0_5, .int n90_0_6, .int n90_0_7])) :: (y0, .inl (cs.1, 900, .inl ft)) :: X) H := hH
      refine W.widen (k := 0) (n := 0) (Nat.le_of_ble_eq_true rfl) (Nat.le_of_ble_eq_true rfl) ?_
      refine lv_if_ne (tgt := 98) hx hb dX3_readUnit_93 (by decide) (fun c93 => ?_) (fun c93 => ?_)
      · skip
        have tc93 := f_ne (k := 0) (by decide) c93
        replace x_v900 := x_v900.resolve_left tc93
        clear x_v901
        have g98 := g88.tr (GL.cons x_v900.2.2.2)
        have hc98 := x_v900.1.cs
        refine lv_aload_n hx hb dX3_readUnit_98 rfl (lv_at hl 0 rfl) ?_
        refine t_get (ci := 3) (lst := ft3 0 0) (C := RX3) (F := TX3) (N := 3) hx hb hts uX3 hown hkb hH t_a0 (hO.no t_a0 (by decide)) (fun _ h9 => h9) rfl rfl 0 (by decide) rfl kw_82 (fun _ h9 => h9) dX3_readUnit_99 (fun v9 h9 => ?_)
        obtain ⟨v99, rfl, t_v99⟩ := h9
        have e9 := (hU7 _ _ t_v99).symm
        subst e9
        refine lv_bipush (v := 61) hx hb dX3_readUnit_102 (by decide) ?_
        have z9_61 : (61 : Int32).toInt = 61 := by decide
        refine tk_i hH hS hA (tr_V (n := 1) (As := [.int 61]) hx hb hml hown hts hkb hH (ox_map hOX rfl) hks hE hS hA (s_Tok_isSign l D cs kf T O X tk (61) y0 y1 n90_0_2 n90_0_3 n90_0_4 n90_0_5 n90_0_6 n90_0_7 ft t tn 39 t_tk t_y0 (by omega) (by omega) (by omega) (by omega) (by omega) (by omega) (by omega) htb x_v900.1 (by decide) (by decide) (hO.sub (by decide))) kw_646 kw_615 kw_616 kw_3 kw_617 (by decide +kernel) ⟨Nat.le_of_ble_eq_true rfl, Nat.le_of_ble_eq_true rfl⟩ (x_recv (ci := 7) hkb hH 0 rfl rfl) rfl rfl hl.1 (Nat.le_of_ble_eq_true rfl) dX3_readUnit_104 ⟨Nat.le_of_ble_eq_true rfl, Nat.le_of_ble_eq_true rfl⟩) (fun v104 u H locs hz9 hH hS => ?_)
        obtain ⟨rfl, l_v104, u_v104, x_v1040, x_v1041⟩ := hz9
        have hH : HT D cs A T (tk :: y0 :: O) ((tk, .inr (7, [.ref y0, .int y1, .int n90_0_2, .int n90_0_3, .int n90_0_4, .int n90_0_5, .int n90_0_6, .int n90_0_7])) :: (y0, .inl (cs.1, 900, .inl ft)) :: X) H := hH
        refine W.widen (k := 0) (n := 0) (Nat.le_of_ble_eq_true rfl) (Nat.le_of_ble_eq_true rfl) ?_
        refine lv_if_eq (tgt := 115) hx hb dX3_readUnit_107 (by decide) (fun c107 => ?_) (fun c107 => ?_)
        · skip
          have tc107 := f_eq (k := 0) (by decide) c107
          clear x_v1040
          replace x_v1041 := x_v1041.resolve_left (fun q9 => q9 tc107)
          refine lv_aload_n hx hb dX3_readUnit_115 rfl (lv_at hl 0 rfl) ?_
          refine t_get (ci := 3) (lst := ft3 0 0) (C := RX3) (F := TX3) (N := 3) hx hb hts uX3 hown hkb hH t_a0 (hO.no t_a0 (by decide)) (fun _ h9 => h9) rfl rfl 0 (by decide) rfl kw_82 (fun _ h9 => h9) dX3_readUnit_116 (fun v9 h9 => ?_)
          obtain ⟨v116, rfl, t_v116⟩ := h9
          have e9 := (hU7 _ _ t_v116).symm
          subst e9
          refine lv_bipush (v := 60) hx hb dX3_readUnit_119 (by decide) ?_
          have z9_60 : (60 : Int32).toInt = 60 := by decide
          refine tk_i hH hS hA (tr_V (n := 1) (As := [.int 60]) hx hb hml hown hts hkb hH (ox_map hOX rfl) hks hE hS hA (s_Tok_isSign l D cs kf T O X tk (60) y0 y1 n90_0_2 n90_0_3 n90_0_4 n90_0_5 n90_0_6 n90_0_7 ft t tn 40 t_tk t_y0 (by omega) (by omega) (by omega) (by omega) (by omega) (by omega) (by omega) htb x_v900.1 (by decide) (by decide) (hO.sub (by decide))) kw_646 kw_615 kw_616 kw_3 kw_617 (by decide +kernel) ⟨Nat.le_of_ble_eq_true rfl, Nat.le_of_ble_eq_true rfl⟩ (x_recv (ci := 7) hkb hH 0 rfl rfl) rfl rfl hl.1 (Nat.le_of_ble_eq_true rfl) dX3_readUnit_121 ⟨Nat.le_of_ble_eq_true rfl, Nat.le_of_ble_eq_true rfl⟩) (fun v121 u H locs hz9 hH hS => ?_)
          obtain ⟨rfl, l_v121, u_v121, x_v1210, x_v1211⟩ := hz9
          have hH : HT D cs A T (tk :: y0 :: O) ((tk, .inr (7, [.ref y0, .int y1, .int n90_0_2, .int n90_0_3, .int n90_0_4, .int n90_0_5, .int n90_0_6, .int n90_0_7])) :: (y0, .inl (cs.1, 900, .inl ft)) :: X) H := hH
          refine W.widen (k := 0) (n := 0) (Nat.le_of_ble_eq_true rfl) (Nat.le_of_ble_eq_true rfl) ?_
          refine lv_if_eq (tgt := 132) hx hb dX3_readUnit_124 (by decide) (fun c124 => ?_) (fun c124 => ?_)
          · skip
            have tc124 := f_eq (k := 0) (by decide) c124
            clear x_v1210
            replace x_v1211 := x_v1211.resolve_left (fun q9 => q9 tc124)
            refine lv_bipush (v := 10) hx hb dX3_readUnit_132 (by decide) ?_
            refine lv_istore_n (lv' := [(2, .int 10), (0, .ref a0), (1, .int x1)]) hx hb dX3_readUnit_134 rfl hl (by decide) rfl (fun ls hl => ?_)
            refine lv_iload_n hx hb dX3_readUnit_135 rfl (lv_at hl 0 rfl) ?_
            refine lv_bipush (v := 10) hx hb dX3_readUnit_136 (by decide) ?_
            refine lv_icmp_ne (tgt := 162) hx hb dX3_readUnit_138 (by decide) (fun c138 => absurd c138 (by decide)) (fun _ => ?_)
            refine lv_aload_n hx hb dX3_readUnit_141 rfl (lv_at hl 1 rfl) ?_
            refine t_get (ci := 3) (lst := ft3 0 0) (C := RX3) (F := TX3) (N := 3) hx hb hts uX3 hown hkb hH t_a0 (hO.no t_a0 (by decide)) (fun _ h9 => h9) rfl rfl 0 (by decide) rfl kw_82 (fun _ h9 => h9) dX3_readUnit_142 (fun v9 h9 => ?_)
            obtain ⟨v142, rfl, t_v142⟩ := h9
            have e9 := (hU7 _ _ t_v142).symm
            subst e9
            refine lv_bipush (v := 62) hx hb dX3_readUnit_145 (by decide) ?_
            have z9_62 : (62 : Int32).toInt = 62 := by decide
            refine tk_i hH hS hA (tr_V (n := 1) (As := [.int 62]) hx hb hml hown hts hkb hH (ox_map hOX rfl) hks hE hS hA (s_Tok_isSign l D cs kf T O X tk (62) y0 y1 n90_0_2 n90_0_3 n90_0_4 n90_0_5 n90_0_6 n90_0_7 ft t tn 41 t_tk t_y0 (by omega) (by omega) (by omega) (by omega) (by omega) (by omega) (by omega) htb x_v900.1 (by decide) (by decide) (hO.sub (by decide))) kw_646 kw_615 kw_616 kw_3 kw_617 (by decide +kernel) ⟨Nat.le_of_ble_eq_true rfl, Nat.le_of_ble_eq_true rfl⟩ (x_recv (ci := 7) hkb hH 0 rfl rfl) rfl rfl hl.1 (Nat.le_of_ble_eq_true rfl) dX3_readUnit_147 ⟨Nat.le_of_ble_eq_true rfl, Nat.le_of_ble_eq_true rfl⟩) (fun v147 u H locs hz9 hH hS => ?_)
            obtain ⟨rfl, l_v147, u_v147, x_v1470, x_v1471⟩ := hz9
            have hH : HT D cs A T (tk :: y0 :: O) ((tk, .inr (7, [.ref y0, .int y1, .int n90_0_2, .int n90_0_3, .int n90_0_4, .int n90_0_5, .int n90_0_6, .int n90_0_7])) :: (y0, .inl (cs.1, 900, .inl ft)) :: X) H := hH
            refine W.widen (k := 0) (n := 0) (Nat.le_of_ble_eq_true rfl) (Nat.le_of_ble_eq_true rfl) ?_
            refine lv_if_ne (tgt := 162) hx hb dX3_readUnit_150 (by decide) (fun c150 => ?_) (fun c150 => ?_)
            · skip
              have tc150 := f_ne (k := 0) (by decide) c150
              replace x_v1470 := x_v1470.resolve_left tc150
              clear x_v1471
              refine lv_aload_n hx hb dX3_readUnit_162 rfl (lv_at hl 1 rfl) ?_
              refine t_get (ci := 3) (lst := ft3 0 0) (C := RX3) (F := TX3) (N := 3) hx hb hts uX3 hown hkb hH t_a0 (hO.no t_a0 (by decide)) (fun _ h9 => h9) rfl rfl 0 (by decide) rfl kw_82 (fun _ h9 => h9) dX3_readUnit_163 (fun v9 h9 => ?_)
              obtain ⟨v163, rfl, t_v163⟩ := h9
              have e9 := (hU7 _ _ t_v163).symm
              subst e9
              refine tk_v hH hS hA (tr_V (n := 0) (As := []) hx hb hml hown hts hkb hH (ox_map hOX rfl) hks hE hS hA (s_Tok_go l D cs kf T O X tk y0 y1 n90_0_2 n90_0_3 n90_0_4 n90_0_5 n90_0_6 n90_0_7 ft t tn t_tk t_y0 (by omega) (by omega) (by omega) (by omega) (by omega) (by omega) (by omega) htb (by have q9 := (x_v900.1).b; omega) (hO.sub (by decide))) kw_641 kw_453 kw_454 kw_3 kw_455 (by decide +kernel) ⟨Nat.le_of_ble_eq_true rfl, Nat.le_of_ble_eq_true rfl⟩ (x_recv (ci := 7) hkb hH 0 rfl rfl) rfl rfl hl.1 (Nat.le_of_ble_eq_true rfl) dX3_readUnit_166 ⟨Nat.le_of_ble_eq_true rfl, Nat.le_of_ble_eq_true rfl⟩) (fun u H locs hz9 hH hS => ?_)
              obtain ⟨n166_0_2, n166_0_3, n166_0_4, n166_0_5, rfl, x_v1660, x_v1661, x_v1662⟩ := hz9
              have px166 := TSS.nx x_v900.1 x_v1661
              have hH : HT D cs A T (tk :: y0 :: O) ((tk, .inr (7, [.ref y0, .int y1, .int n166_0_2, .int n166_0_3, .int n166_0_4, .int n166_0_5, .int n90_0_6, .int n90_0_7])) :: (y0, .inl (cs.1, 900, .inl ft)) :: X) H := hH
              refine W.widen (k := 0) (n := 0) (Nat.le_of_ble_eq_true rfl) (Nat.le_of_ble_eq_true rfl) ?_
              have g169 : GL t tn [(5, 0)] [(3, 0)] y2 n166_0_2 := g98.tr (GL_nx (fun _ _ => st_cY (by omega)) px166)
              refine lv_aload_n hx hb dX3_readUnit_169 rfl (lv_at hl 1 rfl) ?_
              refine lv_iload_n hx hb dX3_readUnit_170 rfl (lv_at hl 2 rfl) ?_
              refine tk_i hH hS hA (tr_V (n := 1) (As := [.int x1]) hx hb hml hown hts hkb hH (ox_map hOX rfl) hks hE hS hA (s_LR_readSum0 l D cs kf T O X a0 x1 y0 y1 n166_0_2 n166_0_3 n166_0_4 n166_0_5 n90_0_6 n90_0_7 ft t tn tk t_a0 (by omega) (by omega) t_y0 (by omega) (by omega) (by omega) (by omega) (by omega) (by omega) (by omega) htb x_v1660 t_tk hU7 (by omega) (hO.sub (by decide))) kw_648 kw_650 ks_10 kw_4 kw_651 (by decide +kernel) ⟨Nat.le_of_ble_eq_true rfl, Nat.le_of_ble_eq_true rfl⟩ (HT.recv (ci := 3) hkb hH t_a0 (hO.no t_a0 (by decide)) rfl) rfl rfl hl.1 (Nat.le_of_ble_eq_true rfl) dX3_readUnit_171 ⟨Nat.le_of_ble_eq_true rfl, Nat.le_of_ble_eq_true rfl⟩) (fun v171 u H locs hz9 hH hS => ?_)
              obtain ⟨n171_0_2, n171_0_3, n171_0_4, n171_0_5, n171_0_6, n171_0_7, rfl, l_v171, u_v171, x_v1710, x_v1711, x_v1712⟩ := hz9
              have hH : HT D cs A T (tk :: y0 :: O) ((tk, .inr (7, [.ref y0, .int y1, .int n171_0_2, .int n171_0_3, .int n171_0_4, .int n171_0_5, .int n171_0_6, .int n171_0_7])) :: (y0, .inl (cs.1, 900, .inl ft)) :: X) H := hH
              refine W.widen (k := 0) (n := 0) (Nat.le_of_ble_eq_true rfl) (Nat.le_of_ble_eq_true rfl) ?_
              refine lv_if_ne (tgt := 179) hx hb dX3_readUnit_174 (by decide) (fun c174 => ?_) (fun c174 => ?_)
              · skip
                have tc174 := f_ne (k := 0) (by decide) c174
                replace x_v1710 := x_v1710.resolve_left tc174
                clear x_v1711
                refine lv_aload_n hx hb dX3_readUnit_179 rfl (lv_at hl 1 rfl) ?_
                refine lv_iload_n hx hb dX3_readUnit_180 rfl (lv_at hl 0 rfl) ?_
                refine lv_iconst (v := 0) hx hb dX3_readUnit_181 (by decide) ?_
                refine tk_v hH hS hA (tr_V (n := 2) (As := [.int 10, .int 0]) hx hb hml hown hts hkb hH (ox_map hOX rfl) hks hE hS hA (s_LR_put l D cs kf T (tk :: y0 :: O) ((tk, .inr (7, [.ref y0, .int y1, .int n171_0_2, .int n171_0_3, .int n171_0_4, .int n171_0_5, .int n171_0_6, .int n171_0_7])) :: (y0, .inl (cs.1, 900, .inl ft)) :: X) a0 (10) (0) t_a0 (hO.sub (by decide))) kw_642 kw_644 ks_9 kw_4 kw_645 (by decide +kernel) ⟨Nat.le_of_ble_eq_true rfl, Nat.le_of_ble_eq_true rfl⟩ (HT.recv (ci := 3) hkb hH t_a0 (hO.no t_a0 (by decide)) rfl) rfl rfl hl.1 (Nat.le_of_ble_eq_true rfl) dX3_readUnit_182 ⟨Nat.le_of_ble_eq_true rfl, Nat.le_of_ble_eq_true rfl⟩) (fun u H locs hz9 hH hS => ?_)
                have hz9 : u = (T, tk :: y0 :: O, (tk, .inr (7, [.ref y0, .int y1, .int n171_0_2, .int n171_0_3, .int n171_0_4, .int n171_0_5, .int n171_0_6, .int n171_0_7])) :: (y0, .inl (cs.1, 900, .inl ft)) :: X) := hz9
                subst hz9
                have hH : HT D cs A T (tk :: y0 :: O) ((tk, .inr (7, [.ref y0, .int y1, .int n171_0_2, .int n171_0_3, .int n171_0_4, .int n171_0_5, .int n171_0_6, .int n171_0_7])) :: (y0, .inl (cs.1, 900, .inl ft)) :: X) H := hH
                refine W.widen (k := 0) (n := 0) (Nat.le_of_ble_eq_true rfl) (Nat.le_of_ble_eq_true rfl) ?_
                refine lv_iconst (v := 1) hx hb dX3_readUnit_185 (by decide) ?_
                have z9_1 : (1 : Int32).toInt = 1 := by decide
                exact te_z hx hb hr hlocks (by rfl) hH hS (⟨n171_0_2, n171_0_3, n171_0_4, n171_0_5, n171_0_6, n171_0_7, rfl, by decide, by decide, (Or.inr ⟨x_v1710.1, by omega, by omega, (by first | (refine g20.tr x_v240.2.2.2) | (refine g70.tr (GL_nx (fun _ _ => st_xY x_v760.2.2.1) x_v760.2.1)) | (refine g169.tr x_v1710.2.2.2))⟩), Or.inl (by decide), (by omega)⟩) dX3_readUnit_186
              · skip
                have tc174 := f_eq (k := 0) (by decide) c174
                clear x_v1710
                replace x_v1711 := x_v1711.resolve_left (fun q9 => q9 tc174)
                refine lv_iconst (v := 0) hx hb dX3_readUnit_177 (by decide) ?_
                have z9_0 : (0 : Int32).toInt = 0 := by decide
                exact te_z hx hb hr hlocks (by rfl) hH hS (⟨n171_0_2, n171_0_3, n171_0_4, n171_0_5, n171_0_6, n171_0_7, rfl, by decide, by decide, Or.inl (by decide), (Or.inr (by first | (refine BL_f (fun _ _ => st_uND ?_) x_v140 (by decide) x_v141 ?_ <;> omega) | (refine g20.bd x_v241) | (refine BL_f (fun _ _ => st_uBD ?_) x_v540 (by decide) x_v541 ?_ <;> omega) | (refine g60.bd (BL.cons x_v641)) | (refine g70.bd (BL_f (fun _ _ => st_xN x_v761.1) x_v761.2.1 (by decide) x_v761.2.2 ?_); omega) | (refine g88.bd (BL.cons x_v901)) | (refine g98.bd (BL_f (fun _ _ => st_cN ?_) x_v1580 (by decide) x_v1581 ?_) <;> omega) | (refine g169.bd x_v1711))), (by omega)⟩) dX3_readUnit_178
            · skip
              have tc150 := f_eq (k := 0) (by decide) c150
              clear x_v1470
              replace x_v1471 := x_v1471.resolve_left (fun q9 => q9 tc150)
              refine lv_aload_n hx hb dX3_readUnit_153 rfl (lv_at hl 1 rfl) ?_
              refine t_get (ci := 3) (lst := ft3 0 0) (C := RX3) (F := TX3) (N := 3) hx hb hts uX3 hown hkb hH t_a0 (hO.no t_a0 (by decide)) (fun _ h9 => h9) rfl rfl 0 (by decide) rfl kw_82 (fun _ h9 => h9) dX3_readUnit_154 (fun v9 h9 => ?_)
              obtain ⟨v154, rfl, t_v154⟩ := h9
              have e9 := (hU7 _ _ t_v154).symm
              subst e9
              refine lv_iconst (v := 2) hx hb dX3_readUnit_157 (by decide) ?_
              have z9_2 : (2 : Int32).toInt = 2 := by decide
              refine tk_i hH hS hA (tr_V (n := 1) (As := [.int 2]) hx hb hml hown hts hkb hH (ox_map hOX rfl) hks hE hS hA (s_Tok_refuse l D cs kf T O X tk (2) y0 y1 n90_0_2 n90_0_3 n90_0_4 n90_0_5 n90_0_6 n90_0_7 ft t tn t_tk t_y0 (by omega) (by omega) (by omega) (by omega) (by omega) (by omega) (by omega) htb x_v900.1 (hO.sub (by decide))) kw_640 kw_580 kw_581 kw_3 kw_582 (by decide +kernel) ⟨Nat.le_of_ble_eq_true rfl, Nat.le_of_ble_eq_true rfl⟩ (x_recv (ci := 7) hkb hH 0 rfl rfl) rfl rfl hl.1 (Nat.le_of_ble_eq_true rfl) dX3_readUnit_158 ⟨Nat.le_of_ble_eq_true rfl, Nat.le_of_ble_eq_true rfl⟩) (fun v158 u H locs hz9 hH hS => ?_)
              obtain ⟨n158_0_6, n158_0_7, rfl, l_v158, u_v158, x_v1580, x_v1581⟩ := hz9
              have hH : HT D cs A T (tk :: y0 :: O) ((tk, .inr (7, [.ref y0, .int y1, .int n90_0_2, .int n90_0_3, .int n90_0_4, .int n90_0_5, .int n158_0_6, .int n158_0_7])) :: (y0, .inl (cs.1, 900, .inl ft)) :: X) H := hH
              refine W.widen (k := 0) (n := 0) (Nat.le_of_ble_eq_true rfl) (Nat.le_of_ble_eq_true rfl) ?_
              exact te_z hx hb hr hlocks (nar01 (by omega) (by omega)) hH hS (⟨n90_0_2, n90_0_3, n90_0_4, n90_0_5, n158_0_6, n158_0_7, rfl, by omega, by omega, (Or.inl (by omega)), (Or.inr (by first | (refine BL_f (fun _ _ => st_uND ?_) x_v140 (by decide) x_v141 ?_ <;> omega) | (refine g20.bd x_v241) | (refine BL_f (fun _ _ => st_uBD ?_) x_v540 (by decide) x_v541 ?_ <;> omega) | (refine g60.bd (BL.cons x_v641)) | (refine g70.bd (BL_f (fun _ _ => st_xN x_v761.1) x_v761.2.1 (by decide) x_v761.2.2 ?_); omega) | (refine g88.bd (BL.cons x_v901)) | (refine g98.bd (BL_f (fun _ _ => st_cN ?_) x_v1580 (by decide) x_v1581 ?_) <;> omega) | (refine g169.bd x_v1711))), (by omega)⟩) dX3_readUnit_161
          · skip
            have tc124 := f_ne (k := 0) (by decide) c124
            replace x_v1210 := x_v1210.resolve_left tc124
            clear x_v1211
            refine lv_bipush (v := 9) hx hb dX3_readUnit_127 (by decide) ?_
            refine lv_goto (tgt := 134) hx hb dX3_readUnit_129 (by decide) ?_
            refine lv_istore_n (lv' := [(2, .int 9), (0, .ref a0), (1, .int x1)]) hx hb dX3_readUnit_134 rfl hl (by decide) rfl (fun ls hl => ?_)
            refine lv_iload_n hx hb dX3_readUnit_135 rfl (lv_at hl 0 rfl) ?_
            refine lv_bipush (v := 10) hx hb dX3_readUnit_136 (by decide) ?_
            refine lv_icmp_ne (tgt := 162) hx hb dX3_readUnit_138 (by decide) (fun _ => ?_) (fun c138 => absurd c138 (by decide))
            refine lv_aload_n hx hb dX3_readUnit_162 rfl (lv_at hl 1 rfl) ?_
            refine t_get (ci := 3) (lst := ft3 0 0) (C := RX3) (F := TX3) (N := 3) hx hb hts uX3 hown hkb hH t_a0 (hO.no t_a0 (by decide)) (fun _ h9 => h9) rfl rfl 0 (by decide) rfl kw_82 (fun _ h9 => h9) dX3_readUnit_163 (fun v9 h9 => ?_)
            obtain ⟨v163, rfl, t_v163⟩ := h9
            have e9 := (hU7 _ _ t_v163).symm
            subst e9
            refine tk_v hH hS hA (tr_V (n := 0) (As := []) hx hb hml hown hts hkb hH (ox_map hOX rfl) hks hE hS hA (s_Tok_go l D cs kf T O X tk y0 y1 n90_0_2 n90_0_3 n90_0_4 n90_0_5 n90_0_6 n90_0_7 ft t tn t_tk t_y0 (by omega) (by omega) (by omega) (by omega) (by omega) (by omega) (by omega) htb (by have q9 := (x_v900.1).b; omega) (hO.sub (by decide))) kw_641 kw_453 kw_454 kw_3 kw_455 (by decide +kernel) ⟨Nat.le_of_ble_eq_true rfl, Nat.le_of_ble_eq_true rfl⟩ (x_recv (ci := 7) hkb hH 0 rfl rfl) rfl rfl hl.1 (Nat.le_of_ble_eq_true rfl) dX3_readUnit_166 ⟨Nat.le_of_ble_eq_true rfl, Nat.le_of_ble_eq_true rfl⟩) (fun u H locs hz9 hH hS => ?_)
            obtain ⟨n166_0_2, n166_0_3, n166_0_4, n166_0_5, rfl, x_v1660, x_v1661, x_v1662⟩ := hz9
            have px166 := TSS.nx x_v900.1 x_v1661
            have hH : HT D cs A T (tk :: y0 :: O) ((tk, .inr (7, [.ref y0, .int y1, .int n166_0_2, .int n166_0_3, .int n166_0_4, .int n166_0_5, .int n90_0_6, .int n90_0_7])) :: (y0, .inl (cs.1, 900, .inl ft)) :: X) H := hH
            refine W.widen (k := 0) (n := 0) (Nat.le_of_ble_eq_true rfl) (Nat.le_of_ble_eq_true rfl) ?_
            have g169 : GL t tn [(5, 0)] [(3, 0)] y2 n166_0_2 := g98.tr (GL_nx (fun _ _ => st_cY (by omega)) px166)
            refine lv_aload_n hx hb dX3_readUnit_169 rfl (lv_at hl 1 rfl) ?_
            refine lv_iload_n hx hb dX3_readUnit_170 rfl (lv_at hl 2 rfl) ?_
            refine tk_i hH hS hA (tr_V (n := 1) (As := [.int x1]) hx hb hml hown hts hkb hH (ox_map hOX rfl) hks hE hS hA (s_LR_readSum0 l D cs kf T O X a0 x1 y0 y1 n166_0_2 n166_0_3 n166_0_4 n166_0_5 n90_0_6 n90_0_7 ft t tn tk t_a0 (by omega) (by omega) t_y0 (by omega) (by omega) (by omega) (by omega) (by omega) (by omega) (by omega) htb x_v1660 t_tk hU7 (by omega) (hO.sub (by decide))) kw_648 kw_650 ks_10 kw_4 kw_651 (by decide +kernel) ⟨Nat.le_of_ble_eq_true rfl, Nat.le_of_ble_eq_true rfl⟩ (HT.recv (ci := 3) hkb hH t_a0 (hO.no t_a0 (by decide)) rfl) rfl rfl hl.1 (Nat.le_of_ble_eq_true rfl) dX3_readUnit_171 ⟨Nat.le_of_ble_eq_true rfl, Nat.le_of_ble_eq_true rfl⟩) (fun v171 u H locs hz9 hH hS => ?_)
            obtain ⟨n171_0_2, n171_0_3, n171_0_4, n171_0_5, n171_0_6, n171_0_7, rfl, l_v171, u_v171, x_v1710, x_v1711, x_v1712⟩ := hz9
            have hH : HT D cs A T (tk :: y0 :: O) ((tk, .inr (7, [.ref y0, .int y1, .int n171_0_2, .int n171_0_3, .int n171_0_4, .int n171_0_5, .int n171_0_6, .int n171_0_7])) :: (y0, .inl (cs.1, 900, .inl ft)) :: X) H := hH
            refine W.widen (k := 0) (n := 0) (Nat.le_of_ble_eq_true rfl) (Nat.le_of_ble_eq_true rfl) ?_
            refine lv_if_ne (tgt := 179) hx hb dX3_readUnit_174 (by decide) (fun c174 => ?_) (fun c174 => ?_)
            · skip
              have tc174 := f_ne (k := 0) (by decide) c174
              replace x_v1710 := x_v1710.resolve_left tc174
              clear x_v1711
              refine lv_aload_n hx hb dX3_readUnit_179 rfl (lv_at hl 1 rfl) ?_
              refine lv_iload_n hx hb dX3_readUnit_180 rfl (lv_at hl 0 rfl) ?_
              refine lv_iconst (v := 0) hx hb dX3_readUnit_181 (by decide) ?_
              refine tk_v hH hS hA (tr_V (n := 2) (As := [.int 9, .int 0]) hx hb hml hown hts hkb hH (ox_map hOX rfl) hks hE hS hA (s_LR_put l D cs kf T (tk :: y0 :: O) ((tk, .inr (7, [.ref y0, .int y1, .int n171_0_2, .int n171_0_3, .int n171_0_4, .int n171_0_5, .int n171_0_6, .int n171_0_7])) :: (y0, .inl (cs.1, 900, .inl ft)) :: X) a0 (9) (0) t_a0 (hO.sub (by decide))) kw_642 kw_644 ks_9 kw_4 kw_645 (by decide +kernel) ⟨Nat.le_of_ble_eq_true rfl, Nat.le_of_ble_eq_true rfl⟩ (HT.recv (ci := 3) hkb hH t_a0 (hO.no t_a0 (by decide)) rfl) rfl rfl hl.1 (Nat.le_of_ble_eq_true rfl) dX3_readUnit_182 ⟨Nat.le_of_ble_eq_true rfl, Nat.le_of_ble_eq_true rfl⟩) (fun u H locs hz9 hH hS => ?_)
              have hz9 : u = (T, tk :: y0 :: O, (tk, .inr (7, [.ref y0, .int y1, .int n171_0_2, .int n171_0_3, .int n171_0_4, .int n171_0_5, .int n171_0_6, .int n171_0_7])) :: (y0, .inl (cs.1, 900, .inl ft)) :: X) := hz9
              subst hz9
              have hH : HT D cs A T (tk :: y0 :: O) ((tk, .inr (7, [.ref y0, .int y1, .int n171_0_2, .int n171_0_3, .int n171_0_4, .int n171_0_5, .int n171_0_6, .int n171_0_7])) :: (y0, .inl (cs.1, 900, .inl ft)) :: X) H := hH
              refine W.widen (k := 0) (n := 0) (Nat.le_of_ble_eq_true rfl) (Nat.le_of_ble_eq_true rfl) ?_
              refine lv_iconst (v := 1) hx hb dX3_readUnit_185 (by decide) ?_
              have z9_1 : (1 : Int32).toInt = 1 := by decide
              exact te_z hx hb hr hlocks (by rfl) hH hS (⟨n171_0_2, n171_0_3, n171_0_4, n171_0_5, n171_0_6, n171_0_7, rfl, by decide, by decide, (Or.inr ⟨x_v1710.1, by omega, by omega, (by first | (refine g20.tr x_v240.2.2.2) | (refine g70.tr (GL_nx (fun _ _ => st_xY x_v760.2.2.1) x_v760.2.1)) | (refine g169.tr x_v1710.2.2.2))⟩), Or.inl (by decide), (by omega)⟩) dX3_readUnit_186
            · skip
              have tc174 := f_eq (k := 0) (by decide) c174
              clear x_v1710
              replace x_v1711 := x_v1711.resolve_left (fun q9 => q9 tc174)
              refine lv_iconst (v := 0) hx hb dX3_readUnit_177 (by decide) ?_
              have z9_0 : (0 : Int32).toInt = 0 := by decide
              exact te_z hx hb hr hlocks (by rfl) hH hS (⟨n171_0_2, n171_0_3, n171_0_4, n171_0_5, n171_0_6, n171_0_7, rfl, by decide, by decide, Or.inl (by decide), (Or.inr (by first | (refine BL_f (fun _ _ => st_uND ?_) x_v140 (by decide) x_v141 ?_ <;> omega) | (refine g20.bd x_v241) | (refine BL_f (fun _ _ => st_uBD ?_) x_v540 (by decide) x_v541 ?_ <;> omega) | (refine g60.bd (BL.cons x_v641)) | (refine g70.bd (BL_f (fun _ _ => st_xN x_v761.1) x_v761.2.1 (by decide) x_v761.2.2 ?_); omega) | (refine g88.bd (BL.cons x_v901)) | (refine g98.bd (BL_f (fun _ _ => st_cN ?_) x_v1580 (by decide) x_v1581 ?_) <;> omega) | (refine g169.bd x_v1711))), (by omega)⟩) dX3_readUnit_178
        · skip
          have tc107 := f_ne (k := 0) (by decide) c107
          replace x_v1040 := x_v1040.resolve_left tc107
          clear x_v1041
          refine lv_bipush (v := 8) hx hb dX3_readUnit_110 (by decide) ?_
          refine lv_goto (tgt := 134) hx hb dX3_readUnit_112 (by decide) ?_
          refine lv_istore_n (lv' := [(2, .int 8), (0, .ref a0), (1, .int x1)]) hx hb dX3_readUnit_134 rfl hl (by decide) rfl (fun ls hl => ?_)
          refine lv_iload_n hx hb dX3_readUnit_135 rfl (lv_at hl 0 rfl) ?_
          refine lv_bipush (v := 10) hx hb dX3_readUnit_136 (by decide) ?_
          refine lv_icmp_ne (tgt := 162) hx hb dX3_readUnit_138 (by decide) (fun _ => ?_) (fun c138 => absurd c138 (by decide))
          refine lv_aload_n hx hb dX3_readUnit_162 rfl (lv_at hl 1 rfl) ?_
          refine t_get (ci := 3) (lst := ft3 0 0) (C := RX3) (F := TX3) (N := 3) hx hb hts uX3 hown hkb hH t_a0 (hO.no t_a0 (by decide)) (fun _ h9 => h9) rfl rfl 0 (by decide) rfl kw_82 (fun _ h9 => h9) dX3_readUnit_163 (fun v9 h9 => ?_)
          obtain ⟨v163, rfl, t_v163⟩ := h9
          have e9 := (hU7 _ _ t_v163).symm
          subst e9
          refine tk_v hH hS hA (tr_V (n := 0) (As := []) hx hb hml hown hts hkb hH (ox_map hOX rfl) hks hE hS hA (s_Tok_go l D cs kf T O X tk y0 y1 n90_0_2 n90_0_3 n90_0_4 n90_0_5 n90_0_6 n90_0_7 ft t tn t_tk t_y0 (by omega) (by omega) (by omega) (by omega) (by omega) (by omega) (by omega) htb (by have q9 := (x_v900.1).b; omega) (hO.sub (by decide))) kw_641 kw_453 kw_454 kw_3 kw_455 (by decide +kernel) ⟨Nat.le_of_ble_eq_true rfl, Nat.le_of_ble_eq_true rfl⟩ (x_recv (ci := 7) hkb hH 0 rfl rfl) rfl rfl hl.1 (Nat.le_of_ble_eq_true rfl) dX3_readUnit_166 ⟨Nat.le_of_ble_eq_true rfl, Nat.le_of_ble_eq_true rfl⟩) (fun u H locs hz9 hH hS => ?_)
          obtain ⟨n166_0_2, n166_0_3, n166_0_4, n166_0_5, rfl, x_v1660, x_v1661, x_v1662⟩ := hz9
          have px166 := TSS.nx x_v900.1 x_v1661
          have hH : HT D cs A T (tk :: y0 :: O) ((tk, .inr (7, [.ref y0, .int y1, .int n166_0_2, .int n166_0_3, .int n166_0_4, .int n166_0_5, .int n90_0_6, .int n90_0_7])) :: (y0, .inl (cs.1, 900, .inl ft)) :: X) H := hH
          refine W.widen (k := 0) (n := 0) (Nat.le_of_ble_eq_true rfl) (Nat.le_of_ble_eq_true rfl) ?_
          have g169 : GL t tn [(5, 0)] [(3, 0)] y2 n166_0_2 := g98.tr (GL_nx (fun _ _ => st_cY (by omega)) px166)
          refine lv_aload_n hx hb dX3_readUnit_169 rfl (lv_at hl 1 rfl) ?_
          refine lv_iload_n hx hb dX3_readUnit_170 rfl (lv_at hl 2 rfl) ?_
          refine tk_i hH hS hA (tr_V (n := 1) (As := [.int x1]) hx hb hml hown hts hkb hH (ox_map hOX rfl) hks hE hS hA (s_LR_readSum0 l D cs kf T O X a0 x1 y0 y1 n166_0_2 n166_0_3 n166_0_4 n166_0_5 n90_0_6 n90_0_7 ft t tn tk t_a0 (by omega) (by omega) t_y0 (by omega) (by omega) (by omega) (by omega) (by omega) (by omega) (by omega) htb x_v1660 t_tk hU7 (by omega) (hO.sub (by decide))) kw_648 kw_650 ks_10 kw_4 kw_651 (by decide +kernel) ⟨Nat.le_of_ble_eq_true rfl, Nat.le_of_ble_eq_true rfl⟩ (HT.recv (ci := 3) hkb hH t_a0 (hO.no t_a0 (by decide)) rfl) rfl rfl hl.1 (Nat.le_of_ble_eq_true rfl) dX3_readUnit_171 ⟨Nat.le_of_ble_eq_true rfl, Nat.le_of_ble_eq_true rfl⟩) (fun v171 u H locs hz9 hH hS => ?_)
          obtain ⟨n171_0_2, n171_0_3, n171_0_4, n171_0_5, n171_0_6, n171_0_7, rfl, l_v171, u_v171, x_v1710, x_v1711, x_v1712⟩ := hz9
          have hH : HT D cs A T (tk :: y0 :: O) ((tk, .inr (7, [.ref y0, .int y1, .int n171_0_2, .int n171_0_3, .int n171_0_4, .int n171_0_5, .int n171_0_6, .int n171_0_7])) :: (y0, .inl (cs.1, 900, .inl ft)) :: X) H := hH
          refine W.widen (k := 0) (n := 0) (Nat.le_of_ble_eq_true rfl) (Nat.le_of_ble_eq_true rfl) ?_
          refine lv_if_ne (tgt := 179) hx hb dX3_readUnit_174 (by decide) (fun c174 => ?_) (fun c174 => ?_)
          · skip
            have tc174 := f_ne (k := 0) (by decide) c174
            replace x_v1710 := x_v1710.resolve_left tc174
            clear x_v1711
            refine lv_aload_n hx hb dX3_readUnit_179 rfl (lv_at hl 1 rfl) ?_
            refine lv_iload_n hx hb dX3_readUnit_180 rfl (lv_at hl 0 rfl) ?_
            refine lv_iconst (v := 0) hx hb dX3_readUnit_181 (by decide) ?_
            refine tk_v hH hS hA (tr_V (n := 2) (As := [.int 8, .int 0]) hx hb hml hown hts hkb hH (ox_map hOX rfl) hks hE hS hA (s_LR_put l D cs kf T (tk :: y0 :: O) ((tk, .inr (7, [.ref y0, .int y1, .int n171_0_2, .int n171_0_3, .int n171_0_4, .int n171_0_5, .int n171_0_6, .int n171_0_7])) :: (y0, .inl (cs.1, 900, .inl ft)) :: X) a0 (8) (0) t_a0 (hO.sub (by decide))) kw_642 kw_644 ks_9 kw_4 kw_645 (by decide +kernel) ⟨Nat.le_of_ble_eq_true rfl, Nat.le_of_ble_eq_true rfl⟩ (HT.recv (ci := 3) hkb hH t_a0 (hO.no t_a0 (by decide)) rfl) rfl rfl hl.1 (Nat.le_of_ble_eq_true rfl) dX3_readUnit_182 ⟨Nat.le_of_ble_eq_true rfl, Nat.le_of_ble_eq_true rfl⟩) (fun u H locs hz9 hH hS => ?_)
            have hz9 : u = (T, tk :: y0 :: O, (tk, .inr (7, [.ref y0, .int y1, .int n171_0_2, .int n171_0_3, .int n171_0_4, .int n171_0_5, .int n171_0_6, .int n171_0_7])) :: (y0, .inl (cs.1, 900, .inl ft)) :: X) := hz9
            subst hz9
            have hH : HT D cs A T (tk :: y0 :: O) ((tk, .inr (7, [.ref y0, .int y1, .int n171_0_2, .int n171_0_3, .int n171_0_4, .int n171_0_5, .int n171_0_6, .int n171_0_7])) :: (y0, .inl (cs.1, 900, .inl ft)) :: X) H := hH
            refine W.widen (k := 0) (n := 0) (Nat.le_of_ble_eq_true rfl) (Nat.le_of_ble_eq_true rfl) ?_
            refine lv_iconst (v := 1) hx hb dX3_readUnit_185 (by decide) ?_
            have z9_1 : (1 : Int32).toInt = 1 := by decide
            exact te_z hx hb hr hlocks (by rfl) hH hS (⟨n171_0_2, n171_0_3, n171_0_4, n171_0_5, n171_0_6, n171_0_7, rfl, by decide, by decide, (Or.inr ⟨x_v1710.1, by omega, by omega, (by first | (refine g20.tr x_v240.2.2.2) | (refine g70.tr (GL_nx (fun _ _ => st_xY x_v760.2.2.1) x_v760.2.1)) | (refine g169.tr x_v1710.2.2.2))⟩), Or.inl (by decide), (by omega)⟩) dX3_readUnit_186
          · skip
            have tc174 := f_eq (k := 0) (by decide) c174
            clear x_v1710
            replace x_v1711 := x_v1711.resolve_left (fun q9 => q9 tc174)
            refine lv_iconst (v := 0) hx hb dX3_readUnit_177 (by decide) ?_
            have z9_0 : (0 : Int32).toInt = 0 := by decide
            exact te_z hx hb hr hlocks (by rfl) hH hS (⟨n171_0_2, n171_0_3, n171_0_4, n171_0_5, n171_0_6, n171_0_7, rfl, by decide, by decide, Or.inl (by decide), (Or.inr (by first | (refine BL_f (fun _ _ => st_uND ?_) x_v140 (by decide) x_v141 ?_ <;> omega) | (refine g20.bd x_v241) | (refine BL_f (fun _ _ => st_uBD ?_) x_v540 (by decide) x_v541 ?_ <;> omega) | (refine g60.bd (BL.cons x_v641)) | (refine g70.bd (BL_f (fun _ _ => st_xN x_v761.1) x_v761.2.1 (by decide) x_v761.2.2 ?_); omega) | (refine g88.bd (BL.cons x_v901)) | (refine g98.bd (BL_f (fun _ _ => st_cN ?_) x_v1580 (by decide) x_v1581 ?_) <;> omega) | (refine g169.bd x_v1711))), (by omega)⟩) dX3_readUnit_178
      · skip
        have tc93 := f_eq (k := 0) (by decide) c93
        clear x_v900
        replace x_v901 := x_v901.resolve_left (fun q9 => q9 tc93)
        refine lv_iconst (v := 0) hx hb dX3_readUnit_96 (by decide) ?_
        have z9_0 : (0 : Int32).toInt = 0 := by decide
        exact te_z hx hb hr hlocks (by rfl) hH hS (⟨n90_0_2, n90_0_3, n90_0_4, n90_0_5, n90_0_6, n90_0_7, rfl, by decide, by decide, Or.inl (by decide), (Or.inr (by first | (refine BL_f (fun _ _ => st_uND ?_) x_v140 (by decide) x_v141 ?_ <;> omega) | (refine g20.bd x_v241) | (refine BL_f (fun _ _ => st_uBD ?_) x_v540 (by decide) x_v541 ?_ <;> omega) | (refine g60.bd (BL.cons x_v641)) | (refine g70.bd (BL_f (fun _ _ => st_xN x_v761.1) x_v761.2.1 (by decide) x_v761.2.2 ?_); omega) | (refine g88.bd (BL.cons x_v901)) | (refine g98.bd (BL_f (fun _ _ => st_cN ?_) x_v1580 (by decide) x_v1581 ?_) <;> omega) | (refine g169.bd x_v1711))), (by omega)⟩) dX3_readUnit_97
    · skip
      have tc49 := f_ne (k := 0) (by decide) c49
      replace x_v460 := x_v460.resolve_left tc49
      clear x_v461
      refine lv_aload_n hx hb dX3_readUnit_52 rfl (lv_at hl 0 rfl) ?_
      refine lv_iload_n hx hb dX3_readUnit_53 rfl (lv_at hl 1 rfl) ?_
      refine tk_i hH hS hA (tr_V (n := 1) (As := [.int x1]) hx hb hml hown hts hkb hH (ox_map hOX rfl) hks hE hS hA (s_LR_enter0 l D cs kf T O X a0 x1 y0 y1 y2 y3 y4 y5 y6 y7 ft t tn tk t_a0 (by omega) (by omega) t_y0 (by omega) (by omega) (by omega) (by omega) (by omega) (by omega) (by omega) htb hto t_tk hU7 (hO.sub (by decide))) kw_636 kw_638 ks_8 kw_4 kw_639 (by decide +kernel) ⟨Nat.le_of_ble_eq_true rfl, Nat.le_of_ble_eq_true rfl⟩ (HT.recv (ci := 3) hkb hH t_a0 (hO.no t_a0 (by decide)) rfl) rfl rfl hl.1 (Nat.le_of_ble_eq_true rfl) dX3_readUnit_54 ⟨Nat.le_of_ble_eq_true rfl, Nat.le_of_ble_eq_true rfl⟩) (fun v54 u H locs hz9 hH hS => ?_)
      obtain ⟨n54_0_2, n54_0_3, n54_0_4, n54_0_5, rfl, l_v54, u_v54, x_v540, x_v541, x_v542⟩ := hz9
      have hH : HT D cs A T (tk :: y0 :: O) ((tk, .inr (7, [.ref y0, .int y1, .int n54_0_2, .int n54_0_3, .int n54_0_4, .int n54_0_5, .int y6, .int y7])) :: (y0, .inl (cs.1, 900, .inl ft)) :: X) H := hH
      refine W.widen (k := 0) (n := 0) (Nat.le_of_ble_eq_true rfl) (Nat.le_of_ble_eq_true rfl) ?_
      refine lv_if_eq (tgt := 86) hx hb dX3_readUnit_57 (by decide) (fun c57 => ?_) (fun c57 => ?_)
      · skip
        have tc57 := f_eq (k := 0) (by decide) c57
        exfalso; omega
      · skip
        have tc57 := f_ne (k := 0) (by decide) c57
        have g60 : GL t tn [(5, 0)] [(8, 1), (20, 38)] y2 n54_0_2 := GL_nx (fun _ _ => st_uB (by omega) (by decide)) x_v541
        refine lv_aload_n hx hb dX3_readUnit_60 rfl (lv_at hl 0 rfl) ?_
        refine lv_iload_n hx hb dX3_readUnit_61 rfl (lv_at hl 1 rfl) ?_
        refine lv_iconst (v := 1) hx hb dX3_readUnit_62 (by decide) ?_
        refine lv_iadd hx hb dX3_readUnit_63 ?_
        refine lv_topi (fun v63 ev63 => ?_)
        have tv63 : v63.toInt = x1.toInt + (1) := by rw [ev63]; exact add_i rfl (by decide : (1 : Int32).toInt = 1) (by omega) (by omega)
        refine tk_i hH hS hA (tr_V (n := 1) (As := [.int v63]) hx hb hml hown hts hkb hH (ox_map hOX rfl) hks hE hS hA (s_LR_readTruth1 l D cs kf T O X a0 v63 y0 y1 n54_0_2 n54_0_3 n54_0_4 n54_0_5 y6 y7 ft t tn tk t_a0 (by omega) (by omega) t_y0 (by omega) (by omega) (by omega) (by omega) (by omega) (by omega) (by omega) htb x_v540 t_tk hU7 (by omega) (hO.sub (by decide))) kw_622 kw_624 ks_5 kw_4 kw_625 (by decide +kernel) ⟨Nat.le_of_ble_eq_true rfl, Nat.le_of_ble_eq_true rfl⟩ (HT.recv (ci := 3) hkb hH t_a0 (hO.no t_a0 (by decide)) rfl) rfl rfl hl.1 (Nat.le_of_ble_eq_true rfl) dX3_readUnit_64 ⟨Nat.le_of_ble_eq_true rfl, Nat.le_of_ble_eq_true rfl⟩) (fun v64 u H locs hz9 hH hS => ?_)
        obtain ⟨n64_0_2, n64_0_3, n64_0_4, n64_0_5, n64_0_6, n64_0_7, rfl, l_v64, u_v64, x_v640, x_v641, x_v642⟩ := hz9
        have hH : HT D cs A T (tk :: y0 :: O) ((tk, .inr (7, [.ref y0, .int y1, .int n64_0_2, .int n64_0_3, .int n64_0_4, .int n64_0_5, .int n64_0_6, .int n64_0_7])) :: (y0, .inl (cs.1, 900, .inl ft)) :: X) H := hH
        refine W.widen (k := 0) (n := 0) (Nat.le_of_ble_eq_true rfl) (Nat.le_of_ble_eq_true rfl) ?_
        refine lv_if_eq (tgt := 86) hx hb dX3_readUnit_67 (by decide) (fun c67 => ?_) (fun c67 => ?_)
        · skip
          have tc67 := f_eq (k := 0) (by decide) c67
          clear x_v640
          replace x_v641 := x_v641.resolve_left (fun q9 => q9 tc67)
          refine lv_iconst (v := 0) hx hb dX3_readUnit_86 (by decide) ?_
          have z9_0 : (0 : Int32).toInt = 0 := by decide
          exact te_z hx hb hr hlocks (by rfl) hH hS (⟨n64_0_2, n64_0_3, n64_0_4, n64_0_5, n64_0_6, n64_0_7, rfl, by decide, by decide, Or.inl (by decide), (Or.inr (by first | (refine BL_f (fun _ _ => st_uND ?_) x_v140 (by decide) x_v141 ?_ <;> omega) | (refine g20.bd x_v241) | (refine BL_f (fun _ _ => st_uBD ?_) x_v540 (by decide) x_v541 ?_ <;> omega) | (refine g60.bd (BL.cons x_v641)) | (refine g70.bd (BL_f (fun _ _ => st_xN x_v761.1) x_v761.2.1 (by decide) x_v761.2.2 ?_); omega) | (refine g88.bd (BL.cons x_v901)) | (refine g98.bd (BL_f (fun _ _ => st_cN ?_) x_v1580 (by decide) x_v1581 ?_) <;> omega) | (refine g169.bd x_v1711))), (by omega)⟩) dX3_readUnit_87
        · skip
          have tc67 := f_ne (k := 0) (by decide) c67
          replace x_v640 := x_v640.resolve_left tc67
          clear x_v641
          have g70 := g60.tr (GL.cons x_v640.2.2.2)
          refine lv_aload_n hx hb dX3_readUnit_70 rfl (lv_at hl 0 rfl) ?_
          refine t_get (ci := 3) (lst := ft3 0 0) (C := RX3) (F := TX3) (N := 3) hx hb hts uX3 hown hkb hH t_a0 (hO.no t_a0 (by decide)) (fun _ h9 => h9) rfl rfl 0 (by decide) rfl kw_82 (fun _ h9 => h9) dX3_readUnit_71 (fun v9 h9 => ?_)
          obtain ⟨v71, rfl, t_v71⟩ := h9
          have e9 := (hU7 _ _ t_v71).symm
          subst e9
          refine lv_bipush (v := 93) hx hb dX3_readUnit_74 (by decide) ?_
          have z9_93 : (93 : Int32).toInt = 93 := by decide
          refine tk_i hH hS hA (tr_V (n := 1) (As := [.int 93]) hx hb hml hown hts hkb hH (ox_map hOX rfl) hks hE hS hA (s_Tok_takeSign l D cs kf T O X tk (93) y0 y1 n64_0_2 n64_0_3 n64_0_4 n64_0_5 n64_0_6 n64_0_7 ft t tn 38 t_tk t_y0 (by omega) (by omega) (by omega) (by omega) (by omega) (by omega) (by omega) htb x_v640.1 (by decide) (by decide) (hO.sub (by decide))) kw_647 kw_611 kw_612 kw_3 kw_613 (by decide +kernel) ⟨Nat.le_of_ble_eq_true rfl, Nat.le_of_ble_eq_true rfl⟩ (x_recv (ci := 7) hkb hH 0 rfl rfl) rfl rfl hl.1 (Nat.le_of_ble_eq_true rfl) dX3_readUnit_76 ⟨Nat.le_of_ble_eq_true rfl, Nat.le_of_ble_eq_true rfl⟩) (fun v76 u H locs hz9 hH hS => ?_)
          obtain ⟨n76_0_2, n76_0_3, n76_0_4, n76_0_5, n76_0_6, n76_0_7, rfl, l_v76, u_v76, x_v760, x_v761, x_v762⟩ := hz9
          have hH : HT D cs A T (tk :: y0 :: O) ((tk, .inr (7, [.ref y0, .int y1, .int n76_0_2, .int n76_0_3, .int n76_0_4, .int n76_0_5, .int n76_0_6, .int n76_0_7])) :: (y0, .inl (cs.1, 900, .inl ft)) :: X) H := hH
          refine W.widen (k := 0) (n := 0) (Nat.le_of_ble_eq_true rfl) (Nat.le_of_ble_eq_true rfl) ?_
          refine lv_if_eq (tgt := 86) hx hb dX3_readUnit_79 (by decide) (fun c79 => ?_) (fun c79 => ?_)
          · skip
            have tc79 := f_eq (k := 0) (by decide) c79
            clear x_v760
            replace x_v761 := x_v761.resolve_left (fun q9 => q9 tc79)
            refine lv_iconst (v := 0) hx hb dX3_readUnit_86 (by decide) ?_
            have z9_0 : (0 : Int32).toInt = 0 := by decide
            exact te_z hx hb hr hlocks (by rfl) hH hS (⟨n76_0_2, n76_0_3, n76_0_4, n76_0_5, n76_0_6, n76_0_7, rfl, by decide, by decide, Or.inl (by decide), (Or.inr (by first | (refine BL_f (fun _ _ => st_uND ?_) x_v140 (by decide) x_v141 ?_ <;> omega) | (refine g20.bd x_v241) | (refine BL_f (fun _ _ => st_uBD ?_) x_v540 (by decide) x_v541 ?_ <;> omega) | (refine g60.bd (BL.cons x_v641)) | (refine g70.bd (BL_f (fun _ _ => st_xN x_v761.1) x_v761.2.1 (by decide) x_v761.2.2 ?_); omega) | (refine g88.bd (BL.cons x_v901)) | (refine g98.bd (BL_f (fun _ _ => st_cN ?_) x_v1580 (by decide) x_v1581 ?_) <;> omega) | (refine g169.bd x_v1711))), (by omega)⟩) dX3_readUnit_87
          · skip
            have tc79 := f_ne (k := 0) (by decide) c79
            replace x_v760 := x_v760.resolve_left tc79
            clear x_v761
            refine lv_iconst (v := 1) hx hb dX3_readUnit_82 (by decide) ?_
            refine lv_goto (tgt := 87) hx hb dX3_readUnit_83 (by decide) ?_
            have z9_1 : (1 : Int32).toInt = 1 := by decide
            exact te_z hx hb hr hlocks (by rfl) hH hS (⟨n76_0_2, n76_0_3, n76_0_4, n76_0_5, n76_0_6, n76_0_7, rfl, by decide, by decide, (Or.inr ⟨x_v760.1, by omega, by omega, (by first | (refine g20.tr x_v240.2.2.2) | (refine g70.tr (GL_nx (fun _ _ => st_xY x_v760.2.2.1) x_v760.2.1)) | (refine g169.tr x_v1710.2.2.2))⟩), Or.inl (by decide), (by omega)⟩) dX3_readUnit_87
  · skip
    have tc9 := f_ne (k := 0) (by decide) c9
    replace x_v60 := x_v60.resolve_left tc9
    clear x_v61
    refine lv_aload_n hx hb dX3_readUnit_12 rfl (lv_at hl 0 rfl) ?_
    refine lv_iload_n hx hb dX3_readUnit_13 rfl (lv_at hl 1 rfl) ?_
    refine tk_i hH hS hA (tr_V (n := 1) (As := [.int x1]) hx hb hml hown hts hkb hH (ox_map hOX rfl) hks hE hS hA (s_LR_enter0 l D cs kf T O X a0 x1 y0 y1 y2 y3 y4 y5 y6 y7 ft t tn tk t_a0 (by omega) (by omega) t_y0 (by omega) (by omega) (by omega) (by omega) (by omega) (by omega) (by omega) htb hto t_tk hU7 (hO.sub (by decide))) kw_636 kw_638 ks_8 kw_4 kw_639 (by decide +kernel) ⟨Nat.le_of_ble_eq_true rfl, Nat.le_of_ble_eq_true rfl⟩ (HT.recv (ci := 3) hkb hH t_a0 (hO.no t_a0 (by decide)) rfl) rfl rfl hl.1 (Nat.le_of_ble_eq_true rfl) dX3_readUnit_14 ⟨Nat.le_of_ble_eq_true rfl, Nat.le_of_ble_eq_true rfl⟩) (fun v14 u H locs hz9 hH hS => ?_)
    obtain ⟨n14_0_2, n14_0_3, n14_0_4, n14_0_5, rfl, l_v14, u_v14, x_v140, x_v141, x_v142⟩ := hz9
    have hH : HT D cs A T (tk :: y0 :: O) ((tk, .inr (7, [.ref y0, .int y1, .int n14_0_2, .int n14_0_3, .int n14_0_4, .int n14_0_5, .int y6, .int y7])) :: (y0, .inl (cs.1, 900, .inl ft)) :: X) H := hH
    refine W.widen (k := 0) (n := 0) (Nat.le_of_ble_eq_true rfl) (Nat.le_of_ble_eq_true rfl) ?_
    refine lv_if_eq (tgt := 30) hx hb dX3_readUnit_17 (by decide) (fun c17 => ?_) (fun c17 => ?_)
    · skip
      have tc17 := f_eq (k := 0) (by decide) c17
      exfalso; omega
    · skip
      have tc17 := f_ne (k := 0) (by decide) c17
      have g20 : GL t tn [(5, 0)] [(5, 1)] y2 n14_0_2 := GL_nx (fun _ _ => st_uN (by omega) (by decide)) x_v141
      refine lv_aload_n hx hb dX3_readUnit_20 rfl (lv_at hl 0 rfl) ?_
      refine lv_iload_n hx hb dX3_readUnit_21 rfl (lv_at hl 1 rfl) ?_
      refine lv_iconst (v := 1) hx hb dX3_readUnit_22 (by decide) ?_
      refine lv_iadd hx hb dX3_readUnit_23 ?_
      refine lv_topi (fun v23 ev23 => ?_)
      have tv23 : v23.toInt = x1.toInt + (1) := by rw [ev23]; exact add_i rfl (by decide : (1 : Int32).toInt = 1) (by omega) (by omega)
      refine tk_i hH hS hA (tr_V (n := 1) (As := [.int v23]) hx hb hml hown hts hkb hH (ox_map hOX rfl) hks hE hS hA (s_LR_readUnit1 l D cs kf T O X a0 v23 y0 y1 n14_0_2 n14_0_3 n14_0_4 n14_0_5 y6 y7 ft t tn tk t_a0 (by omega) (by omega) t_y0 (by omega) (by omega) (by omega) (by omega) (by omega) (by omega) (by omega) htb x_v140 t_tk hU7 (by omega) (hO.sub (by decide))) kw_630 kw_632 ks_7 kw_4 kw_633 (by decide +kernel) ⟨Nat.le_of_ble_eq_true rfl, Nat.le_of_ble_eq_true rfl⟩ (HT.recv (ci := 3) hkb hH t_a0 (hO.no t_a0 (by decide)) rfl) rfl rfl hl.1 (Nat.le_of_ble_eq_true rfl) dX3_readUnit_24 ⟨Nat.le_of_ble_eq_true rfl, Nat.le_of_ble_eq_true rfl⟩) (fun v24 u H locs hz9 hH hS => ?_)
      obtain ⟨n24_0_2, n24_0_3, n24_0_4, n24_0_5, n24_0_6, n24_0_7, rfl, l_v24, u_v24, x_v240, x_v241, x_v242⟩ := hz9
      have hH : HT D cs A T (tk :: y0 :: O) ((tk, .inr (7, [.ref y0, .int y1, .int n24_0_2, .int n24_0_3, .int n24_0_4, .int n24_0_5, .int n24_0_6, .int n24_0_7])) :: (y0, .inl (cs.1, 900, .inl ft)) :: X) H := hH
      refine W.widen (k := 0) (n := 0) (Nat.le_of_ble_eq_true rfl) (Nat.le_of_ble_eq_true rfl) ?_
      refine lv_if_ne (tgt := 32) hx hb dX3_readUnit_27 (by decide) (fun c27 => ?_) (fun c27 => ?_)
      · skip
        have tc27 := f_ne (k := 0) (by decide) c27
        replace x_v240 := x_v240.resolve_left tc27
        clear x_v241
        refine lv_aload_n hx hb dX3_readUnit_32 rfl (lv_at hl 0 rfl) ?_
        refine lv_iconst (v := 2) hx hb dX3_readUnit_33 (by decide) ?_
        refine lv_iconst (v := 0) hx hb dX3_readUnit_34 (by decide) ?_
        refine tk_v hH hS hA (tr_V (n := 2) (As := [.int 2, .int 0]) hx hb hml hown hts hkb hH (ox_map hOX rfl) hks hE hS hA (s_LR_put l D cs kf T (tk :: y0 :: O) ((tk, .inr (7, [.ref y0, .int y1, .int n24_0_2, .int n24_0_3, .int n24_0_4, .int n24_0_5, .int n24_0_6, .int n24_0_7])) :: (y0, .inl (cs.1, 900, .inl ft)) :: X) a0 (2) (0) t_a0 (hO.sub (by decide))) kw_642 kw_644 ks_9 kw_4 kw_645 (by decide +kernel) ⟨Nat.le_of_ble_eq_true rfl, Nat.le_of_ble_eq_true rfl⟩ (HT.recv (ci := 3) hkb hH t_a0 (hO.no t_a0 (by decide)) rfl) rfl rfl hl.1 (Nat.le_of_ble_eq_true rfl) dX3_readUnit_35 ⟨Nat.le_of_ble_eq_true rfl, Nat.le_of_ble_eq_true rfl⟩) (fun u H locs hz9 hH hS => ?_)
        have hz9 : u = (T, tk :: y0 :: O, (tk, .inr (7, [.ref y0, .int y1, .int n24_0_2, .int n24_0_3, .int n24_0_4, .int n24_0_5, .int n24_0_6, .int n24_0_7])) :: (y0, .inl (cs.1, 900, .inl ft)) :: X) := hz9
        subst hz9
        have hH : HT D cs A T (tk :: y0 :: O) ((tk, .inr (7, [.ref y0, .int y1, .int n24_0_2, .int n24_0_3, .int n24_0_4, .int n24_0_5, .int n24_0_6, .int n24_0_7])) :: (y0, .inl (cs.1, 900, .inl ft)) :: X) H := hH
        refine W.widen (k := 0) (n := 0) (Nat.le_of_ble_eq_true rfl) (Nat.le_of_ble_eq_true rfl) ?_
        refine lv_iconst (v := 1) hx hb dX3_readUnit_38 (by decide) ?_
        have z9_1 : (1 : Int32).toInt = 1 := by decide
        exact te_z hx hb hr hlocks (by rfl) hH hS (⟨n24_0_2, n24_0_3, n24_0_4, n24_0_5, n24_0_6, n24_0_7, rfl, by decide, by decide, (Or.inr ⟨x_v240.1, by omega, by omega, (by first | (refine g20.tr x_v240.2.2.2) | (refine g70.tr (GL_nx (fun _ _ => st_xY x_v760.2.2.1) x_v760.2.1)) | (refine g169.tr x_v1710.2.2.2))⟩), Or.inl (by decide), (by omega)⟩) dX3_readUnit_39
      · skip
        have tc27 := f_eq (k := 0) (by decide) c27
        clear x_v240
        replace x_v241 := x_v241.resolve_left (fun q9 => q9 tc27)
        refine lv_iconst (v := 0) hx hb dX3_readUnit_30 (by decide) ?_
        have z9_0 : (0 : Int32).toInt = 0 := by decide
        exact te_z hx hb hr hlocks (by rfl) hH hS (⟨n24_0_2, n24_0_3, n24_0_4, n24_0_5, n24_0_6, n24_0_7, rfl, by decide, by decide, Or.inl (by decide), (Or.inr (by first | (refine BL_f (fun _ _ => st_uND ?_) x_v140 (by decide) x_v141 ?_ <;> omega) | (refine g20.bd x_v241) | (refine BL_f (fun _ _ => st_uBD ?_) x_v540 (by decide) x_v541 ?_ <;> omega) | (refine g60.bd (BL.cons x_v641)) | (refine g70.bd (BL_f (fun _ _ => st_xN x_v761.1) x_v761.2.1 (by decide) x_v761.2.2 ?_); omega) | (refine g88.bd (BL.cons x_v901)) | (refine g98.bd (BL_f (fun _ _ => st_cN ?_) x_v1580 (by decide) x_v1581 ?_) <;> omega) | (refine g169.bd x_v1711))), (by omega)⟩) dX3_readUnit_31
set_option maxHeartbeats 4000000 in
set_option maxRecDepth 100000 in
theorem s_LR_readBoth0 (l : Launch) (D : va_G) (cs : CS) (kf : KF) (T : TF) (O : List Nat) (X : va_W) (a0 : Nat) (x1 : Int32) (y0 : Nat) (y1 : Int32) (y2 : Int32) (y3 : Int32) (y4 : Int32) (y5 : Int32) (y6 : Int32) (y7 : Int32) (ft : Nat → Int32) (t : Tp) (tn : Nat) (tk : Nat) (t_a0 : T a0 = some (13, 0, 0)) (l_x1 : 0 ≤ x1.toInt) (u_x1 : x1.toInt ≤ 0) (t_y0 : T y0 = some (0, 900, 0)) (l_y1 : 0 ≤ y1.toInt) (u_y1 : y1.toInt ≤ 900) (l_y2 : 0 ≤ y2.toInt) (u_y2 : y2.toInt ≤ 900) (l_y3 : 0 ≤ y3.toInt) (u_y3 : y3.toInt ≤ 900) (hn : y1.toInt = (tn : Int)) (htb : TB ft t) (hto : TSS t tn y2 y3 y4 y5) (t_tk : T tk = some (17, 0, 0)) (hU7 : ∀ (b : Nat) (q : Nat), T b = some (17, 0, q) → b = tk) (hz : y6.toInt = 0) (hO : okO T (tk :: y0 :: O) [1, 13]) : TK l D cs kf yX3_readBoth cX3_readBoth 5 (some (.boolean)) { frames := 28, cells := 0, slots := 0, locals := 638 } [.ref a0, .int x1] T (tk :: y0 :: O) ((tk, .inr (7, [.ref y0, .int y1, .int y2, .int y3, .int y4, .int y5, .int y6, .int y7])) :: (y0, .inl (cs.1, 900, .inl ft)) :: X) (Ti D cs (fun r u => ∃ (n0_2 : Int32) (n0_3 : Int32) (n0_4 : Int32) (n0_5 : Int32) (n0_6 : Int32) (n0_7 : Int32), u = (T, tk :: y0 :: O, (tk, .inr (7, [.ref y0, .int y1, .int n0_2, .int n0_3, .int n0_4, .int n0_5, .int n0_6, .int n0_7])) :: (y0, .inl (cs.1, 900, .inl ft)) :: X) ∧ 0 ≤ r.toInt ∧ r.toInt ≤ 1 ∧ (r.toInt = 0 ∨ (TSS t tn n0_2 n0_3 n0_4 n0_5 ∧ n0_6.toInt = 0 ∧ n0_7.toInt = y7.toInt ∧ GL t tn [(6, 0)] [] y2 n0_2)) ∧ (r.toInt ≠ 0 ∨ BL t tn [(6, 0)] y2 n0_6 n0_7) ∧ (y2.toInt ≤ n0_2.toInt ∧ n0_2.toInt ≤ n0_3.toInt ∧ n0_3.toInt ≤ y1.toInt))) := by
  refine tk_of (by decide) (Nat.le_of_ble_eq_true rfl) (fun p e s m below meth c ls A H locs hx hb hr hml hown hts hlocks hnm hkb hH hS hA hOX hks hE hl => ?_)
  have hown : s.vm.findClass RX3 = some m.cls := hown
  have hl : lv_has ls 5 [(0, .ref a0), (1, .int x1)] := hl
  have hOXf := hOX
  have hb9 := hto.b
  have hc9 := hto.cs
  refine lv_aload_n hx hb dX3_readBoth_0 rfl (lv_at hl 0 rfl) ?_
  refine lv_iload_n hx hb dX3_readBoth_1 rfl (lv_at hl 1 rfl) ?_
  refine tk_i hH hS hA (tr_V (n := 1) (As := [.int x1]) hx hb hml hown hts hkb hH (ox_map hOX rfl) hks hE hS hA (s_LR_readUnit0 l D cs kf T O X a0 x1 y0 y1 y2 y3 y4 y5 y6 y7 ft t tn tk t_a0 (by omega) (by omega) t_y0 (by omega) (by omega) (by omega) (by omega) (by omega) (by omega) (by omega) htb hto t_tk hU7 (by omega) (hO.sub (by decide))) kw_630 kw_632 ks_7 kw_4 kw_633 (by decide +kernel) ⟨Nat.le_of_ble_eq_true rfl, Nat.le_of_ble_eq_true rfl⟩ (HT.recv (ci := 3) hkb hH t_a0 (hO.no t_a0 (by decide)) rfl) rfl rfl hl.1 (Nat.le_of_ble_eq_true rfl) dX3_readBoth_2 ⟨Nat.le_of_ble_eq_true rfl, Nat.le_of_ble_eq_true rfl⟩) (fun v2 u H locs hz9 hH hS => ?_)
  obtain ⟨n2_0_2, n2_0_3, n2_0_4, n2_0_5, n2_0_6, n2_0_7, rfl, l_v2, u_v2, x_v20, x_v21, x_v22⟩ := hz9
  have hH : HT D cs A T (tk :: y0 :: O) ((tk, .inr (7, [.ref y0, .int y1, .int n2_0_2, .int n2_0_3, .int n2_0_4, .int n2_0_5, .int n2_0_6, .int n2_0_7])) :: (y0, .inl (cs.1, 900, .inl ft)) :: X) H := hH
  refine W.widen (k := 0) (n := 0) (Nat.le_of_ble_eq_true rfl) (Nat.le_of_ble_eq_true rfl) ?_
  refine lv_istore_n (lv' := [(2, .int v2), (0, .ref a0), (1, .int x1)]) hx hb dX3_readBoth_5 rfl hl (by decide) rfl (fun ls hl => ?_)
  refine lv_iconst (v := 0) hx hb dX3_readBoth_6 (by decide) ?_
  have J8 : ∀ (n : Nat) (p8_3 : Int32) (p8_2 : Int32) (f8_102 : Int32) (f8_103 : Int32) (f8_104 : Int32) (f8_105 : Int32) (f8_106 : Int32) (f8_107 : Int32) (H : Heap) (locs : List Loc) (ls : Array Slot), (900 - p8_3.toInt).toNat = n → (0 ≤ p8_3.toInt) → (p8_3.toInt ≤ 900) → (0 ≤ p8_2.toInt) → (p8_2.toInt ≤ 1) → (0 ≤ f8_102.toInt) → (f8_102.toInt ≤ 900) → (0 ≤ f8_103.toInt) → (f8_103.toInt ≤ 900) → (LTI t tn [(6, 0)] [(7, 0)] y2 p8_2 f8_102 f8_103 f8_104 f8_105 f8_106 f8_107 y7) → (y2.toInt ≤ f8_102.toInt ∧ f8_102.toInt ≤ f8_103.toInt ∧ f8_103.toInt ≤ y1.toInt) → (p8_2.toInt = 0 ∨ p8_3.toInt ≤ f8_102.toInt) → HT D cs A T (tk :: y0 :: O) ((tk, .inr (7, [.ref y0, .int y1, .int f8_102, .int f8_103, .int f8_104, .int f8_105, .int f8_106, .int f8_107])) :: (y0, .inl (cs.1, 900, .inl ft)) :: X) H → va_S A s.heap H locs → lv_has ls 5 [(3, .int p8_3), (2, .int p8_2), (0, .ref a0), (1, .int x1)] → W p l e { frames := 28, cells := 0, slots := 0, locals := 638 } s m [.ref a0, .int x1].toArray below meth c H locs 0 0 (MQ below (Ti D cs (fun r u => ∃ (n0_2 : Int32) (n0_3 : Int32) (n0_4 : Int32) (n0_5 : Int32) (n0_6 : Int32) (n0_7 : Int32), u = (T, tk :: y0 :: O, (tk, .inr (7, [.ref y0, .int y1, .int n0_2, .int n0_3, .int n0_4, .int n0_5, .int n0_6, .int n0_7])) :: (y0, .inl (cs.1, 900, .inl ft)) :: X) ∧ 0 ≤ r.toInt ∧ r.toInt ≤ 1 ∧ (r.toInt = 0 ∨ (TSS t tn n0_2 n0_3 n0_4 n0_5 ∧ n0_6.toInt = 0 ∧ n0_7.toInt = y7.toInt ∧ GL t tn [(6, 0)] [] y2 n0_2)) ∧ (r.toInt ≠ 0 ∨ BL t tn [(6, 0)] y2 n0_6 n0_7) ∧ (y2.toInt ≤ n0_2.toInt ∧ n0_2.toInt ≤ n0_3.toInt ∧ n0_3.toInt ≤ y1.toInt)) A) [.ref a0, .int x1].toArray s 0 0 A) (F0 m 8 ls []) := by
    intro n
    induction n using Nat.strongRecOn with
    | _ n ih8 =>
      intro p8_3 p8_2 f8_102 f8_103 f8_104 f8_105 f8_106 f8_107 H locs ls hm8 l_p8_3 u_p8_3 l_p8_2 u_p8_2 l_f8_102 u_f8_102 l_f8_103 u_f8_103 i8t i8n i8c hH hS hl
      refine lv_iload_n hx hb dX3_readBoth_8 rfl (lv_at hl 0 rfl) ?_
      refine lv_sipush (v := 900) hx hb dX3_readBoth_9 (by decide) ?_
      refine lv_icmp_ge (tgt := 68) hx hb dX3_readBoth_12 (by decide) (fun c12 => ?_) (fun c12 => ?_)
      · skip
        have tc12 := f_ge (k := 900) (by decide) c12
        have hk9 : p8_2.toInt = 0 ∨ GL t tn [(7, 0)] [] f8_102 f8_102 := by first | (refine Or.inl ?_; omega) | exact Or.inr (fun _ _ => st_bN x_v251) | (by_cases q9 : p8_2.toInt = 0; exact Or.inl q9; refine Or.inr (fun _ _ => st_bN ?_); have q8 := LTI.ok i8t q9; have q7 := q8.1.b; rw [kd_end (by omega)]; decide)
        have hz9 := LTI.en i8t hk9
        refine lv_iload_n hx hb dX3_readBoth_68 rfl (lv_at hl 1 rfl) ?_
        exact te_z hx hb hr hlocks (nar01 (by omega) (by omega)) hH hS (⟨f8_102, f8_103, f8_104, f8_105, f8_106, f8_107, rfl, by omega, by omega, hz9.1, hz9.2, (by omega)⟩) dX3_readBoth_69
      · skip
        have tc12 := f_nge (k := 900) (by decide) c12
        refine lv_iload_n hx hb dX3_readBoth_15 rfl (lv_at hl 1 rfl) ?_
        refine lv_if_eq (tgt := 68) hx hb dX3_readBoth_16 (by decide) (fun c16 => ?_) (fun c16 => ?_)
        · skip
          have tc16 := f_eq (k := 0) (by decide) c16
          have hk9 : p8_2.toInt = 0 ∨ GL t tn [(7, 0)] [] f8_102 f8_102 := by first | (refine Or.inl ?_; omega) | exact Or.inr (fun _ _ => st_bN x_v251) | (by_cases q9 : p8_2.toInt = 0; exact Or.inl q9; refine Or.inr (fun _ _ => st_bN ?_); have q8 := LTI.ok i8t q9; have q7 := q8.1.b; rw [kd_end (by omega)]; decide)
          have hz9 := LTI.en i8t hk9
          refine lv_iload_n hx hb dX3_readBoth_68 rfl (lv_at hl 1 rfl) ?_
          exact te_z hx hb hr hlocks (nar01 (by omega) (by omega)) hH hS (⟨f8_102, f8_103, f8_104, f8_105, f8_106, f8_107, rfl, by omega, by omega, hz9.1, hz9.2, (by omega)⟩) dX3_readBoth_69
        · skip
          have tc16 := f_ne (k := 0) (by decide) c16
          have h19 := LTI.ok i8t (by omega)
          have hb19 := h19.1.b
          have hc19 := h19.1.cs
          refine lv_aload_n hx hb dX3_readBoth_19 rfl (lv_at hl 2 rfl) ?_
          refine t_get (ci := 3) (lst := ft3 0 0) (C := RX3) (F := TX3) (N := 3) hx hb hts uX3 hown hkb hH t_a0 (hO.no t_a0 (by decide)) (fun _ h9 => h9) rfl rfl 0 (by decide) rfl kw_82 (fun _ h9 => h9) dX3_readBoth_20 (fun v9 h9 => ?_)
          obtain ⟨v20, rfl, t_v20⟩ := h9
          have e9 := (hU7 _ _ t_v20).symm
          subst e9
          refine va_ldcS (q := kf.1 15) hx hb hown (hks ("FootholdWall$LawReader", 63, "and", 15) (by decide +kernel)) dX3_readBoth_23 ?_
          refine tk_i hH hS hA (tr_V (n := 1) (As := [.ref (kf.1 15)]) hx hb hml hown hts hkb hH (ox_map hOX rfl) hks hE hS hA (s_Tok_isWord l D cs kf T O X tk 15 y0 y1 f8_102 f8_103 f8_104 f8_105 f8_106 f8_107 ft t tn 14 t_tk (by decide) t_y0 (by omega) (by omega) (by omega) (by omega) (by omega) (by omega) (by omega) htb h19.1 (by decide) (by decide) (hO.sub (by decide))) kw_635 kw_551 kw_552 kw_3 kw_553 (by decide +kernel) ⟨Nat.le_of_ble_eq_true rfl, Nat.le_of_ble_eq_true rfl⟩ (x_recv (ci := 7) hkb hH 0 rfl rfl) rfl rfl hl.1 (Nat.le_of_ble_eq_true rfl) dX3_readBoth_25 ⟨Nat.le_of_ble_eq_true rfl, Nat.le_of_ble_eq_true rfl⟩) (fun v25 u H locs hz9 hH hS => ?_)
          obtain ⟨rfl, l_v25, u_v25, x_v250, x_v251⟩ := hz9
          have hH : HT D cs A T (tk :: y0 :: O) ((tk, .inr (7, [.ref y0, .int y1, .int f8_102, .int f8_103, .int f8_104, .int f8_105, .int f8_106, .int f8_107])) :: (y0, .inl (cs.1, 900, .inl ft)) :: X) H := hH
          refine W.widen (k := 0) (n := 0) (Nat.le_of_ble_eq_true rfl) (Nat.le_of_ble_eq_true rfl) ?_
          refine lv_if_eq (tgt := 68) hx hb dX3_readBoth_28 (by decide) (fun c28 => ?_) (fun c28 => ?_)
          · skip
            have tc28 := f_eq (k := 0) (by decide) c28
            clear x_v250
            replace x_v251 := x_v251.resolve_left (fun q9 => q9 tc28)
            have hk9 : p8_2.toInt = 0 ∨ GL t tn [(7, 0)] [] f8_102 f8_102 := by first | (refine Or.inl ?_; omega) | exact Or.inr (fun _ _ => st_bN x_v251) | (by_cases q9 : p8_2.toInt = 0; exact Or.inl q9; refine Or.inr (fun _ _ => st_bN ?_); have q8 := LTI.ok i8t q9; have q7 := q8.1.b; rw [kd_end (by omega)]; decide)
            have hz9 := LTI.en i8t hk9
            refine lv_iload_n hx hb dX3_readBoth_68 rfl (lv_at hl 1 rfl) ?_
            exact te_z hx hb hr hlocks (nar01 (by omega) (by omega)) hH hS (⟨f8_102, f8_103, f8_104, f8_105, f8_106, f8_107, rfl, by omega, by omega, hz9.1, hz9.2, (by omega)⟩) dX3_readBoth_69
          · skip
            have tc28 := f_ne (k := 0) (by decide) c28
            replace x_v250 := x_v250.resolve_left tc28
            clear x_v251
            refine lv_aload_n hx hb dX3_readBoth_31 rfl (lv_at hl 2 rfl) ?_
            refine t_get (ci := 3) (lst := ft3 0 0) (C := RX3) (F := TX3) (N := 3) hx hb hts uX3 hown hkb hH t_a0 (hO.no t_a0 (by decide)) (fun _ h9 => h9) rfl rfl 0 (by decide) rfl kw_82 (fun _ h9 => h9) dX3_readBoth_32 (fun v9 h9 => ?_)
            obtain ⟨v32, rfl, t_v32⟩ := h9
            have e9 := (hU7 _ _ t_v32).symm
            subst e9
            have hl9 := h19.1.lt (by omega)
            refine tk_v hH hS hA (tr_V (n := 0) (As := []) hx hb hml hown hts hkb hH (ox_map hOX rfl) hks hE hS hA (s_Tok_go l D cs kf T O X tk y0 y1 f8_102 f8_103 f8_104 f8_105 f8_106 f8_107 ft t tn t_tk t_y0 (by omega) (by omega) (by omega) (by omega) (by omega) (by omega) (by omega) htb (by have q9 := (h19.1).b; omega) (hO.sub (by decide))) kw_641 kw_453 kw_454 kw_3 kw_455 (by decide +kernel) ⟨Nat.le_of_ble_eq_true rfl, Nat.le_of_ble_eq_true rfl⟩ (x_recv (ci := 7) hkb hH 0 rfl rfl) rfl rfl hl.1 (Nat.le_of_ble_eq_true rfl) dX3_readBoth_35 ⟨Nat.le_of_ble_eq_true rfl, Nat.le_of_ble_eq_true rfl⟩) (fun u H locs hz9 hH hS => ?_)
            obtain ⟨n35_0_2, n35_0_3, n35_0_4, n35_0_5, rfl, x_v350, x_v351, x_v352⟩ := hz9
            have px35 := TSS.nx h19.1 x_v351
            have hH : HT D cs A T (tk :: y0 :: O) ((tk, .inr (7, [.ref y0, .int y1, .int n35_0_2, .int n35_0_3, .int n35_0_4, .int n35_0_5, .int f8_106, .int f8_107])) :: (y0, .inl (cs.1, 900, .inl ft)) :: X) H := hH
            refine W.widen (k := 0) (n := 0) (Nat.le_of_ble_eq_true rfl) (Nat.le_of_ble_eq_true rfl) ?_
            refine lv_aload_n hx hb dX3_readBoth_38 rfl (lv_at hl 2 rfl) ?_
            refine t_get (ci := 3) (lst := ft3 0 0) (C := RX3) (F := TX3) (N := 3) hx hb hts uX3 hown hkb hH t_a0 (hO.no t_a0 (by decide)) (fun _ h9 => h9) rfl rfl 2 (by decide) rfl kw_84 (fun _ h9 => h9) dX3_readBoth_39 (fun v9 h9 => ?_)
            obtain ⟨v39, rfl, l_v39, u_v39⟩ := h9
            refine lv_istore (lv' := [(4, .int v39), (3, .int p8_3), (2, .int p8_2), (0, .ref a0), (1, .int x1)]) hx hb dX3_readBoth_42 hl (by decide) rfl (fun ls hl => ?_)
            refine lv_aload_n hx hb dX3_readBoth_44 rfl (lv_at hl 3 rfl) ?_
            refine lv_iconst (v := 3) hx hb dX3_readBoth_45 (by decide) ?_
            refine lv_iconst (v := 0) hx hb dX3_readBoth_46 (by decide) ?_
            refine tk_v hH hS hA (tr_V (n := 2) (As := [.int 3, .int 0]) hx hb hml hown hts hkb hH (ox_map hOX rfl) hks hE hS hA (s_LR_put l D cs kf T (tk :: y0 :: O) ((tk, .inr (7, [.ref y0, .int y1, .int n35_0_2, .int n35_0_3, .int n35_0_4, .int n35_0_5, .int f8_106, .int f8_107])) :: (y0, .inl (cs.1, 900, .inl ft)) :: X) a0 (3) (0) t_a0 (hO.sub (by decide))) kw_642 kw_644 ks_9 kw_4 kw_645 (by decide +kernel) ⟨Nat.le_of_ble_eq_true rfl, Nat.le_of_ble_eq_true rfl⟩ (HT.recv (ci := 3) hkb hH t_a0 (hO.no t_a0 (by decide)) rfl) rfl rfl hl.1 (Nat.le_of_ble_eq_true rfl) dX3_readBoth_47 ⟨Nat.le_of_ble_eq_true rfl, Nat.le_of_ble_eq_true rfl⟩) (fun u H locs hz9 hH hS => ?_)
            have hz9 : u = (T, tk :: y0 :: O, (tk, .inr (7, [.ref y0, .int y1, .int n35_0_2, .int n35_0_3, .int n35_0_4, .int n35_0_5, .int f8_106, .int f8_107])) :: (y0, .inl (cs.1, 900, .inl ft)) :: X) := hz9
            subst hz9
            have hH : HT D cs A T (tk :: y0 :: O) ((tk, .inr (7, [.ref y0, .int y1, .int n35_0_2, .int n35_0_3, .int n35_0_4, .int n35_0_5, .int f8_106, .int f8_107])) :: (y0, .inl (cs.1, 900, .inl ft)) :: X) H := hH
            refine W.widen (k := 0) (n := 0) (Nat.le_of_ble_eq_true rfl) (Nat.le_of_ble_eq_true rfl) ?_
            refine lv_aload_n hx hb dX3_readBoth_50 rfl (lv_at hl 3 rfl) ?_
            refine lv_iload_n hx hb dX3_readBoth_51 rfl (lv_at hl 4 rfl) ?_
            refine tk_i hH hS hA (tr_V (n := 1) (As := [.int x1]) hx hb hml hown hts hkb hH (ox_map hOX rfl) hks hE hS hA (s_LR_readUnit0 l D cs kf T O X a0 x1 y0 y1 n35_0_2 n35_0_3 n35_0_4 n35_0_5 f8_106 f8_107 ft t tn tk t_a0 (by omega) (by omega) t_y0 (by omega) (by omega) (by omega) (by omega) (by omega) (by omega) (by omega) htb x_v350 t_tk hU7 (by omega) (hO.sub (by decide))) kw_630 kw_632 ks_7 kw_4 kw_633 (by decide +kernel) ⟨Nat.le_of_ble_eq_true rfl, Nat.le_of_ble_eq_true rfl⟩ (HT.recv (ci := 3) hkb hH t_a0 (hO.no t_a0 (by decide)) rfl) rfl rfl hl.1 (Nat.le_of_ble_eq_true rfl) dX3_readBoth_52 ⟨Nat.le_of_ble_eq_true rfl, Nat.le_of_ble_eq_true rfl⟩) (fun v52 u H locs hz9 hH hS => ?_)
            obtain ⟨n52_0_2, n52_0_3, n52_0_4, n52_0_5, n52_0_6, n52_0_7, rfl, l_v52, u_v52, x_v520, x_v521, x_v522⟩ := hz9
            have hH : HT D cs A T (tk :: y0 :: O) ((tk, .inr (7, [.ref y0, .int y1, .int n52_0_2, .int n52_0_3, .int n52_0_4, .int n52_0_5, .int n52_0_6, .int n52_0_7])) :: (y0, .inl (cs.1, 900, .inl ft)) :: X) H := hH
            refine W.widen (k := 0) (n := 0) (Nat.le_of_ble_eq_true rfl) (Nat.le_of_ble_eq_true rfl) ?_
            refine lv_istore_n (lv' := [(2, .int v52), (4, .int v39), (3, .int p8_3), (0, .ref a0), (1, .int x1)]) hx hb dX3_readBoth_55 rfl hl (by decide) rfl (fun ls hl => ?_)
            refine lv_aload_n hx hb dX3_readBoth_56 rfl (lv_at hl 3 rfl) ?_
            refine lv_iload hx hb dX3_readBoth_57 (lv_at hl 1 rfl) ?_
            refine tk_v hH hS hA (tr_V (n := 1) (As := [.int v39]) hx hb hml hown hts hkb hH (ox_map hOX rfl) hks hE hS hA (s_LR_aimSkip l D cs kf T (tk :: y0 :: O) ((tk, .inr (7, [.ref y0, .int y1, .int n52_0_2, .int n52_0_3, .int n52_0_4, .int n52_0_5, .int n52_0_6, .int n52_0_7])) :: (y0, .inl (cs.1, 900, .inl ft)) :: X) a0 v39 t_a0 (hO.sub (by decide))) kw_672 kw_674 ks_14 kw_4 kw_675 (by decide +kernel) ⟨Nat.le_of_ble_eq_true rfl, Nat.le_of_ble_eq_true rfl⟩ (HT.recv (ci := 3) hkb hH t_a0 (hO.no t_a0 (by decide)) rfl) rfl rfl hl.1 (Nat.le_of_ble_eq_true rfl) dX3_readBoth_59 ⟨Nat.le_of_ble_eq_true rfl, Nat.le_of_ble_eq_true rfl⟩) (fun u H locs hz9 hH hS => ?_)
            have hz9 : u = (T, tk :: y0 :: O, (tk, .inr (7, [.ref y0, .int y1, .int n52_0_2, .int n52_0_3, .int n52_0_4, .int n52_0_5, .int n52_0_6, .int n52_0_7])) :: (y0, .inl (cs.1, 900, .inl ft)) :: X) := hz9
            subst hz9
            have hH : HT D cs A T (tk :: y0 :: O) ((tk, .inr (7, [.ref y0, .int y1, .int n52_0_2, .int n52_0_3, .int n52_0_4, .int n52_0_5, .int n52_0_6, .int n52_0_7])) :: (y0, .inl (cs.1, 900, .inl ft)) :: X) H := hH
            refine W.widen (k := 0) (n := 0) (Nat.le_of_ble_eq_true rfl) (Nat.le_of_ble_eq_true rfl) ?_
            obtain ⟨v62, ev62⟩ : ∃ y : Int32, y = p8_3 + 1 := ⟨_, rfl⟩
            have tv62 : v62.toInt = p8_3.toInt + (1) := by rw [ev62]; exact add_i rfl (by decide) (by omega) (by omega)
            refine lv_iinc (v := v62) (lv' := [(3, .int v62), (2, .int v52), (4, .int v39), (0, .ref a0), (1, .int x1)]) hx hb dX3_readBoth_62 hl (k := 2) rfl (by rw [ev62]; rfl) (by decide) rfl (fun ls hl => ?_)
            refine lv_goto (tgt := 8) hx hb dX3_readBoth_65 (by decide) ?_
            exact ih8 _ (by omega) v62 v52 n52_0_2 n52_0_3 n52_0_4 n52_0_5 n52_0_6 n52_0_7 _ _ _ rfl (by omega) (by omega) (by omega) (by omega) (by omega) (by omega) (by omega) (by omega) (by first | (refine LTI.st (fun _ _ => st_b) x_v20 x_v21 l_v2 u_v2 rfl) | (refine LTI.st (h19.2.2.2.tr (GL_nx (fun _ _ => st_bY x_v250) px35)) x_v520 x_v521 l_v52 u_v52 ?_; omega)) (by omega) (by omega) hH hS (lv_sub hl [0, 1, 3, 4] rfl)
  refine lv_istore_n (lv' := [(3, .int 0), (2, .int v2), (0, .ref a0), (1, .int x1)]) hx hb dX3_readBoth_7 rfl hl (by decide) rfl (fun ls hl => ?_)
  have z_0 : (0 : Int32).toInt = 0 := by decide
  exact J8 _ 0 v2 n2_0_2 n2_0_3 n2_0_4 n2_0_5 n2_0_6 n2_0_7 _ _ _ rfl (by decide) (by decide) (by omega) (by omega) (by omega) (by omega) (by omega) (by omega) (by first | (refine LTI.st (fun _ _ => st_b) x_v20 x_v21 l_v2 u_v2 rfl) | (refine LTI.st (h19.2.2.2.tr (GL_nx (fun _ _ => st_bY x_v250) px35)) x_v520 x_v521 l_v52 u_v52 ?_; omega)) (by omega) (by omega) hH hS (lv_sub hl [0, 1, 2, 3] rfl)
set_option maxHeartbeats 4000000 in
set_option maxRecDepth 100000 in
theorem s_LR_readTruth0 (l : Launch) (D : va_G) (cs : CS) (kf : KF) (T : TF) (O : List Nat) (X : va_W) (a0 : Nat) (x1 : Int32) (y0 : Nat) (y1 : Int32) (y2 : Int32) (y3 : Int32) (y4 : Int32) (y5 : Int32) (y6 : Int32) (y7 : Int32) (ft : Nat → Int32) (t : Tp) (tn : Nat) (tk : Nat) (t_a0 : T a0 = some (13, 0, 0)) (l_x1 : 0 ≤ x1.toInt) (u_x1 : x1.toInt ≤ 0) (t_y0 : T y0 = some (0, 900, 0)) (l_y1 : 0 ≤ y1.toInt) (u_y1 : y1.toInt ≤ 900) (l_y2 : 0 ≤ y2.toInt) (u_y2 : y2.toInt ≤ 900) (l_y3 : 0 ≤ y3.toInt) (u_y3 : y3.toInt ≤ 900) (hn : y1.toInt = (tn : Int)) (htb : TB ft t) (hto : TSS t tn y2 y3 y4 y5) (t_tk : T tk = some (17, 0, 0)) (hU7 : ∀ (b : Nat) (q : Nat), T b = some (17, 0, q) → b = tk) (hz : y6.toInt = 0) (hO : okO T (tk :: y0 :: O) [1, 13]) : TK l D cs kf yX3_readTruth cX3_readTruth 5 (some (.boolean)) { frames := 29, cells := 0, slots := 0, locals := 662 } [.ref a0, .int x1] T (tk :: y0 :: O) ((tk, .inr (7, [.ref y0, .int y1, .int y2, .int y3, .int y4, .int y5, .int y6, .int y7])) :: (y0, .inl (cs.1, 900, .inl ft)) :: X) (Ti D cs (fun r u => ∃ (n0_2 : Int32) (n0_3 : Int32) (n0_4 : Int32) (n0_5 : Int32) (n0_6 : Int32) (n0_7 : Int32), u = (T, tk :: y0 :: O, (tk, .inr (7, [.ref y0, .int y1, .int n0_2, .int n0_3, .int n0_4, .int n0_5, .int n0_6, .int n0_7])) :: (y0, .inl (cs.1, 900, .inl ft)) :: X) ∧ 0 ≤ r.toInt ∧ r.toInt ≤ 1 ∧ (r.toInt = 0 ∨ (TSS t tn n0_2 n0_3 n0_4 n0_5 ∧ n0_6.toInt = 0 ∧ n0_7.toInt = y7.toInt ∧ GL t tn [(8, 0)] [] y2 n0_2)) ∧ (r.toInt ≠ 0 ∨ BL t tn [(8, 0)] y2 n0_6 n0_7) ∧ (y2.toInt ≤ n0_2.toInt ∧ n0_2.toInt ≤ n0_3.toInt ∧ n0_3.toInt ≤ y1.toInt))) := by
  refine tk_of (by decide) (Nat.le_of_ble_eq_true rfl) (fun p e s m below meth c ls A H locs hx hb hr hml hown hts hlocks hnm hkb hH hS hA hOX hks hE hl => ?_)
  have hown : s.vm.findClass RX3 = some m.cls := hown
  have hl : lv_has ls 5 [(0, .ref a0), (1, .int x1)] := hl
  have hOXf := hOX
  have hb9 := hto.b
  have hc9 := hto.cs
  refine lv_aload_n hx hb dX3_readTruth_0 rfl (lv_at hl 0 rfl) ?_
  refine lv_iload_n hx hb dX3_readTruth_1 rfl (lv_at hl 1 rfl) ?_
  refine tk_i hH hS hA (tr_V (n := 1) (As := [.int x1]) hx hb hml hown hts hkb hH (ox_map hOX rfl) hks hE hS hA (s_LR_readBoth0 l D cs kf T O X a0 x1 y0 y1 y2 y3 y4 y5 y6 y7 ft t tn tk t_a0 (by omega) (by omega) t_y0 (by omega) (by omega) (by omega) (by omega) (by omega) (by omega) (by omega) htb hto t_tk hU7 (by omega) (hO.sub (by decide))) kw_626 kw_628 ks_6 kw_4 kw_629 (by decide +kernel) ⟨Nat.le_of_ble_eq_true rfl, Nat.le_of_ble_eq_true rfl⟩ (HT.recv (ci := 3) hkb hH t_a0 (hO.no t_a0 (by decide)) rfl) rfl rfl hl.1 (Nat.le_of_ble_eq_true rfl) dX3_readTruth_2 ⟨Nat.le_of_ble_eq_true rfl, Nat.le_of_ble_eq_true rfl⟩) (fun v2 u H locs hz9 hH hS => ?_)
  obtain ⟨n2_0_2, n2_0_3, n2_0_4, n2_0_5, n2_0_6, n2_0_7, rfl, l_v2, u_v2, x_v20, x_v21, x_v22⟩ := hz9
  have hH : HT D cs A T (tk :: y0 :: O) ((tk, .inr (7, [.ref y0, .int y1, .int n2_0_2, .int n2_0_3, .int n2_0_4, .int n2_0_5, .int n2_0_6, .int n2_0_7])) :: (y0, .inl (cs.1, 900, .inl ft)) :: X) H := hH
  refine W.widen (k := 0) (n := 0) (Nat.le_of_ble_eq_true rfl) (Nat.le_of_ble_eq_true rfl) ?_
  refine lv_istore_n (lv' := [(2, .int v2), (0, .ref a0), (1, .int x1)]) hx hb dX3_readTruth_5 rfl hl (by decide) rfl (fun ls hl => ?_)
  refine lv_iconst (v := 0) hx hb dX3_readTruth_6 (by decide) ?_
  have J8 : ∀ (n : Nat) (p8_3 : Int32) (p8_2 : Int32) (f8_102 : Int32) (f8_103 : Int32) (f8_104 : Int32) (f8_105 : Int32) (f8_106 : Int32) (f8_107 : Int32) (H : Heap) (locs : List Loc) (ls : Array Slot), (900 - p8_3.toInt).toNat = n → (0 ≤ p8_3.toInt) → (p8_3.toInt ≤ 900) → (0 ≤ p8_2.toInt) → (p8_2.toInt ≤ 1) → (0 ≤ f8_102.toInt) → (f8_102.toInt ≤ 900) → (0 ≤ f8_103.toInt) → (f8_103.toInt ≤ 900) → (LTI t tn [(8, 0)] [(9, 0)] y2 p8_2 f8_102 f8_103 f8_104 f8_105 f8_106 f8_107 y7) → (y2.toInt ≤ f8_102.toInt ∧ f8_102.toInt ≤ f8_103.toInt ∧ f8_103.toInt ≤ y1.toInt) → (p8_2.toInt = 0 ∨ p8_3.toInt ≤ f8_102.toInt) → HT D cs A T (tk :: y0 :: O) ((tk, .inr (7, [.ref y0, .int y1, .int f8_102, .int f8_103, .int f8_104, .int f8_105, .int f8_106, .int f8_107])) :: (y0, .inl (cs.1, 900, .inl ft)) :: X) H → va_S A s.heap H locs → lv_has ls 5 [(3, .int p8_3), (2, .int p8_2), (0, .ref a0), (1, .int x1)] → W p l e { frames := 29, cells := 0, slots := 0, locals := 662 } s m [.ref a0, .int x1].toArray below meth c H locs 0 0 (MQ below (Ti D cs (fun r u => ∃ (n0_2 : Int32) (n0_3 : Int32) (n0_4 : Int32) (n0_5 : Int32) (n0_6 : Int32) (n0_7 : Int32), u = (T, tk :: y0 :: O, (tk, .inr (7, [.ref y0, .int y1, .int n0_2, .int n0_3, .int n0_4, .int n0_5, .int n0_6, .int n0_7])) :: (y0, .inl (cs.1, 900, .inl ft)) :: X) ∧ 0 ≤ r.toInt ∧ r.toInt ≤ 1 ∧ (r.toInt = 0 ∨ (TSS t tn n0_2 n0_3 n0_4 n0_5 ∧ n0_6.toInt = 0 ∧ n0_7.toInt = y7.toInt ∧ GL t tn [(8, 0)] [] y2 n0_2)) ∧ (r.toInt ≠ 0 ∨ BL t tn [(8, 0)] y2 n0_6 n0_7) ∧ (y2.toInt ≤ n0_2.toInt ∧ n0_2.toInt ≤ n0_3.toInt ∧ n0_3.toInt ≤ y1.toInt)) A) [.ref a0, .int x1].toArray s 0 0 A) (F0 m 8 ls []) := by
    intro n
    induction n using Nat.strongRecOn with
    | _ n ih8 =>
      intro p8_3 p8_2 f8_102 f8_103 f8_104 f8_105 f8_106 f8_107 H locs ls hm8 l_p8_3 u_p8_3 l_p8_2 u_p8_2 l_f8_102 u_f8_102 l_f8_103 u_f8_103 i8t i8n i8c hH hS hl
      refine lv_iload_n hx hb dX3_readTruth_8 rfl (lv_at hl 0 rfl) ?_
      refine lv_sipush (v := 900) hx hb dX3_readTruth_9 (by decide) ?_
      refine lv_icmp_ge (tgt := 68) hx hb dX3_readTruth_12 (by decide) (fun c12 => ?_) (fun c12 => ?_)
      · skip
        have tc12 := f_ge (k := 900) (by decide) c12
        have hk9 : p8_2.toInt = 0 ∨ GL t tn [(9, 0)] [] f8_102 f8_102 := by first | (refine Or.inl ?_; omega) | exact Or.inr (fun _ _ => st_rN x_v251) | (by_cases q9 : p8_2.toInt = 0; exact Or.inl q9; refine Or.inr (fun _ _ => st_rN ?_); have q8 := LTI.ok i8t q9; have q7 := q8.1.b; rw [kd_end (by omega)]; decide)
        have hz9 := LTI.en i8t hk9
        refine lv_iload_n hx hb dX3_readTruth_68 rfl (lv_at hl 1 rfl) ?_
        exact te_z hx hb hr hlocks (nar01 (by omega) (by omega)) hH hS (⟨f8_102, f8_103, f8_104, f8_105, f8_106, f8_107, rfl, by omega, by omega, hz9.1, hz9.2, (by omega)⟩) dX3_readTruth_69
      · skip
        have tc12 := f_nge (k := 900) (by decide) c12
        refine lv_iload_n hx hb dX3_readTruth_15 rfl (lv_at hl 1 rfl) ?_
        refine lv_if_eq (tgt := 68) hx hb dX3_readTruth_16 (by decide) (fun c16 => ?_) (fun c16 => ?_)
        · skip
          have tc16 := f_eq (k := 0) (by decide) c16
          have hk9 : p8_2.toInt = 0 ∨ GL t tn [(9, 0)] [] f8_102 f8_102 := by first | (refine Or.inl ?_; omega) | exact Or.inr (fun _ _ => st_rN x_v251) | (by_cases q9 : p8_2.toInt = 0; exact Or.inl q9; refine Or.inr (fun _ _ => st_rN ?_); have q8 := LTI.ok i8t q9; have q7 := q8.1.b; rw [kd_end (by omega)]; decide)
          have hz9 := LTI.en i8t hk9
          refine lv_iload_n hx hb dX3_readTruth_68 rfl (lv_at hl 1 rfl) ?_
          exact te_z hx hb hr hlocks (nar01 (by omega) (by omega)) hH hS (⟨f8_102, f8_103, f8_104, f8_105, f8_106, f8_107, rfl, by omega, by omega, hz9.1, hz9.2, (by omega)⟩) dX3_readTruth_69
        · skip
          have tc16 := f_ne (k := 0) (by decide) c16
          have h19 := LTI.ok i8t (by omega)
          have hb19 := h19.1.b
          have hc19 := h19.1.cs
          refine lv_aload_n hx hb dX3_readTruth_19 rfl (lv_at hl 2 rfl) ?_
          refine t_get (ci := 3) (lst := ft3 0 0) (C := RX3) (F := TX3) (N := 3) hx hb hts uX3 hown hkb hH t_a0 (hO.no t_a0 (by decide)) (fun _ h9 => h9) rfl rfl 0 (by decide) rfl kw_82 (fun _ h9 => h9) dX3_readTruth_20 (fun v9 h9 => ?_)
          obtain ⟨v20, rfl, t_v20⟩ := h9
          have e9 := (hU7 _ _ t_v20).symm
          subst e9
          refine va_ldcS (q := kf.1 16) hx hb hown (hks ("FootholdWall$LawReader", 41, "or", 16) (by decide +kernel)) dX3_readTruth_23 ?_
          refine tk_i hH hS hA (tr_V (n := 1) (As := [.ref (kf.1 16)]) hx hb hml hown hts hkb hH (ox_map hOX rfl) hks hE hS hA (s_Tok_isWord l D cs kf T O X tk 16 y0 y1 f8_102 f8_103 f8_104 f8_105 f8_106 f8_107 ft t tn 13 t_tk (by decide) t_y0 (by omega) (by omega) (by omega) (by omega) (by omega) (by omega) (by omega) htb h19.1 (by decide) (by decide) (hO.sub (by decide))) kw_635 kw_551 kw_552 kw_3 kw_553 (by decide +kernel) ⟨Nat.le_of_ble_eq_true rfl, Nat.le_of_ble_eq_true rfl⟩ (x_recv (ci := 7) hkb hH 0 rfl rfl) rfl rfl hl.1 (Nat.le_of_ble_eq_true rfl) dX3_readTruth_25 ⟨Nat.le_of_ble_eq_true rfl, Nat.le_of_ble_eq_true rfl⟩) (fun v25 u H locs hz9 hH hS => ?_)
          obtain ⟨rfl, l_v25, u_v25, x_v250, x_v251⟩ := hz9
          have hH : HT D cs A T (tk :: y0 :: O) ((tk, .inr (7, [.ref y0, .int y1, .int f8_102, .int f8_103, .int f8_104, .int f8_105, .int f8_106, .int f8_107])) :: (y0, .inl (cs.1, 900, .inl ft)) :: X) H := hH
          refine W.widen (k := 0) (n := 0) (Nat.le_of_ble_eq_true rfl) (Nat.le_of_ble_eq_true rfl) ?_
          refine lv_if_eq (tgt := 68) hx hb dX3_readTruth_28 (by decide) (fun c28 => ?_) (fun c28 => ?_)
          · skip
            have tc28 := f_eq (k := 0) (by decide) c28
            clear x_v250
            replace x_v251 := x_v251.resolve_left (fun q9 => q9 tc28)
            have hk9 : p8_2.toInt = 0 ∨ GL t tn [(9, 0)] [] f8_102 f8_102 := by first | (refine Or.inl ?_; omega) | exact Or.inr (fun _ _ => st_rN x_v251) | (by_cases q9 : p8_2.toInt = 0; exact Or.inl q9; refine Or.inr (fun _ _ => st_rN ?_); have q8 := LTI.ok i8t q9; have q7 := q8.1.b; rw [kd_end (by omega)]; decide)
            have hz9 := LTI.en i8t hk9
            refine lv_iload_n hx hb dX3_readTruth_68 rfl (lv_at hl 1 rfl) ?_
            exact te_z hx hb hr hlocks (nar01 (by omega) (by omega)) hH hS (⟨f8_102, f8_103, f8_104, f8_105, f8_106, f8_107, rfl, by omega, by omega, hz9.1, hz9.2, (by omega)⟩) dX3_readTruth_69
          · skip
            have tc28 := f_ne (k := 0) (by decide) c28
            replace x_v250 := x_v250.resolve_left tc28
            clear x_v251
            refine lv_aload_n hx hb dX3_readTruth_31 rfl (lv_at hl 2 rfl) ?_
            refine t_get (ci := 3) (lst := ft3 0 0) (C := RX3) (F := TX3) (N := 3) hx hb hts uX3 hown hkb hH t_a0 (hO.no t_a0 (by decide)) (fun _ h9 => h9) rfl rfl 0 (by decide) rfl kw_82 (fun _ h9 => h9) dX3_readTruth_32 (fun v9 h9 => ?_)
            obtain ⟨v32, rfl, t_v32⟩ := h9
            have e9 := (hU7 _ _ t_v32).symm
            subst e9
            have hl9 := h19.1.lt (by omega)
            refine tk_v hH hS hA (tr_V (n := 0) (As := []) hx hb hml hown hts hkb hH (ox_map hOX rfl) hks hE hS hA (s_Tok_go l D cs kf T O X tk y0 y1 f8_102 f8_103 f8_104 f8_105 f8_106 f8_107 ft t tn t_tk t_y0 (by omega) (by omega) (by omega) (by omega) (by omega) (by omega) (by omega) htb (by have q9 := (h19.1).b; omega) (hO.sub (by decide))) kw_641 kw_453 kw_454 kw_3 kw_455 (by decide +kernel) ⟨Nat.le_of_ble_eq_true rfl, Nat.le_of_ble_eq_true rfl⟩ (x_recv (ci := 7) hkb hH 0 rfl rfl) rfl rfl hl.1 (Nat.le_of_ble_eq_true rfl) dX3_readTruth_35 ⟨Nat.le_of_ble_eq_true rfl, Nat.le_of_ble_eq_true rfl⟩) (fun u H locs hz9 hH hS => ?_)
            obtain ⟨n35_0_2, n35_0_3, n35_0_4, n35_0_5, rfl, x_v350, x_v351, x_v352⟩ := hz9
            have px35 := TSS.nx h19.1 x_v351
            have hH : HT D cs A T (tk :: y0 :: O) ((tk, .inr (7, [.ref y0, .int y1, .int n35_0_2, .int n35_0_3, .int n35_0_4, .int n35_0_5, .int f8_106, .int f8_107])) :: (y0, .inl (cs.1, 900, .inl ft)) :: X) H := hH
            refine W.widen (k := 0) (n := 0) (Nat.le_of_ble_eq_true rfl) (Nat.le_of_ble_eq_true rfl) ?_
            refine lv_aload_n hx hb dX3_readTruth_38 rfl (lv_at hl 2 rfl) ?_
            refine t_get (ci := 3) (lst := ft3 0 0) (C := RX3) (F := TX3) (N := 3) hx hb hts uX3 hown hkb hH t_a0 (hO.no t_a0 (by decide)) (fun _ h9 => h9) rfl rfl 2 (by decide) rfl kw_84 (fun _ h9 => h9) dX3_readTruth_39 (fun v9 h9 => ?_)
            obtain ⟨v39, rfl, l_v39, u_v39⟩ := h9
            refine lv_istore (lv' := [(4, .int v39), (3, .int p8_3), (2, .int p8_2), (0, .ref a0), (1, .int x1)]) hx hb dX3_readTruth_42 hl (by decide) rfl (fun ls hl => ?_)
            refine lv_aload_n hx hb dX3_readTruth_44 rfl (lv_at hl 3 rfl) ?_
            refine lv_iconst (v := 4) hx hb dX3_readTruth_45 (by decide) ?_
            refine lv_iconst (v := 0) hx hb dX3_readTruth_46 (by decide) ?_
            refine tk_v hH hS hA (tr_V (n := 2) (As := [.int 4, .int 0]) hx hb hml hown hts hkb hH (ox_map hOX rfl) hks hE hS hA (s_LR_put l D cs kf T (tk :: y0 :: O) ((tk, .inr (7, [.ref y0, .int y1, .int n35_0_2, .int n35_0_3, .int n35_0_4, .int n35_0_5, .int f8_106, .int f8_107])) :: (y0, .inl (cs.1, 900, .inl ft)) :: X) a0 (4) (0) t_a0 (hO.sub (by decide))) kw_642 kw_644 ks_9 kw_4 kw_645 (by decide +kernel) ⟨Nat.le_of_ble_eq_true rfl, Nat.le_of_ble_eq_true rfl⟩ (HT.recv (ci := 3) hkb hH t_a0 (hO.no t_a0 (by decide)) rfl) rfl rfl hl.1 (Nat.le_of_ble_eq_true rfl) dX3_readTruth_47 ⟨Nat.le_of_ble_eq_true rfl, Nat.le_of_ble_eq_true rfl⟩) (fun u H locs hz9 hH hS => ?_)
            have hz9 : u = (T, tk :: y0 :: O, (tk, .inr (7, [.ref y0, .int y1, .int n35_0_2, .int n35_0_3, .int n35_0_4, .int n35_0_5, .int f8_106, .int f8_107])) :: (y0, .inl (cs.1, 900, .inl ft)) :: X) := hz9
            subst hz9
            have hH : HT D cs A T (tk :: y0 :: O) ((tk, .inr (7, [.ref y0, .int y1, .int n35_0_2, .int n35_0_3, .int n35_0_4, .int n35_0_5, .int f8_106, .int f8_107])) :: (y0, .inl (cs.1, 900, .inl ft)) :: X) H := hH
            refine W.widen (k := 0) (n := 0) (Nat.le_of_ble_eq_true rfl) (Nat.le_of_ble_eq_true rfl) ?_
            refine lv_aload_n hx hb dX3_readTruth_50 rfl (lv_at hl 3 rfl) ?_
            refine lv_iload_n hx hb dX3_readTruth_51 rfl (lv_at hl 4 rfl) ?_
            refine tk_i hH hS hA (tr_V (n := 1) (As := [.int x1]) hx hb hml hown hts hkb hH (ox_map hOX rfl) hks hE hS hA (s_LR_readBoth0 l D cs kf T O X a0 x1 y0 y1 n35_0_2 n35_0_3 n35_0_4 n35_0_5 f8_106 f8_107 ft t tn tk t_a0 (by omega) (by omega) t_y0 (by omega) (by omega) (by omega) (by omega) (by omega) (by omega) (by omega) htb x_v350 t_tk hU7 (by omega) (hO.sub (by decide))) kw_626 kw_628 ks_6 kw_4 kw_629 (by decide +kernel) ⟨Nat.le_of_ble_eq_true rfl, Nat.le_of_ble_eq_true rfl⟩ (HT.recv (ci := 3) hkb hH t_a0 (hO.no t_a0 (by decide)) rfl) rfl rfl hl.1 (Nat.le_of_ble_eq_true rfl) dX3_readTruth_52 ⟨Nat.le_of_ble_eq_true rfl, Nat.le_of_ble_eq_true rfl⟩) (fun v52 u H locs hz9 hH hS => ?_)
            obtain ⟨n52_0_2, n52_0_3, n52_0_4, n52_0_5, n52_0_6, n52_0_7, rfl, l_v52, u_v52, x_v520, x_v521, x_v522⟩ := hz9
            have hH : HT D cs A T (tk :: y0 :: O) ((tk, .inr (7, [.ref y0, .int y1, .int n52_0_2, .int n52_0_3, .int n52_0_4, .int n52_0_5, .int n52_0_6, .int n52_0_7])) :: (y0, .inl (cs.1, 900, .inl ft)) :: X) H := hH
            refine W.widen (k := 0) (n := 0) (Nat.le_of_ble_eq_true rfl) (Nat.le_of_ble_eq_true rfl) ?_
            refine lv_istore_n (lv' := [(2, .int v52), (4, .int v39), (3, .int p8_3), (0, .ref a0), (1, .int x1)]) hx hb dX3_readTruth_55 rfl hl (by decide) rfl (fun ls hl => ?_)
            refine lv_aload_n hx hb dX3_readTruth_56 rfl (lv_at hl 3 rfl) ?_
            refine lv_iload hx hb dX3_readTruth_57 (lv_at hl 1 rfl) ?_
            refine tk_v hH hS hA (tr_V (n := 1) (As := [.int v39]) hx hb hml hown hts hkb hH (ox_map hOX rfl) hks hE hS hA (s_LR_aimSkip l D cs kf T (tk :: y0 :: O) ((tk, .inr (7, [.ref y0, .int y1, .int n52_0_2, .int n52_0_3, .int n52_0_4, .int n52_0_5, .int n52_0_6, .int n52_0_7])) :: (y0, .inl (cs.1, 900, .inl ft)) :: X) a0 v39 t_a0 (hO.sub (by decide))) kw_672 kw_674 ks_14 kw_4 kw_675 (by decide +kernel) ⟨Nat.le_of_ble_eq_true rfl, Nat.le_of_ble_eq_true rfl⟩ (HT.recv (ci := 3) hkb hH t_a0 (hO.no t_a0 (by decide)) rfl) rfl rfl hl.1 (Nat.le_of_ble_eq_true rfl) dX3_readTruth_59 ⟨Nat.le_of_ble_eq_true rfl, Nat.le_of_ble_eq_true rfl⟩) (fun u H locs hz9 hH hS => ?_)
            have hz9 : u = (T, tk :: y0 :: O, (tk, .inr (7, [.ref y0, .int y1, .int n52_0_2, .int n52_0_3, .int n52_0_4, .int n52_0_5, .int n52_0_6, .int n52_0_7])) :: (y0, .inl (cs.1, 900, .inl ft)) :: X) := hz9
            subst hz9
            have hH : HT D cs A T (tk :: y0 :: O) ((tk, .inr (7, [.ref y0, .int y1, .int n52_0_2, .int n52_0_3, .int n52_0_4, .int n52_0_5, .int n52_0_6, .int n52_0_7])) :: (y0, .inl (cs.1, 900, .inl ft)) :: X) H := hH
            refine W.widen (k := 0) (n := 0) (Nat.le_of_ble_eq_true rfl) (Nat.le_of_ble_eq_true rfl) ?_
            obtain ⟨v62, ev62⟩ : ∃ y : Int32, y = p8_3 + 1 := ⟨_, rfl⟩
            have tv62 : v62.toInt = p8_3.toInt + (1) := by rw [ev62]; exact add_i rfl (by decide) (by omega) (by omega)
            refine lv_iinc (v := v62) (lv' := [(3, .int v62), (2, .int v52), (4, .int v39), (0, .ref a0), (1, .int x1)]) hx hb dX3_readTruth_62 hl (k := 2) rfl (by rw [ev62]; rfl) (by decide) rfl (fun ls hl => ?_)
            refine lv_goto (tgt := 8) hx hb dX3_readTruth_65 (by decide) ?_
            exact ih8 _ (by omega) v62 v52 n52_0_2 n52_0_3 n52_0_4 n52_0_5 n52_0_6 n52_0_7 _ _ _ rfl (by omega) (by omega) (by omega) (by omega) (by omega) (by omega) (by omega) (by omega) (by first | (refine LTI.st (fun _ _ => st_r) x_v20 x_v21 l_v2 u_v2 rfl) | (refine LTI.st (h19.2.2.2.tr (GL_nx (fun _ _ => st_rY x_v250) px35)) x_v520 x_v521 l_v52 u_v52 ?_; omega)) (by omega) (by omega) hH hS (lv_sub hl [0, 1, 3, 4] rfl)
  refine lv_istore_n (lv' := [(3, .int 0), (2, .int v2), (0, .ref a0), (1, .int x1)]) hx hb dX3_readTruth_7 rfl hl (by decide) rfl (fun ls hl => ?_)
  have z_0 : (0 : Int32).toInt = 0 := by decide
  exact J8 _ 0 v2 n2_0_2 n2_0_3 n2_0_4 n2_0_5 n2_0_6 n2_0_7 _ _ _ rfl (by decide) (by decide) (by omega) (by omega) (by omega) (by omega) (by omega) (by omega) (by first | (refine LTI.st (fun _ _ => st_r) x_v20 x_v21 l_v2 u_v2 rfl) | (refine LTI.st (h19.2.2.2.tr (GL_nx (fun _ _ => st_rY x_v250) px35)) x_v520 x_v521 l_v52 u_v52 ?_; omega)) (by omega) (by omega) hH hS (lv_sub hl [0, 1, 2, 3] rfl)
set_option maxHeartbeats 4000000 in
set_option maxRecDepth 100000 in
theorem s_LR_read (l : Launch) (D : va_G) (cs : CS) (kf : KF) (T : TF) (O : List Nat) (X : va_W) (a0 : Nat) (y0 : Nat) (y1 : Int32) (y2 : Int32) (y3 : Int32) (y4 : Int32) (y5 : Int32) (y6 : Int32) (y7 : Int32) (ft : Nat → Int32) (t : Tp) (tn : Nat) (tk : Nat) (t_a0 : T a0 = some (13, 0, 0)) (t_y0 : T y0 = some (0, 900, 0)) (l_y1 : 0 ≤ y1.toInt) (u_y1 : y1.toInt ≤ 900) (l_y2 : 0 ≤ y2.toInt) (u_y2 : y2.toInt ≤ 900) (l_y3 : 0 ≤ y3.toInt) (u_y3 : y3.toInt ≤ 900) (hn : y1.toInt = (tn : Int)) (htb : TB ft t) (hto : TSS t tn y2 y3 y4 y5) (t_tk : T tk = some (17, 0, 0)) (hU7 : ∀ (b : Nat) (q : Nat), T b = some (17, 0, q) → b = tk) (hz : y6.toInt = 0) (hO : okO T (tk :: y0 :: O) [1, 13]) : TK l D cs kf yX3_read cX3_read 1 (some (.boolean)) { frames := 30, cells := 0, slots := 0, locals := 686 } [.ref a0] T (tk :: y0 :: O) ((tk, .inr (7, [.ref y0, .int y1, .int y2, .int y3, .int y4, .int y5, .int y6, .int y7])) :: (y0, .inl (cs.1, 900, .inl ft)) :: X) (Ti D cs (fun r u => ∃ (n0_2 : Int32) (n0_3 : Int32) (n0_4 : Int32) (n0_5 : Int32) (n0_6 : Int32) (n0_7 : Int32), u = (T, tk :: y0 :: O, (tk, .inr (7, [.ref y0, .int y1, .int n0_2, .int n0_3, .int n0_4, .int n0_5, .int n0_6, .int n0_7])) :: (y0, .inl (cs.1, 900, .inl ft)) :: X) ∧ 0 ≤ r.toInt ∧ r.toInt ≤ 1 ∧ (r.toInt = 0 ∨ (TSS t tn n0_2 n0_3 n0_4 n0_5 ∧ n0_6.toInt = 0 ∧ n0_7.toInt = y7.toInt ∧ GL t tn [(8, 0)] [] y2 n0_2)) ∧ (r.toInt ≠ 0 ∨ BL t tn [(8, 0)] y2 n0_6 n0_7) ∧ (y2.toInt ≤ n0_2.toInt ∧ n0_2.toInt ≤ n0_3.toInt ∧ n0_3.toInt ≤ y1.toInt))) := by
  refine tk_of (by decide) (Nat.le_of_ble_eq_true rfl) (fun p e s m below meth c ls A H locs hx hb hr hml hown hts hlocks hnm hkb hH hS hA hOX hks hE hl => ?_)
  have hown : s.vm.findClass RX3 = some m.cls := hown
  have hl : lv_has ls 1 [(0, .ref a0)] := hl
  have hOXf := hOX
  have hb9 := hto.b
  have hc9 := hto.cs
  refine lv_aload_n hx hb dX3_read_0 rfl (lv_at hl 0 rfl) ?_
  refine lv_iconst (v := 0) hx hb dX3_read_1 (by decide) ?_
  refine t_put (ci := 3) (lst := ft3 0 0) (v := .int 0) (ty := tyX3 2) (C := RX3) (F := TX3) (N := 3) hx hb hts uX3 tyX3 tyX3_ok nmX3 hown hkb hH hS t_a0 (hO.no t_a0 (by decide)) (fun _ => Iff.rfl) rfl rfl 2 (by decide) rfl (⟨_, rfl, by decide, by decide⟩) kw_84 (fun _ h9 => h9) rfl (tyX3_ok 2 (by decide)) rfl rfl dX3_read_2 (fun H locs hH hS => ?_)
  refine lv_aload_n hx hb dX3_read_5 rfl (lv_at hl 0 rfl) ?_
  refine lv_iconst (v := 0) hx hb dX3_read_6 (by decide) ?_
  have z9_0 : (0 : Int32).toInt = 0 := by decide
  refine tk_i hH hS hA (tr_V (n := 1) (As := [.int 0]) hx hb hml hown hts hkb hH (ox_map hOX rfl) hks hE hS hA (s_LR_readTruth0 l D cs kf T O X a0 (0) y0 y1 y2 y3 y4 y5 y6 y7 ft t tn tk t_a0 (by decide) (by decide) t_y0 (by omega) (by omega) (by omega) (by omega) (by omega) (by omega) (by omega) htb hto t_tk hU7 (by omega) (hO.sub (by decide))) kw_622 kw_624 ks_5 kw_4 kw_625 (by decide +kernel) ⟨Nat.le_of_ble_eq_true rfl, Nat.le_of_ble_eq_true rfl⟩ (HT.recv (ci := 3) hkb hH t_a0 (hO.no t_a0 (by decide)) rfl) rfl rfl hl.1 (Nat.le_of_ble_eq_true rfl) dX3_read_7 ⟨Nat.le_of_ble_eq_true rfl, Nat.le_of_ble_eq_true rfl⟩) (fun v7 u H locs hz9 hH hS => ?_)
  obtain ⟨n7_0_2, n7_0_3, n7_0_4, n7_0_5, n7_0_6, n7_0_7, rfl, l_v7, u_v7, x_v70, x_v71, x_v72⟩ := hz9
  have hH : HT D cs A T (tk :: y0 :: O) ((tk, .inr (7, [.ref y0, .int y1, .int n7_0_2, .int n7_0_3, .int n7_0_4, .int n7_0_5, .int n7_0_6, .int n7_0_7])) :: (y0, .inl (cs.1, 900, .inl ft)) :: X) H := hH
  refine W.widen (k := 0) (n := 0) (Nat.le_of_ble_eq_true rfl) (Nat.le_of_ble_eq_true rfl) ?_
  exact te_z hx hb hr hlocks (nar01 (by omega) (by omega)) hH hS (⟨n7_0_2, n7_0_3, n7_0_4, n7_0_5, n7_0_6, n7_0_7, rfl, by omega, by omega, x_v70, x_v71, (by omega)⟩) dX3_read_10
theorem dX4_readBroken_0 : decode cX4_readBroken 0 = .ok (.aload_n 0, 1) := by decide +kernel
theorem dX4_readBroken_1 : decode cX4_readBroken 1 = .ok (.getfield 12, 3) := by decide +kernel
theorem dX4_readBroken_4 : decode cX4_readBroken 4 = .ok (.invokevirtual 97, 3) := by decide +kernel
theorem dX4_readBroken_7 : decode cX4_readBroken 7 = .ok (.aload_n 0, 1) := by decide +kernel
theorem dX4_readBroken_8 : decode cX4_readBroken 8 = .ok (.getfield 12, 3) := by decide +kernel
theorem dX4_readBroken_11 : decode cX4_readBroken 11 = .ok (.aload_n 0, 1) := by decide +kernel
theorem dX4_readBroken_12 : decode cX4_readBroken 12 = .ok (.getfield 32, 3) := by decide +kernel
theorem dX4_readBroken_15 : decode cX4_readBroken 15 = .ok (.getfield 125, 3) := by decide +kernel
theorem dX4_readBroken_18 : decode cX4_readBroken 18 = .ok (.iconst 1, 1) := by decide +kernel
theorem dX4_readBroken_19 : decode cX4_readBroken 19 = .ok (.isub, 1) := by decide +kernel
theorem dX4_readBroken_20 : decode cX4_readBroken 20 = .ok (.invokevirtual 115, 3) := by decide +kernel
theorem dX4_readBroken_23 : decode cX4_readBroken 23 = .ok (.istore_n 1, 1) := by decide +kernel
theorem dX4_readBroken_24 : decode cX4_readBroken 24 = .ok (.iload_n 1, 1) := by decide +kernel
theorem dX4_readBroken_25 : decode cX4_readBroken 25 = .ok (.iconst (-1), 1) := by decide +kernel
theorem dX4_readBroken_26 : decode cX4_readBroken 26 = .ok (.if_icmp .ne 5, 3) := by decide +kernel
theorem dX4_readBroken_29 : decode cX4_readBroken 29 = .ok (.iconst 0, 1) := by decide +kernel
theorem dX4_readBroken_30 : decode cX4_readBroken 30 = .ok (.ireturn, 1) := by decide +kernel
theorem dX4_readBroken_31 : decode cX4_readBroken 31 = .ok (.aload_n 0, 1) := by decide +kernel
theorem dX4_readBroken_32 : decode cX4_readBroken 32 = .ok (.getfield 43, 3) := by decide +kernel
theorem dX4_readBroken_35 : decode cX4_readBroken 35 = .ok (.iload_n 1, 1) := by decide +kernel
theorem dX4_readBroken_36 : decode cX4_readBroken 36 = .ok (.invokevirtual 184, 3) := by decide +kernel
theorem dX4_readBroken_39 : decode cX4_readBroken 39 = .ok (.pop, 1) := by decide +kernel
theorem dX4_readBroken_40 : decode cX4_readBroken 40 = .ok (.iconst 1, 1) := by decide +kernel
theorem dX4_readBroken_41 : decode cX4_readBroken 41 = .ok (.ireturn, 1) := by decide +kernel
theorem dX4_readFlag_0 : decode cX4_readFlag 0 = .ok (.iconst 1, 1) := by decide +kernel
theorem dX4_readFlag_1 : decode cX4_readFlag 1 = .ok (.iload_n 1, 1) := by decide +kernel
theorem dX4_readFlag_2 : decode cX4_readFlag 2 = .ok (.ishl, 1) := by decide +kernel
theorem dX4_readFlag_3 : decode cX4_readFlag 3 = .ok (.istore_n 2, 1) := by decide +kernel
theorem dX4_readFlag_4 : decode cX4_readFlag 4 = .ok (.aload_n 0, 1) := by decide +kernel
theorem dX4_readFlag_5 : decode cX4_readFlag 5 = .ok (.getfield 12, 3) := by decide +kernel
theorem dX4_readFlag_8 : decode cX4_readFlag 8 = .ok (.ldc 141, 2) := by decide +kernel
theorem dX4_readFlag_10 : decode cX4_readFlag 10 = .ok (.invokevirtual 83, 3) := by decide +kernel
theorem dX4_readFlag_13 : decode cX4_readFlag 13 = .ok (.ifCond .eq 48, 3) := by decide +kernel
theorem dX4_readFlag_16 : decode cX4_readFlag 16 = .ok (.aload_n 0, 1) := by decide +kernel
theorem dX4_readFlag_17 : decode cX4_readFlag 17 = .ok (.getfield 12, 3) := by decide +kernel
theorem dX4_readFlag_20 : decode cX4_readFlag 20 = .ok (.invokevirtual 97, 3) := by decide +kernel
theorem dX4_readFlag_23 : decode cX4_readFlag 23 = .ok (.aload_n 0, 1) := by decide +kernel
theorem dX4_readFlag_24 : decode cX4_readFlag 24 = .ok (.getfield 32, 3) := by decide +kernel
theorem dX4_readFlag_27 : decode cX4_readFlag 27 = .ok (.getfield 135, 3) := by decide +kernel
theorem dX4_readFlag_30 : decode cX4_readFlag 30 = .ok (.iload_n 1, 1) := by decide +kernel
theorem dX4_readFlag_31 : decode cX4_readFlag 31 = .ok (.aload_n 0, 1) := by decide +kernel
theorem dX4_readFlag_32 : decode cX4_readFlag 32 = .ok (.getfield 12, 3) := by decide +kernel
theorem dX4_readFlag_35 : decode cX4_readFlag 35 = .ok (.sipush 999, 3) := by decide +kernel
theorem dX4_readFlag_38 : decode cX4_readFlag 38 = .ok (.invokevirtual 115, 3) := by decide +kernel
theorem dX4_readFlag_41 : decode cX4_readFlag 41 = .ok (.iastore, 1) := by decide +kernel
theorem dX4_readFlag_42 : decode cX4_readFlag 42 = .ok (.aload_n 0, 1) := by decide +kernel
theorem dX4_readFlag_43 : decode cX4_readFlag 43 = .ok (.getfield 32, 3) := by decide +kernel
theorem dX4_readFlag_46 : decode cX4_readFlag 46 = .ok (.getfield 135, 3) := by decide +kernel
theorem dX4_readFlag_49 : decode cX4_readFlag 49 = .ok (.iload_n 1, 1) := by decide +kernel
theorem dX4_readFlag_50 : decode cX4_readFlag 50 = .ok (.iaload, 1) := by decide +kernel
theorem dX4_readFlag_51 : decode cX4_readFlag 51 = .ok (.iconst (-1), 1) := by decide +kernel
theorem dX4_readFlag_52 : decode cX4_readFlag 52 = .ok (.if_icmp .eq 7, 3) := by decide +kernel
theorem dX4_readFlag_55 : decode cX4_readFlag 55 = .ok (.iconst 1, 1) := by decide +kernel
theorem dX4_readFlag_56 : decode cX4_readFlag 56 = .ok (.goto 4, 3) := by decide +kernel
theorem dX4_readFlag_59 : decode cX4_readFlag 59 = .ok (.iconst 0, 1) := by decide +kernel
theorem dX4_readFlag_60 : decode cX4_readFlag 60 = .ok (.ireturn, 1) := by decide +kernel
theorem dX4_readFlag_61 : decode cX4_readFlag 61 = .ok (.aload_n 0, 1) := by decide +kernel
theorem dX4_readFlag_62 : decode cX4_readFlag 62 = .ok (.getfield 12, 3) := by decide +kernel
theorem dX4_readFlag_65 : decode cX4_readFlag 65 = .ok (.ldc 142, 2) := by decide +kernel
theorem dX4_readFlag_67 : decode cX4_readFlag 67 = .ok (.invokevirtual 83, 3) := by decide +kernel
theorem dX4_readFlag_70 : decode cX4_readFlag 70 = .ok (.ifCond .eq 19, 3) := by decide +kernel
theorem dX4_readFlag_73 : decode cX4_readFlag 73 = .ok (.aload_n 0, 1) := by decide +kernel
theorem dX4_readFlag_74 : decode cX4_readFlag 74 = .ok (.getfield 32, 3) := by decide +kernel
theorem dX4_readFlag_77 : decode cX4_readFlag 77 = .ok (.dup, 1) := by decide +kernel
theorem dX4_readFlag_78 : decode cX4_readFlag 78 = .ok (.getfield 144, 3) := by decide +kernel
theorem dX4_readFlag_81 : decode cX4_readFlag 81 = .ok (.iload_n 2, 1) := by decide +kernel
theorem dX4_readFlag_82 : decode cX4_readFlag 82 = .ok (.ior, 1) := by decide +kernel
theorem dX4_readFlag_83 : decode cX4_readFlag 83 = .ok (.putfield 144, 3) := by decide +kernel
theorem dX4_readFlag_86 : decode cX4_readFlag 86 = .ok (.goto 68, 3) := by decide +kernel
theorem dX4_readFlag_89 : decode cX4_readFlag 89 = .ok (.aload_n 0, 1) := by decide +kernel
theorem dX4_readFlag_90 : decode cX4_readFlag 90 = .ok (.getfield 12, 3) := by decide +kernel
theorem dX4_readFlag_93 : decode cX4_readFlag 93 = .ok (.ldc 147, 2) := by decide +kernel
theorem dX4_readFlag_95 : decode cX4_readFlag 95 = .ok (.invokevirtual 83, 3) := by decide +kernel
theorem dX4_readFlag_98 : decode cX4_readFlag 98 = .ok (.ifCond .eq 19, 3) := by decide +kernel
theorem dX4_readFlag_101 : decode cX4_readFlag 101 = .ok (.aload_n 0, 1) := by decide +kernel
theorem dX4_readFlag_102 : decode cX4_readFlag 102 = .ok (.getfield 32, 3) := by decide +kernel
theorem dX4_readFlag_105 : decode cX4_readFlag 105 = .ok (.dup, 1) := by decide +kernel
theorem dX4_readFlag_106 : decode cX4_readFlag 106 = .ok (.getfield 149, 3) := by decide +kernel
theorem dX4_readFlag_109 : decode cX4_readFlag 109 = .ok (.iload_n 2, 1) := by decide +kernel
theorem dX4_readFlag_110 : decode cX4_readFlag 110 = .ok (.ior, 1) := by decide +kernel
theorem dX4_readFlag_111 : decode cX4_readFlag 111 = .ok (.putfield 149, 3) := by decide +kernel
theorem dX4_readFlag_114 : decode cX4_readFlag 114 = .ok (.goto 40, 3) := by decide +kernel
theorem dX4_readFlag_117 : decode cX4_readFlag 117 = .ok (.aload_n 0, 1) := by decide +kernel
theorem dX4_readFlag_118 : decode cX4_readFlag 118 = .ok (.getfield 12, 3) := by decide +kernel
theorem dX4_readFlag_121 : decode cX4_readFlag 121 = .ok (.ldc 152, 2) := by decide +kernel
theorem dX4_readFlag_123 : decode cX4_readFlag 123 = .ok (.invokevirtual 83, 3) := by decide +kernel
theorem dX4_readFlag_126 : decode cX4_readFlag 126 = .ok (.ifCond .eq 19, 3) := by decide +kernel
theorem dX4_readFlag_129 : decode cX4_readFlag 129 = .ok (.aload_n 0, 1) := by decide +kernel
theorem dX4_readFlag_130 : decode cX4_readFlag 130 = .ok (.getfield 32, 3) := by decide +kernel
theorem dX4_readFlag_133 : decode cX4_readFlag 133 = .ok (.dup, 1) := by decide +kernel
theorem dX4_readFlag_134 : decode cX4_readFlag 134 = .ok (.getfield 154, 3) := by decide +kernel
theorem dX4_readFlag_137 : decode cX4_readFlag 137 = .ok (.iload_n 2, 1) := by decide +kernel
theorem dX4_readFlag_138 : decode cX4_readFlag 138 = .ok (.ior, 1) := by decide +kernel
theorem dX4_readFlag_139 : decode cX4_readFlag 139 = .ok (.putfield 154, 3) := by decide +kernel
theorem dX4_readFlag_142 : decode cX4_readFlag 142 = .ok (.goto 12, 3) := by decide +kernel
theorem dX4_readFlag_145 : decode cX4_readFlag 145 = .ok (.aload_n 0, 1) := by decide +kernel
theorem dX4_readFlag_146 : decode cX4_readFlag 146 = .ok (.getfield 12, 3) := by decide +kernel
theorem dX4_readFlag_149 : decode cX4_readFlag 149 = .ok (.iconst 2, 1) := by decide +kernel
theorem dX4_readFlag_150 : decode cX4_readFlag 150 = .ok (.invokevirtual 121, 3) := by decide +kernel
theorem dX4_readFlag_153 : decode cX4_readFlag 153 = .ok (.ireturn, 1) := by decide +kernel
theorem dX4_readFlag_154 : decode cX4_readFlag 154 = .ok (.aload_n 0, 1) := by decide +kernel
theorem dX4_readFlag_155 : decode cX4_readFlag 155 = .ok (.getfield 12, 3) := by decide +kernel
theorem dX4_readFlag_158 : decode cX4_readFlag 158 = .ok (.invokevirtual 97, 3) := by decide +kernel
theorem dX4_readFlag_161 : decode cX4_readFlag 161 = .ok (.iconst 1, 1) := by decide +kernel
theorem dX4_readFlag_162 : decode cX4_readFlag 162 = .ok (.ireturn, 1) := by decide +kernel
theorem kw_108 : Cond.fieldLink "FootholdWall$Reader" 125 "FootholdWall$Wall" "holds" "I" ∈ gw := gw_of (tb_of 108 (by decide +kernel)) (by decide +kernel)
theorem kw_121 : Cond.fieldLink "FootholdWall$Reader" 144 "FootholdWall$Wall" "starts" "I" ∈ gw := gw_of (tb_of 121 (by decide +kernel)) (by decide +kernel)
theorem kw_129 : Cond.fieldLink "FootholdWall$Reader" 149 "FootholdWall$Wall" "tops" "I" ∈ gw := gw_of (tb_of 129 (by decide +kernel)) (by decide +kernel)
theorem kw_131 : Cond.fieldLink "FootholdWall$Reader" 154 "FootholdWall$Wall" "wides" "I" ∈ gw := gw_of (tb_of 131 (by decide +kernel)) (by decide +kernel)
theorem kw_139 : Cond.fieldLink "FootholdWall$Reader" 135 "FootholdWall$Wall" "ice" "[I" ∈ gw := gw_of (tb_of 139 (by decide +kernel)) (by decide +kernel)
theorem kw_211 : Cond.fieldLink "FootholdWall$Reader" 12 "FootholdWall$Reader" "tokens" "LFootholdWall$Tokens;" ∈ gw := gw_of (tb_of 211 (by decide +kernel)) (by decide +kernel)
theorem kw_214 : Cond.fieldLink "FootholdWall$Reader" 32 "FootholdWall$Reader" "draft" "LFootholdWall$Wall;" ∈ gw := gw_of (tb_of 214 (by decide +kernel)) (by decide +kernel)
theorem kw_216 : Cond.fieldLink "FootholdWall$Reader" 43 "FootholdWall$Reader" "told" "LFootholdWall$State;" ∈ gw := gw_of (tb_of 216 (by decide +kernel)) (by decide +kernel)
theorem kw_550 : Cond.methodLink "FootholdWall$Reader" 83 yX7_isWord ∈ gw := gw_of (tb_of 550 (by decide +kernel)) (by decide +kernel)
theorem kw_579 : Cond.methodLink "FootholdWall$Reader" 121 yX7_refuse ∈ gw := gw_of (tb_of 579 (by decide +kernel)) (by decide +kernel)
theorem kw_583 : Cond.methodLink "FootholdWall$Reader" 97 yX7_go ∈ gw := gw_of (tb_of 583 (by decide +kernel)) (by decide +kernel)
theorem kw_584 : Cond.methodLink "FootholdWall$Reader" 115 yX7_takeNumber ∈ gw := gw_of (tb_of 584 (by decide +kernel)) (by decide +kernel)
theorem kw_585 : Cond.instanceMethod yX7_takeNumber ∈ gw := gw_of (tb_of 585 (by decide +kernel)) (by decide +kernel)
theorem kw_586 : Cond.selects "FootholdWall$Tokens" yX7_takeNumber yX7_takeNumber ∈ gw := gw_of (tb_of 586 (by decide +kernel)) (by decide +kernel)
theorem kw_587 : Cond.code yX7_takeNumber cX7_takeNumber 3 (some (.int)) ∈ gw := gw_of (tb_of 587 (by decide +kernel)) (by decide +kernel)
theorem kw_702 : Cond.methodLink "FootholdWall$Reader" 184 yX6_breakDown ∈ gw := gw_of (tb_of 702 (by decide +kernel)) (by decide +kernel)
set_option maxHeartbeats 4000000 in
set_option maxRecDepth 100000 in
theorem s_RD_readBroken (l : Launch) (D : va_G) (cs : CS) (kf : KF) (T : TF) (O : List Nat) (X : va_W) (a0 d : Nat) (y0 : Nat) (y1 : Int32) (y2 : Int32) (y3 : Int32) (y4 : Int32) (y5 : Int32) (y6 : Int32) (y7 : Int32) (ft : Nat → Int32) (z0 : Int32) (z1 : Int32) (z2 : Int32) (z3 : Int32) (z4 : Int32) (z5 : Int32) (z6 : Nat) (z7 : Nat) (z8 : Nat) (z9 : Nat) (z10 : Nat) (z12 : Int32) (z13 : Int32) (t : Tp) (tn : Nat) (tk : Nat) (t_a0 : T a0 = some (14, d, 0)) (t_d : T d = some (19, 100, 0)) (t_y0 : T y0 = some (0, 900, 0)) (l_y1 : 0 ≤ y1.toInt) (u_y1 : y1.toInt ≤ 900) (l_y2 : 0 ≤ y2.toInt) (u_y2 : y2.toInt ≤ 900) (l_y3 : 0 ≤ y3.toInt) (u_y3 : y3.toInt ≤ 900) (l_z0 : 0 ≤ z0.toInt) (u_z0 : z0.toInt ≤ 14) (l_z1 : 0 ≤ z1.toInt) (u_z1 : z1.toInt ≤ 5) (l_z3 : 0 ≤ z3.toInt) (u_z3 : z3.toInt ≤ 16383) (l_z4 : 0 ≤ z4.toInt) (u_z4 : z4.toInt ≤ 16383) (l_z5 : 0 ≤ z5.toInt) (u_z5 : z5.toInt ≤ 16383) (t_z6 : T z6 = some (1, 14, 0)) (t_z7 : T z7 = some (1, 14, 0)) (t_z8 : T z8 = some (1, 14, 0)) (t_z9 : T z9 = some (1, 5, 0)) (t_z10 : T z10 = some (1, 5, 9)) (l_z12 : 0 ≤ z12.toInt) (u_z12 : z12.toInt ≤ 1) (l_z13 : 0 ≤ z13.toInt) (u_z13 : z13.toInt ≤ 1) (hn : y1.toInt = (tn : Int)) (htb : TB ft t) (hto : TSS t tn y2 y3 y4 y5) (t_tk : T tk = some (17, 0, 0)) (hU7 : ∀ (b : Nat) (q : Nat), T b = some (17, 0, q) → b = tk) (hz : y6.toInt = 0) (hk7 : kd t tn y2.toInt.toNat = 7) (hO : okO T (tk :: y0 :: d :: O) [14, 16]) : TK l D cs kf yX4_readBroken cX4_readBroken 2 (some (.boolean)) { frames := 6, cells := 0, slots := 0, locals := 133 } [.ref a0] T (tk :: y0 :: d :: O) ((tk, .inr (7, [.ref y0, .int y1, .int y2, .int y3, .int y4, .int y5, .int y6, .int y7])) :: (y0, .inl (cs.1, 900, .inl ft)) :: (d, .inr (9, [.int z0, .int z1, .int z2, .int z3, .int z4, .int z5, .ref z6, .ref z7, .ref z8, .ref z9, .ref z10, .null, .int z12, .int z13])) :: X) (Ti D cs (fun r u => ∃ (n0_2 : Int32) (n0_3 : Int32) (n0_4 : Int32) (n0_5 : Int32) (n0_6 : Int32) (n0_7 : Int32), u = (T, tk :: y0 :: d :: O, (tk, .inr (7, [.ref y0, .int y1, .int n0_2, .int n0_3, .int n0_4, .int n0_5, .int n0_6, .int n0_7])) :: (y0, .inl (cs.1, 900, .inl ft)) :: (d, .inr (9, [.int z0, .int z1, .int z2, .int z3, .int z4, .int z5, .ref z6, .ref z7, .ref z8, .ref z9, .ref z10, .null, .int z12, .int z13])) :: X) ∧ 0 ≤ r.toInt ∧ r.toInt ≤ 1 ∧ (r.toInt = 0 ∨ (TSS t tn n0_2 n0_3 n0_4 n0_5 ∧ n0_6.toInt = 0 ∧ n0_7.toInt = y7.toInt ∧ y2.toInt + 1 ≤ n0_2.toInt ∧ GR t tn [(31, 0)] [] (RZ z0 z1 z3 z4 z2) (RZ z0 z1 z3 z4 z2) y2 n0_2)) ∧ (r.toInt ≠ 0 ∨ BR t tn [(31, 0), (20, 30)] (RZ z0 z1 z3 z4 z2) y2 n0_6 n0_7) ∧ (y2.toInt ≤ n0_2.toInt ∧ n0_2.toInt ≤ n0_3.toInt ∧ n0_3.toInt ≤ y1.toInt))) := by
  refine tk_of (by decide) (Nat.le_of_ble_eq_true rfl) (fun p e s m below meth c ls A H locs hx hb hr hml hown hts hlocks hnm hkb hH hS hA hOX hks hE hl => ?_)
  have hown : s.vm.findClass RX4 = some m.cls := hown
  have hl : lv_has ls 2 [(0, .ref a0)] := hl
  have hOXf := hOX
  have hb9 := hto.b
  have hc9 := hto.cs
  have hl9 := hto.lt (by omega)
  refine lv_aload_n hx hb dX4_readBroken_0 rfl (lv_at hl 0 rfl) ?_
  refine t_get (ci := 4) (lst := ft4 d 0) (C := RX4) (F := TX4) (N := 5) hx hb hts uX4 hown hkb hH t_a0 (hO.no t_a0 (by decide)) (fun _ h9 => h9) rfl rfl 0 (by decide) rfl kw_211 (fun _ h9 => h9) dX4_readBroken_1 (fun v9 h9 => ?_)
  obtain ⟨v1, rfl, t_v1⟩ := h9
  have e9 := (hU7 _ _ t_v1).symm
  subst e9
  refine tk_v hH hS hA (tr_V (n := 0) (As := []) hx hb hml hown hts hkb hH (ox_map hOX rfl) hks hE hS hA (s_Tok_go l D cs kf T (d :: O) ((d, .inr (9, [.int z0, .int z1, .int z2, .int z3, .int z4, .int z5, .ref z6, .ref z7, .ref z8, .ref z9, .ref z10, .null, .int z12, .int z13])) :: X) tk y0 y1 y2 y3 y4 y5 y6 y7 ft t tn t_tk t_y0 (by omega) (by omega) (by omega) (by omega) (by omega) (by omega) (by omega) htb (by have q9 := (hto).b; omega) (hO.sub (by decide))) kw_583 kw_453 kw_454 kw_3 kw_455 (by decide +kernel) ⟨Nat.le_of_ble_eq_true rfl, Nat.le_of_ble_eq_true rfl⟩ (x_recv (ci := 7) hkb hH 0 rfl rfl) rfl rfl hl.1 (Nat.le_of_ble_eq_true rfl) dX4_readBroken_4 ⟨Nat.le_of_ble_eq_true rfl, Nat.le_of_ble_eq_true rfl⟩) (fun u H locs hz9 hH hS => ?_)
  obtain ⟨n4_0_2, n4_0_3, n4_0_4, n4_0_5, rfl, x_v40, x_v41, x_v42⟩ := hz9
  have px4 := TSS.nx hto x_v41
  have hH : HT D cs A T (tk :: y0 :: d :: O) ((tk, .inr (7, [.ref y0, .int y1, .int n4_0_2, .int n4_0_3, .int n4_0_4, .int n4_0_5, .int y6, .int y7])) :: (y0, .inl (cs.1, 900, .inl ft)) :: (d, .inr (9, [.int z0, .int z1, .int z2, .int z3, .int z4, .int z5, .ref z6, .ref z7, .ref z8, .ref z9, .ref z10, .null, .int z12, .int z13])) :: X) H := hH
  refine W.widen (k := 0) (n := 0) (Nat.le_of_ble_eq_true rfl) (Nat.le_of_ble_eq_true rfl) ?_
  have g7 : GR t tn [(31, 0)] [(37, 0)] (RZ z0 z1 z3 z4 z2) (RZ z0 z1 z3 z4 z2) y2 n4_0_2 := GR_nx (fun _ => st_iB hk7) px4
  refine lv_aload_n hx hb dX4_readBroken_7 rfl (lv_at hl 0 rfl) ?_
  refine t_get (ci := 4) (lst := ft4 d 0) (C := RX4) (F := TX4) (N := 5) hx hb hts uX4 hown hkb hH t_a0 (hO.no t_a0 (by decide)) (fun _ h9 => h9) rfl rfl 0 (by decide) rfl kw_211 (fun _ h9 => h9) dX4_readBroken_8 (fun v9 h9 => ?_)
  obtain ⟨v8, rfl, t_v8⟩ := h9
  have e9 := (hU7 _ _ t_v8).symm
  subst e9
  refine lv_aload_n hx hb dX4_readBroken_11 rfl (lv_at hl 0 rfl) ?_
  refine t_get (ci := 4) (lst := ft4 d 0) (C := RX4) (F := TX4) (N := 5) hx hb hts uX4 hown hkb hH t_a0 (hO.no t_a0 (by decide)) (fun _ h9 => h9) rfl rfl 2 (by decide) rfl kw_214 (fun _ h9 => h9) dX4_readBroken_12 (fun v9 h9 => ?_)
  have h9 : v9 = .ref d := h9
  subst h9
  refine x_getk (ci := 9) (C := RX9) (F := TX9) (N := 14) (v := .int z0) hx hb hts uX9 hown hkb hH 2 rfl rfl 0 (by decide) rfl kw_108 (fun _ h9 => h9) dX4_readBroken_15 ?_
  refine lv_iconst (v := 1) hx hb dX4_readBroken_18 (by decide) ?_
  refine lv_isub hx hb dX4_readBroken_19 ?_
  refine lv_topi (fun v19 ev19 => ?_)
  have tv19 : v19.toInt = z0.toInt - (1) := by rw [ev19]; exact sub_i rfl (by decide : (1 : Int32).toInt = 1) (by omega) (by omega)
  refine tk_i hH hS hA (tr_V (n := 1) (As := [.int v19]) hx hb hml hown hts hkb hH (ox_map hOX rfl) hks hE hS hA (s_Tok_takeNumber l D cs kf T (d :: O) ((d, .inr (9, [.int z0, .int z1, .int z2, .int z3, .int z4, .int z5, .ref z6, .ref z7, .ref z8, .ref z9, .ref z10, .null, .int z12, .int z13])) :: X) tk v19 y0 y1 n4_0_2 n4_0_3 n4_0_4 n4_0_5 y6 y7 ft t tn t_tk (by omega) (by omega) t_y0 (by omega) (by omega) (by omega) (by omega) (by omega) (by omega) (by omega) htb x_v40 (hO.sub (by decide))) kw_584 kw_585 kw_586 kw_3 kw_587 (by decide +kernel) ⟨Nat.le_of_ble_eq_true rfl, Nat.le_of_ble_eq_true rfl⟩ (x_recv (ci := 7) hkb hH 0 rfl rfl) rfl rfl hl.1 (Nat.le_of_ble_eq_true rfl) dX4_readBroken_20 ⟨Nat.le_of_ble_eq_true rfl, Nat.le_of_ble_eq_true rfl⟩) (fun v20 u H locs hz9 hH hS => ?_)
  obtain ⟨n20_0_2, n20_0_3, n20_0_4, n20_0_5, n20_0_6, n20_0_7, rfl, l_v20, u_v20, x_v200, x_v201, x_v202, x_v203⟩ := hz9
  have hH : HT D cs A T (tk :: y0 :: d :: O) ((tk, .inr (7, [.ref y0, .int y1, .int n20_0_2, .int n20_0_3, .int n20_0_4, .int n20_0_5, .int n20_0_6, .int n20_0_7])) :: (y0, .inl (cs.1, 900, .inl ft)) :: (d, .inr (9, [.int z0, .int z1, .int z2, .int z3, .int z4, .int z5, .ref z6, .ref z7, .ref z8, .ref z9, .ref z10, .null, .int z12, .int z13])) :: X) H := hH
  refine W.widen (k := 0) (n := 0) (Nat.le_of_ble_eq_true rfl) (Nat.le_of_ble_eq_true rfl) ?_
  refine lv_istore_n (lv' := [(1, .int v20), (0, .ref a0)]) hx hb dX4_readBroken_23 rfl hl (by decide) rfl (fun ls hl => ?_)
  refine lv_iload_n hx hb dX4_readBroken_24 rfl (lv_at hl 0 rfl) ?_
  refine lv_iconst (v := (-1)) hx hb dX4_readBroken_25 (by decide) ?_
  refine lv_icmp_ne (tgt := 31) hx hb dX4_readBroken_26 (by decide) (fun c26 => ?_) (fun c26 => ?_)
  · skip
    have tc26 := f_ne (k := -1) (by decide) c26
    replace x_v200 := x_v200.resolve_left tc26
    replace x_v203 := x_v203.resolve_left tc26
    clear x_v201
    refine lv_aload_n hx hb dX4_readBroken_31 rfl (lv_at hl 1 rfl) ?_
    refine t_get (ci := 4) (lst := ft4 d 0) (C := RX4) (F := TX4) (N := 5) hx hb hts uX4 hown hkb hH t_a0 (hO.no t_a0 (by decide)) (fun _ h9 => h9) rfl rfl 4 (by decide) rfl kw_216 (fun _ h9 => h9) dX4_readBroken_32 (fun v9 h9 => ?_)
    obtain ⟨v32, rfl, t_v32⟩ := h9
    refine lv_iload_n hx hb dX4_readBroken_35 rfl (lv_at hl 0 rfl) ?_
    refine tk_i hH hS hA (tr_V (n := 1) (As := [.int v20]) hx hb hml hown hts hkb hH (ox_map hOX rfl) hks hE hS hA (s_State_breakDown l D cs kf T (tk :: y0 :: d :: O) ((tk, .inr (7, [.ref y0, .int y1, .int n20_0_2, .int n20_0_3, .int n20_0_4, .int n20_0_5, .int n20_0_6, .int n20_0_7])) :: (y0, .inl (cs.1, 900, .inl ft)) :: (d, .inr (9, [.int z0, .int z1, .int z2, .int z3, .int z4, .int z5, .ref z6, .ref z7, .ref z8, .ref z9, .ref z10, .null, .int z12, .int z13])) :: X) v32 v20 t_v32 (hO.sub (by decide))) kw_702 kw_703 kw_704 kw_7 kw_705 (by decide +kernel) ⟨Nat.le_of_ble_eq_true rfl, Nat.le_of_ble_eq_true rfl⟩ (HT.recv (ci := 6) hkb hH t_v32 (hO.no t_v32 (by decide)) rfl) rfl rfl hl.1 (Nat.le_of_ble_eq_true rfl) dX4_readBroken_36 ⟨Nat.le_of_ble_eq_true rfl, Nat.le_of_ble_eq_true rfl⟩) (fun v36 u H locs hz9 hH hS => ?_)
    obtain ⟨rfl, l_v36, u_v36⟩ := hz9
    have hH : HT D cs A T (tk :: y0 :: d :: O) ((tk, .inr (7, [.ref y0, .int y1, .int n20_0_2, .int n20_0_3, .int n20_0_4, .int n20_0_5, .int n20_0_6, .int n20_0_7])) :: (y0, .inl (cs.1, 900, .inl ft)) :: (d, .inr (9, [.int z0, .int z1, .int z2, .int z3, .int z4, .int z5, .ref z6, .ref z7, .ref z8, .ref z9, .ref z10, .null, .int z12, .int z13])) :: X) H := hH
    refine W.widen (k := 0) (n := 0) (Nat.le_of_ble_eq_true rfl) (Nat.le_of_ble_eq_true rfl) ?_
    refine lv_pop hx hb dX4_readBroken_39 rfl ?_
    refine lv_iconst (v := 1) hx hb dX4_readBroken_40 (by decide) ?_
    have z9_1 : (1 : Int32).toInt = 1 := by decide
    exact te_z hx hb hr hlocks (by rfl) hH hS (⟨n20_0_2, n20_0_3, n20_0_4, n20_0_5, n20_0_6, n20_0_7, rfl, by decide, by decide, (Or.inr ⟨x_v200.1, by omega, by omega, by omega, (by first | (refine g7.tr (GR_k (m := v19) ?_ x_v200.2.2.1 x_v200.2.2.2.1 x_v200.2.2.2.2.1 x_v200.2.1); show v19.toInt = ((z0.toInt.toNat : Nat) : Int) - 1; omega))⟩), Or.inl (by decide), (by omega)⟩) dX4_readBroken_41
  · skip
    have tc26 := f_eq (k := -1) (by decide) c26
    clear x_v200
    clear x_v203
    replace x_v201 := x_v201.resolve_left (fun q9 => q9 tc26)
    refine lv_iconst (v := 0) hx hb dX4_readBroken_29 (by decide) ?_
    have z9_0 : (0 : Int32).toInt = 0 := by decide
    exact te_z hx hb hr hlocks (by rfl) hH hS (⟨n20_0_2, n20_0_3, n20_0_4, n20_0_5, n20_0_6, n20_0_7, rfl, by decide, by decide, Or.inl (by decide), (Or.inr (by first | (refine (g7.bd (BR_k (m := v19) ?_ x_v201.1 x_v201.2.1 x_v201.2.2 ?_)).cons; show v19.toInt = ((z0.toInt.toNat : Nat) : Int) - 1; omega; omega))), (by omega)⟩) dX4_readBroken_30
set_option maxHeartbeats 4000000 in
set_option maxRecDepth 100000 in
theorem s_RD_readFlag (l : Launch) (D : va_G) (cs : CS) (kf : KF) (T : TF) (O : List Nat) (X : va_W) (a0 d : Nat) (x1 : Int32) (y0 : Nat) (y1 : Int32) (y2 : Int32) (y3 : Int32) (y4 : Int32) (y5 : Int32) (y6 : Int32) (y7 : Int32) (ft : Nat → Int32) (z0 : Int32) (z1 : Int32) (z2 : Int32) (z3 : Int32) (z4 : Int32) (z5 : Int32) (z6 : Nat) (z7 : Nat) (z8 : Nat) (z9 : Nat) (z10 : Nat) (z12 : Int32) (z13 : Int32) (t : Tp) (tn : Nat) (tk : Nat) (t_a0 : T a0 = some (14, d, 0)) (t_d : T d = some (19, 100, 0)) (l_x1 : 0 ≤ x1.toInt) (u_x1 : x1.toInt ≤ 13) (t_y0 : T y0 = some (0, 900, 0)) (l_y1 : 0 ≤ y1.toInt) (u_y1 : y1.toInt ≤ 900) (l_y2 : 0 ≤ y2.toInt) (u_y2 : y2.toInt ≤ 900) (l_y3 : 0 ≤ y3.toInt) (u_y3 : y3.toInt ≤ 900) (l_z0 : 0 ≤ z0.toInt) (u_z0 : z0.toInt ≤ 14) (l_z1 : 0 ≤ z1.toInt) (u_z1 : z1.toInt ≤ 5) (l_z3 : 0 ≤ z3.toInt) (u_z3 : z3.toInt ≤ 16383) (l_z4 : 0 ≤ z4.toInt) (u_z4 : z4.toInt ≤ 16383) (l_z5 : 0 ≤ z5.toInt) (u_z5 : z5.toInt ≤ 16383) (t_z6 : T z6 = some (1, 14, 0)) (t_z7 : T z7 = some (1, 14, 0)) (t_z8 : T z8 = some (1, 14, 0)) (t_z9 : T z9 = some (1, 5, 0)) (t_z10 : T z10 = some (1, 5, 9)) (l_z12 : 0 ≤ z12.toInt) (u_z12 : z12.toInt ≤ 1) (l_z13 : 0 ≤ z13.toInt) (u_z13 : z13.toInt ≤ 1) (hn : y1.toInt = (tn : Int)) (htb : TB ft t) (hto : TSS t tn y2 y3 y4 y5) (t_tk : T tk = some (17, 0, 0)) (hU7 : ∀ (b : Nat) (q : Nat), T b = some (17, 0, q) → b = tk) (hz : y6.toInt = 0) (hw : kd t tn y2.toInt.toNat ≤ 20) (hO : okO T (tk :: y0 :: d :: O) [1, 14]) : TK l D cs kf yX4_readFlag cX4_readFlag 3 (some (.boolean)) { frames := 6, cells := 0, slots := 0, locals := 133 } [.ref a0, .int x1] T (tk :: y0 :: d :: O) ((tk, .inr (7, [.ref y0, .int y1, .int y2, .int y3, .int y4, .int y5, .int y6, .int y7])) :: (y0, .inl (cs.1, 900, .inl ft)) :: (d, .inr (9, [.int z0, .int z1, .int z2, .int z3, .int z4, .int z5, .ref z6, .ref z7, .ref z8, .ref z9, .ref z10, .null, .int z12, .int z13])) :: X) (Ti D cs (fun r u => ∃ (n0_2 : Int32) (n0_3 : Int32) (n0_4 : Int32) (n0_5 : Int32) (n0_6 : Int32) (n0_7 : Int32) (n2_3 : Int32) (n2_4 : Int32) (n2_5 : Int32), u = (T, tk :: y0 :: d :: O, (tk, .inr (7, [.ref y0, .int y1, .int n0_2, .int n0_3, .int n0_4, .int n0_5, .int n0_6, .int n0_7])) :: (y0, .inl (cs.1, 900, .inl ft)) :: (d, .inr (9, [.int z0, .int z1, .int z2, .int n2_3, .int n2_4, .int n2_5, .ref z6, .ref z7, .ref z8, .ref z9, .ref z10, .null, .int z12, .int z13])) :: X) ∧ 0 ≤ r.toInt ∧ r.toInt ≤ 1 ∧ (r.toInt = 0 ∨ (TSS t tn n0_2 n0_3 n0_4 n0_5 ∧ n0_6.toInt = 0 ∧ n0_7.toInt = y7.toInt ∧ y2.toInt + 1 ≤ n0_2.toInt ∧ GR t tn [(33, 0)] [(33, 0)] (RZ x1 z1 z3 z4 z2) (RZ x1 z1 n2_3 n2_4 z2) y2 n0_2)) ∧ (r.toInt ≠ 0 ∨ BR t tn [(33, 0), (20, 30)] (RZ x1 z1 z3 z4 z2) y2 n0_6 n0_7) ∧ (y2.toInt ≤ n0_2.toInt ∧ n0_2.toInt ≤ n0_3.toInt ∧ n0_3.toInt ≤ y1.toInt) ∧ (0 ≤ n2_3.toInt ∧ n2_3.toInt ≤ 16383 ∧ 0 ≤ n2_4.toInt ∧ n2_4.toInt ≤ 16383 ∧ 0 ≤ n2_5.toInt ∧ n2_5.toInt ≤ 16383))) := by
  refine tk_of (by decide) (Nat.le_of_ble_eq_true rfl) (fun p e s m below meth c ls A H locs hx hb hr hml hown hts hlocks hnm hkb hH hS hA hOX hks hE hl => ?_)
  have hown : s.vm.findClass RX4 = some m.cls := hown
  have hl : lv_has ls 3 [(0, .ref a0), (1, .int x1)] := hl
  have hOXf := hOX
  have hb9 := hto.b
  have hc9 := hto.cs
  have hl9 := hto.lt (by omega)
  refine lv_iconst (v := 1) hx hb dX4_readFlag_0 (by decide) ?_
  refine lv_iload_n hx hb dX4_readFlag_1 rfl (lv_at hl 1 rfl) ?_
  refine lv_ishl hx hb dX4_readFlag_2 ?_
  refine lv_topi (fun v2 ev2 => ?_)
  have tv2 : 1 ≤ v2.toInt ∧ v2.toInt ≤ 8192 := by rw [ev2]; exact shl_b 13 (by decide) (by omega) (by omega)
  refine lv_istore_n (lv' := [(2, .int v2), (0, .ref a0), (1, .int x1)]) hx hb dX4_readFlag_3 rfl hl (by decide) rfl (fun ls hl => ?_)
  refine lv_aload_n hx hb dX4_readFlag_4 rfl (lv_at hl 1 rfl) ?_
  refine t_get (ci := 4) (lst := ft4 d 0) (C := RX4) (F := TX4) (N := 5) hx hb hts uX4 hown hkb hH t_a0 (hO.no t_a0 (by decide)) (fun _ h9 => h9) rfl rfl 0 (by decide) rfl kw_211 (fun _ h9 => h9) dX4_readFlag_5 (fun v9 h9 => ?_)
  obtain ⟨v5, rfl, t_v5⟩ := h9
  have e9 := (hU7 _ _ t_v5).symm
  subst e9
  refine va_ldcS (q := kf.1 2) hx hb hown (hks ("FootholdWall$Reader", 141, "ice", 2) (by decide +kernel)) dX4_readFlag_8 ?_
  refine tk_i hH hS hA (tr_V (n := 1) (As := [.ref (kf.1 2)]) hx hb hml hown hts hkb hH (ox_map hOX rfl) hks hE hS hA (s_Tok_isWord l D cs kf T (d :: O) ((d, .inr (9, [.int z0, .int z1, .int z2, .int z3, .int z4, .int z5, .ref z6, .ref z7, .ref z8, .ref z9, .ref z10, .null, .int z12, .int z13])) :: X) tk 2 y0 y1 y2 y3 y4 y5 y6 y7 ft t tn 12 t_tk (by decide) t_y0 (by omega) (by omega) (by omega) (by omega) (by omega) (by omega) (by omega) htb hto (by decide) (by decide) (hO.sub (by decide))) kw_550 kw_551 kw_552 kw_3 kw_553 (by decide +kernel) ⟨Nat.le_of_ble_eq_true rfl, Nat.le_of_ble_eq_true rfl⟩ (x_recv (ci := 7) hkb hH 0 rfl rfl) rfl rfl hl.1 (Nat.le_of_ble_eq_true rfl) dX4_readFlag_10 ⟨Nat.le_of_ble_eq_true rfl, Nat.le_of_ble_eq_true rfl⟩) (fun v10 u H locs hz9 hH hS => ?_)
  obtain ⟨rfl, l_v10, u_v10, x_v100, x_v101⟩ := hz9
  have hH : HT D cs A T (tk :: y0 :: d :: O) ((tk, .inr (7, [.ref y0, .int y1, .int y2, .int y3, .int y4, .int y5, .int y6, .int y7])) :: (y0, .inl (cs.1, 900, .inl ft)) :: (d, .inr (9, [.int z0, .int z1, .int z2, .int z3, .int z4, .int z5, .ref z6, .ref z7, .ref z8, .ref z9, .ref z10, .null, .int z12, .int z13])) :: X) H := hH
  refine W.widen (k := 0) (n := 0) (Nat.le_of_ble_eq_true rfl) (Nat.le_of_ble_eq_true rfl) ?_
  refine lv_if_eq (tgt := 61) hx hb dX4_readFlag_13 (by decide) (fun c13 => ?_) (fun c13 => ?_)
  · skip
    have tc13 := f_eq (k := 0) (by decide) c13
    clear x_v100
    replace x_v101 := x_v101.resolve_left (fun q9 => q9 tc13)
    refine lv_aload_n hx hb dX4_readFlag_61 rfl (lv_at hl 1 rfl) ?_
    refine t_get (ci := 4) (lst := ft4 d 0) (C := RX4) (F := TX4) (N := 5) hx hb hts uX4 hown hkb hH t_a0 (hO.no t_a0 (by decide)) (fun _ h9 => h9) rfl rfl 0 (by decide) rfl kw_211 (fun _ h9 => h9) dX4_readFlag_62 (fun v9 h9 => ?_)
    obtain ⟨v62, rfl, t_v62⟩ := h9
    have e9 := (hU7 _ _ t_v62).symm
    subst e9
    refine va_ldcS (q := kf.1 3) hx hb hown (hks ("FootholdWall$Reader", 142, "start", 3) (by decide +kernel)) dX4_readFlag_65 ?_
    refine tk_i hH hS hA (tr_V (n := 1) (As := [.ref (kf.1 3)]) hx hb hml hown hts hkb hH (ox_map hOX rfl) hks hE hS hA (s_Tok_isWord l D cs kf T (d :: O) ((d, .inr (9, [.int z0, .int z1, .int z2, .int z3, .int z4, .int z5, .ref z6, .ref z7, .ref z8, .ref z9, .ref z10, .null, .int z12, .int z13])) :: X) tk 3 y0 y1 y2 y3 y4 y5 y6 y7 ft t tn 9 t_tk (by decide) t_y0 (by omega) (by omega) (by omega) (by omega) (by omega) (by omega) (by omega) htb hto (by decide) (by decide) (hO.sub (by decide))) kw_550 kw_551 kw_552 kw_3 kw_553 (by decide +kernel) ⟨Nat.le_of_ble_eq_true rfl, Nat.le_of_ble_eq_true rfl⟩ (x_recv (ci := 7) hkb hH 0 rfl rfl) rfl rfl hl.1 (Nat.le_of_ble_eq_true rfl) dX4_readFlag_67 ⟨Nat.le_of_ble_eq_true rfl, Nat.le_of_ble_eq_true rfl⟩) (fun v67 u H locs hz9 hH hS => ?_)
    obtain ⟨rfl, l_v67, u_v67, x_v670, x_v671⟩ := hz9
    have hH : HT D cs A T (tk :: y0 :: d :: O) ((tk, .inr (7, [.ref y0, .int y1, .int y2, .int y3, .int y4, .int y5, .int y6, .int y7])) :: (y0, .inl (cs.1, 900, .inl ft)) :: (d, .inr (9, [.int z0, .int z1, .int z2, .int z3, .int z4, .int z5, .ref z6, .ref z7, .ref z8, .ref z9, .ref z10, .null, .int z12, .int z13])) :: X) H := hH
    refine W.widen (k := 0) (n := 0) (Nat.le_of_ble_eq_true rfl) (Nat.le_of_ble_eq_true rfl) ?_
    refine lv_if_eq (tgt := 89) hx hb dX4_readFlag_70 (by decide) (fun c70 => ?_) (fun c70 => ?_)
    · skip
      have tc70 := f_eq (k := 0) (by decide) c70
      clear x_v670
      replace x_v671 := x_v671.resolve_left (fun q9 => q9 tc70)
      refine lv_aload_n hx hb dX4_readFlag_89 rfl (lv_at hl 1 rfl) ?_
      refine t_get (ci := 4) (lst := ft4 d 0) (C := RX4) (F := TX4) (N := 5) hx hb hts uX4 hown hkb hH t_a0 (hO.no t_a0 (by decide)) (fun _ h9 => h9) rfl rfl 0 (by decide) rfl kw_211 (fun _ h9 => h9) dX4_readFlag_90 (fun v9 h9 => ?_)
      obtain ⟨v90, rfl, t_v90⟩ := h9
      have e9 := (hU7 _ _ t_v90).symm
      subst e9
      refine va_ldcS (q := kf.1 4) hx hb hown (hks ("FootholdWall$Reader", 147, "top", 4) (by decide +kernel)) dX4_readFlag_93 ?_
      refine tk_i hH hS hA (tr_V (n := 1) (As := [.ref (kf.1 4)]) hx hb hml hown hts hkb hH (ox_map hOX rfl) hks hE hS hA (s_Tok_isWord l D cs kf T (d :: O) ((d, .inr (9, [.int z0, .int z1, .int z2, .int z3, .int z4, .int z5, .ref z6, .ref z7, .ref z8, .ref z9, .ref z10, .null, .int z12, .int z13])) :: X) tk 4 y0 y1 y2 y3 y4 y5 y6 y7 ft t tn 10 t_tk (by decide) t_y0 (by omega) (by omega) (by omega) (by omega) (by omega) (by omega) (by omega) htb hto (by decide) (by decide) (hO.sub (by decide))) kw_550 kw_551 kw_552 kw_3 kw_553 (by decide +kernel) ⟨Nat.le_of_ble_eq_true rfl, Nat.le_of_ble_eq_true rfl⟩ (x_recv (ci := 7) hkb hH 0 rfl rfl) rfl rfl hl.1 (Nat.le_of_ble_eq_true rfl) dX4_readFlag_95 ⟨Nat.le_of_ble_eq_true rfl, Nat.le_of_ble_eq_true rfl⟩) (fun v95 u H locs hz9 hH hS => ?_)
      obtain ⟨rfl, l_v95, u_v95, x_v950, x_v951⟩ := hz9
      have hH : HT D cs A T (tk :: y0 :: d :: O) ((tk, .inr (7, [.ref y0, .int y1, .int y2, .int y3, .int y4, .int y5, .int y6, .int y7])) :: (y0, .inl (cs.1, 900, .inl ft)) :: (d, .inr (9, [.int z0, .int z1, .int z2, .int z3, .int z4, .int z5, .ref z6, .ref z7, .ref z8, .ref z9, .ref z10, .null, .int z12, .int z13])) :: X) H := hH
      refine W.widen (k := 0) (n := 0) (Nat.le_of_ble_eq_true rfl) (Nat.le_of_ble_eq_true rfl) ?_
      refine lv_if_eq (tgt := 117) hx hb dX4_readFlag_98 (by decide) (fun c98 => ?_) (fun c98 => ?_)
      · skip
        have tc98 := f_eq (k := 0) (by decide) c98
        clear x_v950
        replace x_v951 := x_v951.resolve_left (fun q9 => q9 tc98)
        refine lv_aload_n hx hb dX4_readFlag_117 rfl (lv_at hl 1 rfl) ?_
        refine t_get (ci := 4) (lst := ft4 d 0) (C := RX4) (F := TX4) (N := 5) hx hb hts uX4 hown hkb hH t_a0 (hO.no t_a0 (by decide)) (fun _ h9 => h9) rfl rfl 0 (by decide) rfl kw_211 (fun _ h9 => h9) dX4_readFlag_118 (fun v9 h9 => ?_)
        obtain ⟨v118, rfl, t_v118⟩ := h9
        have e9 := (hU7 _ _ t_v118).symm
        subst e9
        refine va_ldcS (q := kf.1 5) hx hb hown (hks ("FootholdWall$Reader", 152, "wide", 5) (by decide +kernel)) dX4_readFlag_121 ?_
        refine tk_i hH hS hA (tr_V (n := 1) (As := [.ref (kf.1 5)]) hx hb hml hown hts hkb hH (ox_map hOX rfl) hks hE hS hA (s_Tok_isWord l D cs kf T (d :: O) ((d, .inr (9, [.int z0, .int z1, .int z2, .int z3, .int z4, .int z5, .ref z6, .ref z7, .ref z8, .ref z9, .ref z10, .null, .int z12, .int z13])) :: X) tk 5 y0 y1 y2 y3 y4 y5 y6 y7 ft t tn 11 t_tk (by decide) t_y0 (by omega) (by omega) (by omega) (by omega) (by omega) (by omega) (by omega) htb hto (by decide) (by decide) (hO.sub (by decide))) kw_550 kw_551 kw_552 kw_3 kw_553 (by decide +kernel) ⟨Nat.le_of_ble_eq_true rfl, Nat.le_of_ble_eq_true rfl⟩ (x_recv (ci := 7) hkb hH 0 rfl rfl) rfl rfl hl.1 (Nat.le_of_ble_eq_true rfl) dX4_readFlag_123 ⟨Nat.le_of_ble_eq_true rfl, Nat.le_of_ble_eq_true rfl⟩) (fun v123 u H locs hz9 hH hS => ?_)
        obtain ⟨rfl, l_v123, u_v123, x_v1230, x_v1231⟩ := hz9
        have hH : HT D cs A T (tk :: y0 :: d :: O) ((tk, .inr (7, [.ref y0, .int y1, .int y2, .int y3, .int y4, .int y5, .int y6, .int y7])) :: (y0, .inl (cs.1, 900, .inl ft)) :: (d, .inr (9, [.int z0, .int z1, .int z2, .int z3, .int z4, .int z5, .ref z6, .ref z7, .ref z8, .ref z9, .ref z10, .null, .int z12, .int z13])) :: X) H := hH
        refine W.widen (k := 0) (n := 0) (Nat.le_of_ble_eq_true rfl) (Nat.le_of_ble_eq_true rfl) ?_
        refine lv_if_eq (tgt := 145) hx hb dX4_readFlag_126 (by decide) (fun c126 => ?_) (fun c126 => ?_)
        · skip
          have tc126 := f_eq (k := 0) (by decide) c126
          clear x_v1230
          replace x_v1231 := x_v1231.resolve_left (fun q9 => q9 tc126)
          refine lv_aload_n hx hb dX4_readFlag_145 rfl (lv_at hl 1 rfl) ?_
          refine t_get (ci := 4) (lst := ft4 d 0) (C := RX4) (F := TX4) (N := 5) hx hb hts uX4 hown hkb hH t_a0 (hO.no t_a0 (by decide)) (fun _ h9 => h9) rfl rfl 0 (by decide) rfl kw_211 (fun _ h9 => h9) dX4_readFlag_146 (fun v9 h9 => ?_)
          obtain ⟨v146, rfl, t_v146⟩ := h9
          have e9 := (hU7 _ _ t_v146).symm
          subst e9
          refine lv_iconst (v := 2) hx hb dX4_readFlag_149 (by decide) ?_
          have z9_2 : (2 : Int32).toInt = 2 := by decide
          refine tk_i hH hS hA (tr_V (n := 1) (As := [.int 2]) hx hb hml hown hts hkb hH (ox_map hOX rfl) hks hE hS hA (s_Tok_refuse l D cs kf T (d :: O) ((d, .inr (9, [.int z0, .int z1, .int z2, .int z3, .int z4, .int z5, .ref z6, .ref z7, .ref z8, .ref z9, .ref z10, .null, .int z12, .int z13])) :: X) tk (2) y0 y1 y2 y3 y4 y5 y6 y7 ft t tn t_tk t_y0 (by omega) (by omega) (by omega) (by omega) (by omega) (by omega) (by omega) htb hto (hO.sub (by decide))) kw_579 kw_580 kw_581 kw_3 kw_582 (by decide +kernel) ⟨Nat.le_of_ble_eq_true rfl, Nat.le_of_ble_eq_true rfl⟩ (x_recv (ci := 7) hkb hH 0 rfl rfl) rfl rfl hl.1 (Nat.le_of_ble_eq_true rfl) dX4_readFlag_150 ⟨Nat.le_of_ble_eq_true rfl, Nat.le_of_ble_eq_true rfl⟩) (fun v150 u H locs hz9 hH hS => ?_)
          obtain ⟨n150_0_6, n150_0_7, rfl, l_v150, u_v150, x_v1500, x_v1501⟩ := hz9
          have hH : HT D cs A T (tk :: y0 :: d :: O) ((tk, .inr (7, [.ref y0, .int y1, .int y2, .int y3, .int y4, .int y5, .int n150_0_6, .int n150_0_7])) :: (y0, .inl (cs.1, 900, .inl ft)) :: (d, .inr (9, [.int z0, .int z1, .int z2, .int z3, .int z4, .int z5, .ref z6, .ref z7, .ref z8, .ref z9, .ref z10, .null, .int z12, .int z13])) :: X) H := hH
          refine W.widen (k := 0) (n := 0) (Nat.le_of_ble_eq_true rfl) (Nat.le_of_ble_eq_true rfl) ?_
          exact te_z hx hb hr hlocks (nar01 (by omega) (by omega)) hH hS (⟨y2, y3, y4, y5, n150_0_6, n150_0_7, z3, z4, z5, rfl, by omega, by omega, (Or.inl (by omega)), (Or.inr (by first | (refine (g23.ap (G := [(20, 30)])).bd (BR.cons (BR_n (by decide) x_v381.1 x_v381.2.1 x_v381.2.2 ?_)); omega) | (refine BR_fN ?_ ?_ x_v1500 x_v1501 ?_ <;> omega))), (by omega), (by omega)⟩) dX4_readFlag_153
        · skip
          have tc126 := f_ne (k := 0) (by decide) c126
          replace x_v1230 := x_v1230.resolve_left tc126
          clear x_v1231
          refine lv_aload_n hx hb dX4_readFlag_129 rfl (lv_at hl 1 rfl) ?_
          refine t_get (ci := 4) (lst := ft4 d 0) (C := RX4) (F := TX4) (N := 5) hx hb hts uX4 hown hkb hH t_a0 (hO.no t_a0 (by decide)) (fun _ h9 => h9) rfl rfl 2 (by decide) rfl kw_214 (fun _ h9 => h9) dX4_readFlag_130 (fun v9 h9 => ?_)
          have h9 : v9 = .ref d := h9
          subst h9
          refine lv_dup hx hb dX4_readFlag_133 rfl ?_
          refine x_getk (ci := 9) (C := RX9) (F := TX9) (N := 14) (v := .int z5) hx hb hts uX9 hown hkb hH 2 rfl rfl 5 (by decide) rfl kw_131 (fun _ h9 => h9) dX4_readFlag_134 ?_
          refine lv_iload_n hx hb dX4_readFlag_137 rfl (lv_at hl 0 rfl) ?_
          refine lv_ior hx hb dX4_readFlag_138 ?_
          refine lv_topi (fun v138 ev138 => ?_)
          have tv138 : 0 ≤ v138.toInt ∧ v138.toInt < 16384 := by rw [ev138]; exact or_b 14 (by decide) (by omega) (by omega) (by omega) (by omega)
          refine x_putk (ci := 9) (v := .int v138) (ty := tyX9 5) (C := RX9) (F := TX9) (N := 14) hx hb hts uX9 tyX9 tyX9_ok nmX9 hown hkb hH hS 2 rfl rfl 5 (by decide) kw_131 (fun _ h9 => h9) rfl (tyX9_ok 5 (by decide)) rfl rfl (Nat.le_of_ble_eq_true rfl) dX4_readFlag_139 (fun H locs hH hS => ?_)
          have hH : HT D cs A T (tk :: y0 :: d :: O) ((tk, .inr (7, [.ref y0, .int y1, .int y2, .int y3, .int y4, .int y5, .int y6, .int y7])) :: (y0, .inl (cs.1, 900, .inl ft)) :: (d, .inr (9, [.int z0, .int z1, .int z2, .int z3, .int z4, .int v138, .ref z6, .ref z7, .ref z8, .ref z9, .ref z10, .null, .int z12, .int z13])) :: X) H := hH
          refine lv_goto (tgt := 154) hx hb dX4_readFlag_142 (by decide) ?_
          refine lv_aload_n hx hb dX4_readFlag_154 rfl (lv_at hl 1 rfl) ?_
          refine t_get (ci := 4) (lst := ft4 d 0) (C := RX4) (F := TX4) (N := 5) hx hb hts uX4 hown hkb hH t_a0 (hO.no t_a0 (by decide)) (fun _ h9 => h9) rfl rfl 0 (by decide) rfl kw_211 (fun _ h9 => h9) dX4_readFlag_155 (fun v9 h9 => ?_)
          obtain ⟨v155, rfl, t_v155⟩ := h9
          have e9 := (hU7 _ _ t_v155).symm
          subst e9
          refine tk_v hH hS hA (tr_V (n := 0) (As := []) hx hb hml hown hts hkb hH (ox_map hOX rfl) hks hE hS hA (s_Tok_go l D cs kf T (d :: O) ((d, .inr (9, [.int z0, .int z1, .int z2, .int z3, .int z4, .int v138, .ref z6, .ref z7, .ref z8, .ref z9, .ref z10, .null, .int z12, .int z13])) :: X) tk y0 y1 y2 y3 y4 y5 y6 y7 ft t tn t_tk t_y0 (by omega) (by omega) (by omega) (by omega) (by omega) (by omega) (by omega) htb (by have q9 := (hto).b; omega) (hO.sub (by decide))) kw_583 kw_453 kw_454 kw_3 kw_455 (by decide +kernel) ⟨Nat.le_of_ble_eq_true rfl, Nat.le_of_ble_eq_true rfl⟩ (x_recv (ci := 7) hkb hH 0 rfl rfl) rfl rfl hl.1 (Nat.le_of_ble_eq_true rfl) dX4_readFlag_158 ⟨Nat.le_of_ble_eq_true rfl, Nat.le_of_ble_eq_true rfl⟩) (fun u H locs hz9 hH hS => ?_)
          obtain ⟨n158_0_2, n158_0_3, n158_0_4, n158_0_5, rfl, x_v1580, x_v1581, x_v1582⟩ := hz9
          have px158 := TSS.nx hto x_v1581
          have hH : HT D cs A T (tk :: y0 :: d :: O) ((tk, .inr (7, [.ref y0, .int y1, .int n158_0_2, .int n158_0_3, .int n158_0_4, .int n158_0_5, .int y6, .int y7])) :: (y0, .inl (cs.1, 900, .inl ft)) :: (d, .inr (9, [.int z0, .int z1, .int z2, .int z3, .int z4, .int v138, .ref z6, .ref z7, .ref z8, .ref z9, .ref z10, .null, .int z12, .int z13])) :: X) H := hH
          refine W.widen (k := 0) (n := 0) (Nat.le_of_ble_eq_true rfl) (Nat.le_of_ble_eq_true rfl) ?_
          refine lv_iconst (v := 1) hx hb dX4_readFlag_161 (by decide) ?_
          have z9_1 : (1 : Int32).toInt = 1 := by decide
          exact te_z hx hb hr hlocks (by rfl) hH hS (⟨n158_0_2, n158_0_3, n158_0_4, n158_0_5, y6, y7, z3, z4, v138, rfl, by decide, by decide, (Or.inr ⟨x_v1580, by omega, by omega, by omega, (by first | (refine g23.tr (GR.cons (GR_n (by decide) x_v380.2.2.1 x_v380.2.2.2.1 x_v380.2.2.2.2.1 x_v380.2.1))) | (refine GR_fS x_v670 ?_ ev2 ev82 px158; omega) | (refine GR_fT x_v950 ?_ ev2 ev110 px158; omega) | (refine GR_nx (fun _ => st_fW x_v1230) px158))⟩), Or.inl (by decide), (by omega), (by omega)⟩) dX4_readFlag_162
      · skip
        have tc98 := f_ne (k := 0) (by decide) c98
        replace x_v950 := x_v950.resolve_left tc98
        clear x_v951
        refine lv_aload_n hx hb dX4_readFlag_101 rfl (lv_at hl 1 rfl) ?_
        refine t_get (ci := 4) (lst := ft4 d 0) (C := RX4) (F := TX4) (N := 5) hx hb hts uX4 hown hkb hH t_a0 (hO.no t_a0 (by decide)) (fun _ h9 => h9) rfl rfl 2 (by decide) rfl kw_214 (fun _ h9 => h9) dX4_readFlag_102 (fun v9 h9 => ?_)
        have h9 : v9 = .ref d := h9
        subst h9
        refine lv_dup hx hb dX4_readFlag_105 rfl ?_
        refine x_getk (ci := 9) (C := RX9) (F := TX9) (N := 14) (v := .int z4) hx hb hts uX9 hown hkb hH 2 rfl rfl 4 (by decide) rfl kw_129 (fun _ h9 => h9) dX4_readFlag_106 ?_
        refine lv_iload_n hx hb dX4_readFlag_109 rfl (lv_at hl 0 rfl) ?_
        refine lv_ior hx hb dX4_readFlag_110 ?_
        refine lv_topi (fun v110 ev110 => ?_)
        have tv110 : 0 ≤ v110.toInt ∧ v110.toInt < 16384 := by rw [ev110]; exact or_b 14 (by decide) (by omega) (by omega) (by omega) (by omega)
        refine x_putk (ci := 9) (v := .int v110) (ty := tyX9 4) (C := RX9) (F := TX9) (N := 14) hx hb hts uX9 tyX9 tyX9_ok nmX9 hown hkb hH hS 2 rfl rfl 4 (by decide) kw_129 (fun _ h9 => h9) rfl (tyX9_ok 4 (by decide)) rfl rfl (Nat.le_of_ble_eq_true rfl) dX4_readFlag_111 (fun H locs hH hS => ?_)
        have hH : HT D cs A T (tk :: y0 :: d :: O) ((tk, .inr (7, [.ref y0, .int y1, .int y2, .int y3, .int y4, .int y5, .int y6, .int y7])) :: (y0, .inl (cs.1, 900, .inl ft)) :: (d, .inr (9, [.int z0, .int z1, .int z2, .int z3, .int v110, .int z5, .ref z6, .ref z7, .ref z8, .ref z9, .ref z10, .null, .int z12, .int z13])) :: X) H := hH
        refine lv_goto (tgt := 154) hx hb dX4_readFlag_114 (by decide) ?_
        refine lv_aload_n hx hb dX4_readFlag_154 rfl (lv_at hl 1 rfl) ?_
        refine t_get (ci := 4) (lst := ft4 d 0) (C := RX4) (F := TX4) (N := 5) hx hb hts uX4 hown hkb hH t_a0 (hO.no t_a0 (by decide)) (fun _ h9 => h9) rfl rfl 0 (by decide) rfl kw_211 (fun _ h9 => h9) dX4_readFlag_155 (fun v9 h9 => ?_)
        obtain ⟨v155, rfl, t_v155⟩ := h9
        have e9 := (hU7 _ _ t_v155).symm
        subst e9
        refine tk_v hH hS hA (tr_V (n := 0) (As := []) hx hb hml hown hts hkb hH (ox_map hOX rfl) hks hE hS hA (s_Tok_go l D cs kf T (d :: O) ((d, .inr (9, [.int z0, .int z1, .int z2, .int z3, .int v110, .int z5, .ref z6, .ref z7, .ref z8, .ref z9, .ref z10, .null, .int z12, .int z13])) :: X) tk y0 y1 y2 y3 y4 y5 y6 y7 ft t tn t_tk t_y0 (by omega) (by omega) (by omega) (by omega) (by omega) (by omega) (by omega) htb (by have q9 := (hto).b; omega) (hO.sub (by decide))) kw_583 kw_453 kw_454 kw_3 kw_455 (by decide +kernel) ⟨Nat.le_of_ble_eq_true rfl, Nat.le_of_ble_eq_true rfl⟩ (x_recv (ci := 7) hkb hH 0 rfl rfl) rfl rfl hl.1 (Nat.le_of_ble_eq_true rfl) dX4_readFlag_158 ⟨Nat.le_of_ble_eq_true rfl, Nat.le_of_ble_eq_true rfl⟩) (fun u H locs hz9 hH hS => ?_)
        obtain ⟨n158_0_2, n158_0_3, n158_0_4, n158_0_5, rfl, x_v1580, x_v1581, x_v1582⟩ := hz9
        have px158 := TSS.nx hto x_v1581
        have hH : HT D cs A T (tk :: y0 :: d :: O) ((tk, .inr (7, [.ref y0, .int y1, .int n158_0_2, .int n158_0_3, .int n158_0_4, .int n158_0_5, .int y6, .int y7])) :: (y0, .inl (cs.1, 900, .inl ft)) :: (d, .inr (9, [.int z0, .int z1, .int z2, .int z3, .int v110, .int z5, .ref z6, .ref z7, .ref z8, .ref z9, .ref z10, .null, .int z12, .int z13])) :: X) H := hH
        refine W.widen (k := 0) (n := 0) (Nat.le_of_ble_eq_true rfl) (Nat.le_of_ble_eq_true rfl) ?_
        refine lv_iconst (v := 1) hx hb dX4_readFlag_161 (by decide) ?_
        have z9_1 : (1 : Int32).toInt = 1 := by decide
        exact te_z hx hb hr hlocks (by rfl) hH hS (⟨n158_0_2, n158_0_3, n158_0_4, n158_0_5, y6, y7, z3, v110, z5, rfl, by decide, by decide, (Or.inr ⟨x_v1580, by omega, by omega, by omega, (by first | (refine g23.tr (GR.cons (GR_n (by decide) x_v380.2.2.1 x_v380.2.2.2.1 x_v380.2.2.2.2.1 x_v380.2.1))) | (refine GR_fS x_v670 ?_ ev2 ev82 px158; omega) | (refine GR_fT x_v950 ?_ ev2 ev110 px158; omega) | (refine GR_nx (fun _ => st_fW x_v1230) px158))⟩), Or.inl (by decide), (by omega), (by omega)⟩) dX4_readFlag_162
    · skip
      have tc70 := f_ne (k := 0) (by decide) c70
      replace x_v670 := x_v670.resolve_left tc70
      clear x_v671
      refine lv_aload_n hx hb dX4_readFlag_73 rfl (lv_at hl 1 rfl) ?_
      refine t_get (ci := 4) (lst := ft4 d 0) (C := RX4) (F := TX4) (N := 5) hx hb hts uX4 hown hkb hH t_a0 (hO.no t_a0 (by decide)) (fun _ h9 => h9) rfl rfl 2 (by decide) rfl kw_214 (fun _ h9 => h9) dX4_readFlag_74 (fun v9 h9 => ?_)
      have h9 : v9 = .ref d := h9
      subst h9
      refine lv_dup hx hb dX4_readFlag_77 rfl ?_
      refine x_getk (ci := 9) (C := RX9) (F := TX9) (N := 14) (v := .int z3) hx hb hts uX9 hown hkb hH 2 rfl rfl 3 (by decide) rfl kw_121 (fun _ h9 => h9) dX4_readFlag_78 ?_
      refine lv_iload_n hx hb dX4_readFlag_81 rfl (lv_at hl 0 rfl) ?_
      refine lv_ior hx hb dX4_readFlag_82 ?_
      refine lv_topi (fun v82 ev82 => ?_)
      have tv82 : 0 ≤ v82.toInt ∧ v82.toInt < 16384 := by rw [ev82]; exact or_b 14 (by decide) (by omega) (by omega) (by omega) (by omega)
      refine x_putk (ci := 9) (v := .int v82) (ty := tyX9 3) (C := RX9) (F := TX9) (N := 14) hx hb hts uX9 tyX9 tyX9_ok nmX9 hown hkb hH hS 2 rfl rfl 3 (by decide) kw_121 (fun _ h9 => h9) rfl (tyX9_ok 3 (by decide)) rfl rfl (Nat.le_of_ble_eq_true rfl) dX4_readFlag_83 (fun H locs hH hS => ?_)
      have hH : HT D cs A T (tk :: y0 :: d :: O) ((tk, .inr (7, [.ref y0, .int y1, .int y2, .int y3, .int y4, .int y5, .int y6, .int y7])) :: (y0, .inl (cs.1, 900, .inl ft)) :: (d, .inr (9, [.int z0, .int z1, .int z2, .int v82, .int z4, .int z5, .ref z6, .ref z7, .ref z8, .ref z9, .ref z10, .null, .int z12, .int z13])) :: X) H := hH
      refine lv_goto (tgt := 154) hx hb dX4_readFlag_86 (by decide) ?_
      refine lv_aload_n hx hb dX4_readFlag_154 rfl (lv_at hl 1 rfl) ?_
      refine t_get (ci := 4) (lst := ft4 d 0) (C := RX4) (F := TX4) (N := 5) hx hb hts uX4 hown hkb hH t_a0 (hO.no t_a0 (by decide)) (fun _ h9 => h9) rfl rfl 0 (by decide) rfl kw_211 (fun _ h9 => h9) dX4_readFlag_155 (fun v9 h9 => ?_)
      obtain ⟨v155, rfl, t_v155⟩ := h9
      have e9 := (hU7 _ _ t_v155).symm
      subst e9
      refine tk_v hH hS hA (tr_V (n := 0) (As := []) hx hb hml hown hts hkb hH (ox_map hOX rfl) hks hE hS hA (s_Tok_go l D cs kf T (d :: O) ((d, .inr (9, [.int z0, .int z1, .int z2, .int v82, .int z4, .int z5, .ref z6, .ref z7, .ref z8, .ref z9, .ref z10, .null, .int z12, .int z13])) :: X) tk y0 y1 y2 y3 y4 y5 y6 y7 ft t tn t_tk t_y0 (by omega) (by omega) (by omega) (by omega) (by omega) (by omega) (by omega) htb (by have q9 := (hto).b; omega) (hO.sub (by decide))) kw_583 kw_453 kw_454 kw_3 kw_455 (by decide +kernel) ⟨Nat.le_of_ble_eq_true rfl, Nat.le_of_ble_eq_true rfl⟩ (x_recv (ci := 7) hkb hH 0 rfl rfl) rfl rfl hl.1 (Nat.le_of_ble_eq_true rfl) dX4_readFlag_158 ⟨Nat.le_of_ble_eq_true rfl, Nat.le_of_ble_eq_true rfl⟩) (fun u H locs hz9 hH hS => ?_)
      obtain ⟨n158_0_2, n158_0_3, n158_0_4, n158_0_5, rfl, x_v1580, x_v1581, x_v1582⟩ := hz9
      have px158 := TSS.nx hto x_v1581
      have hH : HT D cs A T (tk :: y0 :: d :: O) ((tk, .inr (7, [.ref y0, .int y1, .int n158_0_2, .int n158_0_3, .int n158_0_4, .int n158_0_5, .int y6, .int y7])) :: (y0, .inl (cs.1, 900, .inl ft)) :: (d, .inr (9, [.int z0, .int z1, .int z2, .int v82, .int z4, .int z5, .ref z6, .ref z7, .ref z8, .ref z9, .ref z10, .null, .int z12, .int z13])) :: X) H := hH
      refine W.widen (k := 0) (n := 0) (Nat.le_of_ble_eq_true rfl) (Nat.le_of_ble_eq_true rfl) ?_
      refine lv_iconst (v := 1) hx hb dX4_readFlag_161 (by decide) ?_
      have z9_1 : (1 : Int32).toInt = 1 := by decide
      exact te_z hx hb hr hlocks (by rfl) hH hS (⟨n158_0_2, n158_0_3, n158_0_4, n158_0_5, y6, y7, v82, z4, z5, rfl, by decide, by decide, (Or.inr ⟨x_v1580, by omega, by omega, by omega, (by first | (refine g23.tr (GR.cons (GR_n (by decide) x_v380.2.2.1 x_v380.2.2.2.1 x_v380.2.2.2.2.1 x_v380.2.1))) | (refine GR_fS x_v670 ?_ ev2 ev82 px158; omega) | (refine GR_fT x_v950 ?_ ev2 ev110 px158; omega) | (refine GR_nx (fun _ => st_fW x_v1230) px158))⟩), Or.inl (by decide), (by omega), (by omega)⟩) dX4_readFlag_162
  · skip
    have tc13 := f_ne (k := 0) (by decide) c13
    replace x_v100 := x_v100.resolve_left tc13
    clear x_v101
    refine lv_aload_n hx hb dX4_readFlag_16 rfl (lv_at hl 1 rfl) ?_
    refine t_get (ci := 4) (lst := ft4 d 0) (C := RX4) (F := TX4) (N := 5) hx hb hts uX4 hown hkb hH t_a0 (hO.no t_a0 (by decide)) (fun _ h9 => h9) rfl rfl 0 (by decide) rfl kw_211 (fun _ h9 => h9) dX4_readFlag_17 (fun v9 h9 => ?_)
    obtain ⟨v17, rfl, t_v17⟩ := h9
    have e9 := (hU7 _ _ t_v17).symm
    subst e9
    refine tk_v hH hS hA (tr_V (n := 0) (As := []) hx hb hml hown hts hkb hH (ox_map hOX rfl) hks hE hS hA (s_Tok_go l D cs kf T (d :: O) ((d, .inr (9, [.int z0, .int z1, .int z2, .int z3, .int z4, .int z5, .ref z6, .ref z7, .ref z8, .ref z9, .ref z10, .null, .int z12, .int z13])) :: X) tk y0 y1 y2 y3 y4 y5 y6 y7 ft t tn t_tk t_y0 (by omega) (by omega) (by omega) (by omega) (by omega) (by omega) (by omega) htb (by have q9 := (hto).b; omega) (hO.sub (by decide))) kw_583 kw_453 kw_454 kw_3 kw_455 (by decide +kernel) ⟨Nat.le_of_ble_eq_true rfl, Nat.le_of_ble_eq_true rfl⟩ (x_recv (ci := 7) hkb hH 0 rfl rfl) rfl rfl hl.1 (Nat.le_of_ble_eq_true rfl) dX4_readFlag_20 ⟨Nat.le_of_ble_eq_true rfl, Nat.le_of_ble_eq_true rfl⟩) (fun u H locs hz9 hH hS => ?_)
    obtain ⟨n20_0_2, n20_0_3, n20_0_4, n20_0_5, rfl, x_v200, x_v201, x_v202⟩ := hz9
    have px20 := TSS.nx hto x_v201
    have hH : HT D cs A T (tk :: y0 :: d :: O) ((tk, .inr (7, [.ref y0, .int y1, .int n20_0_2, .int n20_0_3, .int n20_0_4, .int n20_0_5, .int y6, .int y7])) :: (y0, .inl (cs.1, 900, .inl ft)) :: (d, .inr (9, [.int z0, .int z1, .int z2, .int z3, .int z4, .int z5, .ref z6, .ref z7, .ref z8, .ref z9, .ref z10, .null, .int z12, .int z13])) :: X) H := hH
    refine W.widen (k := 0) (n := 0) (Nat.le_of_ble_eq_true rfl) (Nat.le_of_ble_eq_true rfl) ?_
    have g23 : GR t tn [(33, 0)] [(22, 999), (33, 0)] (RZ x1 z1 z3 z4 z2) (RZ x1 z1 z3 z4 z2) y2 n20_0_2 := GR_nx (fun _ => st_fI x_v100) px20
    refine lv_aload_n hx hb dX4_readFlag_23 rfl (lv_at hl 1 rfl) ?_
    refine t_get (ci := 4) (lst := ft4 d 0) (C := RX4) (F := TX4) (N := 5) hx hb hts uX4 hown hkb hH t_a0 (hO.no t_a0 (by decide)) (fun _ h9 => h9) rfl rfl 2 (by decide) rfl kw_214 (fun _ h9 => h9) dX4_readFlag_24 (fun v9 h9 => ?_)
    have h9 : v9 = .ref d := h9
    subst h9
    refine x_getk (ci := 9) (C := RX9) (F := TX9) (N := 14) (v := .ref z8) hx hb hts uX9 hown hkb hH 2 rfl rfl 8 (by decide) rfl kw_139 (fun _ h9 => h9) dX4_readFlag_27 ?_
    refine lv_iload_n hx hb dX4_readFlag_30 rfl (lv_at hl 2 rfl) ?_
    refine lv_aload_n hx hb dX4_readFlag_31 rfl (lv_at hl 1 rfl) ?_
    refine t_get (ci := 4) (lst := ft4 d 0) (C := RX4) (F := TX4) (N := 5) hx hb hts uX4 hown hkb hH t_a0 (hO.no t_a0 (by decide)) (fun _ h9 => h9) rfl rfl 0 (by decide) rfl kw_211 (fun _ h9 => h9) dX4_readFlag_32 (fun v9 h9 => ?_)
    obtain ⟨v32, rfl, t_v32⟩ := h9
    have e9 := (hU7 _ _ t_v32).symm
    subst e9
    refine lv_sipush (v := 999) hx hb dX4_readFlag_35 (by decide) ?_
    have z9_999 : (999 : Int32).toInt = 999 := by decide
    refine tk_i hH hS hA (tr_V (n := 1) (As := [.int 999]) hx hb hml hown hts hkb hH (ox_map hOX rfl) hks hE hS hA (s_Tok_takeNumber l D cs kf T (d :: O) ((d, .inr (9, [.int z0, .int z1, .int z2, .int z3, .int z4, .int z5, .ref z6, .ref z7, .ref z8, .ref z9, .ref z10, .null, .int z12, .int z13])) :: X) tk (999) y0 y1 n20_0_2 n20_0_3 n20_0_4 n20_0_5 y6 y7 ft t tn t_tk (by decide) (by decide) t_y0 (by omega) (by omega) (by omega) (by omega) (by omega) (by omega) (by omega) htb x_v200 (hO.sub (by decide))) kw_584 kw_585 kw_586 kw_3 kw_587 (by decide +kernel) ⟨Nat.le_of_ble_eq_true rfl, Nat.le_of_ble_eq_true rfl⟩ (x_recv (ci := 7) hkb hH 0 rfl rfl) rfl rfl hl.1 (Nat.le_of_ble_eq_true rfl) dX4_readFlag_38 ⟨Nat.le_of_ble_eq_true rfl, Nat.le_of_ble_eq_true rfl⟩) (fun v38 u H locs hz9 hH hS => ?_)
    obtain ⟨n38_0_2, n38_0_3, n38_0_4, n38_0_5, n38_0_6, n38_0_7, rfl, l_v38, u_v38, x_v380, x_v381, x_v382, x_v383⟩ := hz9
    have hH : HT D cs A T (tk :: y0 :: d :: O) ((tk, .inr (7, [.ref y0, .int y1, .int n38_0_2, .int n38_0_3, .int n38_0_4, .int n38_0_5, .int n38_0_6, .int n38_0_7])) :: (y0, .inl (cs.1, 900, .inl ft)) :: (d, .inr (9, [.int z0, .int z1, .int z2, .int z3, .int z4, .int z5, .ref z6, .ref z7, .ref z8, .ref z9, .ref z10, .null, .int z12, .int z13])) :: X) H := hH
    refine W.widen (k := 0) (n := 0) (Nat.le_of_ble_eq_true rfl) (Nat.le_of_ble_eq_true rfl) ?_
    have hO1 := hO
    obtain ⟨e9, hs9, hH⟩ := HT.takeA hH t_z8 (hO1.no t_z8 (by decide))
    obtain ⟨fl8, rfl, -⟩ : ∃ f : Nat → Int32, e9 = .inl (cs.2.1, 14, .inl f) ∧ ∀ j, cp 0 (f j) := hs9
    have hO : okO T (z8 :: tk :: y0 :: d :: O) [14] := okO.cons (hO.sub (by decide)) t_z8 (by decide)
    refine xa_ist hx hb hkb hH hS 0 rfl (by omega) (by omega) dX4_readFlag_41 (fun H locs hH hS => ?_)
    have hH : HT D cs A T (z8 :: tk :: y0 :: d :: O) ((z8, .inl (cs.2.1, 14, .inl (upd fl8 (x1.toInt.toNat) v38))) :: (tk, .inr (7, [.ref y0, .int y1, .int n38_0_2, .int n38_0_3, .int n38_0_4, .int n38_0_5, .int n38_0_6, .int n38_0_7])) :: (y0, .inl (cs.1, 900, .inl ft)) :: (d, .inr (9, [.int z0, .int z1, .int z2, .int z3, .int z4, .int z5, .ref z6, .ref z7, .ref z8, .ref z9, .ref z10, .null, .int z12, .int z13])) :: X) H := hH
    obtain ⟨F41, eF41⟩ : ∃ f9, f9 = upd fl8 (x1.toInt.toNat) v38 := ⟨_, rfl⟩
    have hH : HT D cs A T (z8 :: tk :: y0 :: d :: O) ((z8, .inl (cs.2.1, 14, .inl F41)) :: (tk, .inr (7, [.ref y0, .int y1, .int n38_0_2, .int n38_0_3, .int n38_0_4, .int n38_0_5, .int n38_0_6, .int n38_0_7])) :: (y0, .inl (cs.1, 900, .inl ft)) :: (d, .inr (9, [.int z0, .int z1, .int z2, .int z3, .int z4, .int z5, .ref z6, .ref z7, .ref z8, .ref z9, .ref z10, .null, .int z12, .int z13])) :: X) H := eF41 ▸ hH
    refine lv_aload_n hx hb dX4_readFlag_42 rfl (lv_at hl 1 rfl) ?_
    refine t_get (ci := 4) (lst := ft4 d 0) (C := RX4) (F := TX4) (N := 5) hx hb hts uX4 hown hkb hH t_a0 (hO.no t_a0 (by decide)) (fun _ h9 => h9) rfl rfl 2 (by decide) rfl kw_214 (fun _ h9 => h9) dX4_readFlag_43 (fun v9 h9 => ?_)
    have h9 : v9 = .ref d := h9
    subst h9
    refine x_getk (ci := 9) (C := RX9) (F := TX9) (N := 14) (v := .ref z8) hx hb hts uX9 hown hkb hH 3 rfl rfl 8 (by decide) rfl kw_139 (fun _ h9 => h9) dX4_readFlag_46 ?_
    refine lv_iload_n hx hb dX4_readFlag_49 rfl (lv_at hl 2 rfl) ?_
    refine xa_ild hx hb hkb hH 0 rfl (by omega) (by omega) dX4_readFlag_50 ?_
    refine lv_topi (fun v50 ev50 => ?_)
    have tv50 : v50 = F41 x1.toInt.toNat := ev50
    have e9 : v38 = v50 := (tv50.trans (by rw [eF41]; exact upd_eq)).symm
    subst e9
    refine lv_iconst (v := (-1)) hx hb dX4_readFlag_51 (by decide) ?_
    refine lv_icmp_eq (tgt := 59) hx hb dX4_readFlag_52 (by decide) (fun c52 => ?_) (fun c52 => ?_)
    · skip
      have tc52 := f_eq (k := -1) (by decide) c52
      clear x_v380
      clear x_v383
      replace x_v381 := x_v381.resolve_left (fun q9 => q9 tc52)
      refine lv_iconst (v := 0) hx hb dX4_readFlag_59 (by decide) ?_
      have hH : HT D cs A T (tk :: y0 :: d :: O) ((tk, .inr (7, [.ref y0, .int y1, .int n38_0_2, .int n38_0_3, .int n38_0_4, .int n38_0_5, .int n38_0_6, .int n38_0_7])) :: (y0, .inl (cs.1, 900, .inl ft)) :: (d, .inr (9, [.int z0, .int z1, .int z2, .int z3, .int z4, .int z5, .ref z6, .ref z7, .ref z8, .ref z9, .ref z10, .null, .int z12, .int z13])) :: X) H := HT.layA hH t_z8 (show sp cs T (1, 14, 0) _ from ⟨_, rfl, fun _ => cp_0 _⟩)
      have z9_0 : (0 : Int32).toInt = 0 := by decide
      exact te_z hx hb hr hlocks (by rfl) hH hS (⟨n38_0_2, n38_0_3, n38_0_4, n38_0_5, n38_0_6, n38_0_7, z3, z4, z5, rfl, by decide, by decide, Or.inl (by decide), (Or.inr (by first | (refine (g23.ap (G := [(20, 30)])).bd (BR.cons (BR_n (by decide) x_v381.1 x_v381.2.1 x_v381.2.2 ?_)); omega) | (refine BR_fN ?_ ?_ x_v1500 x_v1501 ?_ <;> omega))), (by omega), (by omega)⟩) dX4_readFlag_60
    · skip
      have tc52 := f_ne (k := -1) (by decide) c52
      replace x_v380 := x_v380.resolve_left tc52
      replace x_v383 := x_v383.resolve_left tc52
      clear x_v381
      refine lv_iconst (v := 1) hx hb dX4_readFlag_55 (by decide) ?_
      refine lv_goto (tgt := 60) hx hb dX4_readFlag_56 (by decide) ?_
      have hH : HT D cs A T (tk :: y0 :: d :: O) ((tk, .inr (7, [.ref y0, .int y1, .int n38_0_2, .int n38_0_3, .int n38_0_4, .int n38_0_5, .int n38_0_6, .int n38_0_7])) :: (y0, .inl (cs.1, 900, .inl ft)) :: (d, .inr (9, [.int z0, .int z1, .int z2, .int z3, .int z4, .int z5, .ref z6, .ref z7, .ref z8, .ref z9, .ref z10, .null, .int z12, .int z13])) :: X) H := HT.layA hH t_z8 (show sp cs T (1, 14, 0) _ from ⟨_, rfl, fun _ => cp_0 _⟩)
      have z9_1 : (1 : Int32).toInt = 1 := by decide
      exact te_z hx hb hr hlocks (by rfl) hH hS (⟨n38_0_2, n38_0_3, n38_0_4, n38_0_5, n38_0_6, n38_0_7, z3, z4, z5, rfl, by decide, by decide, (Or.inr ⟨x_v380.1, by omega, by omega, by omega, (by first | (refine g23.tr (GR.cons (GR_n (by decide) x_v380.2.2.1 x_v380.2.2.2.1 x_v380.2.2.2.2.1 x_v380.2.1))) | (refine GR_fS x_v670 ?_ ev2 ev82 px158; omega) | (refine GR_fT x_v950 ?_ ev2 ev110 px158; omega) | (refine GR_nx (fun _ => st_fW x_v1230) px158))⟩), Or.inl (by decide), (by omega), (by omega)⟩) dX4_readFlag_60
theorem dX4_readGuide_0 : decode cX4_readGuide 0 = .ok (.aload_n 0, 1) := by decide +kernel
theorem dX4_readGuide_1 : decode cX4_readGuide 1 = .ok (.getfield 32, 3) := by decide +kernel
theorem dX4_readGuide_4 : decode cX4_readGuide 4 = .ok (.getfield 157, 3) := by decide +kernel
theorem dX4_readGuide_7 : decode cX4_readGuide 7 = .ok (.istore_n 1, 1) := by decide +kernel
theorem dX4_readGuide_8 : decode cX4_readGuide 8 = .ok (.iload_n 1, 1) := by decide +kernel
theorem dX4_readGuide_9 : decode cX4_readGuide 9 = .ok (.iconst 5, 1) := by decide +kernel
theorem dX4_readGuide_10 : decode cX4_readGuide 10 = .ok (.if_icmp .lt 12, 3) := by decide +kernel
theorem dX4_readGuide_13 : decode cX4_readGuide 13 = .ok (.aload_n 0, 1) := by decide +kernel
theorem dX4_readGuide_14 : decode cX4_readGuide 14 = .ok (.getfield 12, 3) := by decide +kernel
theorem dX4_readGuide_17 : decode cX4_readGuide 17 = .ok (.iconst 4, 1) := by decide +kernel
theorem dX4_readGuide_18 : decode cX4_readGuide 18 = .ok (.invokevirtual 121, 3) := by decide +kernel
theorem dX4_readGuide_21 : decode cX4_readGuide 21 = .ok (.ireturn, 1) := by decide +kernel
theorem dX4_readGuide_22 : decode cX4_readGuide 22 = .ok (.aload_n 0, 1) := by decide +kernel
theorem dX4_readGuide_23 : decode cX4_readGuide 23 = .ok (.getfield 12, 3) := by decide +kernel
theorem dX4_readGuide_26 : decode cX4_readGuide 26 = .ok (.invokevirtual 97, 3) := by decide +kernel
theorem dX4_readGuide_29 : decode cX4_readGuide 29 = .ok (.aload_n 0, 1) := by decide +kernel
theorem dX4_readGuide_30 : decode cX4_readGuide 30 = .ok (.getfield 12, 3) := by decide +kernel
theorem dX4_readGuide_33 : decode cX4_readGuide 33 = .ok (.ldc 160, 2) := by decide +kernel
theorem dX4_readGuide_35 : decode cX4_readGuide 35 = .ok (.invokevirtual 162, 3) := by decide +kernel
theorem dX4_readGuide_38 : decode cX4_readGuide 38 = .ok (.ifCond .ne 5, 3) := by decide +kernel
theorem dX4_readGuide_41 : decode cX4_readGuide 41 = .ok (.iconst 0, 1) := by decide +kernel
theorem dX4_readGuide_42 : decode cX4_readGuide 42 = .ok (.ireturn, 1) := by decide +kernel
theorem dX4_readGuide_43 : decode cX4_readGuide 43 = .ok (.aload_n 0, 1) := by decide +kernel
theorem dX4_readGuide_44 : decode cX4_readGuide 44 = .ok (.getfield 32, 3) := by decide +kernel
theorem dX4_readGuide_47 : decode cX4_readGuide 47 = .ok (.getfield 165, 3) := by decide +kernel
theorem dX4_readGuide_50 : decode cX4_readGuide 50 = .ok (.iload_n 1, 1) := by decide +kernel
theorem dX4_readGuide_51 : decode cX4_readGuide 51 = .ok (.aload_n 0, 1) := by decide +kernel
theorem dX4_readGuide_52 : decode cX4_readGuide 52 = .ok (.getfield 12, 3) := by decide +kernel
theorem dX4_readGuide_55 : decode cX4_readGuide 55 = .ok (.bipush 99, 2) := by decide +kernel
theorem dX4_readGuide_57 : decode cX4_readGuide 57 = .ok (.invokevirtual 115, 3) := by decide +kernel
theorem dX4_readGuide_60 : decode cX4_readGuide 60 = .ok (.iastore, 1) := by decide +kernel
theorem dX4_readGuide_61 : decode cX4_readGuide 61 = .ok (.aload_n 0, 1) := by decide +kernel
theorem dX4_readGuide_62 : decode cX4_readGuide 62 = .ok (.getfield 32, 3) := by decide +kernel
theorem dX4_readGuide_65 : decode cX4_readGuide 65 = .ok (.getfield 167, 3) := by decide +kernel
theorem dX4_readGuide_68 : decode cX4_readGuide 68 = .ok (.iload_n 1, 1) := by decide +kernel
theorem dX4_readGuide_69 : decode cX4_readGuide 69 = .ok (.iconst 0, 1) := by decide +kernel
theorem dX4_readGuide_70 : decode cX4_readGuide 70 = .ok (.iastore, 1) := by decide +kernel
theorem dX4_readGuide_71 : decode cX4_readGuide 71 = .ok (.aload_n 0, 1) := by decide +kernel
theorem dX4_readGuide_72 : decode cX4_readGuide 72 = .ok (.getfield 32, 3) := by decide +kernel
theorem dX4_readGuide_75 : decode cX4_readGuide 75 = .ok (.getfield 165, 3) := by decide +kernel
theorem dX4_readGuide_78 : decode cX4_readGuide 78 = .ok (.iload_n 1, 1) := by decide +kernel
theorem dX4_readGuide_79 : decode cX4_readGuide 79 = .ok (.iaload, 1) := by decide +kernel
theorem dX4_readGuide_80 : decode cX4_readGuide 80 = .ok (.iconst (-1), 1) := by decide +kernel
theorem dX4_readGuide_81 : decode cX4_readGuide 81 = .ok (.if_icmp .eq 40, 3) := by decide +kernel
theorem dX4_readGuide_84 : decode cX4_readGuide 84 = .ok (.aload_n 0, 1) := by decide +kernel
theorem dX4_readGuide_85 : decode cX4_readGuide 85 = .ok (.getfield 12, 3) := by decide +kernel
theorem dX4_readGuide_88 : decode cX4_readGuide 88 = .ok (.ldc 170, 2) := by decide +kernel
theorem dX4_readGuide_90 : decode cX4_readGuide 90 = .ok (.invokevirtual 83, 3) := by decide +kernel
theorem dX4_readGuide_93 : decode cX4_readGuide 93 = .ok (.ifCond .eq 28, 3) := by decide +kernel
theorem dX4_readGuide_96 : decode cX4_readGuide 96 = .ok (.aload_n 0, 1) := by decide +kernel
theorem dX4_readGuide_97 : decode cX4_readGuide 97 = .ok (.getfield 12, 3) := by decide +kernel
theorem dX4_readGuide_100 : decode cX4_readGuide 100 = .ok (.invokevirtual 97, 3) := by decide +kernel
theorem dX4_readGuide_103 : decode cX4_readGuide 103 = .ok (.aload_n 0, 1) := by decide +kernel
theorem dX4_readGuide_104 : decode cX4_readGuide 104 = .ok (.getfield 32, 3) := by decide +kernel
theorem dX4_readGuide_107 : decode cX4_readGuide 107 = .ok (.getfield 167, 3) := by decide +kernel
theorem dX4_readGuide_110 : decode cX4_readGuide 110 = .ok (.iload_n 1, 1) := by decide +kernel
theorem dX4_readGuide_111 : decode cX4_readGuide 111 = .ok (.aload_n 0, 1) := by decide +kernel
theorem dX4_readGuide_112 : decode cX4_readGuide 112 = .ok (.getfield 12, 3) := by decide +kernel
theorem dX4_readGuide_115 : decode cX4_readGuide 115 = .ok (.bipush 99, 2) := by decide +kernel
theorem dX4_readGuide_117 : decode cX4_readGuide 117 = .ok (.invokevirtual 115, 3) := by decide +kernel
theorem dX4_readGuide_120 : decode cX4_readGuide 120 = .ok (.iastore, 1) := by decide +kernel
theorem dX4_readGuide_121 : decode cX4_readGuide 121 = .ok (.aload_n 0, 1) := by decide +kernel
theorem dX4_readGuide_122 : decode cX4_readGuide 122 = .ok (.getfield 32, 3) := by decide +kernel
theorem dX4_readGuide_125 : decode cX4_readGuide 125 = .ok (.dup, 1) := by decide +kernel
theorem dX4_readGuide_126 : decode cX4_readGuide 126 = .ok (.getfield 157, 3) := by decide +kernel
theorem dX4_readGuide_129 : decode cX4_readGuide 129 = .ok (.iconst 1, 1) := by decide +kernel
theorem dX4_readGuide_130 : decode cX4_readGuide 130 = .ok (.iadd, 1) := by decide +kernel
theorem dX4_readGuide_131 : decode cX4_readGuide 131 = .ok (.putfield 157, 3) := by decide +kernel
theorem dX4_readGuide_134 : decode cX4_readGuide 134 = .ok (.aload_n 0, 1) := by decide +kernel
theorem dX4_readGuide_135 : decode cX4_readGuide 135 = .ok (.getfield 32, 3) := by decide +kernel
theorem dX4_readGuide_138 : decode cX4_readGuide 138 = .ok (.getfield 165, 3) := by decide +kernel
theorem dX4_readGuide_141 : decode cX4_readGuide 141 = .ok (.iload_n 1, 1) := by decide +kernel
theorem dX4_readGuide_142 : decode cX4_readGuide 142 = .ok (.iaload, 1) := by decide +kernel
theorem dX4_readGuide_143 : decode cX4_readGuide 143 = .ok (.iconst (-1), 1) := by decide +kernel
theorem dX4_readGuide_144 : decode cX4_readGuide 144 = .ok (.if_icmp .eq 20, 3) := by decide +kernel
theorem dX4_readGuide_147 : decode cX4_readGuide 147 = .ok (.aload_n 0, 1) := by decide +kernel
theorem dX4_readGuide_148 : decode cX4_readGuide 148 = .ok (.getfield 32, 3) := by decide +kernel
theorem dX4_readGuide_151 : decode cX4_readGuide 151 = .ok (.getfield 167, 3) := by decide +kernel
theorem dX4_readGuide_154 : decode cX4_readGuide 154 = .ok (.iload_n 1, 1) := by decide +kernel
theorem dX4_readGuide_155 : decode cX4_readGuide 155 = .ok (.iaload, 1) := by decide +kernel
theorem dX4_readGuide_156 : decode cX4_readGuide 156 = .ok (.iconst (-1), 1) := by decide +kernel
theorem dX4_readGuide_157 : decode cX4_readGuide 157 = .ok (.if_icmp .eq 7, 3) := by decide +kernel
theorem dX4_readGuide_160 : decode cX4_readGuide 160 = .ok (.iconst 1, 1) := by decide +kernel
theorem dX4_readGuide_161 : decode cX4_readGuide 161 = .ok (.goto 4, 3) := by decide +kernel
theorem dX4_readGuide_164 : decode cX4_readGuide 164 = .ok (.iconst 0, 1) := by decide +kernel
theorem dX4_readGuide_165 : decode cX4_readGuide 165 = .ok (.ireturn, 1) := by decide +kernel
theorem kw_111 : Cond.fieldLink "FootholdWall$Reader" 157 "FootholdWall$Wall" "guides" "I" ∈ gw := gw_of (tb_of 111 (by decide +kernel)) (by decide +kernel)
theorem kw_143 : Cond.fieldLink "FootholdWall$Reader" 165 "FootholdWall$Wall" "leg" "[I" ∈ gw := gw_of (tb_of 143 (by decide +kernel)) (by decide +kernel)
theorem kw_146 : Cond.fieldLink "FootholdWall$Reader" 167 "FootholdWall$Wall" "weight" "[I" ∈ gw := gw_of (tb_of 146 (by decide +kernel)) (by decide +kernel)
theorem kw_603 : Cond.methodLink "FootholdWall$Reader" 162 yX7_takeWord ∈ gw := gw_of (tb_of 603 (by decide +kernel)) (by decide +kernel)
theorem kw_604 : Cond.instanceMethod yX7_takeWord ∈ gw := gw_of (tb_of 604 (by decide +kernel)) (by decide +kernel)
theorem kw_605 : Cond.selects "FootholdWall$Tokens" yX7_takeWord yX7_takeWord ∈ gw := gw_of (tb_of 605 (by decide +kernel)) (by decide +kernel)
theorem kw_606 : Cond.code yX7_takeWord cX7_takeWord 2 (some (.boolean)) ∈ gw := gw_of (tb_of 606 (by decide +kernel)) (by decide +kernel)
set_option maxHeartbeats 4000000 in
set_option maxRecDepth 100000 in
theorem s_RD_readGuide (l : Launch) (D : va_G) (cs : CS) (kf : KF) (T : TF) (O : List Nat) (X : va_W) (a0 d : Nat) (y0 : Nat) (y1 : Int32) (y2 : Int32) (y3 : Int32) (y4 : Int32) (y5 : Int32) (y6 : Int32) (y7 : Int32) (ft : Nat → Int32) (z0 : Int32) (z1 : Int32) (z2 : Int32) (z3 : Int32) (z4 : Int32) (z5 : Int32) (z6 : Nat) (z7 : Nat) (z8 : Nat) (z9 : Nat) (z10 : Nat) (z12 : Int32) (z13 : Int32) (t : Tp) (tn : Nat) (tk : Nat) (t_a0 : T a0 = some (14, d, 0)) (t_d : T d = some (19, 100, 0)) (t_y0 : T y0 = some (0, 900, 0)) (l_y1 : 0 ≤ y1.toInt) (u_y1 : y1.toInt ≤ 900) (l_y2 : 0 ≤ y2.toInt) (u_y2 : y2.toInt ≤ 900) (l_y3 : 0 ≤ y3.toInt) (u_y3 : y3.toInt ≤ 900) (l_z0 : 0 ≤ z0.toInt) (u_z0 : z0.toInt ≤ 14) (l_z1 : 0 ≤ z1.toInt) (u_z1 : z1.toInt ≤ 5) (l_z3 : 0 ≤ z3.toInt) (u_z3 : z3.toInt ≤ 16383) (l_z4 : 0 ≤ z4.toInt) (u_z4 : z4.toInt ≤ 16383) (l_z5 : 0 ≤ z5.toInt) (u_z5 : z5.toInt ≤ 16383) (t_z6 : T z6 = some (1, 14, 0)) (t_z7 : T z7 = some (1, 14, 0)) (t_z8 : T z8 = some (1, 14, 0)) (t_z9 : T z9 = some (1, 5, 0)) (t_z10 : T z10 = some (1, 5, 9)) (l_z12 : 0 ≤ z12.toInt) (u_z12 : z12.toInt ≤ 1) (l_z13 : 0 ≤ z13.toInt) (u_z13 : z13.toInt ≤ 1) (hn : y1.toInt = (tn : Int)) (htb : TB ft t) (hto : TSS t tn y2 y3 y4 y5) (t_tk : T tk = some (17, 0, 0)) (hU7 : ∀ (b : Nat) (q : Nat), T b = some (17, 0, q) → b = tk) (hz : y6.toInt = 0) (hk1 : kd t tn y2.toInt.toNat = 1) (hO : okO T (tk :: y0 :: d :: O) [1, 14]) : TK l D cs kf yX4_readGuide cX4_readGuide 2 (some (.boolean)) { frames := 6, cells := 0, slots := 0, locals := 133 } [.ref a0] T (tk :: y0 :: d :: O) ((tk, .inr (7, [.ref y0, .int y1, .int y2, .int y3, .int y4, .int y5, .int y6, .int y7])) :: (y0, .inl (cs.1, 900, .inl ft)) :: (d, .inr (9, [.int z0, .int z1, .int z2, .int z3, .int z4, .int z5, .ref z6, .ref z7, .ref z8, .ref z9, .ref z10, .null, .int z12, .int z13])) :: X) (Ti D cs (fun r u => ∃ (n0_2 : Int32) (n0_3 : Int32) (n0_4 : Int32) (n0_5 : Int32) (n0_6 : Int32) (n0_7 : Int32) (n2_1 : Int32), u = (T, tk :: y0 :: d :: O, (tk, .inr (7, [.ref y0, .int y1, .int n0_2, .int n0_3, .int n0_4, .int n0_5, .int n0_6, .int n0_7])) :: (y0, .inl (cs.1, 900, .inl ft)) :: (d, .inr (9, [.int z0, .int n2_1, .int z2, .int z3, .int z4, .int z5, .ref z6, .ref z7, .ref z8, .ref z9, .ref z10, .null, .int z12, .int z13])) :: X) ∧ 0 ≤ r.toInt ∧ r.toInt ≤ 1 ∧ (r.toInt = 0 ∨ (TSS t tn n0_2 n0_3 n0_4 n0_5 ∧ n0_6.toInt = 0 ∧ n0_7.toInt = y7.toInt ∧ y2.toInt + 1 ≤ n0_2.toInt ∧ GR t tn [(31, 0)] [] (RZ z0 z1 z3 z4 z2) (RZ z0 n2_1 z3 z4 z2) y2 n0_2)) ∧ (r.toInt ≠ 0 ∨ BR t tn [(31, 0), (20, 30)] (RZ z0 z1 z3 z4 z2) y2 n0_6 n0_7) ∧ (y2.toInt ≤ n0_2.toInt ∧ n0_2.toInt ≤ n0_3.toInt ∧ n0_3.toInt ≤ y1.toInt) ∧ (0 ≤ n2_1.toInt ∧ n2_1.toInt ≤ 5))) := by
  refine tk_of (by decide) (Nat.le_of_ble_eq_true rfl) (fun p e s m below meth c ls A H locs hx hb hr hml hown hts hlocks hnm hkb hH hS hA hOX hks hE hl => ?_)
  have hown : s.vm.findClass RX4 = some m.cls := hown
  have hl : lv_has ls 2 [(0, .ref a0)] := hl
  have hOXf := hOX
  have hb9 := hto.b
  have hc9 := hto.cs
  have hl9 := hto.lt (by omega)
  refine lv_aload_n hx hb dX4_readGuide_0 rfl (lv_at hl 0 rfl) ?_
  refine t_get (ci := 4) (lst := ft4 d 0) (C := RX4) (F := TX4) (N := 5) hx hb hts uX4 hown hkb hH t_a0 (hO.no t_a0 (by decide)) (fun _ h9 => h9) rfl rfl 2 (by decide) rfl kw_214 (fun _ h9 => h9) dX4_readGuide_1 (fun v9 h9 => ?_)
  have h9 : v9 = .ref d := h9
  subst h9
  refine x_getk (ci := 9) (C := RX9) (F := TX9) (N := 14) (v := .int z1) hx hb hts uX9 hown hkb hH 2 rfl rfl 1 (by decide) rfl kw_111 (fun _ h9 => h9) dX4_readGuide_4 ?_
  refine lv_istore_n (lv' := [(1, .int z1), (0, .ref a0)]) hx hb dX4_readGuide_7 rfl hl (by decide) rfl (fun ls hl => ?_)
  refine lv_iload_n hx hb dX4_readGuide_8 rfl (lv_at hl 0 rfl) ?_
  refine lv_iconst (v := 5) hx hb dX4_readGuide_9 (by decide) ?_
  refine lv_icmp_lt (tgt := 22) hx hb dX4_readGuide_10 (by decide) (fun c10 => ?_) (fun c10 => ?_)
  · skip
    have tc10 := f_lt (k := 5) (by decide) c10
    refine lv_aload_n hx hb dX4_readGuide_22 rfl (lv_at hl 1 rfl) ?_
    refine t_get (ci := 4) (lst := ft4 d 0) (C := RX4) (F := TX4) (N := 5) hx hb hts uX4 hown hkb hH t_a0 (hO.no t_a0 (by decide)) (fun _ h9 => h9) rfl rfl 0 (by decide) rfl kw_211 (fun _ h9 => h9) dX4_readGuide_23 (fun v9 h9 => ?_)
    obtain ⟨v23, rfl, t_v23⟩ := h9
    have e9 := (hU7 _ _ t_v23).symm
    subst e9
    refine tk_v hH hS hA (tr_V (n := 0) (As := []) hx hb hml hown hts hkb hH (ox_map hOX rfl) hks hE hS hA (s_Tok_go l D cs kf T (d :: O) ((d, .inr (9, [.int z0, .int z1, .int z2, .int z3, .int z4, .int z5, .ref z6, .ref z7, .ref z8, .ref z9, .ref z10, .null, .int z12, .int z13])) :: X) tk y0 y1 y2 y3 y4 y5 y6 y7 ft t tn t_tk t_y0 (by omega) (by omega) (by omega) (by omega) (by omega) (by omega) (by omega) htb (by have q9 := (hto).b; omega) (hO.sub (by decide))) kw_583 kw_453 kw_454 kw_3 kw_455 (by decide +kernel) ⟨Nat.le_of_ble_eq_true rfl, Nat.le_of_ble_eq_true rfl⟩ (x_recv (ci := 7) hkb hH 0 rfl rfl) rfl rfl hl.1 (Nat.le_of_ble_eq_true rfl) dX4_readGuide_26 ⟨Nat.le_of_ble_eq_true rfl, Nat.le_of_ble_eq_true rfl⟩) (fun u H locs hz9 hH hS => ?_)
    obtain ⟨n26_0_2, n26_0_3, n26_0_4, n26_0_5, rfl, x_v260, x_v261, x_v262⟩ := hz9
    have px26 := TSS.nx hto x_v261
    have hH : HT D cs A T (tk :: y0 :: d :: O) ((tk, .inr (7, [.ref y0, .int y1, .int n26_0_2, .int n26_0_3, .int n26_0_4, .int n26_0_5, .int y6, .int y7])) :: (y0, .inl (cs.1, 900, .inl ft)) :: (d, .inr (9, [.int z0, .int z1, .int z2, .int z3, .int z4, .int z5, .ref z6, .ref z7, .ref z8, .ref z9, .ref z10, .null, .int z12, .int z13])) :: X) H := hH
    refine W.widen (k := 0) (n := 0) (Nat.le_of_ble_eq_true rfl) (Nat.le_of_ble_eq_true rfl) ?_
    have g29 : GR t tn [(31, 0)] [(20, 2), (22, 99), (34, 0)] (RZ z0 z1 z3 z4 z2) (RZ z0 z1 z3 z4 z2) y2 n26_0_2 := GR_nx (fun _ => st_iG hk1 (by show ¬ 5 ≤ z1.toInt.toNat; omega)) px26
    refine lv_aload_n hx hb dX4_readGuide_29 rfl (lv_at hl 1 rfl) ?_
    refine t_get (ci := 4) (lst := ft4 d 0) (C := RX4) (F := TX4) (N := 5) hx hb hts uX4 hown hkb hH t_a0 (hO.no t_a0 (by decide)) (fun _ h9 => h9) rfl rfl 0 (by decide) rfl kw_211 (fun _ h9 => h9) dX4_readGuide_30 (fun v9 h9 => ?_)
    obtain ⟨v30, rfl, t_v30⟩ := h9
    have e9 := (hU7 _ _ t_v30).symm
    subst e9
    refine va_ldcS (q := kf.1 7) hx hb hown (hks ("FootholdWall$Reader", 160, "leg", 7) (by decide +kernel)) dX4_readGuide_33 ?_
    refine tk_i hH hS hA (tr_V (n := 1) (As := [.ref (kf.1 7)]) hx hb hml hown hts hkb hH (ox_map hOX rfl) hks hE hS hA (s_Tok_takeWord l D cs kf T (d :: O) ((d, .inr (9, [.int z0, .int z1, .int z2, .int z3, .int z4, .int z5, .ref z6, .ref z7, .ref z8, .ref z9, .ref z10, .null, .int z12, .int z13])) :: X) tk 7 y0 y1 n26_0_2 n26_0_3 n26_0_4 n26_0_5 y6 y7 ft t tn 2 t_tk (by decide) t_y0 (by omega) (by omega) (by omega) (by omega) (by omega) (by omega) (by omega) htb x_v260 (by decide) (by decide) (hO.sub (by decide))) kw_603 kw_604 kw_605 kw_3 kw_606 (by decide +kernel) ⟨Nat.le_of_ble_eq_true rfl, Nat.le_of_ble_eq_true rfl⟩ (x_recv (ci := 7) hkb hH 0 rfl rfl) rfl rfl hl.1 (Nat.le_of_ble_eq_true rfl) dX4_readGuide_35 ⟨Nat.le_of_ble_eq_true rfl, Nat.le_of_ble_eq_true rfl⟩) (fun v35 u H locs hz9 hH hS => ?_)
    obtain ⟨n35_0_2, n35_0_3, n35_0_4, n35_0_5, n35_0_6, n35_0_7, rfl, l_v35, u_v35, x_v350, x_v351, x_v352⟩ := hz9
    have hH : HT D cs A T (tk :: y0 :: d :: O) ((tk, .inr (7, [.ref y0, .int y1, .int n35_0_2, .int n35_0_3, .int n35_0_4, .int n35_0_5, .int n35_0_6, .int n35_0_7])) :: (y0, .inl (cs.1, 900, .inl ft)) :: (d, .inr (9, [.int z0, .int z1, .int z2, .int z3, .int z4, .int z5, .ref z6, .ref z7, .ref z8, .ref z9, .ref z10, .null, .int z12, .int z13])) :: X) H := hH
    refine W.widen (k := 0) (n := 0) (Nat.le_of_ble_eq_true rfl) (Nat.le_of_ble_eq_true rfl) ?_
    refine lv_if_ne (tgt := 43) hx hb dX4_readGuide_38 (by decide) (fun c38 => ?_) (fun c38 => ?_)
    · skip
      have tc38 := f_ne (k := 0) (by decide) c38
      replace x_v350 := x_v350.resolve_left tc38
      clear x_v351
      have g43 : GR t tn [(31, 0)] [(22, 99), (34, 0)] (RZ z0 z1 z3 z4 z2) (RZ z0 z1 z3 z4 z2) y2 n35_0_2 := g29.tr (GR.cons (GR_nx (fun _ => st_xY x_v350.2.2.1) x_v350.2.1))
      refine lv_aload_n hx hb dX4_readGuide_43 rfl (lv_at hl 1 rfl) ?_
      refine t_get (ci := 4) (lst := ft4 d 0) (C := RX4) (F := TX4) (N := 5) hx hb hts uX4 hown hkb hH t_a0 (hO.no t_a0 (by decide)) (fun _ h9 => h9) rfl rfl 2 (by decide) rfl kw_214 (fun _ h9 => h9) dX4_readGuide_44 (fun v9 h9 => ?_)
      have h9 : v9 = .ref d := h9
      subst h9
      refine x_getk (ci := 9) (C := RX9) (F := TX9) (N := 14) (v := .ref z9) hx hb hts uX9 hown hkb hH 2 rfl rfl 9 (by decide) rfl kw_143 (fun _ h9 => h9) dX4_readGuide_47 ?_
      refine lv_iload_n hx hb dX4_readGuide_50 rfl (lv_at hl 0 rfl) ?_
      refine lv_aload_n hx hb dX4_readGuide_51 rfl (lv_at hl 1 rfl) ?_
      refine t_get (ci := 4) (lst := ft4 d 0) (C := RX4) (F := TX4) (N := 5) hx hb hts uX4 hown hkb hH t_a0 (hO.no t_a0 (by decide)) (fun _ h9 => h9) rfl rfl 0 (by decide) rfl kw_211 (fun _ h9 => h9) dX4_readGuide_52 (fun v9 h9 => ?_)
      obtain ⟨v52, rfl, t_v52⟩ := h9
      have e9 := (hU7 _ _ t_v52).symm
      subst e9
      refine lv_bipush (v := 99) hx hb dX4_readGuide_55 (by decide) ?_
      have z9_99 : (99 : Int32).toInt = 99 := by decide
      refine tk_i hH hS hA (tr_V (n := 1) (As := [.int 99]) hx hb hml hown hts hkb hH (ox_map hOX rfl) hks hE hS hA (s_Tok_takeNumber l D cs kf T (d :: O) ((d, .inr (9, [.int z0, .int z1, .int z2, .int z3, .int z4, .int z5, .ref z6, .ref z7, .ref z8, .ref z9, .ref z10, .null, .int z12, .int z13])) :: X) tk (99) y0 y1 n35_0_2 n35_0_3 n35_0_4 n35_0_5 n35_0_6 n35_0_7 ft t tn t_tk (by decide) (by decide) t_y0 (by omega) (by omega) (by omega) (by omega) (by omega) (by omega) (by omega) htb x_v350.1 (hO.sub (by decide))) kw_584 kw_585 kw_586 kw_3 kw_587 (by decide +kernel) ⟨Nat.le_of_ble_eq_true rfl, Nat.le_of_ble_eq_true rfl⟩ (x_recv (ci := 7) hkb hH 0 rfl rfl) rfl rfl hl.1 (Nat.le_of_ble_eq_true rfl) dX4_readGuide_57 ⟨Nat.le_of_ble_eq_true rfl, Nat.le_of_ble_eq_true rfl⟩) (fun v57 u H locs hz9 hH hS => ?_)
      obtain ⟨n57_0_2, n57_0_3, n57_0_4, n57_0_5, n57_0_6, n57_0_7, rfl, l_v57, u_v57, x_v570, x_v571, x_v572, x_v573⟩ := hz9
      have hH : HT D cs A T (tk :: y0 :: d :: O) ((tk, .inr (7, [.ref y0, .int y1, .int n57_0_2, .int n57_0_3, .int n57_0_4, .int n57_0_5, .int n57_0_6, .int n57_0_7])) :: (y0, .inl (cs.1, 900, .inl ft)) :: (d, .inr (9, [.int z0, .int z1, .int z2, .int z3, .int z4, .int z5, .ref z6, .ref z7, .ref z8, .ref z9, .ref z10, .null, .int z12, .int z13])) :: X) H := hH
      refine W.widen (k := 0) (n := 0) (Nat.le_of_ble_eq_true rfl) (Nat.le_of_ble_eq_true rfl) ?_
      have hO1 := hO
      obtain ⟨e9, hs9, hH⟩ := HT.takeA hH t_z9 (hO1.no t_z9 (by decide))
      obtain ⟨fl9, rfl, -⟩ : ∃ f : Nat → Int32, e9 = .inl (cs.2.1, 5, .inl f) ∧ ∀ j, cp 0 (f j) := hs9
      have hO : okO T (z9 :: tk :: y0 :: d :: O) [14] := okO.cons (hO.sub (by decide)) t_z9 (by decide)
      obtain ⟨e9, hs9, hH⟩ := HT.takeA hH t_z10 (nm_c (tag_ne t_z10 t_z9 (by decide)) (hO1.no t_z10 (by decide)))
      obtain ⟨fl10, rfl, -⟩ : ∃ f : Nat → Int32, e9 = .inl (cs.2.1, 5, .inl f) ∧ ∀ j, cp 9 (f j) := hs9
      have hO : okO T (z10 :: z9 :: tk :: y0 :: d :: O) [14] := okO.cons (hO.sub (by decide)) t_z10 (by decide)
      have hH : HT D cs A T (tk :: y0 :: d :: z9 :: z10 :: O) ((tk, .inr (7, [.ref y0, .int y1, .int n57_0_2, .int n57_0_3, .int n57_0_4, .int n57_0_5, .int n57_0_6, .int n57_0_7])) :: (y0, .inl (cs.1, 900, .inl ft)) :: (d, .inr (9, [.int z0, .int z1, .int z2, .int z3, .int z4, .int z5, .ref z6, .ref z7, .ref z8, .ref z9, .ref z10, .null, .int z12, .int z13])) :: (z9, .inl (cs.2.1, 5, .inl fl9)) :: (z10, .inl (cs.2.1, 5, .inl fl10)) :: X) H := HT.pm (Y := [(z10, .inl (cs.2.1, 5, .inl fl10)), (z9, .inl (cs.2.1, 5, .inl fl9)), (tk, .inr (7, [.ref y0, .int y1, .int n57_0_2, .int n57_0_3, .int n57_0_4, .int n57_0_5, .int n57_0_6, .int n57_0_7])), (y0, .inl (cs.1, 900, .inl ft)), (d, .inr (9, [.int z0, .int z1, .int z2, .int z3, .int z4, .int z5, .ref z6, .ref z7, .ref z8, .ref z9, .ref z10, .null, .int z12, .int z13]))]) (Y2 := [(tk, .inr (7, [.ref y0, .int y1, .int n57_0_2, .int n57_0_3, .int n57_0_4, .int n57_0_5, .int n57_0_6, .int n57_0_7])), (y0, .inl (cs.1, 900, .inl ft)), (d, .inr (9, [.int z0, .int z1, .int z2, .int z3, .int z4, .int z5, .ref z6, .ref z7, .ref z8, .ref z9, .ref z10, .null, .int z12, .int z13])), (z9, .inl (cs.2.1, 5, .inl fl9)), (z10, .inl (cs.2.1, 5, .inl fl10))]) (X := X) (ym := 5) [2, 3, 4, 1, 0] hH rfl rfl (fun k hk => match k, hk with | 0, _ => rfl | 1, _ => rfl | 2, _ => rfl | 3, _ => rfl | 4, _ => rfl | k + 5, h => absurd h (by show ¬ k + 5 < 5; omega)) (by decide) (by intro a ha; simp only [List.mem_cons] at ha ⊢; rcases ha with h | h | h | h | h | h; exact Or.inr (Or.inr (Or.inr (Or.inr (Or.inl h)))); exact Or.inr (Or.inr (Or.inr (Or.inl h))); exact Or.inl h; exact Or.inr (Or.inl h); exact Or.inr (Or.inr (Or.inl h)); exact Or.inr (Or.inr (Or.inr (Or.inr (Or.inr (h))))))
      have hO := hO.pm (O' := tk :: y0 :: d :: z9 :: z10 :: O) (by intro a ha; simp only [List.mem_cons] at ha ⊢; rcases ha with h | h | h | h | h | h; exact Or.inr (Or.inr (Or.inl h)); exact Or.inr (Or.inr (Or.inr (Or.inl h))); exact Or.inr (Or.inr (Or.inr (Or.inr (Or.inl h)))); exact Or.inr (Or.inl h); exact Or.inl h; exact Or.inr (Or.inr (Or.inr (Or.inr (Or.inr (h))))))
      refine xa_ist hx hb hkb hH hS 3 rfl (by omega) (by omega) dX4_readGuide_60 (fun H locs hH hS => ?_)
      have hH : HT D cs A T (tk :: y0 :: d :: z9 :: z10 :: O) ((tk, .inr (7, [.ref y0, .int y1, .int n57_0_2, .int n57_0_3, .int n57_0_4, .int n57_0_5, .int n57_0_6, .int n57_0_7])) :: (y0, .inl (cs.1, 900, .inl ft)) :: (d, .inr (9, [.int z0, .int z1, .int z2, .int z3, .int z4, .int z5, .ref z6, .ref z7, .ref z8, .ref z9, .ref z10, .null, .int z12, .int z13])) :: (z9, .inl (cs.2.1, 5, .inl (upd fl9 (z1.toInt.toNat) v57))) :: (z10, .inl (cs.2.1, 5, .inl fl10)) :: X) H := hH
      obtain ⟨F60, eF60⟩ : ∃ f9, f9 = upd fl9 (z1.toInt.toNat) v57 := ⟨_, rfl⟩
      have hH : HT D cs A T (tk :: y0 :: d :: z9 :: z10 :: O) ((tk, .inr (7, [.ref y0, .int y1, .int n57_0_2, .int n57_0_3, .int n57_0_4, .int n57_0_5, .int n57_0_6, .int n57_0_7])) :: (y0, .inl (cs.1, 900, .inl ft)) :: (d, .inr (9, [.int z0, .int z1, .int z2, .int z3, .int z4, .int z5, .ref z6, .ref z7, .ref z8, .ref z9, .ref z10, .null, .int z12, .int z13])) :: (z9, .inl (cs.2.1, 5, .inl F60)) :: (z10, .inl (cs.2.1, 5, .inl fl10)) :: X) H := eF60 ▸ hH
      refine lv_aload_n hx hb dX4_readGuide_61 rfl (lv_at hl 1 rfl) ?_
      refine t_get (ci := 4) (lst := ft4 d 0) (C := RX4) (F := TX4) (N := 5) hx hb hts uX4 hown hkb hH t_a0 (hO.no t_a0 (by decide)) (fun _ h9 => h9) rfl rfl 2 (by decide) rfl kw_214 (fun _ h9 => h9) dX4_readGuide_62 (fun v9 h9 => ?_)
      have h9 : v9 = .ref d := h9
      subst h9
      refine x_getk (ci := 9) (C := RX9) (F := TX9) (N := 14) (v := .ref z10) hx hb hts uX9 hown hkb hH 2 rfl rfl 10 (by decide) rfl kw_146 (fun _ h9 => h9) dX4_readGuide_65 ?_
      refine lv_iload_n hx hb dX4_readGuide_68 rfl (lv_at hl 0 rfl) ?_
      refine lv_iconst (v := 0) hx hb dX4_readGuide_69 (by decide) ?_
      refine xa_ist hx hb hkb hH hS 4 rfl (by omega) (by omega) dX4_readGuide_70 (fun H locs hH hS => ?_)
      have hH : HT D cs A T (tk :: y0 :: d :: z9 :: z10 :: O) ((tk, .inr (7, [.ref y0, .int y1, .int n57_0_2, .int n57_0_3, .int n57_0_4, .int n57_0_5, .int n57_0_6, .int n57_0_7])) :: (y0, .inl (cs.1, 900, .inl ft)) :: (d, .inr (9, [.int z0, .int z1, .int z2, .int z3, .int z4, .int z5, .ref z6, .ref z7, .ref z8, .ref z9, .ref z10, .null, .int z12, .int z13])) :: (z9, .inl (cs.2.1, 5, .inl F60)) :: (z10, .inl (cs.2.1, 5, .inl (upd fl10 (z1.toInt.toNat) (0 : Int32)))) :: X) H := hH
      obtain ⟨F70, eF70⟩ : ∃ f9, f9 = upd fl10 (z1.toInt.toNat) (0 : Int32) := ⟨_, rfl⟩
      have hH : HT D cs A T (tk :: y0 :: d :: z9 :: z10 :: O) ((tk, .inr (7, [.ref y0, .int y1, .int n57_0_2, .int n57_0_3, .int n57_0_4, .int n57_0_5, .int n57_0_6, .int n57_0_7])) :: (y0, .inl (cs.1, 900, .inl ft)) :: (d, .inr (9, [.int z0, .int z1, .int z2, .int z3, .int z4, .int z5, .ref z6, .ref z7, .ref z8, .ref z9, .ref z10, .null, .int z12, .int z13])) :: (z9, .inl (cs.2.1, 5, .inl F60)) :: (z10, .inl (cs.2.1, 5, .inl F70)) :: X) H := eF70 ▸ hH
      refine lv_aload_n hx hb dX4_readGuide_71 rfl (lv_at hl 1 rfl) ?_
      refine t_get (ci := 4) (lst := ft4 d 0) (C := RX4) (F := TX4) (N := 5) hx hb hts uX4 hown hkb hH t_a0 (hO.no t_a0 (by decide)) (fun _ h9 => h9) rfl rfl 2 (by decide) rfl kw_214 (fun _ h9 => h9) dX4_readGuide_72 (fun v9 h9 => ?_)
      have h9 : v9 = .ref d := h9
      subst h9
      refine x_getk (ci := 9) (C := RX9) (F := TX9) (N := 14) (v := .ref z9) hx hb hts uX9 hown hkb hH 2 rfl rfl 9 (by decide) rfl kw_143 (fun _ h9 => h9) dX4_readGuide_75 ?_
      refine lv_iload_n hx hb dX4_readGuide_78 rfl (lv_at hl 0 rfl) ?_
      refine xa_ild hx hb hkb hH 3 rfl (by omega) (by omega) dX4_readGuide_79 ?_
      refine lv_topi (fun v79 ev79 => ?_)
      have tv79 : v79 = F60 z1.toInt.toNat := ev79
      have e9 : v57 = v79 := (tv79.trans (by rw [eF60]; exact upd_eq)).symm
      subst e9
      refine lv_iconst (v := (-1)) hx hb dX4_readGuide_80 (by decide) ?_
      refine lv_icmp_eq (tgt := 121) hx hb dX4_readGuide_81 (by decide) (fun c81 => ?_) (fun c81 => ?_)
      · skip
        have tc81 := f_eq (k := -1) (by decide) c81
        clear x_v570
        clear x_v573
        replace x_v571 := x_v571.resolve_left (fun q9 => q9 tc81)
        refine lv_aload_n hx hb dX4_readGuide_121 rfl (lv_at hl 1 rfl) ?_
        refine t_get (ci := 4) (lst := ft4 d 0) (C := RX4) (F := TX4) (N := 5) hx hb hts uX4 hown hkb hH t_a0 (hO.no t_a0 (by decide)) (fun _ h9 => h9) rfl rfl 2 (by decide) rfl kw_214 (fun _ h9 => h9) dX4_readGuide_122 (fun v9 h9 => ?_)
        have h9 : v9 = .ref d := h9
        subst h9
        refine lv_dup hx hb dX4_readGuide_125 rfl ?_
        refine x_getk (ci := 9) (C := RX9) (F := TX9) (N := 14) (v := .int z1) hx hb hts uX9 hown hkb hH 2 rfl rfl 1 (by decide) rfl kw_111 (fun _ h9 => h9) dX4_readGuide_126 ?_
        refine lv_iconst (v := 1) hx hb dX4_readGuide_129 (by decide) ?_
        refine lv_iadd hx hb dX4_readGuide_130 ?_
        refine lv_topi (fun v130 ev130 => ?_)
        have tv130 : v130.toInt = z1.toInt + (1) := by rw [ev130]; exact add_i rfl (by decide : (1 : Int32).toInt = 1) (by omega) (by omega)
        refine x_putk (ci := 9) (v := .int v130) (ty := tyX9 1) (C := RX9) (F := TX9) (N := 14) hx hb hts uX9 tyX9 tyX9_ok nmX9 hown hkb hH hS 2 rfl rfl 1 (by decide) kw_111 (fun _ h9 => h9) rfl (tyX9_ok 1 (by decide)) rfl rfl (Nat.le_of_ble_eq_true rfl) dX4_readGuide_131 (fun H locs hH hS => ?_)
        have hH : HT D cs A T (tk :: y0 :: d :: z9 :: z10 :: O) ((tk, .inr (7, [.ref y0, .int y1, .int n57_0_2, .int n57_0_3, .int n57_0_4, .int n57_0_5, .int n57_0_6, .int n57_0_7])) :: (y0, .inl (cs.1, 900, .inl ft)) :: (d, .inr (9, [.int z0, .int v130, .int z2, .int z3, .int z4, .int z5, .ref z6, .ref z7, .ref z8, .ref z9, .ref z10, .null, .int z12, .int z13])) :: (z9, .inl (cs.2.1, 5, .inl F60)) :: (z10, .inl (cs.2.1, 5, .inl F70)) :: X) H := hH
        refine lv_aload_n hx hb dX4_readGuide_134 rfl (lv_at hl 1 rfl) ?_
        refine t_get (ci := 4) (lst := ft4 d 0) (C := RX4) (F := TX4) (N := 5) hx hb hts uX4 hown hkb hH t_a0 (hO.no t_a0 (by decide)) (fun _ h9 => h9) rfl rfl 2 (by decide) rfl kw_214 (fun _ h9 => h9) dX4_readGuide_135 (fun v9 h9 => ?_)
        have h9 : v9 = .ref d := h9
        subst h9
        refine x_getk (ci := 9) (C := RX9) (F := TX9) (N := 14) (v := .ref z9) hx hb hts uX9 hown hkb hH 2 rfl rfl 9 (by decide) rfl kw_143 (fun _ h9 => h9) dX4_readGuide_138 ?_
        refine lv_iload_n hx hb dX4_readGuide_141 rfl (lv_at hl 0 rfl) ?_
        refine xa_ild hx hb hkb hH 3 rfl (by omega) (by omega) dX4_readGuide_142 ?_
        refine lv_topi (fun v142 ev142 => ?_)
        have tv142 : v142 = F60 z1.toInt.toNat := ev142
        have e9 : v57 = v142 := (tv142.trans (by rw [eF60]; exact upd_eq)).symm
        subst e9
        refine lv_iconst (v := (-1)) hx hb dX4_readGuide_143 (by decide) ?_
        refine lv_icmp_eq (tgt := 164) hx hb dX4_readGuide_144 (by decide) (fun c144 => ?_) (fun c144 => ?_)
        · skip
          have tc144 := f_eq (k := -1) (by decide) c144
          refine lv_iconst (v := 0) hx hb dX4_readGuide_164 (by decide) ?_
          have hH : HT D cs A T (z9 :: tk :: y0 :: d :: z10 :: O) ((z9, .inl (cs.2.1, 5, .inl F60)) :: (tk, .inr (7, [.ref y0, .int y1, .int n57_0_2, .int n57_0_3, .int n57_0_4, .int n57_0_5, .int n57_0_6, .int n57_0_7])) :: (y0, .inl (cs.1, 900, .inl ft)) :: (d, .inr (9, [.int z0, .int v130, .int z2, .int z3, .int z4, .int z5, .ref z6, .ref z7, .ref z8, .ref z9, .ref z10, .null, .int z12, .int z13])) :: (z10, .inl (cs.2.1, 5, .inl F70)) :: X) H := HT.pm (Y := [(tk, .inr (7, [.ref y0, .int y1, .int n57_0_2, .int n57_0_3, .int n57_0_4, .int n57_0_5, .int n57_0_6, .int n57_0_7])), (y0, .inl (cs.1, 900, .inl ft)), (d, .inr (9, [.int z0, .int v130, .int z2, .int z3, .int z4, .int z5, .ref z6, .ref z7, .ref z8, .ref z9, .ref z10, .null, .int z12, .int z13])), (z9, .inl (cs.2.1, 5, .inl F60))]) (Y2 := [(z9, .inl (cs.2.1, 5, .inl F60)), (tk, .inr (7, [.ref y0, .int y1, .int n57_0_2, .int n57_0_3, .int n57_0_4, .int n57_0_5, .int n57_0_6, .int n57_0_7])), (y0, .inl (cs.1, 900, .inl ft)), (d, .inr (9, [.int z0, .int v130, .int z2, .int z3, .int z4, .int z5, .ref z6, .ref z7, .ref z8, .ref z9, .ref z10, .null, .int z12, .int z13]))]) (X := (z10, .inl (cs.2.1, 5, .inl F70)) :: X) (ym := 4) [3, 0, 1, 2] hH rfl rfl (fun k hk => match k, hk with | 0, _ => rfl | 1, _ => rfl | 2, _ => rfl | 3, _ => rfl | k + 4, h => absurd h (by show ¬ k + 4 < 4; omega)) (by decide) (by intro a ha; simp only [List.mem_cons] at ha ⊢; rcases ha with h | h | h | h | h; exact Or.inr (Or.inl h); exact Or.inr (Or.inr (Or.inl h)); exact Or.inr (Or.inr (Or.inr (Or.inl h))); exact Or.inl h; exact Or.inr (Or.inr (Or.inr (Or.inr (h)))))
          have hH : HT D cs A T (tk :: y0 :: d :: z10 :: O) ((tk, .inr (7, [.ref y0, .int y1, .int n57_0_2, .int n57_0_3, .int n57_0_4, .int n57_0_5, .int n57_0_6, .int n57_0_7])) :: (y0, .inl (cs.1, 900, .inl ft)) :: (d, .inr (9, [.int z0, .int v130, .int z2, .int z3, .int z4, .int z5, .ref z6, .ref z7, .ref z8, .ref z9, .ref z10, .null, .int z12, .int z13])) :: (z10, .inl (cs.2.1, 5, .inl F70)) :: X) H := HT.layA hH t_z9 (show sp cs T (1, 5, 0) _ from ⟨_, rfl, fun _ => cp_0 _⟩)
          have hH : HT D cs A T (z10 :: tk :: y0 :: d :: O) ((z10, .inl (cs.2.1, 5, .inl F70)) :: (tk, .inr (7, [.ref y0, .int y1, .int n57_0_2, .int n57_0_3, .int n57_0_4, .int n57_0_5, .int n57_0_6, .int n57_0_7])) :: (y0, .inl (cs.1, 900, .inl ft)) :: (d, .inr (9, [.int z0, .int v130, .int z2, .int z3, .int z4, .int z5, .ref z6, .ref z7, .ref z8, .ref z9, .ref z10, .null, .int z12, .int z13])) :: X) H := HT.pm (Y := [(tk, .inr (7, [.ref y0, .int y1, .int n57_0_2, .int n57_0_3, .int n57_0_4, .int n57_0_5, .int n57_0_6, .int n57_0_7])), (y0, .inl (cs.1, 900, .inl ft)), (d, .inr (9, [.int z0, .int v130, .int z2, .int z3, .int z4, .int z5, .ref z6, .ref z7, .ref z8, .ref z9, .ref z10, .null, .int z12, .int z13])), (z10, .inl (cs.2.1, 5, .inl F70))]) (Y2 := [(z10, .inl (cs.2.1, 5, .inl F70)), (tk, .inr (7, [.ref y0, .int y1, .int n57_0_2, .int n57_0_3, .int n57_0_4, .int n57_0_5, .int n57_0_6, .int n57_0_7])), (y0, .inl (cs.1, 900, .inl ft)), (d, .inr (9, [.int z0, .int v130, .int z2, .int z3, .int z4, .int z5, .ref z6, .ref z7, .ref z8, .ref z9, .ref z10, .null, .int z12, .int z13]))]) (X := X) (ym := 4) [3, 0, 1, 2] hH rfl rfl (fun k hk => match k, hk with | 0, _ => rfl | 1, _ => rfl | 2, _ => rfl | 3, _ => rfl | k + 4, h => absurd h (by show ¬ k + 4 < 4; omega)) (by decide) (by intro a ha; simp only [List.mem_cons] at ha ⊢; rcases ha with h | h | h | h | h; exact Or.inr (Or.inl h); exact Or.inr (Or.inr (Or.inl h)); exact Or.inr (Or.inr (Or.inr (Or.inl h))); exact Or.inl h; exact Or.inr (Or.inr (Or.inr (Or.inr (h)))))
          have hH : HT D cs A T (tk :: y0 :: d :: O) ((tk, .inr (7, [.ref y0, .int y1, .int n57_0_2, .int n57_0_3, .int n57_0_4, .int n57_0_5, .int n57_0_6, .int n57_0_7])) :: (y0, .inl (cs.1, 900, .inl ft)) :: (d, .inr (9, [.int z0, .int v130, .int z2, .int z3, .int z4, .int z5, .ref z6, .ref z7, .ref z8, .ref z9, .ref z10, .null, .int z12, .int z13])) :: X) H := HT.layA hH t_z10 (show sp cs T (1, 5, 9) _ from ⟨_, rfl, fun _ => cp_9 _⟩)
          have z9_0 : (0 : Int32).toInt = 0 := by decide
          exact te_z hx hb hr hlocks (by rfl) hH hS (⟨n57_0_2, n57_0_3, n57_0_4, n57_0_5, n57_0_6, n57_0_7, v130, rfl, by decide, by decide, Or.inl (by decide), (Or.inr (by first | (refine (BR_f (G := []) (fun _ => st_iGM hk1 ?_) x_v180 (by decide) x_v181 ?_).cons; show 5 ≤ z1.toInt.toNat; omega; omega) | (refine (g29.ap (G := [(20, 30)])).bd (BR.cons (BR_f (G := []) (fun _ => st_xN x_v351.1) x_v351.2.1 (by decide) x_v351.2.2 ?_)); omega) | (refine (g43.ap (G := [(20, 30)])).bd (BR.cons (BR_n (by decide) x_v571.1 x_v571.2.1 x_v571.2.2 ?_)); omega) | (refine (g103.ap (G := [(20, 30)])).bd (BR.cons (BR_n (by decide) x_v1171.1 x_v1171.2.1 x_v1171.2.2 ?_)); omega))), (by omega), (by omega)⟩) dX4_readGuide_165
        · skip
          have tc144 := f_ne (k := -1) (by decide) c144
          exfalso; omega
      · skip
        have tc81 := f_ne (k := -1) (by decide) c81
        replace x_v570 := x_v570.resolve_left tc81
        replace x_v573 := x_v573.resolve_left tc81
        clear x_v571
        have g84 := g43.tr (GR.cons (GR_n (by decide) x_v570.2.2.1 x_v570.2.2.2.1 x_v570.2.2.2.2.1 x_v570.2.1))
        refine lv_aload_n hx hb dX4_readGuide_84 rfl (lv_at hl 1 rfl) ?_
        refine t_get (ci := 4) (lst := ft4 d 0) (C := RX4) (F := TX4) (N := 5) hx hb hts uX4 hown hkb hH t_a0 (hO.no t_a0 (by decide)) (fun _ h9 => h9) rfl rfl 0 (by decide) rfl kw_211 (fun _ h9 => h9) dX4_readGuide_85 (fun v9 h9 => ?_)
        obtain ⟨v85, rfl, t_v85⟩ := h9
        have e9 := (hU7 _ _ t_v85).symm
        subst e9
        refine va_ldcS (q := kf.1 8) hx hb hown (hks ("FootholdWall$Reader", 170, "weight", 8) (by decide +kernel)) dX4_readGuide_88 ?_
        refine tk_i hH hS hA (tr_V (n := 1) (As := [.ref (kf.1 8)]) hx hb hml hown hts hkb hH (ox_mem hOXf (by intro a ha; simp only [List.map_cons, List.mem_cons] at ha ⊢; rcases ha with h | h | h | h <;> simp [h]) (by intro a ha; simp only [List.map_cons, List.mem_cons] at ha ⊢; rcases ha with h | h | h | h | h | h <;> simp [h])) hks hE hS hA (s_Tok_isWord l D cs kf T (d :: z9 :: z10 :: O) ((d, .inr (9, [.int z0, .int z1, .int z2, .int z3, .int z4, .int z5, .ref z6, .ref z7, .ref z8, .ref z9, .ref z10, .null, .int z12, .int z13])) :: (z9, .inl (cs.2.1, 5, .inl F60)) :: (z10, .inl (cs.2.1, 5, .inl F70)) :: X) tk 8 y0 y1 n57_0_2 n57_0_3 n57_0_4 n57_0_5 n57_0_6 n57_0_7 ft t tn 3 t_tk (by decide) t_y0 (by omega) (by omega) (by omega) (by omega) (by omega) (by omega) (by omega) htb x_v570.1 (by decide) (by decide) (hO.sub (by decide))) kw_550 kw_551 kw_552 kw_3 kw_553 (by decide +kernel) ⟨Nat.le_of_ble_eq_true rfl, Nat.le_of_ble_eq_true rfl⟩ (x_recv (ci := 7) hkb hH 0 rfl rfl) rfl rfl hl.1 (Nat.le_of_ble_eq_true rfl) dX4_readGuide_90 ⟨Nat.le_of_ble_eq_true rfl, Nat.le_of_ble_eq_true rfl⟩) (fun v90 u H locs hz9 hH hS => ?_)
        obtain ⟨rfl, l_v90, u_v90, x_v900, x_v901⟩ := hz9
        have hH : HT D cs A T (tk :: y0 :: d :: z9 :: z10 :: O) ((tk, .inr (7, [.ref y0, .int y1, .int n57_0_2, .int n57_0_3, .int n57_0_4, .int n57_0_5, .int n57_0_6, .int n57_0_7])) :: (y0, .inl (cs.1, 900, .inl ft)) :: (d, .inr (9, [.int z0, .int z1, .int z2, .int z3, .int z4, .int z5, .ref z6, .ref z7, .ref z8, .ref z9, .ref z10, .null, .int z12, .int z13])) :: (z9, .inl (cs.2.1, 5, .inl F60)) :: (z10, .inl (cs.2.1, 5, .inl F70)) :: X) H := hH
        refine W.widen (k := 0) (n := 0) (Nat.le_of_ble_eq_true rfl) (Nat.le_of_ble_eq_true rfl) ?_
        refine lv_if_eq (tgt := 121) hx hb dX4_readGuide_93 (by decide) (fun c93 => ?_) (fun c93 => ?_)
        · skip
          have tc93 := f_eq (k := 0) (by decide) c93
          clear x_v900
          replace x_v901 := x_v901.resolve_left (fun q9 => q9 tc93)
          have g121 : GR t tn [(31, 0)] [(38, 0)] (RZ z0 z1 z3 z4 z2) (RZ z0 z1 z3 z4 z2) y2 n57_0_2 := g84.tr (show GR t tn [(34, 0)] [(38, 0)] (RZ z0 z1 z3 z4 z2) (RZ z0 z1 z3 z4 z2) n57_0_2 n57_0_2 from fun _ => st_gN x_v901)
          refine lv_aload_n hx hb dX4_readGuide_121 rfl (lv_at hl 1 rfl) ?_
          refine t_get (ci := 4) (lst := ft4 d 0) (C := RX4) (F := TX4) (N := 5) hx hb hts uX4 hown hkb hH t_a0 (hO.no t_a0 (by decide)) (fun _ h9 => h9) rfl rfl 2 (by decide) rfl kw_214 (fun _ h9 => h9) dX4_readGuide_122 (fun v9 h9 => ?_)
          have h9 : v9 = .ref d := h9
          subst h9
          refine lv_dup hx hb dX4_readGuide_125 rfl ?_
          refine x_getk (ci := 9) (C := RX9) (F := TX9) (N := 14) (v := .int z1) hx hb hts uX9 hown hkb hH 2 rfl rfl 1 (by decide) rfl kw_111 (fun _ h9 => h9) dX4_readGuide_126 ?_
          refine lv_iconst (v := 1) hx hb dX4_readGuide_129 (by decide) ?_
          refine lv_iadd hx hb dX4_readGuide_130 ?_
          refine lv_topi (fun v130 ev130 => ?_)
          have tv130 : v130.toInt = z1.toInt + (1) := by rw [ev130]; exact add_i rfl (by decide : (1 : Int32).toInt = 1) (by omega) (by omega)
          refine x_putk (ci := 9) (v := .int v130) (ty := tyX9 1) (C := RX9) (F := TX9) (N := 14) hx hb hts uX9 tyX9 tyX9_ok nmX9 hown hkb hH hS 2 rfl rfl 1 (by decide) kw_111 (fun _ h9 => h9) rfl (tyX9_ok 1 (by decide)) rfl rfl (Nat.le_of_ble_eq_true rfl) dX4_readGuide_131 (fun H locs hH hS => ?_)
          have hH : HT D cs A T (tk :: y0 :: d :: z9 :: z10 :: O) ((tk, .inr (7, [.ref y0, .int y1, .int n57_0_2, .int n57_0_3, .int n57_0_4, .int n57_0_5, .int n57_0_6, .int n57_0_7])) :: (y0, .inl (cs.1, 900, .inl ft)) :: (d, .inr (9, [.int z0, .int v130, .int z2, .int z3, .int z4, .int z5, .ref z6, .ref z7, .ref z8, .ref z9, .ref z10, .null, .int z12, .int z13])) :: (z9, .inl (cs.2.1, 5, .inl F60)) :: (z10, .inl (cs.2.1, 5, .inl F70)) :: X) H := hH
          refine lv_aload_n hx hb dX4_readGuide_134 rfl (lv_at hl 1 rfl) ?_
          refine t_get (ci := 4) (lst := ft4 d 0) (C := RX4) (F := TX4) (N := 5) hx hb hts uX4 hown hkb hH t_a0 (hO.no t_a0 (by decide)) (fun _ h9 => h9) rfl rfl 2 (by decide) rfl kw_214 (fun _ h9 => h9) dX4_readGuide_135 (fun v9 h9 => ?_)
          have h9 : v9 = .ref d := h9
          subst h9
          refine x_getk (ci := 9) (C := RX9) (F := TX9) (N := 14) (v := .ref z9) hx hb hts uX9 hown hkb hH 2 rfl rfl 9 (by decide) rfl kw_143 (fun _ h9 => h9) dX4_readGuide_138 ?_
          refine lv_iload_n hx hb dX4_readGuide_141 rfl (lv_at hl 0 rfl) ?_
          refine xa_ild hx hb hkb hH 3 rfl (by omega) (by omega) dX4_readGuide_142 ?_
          refine lv_topi (fun v142 ev142 => ?_)
          have tv142 : v142 = F60 z1.toInt.toNat := ev142
          have e9 : v57 = v142 := (tv142.trans (by rw [eF60]; exact upd_eq)).symm
          subst e9
          refine lv_iconst (v := (-1)) hx hb dX4_readGuide_143 (by decide) ?_
          refine lv_icmp_eq (tgt := 164) hx hb dX4_readGuide_144 (by decide) (fun c144 => ?_) (fun c144 => ?_)
          · skip
            have tc144 := f_eq (k := -1) (by decide) c144
            exfalso; omega
          · skip
            have tc144 := f_ne (k := -1) (by decide) c144
            refine lv_aload_n hx hb dX4_readGuide_147 rfl (lv_at hl 1 rfl) ?_
            refine t_get (ci := 4) (lst := ft4 d 0) (C := RX4) (F := TX4) (N := 5) hx hb hts uX4 hown hkb hH t_a0 (hO.no t_a0 (by decide)) (fun _ h9 => h9) rfl rfl 2 (by decide) rfl kw_214 (fun _ h9 => h9) dX4_readGuide_148 (fun v9 h9 => ?_)
            have h9 : v9 = .ref d := h9
            subst h9
            refine x_getk (ci := 9) (C := RX9) (F := TX9) (N := 14) (v := .ref z10) hx hb hts uX9 hown hkb hH 2 rfl rfl 10 (by decide) rfl kw_146 (fun _ h9 => h9) dX4_readGuide_151 ?_
            refine lv_iload_n hx hb dX4_readGuide_154 rfl (lv_at hl 0 rfl) ?_
            refine xa_ild hx hb hkb hH 4 rfl (by omega) (by omega) dX4_readGuide_155 ?_
            refine lv_topi (fun v155 ev155 => ?_)
            have tv155 : v155 = F70 z1.toInt.toNat := ev155
            have e9 : v155 = 0 := tv155.trans (by rw [eF70]; exact upd_eq)
            subst e9
            refine lv_iconst (v := (-1)) hx hb dX4_readGuide_156 (by decide) ?_
            refine lv_icmp_eq (tgt := 164) hx hb dX4_readGuide_157 (by decide) (fun c157 => absurd c157 (by decide)) (fun _ => ?_)
            refine lv_iconst (v := 1) hx hb dX4_readGuide_160 (by decide) ?_
            refine lv_goto (tgt := 165) hx hb dX4_readGuide_161 (by decide) ?_
            have hH : HT D cs A T (z9 :: tk :: y0 :: d :: z10 :: O) ((z9, .inl (cs.2.1, 5, .inl F60)) :: (tk, .inr (7, [.ref y0, .int y1, .int n57_0_2, .int n57_0_3, .int n57_0_4, .int n57_0_5, .int n57_0_6, .int n57_0_7])) :: (y0, .inl (cs.1, 900, .inl ft)) :: (d, .inr (9, [.int z0, .int v130, .int z2, .int z3, .int z4, .int z5, .ref z6, .ref z7, .ref z8, .ref z9, .ref z10, .null, .int z12, .int z13])) :: (z10, .inl (cs.2.1, 5, .inl F70)) :: X) H := HT.pm (Y := [(tk, .inr (7, [.ref y0, .int y1, .int n57_0_2, .int n57_0_3, .int n57_0_4, .int n57_0_5, .int n57_0_6, .int n57_0_7])), (y0, .inl (cs.1, 900, .inl ft)), (d, .inr (9, [.int z0, .int v130, .int z2, .int z3, .int z4, .int z5, .ref z6, .ref z7, .ref z8, .ref z9, .ref z10, .null, .int z12, .int z13])), (z9, .inl (cs.2.1, 5, .inl F60))]) (Y2 := [(z9, .inl (cs.2.1, 5, .inl F60)), (tk, .inr (7, [.ref y0, .int y1, .int n57_0_2, .int n57_0_3, .int n57_0_4, .int n57_0_5, .int n57_0_6, .int n57_0_7])), (y0, .inl (cs.1, 900, .inl ft)), (d, .inr (9, [.int z0, .int v130, .int z2, .int z3, .int z4, .int z5, .ref z6, .ref z7, .ref z8, .ref z9, .ref z10, .null, .int z12, .int z13]))]) (X := (z10, .inl (cs.2.1, 5, .inl F70)) :: X) (ym := 4) [3, 0, 1, 2] hH rfl rfl (fun k hk => match k, hk with | 0, _ => rfl | 1, _ => rfl | 2, _ => rfl | 3, _ => rfl | k + 4, h => absurd h (by show ¬ k + 4 < 4; omega)) (by decide) (by intro a ha; simp only [List.mem_cons] at ha ⊢; rcases ha with h | h | h | h | h; exact Or.inr (Or.inl h); exact Or.inr (Or.inr (Or.inl h)); exact Or.inr (Or.inr (Or.inr (Or.inl h))); exact Or.inl h; exact Or.inr (Or.inr (Or.inr (Or.inr (h)))))
            have hH : HT D cs A T (tk :: y0 :: d :: z10 :: O) ((tk, .inr (7, [.ref y0, .int y1, .int n57_0_2, .int n57_0_3, .int n57_0_4, .int n57_0_5, .int n57_0_6, .int n57_0_7])) :: (y0, .inl (cs.1, 900, .inl ft)) :: (d, .inr (9, [.int z0, .int v130, .int z2, .int z3, .int z4, .int z5, .ref z6, .ref z7, .ref z8, .ref z9, .ref z10, .null, .int z12, .int z13])) :: (z10, .inl (cs.2.1, 5, .inl F70)) :: X) H := HT.layA hH t_z9 (show sp cs T (1, 5, 0) _ from ⟨_, rfl, fun _ => cp_0 _⟩)
            have hH : HT D cs A T (z10 :: tk :: y0 :: d :: O) ((z10, .inl (cs.2.1, 5, .inl F70)) :: (tk, .inr (7, [.ref y0, .int y1, .int n57_0_2, .int n57_0_3, .int n57_0_4, .int n57_0_5, .int n57_0_6, .int n57_0_7])) :: (y0, .inl (cs.1, 900, .inl ft)) :: (d, .inr (9, [.int z0, .int v130, .int z2, .int z3, .int z4, .int z5, .ref z6, .ref z7, .ref z8, .ref z9, .ref z10, .null, .int z12, .int z13])) :: X) H := HT.pm (Y := [(tk, .inr (7, [.ref y0, .int y1, .int n57_0_2, .int n57_0_3, .int n57_0_4, .int n57_0_5, .int n57_0_6, .int n57_0_7])), (y0, .inl (cs.1, 900, .inl ft)), (d, .inr (9, [.int z0, .int v130, .int z2, .int z3, .int z4, .int z5, .ref z6, .ref z7, .ref z8, .ref z9, .ref z10, .null, .int z12, .int z13])), (z10, .inl (cs.2.1, 5, .inl F70))]) (Y2 := [(z10, .inl (cs.2.1, 5, .inl F70)), (tk, .inr (7, [.ref y0, .int y1, .int n57_0_2, .int n57_0_3, .int n57_0_4, .int n57_0_5, .int n57_0_6, .int n57_0_7])), (y0, .inl (cs.1, 900, .inl ft)), (d, .inr (9, [.int z0, .int v130, .int z2, .int z3, .int z4, .int z5, .ref z6, .ref z7, .ref z8, .ref z9, .ref z10, .null, .int z12, .int z13]))]) (X := X) (ym := 4) [3, 0, 1, 2] hH rfl rfl (fun k hk => match k, hk with | 0, _ => rfl | 1, _ => rfl | 2, _ => rfl | 3, _ => rfl | k + 4, h => absurd h (by show ¬ k + 4 < 4; omega)) (by decide) (by intro a ha; simp only [List.mem_cons] at ha ⊢; rcases ha with h | h | h | h | h; exact Or.inr (Or.inl h); exact Or.inr (Or.inr (Or.inl h)); exact Or.inr (Or.inr (Or.inr (Or.inl h))); exact Or.inl h; exact Or.inr (Or.inr (Or.inr (Or.inr (h)))))
            have hH : HT D cs A T (tk :: y0 :: d :: O) ((tk, .inr (7, [.ref y0, .int y1, .int n57_0_2, .int n57_0_3, .int n57_0_4, .int n57_0_5, .int n57_0_6, .int n57_0_7])) :: (y0, .inl (cs.1, 900, .inl ft)) :: (d, .inr (9, [.int z0, .int v130, .int z2, .int z3, .int z4, .int z5, .ref z6, .ref z7, .ref z8, .ref z9, .ref z10, .null, .int z12, .int z13])) :: X) H := HT.layA hH t_z10 (show sp cs T (1, 5, 9) _ from ⟨_, rfl, fun _ => cp_9 _⟩)
            have z9_1 : (1 : Int32).toInt = 1 := by decide
            exact te_z hx hb hr hlocks (by rfl) hH hS (⟨n57_0_2, n57_0_3, n57_0_4, n57_0_5, n57_0_6, n57_0_7, v130, rfl, by decide, by decide, (Or.inr ⟨x_v570.1, by omega, by omega, by omega, (by first | (refine g121.tr (GR_gC ?_ tv130); omega) | (refine (g103.tr (GR.cons (GR_n (by decide) x_v1170.2.2.1 x_v1170.2.2.2.1 x_v1170.2.2.2.2.1 x_v1170.2.1))).tr (GR_gC ?_ tv130); omega))⟩), Or.inl (by decide), (by omega), (by omega)⟩) dX4_readGuide_165
        · skip
          have tc93 := f_ne (k := 0) (by decide) c93
          replace x_v900 := x_v900.resolve_left tc93
          clear x_v901
          refine lv_aload_n hx hb dX4_readGuide_96 rfl (lv_at hl 1 rfl) ?_
          refine t_get (ci := 4) (lst := ft4 d 0) (C := RX4) (F := TX4) (N := 5) hx hb hts uX4 hown hkb hH t_a0 (hO.no t_a0 (by decide)) (fun _ h9 => h9) rfl rfl 0 (by decide) rfl kw_211 (fun _ h9 => h9) dX4_readGuide_97 (fun v9 h9 => ?_)
          obtain ⟨v97, rfl, t_v97⟩ := h9
          have e9 := (hU7 _ _ t_v97).symm
          subst e9
          refine tk_v hH hS hA (tr_V (n := 0) (As := []) hx hb hml hown hts hkb hH (ox_mem hOXf (by intro a ha; simp only [List.map_cons, List.mem_cons] at ha ⊢; rcases ha with h | h | h | h <;> simp [h]) (by intro a ha; simp only [List.map_cons, List.mem_cons] at ha ⊢; rcases ha with h | h | h | h | h | h <;> simp [h])) hks hE hS hA (s_Tok_go l D cs kf T (d :: z9 :: z10 :: O) ((d, .inr (9, [.int z0, .int z1, .int z2, .int z3, .int z4, .int z5, .ref z6, .ref z7, .ref z8, .ref z9, .ref z10, .null, .int z12, .int z13])) :: (z9, .inl (cs.2.1, 5, .inl F60)) :: (z10, .inl (cs.2.1, 5, .inl F70)) :: X) tk y0 y1 n57_0_2 n57_0_3 n57_0_4 n57_0_5 n57_0_6 n57_0_7 ft t tn t_tk t_y0 (by omega) (by omega) (by omega) (by omega) (by omega) (by omega) (by omega) htb (by have q9 := (x_v570.1).b; omega) (hO.sub (by decide))) kw_583 kw_453 kw_454 kw_3 kw_455 (by decide +kernel) ⟨Nat.le_of_ble_eq_true rfl, Nat.le_of_ble_eq_true rfl⟩ (x_recv (ci := 7) hkb hH 0 rfl rfl) rfl rfl hl.1 (Nat.le_of_ble_eq_true rfl) dX4_readGuide_100 ⟨Nat.le_of_ble_eq_true rfl, Nat.le_of_ble_eq_true rfl⟩) (fun u H locs hz9 hH hS => ?_)
          obtain ⟨n100_0_2, n100_0_3, n100_0_4, n100_0_5, rfl, x_v1000, x_v1001, x_v1002⟩ := hz9
          have px100 := TSS.nx x_v570.1 x_v1001
          have hH : HT D cs A T (tk :: y0 :: d :: z9 :: z10 :: O) ((tk, .inr (7, [.ref y0, .int y1, .int n100_0_2, .int n100_0_3, .int n100_0_4, .int n100_0_5, .int n57_0_6, .int n57_0_7])) :: (y0, .inl (cs.1, 900, .inl ft)) :: (d, .inr (9, [.int z0, .int z1, .int z2, .int z3, .int z4, .int z5, .ref z6, .ref z7, .ref z8, .ref z9, .ref z10, .null, .int z12, .int z13])) :: (z9, .inl (cs.2.1, 5, .inl F60)) :: (z10, .inl (cs.2.1, 5, .inl F70)) :: X) H := hH
          refine W.widen (k := 0) (n := 0) (Nat.le_of_ble_eq_true rfl) (Nat.le_of_ble_eq_true rfl) ?_
          have g103 : GR t tn [(31, 0)] [(22, 99), (38, 0)] (RZ z0 z1 z3 z4 z2) (RZ z0 z1 z3 z4 z2) y2 n100_0_2 := g84.tr (GR_nx (fun _ => st_gW x_v900) px100)
          refine lv_aload_n hx hb dX4_readGuide_103 rfl (lv_at hl 1 rfl) ?_
          refine t_get (ci := 4) (lst := ft4 d 0) (C := RX4) (F := TX4) (N := 5) hx hb hts uX4 hown hkb hH t_a0 (hO.no t_a0 (by decide)) (fun _ h9 => h9) rfl rfl 2 (by decide) rfl kw_214 (fun _ h9 => h9) dX4_readGuide_104 (fun v9 h9 => ?_)
          have h9 : v9 = .ref d := h9
          subst h9
          refine x_getk (ci := 9) (C := RX9) (F := TX9) (N := 14) (v := .ref z10) hx hb hts uX9 hown hkb hH 2 rfl rfl 10 (by decide) rfl kw_146 (fun _ h9 => h9) dX4_readGuide_107 ?_
          refine lv_iload_n hx hb dX4_readGuide_110 rfl (lv_at hl 0 rfl) ?_
          refine lv_aload_n hx hb dX4_readGuide_111 rfl (lv_at hl 1 rfl) ?_
          refine t_get (ci := 4) (lst := ft4 d 0) (C := RX4) (F := TX4) (N := 5) hx hb hts uX4 hown hkb hH t_a0 (hO.no t_a0 (by decide)) (fun _ h9 => h9) rfl rfl 0 (by decide) rfl kw_211 (fun _ h9 => h9) dX4_readGuide_112 (fun v9 h9 => ?_)
          obtain ⟨v112, rfl, t_v112⟩ := h9
          have e9 := (hU7 _ _ t_v112).symm
          subst e9
          refine lv_bipush (v := 99) hx hb dX4_readGuide_115 (by decide) ?_
          have z9_99 : (99 : Int32).toInt = 99 := by decide
          refine tk_i hH hS hA (tr_V (n := 1) (As := [.int 99]) hx hb hml hown hts hkb hH (ox_mem hOXf (by intro a ha; simp only [List.map_cons, List.mem_cons] at ha ⊢; rcases ha with h | h | h | h <;> simp [h]) (by intro a ha; simp only [List.map_cons, List.mem_cons] at ha ⊢; rcases ha with h | h | h | h | h | h <;> simp [h])) hks hE hS hA (s_Tok_takeNumber l D cs kf T (d :: z9 :: z10 :: O) ((d, .inr (9, [.int z0, .int z1, .int z2, .int z3, .int z4, .int z5, .ref z6, .ref z7, .ref z8, .ref z9, .ref z10, .null, .int z12, .int z13])) :: (z9, .inl (cs.2.1, 5, .inl F60)) :: (z10, .inl (cs.2.1, 5, .inl F70)) :: X) tk (99) y0 y1 n100_0_2 n100_0_3 n100_0_4 n100_0_5 n57_0_6 n57_0_7 ft t tn t_tk (by decide) (by decide) t_y0 (by omega) (by omega) (by omega) (by omega) (by omega) (by omega) (by omega) htb x_v1000 (hO.sub (by decide))) kw_584 kw_585 kw_586 kw_3 kw_587 (by decide +kernel) ⟨Nat.le_of_ble_eq_true rfl, Nat.le_of_ble_eq_true rfl⟩ (x_recv (ci := 7) hkb hH 0 rfl rfl) rfl rfl hl.1 (Nat.le_of_ble_eq_true rfl) dX4_readGuide_117 ⟨Nat.le_of_ble_eq_true rfl, Nat.le_of_ble_eq_true rfl⟩) (fun v117 u H locs hz9 hH hS => ?_)
          obtain ⟨n117_0_2, n117_0_3, n117_0_4, n117_0_5, n117_0_6, n117_0_7, rfl, l_v117, u_v117, x_v1170, x_v1171, x_v1172, x_v1173⟩ := hz9
          have hH : HT D cs A T (tk :: y0 :: d :: z9 :: z10 :: O) ((tk, .inr (7, [.ref y0, .int y1, .int n117_0_2, .int n117_0_3, .int n117_0_4, .int n117_0_5, .int n117_0_6, .int n117_0_7])) :: (y0, .inl (cs.1, 900, .inl ft)) :: (d, .inr (9, [.int z0, .int z1, .int z2, .int z3, .int z4, .int z5, .ref z6, .ref z7, .ref z8, .ref z9, .ref z10, .null, .int z12, .int z13])) :: (z9, .inl (cs.2.1, 5, .inl F60)) :: (z10, .inl (cs.2.1, 5, .inl F70)) :: X) H := hH
          refine W.widen (k := 0) (n := 0) (Nat.le_of_ble_eq_true rfl) (Nat.le_of_ble_eq_true rfl) ?_
          refine xa_ist hx hb hkb hH hS 4 rfl (by omega) (by omega) dX4_readGuide_120 (fun H locs hH hS => ?_)
          have hH : HT D cs A T (tk :: y0 :: d :: z9 :: z10 :: O) ((tk, .inr (7, [.ref y0, .int y1, .int n117_0_2, .int n117_0_3, .int n117_0_4, .int n117_0_5, .int n117_0_6, .int n117_0_7])) :: (y0, .inl (cs.1, 900, .inl ft)) :: (d, .inr (9, [.int z0, .int z1, .int z2, .int z3, .int z4, .int z5, .ref z6, .ref z7, .ref z8, .ref z9, .ref z10, .null, .int z12, .int z13])) :: (z9, .inl (cs.2.1, 5, .inl F60)) :: (z10, .inl (cs.2.1, 5, .inl (upd F70 (z1.toInt.toNat) v117))) :: X) H := hH
          obtain ⟨F120, eF120⟩ : ∃ f9, f9 = upd F70 (z1.toInt.toNat) v117 := ⟨_, rfl⟩
          have hH : HT D cs A T (tk :: y0 :: d :: z9 :: z10 :: O) ((tk, .inr (7, [.ref y0, .int y1, .int n117_0_2, .int n117_0_3, .int n117_0_4, .int n117_0_5, .int n117_0_6, .int n117_0_7])) :: (y0, .inl (cs.1, 900, .inl ft)) :: (d, .inr (9, [.int z0, .int z1, .int z2, .int z3, .int z4, .int z5, .ref z6, .ref z7, .ref z8, .ref z9, .ref z10, .null, .int z12, .int z13])) :: (z9, .inl (cs.2.1, 5, .inl F60)) :: (z10, .inl (cs.2.1, 5, .inl F120)) :: X) H := eF120 ▸ hH
          refine lv_aload_n hx hb dX4_readGuide_121 rfl (lv_at hl 1 rfl) ?_
          refine t_get (ci := 4) (lst := ft4 d 0) (C := RX4) (F := TX4) (N := 5) hx hb hts uX4 hown hkb hH t_a0 (hO.no t_a0 (by decide)) (fun _ h9 => h9) rfl rfl 2 (by decide) rfl kw_214 (fun _ h9 => h9) dX4_readGuide_122 (fun v9 h9 => ?_)
          have h9 : v9 = .ref d := h9
          subst h9
          refine lv_dup hx hb dX4_readGuide_125 rfl ?_
          refine x_getk (ci := 9) (C := RX9) (F := TX9) (N := 14) (v := .int z1) hx hb hts uX9 hown hkb hH 2 rfl rfl 1 (by decide) rfl kw_111 (fun _ h9 => h9) dX4_readGuide_126 ?_
          refine lv_iconst (v := 1) hx hb dX4_readGuide_129 (by decide) ?_
          refine lv_iadd hx hb dX4_readGuide_130 ?_
          refine lv_topi (fun v130 ev130 => ?_)
          have tv130 : v130.toInt = z1.toInt + (1) := by rw [ev130]; exact add_i rfl (by decide : (1 : Int32).toInt = 1) (by omega) (by omega)
          refine x_putk (ci := 9) (v := .int v130) (ty := tyX9 1) (C := RX9) (F := TX9) (N := 14) hx hb hts uX9 tyX9 tyX9_ok nmX9 hown hkb hH hS 2 rfl rfl 1 (by decide) kw_111 (fun _ h9 => h9) rfl (tyX9_ok 1 (by decide)) rfl rfl (Nat.le_of_ble_eq_true rfl) dX4_readGuide_131 (fun H locs hH hS => ?_)
          have hH : HT D cs A T (tk :: y0 :: d :: z9 :: z10 :: O) ((tk, .inr (7, [.ref y0, .int y1, .int n117_0_2, .int n117_0_3, .int n117_0_4, .int n117_0_5, .int n117_0_6, .int n117_0_7])) :: (y0, .inl (cs.1, 900, .inl ft)) :: (d, .inr (9, [.int z0, .int v130, .int z2, .int z3, .int z4, .int z5, .ref z6, .ref z7, .ref z8, .ref z9, .ref z10, .null, .int z12, .int z13])) :: (z9, .inl (cs.2.1, 5, .inl F60)) :: (z10, .inl (cs.2.1, 5, .inl F120)) :: X) H := hH
          refine lv_aload_n hx hb dX4_readGuide_134 rfl (lv_at hl 1 rfl) ?_
          refine t_get (ci := 4) (lst := ft4 d 0) (C := RX4) (F := TX4) (N := 5) hx hb hts uX4 hown hkb hH t_a0 (hO.no t_a0 (by decide)) (fun _ h9 => h9) rfl rfl 2 (by decide) rfl kw_214 (fun _ h9 => h9) dX4_readGuide_135 (fun v9 h9 => ?_)
          have h9 : v9 = .ref d := h9
          subst h9
          refine x_getk (ci := 9) (C := RX9) (F := TX9) (N := 14) (v := .ref z9) hx hb hts uX9 hown hkb hH 2 rfl rfl 9 (by decide) rfl kw_143 (fun _ h9 => h9) dX4_readGuide_138 ?_
          refine lv_iload_n hx hb dX4_readGuide_141 rfl (lv_at hl 0 rfl) ?_
          refine xa_ild hx hb hkb hH 3 rfl (by omega) (by omega) dX4_readGuide_142 ?_
          refine lv_topi (fun v142 ev142 => ?_)
          have tv142 : v142 = F60 z1.toInt.toNat := ev142
          have e9 : v57 = v142 := (tv142.trans (by rw [eF60]; exact upd_eq)).symm
          subst e9
          refine lv_iconst (v := (-1)) hx hb dX4_readGuide_143 (by decide) ?_
          refine lv_icmp_eq (tgt := 164) hx hb dX4_readGuide_144 (by decide) (fun c144 => ?_) (fun c144 => ?_)
          · skip
            have tc144 := f_eq (k := -1) (by decide) c144
            exfalso; omega
          · skip
            have tc144 := f_ne (k := -1) (by decide) c144
            refine lv_aload_n hx hb dX4_readGuide_147 rfl (lv_at hl 1 rfl) ?_
            refine t_get (ci := 4) (lst := ft4 d 0) (C := RX4) (F := TX4) (N := 5) hx hb hts uX4 hown hkb hH t_a0 (hO.no t_a0 (by decide)) (fun _ h9 => h9) rfl rfl 2 (by decide) rfl kw_214 (fun _ h9 => h9) dX4_readGuide_148 (fun v9 h9 => ?_)
            have h9 : v9 = .ref d := h9
            subst h9
            refine x_getk (ci := 9) (C := RX9) (F := TX9) (N := 14) (v := .ref z10) hx hb hts uX9 hown hkb hH 2 rfl rfl 10 (by decide) rfl kw_146 (fun _ h9 => h9) dX4_readGuide_151 ?_
            refine lv_iload_n hx hb dX4_readGuide_154 rfl (lv_at hl 0 rfl) ?_
            refine xa_ild hx hb hkb hH 4 rfl (by omega) (by omega) dX4_readGuide_155 ?_
            refine lv_topi (fun v155 ev155 => ?_)
            have tv155 : v155 = F120 z1.toInt.toNat := ev155
            have e9 : v117 = v155 := (tv155.trans (by rw [eF120]; exact upd_eq)).symm
            subst e9
            refine lv_iconst (v := (-1)) hx hb dX4_readGuide_156 (by decide) ?_
            refine lv_icmp_eq (tgt := 164) hx hb dX4_readGuide_157 (by decide) (fun c157 => ?_) (fun c157 => ?_)
            · skip
              have tc157 := f_eq (k := -1) (by decide) c157
              clear x_v1170
              clear x_v1173
              replace x_v1171 := x_v1171.resolve_left (fun q9 => q9 tc157)
              refine lv_iconst (v := 0) hx hb dX4_readGuide_164 (by decide) ?_
              have hH : HT D cs A T (z9 :: tk :: y0 :: d :: z10 :: O) ((z9, .inl (cs.2.1, 5, .inl F60)) :: (tk, .inr (7, [.ref y0, .int y1, .int n117_0_2, .int n117_0_3, .int n117_0_4, .int n117_0_5, .int n117_0_6, .int n117_0_7])) :: (y0, .inl (cs.1, 900, .inl ft)) :: (d, .inr (9, [.int z0, .int v130, .int z2, .int z3, .int z4, .int z5, .ref z6, .ref z7, .ref z8, .ref z9, .ref z10, .null, .int z12, .int z13])) :: (z10, .inl (cs.2.1, 5, .inl F120)) :: X) H := HT.pm (Y := [(tk, .inr (7, [.ref y0, .int y1, .int n117_0_2, .int n117_0_3, .int n117_0_4, .int n117_0_5, .int n117_0_6, .int n117_0_7])), (y0, .inl (cs.1, 900, .inl ft)), (d, .inr (9, [.int z0, .int v130, .int z2, .int z3, .int z4, .int z5, .ref z6, .ref z7, .ref z8, .ref z9, .ref z10, .null, .int z12, .int z13])), (z9, .inl (cs.2.1, 5, .inl F60))]) (Y2 := [(z9, .inl (cs.2.1, 5, .inl F60)), (tk, .inr (7, [.ref y0, .int y1, .int n117_0_2, .int n117_0_3, .int n117_0_4, .int n117_0_5, .int n117_0_6, .int n117_0_7])), (y0, .inl (cs.1, 900, .inl ft)), (d, .inr (9, [.int z0, .int v130, .int z2, .int z3, .int z4, .int z5, .ref z6, .ref z7, .ref z8, .ref z9, .ref z10, .null, .int z12, .int z13]))]) (X := (z10, .inl (cs.2.1, 5, .inl F120)) :: X) (ym := 4) [3, 0, 1, 2] hH rfl rfl (fun k hk => match k, hk with | 0, _ => rfl | 1, _ => rfl | 2, _ => rfl | 3, _ => rfl | k + 4, h => absurd h (by show ¬ k + 4 < 4; omega)) (by decide) (by intro a ha; simp only [List.mem_cons] at ha ⊢; rcases ha with h | h | h | h | h; exact Or.inr (Or.inl h); exact Or.inr (Or.inr (Or.inl h)); exact Or.inr (Or.inr (Or.inr (Or.inl h))); exact Or.inl h; exact Or.inr (Or.inr (Or.inr (Or.inr (h)))))
              have hH : HT D cs A T (tk :: y0 :: d :: z10 :: O) ((tk, .inr (7, [.ref y0, .int y1, .int n117_0_2, .int n117_0_3, .int n117_0_4, .int n117_0_5, .int n117_0_6, .int n117_0_7])) :: (y0, .inl (cs.1, 900, .inl ft)) :: (d, .inr (9, [.int z0, .int v130, .int z2, .int z3, .int z4, .int z5, .ref z6, .ref z7, .ref z8, .ref z9, .ref z10, .null, .int z12, .int z13])) :: (z10, .inl (cs.2.1, 5, .inl F120)) :: X) H := HT.layA hH t_z9 (show sp cs T (1, 5, 0) _ from ⟨_, rfl, fun _ => cp_0 _⟩)
              have hH : HT D cs A T (z10 :: tk :: y0 :: d :: O) ((z10, .inl (cs.2.1, 5, .inl F120)) :: (tk, .inr (7, [.ref y0, .int y1, .int n117_0_2, .int n117_0_3, .int n117_0_4, .int n117_0_5, .int n117_0_6, .int n117_0_7])) :: (y0, .inl (cs.1, 900, .inl ft)) :: (d, .inr (9, [.int z0, .int v130, .int z2, .int z3, .int z4, .int z5, .ref z6, .ref z7, .ref z8, .ref z9, .ref z10, .null, .int z12, .int z13])) :: X) H := HT.pm (Y := [(tk, .inr (7, [.ref y0, .int y1, .int n117_0_2, .int n117_0_3, .int n117_0_4, .int n117_0_5, .int n117_0_6, .int n117_0_7])), (y0, .inl (cs.1, 900, .inl ft)), (d, .inr (9, [.int z0, .int v130, .int z2, .int z3, .int z4, .int z5, .ref z6, .ref z7, .ref z8, .ref z9, .ref z10, .null, .int z12, .int z13])), (z10, .inl (cs.2.1, 5, .inl F120))]) (Y2 := [(z10, .inl (cs.2.1, 5, .inl F120)), (tk, .inr (7, [.ref y0, .int y1, .int n117_0_2, .int n117_0_3, .int n117_0_4, .int n117_0_5, .int n117_0_6, .int n117_0_7])), (y0, .inl (cs.1, 900, .inl ft)), (d, .inr (9, [.int z0, .int v130, .int z2, .int z3, .int z4, .int z5, .ref z6, .ref z7, .ref z8, .ref z9, .ref z10, .null, .int z12, .int z13]))]) (X := X) (ym := 4) [3, 0, 1, 2] hH rfl rfl (fun k hk => match k, hk with | 0, _ => rfl | 1, _ => rfl | 2, _ => rfl | 3, _ => rfl | k + 4, h => absurd h (by show ¬ k + 4 < 4; omega)) (by decide) (by intro a ha; simp only [List.mem_cons] at ha ⊢; rcases ha with h | h | h | h | h; exact Or.inr (Or.inl h); exact Or.inr (Or.inr (Or.inl h)); exact Or.inr (Or.inr (Or.inr (Or.inl h))); exact Or.inl h; exact Or.inr (Or.inr (Or.inr (Or.inr (h)))))
              have hH : HT D cs A T (tk :: y0 :: d :: O) ((tk, .inr (7, [.ref y0, .int y1, .int n117_0_2, .int n117_0_3, .int n117_0_4, .int n117_0_5, .int n117_0_6, .int n117_0_7])) :: (y0, .inl (cs.1, 900, .inl ft)) :: (d, .inr (9, [.int z0, .int v130, .int z2, .int z3, .int z4, .int z5, .ref z6, .ref z7, .ref z8, .ref z9, .ref z10, .null, .int z12, .int z13])) :: X) H := HT.layA hH t_z10 (show sp cs T (1, 5, 9) _ from ⟨_, rfl, fun _ => cp_9 _⟩)
              have z9_0 : (0 : Int32).toInt = 0 := by decide
              exact te_z hx hb hr hlocks (by rfl) hH hS (⟨n117_0_2, n117_0_3, n117_0_4, n117_0_5, n117_0_6, n117_0_7, v130, rfl, by decide, by decide, Or.inl (by decide), (Or.inr (by first | (refine (BR_f (G := []) (fun _ => st_iGM hk1 ?_) x_v180 (by decide) x_v181 ?_).cons; show 5 ≤ z1.toInt.toNat; omega; omega) | (refine (g29.ap (G := [(20, 30)])).bd (BR.cons (BR_f (G := []) (fun _ => st_xN x_v351.1) x_v351.2.1 (by decide) x_v351.2.2 ?_)); omega) | (refine (g43.ap (G := [(20, 30)])).bd (BR.cons (BR_n (by decide) x_v571.1 x_v571.2.1 x_v571.2.2 ?_)); omega) | (refine (g103.ap (G := [(20, 30)])).bd (BR.cons (BR_n (by decide) x_v1171.1 x_v1171.2.1 x_v1171.2.2 ?_)); omega))), (by omega), (by omega)⟩) dX4_readGuide_165
            · skip
              have tc157 := f_ne (k := -1) (by decide) c157
              replace x_v1170 := x_v1170.resolve_left tc157
              replace x_v1173 := x_v1173.resolve_left tc157
              clear x_v1171
              refine lv_iconst (v := 1) hx hb dX4_readGuide_160 (by decide) ?_
              refine lv_goto (tgt := 165) hx hb dX4_readGuide_161 (by decide) ?_
              have hH : HT D cs A T (z9 :: tk :: y0 :: d :: z10 :: O) ((z9, .inl (cs.2.1, 5, .inl F60)) :: (tk, .inr (7, [.ref y0, .int y1, .int n117_0_2, .int n117_0_3, .int n117_0_4, .int n117_0_5, .int n117_0_6, .int n117_0_7])) :: (y0, .inl (cs.1, 900, .inl ft)) :: (d, .inr (9, [.int z0, .int v130, .int z2, .int z3, .int z4, .int z5, .ref z6, .ref z7, .ref z8, .ref z9, .ref z10, .null, .int z12, .int z13])) :: (z10, .inl (cs.2.1, 5, .inl F120)) :: X) H := HT.pm (Y := [(tk, .inr (7, [.ref y0, .int y1, .int n117_0_2, .int n117_0_3, .int n117_0_4, .int n117_0_5, .int n117_0_6, .int n117_0_7])), (y0, .inl (cs.1, 900, .inl ft)), (d, .inr (9, [.int z0, .int v130, .int z2, .int z3, .int z4, .int z5, .ref z6, .ref z7, .ref z8, .ref z9, .ref z10, .null, .int z12, .int z13])), (z9, .inl (cs.2.1, 5, .inl F60))]) (Y2 := [(z9, .inl (cs.2.1, 5, .inl F60)), (tk, .inr (7, [.ref y0, .int y1, .int n117_0_2, .int n117_0_3, .int n117_0_4, .int n117_0_5, .int n117_0_6, .int n117_0_7])), (y0, .inl (cs.1, 900, .inl ft)), (d, .inr (9, [.int z0, .int v130, .int z2, .int z3, .int z4, .int z5, .ref z6, .ref z7, .ref z8, .ref z9, .ref z10, .null, .int z12, .int z13]))]) (X := (z10, .inl (cs.2.1, 5, .inl F120)) :: X) (ym := 4) [3, 0, 1, 2] hH rfl rfl (fun k hk => match k, hk with | 0, _ => rfl | 1, _ => rfl | 2, _ => rfl | 3, _ => rfl | k + 4, h => absurd h (by show ¬ k + 4 < 4; omega)) (by decide) (by intro a ha; simp only [List.mem_cons] at ha ⊢; rcases ha with h | h | h | h | h; exact Or.inr (Or.inl h); exact Or.inr (Or.inr (Or.inl h)); exact Or.inr (Or.inr (Or.inr (Or.inl h))); exact Or.inl h; exact Or.inr (Or.inr (Or.inr (Or.inr (h)))))
              have hH : HT D cs A T (tk :: y0 :: d :: z10 :: O) ((tk, .inr (7, [.ref y0, .int y1, .int n117_0_2, .int n117_0_3, .int n117_0_4, .int n117_0_5, .int n117_0_6, .int n117_0_7])) :: (y0, .inl (cs.1, 900, .inl ft)) :: (d, .inr (9, [.int z0, .int v130, .int z2, .int z3, .int z4, .int z5, .ref z6, .ref z7, .ref z8, .ref z9, .ref z10, .null, .int z12, .int z13])) :: (z10, .inl (cs.2.1, 5, .inl F120)) :: X) H := HT.layA hH t_z9 (show sp cs T (1, 5, 0) _ from ⟨_, rfl, fun _ => cp_0 _⟩)
              have hH : HT D cs A T (z10 :: tk :: y0 :: d :: O) ((z10, .inl (cs.2.1, 5, .inl F120)) :: (tk, .inr (7, [.ref y0, .int y1, .int n117_0_2, .int n117_0_3, .int n117_0_4, .int n117_0_5, .int n117_0_6, .int n117_0_7])) :: (y0, .inl (cs.1, 900, .inl ft)) :: (d, .inr (9, [.int z0, .int v130, .int z2, .int z3, .int z4, .int z5, .ref z6, .ref z7, .ref z8, .ref z9, .ref z10, .null, .int z12, .int z13])) :: X) H := HT.pm (Y := [(tk, .inr (7, [.ref y0, .int y1, .int n117_0_2, .int n117_0_3, .int n117_0_4, .int n117_0_5, .int n117_0_6, .int n117_0_7])), (y0, .inl (cs.1, 900, .inl ft)), (d, .inr (9, [.int z0, .int v130, .int z2, .int z3, .int z4, .int z5, .ref z6, .ref z7, .ref z8, .ref z9, .ref z10, .null, .int z12, .int z13])), (z10, .inl (cs.2.1, 5, .inl F120))]) (Y2 := [(z10, .inl (cs.2.1, 5, .inl F120)), (tk, .inr (7, [.ref y0, .int y1, .int n117_0_2, .int n117_0_3, .int n117_0_4, .int n117_0_5, .int n117_0_6, .int n117_0_7])), (y0, .inl (cs.1, 900, .inl ft)), (d, .inr (9, [.int z0, .int v130, .int z2, .int z3, .int z4, .int z5, .ref z6, .ref z7, .ref z8, .ref z9, .ref z10, .null, .int z12, .int z13]))]) (X := X) (ym := 4) [3, 0, 1, 2] hH rfl rfl (fun k hk => match k, hk with | 0, _ => rfl | 1, _ => rfl | 2, _ => rfl | 3, _ => rfl | k + 4, h => absurd h (by show ¬ k + 4 < 4; omega)) (by decide) (by intro a ha; simp only [List.mem_cons] at ha ⊢; rcases ha with h | h | h | h | h; exact Or.inr (Or.inl h); exact Or.inr (Or.inr (Or.inl h)); exact Or.inr (Or.inr (Or.inr (Or.inl h))); exact Or.inl h; exact Or.inr (Or.inr (Or.inr (Or.inr (h)))))
              have hH : HT D cs A T (tk :: y0 :: d :: O) ((tk, .inr (7, [.ref y0, .int y1, .int n117_0_2, .int n117_0_3, .int n117_0_4, .int n117_0_5, .int n117_0_6, .int n117_0_7])) :: (y0, .inl (cs.1, 900, .inl ft)) :: (d, .inr (9, [.int z0, .int v130, .int z2, .int z3, .int z4, .int z5, .ref z6, .ref z7, .ref z8, .ref z9, .ref z10, .null, .int z12, .int z13])) :: X) H := HT.layA hH t_z10 (show sp cs T (1, 5, 9) _ from ⟨_, rfl, fun _ => cp_9 _⟩)
              have z9_1 : (1 : Int32).toInt = 1 := by decide
              exact te_z hx hb hr hlocks (by rfl) hH hS (⟨n117_0_2, n117_0_3, n117_0_4, n117_0_5, n117_0_6, n117_0_7, v130, rfl, by decide, by decide, (Or.inr ⟨x_v1170.1, by omega, by omega, by omega, (by first | (refine g121.tr (GR_gC ?_ tv130); omega) | (refine (g103.tr (GR.cons (GR_n (by decide) x_v1170.2.2.1 x_v1170.2.2.2.1 x_v1170.2.2.2.2.1 x_v1170.2.1))).tr (GR_gC ?_ tv130); omega))⟩), Or.inl (by decide), (by omega), (by omega)⟩) dX4_readGuide_165
    · skip
      have tc38 := f_eq (k := 0) (by decide) c38
      clear x_v350
      replace x_v351 := x_v351.resolve_left (fun q9 => q9 tc38)
      refine lv_iconst (v := 0) hx hb dX4_readGuide_41 (by decide) ?_
      have z9_0 : (0 : Int32).toInt = 0 := by decide
      exact te_z hx hb hr hlocks (by rfl) hH hS (⟨n35_0_2, n35_0_3, n35_0_4, n35_0_5, n35_0_6, n35_0_7, z1, rfl, by decide, by decide, Or.inl (by decide), (Or.inr (by first | (refine (BR_f (G := []) (fun _ => st_iGM hk1 ?_) x_v180 (by decide) x_v181 ?_).cons; show 5 ≤ z1.toInt.toNat; omega; omega) | (refine (g29.ap (G := [(20, 30)])).bd (BR.cons (BR_f (G := []) (fun _ => st_xN x_v351.1) x_v351.2.1 (by decide) x_v351.2.2 ?_)); omega) | (refine (g43.ap (G := [(20, 30)])).bd (BR.cons (BR_n (by decide) x_v571.1 x_v571.2.1 x_v571.2.2 ?_)); omega) | (refine (g103.ap (G := [(20, 30)])).bd (BR.cons (BR_n (by decide) x_v1171.1 x_v1171.2.1 x_v1171.2.2 ?_)); omega))), (by omega), (by omega)⟩) dX4_readGuide_42
  · skip
    have tc10 := f_nlt (k := 5) (by decide) c10
    refine lv_aload_n hx hb dX4_readGuide_13 rfl (lv_at hl 1 rfl) ?_
    refine t_get (ci := 4) (lst := ft4 d 0) (C := RX4) (F := TX4) (N := 5) hx hb hts uX4 hown hkb hH t_a0 (hO.no t_a0 (by decide)) (fun _ h9 => h9) rfl rfl 0 (by decide) rfl kw_211 (fun _ h9 => h9) dX4_readGuide_14 (fun v9 h9 => ?_)
    obtain ⟨v14, rfl, t_v14⟩ := h9
    have e9 := (hU7 _ _ t_v14).symm
    subst e9
    refine lv_iconst (v := 4) hx hb dX4_readGuide_17 (by decide) ?_
    have z9_4 : (4 : Int32).toInt = 4 := by decide
    refine tk_i hH hS hA (tr_V (n := 1) (As := [.int 4]) hx hb hml hown hts hkb hH (ox_map hOX rfl) hks hE hS hA (s_Tok_refuse l D cs kf T (d :: O) ((d, .inr (9, [.int z0, .int z1, .int z2, .int z3, .int z4, .int z5, .ref z6, .ref z7, .ref z8, .ref z9, .ref z10, .null, .int z12, .int z13])) :: X) tk (4) y0 y1 y2 y3 y4 y5 y6 y7 ft t tn t_tk t_y0 (by omega) (by omega) (by omega) (by omega) (by omega) (by omega) (by omega) htb hto (hO.sub (by decide))) kw_579 kw_580 kw_581 kw_3 kw_582 (by decide +kernel) ⟨Nat.le_of_ble_eq_true rfl, Nat.le_of_ble_eq_true rfl⟩ (x_recv (ci := 7) hkb hH 0 rfl rfl) rfl rfl hl.1 (Nat.le_of_ble_eq_true rfl) dX4_readGuide_18 ⟨Nat.le_of_ble_eq_true rfl, Nat.le_of_ble_eq_true rfl⟩) (fun v18 u H locs hz9 hH hS => ?_)
    obtain ⟨n18_0_6, n18_0_7, rfl, l_v18, u_v18, x_v180, x_v181⟩ := hz9
    have hH : HT D cs A T (tk :: y0 :: d :: O) ((tk, .inr (7, [.ref y0, .int y1, .int y2, .int y3, .int y4, .int y5, .int n18_0_6, .int n18_0_7])) :: (y0, .inl (cs.1, 900, .inl ft)) :: (d, .inr (9, [.int z0, .int z1, .int z2, .int z3, .int z4, .int z5, .ref z6, .ref z7, .ref z8, .ref z9, .ref z10, .null, .int z12, .int z13])) :: X) H := hH
    refine W.widen (k := 0) (n := 0) (Nat.le_of_ble_eq_true rfl) (Nat.le_of_ble_eq_true rfl) ?_
    exact te_z hx hb hr hlocks (nar01 (by omega) (by omega)) hH hS (⟨y2, y3, y4, y5, n18_0_6, n18_0_7, z1, rfl, by omega, by omega, (Or.inl (by omega)), (Or.inr (by first | (refine (BR_f (G := []) (fun _ => st_iGM hk1 ?_) x_v180 (by decide) x_v181 ?_).cons; show 5 ≤ z1.toInt.toNat; omega; omega) | (refine (g29.ap (G := [(20, 30)])).bd (BR.cons (BR_f (G := []) (fun _ => st_xN x_v351.1) x_v351.2.1 (by decide) x_v351.2.2 ?_)); omega) | (refine (g43.ap (G := [(20, 30)])).bd (BR.cons (BR_n (by decide) x_v571.1 x_v571.2.1 x_v571.2.2 ?_)); omega) | (refine (g103.ap (G := [(20, 30)])).bd (BR.cons (BR_n (by decide) x_v1171.1 x_v1171.2.1 x_v1171.2.2 ?_)); omega))), (by omega), (by omega)⟩) dX4_readGuide_21
theorem dX4_readHold_0 : decode cX4_readHold 0 = .ok (.aload_n 0, 1) := by decide +kernel
theorem dX4_readHold_1 : decode cX4_readHold 1 = .ok (.getfield 32, 3) := by decide +kernel
theorem dX4_readHold_4 : decode cX4_readHold 4 = .ok (.getfield 125, 3) := by decide +kernel
theorem dX4_readHold_7 : decode cX4_readHold 7 = .ok (.istore_n 1, 1) := by decide +kernel
theorem dX4_readHold_8 : decode cX4_readHold 8 = .ok (.iload_n 1, 1) := by decide +kernel
theorem dX4_readHold_9 : decode cX4_readHold 9 = .ok (.bipush 14, 2) := by decide +kernel
theorem dX4_readHold_11 : decode cX4_readHold 11 = .ok (.if_icmp .lt 12, 3) := by decide +kernel
theorem dX4_readHold_14 : decode cX4_readHold 14 = .ok (.aload_n 0, 1) := by decide +kernel
theorem dX4_readHold_15 : decode cX4_readHold 15 = .ok (.getfield 12, 3) := by decide +kernel
theorem dX4_readHold_18 : decode cX4_readHold 18 = .ok (.iconst 4, 1) := by decide +kernel
theorem dX4_readHold_19 : decode cX4_readHold 19 = .ok (.invokevirtual 121, 3) := by decide +kernel
theorem dX4_readHold_22 : decode cX4_readHold 22 = .ok (.ireturn, 1) := by decide +kernel
theorem dX4_readHold_23 : decode cX4_readHold 23 = .ok (.aload_n 0, 1) := by decide +kernel
theorem dX4_readHold_24 : decode cX4_readHold 24 = .ok (.getfield 12, 3) := by decide +kernel
theorem dX4_readHold_27 : decode cX4_readHold 27 = .ok (.invokevirtual 97, 3) := by decide +kernel
theorem dX4_readHold_30 : decode cX4_readHold 30 = .ok (.aload_n 0, 1) := by decide +kernel
theorem dX4_readHold_31 : decode cX4_readHold 31 = .ok (.getfield 12, 3) := by decide +kernel
theorem dX4_readHold_34 : decode cX4_readHold 34 = .ok (.bipush 99, 2) := by decide +kernel
theorem dX4_readHold_36 : decode cX4_readHold 36 = .ok (.invokevirtual 115, 3) := by decide +kernel
theorem dX4_readHold_39 : decode cX4_readHold 39 = .ok (.istore_n 2, 1) := by decide +kernel
theorem dX4_readHold_40 : decode cX4_readHold 40 = .ok (.iload_n 2, 1) := by decide +kernel
theorem dX4_readHold_41 : decode cX4_readHold 41 = .ok (.iconst (-1), 1) := by decide +kernel
theorem dX4_readHold_42 : decode cX4_readHold 42 = .ok (.if_icmp .ne 5, 3) := by decide +kernel
theorem dX4_readHold_45 : decode cX4_readHold 45 = .ok (.iconst 0, 1) := by decide +kernel
theorem dX4_readHold_46 : decode cX4_readHold 46 = .ok (.ireturn, 1) := by decide +kernel
theorem dX4_readHold_47 : decode cX4_readHold 47 = .ok (.aload_n 0, 1) := by decide +kernel
theorem dX4_readHold_48 : decode cX4_readHold 48 = .ok (.getfield 12, 3) := by decide +kernel
theorem dX4_readHold_51 : decode cX4_readHold 51 = .ok (.bipush 99, 2) := by decide +kernel
theorem dX4_readHold_53 : decode cX4_readHold 53 = .ok (.invokevirtual 115, 3) := by decide +kernel
theorem dX4_readHold_56 : decode cX4_readHold 56 = .ok (.istore_n 3, 1) := by decide +kernel
theorem dX4_readHold_57 : decode cX4_readHold 57 = .ok (.iload_n 3, 1) := by decide +kernel
theorem dX4_readHold_58 : decode cX4_readHold 58 = .ok (.iconst (-1), 1) := by decide +kernel
theorem dX4_readHold_59 : decode cX4_readHold 59 = .ok (.if_icmp .ne 5, 3) := by decide +kernel
theorem dX4_readHold_62 : decode cX4_readHold 62 = .ok (.iconst 0, 1) := by decide +kernel
theorem dX4_readHold_63 : decode cX4_readHold 63 = .ok (.ireturn, 1) := by decide +kernel
theorem dX4_readHold_64 : decode cX4_readHold 64 = .ok (.aload_n 0, 1) := by decide +kernel
theorem dX4_readHold_65 : decode cX4_readHold 65 = .ok (.getfield 32, 3) := by decide +kernel
theorem dX4_readHold_68 : decode cX4_readHold 68 = .ok (.getfield 128, 3) := by decide +kernel
theorem dX4_readHold_71 : decode cX4_readHold 71 = .ok (.iload_n 1, 1) := by decide +kernel
theorem dX4_readHold_72 : decode cX4_readHold 72 = .ok (.iload_n 2, 1) := by decide +kernel
theorem dX4_readHold_73 : decode cX4_readHold 73 = .ok (.iastore, 1) := by decide +kernel
theorem dX4_readHold_74 : decode cX4_readHold 74 = .ok (.aload_n 0, 1) := by decide +kernel
theorem dX4_readHold_75 : decode cX4_readHold 75 = .ok (.getfield 32, 3) := by decide +kernel
theorem dX4_readHold_78 : decode cX4_readHold 78 = .ok (.getfield 132, 3) := by decide +kernel
theorem dX4_readHold_81 : decode cX4_readHold 81 = .ok (.iload_n 1, 1) := by decide +kernel
theorem dX4_readHold_82 : decode cX4_readHold 82 = .ok (.iload_n 3, 1) := by decide +kernel
theorem dX4_readHold_83 : decode cX4_readHold 83 = .ok (.iastore, 1) := by decide +kernel
theorem dX4_readHold_84 : decode cX4_readHold 84 = .ok (.aload_n 0, 1) := by decide +kernel
theorem dX4_readHold_85 : decode cX4_readHold 85 = .ok (.getfield 32, 3) := by decide +kernel
theorem dX4_readHold_88 : decode cX4_readHold 88 = .ok (.getfield 135, 3) := by decide +kernel
theorem dX4_readHold_91 : decode cX4_readHold 91 = .ok (.iload_n 1, 1) := by decide +kernel
theorem dX4_readHold_92 : decode cX4_readHold 92 = .ok (.iconst 0, 1) := by decide +kernel
theorem dX4_readHold_93 : decode cX4_readHold 93 = .ok (.iastore, 1) := by decide +kernel
theorem dX4_readHold_94 : decode cX4_readHold 94 = .ok (.aload_n 0, 1) := by decide +kernel
theorem dX4_readHold_95 : decode cX4_readHold 95 = .ok (.getfield 32, 3) := by decide +kernel
theorem dX4_readHold_98 : decode cX4_readHold 98 = .ok (.dup, 1) := by decide +kernel
theorem dX4_readHold_99 : decode cX4_readHold 99 = .ok (.getfield 125, 3) := by decide +kernel
theorem dX4_readHold_102 : decode cX4_readHold 102 = .ok (.iconst 1, 1) := by decide +kernel
theorem dX4_readHold_103 : decode cX4_readHold 103 = .ok (.iadd, 1) := by decide +kernel
theorem dX4_readHold_104 : decode cX4_readHold 104 = .ok (.putfield 125, 3) := by decide +kernel
theorem dX4_readHold_107 : decode cX4_readHold 107 = .ok (.iconst 0, 1) := by decide +kernel
theorem dX4_readHold_108 : decode cX4_readHold 108 = .ok (.istore 4, 2) := by decide +kernel
theorem dX4_readHold_110 : decode cX4_readHold 110 = .ok (.iload 4, 2) := by decide +kernel
theorem dX4_readHold_112 : decode cX4_readHold 112 = .ok (.sipush 900, 3) := by decide +kernel
theorem dX4_readHold_115 : decode cX4_readHold 115 = .ok (.if_icmp .ge 30, 3) := by decide +kernel
theorem dX4_readHold_118 : decode cX4_readHold 118 = .ok (.aload_n 0, 1) := by decide +kernel
theorem dX4_readHold_119 : decode cX4_readHold 119 = .ok (.getfield 12, 3) := by decide +kernel
theorem dX4_readHold_122 : decode cX4_readHold 122 = .ok (.getfield 55, 3) := by decide +kernel
theorem dX4_readHold_125 : decode cX4_readHold 125 = .ok (.iconst 1, 1) := by decide +kernel
theorem dX4_readHold_126 : decode cX4_readHold 126 = .ok (.if_icmp .ne 19, 3) := by decide +kernel
theorem dX4_readHold_129 : decode cX4_readHold 129 = .ok (.aload_n 0, 1) := by decide +kernel
theorem dX4_readHold_130 : decode cX4_readHold 130 = .ok (.iload_n 1, 1) := by decide +kernel
theorem dX4_readHold_131 : decode cX4_readHold 131 = .ok (.invokevirtual 138, 3) := by decide +kernel
theorem dX4_readHold_134 : decode cX4_readHold 134 = .ok (.ifCond .ne 5, 3) := by decide +kernel
theorem dX4_readHold_137 : decode cX4_readHold 137 = .ok (.iconst 0, 1) := by decide +kernel
theorem dX4_readHold_138 : decode cX4_readHold 138 = .ok (.ireturn, 1) := by decide +kernel
theorem dX4_readHold_139 : decode cX4_readHold 139 = .ok (.iinc 4 1, 3) := by decide +kernel
theorem dX4_readHold_142 : decode cX4_readHold 142 = .ok (.goto (-32), 3) := by decide +kernel
theorem dX4_readHold_145 : decode cX4_readHold 145 = .ok (.iconst 1, 1) := by decide +kernel
theorem dX4_readHold_146 : decode cX4_readHold 146 = .ok (.ireturn, 1) := by decide +kernel
theorem kw_2 : Cond.initialized "FootholdWall$Reader" ∈ gw := gw_of (tb_of 2 (by decide +kernel)) (by decide +kernel)
theorem kw_49 : Cond.fieldLink "FootholdWall$Reader" 55 "FootholdWall$Tokens" "kind" "I" ∈ gw := gw_of (tb_of 49 (by decide +kernel)) (by decide +kernel)
theorem kw_133 : Cond.fieldLink "FootholdWall$Reader" 128 "FootholdWall$Wall" "x" "[I" ∈ gw := gw_of (tb_of 133 (by decide +kernel)) (by decide +kernel)
theorem kw_136 : Cond.fieldLink "FootholdWall$Reader" 132 "FootholdWall$Wall" "y" "[I" ∈ gw := gw_of (tb_of 136 (by decide +kernel)) (by decide +kernel)
theorem kw_589 : Cond.methodLink "FootholdWall$Reader" 138 yX4_readFlag ∈ gw := gw_of (tb_of 589 (by decide +kernel)) (by decide +kernel)
theorem kw_591 : Cond.instanceMethod yX4_readFlag ∈ gw := gw_of (tb_of 591 (by decide +kernel)) (by decide +kernel)
theorem kw_592 : Cond.code yX4_readFlag cX4_readFlag 3 (some (.boolean)) ∈ gw := gw_of (tb_of 592 (by decide +kernel)) (by decide +kernel)
theorem ks_3 : Cond.selects RX4 yX4_readFlag yX4_readFlag ∈ gw := gw_of (pv_of 3 (by decide +kernel)) (by decide +kernel)
set_option maxHeartbeats 4000000 in
set_option maxRecDepth 100000 in
theorem s_RD_readHold (l : Launch) (D : va_G) (cs : CS) (kf : KF) (T : TF) (O : List Nat) (X : va_W) (a0 d : Nat) (y0 : Nat) (y1 : Int32) (y2 : Int32) (y3 : Int32) (y4 : Int32) (y5 : Int32) (y6 : Int32) (y7 : Int32) (ft : Nat → Int32) (z0 : Int32) (z1 : Int32) (z2 : Int32) (z3 : Int32) (z4 : Int32) (z5 : Int32) (z6 : Nat) (z7 : Nat) (z8 : Nat) (z9 : Nat) (z10 : Nat) (z12 : Int32) (z13 : Int32) (t : Tp) (tn : Nat) (tk : Nat) (t_a0 : T a0 = some (14, d, 0)) (t_d : T d = some (19, 100, 0)) (t_y0 : T y0 = some (0, 900, 0)) (l_y1 : 0 ≤ y1.toInt) (u_y1 : y1.toInt ≤ 900) (l_y2 : 0 ≤ y2.toInt) (u_y2 : y2.toInt ≤ 900) (l_y3 : 0 ≤ y3.toInt) (u_y3 : y3.toInt ≤ 900) (l_z0 : 0 ≤ z0.toInt) (u_z0 : z0.toInt ≤ 14) (l_z1 : 0 ≤ z1.toInt) (u_z1 : z1.toInt ≤ 5) (l_z3 : 0 ≤ z3.toInt) (u_z3 : z3.toInt ≤ 16383) (l_z4 : 0 ≤ z4.toInt) (u_z4 : z4.toInt ≤ 16383) (l_z5 : 0 ≤ z5.toInt) (u_z5 : z5.toInt ≤ 16383) (t_z6 : T z6 = some (1, 14, 0)) (t_z7 : T z7 = some (1, 14, 0)) (t_z8 : T z8 = some (1, 14, 0)) (t_z9 : T z9 = some (1, 5, 0)) (t_z10 : T z10 = some (1, 5, 9)) (l_z12 : 0 ≤ z12.toInt) (u_z12 : z12.toInt ≤ 1) (l_z13 : 0 ≤ z13.toInt) (u_z13 : z13.toInt ≤ 1) (hn : y1.toInt = (tn : Int)) (htb : TB ft t) (hto : TSS t tn y2 y3 y4 y5) (t_tk : T tk = some (17, 0, 0)) (hU7 : ∀ (b : Nat) (q : Nat), T b = some (17, 0, q) → b = tk) (hz : y6.toInt = 0) (hk0 : kd t tn y2.toInt.toNat = 0) (hO : okO T (tk :: y0 :: d :: O) [1, 14]) : TK l D cs kf yX4_readHold cX4_readHold 5 (some (.boolean)) { frames := 7, cells := 0, slots := 0, locals := 155 } [.ref a0] T (tk :: y0 :: d :: O) ((tk, .inr (7, [.ref y0, .int y1, .int y2, .int y3, .int y4, .int y5, .int y6, .int y7])) :: (y0, .inl (cs.1, 900, .inl ft)) :: (d, .inr (9, [.int z0, .int z1, .int z2, .int z3, .int z4, .int z5, .ref z6, .ref z7, .ref z8, .ref z9, .ref z10, .null, .int z12, .int z13])) :: X) (Ti D cs (fun r u => ∃ (n0_2 : Int32) (n0_3 : Int32) (n0_4 : Int32) (n0_5 : Int32) (n0_6 : Int32) (n0_7 : Int32) (n2_0 : Int32) (n2_3 : Int32) (n2_4 : Int32) (n2_5 : Int32), u = (T, tk :: y0 :: d :: O, (tk, .inr (7, [.ref y0, .int y1, .int n0_2, .int n0_3, .int n0_4, .int n0_5, .int n0_6, .int n0_7])) :: (y0, .inl (cs.1, 900, .inl ft)) :: (d, .inr (9, [.int n2_0, .int z1, .int z2, .int n2_3, .int n2_4, .int n2_5, .ref z6, .ref z7, .ref z8, .ref z9, .ref z10, .null, .int z12, .int z13])) :: X) ∧ 0 ≤ r.toInt ∧ r.toInt ≤ 1 ∧ (r.toInt = 0 ∨ (TSS t tn n0_2 n0_3 n0_4 n0_5 ∧ n0_6.toInt = 0 ∧ n0_7.toInt = y7.toInt ∧ y2.toInt + 1 ≤ n0_2.toInt ∧ GR t tn [(31, 0)] [] (RZ z0 z1 z3 z4 z2) (RZ n2_0 z1 n2_3 n2_4 z2) y2 n0_2)) ∧ (r.toInt ≠ 0 ∨ BR t tn [(31, 0), (20, 30)] (RZ z0 z1 z3 z4 z2) y2 n0_6 n0_7) ∧ (y2.toInt ≤ n0_2.toInt ∧ n0_2.toInt ≤ n0_3.toInt ∧ n0_3.toInt ≤ y1.toInt) ∧ (0 ≤ n2_3.toInt ∧ n2_3.toInt ≤ 16383 ∧ 0 ≤ n2_4.toInt ∧ n2_4.toInt ≤ 16383 ∧ 0 ≤ n2_5.toInt ∧ n2_5.toInt ≤ 16383) ∧ (0 ≤ n2_0.toInt ∧ n2_0.toInt ≤ 14))) := by
  refine tk_of (by decide) (Nat.le_of_ble_eq_true rfl) (fun p e s m below meth c ls A H locs hx hb hr hml hown hts hlocks hnm hkb hH hS hA hOX hks hE hl => ?_)
  have hown : s.vm.findClass RX4 = some m.cls := hown
  have hl : lv_has ls 5 [(0, .ref a0)] := hl
  have hOXf := hOX
  have hb9 := hto.b
  have hc9 := hto.cs
  have hl9 := hto.lt (by omega)
  refine lv_aload_n hx hb dX4_readHold_0 rfl (lv_at hl 0 rfl) ?_
  refine t_get (ci := 4) (lst := ft4 d 0) (C := RX4) (F := TX4) (N := 5) hx hb hts uX4 hown hkb hH t_a0 (hO.no t_a0 (by decide)) (fun _ h9 => h9) rfl rfl 2 (by decide) rfl kw_214 (fun _ h9 => h9) dX4_readHold_1 (fun v9 h9 => ?_)
  have h9 : v9 = .ref d := h9
  subst h9
  refine x_getk (ci := 9) (C := RX9) (F := TX9) (N := 14) (v := .int z0) hx hb hts uX9 hown hkb hH 2 rfl rfl 0 (by decide) rfl kw_108 (fun _ h9 => h9) dX4_readHold_4 ?_
  refine lv_istore_n (lv' := [(1, .int z0), (0, .ref a0)]) hx hb dX4_readHold_7 rfl hl (by decide) rfl (fun ls hl => ?_)
  refine lv_iload_n hx hb dX4_readHold_8 rfl (lv_at hl 0 rfl) ?_
  refine lv_bipush (v := 14) hx hb dX4_readHold_9 (by decide) ?_
  refine lv_icmp_lt (tgt := 23) hx hb dX4_readHold_11 (by decide) (fun c11 => ?_) (fun c11 => ?_)
  · skip
    have tc11 := f_lt (k := 14) (by decide) c11
    refine lv_aload_n hx hb dX4_readHold_23 rfl (lv_at hl 1 rfl) ?_
    refine t_get (ci := 4) (lst := ft4 d 0) (C := RX4) (F := TX4) (N := 5) hx hb hts uX4 hown hkb hH t_a0 (hO.no t_a0 (by decide)) (fun _ h9 => h9) rfl rfl 0 (by decide) rfl kw_211 (fun _ h9 => h9) dX4_readHold_24 (fun v9 h9 => ?_)
    obtain ⟨v24, rfl, t_v24⟩ := h9
    have e9 := (hU7 _ _ t_v24).symm
    subst e9
    refine tk_v hH hS hA (tr_V (n := 0) (As := []) hx hb hml hown hts hkb hH (ox_map hOX rfl) hks hE hS hA (s_Tok_go l D cs kf T (d :: O) ((d, .inr (9, [.int z0, .int z1, .int z2, .int z3, .int z4, .int z5, .ref z6, .ref z7, .ref z8, .ref z9, .ref z10, .null, .int z12, .int z13])) :: X) tk y0 y1 y2 y3 y4 y5 y6 y7 ft t tn t_tk t_y0 (by omega) (by omega) (by omega) (by omega) (by omega) (by omega) (by omega) htb (by have q9 := (hto).b; omega) (hO.sub (by decide))) kw_583 kw_453 kw_454 kw_3 kw_455 (by decide +kernel) ⟨Nat.le_of_ble_eq_true rfl, Nat.le_of_ble_eq_true rfl⟩ (x_recv (ci := 7) hkb hH 0 rfl rfl) rfl rfl hl.1 (Nat.le_of_ble_eq_true rfl) dX4_readHold_27 ⟨Nat.le_of_ble_eq_true rfl, Nat.le_of_ble_eq_true rfl⟩) (fun u H locs hz9 hH hS => ?_)
    obtain ⟨n27_0_2, n27_0_3, n27_0_4, n27_0_5, rfl, x_v270, x_v271, x_v272⟩ := hz9
    have px27 := TSS.nx hto x_v271
    have hH : HT D cs A T (tk :: y0 :: d :: O) ((tk, .inr (7, [.ref y0, .int y1, .int n27_0_2, .int n27_0_3, .int n27_0_4, .int n27_0_5, .int y6, .int y7])) :: (y0, .inl (cs.1, 900, .inl ft)) :: (d, .inr (9, [.int z0, .int z1, .int z2, .int z3, .int z4, .int z5, .ref z6, .ref z7, .ref z8, .ref z9, .ref z10, .null, .int z12, .int z13])) :: X) H := hH
    refine W.widen (k := 0) (n := 0) (Nat.le_of_ble_eq_true rfl) (Nat.le_of_ble_eq_true rfl) ?_
    have g30 : GR t tn [(31, 0)] [(22, 99), (22, 99), (33, 0)] (RZ z0 z1 z3 z4 z2) (RZ z0 z1 z3 z4 z2) y2 n27_0_2 := GR_nx (fun _ => st_iH hk0 (by show ¬ 14 ≤ z0.toInt.toNat; omega)) px27
    refine lv_aload_n hx hb dX4_readHold_30 rfl (lv_at hl 1 rfl) ?_
    refine t_get (ci := 4) (lst := ft4 d 0) (C := RX4) (F := TX4) (N := 5) hx hb hts uX4 hown hkb hH t_a0 (hO.no t_a0 (by decide)) (fun _ h9 => h9) rfl rfl 0 (by decide) rfl kw_211 (fun _ h9 => h9) dX4_readHold_31 (fun v9 h9 => ?_)
    obtain ⟨v31, rfl, t_v31⟩ := h9
    have e9 := (hU7 _ _ t_v31).symm
    subst e9
    refine lv_bipush (v := 99) hx hb dX4_readHold_34 (by decide) ?_
    have z9_99 : (99 : Int32).toInt = 99 := by decide
    refine tk_i hH hS hA (tr_V (n := 1) (As := [.int 99]) hx hb hml hown hts hkb hH (ox_map hOX rfl) hks hE hS hA (s_Tok_takeNumber l D cs kf T (d :: O) ((d, .inr (9, [.int z0, .int z1, .int z2, .int z3, .int z4, .int z5, .ref z6, .ref z7, .ref z8, .ref z9, .ref z10, .null, .int z12, .int z13])) :: X) tk (99) y0 y1 n27_0_2 n27_0_3 n27_0_4 n27_0_5 y6 y7 ft t tn t_tk (by decide) (by decide) t_y0 (by omega) (by omega) (by omega) (by omega) (by omega) (by omega) (by omega) htb x_v270 (hO.sub (by decide))) kw_584 kw_585 kw_586 kw_3 kw_587 (by decide +kernel) ⟨Nat.le_of_ble_eq_true rfl, Nat.le_of_ble_eq_true rfl⟩ (x_recv (ci := 7) hkb hH 0 rfl rfl) rfl rfl hl.1 (Nat.le_of_ble_eq_true rfl) dX4_readHold_36 ⟨Nat.le_of_ble_eq_true rfl, Nat.le_of_ble_eq_true rfl⟩) (fun v36 u H locs hz9 hH hS => ?_)
    obtain ⟨n36_0_2, n36_0_3, n36_0_4, n36_0_5, n36_0_6, n36_0_7, rfl, l_v36, u_v36, x_v360, x_v361, x_v362, x_v363⟩ := hz9
    have hH : HT D cs A T (tk :: y0 :: d :: O) ((tk, .inr (7, [.ref y0, .int y1, .int n36_0_2, .int n36_0_3, .int n36_0_4, .int n36_0_5, .int n36_0_6, .int n36_0_7])) :: (y0, .inl (cs.1, 900, .inl ft)) :: (d, .inr (9, [.int z0, .int z1, .int z2, .int z3, .int z4, .int z5, .ref z6, .ref z7, .ref z8, .ref z9, .ref z10, .null, .int z12, .int z13])) :: X) H := hH
    refine W.widen (k := 0) (n := 0) (Nat.le_of_ble_eq_true rfl) (Nat.le_of_ble_eq_true rfl) ?_
    refine lv_istore_n (lv' := [(2, .int v36), (1, .int z0), (0, .ref a0)]) hx hb dX4_readHold_39 rfl hl (by decide) rfl (fun ls hl => ?_)
    refine lv_iload_n hx hb dX4_readHold_40 rfl (lv_at hl 0 rfl) ?_
    refine lv_iconst (v := (-1)) hx hb dX4_readHold_41 (by decide) ?_
    refine lv_icmp_ne (tgt := 47) hx hb dX4_readHold_42 (by decide) (fun c42 => ?_) (fun c42 => ?_)
    · skip
      have tc42 := f_ne (k := -1) (by decide) c42
      replace x_v360 := x_v360.resolve_left tc42
      replace x_v363 := x_v363.resolve_left tc42
      clear x_v361
      have g47 := g30.tr (GR.cons (GR_n (by decide) x_v360.2.2.1 x_v360.2.2.2.1 x_v360.2.2.2.2.1 x_v360.2.1))
      refine lv_aload_n hx hb dX4_readHold_47 rfl (lv_at hl 2 rfl) ?_
      refine t_get (ci := 4) (lst := ft4 d 0) (C := RX4) (F := TX4) (N := 5) hx hb hts uX4 hown hkb hH t_a0 (hO.no t_a0 (by decide)) (fun _ h9 => h9) rfl rfl 0 (by decide) rfl kw_211 (fun _ h9 => h9) dX4_readHold_48 (fun v9 h9 => ?_)
      obtain ⟨v48, rfl, t_v48⟩ := h9
      have e9 := (hU7 _ _ t_v48).symm
      subst e9
      refine lv_bipush (v := 99) hx hb dX4_readHold_51 (by decide) ?_
      have z9_99 : (99 : Int32).toInt = 99 := by decide
      refine tk_i hH hS hA (tr_V (n := 1) (As := [.int 99]) hx hb hml hown hts hkb hH (ox_map hOX rfl) hks hE hS hA (s_Tok_takeNumber l D cs kf T (d :: O) ((d, .inr (9, [.int z0, .int z1, .int z2, .int z3, .int z4, .int z5, .ref z6, .ref z7, .ref z8, .ref z9, .ref z10, .null, .int z12, .int z13])) :: X) tk (99) y0 y1 n36_0_2 n36_0_3 n36_0_4 n36_0_5 n36_0_6 n36_0_7 ft t tn t_tk (by decide) (by decide) t_y0 (by omega) (by omega) (by omega) (by omega) (by omega) (by omega) (by omega) htb x_v360.1 (hO.sub (by decide))) kw_584 kw_585 kw_586 kw_3 kw_587 (by decide +kernel) ⟨Nat.le_of_ble_eq_true rfl, Nat.le_of_ble_eq_true rfl⟩ (x_recv (ci := 7) hkb hH 0 rfl rfl) rfl rfl hl.1 (Nat.le_of_ble_eq_true rfl) dX4_readHold_53 ⟨Nat.le_of_ble_eq_true rfl, Nat.le_of_ble_eq_true rfl⟩) (fun v53 u H locs hz9 hH hS => ?_)
      obtain ⟨n53_0_2, n53_0_3, n53_0_4, n53_0_5, n53_0_6, n53_0_7, rfl, l_v53, u_v53, x_v530, x_v531, x_v532, x_v533⟩ := hz9
      have hH : HT D cs A T (tk :: y0 :: d :: O) ((tk, .inr (7, [.ref y0, .int y1, .int n53_0_2, .int n53_0_3, .int n53_0_4, .int n53_0_5, .int n53_0_6, .int n53_0_7])) :: (y0, .inl (cs.1, 900, .inl ft)) :: (d, .inr (9, [.int z0, .int z1, .int z2, .int z3, .int z4, .int z5, .ref z6, .ref z7, .ref z8, .ref z9, .ref z10, .null, .int z12, .int z13])) :: X) H := hH
      refine W.widen (k := 0) (n := 0) (Nat.le_of_ble_eq_true rfl) (Nat.le_of_ble_eq_true rfl) ?_
      refine lv_istore_n (lv' := [(3, .int v53), (2, .int v36), (1, .int z0), (0, .ref a0)]) hx hb dX4_readHold_56 rfl hl (by decide) rfl (fun ls hl => ?_)
      refine lv_iload_n hx hb dX4_readHold_57 rfl (lv_at hl 0 rfl) ?_
      refine lv_iconst (v := (-1)) hx hb dX4_readHold_58 (by decide) ?_
      refine lv_icmp_ne (tgt := 64) hx hb dX4_readHold_59 (by decide) (fun c59 => ?_) (fun c59 => ?_)
      · skip
        have tc59 := f_ne (k := -1) (by decide) c59
        replace x_v530 := x_v530.resolve_left tc59
        replace x_v533 := x_v533.resolve_left tc59
        clear x_v531
        have g64 := g47.tr (GR.cons (GR_n (by decide) x_v530.2.2.1 x_v530.2.2.2.1 x_v530.2.2.2.2.1 x_v530.2.1))
        refine lv_aload_n hx hb dX4_readHold_64 rfl (lv_at hl 3 rfl) ?_
        refine t_get (ci := 4) (lst := ft4 d 0) (C := RX4) (F := TX4) (N := 5) hx hb hts uX4 hown hkb hH t_a0 (hO.no t_a0 (by decide)) (fun _ h9 => h9) rfl rfl 2 (by decide) rfl kw_214 (fun _ h9 => h9) dX4_readHold_65 (fun v9 h9 => ?_)
        have h9 : v9 = .ref d := h9
        subst h9
        refine x_getk (ci := 9) (C := RX9) (F := TX9) (N := 14) (v := .ref z6) hx hb hts uX9 hown hkb hH 2 rfl rfl 6 (by decide) rfl kw_133 (fun _ h9 => h9) dX4_readHold_68 ?_
        refine lv_iload_n hx hb dX4_readHold_71 rfl (lv_at hl 2 rfl) ?_
        refine lv_iload_n hx hb dX4_readHold_72 rfl (lv_at hl 1 rfl) ?_
        refine t_ist hx hb hkb hH hS t_z6 (hO.no t_z6 (by decide)) (by omega) (by omega) (cp_0 _) dX4_readHold_73 (fun H locs hH hS => ?_)
        refine lv_aload_n hx hb dX4_readHold_74 rfl (lv_at hl 3 rfl) ?_
        refine t_get (ci := 4) (lst := ft4 d 0) (C := RX4) (F := TX4) (N := 5) hx hb hts uX4 hown hkb hH t_a0 (hO.no t_a0 (by decide)) (fun _ h9 => h9) rfl rfl 2 (by decide) rfl kw_214 (fun _ h9 => h9) dX4_readHold_75 (fun v9 h9 => ?_)
        have h9 : v9 = .ref d := h9
        subst h9
        refine x_getk (ci := 9) (C := RX9) (F := TX9) (N := 14) (v := .ref z7) hx hb hts uX9 hown hkb hH 2 rfl rfl 7 (by decide) rfl kw_136 (fun _ h9 => h9) dX4_readHold_78 ?_
        refine lv_iload_n hx hb dX4_readHold_81 rfl (lv_at hl 2 rfl) ?_
        refine lv_iload_n hx hb dX4_readHold_82 rfl (lv_at hl 0 rfl) ?_
        refine t_ist hx hb hkb hH hS t_z7 (hO.no t_z7 (by decide)) (by omega) (by omega) (cp_0 _) dX4_readHold_83 (fun H locs hH hS => ?_)
        refine lv_aload_n hx hb dX4_readHold_84 rfl (lv_at hl 3 rfl) ?_
        refine t_get (ci := 4) (lst := ft4 d 0) (C := RX4) (F := TX4) (N := 5) hx hb hts uX4 hown hkb hH t_a0 (hO.no t_a0 (by decide)) (fun _ h9 => h9) rfl rfl 2 (by decide) rfl kw_214 (fun _ h9 => h9) dX4_readHold_85 (fun v9 h9 => ?_)
        have h9 : v9 = .ref d := h9
        subst h9
        refine x_getk (ci := 9) (C := RX9) (F := TX9) (N := 14) (v := .ref z8) hx hb hts uX9 hown hkb hH 2 rfl rfl 8 (by decide) rfl kw_139 (fun _ h9 => h9) dX4_readHold_88 ?_
        refine lv_iload_n hx hb dX4_readHold_91 rfl (lv_at hl 2 rfl) ?_
        refine lv_iconst (v := 0) hx hb dX4_readHold_92 (by decide) ?_
        refine t_ist hx hb hkb hH hS t_z8 (hO.no t_z8 (by decide)) (by omega) (by omega) (cp_0 _) dX4_readHold_93 (fun H locs hH hS => ?_)
        refine lv_aload_n hx hb dX4_readHold_94 rfl (lv_at hl 3 rfl) ?_
        refine t_get (ci := 4) (lst := ft4 d 0) (C := RX4) (F := TX4) (N := 5) hx hb hts uX4 hown hkb hH t_a0 (hO.no t_a0 (by decide)) (fun _ h9 => h9) rfl rfl 2 (by decide) rfl kw_214 (fun _ h9 => h9) dX4_readHold_95 (fun v9 h9 => ?_)
        have h9 : v9 = .ref d := h9
        subst h9
        refine lv_dup hx hb dX4_readHold_98 rfl ?_
        refine x_getk (ci := 9) (C := RX9) (F := TX9) (N := 14) (v := .int z0) hx hb hts uX9 hown hkb hH 2 rfl rfl 0 (by decide) rfl kw_108 (fun _ h9 => h9) dX4_readHold_99 ?_
        refine lv_iconst (v := 1) hx hb dX4_readHold_102 (by decide) ?_
        refine lv_iadd hx hb dX4_readHold_103 ?_
        refine lv_topi (fun v103 ev103 => ?_)
        have tv103 : v103.toInt = z0.toInt + (1) := by rw [ev103]; exact add_i rfl (by decide : (1 : Int32).toInt = 1) (by omega) (by omega)
        refine x_putk (ci := 9) (v := .int v103) (ty := tyX9 0) (C := RX9) (F := TX9) (N := 14) hx hb hts uX9 tyX9 tyX9_ok nmX9 hown hkb hH hS 2 rfl rfl 0 (by decide) kw_108 (fun _ h9 => h9) rfl (tyX9_ok 0 (by decide)) rfl rfl (Nat.le_of_ble_eq_true rfl) dX4_readHold_104 (fun H locs hH hS => ?_)
        have hH : HT D cs A T (tk :: y0 :: d :: O) ((tk, .inr (7, [.ref y0, .int y1, .int n53_0_2, .int n53_0_3, .int n53_0_4, .int n53_0_5, .int n53_0_6, .int n53_0_7])) :: (y0, .inl (cs.1, 900, .inl ft)) :: (d, .inr (9, [.int v103, .int z1, .int z2, .int z3, .int z4, .int z5, .ref z6, .ref z7, .ref z8, .ref z9, .ref z10, .null, .int z12, .int z13])) :: X) H := hH
        refine lv_iconst (v := 0) hx hb dX4_readHold_107 (by decide) ?_
        have J110 : ∀ (n : Nat) (p110_4 : Int32) (f110_102 : Int32) (f110_103 : Int32) (f110_104 : Int32) (f110_105 : Int32) (f110_106 : Int32) (f110_107 : Int32) (f110_303 : Int32) (f110_304 : Int32) (f110_305 : Int32) (H : Heap) (locs : List Loc) (ls : Array Slot), (900 - p110_4.toInt).toNat = n → (0 ≤ p110_4.toInt) → (p110_4.toInt ≤ 900) → (0 ≤ f110_102.toInt) → (f110_102.toInt ≤ 900) → (0 ≤ f110_103.toInt) → (f110_103.toInt ≤ 900) → (0 ≤ f110_303.toInt) → (f110_303.toInt ≤ 16383) → (0 ≤ f110_304.toInt) → (f110_304.toInt ≤ 16383) → (0 ≤ f110_305.toInt) → (f110_305.toInt ≤ 16383) → (TSS t tn f110_102 f110_103 f110_104 f110_105) → (f110_106.toInt = 0 ∧ f110_107.toInt = y7.toInt) → (GR t tn [(31, 0)] [(33, 0)] (RZ z0 z1 z3 z4 z2) (RZ z0 z1 f110_303 f110_304 z2) y2 f110_102) → (y2.toInt + 1 ≤ f110_102.toInt ∧ f110_102.toInt ≤ f110_103.toInt ∧ f110_103.toInt ≤ y1.toInt ∧ p110_4.toInt ≤ f110_102.toInt) → HT D cs A T (tk :: y0 :: d :: O) ((tk, .inr (7, [.ref y0, .int y1, .int f110_102, .int f110_103, .int f110_104, .int f110_105, .int f110_106, .int f110_107])) :: (y0, .inl (cs.1, 900, .inl ft)) :: (d, .inr (9, [.int v103, .int z1, .int z2, .int f110_303, .int f110_304, .int f110_305, .ref z6, .ref z7, .ref z8, .ref z9, .ref z10, .null, .int z12, .int z13])) :: X) H → va_S A s.heap H locs → lv_has ls 5 [(4, .int p110_4), (1, .int z0), (0, .ref a0)] → W p l e { frames := 7, cells := 0, slots := 0, locals := 155 } s m [.ref a0].toArray below meth c H locs 0 0 (MQ below (Ti D cs (fun r u => ∃ (n0_2 : Int32) (n0_3 : Int32) (n0_4 : Int32) (n0_5 : Int32) (n0_6 : Int32) (n0_7 : Int32) (n2_0 : Int32) (n2_3 : Int32) (n2_4 : Int32) (n2_5 : Int32), u = (T, tk :: y0 :: d :: O, (tk, .inr (7, [.ref y0, .int y1, .int n0_2, .int n0_3, .int n0_4, .int n0_5, .int n0_6, .int n0_7])) :: (y0, .inl (cs.1, 900, .inl ft)) :: (d, .inr (9, [.int n2_0, .int z1, .int z2, .int n2_3, .int n2_4, .int n2_5, .ref z6, .ref z7, .ref z8, .ref z9, .ref z10, .null, .int z12, .int z13])) :: X) ∧ 0 ≤ r.toInt ∧ r.toInt ≤ 1 ∧ (r.toInt = 0 ∨ (TSS t tn n0_2 n0_3 n0_4 n0_5 ∧ n0_6.toInt = 0 ∧ n0_7.toInt = y7.toInt ∧ y2.toInt + 1 ≤ n0_2.toInt ∧ GR t tn [(31, 0)] [] (RZ z0 z1 z3 z4 z2) (RZ n2_0 z1 n2_3 n2_4 z2) y2 n0_2)) ∧ (r.toInt ≠ 0 ∨ BR t tn [(31, 0), (20, 30)] (RZ z0 z1 z3 z4 z2) y2 n0_6 n0_7) ∧ (y2.toInt ≤ n0_2.toInt ∧ n0_2.toInt ≤ n0_3.toInt ∧ n0_3.toInt ≤ y1.toInt) ∧ (0 ≤ n2_3.toInt ∧ n2_3.toInt ≤ 16383 ∧ 0 ≤ n2_4.toInt ∧ n2_4.toInt ≤ 16383 ∧ 0 ≤ n2_5.toInt ∧ n2_5.toInt ≤ 16383) ∧ (0 ≤ n2_0.toInt ∧ n2_0.toInt ≤ 14)) A) [.ref a0].toArray s 0 0 A) (F0 m 110 ls []) := by
          intro n
          induction n using Nat.strongRecOn with
          | _ n ih110 =>
            intro p110_4 f110_102 f110_103 f110_104 f110_105 f110_106 f110_107 f110_303 f110_304 f110_305 H locs ls hm110 l_p110_4 u_p110_4 l_f110_102 u_f110_102 l_f110_103 u_f110_103 l_f110_303 u_f110_303 l_f110_304 u_f110_304 l_f110_305 u_f110_305 iA iB iC iD hH hS hl
            have hb110 := iA.b
            have hc110 := iA.cs
            refine lv_iload hx hb dX4_readHold_110 (lv_at hl 0 rfl) ?_
            refine lv_sipush (v := 900) hx hb dX4_readHold_112 (by decide) ?_
            refine lv_icmp_ge (tgt := 145) hx hb dX4_readHold_115 (by decide) (fun c115 => ?_) (fun c115 => ?_)
            · skip
              have tc115 := f_ge (k := 900) (by decide) c115
              have hk9 : ¬ (9 ≤ kd t tn f110_102.toInt.toNat ∧ kd t tn f110_102.toInt.toNat ≤ 12) := by first | omega | (rw [kd_end (by omega)]; omega)
              refine lv_iconst (v := 1) hx hb dX4_readHold_145 (by decide) ?_
              have z9_1 : (1 : Int32).toInt = 1 := by decide
              exact te_z hx hb hr hlocks (by rfl) hH hS (⟨f110_102, f110_103, f110_104, f110_105, f110_106, f110_107, v103, f110_303, f110_304, f110_305, rfl, by decide, by decide, (Or.inr ⟨iA, by omega, by omega, by omega, (by first | (refine iC.tr (GR_fE hk9 ?_ tv103); omega))⟩), Or.inl (by decide), (by omega), (by omega), (by omega)⟩) dX4_readHold_146
            · skip
              have tc115 := f_nge (k := 900) (by decide) c115
              refine lv_aload_n hx hb dX4_readHold_118 rfl (lv_at hl 2 rfl) ?_
              refine t_get (ci := 4) (lst := ft4 d 0) (C := RX4) (F := TX4) (N := 5) hx hb hts uX4 hown hkb hH t_a0 (hO.no t_a0 (by decide)) (fun _ h9 => h9) rfl rfl 0 (by decide) rfl kw_211 (fun _ h9 => h9) dX4_readHold_119 (fun v9 h9 => ?_)
              obtain ⟨v119, rfl, t_v119⟩ := h9
              have e9 := (hU7 _ _ t_v119).symm
              subst e9
              refine x_getk (ci := 7) (C := RX7) (F := TX7) (N := 8) (v := .int f110_104) hx hb hts uX7 hown hkb hH 0 rfl rfl 4 (by decide) rfl kw_49 (fun _ h9 => h9) dX4_readHold_122 ?_
              refine lv_iconst (v := 1) hx hb dX4_readHold_125 (by decide) ?_
              refine lv_icmp_ne (tgt := 145) hx hb dX4_readHold_126 (by decide) (fun c126 => ?_) (fun c126 => ?_)
              · skip
                have tc126 := f_ne (k := 1) (by decide) c126
                have hk9 : ¬ (9 ≤ kd t tn f110_102.toInt.toNat ∧ kd t tn f110_102.toInt.toNat ≤ 12) := by first | omega | (rw [kd_end (by omega)]; omega)
                refine lv_iconst (v := 1) hx hb dX4_readHold_145 (by decide) ?_
                have z9_1 : (1 : Int32).toInt = 1 := by decide
                exact te_z hx hb hr hlocks (by rfl) hH hS (⟨f110_102, f110_103, f110_104, f110_105, f110_106, f110_107, v103, f110_303, f110_304, f110_305, rfl, by decide, by decide, (Or.inr ⟨iA, by omega, by omega, by omega, (by first | (refine iC.tr (GR_fE hk9 ?_ tv103); omega))⟩), Or.inl (by decide), (by omega), (by omega), (by omega)⟩) dX4_readHold_146
              · skip
                have tc126 := f_eq (k := 1) (by decide) c126
                refine lv_aload_n hx hb dX4_readHold_129 rfl (lv_at hl 2 rfl) ?_
                refine lv_iload_n hx hb dX4_readHold_130 rfl (lv_at hl 1 rfl) ?_
                refine tk_i hH hS hA (tr_V (n := 1) (As := [.int z0]) hx hb hml hown hts hkb hH (ox_map hOX rfl) hks hE hS hA (s_RD_readFlag l D cs kf T O X a0 d z0 y0 y1 f110_102 f110_103 f110_104 f110_105 f110_106 f110_107 ft v103 z1 z2 f110_303 f110_304 f110_305 z6 z7 z8 z9 z10 z12 z13 t tn tk t_a0 t_d (by omega) (by omega) t_y0 (by omega) (by omega) (by omega) (by omega) (by omega) (by omega) (by omega) (by omega) (by omega) (by omega) (by omega) (by omega) (by omega) (by omega) (by omega) (by omega) t_z6 t_z7 t_z8 t_z9 t_z10 (by omega) (by omega) (by omega) (by omega) (by omega) htb iA t_tk hU7 (by omega) (by omega) (hO.sub (by decide))) kw_589 kw_591 ks_3 kw_2 kw_592 (by decide +kernel) ⟨Nat.le_of_ble_eq_true rfl, Nat.le_of_ble_eq_true rfl⟩ (HT.recv (ci := 4) hkb hH t_a0 (hO.no t_a0 (by decide)) rfl) rfl rfl hl.1 (Nat.le_of_ble_eq_true rfl) dX4_readHold_131 ⟨Nat.le_of_ble_eq_true rfl, Nat.le_of_ble_eq_true rfl⟩) (fun v131 u H locs hz9 hH hS => ?_)
                obtain ⟨n131_0_2, n131_0_3, n131_0_4, n131_0_5, n131_0_6, n131_0_7, n131_2_3, n131_2_4, n131_2_5, rfl, l_v131, u_v131, x_v1310, x_v1311, x_v1312, x_v1313⟩ := hz9
                have hH : HT D cs A T (tk :: y0 :: d :: O) ((tk, .inr (7, [.ref y0, .int y1, .int n131_0_2, .int n131_0_3, .int n131_0_4, .int n131_0_5, .int n131_0_6, .int n131_0_7])) :: (y0, .inl (cs.1, 900, .inl ft)) :: (d, .inr (9, [.int v103, .int z1, .int z2, .int n131_2_3, .int n131_2_4, .int n131_2_5, .ref z6, .ref z7, .ref z8, .ref z9, .ref z10, .null, .int z12, .int z13])) :: X) H := hH
                refine W.widen (k := 0) (n := 0) (Nat.le_of_ble_eq_true rfl) (Nat.le_of_ble_eq_true rfl) ?_
                refine lv_if_ne (tgt := 139) hx hb dX4_readHold_134 (by decide) (fun c134 => ?_) (fun c134 => ?_)
                · skip
                  have tc134 := f_ne (k := 0) (by decide) c134
                  replace x_v1310 := x_v1310.resolve_left tc134
                  clear x_v1311
                  obtain ⟨v139, ev139⟩ : ∃ y : Int32, y = p110_4 + 1 := ⟨_, rfl⟩
                  have tv139 : v139.toInt = p110_4.toInt + (1) := by rw [ev139]; exact add_i rfl (by decide) (by omega) (by omega)
                  refine lv_iinc (v := v139) (lv' := [(4, .int v139), (1, .int z0), (0, .ref a0)]) hx hb dX4_readHold_139 hl (k := 0) rfl (by rw [ev139]; rfl) (by decide) rfl (fun ls hl => ?_)
                  refine lv_goto (tgt := 110) hx hb dX4_readHold_142 (by decide) ?_
                  exact ih110 _ (by omega) v139 n131_0_2 n131_0_3 n131_0_4 n131_0_5 n131_0_6 n131_0_7 n131_2_3 n131_2_4 n131_2_5 _ _ _ rfl (by omega) (by omega) (by omega) (by omega) (by omega) (by omega) (by omega) (by omega) (by omega) (by omega) (by omega) (by omega) x_v1310.1 (by omega) (by first | exact g64 | (refine iC.tr x_v1310.2.2.2.2)) (by omega) hH hS (lv_sub hl [0, 1, 2] rfl)
                · skip
                  have tc134 := f_eq (k := 0) (by decide) c134
                  clear x_v1310
                  replace x_v1311 := x_v1311.resolve_left (fun q9 => q9 tc134)
                  refine lv_iconst (v := 0) hx hb dX4_readHold_137 (by decide) ?_
                  have z9_0 : (0 : Int32).toInt = 0 := by decide
                  exact te_z hx hb hr hlocks (by rfl) hH hS (⟨n131_0_2, n131_0_3, n131_0_4, n131_0_5, n131_0_6, n131_0_7, v103, n131_2_3, n131_2_4, n131_2_5, rfl, by decide, by decide, Or.inl (by decide), (Or.inr (by first | (refine (BR_f (G := []) (fun _ => st_iHM hk0 ?_) x_v190 (by decide) x_v191 ?_).cons; show 14 ≤ z0.toInt.toNat; omega; omega) | (refine (g30.ap (G := [(20, 30)])).bd (BR.cons (BR_n (by decide) x_v361.1 x_v361.2.1 x_v361.2.2 ?_)); omega) | (refine (g47.ap (G := [(20, 30)])).bd (BR.cons (BR_n (by decide) x_v531.1 x_v531.2.1 x_v531.2.2 ?_)); omega) | (refine (iC.ap (G := [(20, 30)])).bd x_v1311))), (by omega), (by omega), (by omega)⟩) dX4_readHold_138
        refine lv_istore (lv' := [(4, .int 0), (3, .int v53), (2, .int v36), (1, .int z0), (0, .ref a0)]) hx hb dX4_readHold_108 hl (by decide) rfl (fun ls hl => ?_)
        have z_0 : (0 : Int32).toInt = 0 := by decide
        exact J110 _ 0 n53_0_2 n53_0_3 n53_0_4 n53_0_5 n53_0_6 n53_0_7 z3 z4 z5 _ _ _ rfl (by decide) (by decide) (by omega) (by omega) (by omega) (by omega) (by omega) (by omega) (by omega) (by omega) (by omega) (by omega) x_v530.1 (by omega) (by first | exact g64 | (refine iC.tr x_v1310.2.2.2.2)) (by omega) hH hS (lv_sub hl [0, 3, 4] rfl)
      · skip
        have tc59 := f_eq (k := -1) (by decide) c59
        clear x_v530
        clear x_v533
        replace x_v531 := x_v531.resolve_left (fun q9 => q9 tc59)
        refine lv_iconst (v := 0) hx hb dX4_readHold_62 (by decide) ?_
        have z9_0 : (0 : Int32).toInt = 0 := by decide
        exact te_z hx hb hr hlocks (by rfl) hH hS (⟨n53_0_2, n53_0_3, n53_0_4, n53_0_5, n53_0_6, n53_0_7, z0, z3, z4, z5, rfl, by decide, by decide, Or.inl (by decide), (Or.inr (by first | (refine (BR_f (G := []) (fun _ => st_iHM hk0 ?_) x_v190 (by decide) x_v191 ?_).cons; show 14 ≤ z0.toInt.toNat; omega; omega) | (refine (g30.ap (G := [(20, 30)])).bd (BR.cons (BR_n (by decide) x_v361.1 x_v361.2.1 x_v361.2.2 ?_)); omega) | (refine (g47.ap (G := [(20, 30)])).bd (BR.cons (BR_n (by decide) x_v531.1 x_v531.2.1 x_v531.2.2 ?_)); omega) | (refine (iC.ap (G := [(20, 30)])).bd x_v1311))), (by omega), (by omega), (by omega)⟩) dX4_readHold_63
    · skip
      have tc42 := f_eq (k := -1) (by decide) c42
      clear x_v360
      clear x_v363
      replace x_v361 := x_v361.resolve_left (fun q9 => q9 tc42)
      refine lv_iconst (v := 0) hx hb dX4_readHold_45 (by decide) ?_
      have z9_0 : (0 : Int32).toInt = 0 := by decide
      exact te_z hx hb hr hlocks (by rfl) hH hS (⟨n36_0_2, n36_0_3, n36_0_4, n36_0_5, n36_0_6, n36_0_7, z0, z3, z4, z5, rfl, by decide, by decide, Or.inl (by decide), (Or.inr (by first | (refine (BR_f (G := []) (fun _ => st_iHM hk0 ?_) x_v190 (by decide) x_v191 ?_).cons; show 14 ≤ z0.toInt.toNat; omega; omega) | (refine (g30.ap (G := [(20, 30)])).bd (BR.cons (BR_n (by decide) x_v361.1 x_v361.2.1 x_v361.2.2 ?_)); omega) | (refine (g47.ap (G := [(20, 30)])).bd (BR.cons (BR_n (by decide) x_v531.1 x_v531.2.1 x_v531.2.2 ?_)); omega) | (refine (iC.ap (G := [(20, 30)])).bd x_v1311))), (by omega), (by omega), (by omega)⟩) dX4_readHold_46
  · skip
    have tc11 := f_nlt (k := 14) (by decide) c11
    refine lv_aload_n hx hb dX4_readHold_14 rfl (lv_at hl 1 rfl) ?_
    refine t_get (ci := 4) (lst := ft4 d 0) (C := RX4) (F := TX4) (N := 5) hx hb hts uX4 hown hkb hH t_a0 (hO.no t_a0 (by decide)) (fun _ h9 => h9) rfl rfl 0 (by decide) rfl kw_211 (fun _ h9 => h9) dX4_readHold_15 (fun v9 h9 => ?_)
    obtain ⟨v15, rfl, t_v15⟩ := h9
    have e9 := (hU7 _ _ t_v15).symm
    subst e9
    refine lv_iconst (v := 4) hx hb dX4_readHold_18 (by decide) ?_
    have z9_4 : (4 : Int32).toInt = 4 := by decide
    refine tk_i hH hS hA (tr_V (n := 1) (As := [.int 4]) hx hb hml hown hts hkb hH (ox_map hOX rfl) hks hE hS hA (s_Tok_refuse l D cs kf T (d :: O) ((d, .inr (9, [.int z0, .int z1, .int z2, .int z3, .int z4, .int z5, .ref z6, .ref z7, .ref z8, .ref z9, .ref z10, .null, .int z12, .int z13])) :: X) tk (4) y0 y1 y2 y3 y4 y5 y6 y7 ft t tn t_tk t_y0 (by omega) (by omega) (by omega) (by omega) (by omega) (by omega) (by omega) htb hto (hO.sub (by decide))) kw_579 kw_580 kw_581 kw_3 kw_582 (by decide +kernel) ⟨Nat.le_of_ble_eq_true rfl, Nat.le_of_ble_eq_true rfl⟩ (x_recv (ci := 7) hkb hH 0 rfl rfl) rfl rfl hl.1 (Nat.le_of_ble_eq_true rfl) dX4_readHold_19 ⟨Nat.le_of_ble_eq_true rfl, Nat.le_of_ble_eq_true rfl⟩) (fun v19 u H locs hz9 hH hS => ?_)
    obtain ⟨n19_0_6, n19_0_7, rfl, l_v19, u_v19, x_v190, x_v191⟩ := hz9
    have hH : HT D cs A T (tk :: y0 :: d :: O) ((tk, .inr (7, [.ref y0, .int y1, .int y2, .int y3, .int y4, .int y5, .int n19_0_6, .int n19_0_7])) :: (y0, .inl (cs.1, 900, .inl ft)) :: (d, .inr (9, [.int z0, .int z1, .int z2, .int z3, .int z4, .int z5, .ref z6, .ref z7, .ref z8, .ref z9, .ref z10, .null, .int z12, .int z13])) :: X) H := hH
    refine W.widen (k := 0) (n := 0) (Nat.le_of_ble_eq_true rfl) (Nat.le_of_ble_eq_true rfl) ?_
    exact te_z hx hb hr hlocks (nar01 (by omega) (by omega)) hH hS (⟨y2, y3, y4, y5, n19_0_6, n19_0_7, z0, z3, z4, z5, rfl, by omega, by omega, (Or.inl (by omega)), (Or.inr (by first | (refine (BR_f (G := []) (fun _ => st_iHM hk0 ?_) x_v190 (by decide) x_v191 ?_).cons; show 14 ≤ z0.toInt.toNat; omega; omega) | (refine (g30.ap (G := [(20, 30)])).bd (BR.cons (BR_n (by decide) x_v361.1 x_v361.2.1 x_v361.2.2 ?_)); omega) | (refine (g47.ap (G := [(20, 30)])).bd (BR.cons (BR_n (by decide) x_v531.1 x_v531.2.1 x_v531.2.2 ?_)); omega) | (refine (iC.ap (G := [(20, 30)])).bd x_v1311))), (by omega), (by omega), (by omega)⟩) dX4_readHold_22
theorem dX4_readUsed_0 : decode cX4_readUsed 0 = .ok (.aload_n 0, 1) := by decide +kernel
theorem dX4_readUsed_1 : decode cX4_readUsed 1 = .ok (.getfield 12, 3) := by decide +kernel
theorem dX4_readUsed_4 : decode cX4_readUsed 4 = .ok (.invokevirtual 97, 3) := by decide +kernel
theorem dX4_readUsed_7 : decode cX4_readUsed 7 = .ok (.aload_n 0, 1) := by decide +kernel
theorem dX4_readUsed_8 : decode cX4_readUsed 8 = .ok (.getfield 12, 3) := by decide +kernel
theorem dX4_readUsed_11 : decode cX4_readUsed 11 = .ok (.getfield 55, 3) := by decide +kernel
theorem dX4_readUsed_14 : decode cX4_readUsed 14 = .ok (.iconst 2, 1) := by decide +kernel
theorem dX4_readUsed_15 : decode cX4_readUsed 15 = .ok (.if_icmp .ne 49, 3) := by decide +kernel
theorem dX4_readUsed_18 : decode cX4_readUsed 18 = .ok (.aload_n 0, 1) := by decide +kernel
theorem dX4_readUsed_19 : decode cX4_readUsed 19 = .ok (.getfield 12, 3) := by decide +kernel
theorem dX4_readUsed_22 : decode cX4_readUsed 22 = .ok (.getfield 171, 3) := by decide +kernel
theorem dX4_readUsed_25 : decode cX4_readUsed 25 = .ok (.aload_n 0, 1) := by decide +kernel
theorem dX4_readUsed_26 : decode cX4_readUsed 26 = .ok (.getfield 32, 3) := by decide +kernel
theorem dX4_readUsed_29 : decode cX4_readUsed 29 = .ok (.getfield 125, 3) := by decide +kernel
theorem dX4_readUsed_32 : decode cX4_readUsed 32 = .ok (.if_icmp .ge 32, 3) := by decide +kernel
theorem dX4_readUsed_35 : decode cX4_readUsed 35 = .ok (.aload_n 0, 1) := by decide +kernel
theorem dX4_readUsed_36 : decode cX4_readUsed 36 = .ok (.getfield 32, 3) := by decide +kernel
theorem dX4_readUsed_39 : decode cX4_readUsed 39 = .ok (.invokevirtual 174, 3) := by decide +kernel
theorem dX4_readUsed_42 : decode cX4_readUsed 42 = .ok (.aload_n 0, 1) := by decide +kernel
theorem dX4_readUsed_43 : decode cX4_readUsed 43 = .ok (.getfield 12, 3) := by decide +kernel
theorem dX4_readUsed_46 : decode cX4_readUsed 46 = .ok (.getfield 171, 3) := by decide +kernel
theorem dX4_readUsed_49 : decode cX4_readUsed 49 = .ok (.ishr, 1) := by decide +kernel
theorem dX4_readUsed_50 : decode cX4_readUsed 50 = .ok (.iconst 1, 1) := by decide +kernel
theorem dX4_readUsed_51 : decode cX4_readUsed 51 = .ok (.iand, 1) := by decide +kernel
theorem dX4_readUsed_52 : decode cX4_readUsed 52 = .ok (.ifCond .ne 12, 3) := by decide +kernel
theorem dX4_readUsed_55 : decode cX4_readUsed 55 = .ok (.aload_n 0, 1) := by decide +kernel
theorem dX4_readUsed_56 : decode cX4_readUsed 56 = .ok (.getfield 12, 3) := by decide +kernel
theorem dX4_readUsed_59 : decode cX4_readUsed 59 = .ok (.iconst 3, 1) := by decide +kernel
theorem dX4_readUsed_60 : decode cX4_readUsed 60 = .ok (.invokevirtual 121, 3) := by decide +kernel
theorem dX4_readUsed_63 : decode cX4_readUsed 63 = .ok (.ireturn, 1) := by decide +kernel
theorem dX4_readUsed_64 : decode cX4_readUsed 64 = .ok (.aload_n 0, 1) := by decide +kernel
theorem dX4_readUsed_65 : decode cX4_readUsed 65 = .ok (.getfield 12, 3) := by decide +kernel
theorem dX4_readUsed_68 : decode cX4_readUsed 68 = .ok (.aload_n 0, 1) := by decide +kernel
theorem dX4_readUsed_69 : decode cX4_readUsed 69 = .ok (.getfield 32, 3) := by decide +kernel
theorem dX4_readUsed_72 : decode cX4_readUsed 72 = .ok (.getfield 125, 3) := by decide +kernel
theorem dX4_readUsed_75 : decode cX4_readUsed 75 = .ok (.iconst 1, 1) := by decide +kernel
theorem dX4_readUsed_76 : decode cX4_readUsed 76 = .ok (.isub, 1) := by decide +kernel
theorem dX4_readUsed_77 : decode cX4_readUsed 77 = .ok (.invokevirtual 115, 3) := by decide +kernel
theorem dX4_readUsed_80 : decode cX4_readUsed 80 = .ok (.istore_n 1, 1) := by decide +kernel
theorem dX4_readUsed_81 : decode cX4_readUsed 81 = .ok (.iload_n 1, 1) := by decide +kernel
theorem dX4_readUsed_82 : decode cX4_readUsed 82 = .ok (.iconst (-1), 1) := by decide +kernel
theorem dX4_readUsed_83 : decode cX4_readUsed 83 = .ok (.if_icmp .eq 15, 3) := by decide +kernel
theorem dX4_readUsed_86 : decode cX4_readUsed 86 = .ok (.aload_n 0, 1) := by decide +kernel
theorem dX4_readUsed_87 : decode cX4_readUsed 87 = .ok (.getfield 12, 3) := by decide +kernel
theorem dX4_readUsed_90 : decode cX4_readUsed 90 = .ok (.ldc 178, 2) := by decide +kernel
theorem dX4_readUsed_92 : decode cX4_readUsed 92 = .ok (.invokevirtual 162, 3) := by decide +kernel
theorem dX4_readUsed_95 : decode cX4_readUsed 95 = .ok (.ifCond .ne 5, 3) := by decide +kernel
theorem dX4_readUsed_98 : decode cX4_readUsed 98 = .ok (.iconst 0, 1) := by decide +kernel
theorem dX4_readUsed_99 : decode cX4_readUsed 99 = .ok (.ireturn, 1) := by decide +kernel
theorem dX4_readUsed_100 : decode cX4_readUsed 100 = .ok (.aload_n 0, 1) := by decide +kernel
theorem dX4_readUsed_101 : decode cX4_readUsed 101 = .ok (.getfield 12, 3) := by decide +kernel
theorem dX4_readUsed_104 : decode cX4_readUsed 104 = .ok (.aload_n 0, 1) := by decide +kernel
theorem dX4_readUsed_105 : decode cX4_readUsed 105 = .ok (.getfield 32, 3) := by decide +kernel
theorem dX4_readUsed_108 : decode cX4_readUsed 108 = .ok (.getfield 157, 3) := by decide +kernel
theorem dX4_readUsed_111 : decode cX4_readUsed 111 = .ok (.iconst 1, 1) := by decide +kernel
theorem dX4_readUsed_112 : decode cX4_readUsed 112 = .ok (.isub, 1) := by decide +kernel
theorem dX4_readUsed_113 : decode cX4_readUsed 113 = .ok (.invokevirtual 115, 3) := by decide +kernel
theorem dX4_readUsed_116 : decode cX4_readUsed 116 = .ok (.istore_n 2, 1) := by decide +kernel
theorem dX4_readUsed_117 : decode cX4_readUsed 117 = .ok (.iload_n 2, 1) := by decide +kernel
theorem dX4_readUsed_118 : decode cX4_readUsed 118 = .ok (.iconst (-1), 1) := by decide +kernel
theorem dX4_readUsed_119 : decode cX4_readUsed 119 = .ok (.if_icmp .ne 5, 3) := by decide +kernel
theorem dX4_readUsed_122 : decode cX4_readUsed 122 = .ok (.iconst 0, 1) := by decide +kernel
theorem dX4_readUsed_123 : decode cX4_readUsed 123 = .ok (.ireturn, 1) := by decide +kernel
theorem dX4_readUsed_124 : decode cX4_readUsed 124 = .ok (.aload_n 0, 1) := by decide +kernel
theorem dX4_readUsed_125 : decode cX4_readUsed 125 = .ok (.getfield 43, 3) := by decide +kernel
theorem dX4_readUsed_128 : decode cX4_readUsed 128 = .ok (.iconst 1, 1) := by decide +kernel
theorem dX4_readUsed_129 : decode cX4_readUsed 129 = .ok (.iload_n 1, 1) := by decide +kernel
theorem dX4_readUsed_130 : decode cX4_readUsed 130 = .ok (.ishl, 1) := by decide +kernel
theorem dX4_readUsed_131 : decode cX4_readUsed 131 = .ok (.iload_n 2, 1) := by decide +kernel
theorem dX4_readUsed_132 : decode cX4_readUsed 132 = .ok (.invokevirtual 180, 3) := by decide +kernel
theorem dX4_readUsed_135 : decode cX4_readUsed 135 = .ok (.pop, 1) := by decide +kernel
theorem dX4_readUsed_136 : decode cX4_readUsed 136 = .ok (.iconst 1, 1) := by decide +kernel
theorem dX4_readUsed_137 : decode cX4_readUsed 137 = .ok (.ireturn, 1) := by decide +kernel
theorem kw_52 : Cond.fieldLink "FootholdWall$Reader" 171 "FootholdWall$Tokens" "value" "I" ∈ gw := gw_of (tb_of 52 (by decide +kernel)) (by decide +kernel)
theorem kw_682 : Cond.methodLink "FootholdWall$Reader" 174 yX9_middles ∈ gw := gw_of (tb_of 682 (by decide +kernel)) (by decide +kernel)
theorem kw_687 : Cond.methodLink "FootholdWall$Reader" 180 yX6_use ∈ gw := gw_of (tb_of 687 (by decide +kernel)) (by decide +kernel)
set_option maxHeartbeats 4000000 in
set_option maxRecDepth 100000 in
theorem s_Wall_middles3 (l : Launch) (D : va_G) (cs : CS) (kf : KF) (T : TF) (O : List Nat) (X : va_W) (a0 : Nat) (tl7 : List Value) (ft : Nat → Int32) (z0 : Int32) (z1 : Int32) (z2 : Int32) (z3 : Int32) (z4 : Int32) (z5 : Int32) (z6 : Nat) (z7 : Nat) (z8 : Nat) (z9 : Nat) (z10 : Nat) (z12 : Int32) (z13 : Int32) (tk yy : Nat) (t_a0 : T a0 = some (19, 100, 0)) (l_z0 : 0 ≤ z0.toInt) (u_z0 : z0.toInt ≤ 14) (l_z1 : 0 ≤ z1.toInt) (u_z1 : z1.toInt ≤ 5) (l_z3 : 0 ≤ z3.toInt) (u_z3 : z3.toInt ≤ 16383) (l_z4 : 0 ≤ z4.toInt) (u_z4 : z4.toInt ≤ 16383) (l_z5 : 0 ≤ z5.toInt) (u_z5 : z5.toInt ≤ 16383) (t_z6 : T z6 = some (1, 14, 0)) (t_z7 : T z7 = some (1, 14, 0)) (t_z8 : T z8 = some (1, 14, 0)) (t_z9 : T z9 = some (1, 5, 0)) (t_z10 : T z10 = some (1, 5, 9)) (l_z12 : 0 ≤ z12.toInt) (u_z12 : z12.toInt ≤ 1) (l_z13 : 0 ≤ z13.toInt) (u_z13 : z13.toInt ≤ 1) (hO : okO T (tk :: yy :: a0 :: O) []) : TK l D cs kf yX9_middles cX9_middles 1 (some (.int)) { frames := 0, cells := 0, slots := 0, locals := 0 } [.ref a0] T (tk :: yy :: a0 :: O) ((tk, .inr (7, tl7)) :: (yy, .inl (cs.1, 900, .inl ft)) :: (a0, .inr (9, [.int z0, .int z1, .int z2, .int z3, .int z4, .int z5, .ref z6, .ref z7, .ref z8, .ref z9, .ref z10, .null, .int z12, .int z13])) :: X) (Ti D cs (fun r u => u = (T, tk :: yy :: a0 :: O, (tk, .inr (7, tl7)) :: (yy, .inl (cs.1, 900, .inl ft)) :: (a0, .inr (9, [.int z0, .int z1, .int z2, .int z3, .int z4, .int z5, .ref z6, .ref z7, .ref z8, .ref z9, .ref z10, .null, .int z12, .int z13])) :: X) ∧ 0 ≤ r.toInt ∧ r.toInt ≤ 16383 ∧ (MID z0 z3 z4 r))) := by
  refine tk_of (by decide) (Nat.le_of_ble_eq_true rfl) (fun p e s m below meth c ls A H locs hx hb hr hml hown hts hlocks hnm hkb hH hS hA hOX hks hE hl => ?_)
  have hown : s.vm.findClass RX9 = some m.cls := hown
  have hl : lv_has ls 1 [(0, .ref a0)] := hl
  have hOXf := hOX
  refine lv_iconst (v := 1) hx hb dX9_middles_0 (by decide) ?_
  refine lv_aload_n hx hb dX9_middles_1 rfl (lv_at hl 0 rfl) ?_
  refine x_getk (ci := 9) (C := RX9) (F := TX9) (N := 14) (v := .int z0) hx hb hts uX9 hown hkb hH 2 rfl rfl 0 (by decide) rfl kw_106 (fun _ h9 => h9) dX9_middles_2 ?_
  refine lv_ishl hx hb dX9_middles_5 ?_
  refine lv_topi (fun v5 ev5 => ?_)
  have tv5 : 1 ≤ v5.toInt ∧ v5.toInt ≤ 16384 := by rw [ev5]; exact shl_b 14 (by decide) (by omega) (by omega)
  refine lv_iconst (v := 1) hx hb dX9_middles_6 (by decide) ?_
  refine lv_isub hx hb dX9_middles_7 ?_
  refine lv_topi (fun v7 ev7 => ?_)
  have tv7 : v7.toInt = v5.toInt - (1) := by rw [ev7]; exact sub_i rfl (by decide : (1 : Int32).toInt = 1) (by omega) (by omega)
  refine lv_aload_n hx hb dX9_middles_8 rfl (lv_at hl 0 rfl) ?_
  refine x_getk (ci := 9) (C := RX9) (F := TX9) (N := 14) (v := .int z3) hx hb hts uX9 hown hkb hH 2 rfl rfl 3 (by decide) rfl kw_116 (fun _ h9 => h9) dX9_middles_9 ?_
  refine lv_iconst (v := (-1)) hx hb dX9_middles_12 (by decide) ?_
  refine lv_ixor hx hb dX9_middles_13 ?_
  refine lv_topi (fun v13 ev13 => ?_)
  refine lv_iand hx hb dX9_middles_14 ?_
  refine lv_topi (fun v14 ev14 => ?_)
  have tv14 : 0 ≤ v14.toInt ∧ v14.toInt ≤ v7.toInt := by rw [ev14]; exact and_l (by omega)
  refine lv_aload_n hx hb dX9_middles_15 rfl (lv_at hl 0 rfl) ?_
  refine x_getk (ci := 9) (C := RX9) (F := TX9) (N := 14) (v := .int z4) hx hb hts uX9 hown hkb hH 2 rfl rfl 4 (by decide) rfl kw_123 (fun _ h9 => h9) dX9_middles_16 ?_
  refine lv_iconst (v := (-1)) hx hb dX9_middles_19 (by decide) ?_
  refine lv_ixor hx hb dX9_middles_20 ?_
  refine lv_topi (fun v20 ev20 => ?_)
  refine lv_iand hx hb dX9_middles_21 ?_
  refine lv_topi (fun v21 ev21 => ?_)
  have tv21 : 0 ≤ v21.toInt ∧ v21.toInt ≤ v14.toInt := by rw [ev21]; exact and_l (by omega)
  exact te_i hx hb hr hlocks hH hS (⟨rfl, by omega, by omega, (by unfold MID; rw [ev21, ev20, ev14, ev13, ev7, ev5])⟩) dX9_middles_22
set_option maxHeartbeats 4000000 in
set_option maxRecDepth 100000 in
theorem s_RD_readUsed (l : Launch) (D : va_G) (cs : CS) (kf : KF) (T : TF) (O : List Nat) (X : va_W) (a0 d : Nat) (y0 : Nat) (y1 : Int32) (y2 : Int32) (y3 : Int32) (y4 : Int32) (y5 : Int32) (y6 : Int32) (y7 : Int32) (ft : Nat → Int32) (z0 : Int32) (z1 : Int32) (z2 : Int32) (z3 : Int32) (z4 : Int32) (z5 : Int32) (z6 : Nat) (z7 : Nat) (z8 : Nat) (z9 : Nat) (z10 : Nat) (z12 : Int32) (z13 : Int32) (t : Tp) (tn : Nat) (tk : Nat) (t_a0 : T a0 = some (14, d, 0)) (t_d : T d = some (19, 100, 0)) (t_y0 : T y0 = some (0, 900, 0)) (l_y1 : 0 ≤ y1.toInt) (u_y1 : y1.toInt ≤ 900) (l_y2 : 0 ≤ y2.toInt) (u_y2 : y2.toInt ≤ 900) (l_y3 : 0 ≤ y3.toInt) (u_y3 : y3.toInt ≤ 900) (l_z0 : 0 ≤ z0.toInt) (u_z0 : z0.toInt ≤ 14) (l_z1 : 0 ≤ z1.toInt) (u_z1 : z1.toInt ≤ 5) (l_z3 : 0 ≤ z3.toInt) (u_z3 : z3.toInt ≤ 16383) (l_z4 : 0 ≤ z4.toInt) (u_z4 : z4.toInt ≤ 16383) (l_z5 : 0 ≤ z5.toInt) (u_z5 : z5.toInt ≤ 16383) (t_z6 : T z6 = some (1, 14, 0)) (t_z7 : T z7 = some (1, 14, 0)) (t_z8 : T z8 = some (1, 14, 0)) (t_z9 : T z9 = some (1, 5, 0)) (t_z10 : T z10 = some (1, 5, 9)) (l_z12 : 0 ≤ z12.toInt) (u_z12 : z12.toInt ≤ 1) (l_z13 : 0 ≤ z13.toInt) (u_z13 : z13.toInt ≤ 1) (hn : y1.toInt = (tn : Int)) (htb : TB ft t) (hto : TSS t tn y2 y3 y4 y5) (t_tk : T tk = some (17, 0, 0)) (hU7 : ∀ (b : Nat) (q : Nat), T b = some (17, 0, q) → b = tk) (hz : y6.toInt = 0) (hk5 : kd t tn y2.toInt.toNat = 5) (hO : okO T (tk :: y0 :: d :: O) [1, 14, 16]) : TK l D cs kf yX4_readUsed cX4_readUsed 3 (some (.boolean)) { frames := 6, cells := 0, slots := 0, locals := 133 } [.ref a0] T (tk :: y0 :: d :: O) ((tk, .inr (7, [.ref y0, .int y1, .int y2, .int y3, .int y4, .int y5, .int y6, .int y7])) :: (y0, .inl (cs.1, 900, .inl ft)) :: (d, .inr (9, [.int z0, .int z1, .int z2, .int z3, .int z4, .int z5, .ref z6, .ref z7, .ref z8, .ref z9, .ref z10, .null, .int z12, .int z13])) :: X) (Ti D cs (fun r u => ∃ (n0_2 : Int32) (n0_3 : Int32) (n0_4 : Int32) (n0_5 : Int32) (n0_6 : Int32) (n0_7 : Int32), u = (T, tk :: y0 :: d :: O, (tk, .inr (7, [.ref y0, .int y1, .int n0_2, .int n0_3, .int n0_4, .int n0_5, .int n0_6, .int n0_7])) :: (y0, .inl (cs.1, 900, .inl ft)) :: (d, .inr (9, [.int z0, .int z1, .int z2, .int z3, .int z4, .int z5, .ref z6, .ref z7, .ref z8, .ref z9, .ref z10, .null, .int z12, .int z13])) :: X) ∧ 0 ≤ r.toInt ∧ r.toInt ≤ 1 ∧ (r.toInt = 0 ∨ (TSS t tn n0_2 n0_3 n0_4 n0_5 ∧ n0_6.toInt = 0 ∧ n0_7.toInt = y7.toInt ∧ y2.toInt + 1 ≤ n0_2.toInt ∧ GR t tn [(31, 0)] [] (RZ z0 z1 z3 z4 z2) (RZ z0 z1 z3 z4 z2) y2 n0_2)) ∧ (r.toInt ≠ 0 ∨ BR t tn [(31, 0), (20, 30)] (RZ z0 z1 z3 z4 z2) y2 n0_6 n0_7) ∧ (y2.toInt ≤ n0_2.toInt ∧ n0_2.toInt ≤ n0_3.toInt ∧ n0_3.toInt ≤ y1.toInt))) := by
  refine tk_of (by decide) (Nat.le_of_ble_eq_true rfl) (fun p e s m below meth c ls A H locs hx hb hr hml hown hts hlocks hnm hkb hH hS hA hOX hks hE hl => ?_)
  have hown : s.vm.findClass RX4 = some m.cls := hown
  have hl : lv_has ls 3 [(0, .ref a0)] := hl
  have hOXf := hOX
  have hb9 := hto.b
  have hc9 := hto.cs
  have hl9 := hto.lt (by omega)
  refine lv_aload_n hx hb dX4_readUsed_0 rfl (lv_at hl 0 rfl) ?_
  refine t_get (ci := 4) (lst := ft4 d 0) (C := RX4) (F := TX4) (N := 5) hx hb hts uX4 hown hkb hH t_a0 (hO.no t_a0 (by decide)) (fun _ h9 => h9) rfl rfl 0 (by decide) rfl kw_211 (fun _ h9 => h9) dX4_readUsed_1 (fun v9 h9 => ?_)
  obtain ⟨v1, rfl, t_v1⟩ := h9
  have e9 := (hU7 _ _ t_v1).symm
  subst e9
  refine tk_v hH hS hA (tr_V (n := 0) (As := []) hx hb hml hown hts hkb hH (ox_map hOX rfl) hks hE hS hA (s_Tok_go l D cs kf T (d :: O) ((d, .inr (9, [.int z0, .int z1, .int z2, .int z3, .int z4, .int z5, .ref z6, .ref z7, .ref z8, .ref z9, .ref z10, .null, .int z12, .int z13])) :: X) tk y0 y1 y2 y3 y4 y5 y6 y7 ft t tn t_tk t_y0 (by omega) (by omega) (by omega) (by omega) (by omega) (by omega) (by omega) htb (by have q9 := (hto).b; omega) (hO.sub (by decide))) kw_583 kw_453 kw_454 kw_3 kw_455 (by decide +kernel) ⟨Nat.le_of_ble_eq_true rfl, Nat.le_of_ble_eq_true rfl⟩ (x_recv (ci := 7) hkb hH 0 rfl rfl) rfl rfl hl.1 (Nat.le_of_ble_eq_true rfl) dX4_readUsed_4 ⟨Nat.le_of_ble_eq_true rfl, Nat.le_of_ble_eq_true rfl⟩) (fun u H locs hz9 hH hS => ?_)
  obtain ⟨n4_0_2, n4_0_3, n4_0_4, n4_0_5, rfl, x_v40, x_v41, x_v42⟩ := hz9
  have px4 := TSS.nx hto x_v41
  have hH : HT D cs A T (tk :: y0 :: d :: O) ((tk, .inr (7, [.ref y0, .int y1, .int n4_0_2, .int n4_0_3, .int n4_0_4, .int n4_0_5, .int y6, .int y7])) :: (y0, .inl (cs.1, 900, .inl ft)) :: (d, .inr (9, [.int z0, .int z1, .int z2, .int z3, .int z4, .int z5, .ref z6, .ref z7, .ref z8, .ref z9, .ref z10, .null, .int z12, .int z13])) :: X) H := hH
  refine W.widen (k := 0) (n := 0) (Nat.le_of_ble_eq_true rfl) (Nat.le_of_ble_eq_true rfl) ?_
  have g7 : GR t tn [(31, 0)] [(35, 0), (20, 6), (36, 0)] (RZ z0 z1 z3 z4 z2) (RZ z0 z1 z3 z4 z2) y2 n4_0_2 := GR_nx (fun _ => st_iU hk5) px4
  have hc7 := x_v40.cs
  refine lv_aload_n hx hb dX4_readUsed_7 rfl (lv_at hl 0 rfl) ?_
  refine t_get (ci := 4) (lst := ft4 d 0) (C := RX4) (F := TX4) (N := 5) hx hb hts uX4 hown hkb hH t_a0 (hO.no t_a0 (by decide)) (fun _ h9 => h9) rfl rfl 0 (by decide) rfl kw_211 (fun _ h9 => h9) dX4_readUsed_8 (fun v9 h9 => ?_)
  obtain ⟨v8, rfl, t_v8⟩ := h9
  have e9 := (hU7 _ _ t_v8).symm
  subst e9
  refine x_getk (ci := 7) (C := RX7) (F := TX7) (N := 8) (v := .int n4_0_4) hx hb hts uX7 hown hkb hH 0 rfl rfl 4 (by decide) rfl kw_49 (fun _ h9 => h9) dX4_readUsed_11 ?_
  refine lv_iconst (v := 2) hx hb dX4_readUsed_14 (by decide) ?_
  refine lv_icmp_ne (tgt := 64) hx hb dX4_readUsed_15 (by decide) (fun c15 => ?_) (fun c15 => ?_)
  · skip
    have tc15 := f_ne (k := 2) (by decide) c15
    refine lv_aload_n hx hb dX4_readUsed_64 rfl (lv_at hl 0 rfl) ?_
    refine t_get (ci := 4) (lst := ft4 d 0) (C := RX4) (F := TX4) (N := 5) hx hb hts uX4 hown hkb hH t_a0 (hO.no t_a0 (by decide)) (fun _ h9 => h9) rfl rfl 0 (by decide) rfl kw_211 (fun _ h9 => h9) dX4_readUsed_65 (fun v9 h9 => ?_)
    obtain ⟨v65, rfl, t_v65⟩ := h9
    have e9 := (hU7 _ _ t_v65).symm
    subst e9
    refine lv_aload_n hx hb dX4_readUsed_68 rfl (lv_at hl 0 rfl) ?_
    refine t_get (ci := 4) (lst := ft4 d 0) (C := RX4) (F := TX4) (N := 5) hx hb hts uX4 hown hkb hH t_a0 (hO.no t_a0 (by decide)) (fun _ h9 => h9) rfl rfl 2 (by decide) rfl kw_214 (fun _ h9 => h9) dX4_readUsed_69 (fun v9 h9 => ?_)
    have h9 : v9 = .ref d := h9
    subst h9
    refine x_getk (ci := 9) (C := RX9) (F := TX9) (N := 14) (v := .int z0) hx hb hts uX9 hown hkb hH 2 rfl rfl 0 (by decide) rfl kw_108 (fun _ h9 => h9) dX4_readUsed_72 ?_
    refine lv_iconst (v := 1) hx hb dX4_readUsed_75 (by decide) ?_
    refine lv_isub hx hb dX4_readUsed_76 ?_
    refine lv_topi (fun v76 ev76 => ?_)
    have tv76 : v76.toInt = z0.toInt - (1) := by rw [ev76]; exact sub_i rfl (by decide : (1 : Int32).toInt = 1) (by omega) (by omega)
    refine tk_i hH hS hA (tr_V (n := 1) (As := [.int v76]) hx hb hml hown hts hkb hH (ox_map hOX rfl) hks hE hS hA (s_Tok_takeNumber l D cs kf T (d :: O) ((d, .inr (9, [.int z0, .int z1, .int z2, .int z3, .int z4, .int z5, .ref z6, .ref z7, .ref z8, .ref z9, .ref z10, .null, .int z12, .int z13])) :: X) tk v76 y0 y1 n4_0_2 n4_0_3 n4_0_4 n4_0_5 y6 y7 ft t tn t_tk (by omega) (by omega) t_y0 (by omega) (by omega) (by omega) (by omega) (by omega) (by omega) (by omega) htb x_v40 (hO.sub (by decide))) kw_584 kw_585 kw_586 kw_3 kw_587 (by decide +kernel) ⟨Nat.le_of_ble_eq_true rfl, Nat.le_of_ble_eq_true rfl⟩ (x_recv (ci := 7) hkb hH 0 rfl rfl) rfl rfl hl.1 (Nat.le_of_ble_eq_true rfl) dX4_readUsed_77 ⟨Nat.le_of_ble_eq_true rfl, Nat.le_of_ble_eq_true rfl⟩) (fun v77 u H locs hz9 hH hS => ?_)
    obtain ⟨n77_0_2, n77_0_3, n77_0_4, n77_0_5, n77_0_6, n77_0_7, rfl, l_v77, u_v77, x_v770, x_v771, x_v772, x_v773⟩ := hz9
    have hH : HT D cs A T (tk :: y0 :: d :: O) ((tk, .inr (7, [.ref y0, .int y1, .int n77_0_2, .int n77_0_3, .int n77_0_4, .int n77_0_5, .int n77_0_6, .int n77_0_7])) :: (y0, .inl (cs.1, 900, .inl ft)) :: (d, .inr (9, [.int z0, .int z1, .int z2, .int z3, .int z4, .int z5, .ref z6, .ref z7, .ref z8, .ref z9, .ref z10, .null, .int z12, .int z13])) :: X) H := hH
    refine W.widen (k := 0) (n := 0) (Nat.le_of_ble_eq_true rfl) (Nat.le_of_ble_eq_true rfl) ?_
    refine lv_istore_n (lv' := [(1, .int v77), (0, .ref a0)]) hx hb dX4_readUsed_80 rfl hl (by decide) rfl (fun ls hl => ?_)
    refine lv_iload_n hx hb dX4_readUsed_81 rfl (lv_at hl 0 rfl) ?_
    refine lv_iconst (v := (-1)) hx hb dX4_readUsed_82 (by decide) ?_
    refine lv_icmp_eq (tgt := 98) hx hb dX4_readUsed_83 (by decide) (fun c83 => ?_) (fun c83 => ?_)
    · skip
      have tc83 := f_eq (k := -1) (by decide) c83
      clear x_v770
      clear x_v773
      replace x_v771 := x_v771.resolve_left (fun q9 => q9 tc83)
      refine lv_iconst (v := 0) hx hb dX4_readUsed_98 (by decide) ?_
      have z9_0 : (0 : Int32).toInt = 0 := by decide
      exact te_z hx hb hr hlocks (by rfl) hH hS (⟨n77_0_2, n77_0_3, n77_0_4, n77_0_5, n77_0_6, n77_0_7, rfl, by decide, by decide, Or.inl (by decide), (Or.inr (by first | (refine (g7.ap (G := [(20, 30)])).bd (BR.cons (BR_hb (v := n4_0_5) ?_ ?_ (hm9.mp tc52) x_v600 x_v601 ?_)) <;> omega) | (refine (g7.ap (G := [(20, 30)])).bd (BR.cons (BR_h (m := v76) ?_ ?_ x_v771.1 x_v771.2.1 x_v771.2.2 ?_)) <;> omega) | (refine (g86.ap (G := [(20, 30)])).bd (BR.cons (BR_f (G := []) (fun _ => st_xN x_v921.1) x_v921.2.1 (by decide) x_v921.2.2 ?_)); omega) | (refine (g100.ap (G := [(20, 30)])).bd (BR.cons (BR_g (m := v112) ?_ x_v1131.1 x_v1131.2.1 x_v1131.2.2 ?_)); show v112.toInt = ((z1.toInt.toNat : Nat) : Int) - 1; omega; omega))), (by omega)⟩) dX4_readUsed_99
    · skip
      have tc83 := f_ne (k := -1) (by decide) c83
      replace x_v770 := x_v770.resolve_left tc83
      replace x_v773 := x_v773.resolve_left tc83
      clear x_v771
      have hbt : ¬ (z3 ||| z4).toBitVec.getLsbD v77.toInt.toNat = true := by first | (exfalso; omega) | (intro q9; have q8 : v77 = n4_0_5 := Int32.toInt_inj.mp (by omega); rw [q8] at q9; exact tc52 (hm9.mpr q9))
      have g86 : GR t tn [(31, 0)] [(20, 6), (36, 0)] (RZ z0 z1 z3 z4 z2) (RZ z0 z1 z3 z4 z2) y2 n77_0_2 := g7.tr (GR.cons (GR_h (m := v76) (by omega) x_v770.2.2.1 x_v770.2.2.2.1 x_v770.2.2.2.2.1 (by omega) hbt x_v770.2.1))
      refine lv_aload_n hx hb dX4_readUsed_86 rfl (lv_at hl 1 rfl) ?_
      refine t_get (ci := 4) (lst := ft4 d 0) (C := RX4) (F := TX4) (N := 5) hx hb hts uX4 hown hkb hH t_a0 (hO.no t_a0 (by decide)) (fun _ h9 => h9) rfl rfl 0 (by decide) rfl kw_211 (fun _ h9 => h9) dX4_readUsed_87 (fun v9 h9 => ?_)
      obtain ⟨v87, rfl, t_v87⟩ := h9
      have e9 := (hU7 _ _ t_v87).symm
      subst e9
      refine va_ldcS (q := kf.1 18) hx hb hown (hks ("FootholdWall$Reader", 178, "by", 18) (by decide +kernel)) dX4_readUsed_90 ?_
      refine tk_i hH hS hA (tr_V (n := 1) (As := [.ref (kf.1 18)]) hx hb hml hown hts hkb hH (ox_map hOX rfl) hks hE hS hA (s_Tok_takeWord l D cs kf T (d :: O) ((d, .inr (9, [.int z0, .int z1, .int z2, .int z3, .int z4, .int z5, .ref z6, .ref z7, .ref z8, .ref z9, .ref z10, .null, .int z12, .int z13])) :: X) tk 18 y0 y1 n77_0_2 n77_0_3 n77_0_4 n77_0_5 n77_0_6 n77_0_7 ft t tn 6 t_tk (by decide) t_y0 (by omega) (by omega) (by omega) (by omega) (by omega) (by omega) (by omega) htb x_v770.1 (by decide) (by decide) (hO.sub (by decide))) kw_603 kw_604 kw_605 kw_3 kw_606 (by decide +kernel) ⟨Nat.le_of_ble_eq_true rfl, Nat.le_of_ble_eq_true rfl⟩ (x_recv (ci := 7) hkb hH 0 rfl rfl) rfl rfl hl.1 (Nat.le_of_ble_eq_true rfl) dX4_readUsed_92 ⟨Nat.le_of_ble_eq_true rfl, Nat.le_of_ble_eq_true rfl⟩) (fun v92 u H locs hz9 hH hS => ?_)
      obtain ⟨n92_0_2, n92_0_3, n92_0_4, n92_0_5, n92_0_6, n92_0_7, rfl, l_v92, u_v92, x_v920, x_v921, x_v922⟩ := hz9
      have hH : HT D cs A T (tk :: y0 :: d :: O) ((tk, .inr (7, [.ref y0, .int y1, .int n92_0_2, .int n92_0_3, .int n92_0_4, .int n92_0_5, .int n92_0_6, .int n92_0_7])) :: (y0, .inl (cs.1, 900, .inl ft)) :: (d, .inr (9, [.int z0, .int z1, .int z2, .int z3, .int z4, .int z5, .ref z6, .ref z7, .ref z8, .ref z9, .ref z10, .null, .int z12, .int z13])) :: X) H := hH
      refine W.widen (k := 0) (n := 0) (Nat.le_of_ble_eq_true rfl) (Nat.le_of_ble_eq_true rfl) ?_
      refine lv_if_ne (tgt := 100) hx hb dX4_readUsed_95 (by decide) (fun c95 => ?_) (fun c95 => ?_)
      · skip
        have tc95 := f_ne (k := 0) (by decide) c95
        replace x_v920 := x_v920.resolve_left tc95
        clear x_v921
        have g100 : GR t tn [(31, 0)] [(36, 0)] (RZ z0 z1 z3 z4 z2) (RZ z0 z1 z3 z4 z2) y2 n92_0_2 := g86.tr (GR.cons (GR_nx (fun _ => st_xY x_v920.2.2.1) x_v920.2.1))
        refine lv_aload_n hx hb dX4_readUsed_100 rfl (lv_at hl 1 rfl) ?_
        refine t_get (ci := 4) (lst := ft4 d 0) (C := RX4) (F := TX4) (N := 5) hx hb hts uX4 hown hkb hH t_a0 (hO.no t_a0 (by decide)) (fun _ h9 => h9) rfl rfl 0 (by decide) rfl kw_211 (fun _ h9 => h9) dX4_readUsed_101 (fun v9 h9 => ?_)
        obtain ⟨v101, rfl, t_v101⟩ := h9
        have e9 := (hU7 _ _ t_v101).symm
        subst e9
        refine lv_aload_n hx hb dX4_readUsed_104 rfl (lv_at hl 1 rfl) ?_
        refine t_get (ci := 4) (lst := ft4 d 0) (C := RX4) (F := TX4) (N := 5) hx hb hts uX4 hown hkb hH t_a0 (hO.no t_a0 (by decide)) (fun _ h9 => h9) rfl rfl 2 (by decide) rfl kw_214 (fun _ h9 => h9) dX4_readUsed_105 (fun v9 h9 => ?_)
        have h9 : v9 = .ref d := h9
        subst h9
        refine x_getk (ci := 9) (C := RX9) (F := TX9) (N := 14) (v := .int z1) hx hb hts uX9 hown hkb hH 2 rfl rfl 1 (by decide) rfl kw_111 (fun _ h9 => h9) dX4_readUsed_108 ?_
        refine lv_iconst (v := 1) hx hb dX4_readUsed_111 (by decide) ?_
        refine lv_isub hx hb dX4_readUsed_112 ?_
        refine lv_topi (fun v112 ev112 => ?_)
        have tv112 : v112.toInt = z1.toInt - (1) := by rw [ev112]; exact sub_i rfl (by decide : (1 : Int32).toInt = 1) (by omega) (by omega)
        refine tk_i hH hS hA (tr_V (n := 1) (As := [.int v112]) hx hb hml hown hts hkb hH (ox_map hOX rfl) hks hE hS hA (s_Tok_takeNumber l D cs kf T (d :: O) ((d, .inr (9, [.int z0, .int z1, .int z2, .int z3, .int z4, .int z5, .ref z6, .ref z7, .ref z8, .ref z9, .ref z10, .null, .int z12, .int z13])) :: X) tk v112 y0 y1 n92_0_2 n92_0_3 n92_0_4 n92_0_5 n92_0_6 n92_0_7 ft t tn t_tk (by omega) (by omega) t_y0 (by omega) (by omega) (by omega) (by omega) (by omega) (by omega) (by omega) htb x_v920.1 (hO.sub (by decide))) kw_584 kw_585 kw_586 kw_3 kw_587 (by decide +kernel) ⟨Nat.le_of_ble_eq_true rfl, Nat.le_of_ble_eq_true rfl⟩ (x_recv (ci := 7) hkb hH 0 rfl rfl) rfl rfl hl.1 (Nat.le_of_ble_eq_true rfl) dX4_readUsed_113 ⟨Nat.le_of_ble_eq_true rfl, Nat.le_of_ble_eq_true rfl⟩) (fun v113 u H locs hz9 hH hS => ?_)
        obtain ⟨n113_0_2, n113_0_3, n113_0_4, n113_0_5, n113_0_6, n113_0_7, rfl, l_v113, u_v113, x_v1130, x_v1131, x_v1132, x_v1133⟩ := hz9
        have hH : HT D cs A T (tk :: y0 :: d :: O) ((tk, .inr (7, [.ref y0, .int y1, .int n113_0_2, .int n113_0_3, .int n113_0_4, .int n113_0_5, .int n113_0_6, .int n113_0_7])) :: (y0, .inl (cs.1, 900, .inl ft)) :: (d, .inr (9, [.int z0, .int z1, .int z2, .int z3, .int z4, .int z5, .ref z6, .ref z7, .ref z8, .ref z9, .ref z10, .null, .int z12, .int z13])) :: X) H := hH
        refine W.widen (k := 0) (n := 0) (Nat.le_of_ble_eq_true rfl) (Nat.le_of_ble_eq_true rfl) ?_
        refine lv_istore_n (lv' := [(2, .int v113), (1, .int v77), (0, .ref a0)]) hx hb dX4_readUsed_116 rfl hl (by decide) rfl (fun ls hl => ?_)
        refine lv_iload_n hx hb dX4_readUsed_117 rfl (lv_at hl 0 rfl) ?_
        refine lv_iconst (v := (-1)) hx hb dX4_readUsed_118 (by decide) ?_
        refine lv_icmp_ne (tgt := 124) hx hb dX4_readUsed_119 (by decide) (fun c119 => ?_) (fun c119 => ?_)
        · skip
          have tc119 := f_ne (k := -1) (by decide) c119
          replace x_v1130 := x_v1130.resolve_left tc119
          replace x_v1133 := x_v1133.resolve_left tc119
          clear x_v1131
          refine lv_aload_n hx hb dX4_readUsed_124 rfl (lv_at hl 2 rfl) ?_
          refine t_get (ci := 4) (lst := ft4 d 0) (C := RX4) (F := TX4) (N := 5) hx hb hts uX4 hown hkb hH t_a0 (hO.no t_a0 (by decide)) (fun _ h9 => h9) rfl rfl 4 (by decide) rfl kw_216 (fun _ h9 => h9) dX4_readUsed_125 (fun v9 h9 => ?_)
          obtain ⟨v125, rfl, t_v125⟩ := h9
          refine lv_iconst (v := 1) hx hb dX4_readUsed_128 (by decide) ?_
          refine lv_iload_n hx hb dX4_readUsed_129 rfl (lv_at hl 1 rfl) ?_
          refine lv_ishl hx hb dX4_readUsed_130 ?_
          refine lv_topi (fun v130 ev130 => ?_)
          refine lv_iload_n hx hb dX4_readUsed_131 rfl (lv_at hl 0 rfl) ?_
          refine tk_i hH hS hA (tr_V (n := 2) (As := [.int v130, .int v113]) hx hb hml hown hts hkb hH (ox_map hOX rfl) hks hE hS hA (s_State_use l D cs kf T (tk :: y0 :: d :: O) ((tk, .inr (7, [.ref y0, .int y1, .int n113_0_2, .int n113_0_3, .int n113_0_4, .int n113_0_5, .int n113_0_6, .int n113_0_7])) :: (y0, .inl (cs.1, 900, .inl ft)) :: (d, .inr (9, [.int z0, .int z1, .int z2, .int z3, .int z4, .int z5, .ref z6, .ref z7, .ref z8, .ref z9, .ref z10, .null, .int z12, .int z13])) :: X) v125 v130 v113 t_v125 (hO.sub (by decide))) kw_687 kw_688 kw_689 kw_7 kw_690 (by decide +kernel) ⟨Nat.le_of_ble_eq_true rfl, Nat.le_of_ble_eq_true rfl⟩ (HT.recv (ci := 6) hkb hH t_v125 (hO.no t_v125 (by decide)) rfl) rfl rfl hl.1 (Nat.le_of_ble_eq_true rfl) dX4_readUsed_132 ⟨Nat.le_of_ble_eq_true rfl, Nat.le_of_ble_eq_true rfl⟩) (fun v132 u H locs hz9 hH hS => ?_)
          obtain ⟨rfl, l_v132, u_v132⟩ := hz9
          have hH : HT D cs A T (tk :: y0 :: d :: O) ((tk, .inr (7, [.ref y0, .int y1, .int n113_0_2, .int n113_0_3, .int n113_0_4, .int n113_0_5, .int n113_0_6, .int n113_0_7])) :: (y0, .inl (cs.1, 900, .inl ft)) :: (d, .inr (9, [.int z0, .int z1, .int z2, .int z3, .int z4, .int z5, .ref z6, .ref z7, .ref z8, .ref z9, .ref z10, .null, .int z12, .int z13])) :: X) H := hH
          refine W.widen (k := 0) (n := 0) (Nat.le_of_ble_eq_true rfl) (Nat.le_of_ble_eq_true rfl) ?_
          refine lv_pop hx hb dX4_readUsed_135 rfl ?_
          refine lv_iconst (v := 1) hx hb dX4_readUsed_136 (by decide) ?_
          have z9_1 : (1 : Int32).toInt = 1 := by decide
          exact te_z hx hb hr hlocks (by rfl) hH hS (⟨n113_0_2, n113_0_3, n113_0_4, n113_0_5, n113_0_6, n113_0_7, rfl, by decide, by decide, (Or.inr ⟨x_v1130.1, by omega, by omega, by omega, (by first | (refine g100.tr (GR_g (m := v112) ?_ x_v1130.2.2.1 x_v1130.2.2.2.1 x_v1130.2.2.2.2.1 x_v1130.2.1); show v112.toInt = ((z1.toInt.toNat : Nat) : Int) - 1; omega))⟩), Or.inl (by decide), (by omega)⟩) dX4_readUsed_137
        · skip
          have tc119 := f_eq (k := -1) (by decide) c119
          clear x_v1130
          clear x_v1133
          replace x_v1131 := x_v1131.resolve_left (fun q9 => q9 tc119)
          refine lv_iconst (v := 0) hx hb dX4_readUsed_122 (by decide) ?_
          have z9_0 : (0 : Int32).toInt = 0 := by decide
          exact te_z hx hb hr hlocks (by rfl) hH hS (⟨n113_0_2, n113_0_3, n113_0_4, n113_0_5, n113_0_6, n113_0_7, rfl, by decide, by decide, Or.inl (by decide), (Or.inr (by first | (refine (g7.ap (G := [(20, 30)])).bd (BR.cons (BR_hb (v := n4_0_5) ?_ ?_ (hm9.mp tc52) x_v600 x_v601 ?_)) <;> omega) | (refine (g7.ap (G := [(20, 30)])).bd (BR.cons (BR_h (m := v76) ?_ ?_ x_v771.1 x_v771.2.1 x_v771.2.2 ?_)) <;> omega) | (refine (g86.ap (G := [(20, 30)])).bd (BR.cons (BR_f (G := []) (fun _ => st_xN x_v921.1) x_v921.2.1 (by decide) x_v921.2.2 ?_)); omega) | (refine (g100.ap (G := [(20, 30)])).bd (BR.cons (BR_g (m := v112) ?_ x_v1131.1 x_v1131.2.1 x_v1131.2.2 ?_)); show v112.toInt = ((z1.toInt.toNat : Nat) : Int) - 1; omega; omega))), (by omega)⟩) dX4_readUsed_123
      · skip
        have tc95 := f_eq (k := 0) (by decide) c95
        clear x_v920
        replace x_v921 := x_v921.resolve_left (fun q9 => q9 tc95)
        refine lv_iconst (v := 0) hx hb dX4_readUsed_98 (by decide) ?_
        have z9_0 : (0 : Int32).toInt = 0 := by decide
        exact te_z hx hb hr hlocks (by rfl) hH hS (⟨n92_0_2, n92_0_3, n92_0_4, n92_0_5, n92_0_6, n92_0_7, rfl, by decide, by decide, Or.inl (by decide), (Or.inr (by first | (refine (g7.ap (G := [(20, 30)])).bd (BR.cons (BR_hb (v := n4_0_5) ?_ ?_ (hm9.mp tc52) x_v600 x_v601 ?_)) <;> omega) | (refine (g7.ap (G := [(20, 30)])).bd (BR.cons (BR_h (m := v76) ?_ ?_ x_v771.1 x_v771.2.1 x_v771.2.2 ?_)) <;> omega) | (refine (g86.ap (G := [(20, 30)])).bd (BR.cons (BR_f (G := []) (fun _ => st_xN x_v921.1) x_v921.2.1 (by decide) x_v921.2.2 ?_)); omega) | (refine (g100.ap (G := [(20, 30)])).bd (BR.cons (BR_g (m := v112) ?_ x_v1131.1 x_v1131.2.1 x_v1131.2.2 ?_)); show v112.toInt = ((z1.toInt.toNat : Nat) : Int) - 1; omega; omega))), (by omega)⟩) dX4_readUsed_99
  · skip
    have tc15 := f_eq (k := 2) (by decide) c15
    refine lv_aload_n hx hb dX4_readUsed_18 rfl (lv_at hl 0 rfl) ?_
    refine t_get (ci := 4) (lst := ft4 d 0) (C := RX4) (F := TX4) (N := 5) hx hb hts uX4 hown hkb hH t_a0 (hO.no t_a0 (by decide)) (fun _ h9 => h9) rfl rfl 0 (by decide) rfl kw_211 (fun _ h9 => h9) dX4_readUsed_19 (fun v9 h9 => ?_)
    obtain ⟨v19, rfl, t_v19⟩ := h9
    have e9 := (hU7 _ _ t_v19).symm
    subst e9
    refine x_getk (ci := 7) (C := RX7) (F := TX7) (N := 8) (v := .int n4_0_5) hx hb hts uX7 hown hkb hH 0 rfl rfl 5 (by decide) rfl kw_52 (fun _ h9 => h9) dX4_readUsed_22 ?_
    refine lv_aload_n hx hb dX4_readUsed_25 rfl (lv_at hl 0 rfl) ?_
    refine t_get (ci := 4) (lst := ft4 d 0) (C := RX4) (F := TX4) (N := 5) hx hb hts uX4 hown hkb hH t_a0 (hO.no t_a0 (by decide)) (fun _ h9 => h9) rfl rfl 2 (by decide) rfl kw_214 (fun _ h9 => h9) dX4_readUsed_26 (fun v9 h9 => ?_)
    have h9 : v9 = .ref d := h9
    subst h9
    refine x_getk (ci := 9) (C := RX9) (F := TX9) (N := 14) (v := .int z0) hx hb hts uX9 hown hkb hH 2 rfl rfl 0 (by decide) rfl kw_108 (fun _ h9 => h9) dX4_readUsed_29 ?_
    refine lv_icmp_ge (tgt := 64) hx hb dX4_readUsed_32 (by decide) (fun c32 => ?_) (fun c32 => ?_)
    · skip
      have fuc32 := full_i n4_0_5
      have fvc32 := full_i z0
      have tc32 := g_le c32
      refine lv_aload_n hx hb dX4_readUsed_64 rfl (lv_at hl 0 rfl) ?_
      refine t_get (ci := 4) (lst := ft4 d 0) (C := RX4) (F := TX4) (N := 5) hx hb hts uX4 hown hkb hH t_a0 (hO.no t_a0 (by decide)) (fun _ h9 => h9) rfl rfl 0 (by decide) rfl kw_211 (fun _ h9 => h9) dX4_readUsed_65 (fun v9 h9 => ?_)
      obtain ⟨v65, rfl, t_v65⟩ := h9
      have e9 := (hU7 _ _ t_v65).symm
      subst e9
      refine lv_aload_n hx hb dX4_readUsed_68 rfl (lv_at hl 0 rfl) ?_
      refine t_get (ci := 4) (lst := ft4 d 0) (C := RX4) (F := TX4) (N := 5) hx hb hts uX4 hown hkb hH t_a0 (hO.no t_a0 (by decide)) (fun _ h9 => h9) rfl rfl 2 (by decide) rfl kw_214 (fun _ h9 => h9) dX4_readUsed_69 (fun v9 h9 => ?_)
      have h9 : v9 = .ref d := h9
      subst h9
      refine x_getk (ci := 9) (C := RX9) (F := TX9) (N := 14) (v := .int z0) hx hb hts uX9 hown hkb hH 2 rfl rfl 0 (by decide) rfl kw_108 (fun _ h9 => h9) dX4_readUsed_72 ?_
      refine lv_iconst (v := 1) hx hb dX4_readUsed_75 (by decide) ?_
      refine lv_isub hx hb dX4_readUsed_76 ?_
      refine lv_topi (fun v76 ev76 => ?_)
      have tv76 : v76.toInt = z0.toInt - (1) := by rw [ev76]; exact sub_i rfl (by decide : (1 : Int32).toInt = 1) (by omega) (by omega)
      refine tk_i hH hS hA (tr_V (n := 1) (As := [.int v76]) hx hb hml hown hts hkb hH (ox_map hOX rfl) hks hE hS hA (s_Tok_takeNumber l D cs kf T (d :: O) ((d, .inr (9, [.int z0, .int z1, .int z2, .int z3, .int z4, .int z5, .ref z6, .ref z7, .ref z8, .ref z9, .ref z10, .null, .int z12, .int z13])) :: X) tk v76 y0 y1 n4_0_2 n4_0_3 n4_0_4 n4_0_5 y6 y7 ft t tn t_tk (by omega) (by omega) t_y0 (by omega) (by omega) (by omega) (by omega) (by omega) (by omega) (by omega) htb x_v40 (hO.sub (by decide))) kw_584 kw_585 kw_586 kw_3 kw_587 (by decide +kernel) ⟨Nat.le_of_ble_eq_true rfl, Nat.le_of_ble_eq_true rfl⟩ (x_recv (ci := 7) hkb hH 0 rfl rfl) rfl rfl hl.1 (Nat.le_of_ble_eq_true rfl) dX4_readUsed_77 ⟨Nat.le_of_ble_eq_true rfl, Nat.le_of_ble_eq_true rfl⟩) (fun v77 u H locs hz9 hH hS => ?_)
      obtain ⟨n77_0_2, n77_0_3, n77_0_4, n77_0_5, n77_0_6, n77_0_7, rfl, l_v77, u_v77, x_v770, x_v771, x_v772, x_v773⟩ := hz9
      have hH : HT D cs A T (tk :: y0 :: d :: O) ((tk, .inr (7, [.ref y0, .int y1, .int n77_0_2, .int n77_0_3, .int n77_0_4, .int n77_0_5, .int n77_0_6, .int n77_0_7])) :: (y0, .inl (cs.1, 900, .inl ft)) :: (d, .inr (9, [.int z0, .int z1, .int z2, .int z3, .int z4, .int z5, .ref z6, .ref z7, .ref z8, .ref z9, .ref z10, .null, .int z12, .int z13])) :: X) H := hH
      refine W.widen (k := 0) (n := 0) (Nat.le_of_ble_eq_true rfl) (Nat.le_of_ble_eq_true rfl) ?_
      refine lv_istore_n (lv' := [(1, .int v77), (0, .ref a0)]) hx hb dX4_readUsed_80 rfl hl (by decide) rfl (fun ls hl => ?_)
      refine lv_iload_n hx hb dX4_readUsed_81 rfl (lv_at hl 0 rfl) ?_
      refine lv_iconst (v := (-1)) hx hb dX4_readUsed_82 (by decide) ?_
      refine lv_icmp_eq (tgt := 98) hx hb dX4_readUsed_83 (by decide) (fun c83 => ?_) (fun c83 => ?_)
      · skip
        have tc83 := f_eq (k := -1) (by decide) c83
        clear x_v770
        clear x_v773
        replace x_v771 := x_v771.resolve_left (fun q9 => q9 tc83)
        refine lv_iconst (v := 0) hx hb dX4_readUsed_98 (by decide) ?_
        have z9_0 : (0 : Int32).toInt = 0 := by decide
        exact te_z hx hb hr hlocks (by rfl) hH hS (⟨n77_0_2, n77_0_3, n77_0_4, n77_0_5, n77_0_6, n77_0_7, rfl, by decide, by decide, Or.inl (by decide), (Or.inr (by first | (refine (g7.ap (G := [(20, 30)])).bd (BR.cons (BR_hb (v := n4_0_5) ?_ ?_ (hm9.mp tc52) x_v600 x_v601 ?_)) <;> omega) | (refine (g7.ap (G := [(20, 30)])).bd (BR.cons (BR_h (m := v76) ?_ ?_ x_v771.1 x_v771.2.1 x_v771.2.2 ?_)) <;> omega) | (refine (g86.ap (G := [(20, 30)])).bd (BR.cons (BR_f (G := []) (fun _ => st_xN x_v921.1) x_v921.2.1 (by decide) x_v921.2.2 ?_)); omega) | (refine (g100.ap (G := [(20, 30)])).bd (BR.cons (BR_g (m := v112) ?_ x_v1131.1 x_v1131.2.1 x_v1131.2.2 ?_)); show v112.toInt = ((z1.toInt.toNat : Nat) : Int) - 1; omega; omega))), (by omega)⟩) dX4_readUsed_99
      · skip
        have tc83 := f_ne (k := -1) (by decide) c83
        replace x_v770 := x_v770.resolve_left tc83
        replace x_v773 := x_v773.resolve_left tc83
        clear x_v771
        have hbt : ¬ (z3 ||| z4).toBitVec.getLsbD v77.toInt.toNat = true := by first | (exfalso; omega) | (intro q9; have q8 : v77 = n4_0_5 := Int32.toInt_inj.mp (by omega); rw [q8] at q9; exact tc52 (hm9.mpr q9))
        have g86 : GR t tn [(31, 0)] [(20, 6), (36, 0)] (RZ z0 z1 z3 z4 z2) (RZ z0 z1 z3 z4 z2) y2 n77_0_2 := g7.tr (GR.cons (GR_h (m := v76) (by omega) x_v770.2.2.1 x_v770.2.2.2.1 x_v770.2.2.2.2.1 (by omega) hbt x_v770.2.1))
        refine lv_aload_n hx hb dX4_readUsed_86 rfl (lv_at hl 1 rfl) ?_
        refine t_get (ci := 4) (lst := ft4 d 0) (C := RX4) (F := TX4) (N := 5) hx hb hts uX4 hown hkb hH t_a0 (hO.no t_a0 (by decide)) (fun _ h9 => h9) rfl rfl 0 (by decide) rfl kw_211 (fun _ h9 => h9) dX4_readUsed_87 (fun v9 h9 => ?_)
        obtain ⟨v87, rfl, t_v87⟩ := h9
        have e9 := (hU7 _ _ t_v87).symm
        subst e9
        refine va_ldcS (q := kf.1 18) hx hb hown (hks ("FootholdWall$Reader", 178, "by", 18) (by decide +kernel)) dX4_readUsed_90 ?_
        refine tk_i hH hS hA (tr_V (n := 1) (As := [.ref (kf.1 18)]) hx hb hml hown hts hkb hH (ox_map hOX rfl) hks hE hS hA (s_Tok_takeWord l D cs kf T (d :: O) ((d, .inr (9, [.int z0, .int z1, .int z2, .int z3, .int z4, .int z5, .ref z6, .ref z7, .ref z8, .ref z9, .ref z10, .null, .int z12, .int z13])) :: X) tk 18 y0 y1 n77_0_2 n77_0_3 n77_0_4 n77_0_5 n77_0_6 n77_0_7 ft t tn 6 t_tk (by decide) t_y0 (by omega) (by omega) (by omega) (by omega) (by omega) (by omega) (by omega) htb x_v770.1 (by decide) (by decide) (hO.sub (by decide))) kw_603 kw_604 kw_605 kw_3 kw_606 (by decide +kernel) ⟨Nat.le_of_ble_eq_true rfl, Nat.le_of_ble_eq_true rfl⟩ (x_recv (ci := 7) hkb hH 0 rfl rfl) rfl rfl hl.1 (Nat.le_of_ble_eq_true rfl) dX4_readUsed_92 ⟨Nat.le_of_ble_eq_true rfl, Nat.le_of_ble_eq_true rfl⟩) (fun v92 u H locs hz9 hH hS => ?_)
        obtain ⟨n92_0_2, n92_0_3, n92_0_4, n92_0_5, n92_0_6, n92_0_7, rfl, l_v92, u_v92, x_v920, x_v921, x_v922⟩ := hz9
        have hH : HT D cs A T (tk :: y0 :: d :: O) ((tk, .inr (7, [.ref y0, .int y1, .int n92_0_2, .int n92_0_3, .int n92_0_4, .int n92_0_5, .int n92_0_6, .int n92_0_7])) :: (y0, .inl (cs.1, 900, .inl ft)) :: (d, .inr (9, [.int z0, .int z1, .int z2, .int z3, .int z4, .int z5, .ref z6, .ref z7, .ref z8, .ref z9, .ref z10, .null, .int z12, .int z13])) :: X) H := hH
        refine W.widen (k := 0) (n := 0) (Nat.le_of_ble_eq_true rfl) (Nat.le_of_ble_eq_true rfl) ?_
        refine lv_if_ne (tgt := 100) hx hb dX4_readUsed_95 (by decide) (fun c95 => ?_) (fun c95 => ?_)
        · skip
          have tc95 := f_ne (k := 0) (by decide) c95
          replace x_v920 := x_v920.resolve_left tc95
          clear x_v921
          have g100 : GR t tn [(31, 0)] [(36, 0)] (RZ z0 z1 z3 z4 z2) (RZ z0 z1 z3 z4 z2) y2 n92_0_2 := g86.tr (GR.cons (GR_nx (fun _ => st_xY x_v920.2.2.1) x_v920.2.1))
          refine lv_aload_n hx hb dX4_readUsed_100 rfl (lv_at hl 1 rfl) ?_
          refine t_get (ci := 4) (lst := ft4 d 0) (C := RX4) (F := TX4) (N := 5) hx hb hts uX4 hown hkb hH t_a0 (hO.no t_a0 (by decide)) (fun _ h9 => h9) rfl rfl 0 (by decide) rfl kw_211 (fun _ h9 => h9) dX4_readUsed_101 (fun v9 h9 => ?_)
          obtain ⟨v101, rfl, t_v101⟩ := h9
          have e9 := (hU7 _ _ t_v101).symm
          subst e9
          refine lv_aload_n hx hb dX4_readUsed_104 rfl (lv_at hl 1 rfl) ?_
          refine t_get (ci := 4) (lst := ft4 d 0) (C := RX4) (F := TX4) (N := 5) hx hb hts uX4 hown hkb hH t_a0 (hO.no t_a0 (by decide)) (fun _ h9 => h9) rfl rfl 2 (by decide) rfl kw_214 (fun _ h9 => h9) dX4_readUsed_105 (fun v9 h9 => ?_)
          have h9 : v9 = .ref d := h9
          subst h9
          refine x_getk (ci := 9) (C := RX9) (F := TX9) (N := 14) (v := .int z1) hx hb hts uX9 hown hkb hH 2 rfl rfl 1 (by decide) rfl kw_111 (fun _ h9 => h9) dX4_readUsed_108 ?_
          refine lv_iconst (v := 1) hx hb dX4_readUsed_111 (by decide) ?_
          refine lv_isub hx hb dX4_readUsed_112 ?_
          refine lv_topi (fun v112 ev112 => ?_)
          have tv112 : v112.toInt = z1.toInt - (1) := by rw [ev112]; exact sub_i rfl (by decide : (1 : Int32).toInt = 1) (by omega) (by omega)
          refine tk_i hH hS hA (tr_V (n := 1) (As := [.int v112]) hx hb hml hown hts hkb hH (ox_map hOX rfl) hks hE hS hA (s_Tok_takeNumber l D cs kf T (d :: O) ((d, .inr (9, [.int z0, .int z1, .int z2, .int z3, .int z4, .int z5, .ref z6, .ref z7, .ref z8, .ref z9, .ref z10, .null, .int z12, .int z13])) :: X) tk v112 y0 y1 n92_0_2 n92_0_3 n92_0_4 n92_0_5 n92_0_6 n92_0_7 ft t tn t_tk (by omega) (by omega) t_y0 (by omega) (by omega) (by omega) (by omega) (by omega) (by omega) (by omega) htb x_v920.1 (hO.sub (by decide))) kw_584 kw_585 kw_586 kw_3 kw_587 (by decide +kernel) ⟨Nat.le_of_ble_eq_true rfl, Nat.le_of_ble_eq_true rfl⟩ (x_recv (ci := 7) hkb hH 0 rfl rfl) rfl rfl hl.1 (Nat.le_of_ble_eq_true rfl) dX4_readUsed_113 ⟨Nat.le_of_ble_eq_true rfl, Nat.le_of_ble_eq_true rfl⟩) (fun v113 u H locs hz9 hH hS => ?_)
          obtain ⟨n113_0_2, n113_0_3, n113_0_4, n113_0_5, n113_0_6, n113_0_7, rfl, l_v113, u_v113, x_v1130, x_v1131, x_v1132, x_v1133⟩ := hz9
          have hH : HT D cs A T (tk :: y0 :: d :: O) ((tk, .inr (7, [.ref y0, .int y1, .int n113_0_2, .int n113_0_3, .int n113_0_4, .int n113_0_5, .int n113_0_6, .int n113_0_7])) :: (y0, .inl (cs.1, 900, .inl ft)) :: (d, .inr (9, [.int z0, .int z1, .int z2, .int z3, .int z4, .int z5, .ref z6, .ref z7, .ref z8, .ref z9, .ref z10, .null, .int z12, .int z13])) :: X) H := hH
          refine W.widen (k := 0) (n := 0) (Nat.le_of_ble_eq_true rfl) (Nat.le_of_ble_eq_true rfl) ?_
          refine lv_istore_n (lv' := [(2, .int v113), (1, .int v77), (0, .ref a0)]) hx hb dX4_readUsed_116 rfl hl (by decide) rfl (fun ls hl => ?_)
          refine lv_iload_n hx hb dX4_readUsed_117 rfl (lv_at hl 0 rfl) ?_
          refine lv_iconst (v := (-1)) hx hb dX4_readUsed_118 (by decide) ?_
          refine lv_icmp_ne (tgt := 124) hx hb dX4_readUsed_119 (by decide) (fun c119 => ?_) (fun c119 => ?_)
          · skip
            have tc119 := f_ne (k := -1) (by decide) c119
            replace x_v1130 := x_v1130.resolve_left tc119
            replace x_v1133 := x_v1133.resolve_left tc119
            clear x_v1131
            refine lv_aload_n hx hb dX4_readUsed_124 rfl (lv_at hl 2 rfl) ?_
            refine t_get (ci := 4) (lst := ft4 d 0) (C := RX4) (F := TX4) (N := 5) hx hb hts uX4 hown hkb hH t_a0 (hO.no t_a0 (by decide)) (fun _ h9 => h9) rfl rfl 4 (by decide) rfl kw_216 (fun _ h9 => h9) dX4_readUsed_125 (fun v9 h9 => ?_)
            obtain ⟨v125, rfl, t_v125⟩ := h9
            refine lv_iconst (v := 1) hx hb dX4_readUsed_128 (by decide) ?_
            refine lv_iload_n hx hb dX4_readUsed_129 rfl (lv_at hl 1 rfl) ?_
            refine lv_ishl hx hb dX4_readUsed_130 ?_
            refine lv_topi (fun v130 ev130 => ?_)
            refine lv_iload_n hx hb dX4_readUsed_131 rfl (lv_at hl 0 rfl) ?_
            refine tk_i hH hS hA (tr_V (n := 2) (As := [.int v130, .int v113]) hx hb hml hown hts hkb hH (ox_map hOX rfl) hks hE hS hA (s_State_use l D cs kf T (tk :: y0 :: d :: O) ((tk, .inr (7, [.ref y0, .int y1, .int n113_0_2, .int n113_0_3, .int n113_0_4, .int n113_0_5, .int n113_0_6, .int n113_0_7])) :: (y0, .inl (cs.1, 900, .inl ft)) :: (d, .inr (9, [.int z0, .int z1, .int z2, .int z3, .int z4, .int z5, .ref z6, .ref z7, .ref z8, .ref z9, .ref z10, .null, .int z12, .int z13])) :: X) v125 v130 v113 t_v125 (hO.sub (by decide))) kw_687 kw_688 kw_689 kw_7 kw_690 (by decide +kernel) ⟨Nat.le_of_ble_eq_true rfl, Nat.le_of_ble_eq_true rfl⟩ (HT.recv (ci := 6) hkb hH t_v125 (hO.no t_v125 (by decide)) rfl) rfl rfl hl.1 (Nat.le_of_ble_eq_true rfl) dX4_readUsed_132 ⟨Nat.le_of_ble_eq_true rfl, Nat.le_of_ble_eq_true rfl⟩) (fun v132 u H locs hz9 hH hS => ?_)
            obtain ⟨rfl, l_v132, u_v132⟩ := hz9
            have hH : HT D cs A T (tk :: y0 :: d :: O) ((tk, .inr (7, [.ref y0, .int y1, .int n113_0_2, .int n113_0_3, .int n113_0_4, .int n113_0_5, .int n113_0_6, .int n113_0_7])) :: (y0, .inl (cs.1, 900, .inl ft)) :: (d, .inr (9, [.int z0, .int z1, .int z2, .int z3, .int z4, .int z5, .ref z6, .ref z7, .ref z8, .ref z9, .ref z10, .null, .int z12, .int z13])) :: X) H := hH
            refine W.widen (k := 0) (n := 0) (Nat.le_of_ble_eq_true rfl) (Nat.le_of_ble_eq_true rfl) ?_
            refine lv_pop hx hb dX4_readUsed_135 rfl ?_
            refine lv_iconst (v := 1) hx hb dX4_readUsed_136 (by decide) ?_
            have z9_1 : (1 : Int32).toInt = 1 := by decide
            exact te_z hx hb hr hlocks (by rfl) hH hS (⟨n113_0_2, n113_0_3, n113_0_4, n113_0_5, n113_0_6, n113_0_7, rfl, by decide, by decide, (Or.inr ⟨x_v1130.1, by omega, by omega, by omega, (by first | (refine g100.tr (GR_g (m := v112) ?_ x_v1130.2.2.1 x_v1130.2.2.2.1 x_v1130.2.2.2.2.1 x_v1130.2.1); show v112.toInt = ((z1.toInt.toNat : Nat) : Int) - 1; omega))⟩), Or.inl (by decide), (by omega)⟩) dX4_readUsed_137
          · skip
            have tc119 := f_eq (k := -1) (by decide) c119
            clear x_v1130
            clear x_v1133
            replace x_v1131 := x_v1131.resolve_left (fun q9 => q9 tc119)
            refine lv_iconst (v := 0) hx hb dX4_readUsed_122 (by decide) ?_
            have z9_0 : (0 : Int32).toInt = 0 := by decide
            exact te_z hx hb hr hlocks (by rfl) hH hS (⟨n113_0_2, n113_0_3, n113_0_4, n113_0_5, n113_0_6, n113_0_7, rfl, by decide, by decide, Or.inl (by decide), (Or.inr (by first | (refine (g7.ap (G := [(20, 30)])).bd (BR.cons (BR_hb (v := n4_0_5) ?_ ?_ (hm9.mp tc52) x_v600 x_v601 ?_)) <;> omega) | (refine (g7.ap (G := [(20, 30)])).bd (BR.cons (BR_h (m := v76) ?_ ?_ x_v771.1 x_v771.2.1 x_v771.2.2 ?_)) <;> omega) | (refine (g86.ap (G := [(20, 30)])).bd (BR.cons (BR_f (G := []) (fun _ => st_xN x_v921.1) x_v921.2.1 (by decide) x_v921.2.2 ?_)); omega) | (refine (g100.ap (G := [(20, 30)])).bd (BR.cons (BR_g (m := v112) ?_ x_v1131.1 x_v1131.2.1 x_v1131.2.2 ?_)); show v112.toInt = ((z1.toInt.toNat : Nat) : Int) - 1; omega; omega))), (by omega)⟩) dX4_readUsed_123
        · skip
          have tc95 := f_eq (k := 0) (by decide) c95
          clear x_v920
          replace x_v921 := x_v921.resolve_left (fun q9 => q9 tc95)
          refine lv_iconst (v := 0) hx hb dX4_readUsed_98 (by decide) ?_
          have z9_0 : (0 : Int32).toInt = 0 := by decide
          exact te_z hx hb hr hlocks (by rfl) hH hS (⟨n92_0_2, n92_0_3, n92_0_4, n92_0_5, n92_0_6, n92_0_7, rfl, by decide, by decide, Or.inl (by decide), (Or.inr (by first | (refine (g7.ap (G := [(20, 30)])).bd (BR.cons (BR_hb (v := n4_0_5) ?_ ?_ (hm9.mp tc52) x_v600 x_v601 ?_)) <;> omega) | (refine (g7.ap (G := [(20, 30)])).bd (BR.cons (BR_h (m := v76) ?_ ?_ x_v771.1 x_v771.2.1 x_v771.2.2 ?_)) <;> omega) | (refine (g86.ap (G := [(20, 30)])).bd (BR.cons (BR_f (G := []) (fun _ => st_xN x_v921.1) x_v921.2.1 (by decide) x_v921.2.2 ?_)); omega) | (refine (g100.ap (G := [(20, 30)])).bd (BR.cons (BR_g (m := v112) ?_ x_v1131.1 x_v1131.2.1 x_v1131.2.2 ?_)); show v112.toInt = ((z1.toInt.toNat : Nat) : Int) - 1; omega; omega))), (by omega)⟩) dX4_readUsed_99
    · skip
      have fuc32 := full_i n4_0_5
      have fvc32 := full_i z0
      have tc32 := g_nle c32
      have hq35 := nv_21 (t := t) (n := tn) (s := n4_0_2.toInt.toNat) (by omega)
      refine lv_aload_n hx hb dX4_readUsed_35 rfl (lv_at hl 0 rfl) ?_
      refine t_get (ci := 4) (lst := ft4 d 0) (C := RX4) (F := TX4) (N := 5) hx hb hts uX4 hown hkb hH t_a0 (hO.no t_a0 (by decide)) (fun _ h9 => h9) rfl rfl 2 (by decide) rfl kw_214 (fun _ h9 => h9) dX4_readUsed_36 (fun v9 h9 => ?_)
      have h9 : v9 = .ref d := h9
      subst h9
      refine tk_i hH hS hA (tr_V (n := 0) (As := []) hx hb hml hown hts hkb hH (ox_map hOX rfl) hks hE hS hA (s_Wall_middles3 l D cs kf T O X d [.ref y0, .int y1, .int n4_0_2, .int n4_0_3, .int n4_0_4, .int n4_0_5, .int y6, .int y7] ft z0 z1 z2 z3 z4 z5 z6 z7 z8 z9 z10 z12 z13 tk y0 t_d (by omega) (by omega) (by omega) (by omega) (by omega) (by omega) (by omega) (by omega) (by omega) (by omega) t_z6 t_z7 t_z8 t_z9 t_z10 (by omega) (by omega) (by omega) (by omega) (hO.sub (by decide))) kw_682 kw_683 kw_684 kw_5 kw_685 (by decide +kernel) ⟨Nat.le_of_ble_eq_true rfl, Nat.le_of_ble_eq_true rfl⟩ (x_recv (ci := 9) hkb hH 2 rfl rfl) rfl rfl hl.1 (Nat.le_of_ble_eq_true rfl) dX4_readUsed_39 ⟨Nat.le_of_ble_eq_true rfl, Nat.le_of_ble_eq_true rfl⟩) (fun v39 u H locs hz9 hH hS => ?_)
      obtain ⟨rfl, l_v39, u_v39, x_v390⟩ := hz9
      have hH : HT D cs A T (tk :: y0 :: d :: O) ((tk, .inr (7, [.ref y0, .int y1, .int n4_0_2, .int n4_0_3, .int n4_0_4, .int n4_0_5, .int y6, .int y7])) :: (y0, .inl (cs.1, 900, .inl ft)) :: (d, .inr (9, [.int z0, .int z1, .int z2, .int z3, .int z4, .int z5, .ref z6, .ref z7, .ref z8, .ref z9, .ref z10, .null, .int z12, .int z13])) :: X) H := hH
      refine W.widen (k := 0) (n := 0) (Nat.le_of_ble_eq_true rfl) (Nat.le_of_ble_eq_true rfl) ?_
      refine lv_aload_n hx hb dX4_readUsed_42 rfl (lv_at hl 0 rfl) ?_
      refine t_get (ci := 4) (lst := ft4 d 0) (C := RX4) (F := TX4) (N := 5) hx hb hts uX4 hown hkb hH t_a0 (hO.no t_a0 (by decide)) (fun _ h9 => h9) rfl rfl 0 (by decide) rfl kw_211 (fun _ h9 => h9) dX4_readUsed_43 (fun v9 h9 => ?_)
      obtain ⟨v43, rfl, t_v43⟩ := h9
      have e9 := (hU7 _ _ t_v43).symm
      subst e9
      refine x_getk (ci := 7) (C := RX7) (F := TX7) (N := 8) (v := .int n4_0_5) hx hb hts uX7 hown hkb hH 0 rfl rfl 5 (by decide) rfl kw_52 (fun _ h9 => h9) dX4_readUsed_46 ?_
      refine lv_ishr hx hb dX4_readUsed_49 ?_
      refine lv_topi (fun v49 ev49 => ?_)
      have tv49 : 0 ≤ v49.toInt ∧ v49.toInt ≤ v39.toInt := by rw [ev49]; exact shr_b (by omega)
      refine lv_iconst (v := 1) hx hb dX4_readUsed_50 (by decide) ?_
      refine lv_iand hx hb dX4_readUsed_51 ?_
      refine lv_topi (fun v51 ev51 => ?_)
      have tv51 : 0 ≤ v51.toInt ∧ v51.toInt ≤ 1 := by rw [ev51]; exact and_r (by decide)
      have hm9 := MID.bit x_v390 (k := n4_0_5) (by omega) (by omega) (by omega) ev49 ev51
      refine lv_if_ne (tgt := 64) hx hb dX4_readUsed_52 (by decide) (fun c52 => ?_) (fun c52 => ?_)
      · skip
        have tc52 := f_ne (k := 0) (by decide) c52
        refine lv_aload_n hx hb dX4_readUsed_64 rfl (lv_at hl 0 rfl) ?_
        refine t_get (ci := 4) (lst := ft4 d 0) (C := RX4) (F := TX4) (N := 5) hx hb hts uX4 hown hkb hH t_a0 (hO.no t_a0 (by decide)) (fun _ h9 => h9) rfl rfl 0 (by decide) rfl kw_211 (fun _ h9 => h9) dX4_readUsed_65 (fun v9 h9 => ?_)
        obtain ⟨v65, rfl, t_v65⟩ := h9
        have e9 := (hU7 _ _ t_v65).symm
        subst e9
        refine lv_aload_n hx hb dX4_readUsed_68 rfl (lv_at hl 0 rfl) ?_
        refine t_get (ci := 4) (lst := ft4 d 0) (C := RX4) (F := TX4) (N := 5) hx hb hts uX4 hown hkb hH t_a0 (hO.no t_a0 (by decide)) (fun _ h9 => h9) rfl rfl 2 (by decide) rfl kw_214 (fun _ h9 => h9) dX4_readUsed_69 (fun v9 h9 => ?_)
        have h9 : v9 = .ref d := h9
        subst h9
        refine x_getk (ci := 9) (C := RX9) (F := TX9) (N := 14) (v := .int z0) hx hb hts uX9 hown hkb hH 2 rfl rfl 0 (by decide) rfl kw_108 (fun _ h9 => h9) dX4_readUsed_72 ?_
        refine lv_iconst (v := 1) hx hb dX4_readUsed_75 (by decide) ?_
        refine lv_isub hx hb dX4_readUsed_76 ?_
        refine lv_topi (fun v76 ev76 => ?_)
        have tv76 : v76.toInt = z0.toInt - (1) := by rw [ev76]; exact sub_i rfl (by decide : (1 : Int32).toInt = 1) (by omega) (by omega)
        refine tk_i hH hS hA (tr_V (n := 1) (As := [.int v76]) hx hb hml hown hts hkb hH (ox_map hOX rfl) hks hE hS hA (s_Tok_takeNumber l D cs kf T (d :: O) ((d, .inr (9, [.int z0, .int z1, .int z2, .int z3, .int z4, .int z5, .ref z6, .ref z7, .ref z8, .ref z9, .ref z10, .null, .int z12, .int z13])) :: X) tk v76 y0 y1 n4_0_2 n4_0_3 n4_0_4 n4_0_5 y6 y7 ft t tn t_tk (by omega) (by omega) t_y0 (by omega) (by omega) (by omega) (by omega) (by omega) (by omega) (by omega) htb x_v40 (hO.sub (by decide))) kw_584 kw_585 kw_586 kw_3 kw_587 (by decide +kernel) ⟨Nat.le_of_ble_eq_true rfl, Nat.le_of_ble_eq_true rfl⟩ (x_recv (ci := 7) hkb hH 0 rfl rfl) rfl rfl hl.1 (Nat.le_of_ble_eq_true rfl) dX4_readUsed_77 ⟨Nat.le_of_ble_eq_true rfl, Nat.le_of_ble_eq_true rfl⟩) (fun v77 u H locs hz9 hH hS => ?_)
        obtain ⟨n77_0_2, n77_0_3, n77_0_4, n77_0_5, n77_0_6, n77_0_7, rfl, l_v77, u_v77, x_v770, x_v771, x_v772, x_v773⟩ := hz9
        have hH : HT D cs A T (tk :: y0 :: d :: O) ((tk, .inr (7, [.ref y0, .int y1, .int n77_0_2, .int n77_0_3, .int n77_0_4, .int n77_0_5, .int n77_0_6, .int n77_0_7])) :: (y0, .inl (cs.1, 900, .inl ft)) :: (d, .inr (9, [.int z0, .int z1, .int z2, .int z3, .int z4, .int z5, .ref z6, .ref z7, .ref z8, .ref z9, .ref z10, .null, .int z12, .int z13])) :: X) H := hH
        refine W.widen (k := 0) (n := 0) (Nat.le_of_ble_eq_true rfl) (Nat.le_of_ble_eq_true rfl) ?_
        refine lv_istore_n (lv' := [(1, .int v77), (0, .ref a0)]) hx hb dX4_readUsed_80 rfl hl (by decide) rfl (fun ls hl => ?_)
        refine lv_iload_n hx hb dX4_readUsed_81 rfl (lv_at hl 0 rfl) ?_
        refine lv_iconst (v := (-1)) hx hb dX4_readUsed_82 (by decide) ?_
        refine lv_icmp_eq (tgt := 98) hx hb dX4_readUsed_83 (by decide) (fun c83 => ?_) (fun c83 => ?_)
        · skip
          have tc83 := f_eq (k := -1) (by decide) c83
          clear x_v770
          clear x_v773
          replace x_v771 := x_v771.resolve_left (fun q9 => q9 tc83)
          refine lv_iconst (v := 0) hx hb dX4_readUsed_98 (by decide) ?_
          have z9_0 : (0 : Int32).toInt = 0 := by decide
          exact te_z hx hb hr hlocks (by rfl) hH hS (⟨n77_0_2, n77_0_3, n77_0_4, n77_0_5, n77_0_6, n77_0_7, rfl, by decide, by decide, Or.inl (by decide), (Or.inr (by first | (refine (g7.ap (G := [(20, 30)])).bd (BR.cons (BR_hb (v := n4_0_5) ?_ ?_ (hm9.mp tc52) x_v600 x_v601 ?_)) <;> omega) | (refine (g7.ap (G := [(20, 30)])).bd (BR.cons (BR_h (m := v76) ?_ ?_ x_v771.1 x_v771.2.1 x_v771.2.2 ?_)) <;> omega) | (refine (g86.ap (G := [(20, 30)])).bd (BR.cons (BR_f (G := []) (fun _ => st_xN x_v921.1) x_v921.2.1 (by decide) x_v921.2.2 ?_)); omega) | (refine (g100.ap (G := [(20, 30)])).bd (BR.cons (BR_g (m := v112) ?_ x_v1131.1 x_v1131.2.1 x_v1131.2.2 ?_)); show v112.toInt = ((z1.toInt.toNat : Nat) : Int) - 1; omega; omega))), (by omega)⟩) dX4_readUsed_99
        · skip
          have tc83 := f_ne (k := -1) (by decide) c83
          replace x_v770 := x_v770.resolve_left tc83
          replace x_v773 := x_v773.resolve_left tc83
          clear x_v771
          have hbt : ¬ (z3 ||| z4).toBitVec.getLsbD v77.toInt.toNat = true := by first | (exfalso; omega) | (intro q9; have q8 : v77 = n4_0_5 := Int32.toInt_inj.mp (by omega); rw [q8] at q9; exact tc52 (hm9.mpr q9))
          have g86 : GR t tn [(31, 0)] [(20, 6), (36, 0)] (RZ z0 z1 z3 z4 z2) (RZ z0 z1 z3 z4 z2) y2 n77_0_2 := g7.tr (GR.cons (GR_h (m := v76) (by omega) x_v770.2.2.1 x_v770.2.2.2.1 x_v770.2.2.2.2.1 (by omega) hbt x_v770.2.1))
          refine lv_aload_n hx hb dX4_readUsed_86 rfl (lv_at hl 1 rfl) ?_
          refine t_get (ci := 4) (lst := ft4 d 0) (C := RX4) (F := TX4) (N := 5) hx hb hts uX4 hown hkb hH t_a0 (hO.no t_a0 (by decide)) (fun _ h9 => h9) rfl rfl 0 (by decide) rfl kw_211 (fun _ h9 => h9) dX4_readUsed_87 (fun v9 h9 => ?_)
          obtain ⟨v87, rfl, t_v87⟩ := h9
          have e9 := (hU7 _ _ t_v87).symm
          subst e9
          refine va_ldcS (q := kf.1 18) hx hb hown (hks ("FootholdWall$Reader", 178, "by", 18) (by decide +kernel)) dX4_readUsed_90 ?_
          refine tk_i hH hS hA (tr_V (n := 1) (As := [.ref (kf.1 18)]) hx hb hml hown hts hkb hH (ox_map hOX rfl) hks hE hS hA (s_Tok_takeWord l D cs kf T (d :: O) ((d, .inr (9, [.int z0, .int z1, .int z2, .int z3, .int z4, .int z5, .ref z6, .ref z7, .ref z8, .ref z9, .ref z10, .null, .int z12, .int z13])) :: X) tk 18 y0 y1 n77_0_2 n77_0_3 n77_0_4 n77_0_5 n77_0_6 n77_0_7 ft t tn 6 t_tk (by decide) t_y0 (by omega) (by omega) (by omega) (by omega) (by omega) (by omega) (by omega) htb x_v770.1 (by decide) (by decide) (hO.sub (by decide))) kw_603 kw_604 kw_605 kw_3 kw_606 (by decide +kernel) ⟨Nat.le_of_ble_eq_true rfl, Nat.le_of_ble_eq_true rfl⟩ (x_recv (ci := 7) hkb hH 0 rfl rfl) rfl rfl hl.1 (Nat.le_of_ble_eq_true rfl) dX4_readUsed_92 ⟨Nat.le_of_ble_eq_true rfl, Nat.le_of_ble_eq_true rfl⟩) (fun v92 u H locs hz9 hH hS => ?_)
          obtain ⟨n92_0_2, n92_0_3, n92_0_4, n92_0_5, n92_0_6, n92_0_7, rfl, l_v92, u_v92, x_v920, x_v921, x_v922⟩ := hz9
          have hH : HT D cs A T (tk :: y0 :: d :: O) ((tk, .inr (7, [.ref y0, .int y1, .int n92_0_2, .int n92_0_3, .int n92_0_4, .int n92_0_5, .int n92_0_6, .int n92_0_7])) :: (y0, .inl (cs.1, 900, .inl ft)) :: (d, .inr (9, [.int z0, .int z1, .int z2, .int z3, .int z4, .int z5, .ref z6, .ref z7, .ref z8, .ref z9, .ref z10, .null, .int z12, .int z13])) :: X) H := hH
          refine W.widen (k := 0) (n := 0) (Nat.le_of_ble_eq_true rfl) (Nat.le_of_ble_eq_true rfl) ?_
          refine lv_if_ne (tgt := 100) hx hb dX4_readUsed_95 (by decide) (fun c95 => ?_) (fun c95 => ?_)
          · skip
            have tc95 := f_ne (k := 0) (by decide) c95
            replace x_v920 := x_v920.resolve_left tc95
            clear x_v921
            have g100 : GR t tn [(31, 0)] [(36, 0)] (RZ z0 z1 z3 z4 z2) (RZ z0 z1 z3 z4 z2) y2 n92_0_2 := g86.tr (GR.cons (GR_nx (fun _ => st_xY x_v920.2.2.1) x_v920.2.1))
            refine lv_aload_n hx hb dX4_readUsed_100 rfl (lv_at hl 1 rfl) ?_
            refine t_get (ci := 4) (lst := ft4 d 0) (C := RX4) (F := TX4) (N := 5) hx hb hts uX4 hown hkb hH t_a0 (hO.no t_a0 (by decide)) (fun _ h9 => h9) rfl rfl 0 (by decide) rfl kw_211 (fun _ h9 => h9) dX4_readUsed_101 (fun v9 h9 => ?_)
            obtain ⟨v101, rfl, t_v101⟩ := h9
            have e9 := (hU7 _ _ t_v101).symm
            subst e9
            refine lv_aload_n hx hb dX4_readUsed_104 rfl (lv_at hl 1 rfl) ?_
            refine t_get (ci := 4) (lst := ft4 d 0) (C := RX4) (F := TX4) (N := 5) hx hb hts uX4 hown hkb hH t_a0 (hO.no t_a0 (by decide)) (fun _ h9 => h9) rfl rfl 2 (by decide) rfl kw_214 (fun _ h9 => h9) dX4_readUsed_105 (fun v9 h9 => ?_)
            have h9 : v9 = .ref d := h9
            subst h9
            refine x_getk (ci := 9) (C := RX9) (F := TX9) (N := 14) (v := .int z1) hx hb hts uX9 hown hkb hH 2 rfl rfl 1 (by decide) rfl kw_111 (fun _ h9 => h9) dX4_readUsed_108 ?_
            refine lv_iconst (v := 1) hx hb dX4_readUsed_111 (by decide) ?_
            refine lv_isub hx hb dX4_readUsed_112 ?_
            refine lv_topi (fun v112 ev112 => ?_)
            have tv112 : v112.toInt = z1.toInt - (1) := by rw [ev112]; exact sub_i rfl (by decide : (1 : Int32).toInt = 1) (by omega) (by omega)
            refine tk_i hH hS hA (tr_V (n := 1) (As := [.int v112]) hx hb hml hown hts hkb hH (ox_map hOX rfl) hks hE hS hA (s_Tok_takeNumber l D cs kf T (d :: O) ((d, .inr (9, [.int z0, .int z1, .int z2, .int z3, .int z4, .int z5, .ref z6, .ref z7, .ref z8, .ref z9, .ref z10, .null, .int z12, .int z13])) :: X) tk v112 y0 y1 n92_0_2 n92_0_3 n92_0_4 n92_0_5 n92_0_6 n92_0_7 ft t tn t_tk (by omega) (by omega) t_y0 (by omega) (by omega) (by omega) (by omega) (by omega) (by omega) (by omega) htb x_v920.1 (hO.sub (by decide))) kw_584 kw_585 kw_586 kw_3 kw_587 (by decide +kernel) ⟨Nat.le_of_ble_eq_true rfl, Nat.le_of_ble_eq_true rfl⟩ (x_recv (ci := 7) hkb hH 0 rfl rfl) rfl rfl hl.1 (Nat.le_of_ble_eq_true rfl) dX4_readUsed_113 ⟨Nat.le_of_ble_eq_true rfl, Nat.le_of_ble_eq_true rfl⟩) (fun v113 u H locs hz9 hH hS => ?_)
            obtain ⟨n113_0_2, n113_0_3, n113_0_4, n113_0_5, n113_0_6, n113_0_7, rfl, l_v113, u_v113, x_v1130, x_v1131, x_v1132, x_v1133⟩ := hz9
            have hH : HT D cs A T (tk :: y0 :: d :: O) ((tk, .inr (7, [.ref y0, .int y1, .int n113_0_2, .int n113_0_3, .int n113_0_4, .int n113_0_5, .int n113_0_6, .int n113_0_7])) :: (y0, .inl (cs.1, 900, .inl ft)) :: (d, .inr (9, [.int z0, .int z1, .int z2, .int z3, .int z4, .int z5, .ref z6, .ref z7, .ref z8, .ref z9, .ref z10, .null, .int z12, .int z13])) :: X) H := hH
            refine W.widen (k := 0) (n := 0) (Nat.le_of_ble_eq_true rfl) (Nat.le_of_ble_eq_true rfl) ?_
            refine lv_istore_n (lv' := [(2, .int v113), (1, .int v77), (0, .ref a0)]) hx hb dX4_readUsed_116 rfl hl (by decide) rfl (fun ls hl => ?_)
            refine lv_iload_n hx hb dX4_readUsed_117 rfl (lv_at hl 0 rfl) ?_
            refine lv_iconst (v := (-1)) hx hb dX4_readUsed_118 (by decide) ?_
            refine lv_icmp_ne (tgt := 124) hx hb dX4_readUsed_119 (by decide) (fun c119 => ?_) (fun c119 => ?_)
            · skip
              have tc119 := f_ne (k := -1) (by decide) c119
              replace x_v1130 := x_v1130.resolve_left tc119
              replace x_v1133 := x_v1133.resolve_left tc119
              clear x_v1131
              refine lv_aload_n hx hb dX4_readUsed_124 rfl (lv_at hl 2 rfl) ?_
              refine t_get (ci := 4) (lst := ft4 d 0) (C := RX4) (F := TX4) (N := 5) hx hb hts uX4 hown hkb hH t_a0 (hO.no t_a0 (by decide)) (fun _ h9 => h9) rfl rfl 4 (by decide) rfl kw_216 (fun _ h9 => h9) dX4_readUsed_125 (fun v9 h9 => ?_)
              obtain ⟨v125, rfl, t_v125⟩ := h9
              refine lv_iconst (v := 1) hx hb dX4_readUsed_128 (by decide) ?_
              refine lv_iload_n hx hb dX4_readUsed_129 rfl (lv_at hl 1 rfl) ?_
              refine lv_ishl hx hb dX4_readUsed_130 ?_
              refine lv_topi (fun v130 ev130 => ?_)
              refine lv_iload_n hx hb dX4_readUsed_131 rfl (lv_at hl 0 rfl) ?_
              refine tk_i hH hS hA (tr_V (n := 2) (As := [.int v130, .int v113]) hx hb hml hown hts hkb hH (ox_map hOX rfl) hks hE hS hA (s_State_use l D cs kf T (tk :: y0 :: d :: O) ((tk, .inr (7, [.ref y0, .int y1, .int n113_0_2, .int n113_0_3, .int n113_0_4, .int n113_0_5, .int n113_0_6, .int n113_0_7])) :: (y0, .inl (cs.1, 900, .inl ft)) :: (d, .inr (9, [.int z0, .int z1, .int z2, .int z3, .int z4, .int z5, .ref z6, .ref z7, .ref z8, .ref z9, .ref z10, .null, .int z12, .int z13])) :: X) v125 v130 v113 t_v125 (hO.sub (by decide))) kw_687 kw_688 kw_689 kw_7 kw_690 (by decide +kernel) ⟨Nat.le_of_ble_eq_true rfl, Nat.le_of_ble_eq_true rfl⟩ (HT.recv (ci := 6) hkb hH t_v125 (hO.no t_v125 (by decide)) rfl) rfl rfl hl.1 (Nat.le_of_ble_eq_true rfl) dX4_readUsed_132 ⟨Nat.le_of_ble_eq_true rfl, Nat.le_of_ble_eq_true rfl⟩) (fun v132 u H locs hz9 hH hS => ?_)
              obtain ⟨rfl, l_v132, u_v132⟩ := hz9
              have hH : HT D cs A T (tk :: y0 :: d :: O) ((tk, .inr (7, [.ref y0, .int y1, .int n113_0_2, .int n113_0_3, .int n113_0_4, .int n113_0_5, .int n113_0_6, .int n113_0_7])) :: (y0, .inl (cs.1, 900, .inl ft)) :: (d, .inr (9, [.int z0, .int z1, .int z2, .int z3, .int z4, .int z5, .ref z6, .ref z7, .ref z8, .ref z9, .ref z10, .null, .int z12, .int z13])) :: X) H := hH
              refine W.widen (k := 0) (n := 0) (Nat.le_of_ble_eq_true rfl) (Nat.le_of_ble_eq_true rfl) ?_
              refine lv_pop hx hb dX4_readUsed_135 rfl ?_
              refine lv_iconst (v := 1) hx hb dX4_readUsed_136 (by decide) ?_
              have z9_1 : (1 : Int32).toInt = 1 := by decide
              exact te_z hx hb hr hlocks (by rfl) hH hS (⟨n113_0_2, n113_0_3, n113_0_4, n113_0_5, n113_0_6, n113_0_7, rfl, by decide, by decide, (Or.inr ⟨x_v1130.1, by omega, by omega, by omega, (by first | (refine g100.tr (GR_g (m := v112) ?_ x_v1130.2.2.1 x_v1130.2.2.2.1 x_v1130.2.2.2.2.1 x_v1130.2.1); show v112.toInt = ((z1.toInt.toNat : Nat) : Int) - 1; omega))⟩), Or.inl (by decide), (by omega)⟩) dX4_readUsed_137
            · skip
              have tc119 := f_eq (k := -1) (by decide) c119
              clear x_v1130
              clear x_v1133
              replace x_v1131 := x_v1131.resolve_left (fun q9 => q9 tc119)
              refine lv_iconst (v := 0) hx hb dX4_readUsed_122 (by decide) ?_
              have z9_0 : (0 : Int32).toInt = 0 := by decide
              exact te_z hx hb hr hlocks (by rfl) hH hS (⟨n113_0_2, n113_0_3, n113_0_4, n113_0_5, n113_0_6, n113_0_7, rfl, by decide, by decide, Or.inl (by decide), (Or.inr (by first | (refine (g7.ap (G := [(20, 30)])).bd (BR.cons (BR_hb (v := n4_0_5) ?_ ?_ (hm9.mp tc52) x_v600 x_v601 ?_)) <;> omega) | (refine (g7.ap (G := [(20, 30)])).bd (BR.cons (BR_h (m := v76) ?_ ?_ x_v771.1 x_v771.2.1 x_v771.2.2 ?_)) <;> omega) | (refine (g86.ap (G := [(20, 30)])).bd (BR.cons (BR_f (G := []) (fun _ => st_xN x_v921.1) x_v921.2.1 (by decide) x_v921.2.2 ?_)); omega) | (refine (g100.ap (G := [(20, 30)])).bd (BR.cons (BR_g (m := v112) ?_ x_v1131.1 x_v1131.2.1 x_v1131.2.2 ?_)); show v112.toInt = ((z1.toInt.toNat : Nat) : Int) - 1; omega; omega))), (by omega)⟩) dX4_readUsed_123
          · skip
            have tc95 := f_eq (k := 0) (by decide) c95
            clear x_v920
            replace x_v921 := x_v921.resolve_left (fun q9 => q9 tc95)
            refine lv_iconst (v := 0) hx hb dX4_readUsed_98 (by decide) ?_
            have z9_0 : (0 : Int32).toInt = 0 := by decide
            exact te_z hx hb hr hlocks (by rfl) hH hS (⟨n92_0_2, n92_0_3, n92_0_4, n92_0_5, n92_0_6, n92_0_7, rfl, by decide, by decide, Or.inl (by decide), (Or.inr (by first | (refine (g7.ap (G := [(20, 30)])).bd (BR.cons (BR_hb (v := n4_0_5) ?_ ?_ (hm9.mp tc52) x_v600 x_v601 ?_)) <;> omega) | (refine (g7.ap (G := [(20, 30)])).bd (BR.cons (BR_h (m := v76) ?_ ?_ x_v771.1 x_v771.2.1 x_v771.2.2 ?_)) <;> omega) | (refine (g86.ap (G := [(20, 30)])).bd (BR.cons (BR_f (G := []) (fun _ => st_xN x_v921.1) x_v921.2.1 (by decide) x_v921.2.2 ?_)); omega) | (refine (g100.ap (G := [(20, 30)])).bd (BR.cons (BR_g (m := v112) ?_ x_v1131.1 x_v1131.2.1 x_v1131.2.2 ?_)); show v112.toInt = ((z1.toInt.toNat : Nat) : Int) - 1; omega; omega))), (by omega)⟩) dX4_readUsed_99
      · skip
        have tc52 := f_eq (k := 0) (by decide) c52
        refine lv_aload_n hx hb dX4_readUsed_55 rfl (lv_at hl 0 rfl) ?_
        refine t_get (ci := 4) (lst := ft4 d 0) (C := RX4) (F := TX4) (N := 5) hx hb hts uX4 hown hkb hH t_a0 (hO.no t_a0 (by decide)) (fun _ h9 => h9) rfl rfl 0 (by decide) rfl kw_211 (fun _ h9 => h9) dX4_readUsed_56 (fun v9 h9 => ?_)
        obtain ⟨v56, rfl, t_v56⟩ := h9
        have e9 := (hU7 _ _ t_v56).symm
        subst e9
        refine lv_iconst (v := 3) hx hb dX4_readUsed_59 (by decide) ?_
        have z9_3 : (3 : Int32).toInt = 3 := by decide
        refine tk_i hH hS hA (tr_V (n := 1) (As := [.int 3]) hx hb hml hown hts hkb hH (ox_map hOX rfl) hks hE hS hA (s_Tok_refuse l D cs kf T (d :: O) ((d, .inr (9, [.int z0, .int z1, .int z2, .int z3, .int z4, .int z5, .ref z6, .ref z7, .ref z8, .ref z9, .ref z10, .null, .int z12, .int z13])) :: X) tk (3) y0 y1 n4_0_2 n4_0_3 n4_0_4 n4_0_5 y6 y7 ft t tn t_tk t_y0 (by omega) (by omega) (by omega) (by omega) (by omega) (by omega) (by omega) htb x_v40 (hO.sub (by decide))) kw_579 kw_580 kw_581 kw_3 kw_582 (by decide +kernel) ⟨Nat.le_of_ble_eq_true rfl, Nat.le_of_ble_eq_true rfl⟩ (x_recv (ci := 7) hkb hH 0 rfl rfl) rfl rfl hl.1 (Nat.le_of_ble_eq_true rfl) dX4_readUsed_60 ⟨Nat.le_of_ble_eq_true rfl, Nat.le_of_ble_eq_true rfl⟩) (fun v60 u H locs hz9 hH hS => ?_)
        obtain ⟨n60_0_6, n60_0_7, rfl, l_v60, u_v60, x_v600, x_v601⟩ := hz9
        have hH : HT D cs A T (tk :: y0 :: d :: O) ((tk, .inr (7, [.ref y0, .int y1, .int n4_0_2, .int n4_0_3, .int n4_0_4, .int n4_0_5, .int n60_0_6, .int n60_0_7])) :: (y0, .inl (cs.1, 900, .inl ft)) :: (d, .inr (9, [.int z0, .int z1, .int z2, .int z3, .int z4, .int z5, .ref z6, .ref z7, .ref z8, .ref z9, .ref z10, .null, .int z12, .int z13])) :: X) H := hH
        refine W.widen (k := 0) (n := 0) (Nat.le_of_ble_eq_true rfl) (Nat.le_of_ble_eq_true rfl) ?_
        exact te_z hx hb hr hlocks (nar01 (by omega) (by omega)) hH hS (⟨n4_0_2, n4_0_3, n4_0_4, n4_0_5, n60_0_6, n60_0_7, rfl, by omega, by omega, (Or.inl (by omega)), (Or.inr (by first | (refine (g7.ap (G := [(20, 30)])).bd (BR.cons (BR_hb (v := n4_0_5) ?_ ?_ (hm9.mp tc52) x_v600 x_v601 ?_)) <;> omega) | (refine (g7.ap (G := [(20, 30)])).bd (BR.cons (BR_h (m := v76) ?_ ?_ x_v771.1 x_v771.2.1 x_v771.2.2 ?_)) <;> omega) | (refine (g86.ap (G := [(20, 30)])).bd (BR.cons (BR_f (G := []) (fun _ => st_xN x_v921.1) x_v921.2.1 (by decide) x_v921.2.2 ?_)); omega) | (refine (g100.ap (G := [(20, 30)])).bd (BR.cons (BR_g (m := v112) ?_ x_v1131.1 x_v1131.2.1 x_v1131.2.2 ?_)); show v112.toInt = ((z1.toInt.toNat : Nat) : Int) - 1; omega; omega))), (by omega)⟩) dX4_readUsed_63
theorem dX4_readLine_0 : decode cX4_readLine 0 = .ok (.aload_n 0, 1) := by decide +kernel
theorem dX4_readLine_1 : decode cX4_readLine 1 = .ok (.getfield 12, 3) := by decide +kernel
theorem dX4_readLine_4 : decode cX4_readLine 4 = .ok (.ldc 81, 2) := by decide +kernel
theorem dX4_readLine_6 : decode cX4_readLine 6 = .ok (.invokevirtual 83, 3) := by decide +kernel
theorem dX4_readLine_9 : decode cX4_readLine 9 = .ok (.ifCond .eq 8, 3) := by decide +kernel
theorem dX4_readLine_12 : decode cX4_readLine 12 = .ok (.aload_n 0, 1) := by decide +kernel
theorem dX4_readLine_13 : decode cX4_readLine 13 = .ok (.invokevirtual 87, 3) := by decide +kernel
theorem dX4_readLine_16 : decode cX4_readLine 16 = .ok (.ireturn, 1) := by decide +kernel
theorem dX4_readLine_17 : decode cX4_readLine 17 = .ok (.aload_n 0, 1) := by decide +kernel
theorem dX4_readLine_18 : decode cX4_readLine 18 = .ok (.getfield 12, 3) := by decide +kernel
theorem dX4_readLine_21 : decode cX4_readLine 21 = .ok (.ldc 90, 2) := by decide +kernel
theorem dX4_readLine_23 : decode cX4_readLine 23 = .ok (.invokevirtual 83, 3) := by decide +kernel
theorem dX4_readLine_26 : decode cX4_readLine 26 = .ok (.ifCond .eq 8, 3) := by decide +kernel
theorem dX4_readLine_29 : decode cX4_readLine 29 = .ok (.aload_n 0, 1) := by decide +kernel
theorem dX4_readLine_30 : decode cX4_readLine 30 = .ok (.invokevirtual 92, 3) := by decide +kernel
theorem dX4_readLine_33 : decode cX4_readLine 33 = .ok (.ireturn, 1) := by decide +kernel
theorem dX4_readLine_34 : decode cX4_readLine 34 = .ok (.aload_n 0, 1) := by decide +kernel
theorem dX4_readLine_35 : decode cX4_readLine 35 = .ok (.getfield 12, 3) := by decide +kernel
theorem dX4_readLine_38 : decode cX4_readLine 38 = .ok (.ldc 95, 2) := by decide +kernel
theorem dX4_readLine_40 : decode cX4_readLine 40 = .ok (.invokevirtual 83, 3) := by decide +kernel
theorem dX4_readLine_43 : decode cX4_readLine 43 = .ok (.ifCond .eq 43, 3) := by decide +kernel
theorem dX4_readLine_46 : decode cX4_readLine 46 = .ok (.aload_n 0, 1) := by decide +kernel
theorem dX4_readLine_47 : decode cX4_readLine 47 = .ok (.getfield 12, 3) := by decide +kernel
theorem dX4_readLine_50 : decode cX4_readLine 50 = .ok (.invokevirtual 97, 3) := by decide +kernel
theorem dX4_readLine_53 : decode cX4_readLine 53 = .ok (.aload_n 0, 1) := by decide +kernel
theorem dX4_readLine_54 : decode cX4_readLine 54 = .ok (.iconst 1, 1) := by decide +kernel
theorem dX4_readLine_55 : decode cX4_readLine 55 = .ok (.putfield 36, 3) := by decide +kernel
theorem dX4_readLine_58 : decode cX4_readLine 58 = .ok (.aload_n 0, 1) := by decide +kernel
theorem dX4_readLine_59 : decode cX4_readLine 59 = .ok (.getfield 12, 3) := by decide +kernel
theorem dX4_readLine_62 : decode cX4_readLine 62 = .ok (.bipush 58, 2) := by decide +kernel
theorem dX4_readLine_64 : decode cX4_readLine 64 = .ok (.invokevirtual 63, 3) := by decide +kernel
theorem dX4_readLine_67 : decode cX4_readLine 67 = .ok (.ifCond .eq 17, 3) := by decide +kernel
theorem dX4_readLine_70 : decode cX4_readLine 70 = .ok (.aload_n 0, 1) := by decide +kernel
theorem dX4_readLine_71 : decode cX4_readLine 71 = .ok (.getfield 23, 3) := by decide +kernel
theorem dX4_readLine_74 : decode cX4_readLine 74 = .ok (.invokevirtual 100, 3) := by decide +kernel
theorem dX4_readLine_77 : decode cX4_readLine 77 = .ok (.ifCond .eq 7, 3) := by decide +kernel
theorem dX4_readLine_80 : decode cX4_readLine 80 = .ok (.iconst 1, 1) := by decide +kernel
theorem dX4_readLine_81 : decode cX4_readLine 81 = .ok (.goto 4, 3) := by decide +kernel
theorem dX4_readLine_84 : decode cX4_readLine 84 = .ok (.iconst 0, 1) := by decide +kernel
theorem dX4_readLine_85 : decode cX4_readLine 85 = .ok (.ireturn, 1) := by decide +kernel
theorem dX4_readLine_86 : decode cX4_readLine 86 = .ok (.aload_n 0, 1) := by decide +kernel
theorem dX4_readLine_87 : decode cX4_readLine 87 = .ok (.getfield 12, 3) := by decide +kernel
theorem dX4_readLine_90 : decode cX4_readLine 90 = .ok (.ldc 103, 2) := by decide +kernel
theorem dX4_readLine_92 : decode cX4_readLine 92 = .ok (.invokevirtual 83, 3) := by decide +kernel
theorem dX4_readLine_95 : decode cX4_readLine 95 = .ok (.ifCond .eq 8, 3) := by decide +kernel
theorem dX4_readLine_98 : decode cX4_readLine 98 = .ok (.aload_n 0, 1) := by decide +kernel
theorem dX4_readLine_99 : decode cX4_readLine 99 = .ok (.invokevirtual 105, 3) := by decide +kernel
theorem dX4_readLine_102 : decode cX4_readLine 102 = .ok (.ireturn, 1) := by decide +kernel
theorem dX4_readLine_103 : decode cX4_readLine 103 = .ok (.aload_n 0, 1) := by decide +kernel
theorem dX4_readLine_104 : decode cX4_readLine 104 = .ok (.getfield 12, 3) := by decide +kernel
theorem dX4_readLine_107 : decode cX4_readLine 107 = .ok (.ldc 108, 2) := by decide +kernel
theorem dX4_readLine_109 : decode cX4_readLine 109 = .ok (.invokevirtual 83, 3) := by decide +kernel
theorem dX4_readLine_112 : decode cX4_readLine 112 = .ok (.ifCond .eq 8, 3) := by decide +kernel
theorem dX4_readLine_115 : decode cX4_readLine 115 = .ok (.aload_n 0, 1) := by decide +kernel
theorem dX4_readLine_116 : decode cX4_readLine 116 = .ok (.invokevirtual 110, 3) := by decide +kernel
theorem dX4_readLine_119 : decode cX4_readLine 119 = .ok (.ireturn, 1) := by decide +kernel
theorem dX4_readLine_120 : decode cX4_readLine 120 = .ok (.aload_n 0, 1) := by decide +kernel
theorem dX4_readLine_121 : decode cX4_readLine 121 = .ok (.getfield 12, 3) := by decide +kernel
theorem dX4_readLine_124 : decode cX4_readLine 124 = .ok (.ldc 113, 2) := by decide +kernel
theorem dX4_readLine_126 : decode cX4_readLine 126 = .ok (.invokevirtual 83, 3) := by decide +kernel
theorem dX4_readLine_129 : decode cX4_readLine 129 = .ok (.ifCond .eq 44, 3) := by decide +kernel
theorem dX4_readLine_132 : decode cX4_readLine 132 = .ok (.aload_n 0, 1) := by decide +kernel
theorem dX4_readLine_133 : decode cX4_readLine 133 = .ok (.getfield 12, 3) := by decide +kernel
theorem dX4_readLine_136 : decode cX4_readLine 136 = .ok (.invokevirtual 97, 3) := by decide +kernel
theorem dX4_readLine_139 : decode cX4_readLine 139 = .ok (.aload_n 0, 1) := by decide +kernel
theorem dX4_readLine_140 : decode cX4_readLine 140 = .ok (.getfield 43, 3) := by decide +kernel
theorem dX4_readLine_143 : decode cX4_readLine 143 = .ok (.aload_n 0, 1) := by decide +kernel
theorem dX4_readLine_144 : decode cX4_readLine 144 = .ok (.getfield 12, 3) := by decide +kernel
theorem dX4_readLine_147 : decode cX4_readLine 147 = .ok (.sipush 999, 3) := by decide +kernel
theorem dX4_readLine_150 : decode cX4_readLine 150 = .ok (.invokevirtual 115, 3) := by decide +kernel
theorem dX4_readLine_153 : decode cX4_readLine 153 = .ok (.putfield 119, 3) := by decide +kernel
theorem dX4_readLine_156 : decode cX4_readLine 156 = .ok (.aload_n 0, 1) := by decide +kernel
theorem dX4_readLine_157 : decode cX4_readLine 157 = .ok (.getfield 43, 3) := by decide +kernel
theorem dX4_readLine_160 : decode cX4_readLine 160 = .ok (.getfield 119, 3) := by decide +kernel
theorem dX4_readLine_163 : decode cX4_readLine 163 = .ok (.iconst (-1), 1) := by decide +kernel
theorem dX4_readLine_164 : decode cX4_readLine 164 = .ok (.if_icmp .eq 7, 3) := by decide +kernel
theorem dX4_readLine_167 : decode cX4_readLine 167 = .ok (.iconst 1, 1) := by decide +kernel
theorem dX4_readLine_168 : decode cX4_readLine 168 = .ok (.goto 4, 3) := by decide +kernel
theorem dX4_readLine_171 : decode cX4_readLine 171 = .ok (.iconst 0, 1) := by decide +kernel
theorem dX4_readLine_172 : decode cX4_readLine 172 = .ok (.ireturn, 1) := by decide +kernel
theorem dX4_readLine_173 : decode cX4_readLine 173 = .ok (.aload_n 0, 1) := by decide +kernel
theorem dX4_readLine_174 : decode cX4_readLine 174 = .ok (.getfield 12, 3) := by decide +kernel
theorem dX4_readLine_177 : decode cX4_readLine 177 = .ok (.iconst 2, 1) := by decide +kernel
theorem dX4_readLine_178 : decode cX4_readLine 178 = .ok (.invokevirtual 121, 3) := by decide +kernel
theorem dX4_readLine_181 : decode cX4_readLine 181 = .ok (.ireturn, 1) := by decide +kernel
theorem kw_190 : Cond.fieldLink "FootholdWall$Reader" 119 "FootholdWall$State" "day" "I" ∈ gw := gw_of (tb_of 190 (by decide +kernel)) (by decide +kernel)
theorem kw_213 : Cond.fieldLink "FootholdWall$Reader" 23 "FootholdWall$Reader" "lawReader" "LFootholdWall$LawReader;" ∈ gw := gw_of (tb_of 213 (by decide +kernel)) (by decide +kernel)
theorem kw_215 : Cond.fieldLink "FootholdWall$Reader" 36 "FootholdWall$Reader" "lawTold" "Z" ∈ gw := gw_of (tb_of 215 (by decide +kernel)) (by decide +kernel)
theorem kw_575 : Cond.methodLink "FootholdWall$Reader" 87 yX4_readHold ∈ gw := gw_of (tb_of 575 (by decide +kernel)) (by decide +kernel)
theorem kw_577 : Cond.instanceMethod yX4_readHold ∈ gw := gw_of (tb_of 577 (by decide +kernel)) (by decide +kernel)
theorem kw_578 : Cond.code yX4_readHold cX4_readHold 5 (some (.boolean)) ∈ gw := gw_of (tb_of 578 (by decide +kernel)) (by decide +kernel)
theorem kw_598 : Cond.methodLink "FootholdWall$Reader" 92 yX4_readGuide ∈ gw := gw_of (tb_of 598 (by decide +kernel)) (by decide +kernel)
theorem kw_600 : Cond.instanceMethod yX4_readGuide ∈ gw := gw_of (tb_of 600 (by decide +kernel)) (by decide +kernel)
theorem kw_601 : Cond.code yX4_readGuide cX4_readGuide 2 (some (.boolean)) ∈ gw := gw_of (tb_of 601 (by decide +kernel)) (by decide +kernel)
theorem kw_610 : Cond.methodLink "FootholdWall$Reader" 63 yX7_takeSign ∈ gw := gw_of (tb_of 610 (by decide +kernel)) (by decide +kernel)
theorem kw_618 : Cond.methodLink "FootholdWall$Reader" 100 yX3_read ∈ gw := gw_of (tb_of 618 (by decide +kernel)) (by decide +kernel)
theorem kw_619 : Cond.instanceMethod yX3_read ∈ gw := gw_of (tb_of 619 (by decide +kernel)) (by decide +kernel)
theorem kw_620 : Cond.selects "FootholdWall$LawReader" yX3_read yX3_read ∈ gw := gw_of (tb_of 620 (by decide +kernel)) (by decide +kernel)
theorem kw_621 : Cond.code yX3_read cX3_read 1 (some (.boolean)) ∈ gw := gw_of (tb_of 621 (by decide +kernel)) (by decide +kernel)
theorem kw_678 : Cond.methodLink "FootholdWall$Reader" 105 yX4_readUsed ∈ gw := gw_of (tb_of 678 (by decide +kernel)) (by decide +kernel)
theorem kw_680 : Cond.instanceMethod yX4_readUsed ∈ gw := gw_of (tb_of 680 (by decide +kernel)) (by decide +kernel)
theorem kw_681 : Cond.code yX4_readUsed cX4_readUsed 3 (some (.boolean)) ∈ gw := gw_of (tb_of 681 (by decide +kernel)) (by decide +kernel)
theorem kw_698 : Cond.methodLink "FootholdWall$Reader" 110 yX4_readBroken ∈ gw := gw_of (tb_of 698 (by decide +kernel)) (by decide +kernel)
theorem kw_700 : Cond.instanceMethod yX4_readBroken ∈ gw := gw_of (tb_of 700 (by decide +kernel)) (by decide +kernel)
theorem kw_701 : Cond.code yX4_readBroken cX4_readBroken 2 (some (.boolean)) ∈ gw := gw_of (tb_of 701 (by decide +kernel)) (by decide +kernel)
theorem ks_2 : Cond.selects RX4 yX4_readHold yX4_readHold ∈ gw := gw_of (pv_of 2 (by decide +kernel)) (by decide +kernel)
theorem ks_4 : Cond.selects RX4 yX4_readGuide yX4_readGuide ∈ gw := gw_of (pv_of 4 (by decide +kernel)) (by decide +kernel)
theorem ks_15 : Cond.selects RX4 yX4_readUsed yX4_readUsed ∈ gw := gw_of (pv_of 15 (by decide +kernel)) (by decide +kernel)
theorem ks_16 : Cond.selects RX4 yX4_readBroken yX4_readBroken ∈ gw := gw_of (pv_of 16 (by decide +kernel)) (by decide +kernel)
set_option maxHeartbeats 4000000 in
set_option maxRecDepth 100000 in
theorem s_RD_readLine (l : Launch) (D : va_G) (cs : CS) (kf : KF) (T : TF) (O : List Nat) (X : va_W) (a0 d : Nat) (y0 : Nat) (y1 : Int32) (y2 : Int32) (y3 : Int32) (y4 : Int32) (y5 : Int32) (y6 : Int32) (y7 : Int32) (ft : Nat → Int32) (z0 : Int32) (z1 : Int32) (z2 : Int32) (z3 : Int32) (z4 : Int32) (z5 : Int32) (z6 : Nat) (z7 : Nat) (z8 : Nat) (z9 : Nat) (z10 : Nat) (z12 : Int32) (z13 : Int32) (t : Tp) (tn : Nat) (tk : Nat) (t_a0 : T a0 = some (14, d, 0)) (t_d : T d = some (19, 100, 0)) (t_y0 : T y0 = some (0, 900, 0)) (l_y1 : 0 ≤ y1.toInt) (u_y1 : y1.toInt ≤ 900) (l_y2 : 0 ≤ y2.toInt) (u_y2 : y2.toInt ≤ 900) (l_y3 : 0 ≤ y3.toInt) (u_y3 : y3.toInt ≤ 900) (l_z0 : 0 ≤ z0.toInt) (u_z0 : z0.toInt ≤ 14) (l_z1 : 0 ≤ z1.toInt) (u_z1 : z1.toInt ≤ 5) (l_z3 : 0 ≤ z3.toInt) (u_z3 : z3.toInt ≤ 16383) (l_z4 : 0 ≤ z4.toInt) (u_z4 : z4.toInt ≤ 16383) (l_z5 : 0 ≤ z5.toInt) (u_z5 : z5.toInt ≤ 16383) (t_z6 : T z6 = some (1, 14, 0)) (t_z7 : T z7 = some (1, 14, 0)) (t_z8 : T z8 = some (1, 14, 0)) (t_z9 : T z9 = some (1, 5, 0)) (t_z10 : T z10 = some (1, 5, 9)) (l_z12 : 0 ≤ z12.toInt) (u_z12 : z12.toInt ≤ 1) (l_z13 : 0 ≤ z13.toInt) (u_z13 : z13.toInt ≤ 1) (hn : y1.toInt = (tn : Int)) (htb : TB ft t) (hto : TSS t tn y2 y3 y4 y5) (t_tk : T tk = some (17, 0, 0)) (hU7 : ∀ (b : Nat) (q : Nat), T b = some (17, 0, q) → b = tk) (hz : y6.toInt = 0) (hne : kd t tn y2.toInt.toNat ≠ 22) (hO : okO T (tk :: y0 :: d :: O) [1, 13, 14, 16]) : TK l D cs kf yX4_readLine cX4_readLine 1 (some (.boolean)) { frames := 31, cells := 0, slots := 0, locals := 706 } [.ref a0] T (tk :: y0 :: d :: O) ((tk, .inr (7, [.ref y0, .int y1, .int y2, .int y3, .int y4, .int y5, .int y6, .int y7])) :: (y0, .inl (cs.1, 900, .inl ft)) :: (d, .inr (9, [.int z0, .int z1, .int z2, .int z3, .int z4, .int z5, .ref z6, .ref z7, .ref z8, .ref z9, .ref z10, .null, .int z12, .int z13])) :: X) (Ti D cs (fun r u => ∃ (n0_2 : Int32) (n0_3 : Int32) (n0_4 : Int32) (n0_5 : Int32) (n0_6 : Int32) (n0_7 : Int32) (n2_0 : Int32) (n2_1 : Int32) (n2_3 : Int32) (n2_4 : Int32) (n2_5 : Int32), u = (T, tk :: y0 :: d :: O, (tk, .inr (7, [.ref y0, .int y1, .int n0_2, .int n0_3, .int n0_4, .int n0_5, .int n0_6, .int n0_7])) :: (y0, .inl (cs.1, 900, .inl ft)) :: (d, .inr (9, [.int n2_0, .int n2_1, .int z2, .int n2_3, .int n2_4, .int n2_5, .ref z6, .ref z7, .ref z8, .ref z9, .ref z10, .null, .int z12, .int z13])) :: X) ∧ 0 ≤ r.toInt ∧ r.toInt ≤ 1 ∧ (r.toInt = 0 ∨ (TSS t tn n0_2 n0_3 n0_4 n0_5 ∧ n0_6.toInt = 0 ∧ n0_7.toInt = y7.toInt ∧ y2.toInt + 1 ≤ n0_2.toInt ∧ GR t tn [(31, 0)] [] (RZ z0 z1 z3 z4 z2) (RZ n2_0 n2_1 n2_3 n2_4 z2) y2 n0_2)) ∧ (r.toInt ≠ 0 ∨ BR t tn [(31, 0), (20, 30)] (RZ z0 z1 z3 z4 z2) y2 n0_6 n0_7) ∧ (y2.toInt ≤ n0_2.toInt ∧ n0_2.toInt ≤ n0_3.toInt ∧ n0_3.toInt ≤ y1.toInt) ∧ (0 ≤ n2_0.toInt ∧ n2_0.toInt ≤ 14 ∧ 0 ≤ n2_1.toInt ∧ n2_1.toInt ≤ 5) ∧ (0 ≤ n2_3.toInt ∧ n2_3.toInt ≤ 16383 ∧ 0 ≤ n2_4.toInt ∧ n2_4.toInt ≤ 16383 ∧ 0 ≤ n2_5.toInt ∧ n2_5.toInt ≤ 16383))) := by
  refine tk_of (by decide) (Nat.le_of_ble_eq_true rfl) (fun p e s m below meth c ls A H locs hx hb hr hml hown hts hlocks hnm hkb hH hS hA hOX hks hE hl => ?_)
  have hown : s.vm.findClass RX4 = some m.cls := hown
  have hl : lv_has ls 1 [(0, .ref a0)] := hl
  have hOXf := hOX
  have hb9 := hto.b
  have hc9 := hto.cs
  have hl9 := hto.lt (by omega)
  refine lv_aload_n hx hb dX4_readLine_0 rfl (lv_at hl 0 rfl) ?_
  refine t_get (ci := 4) (lst := ft4 d 0) (C := RX4) (F := TX4) (N := 5) hx hb hts uX4 hown hkb hH t_a0 (hO.no t_a0 (by decide)) (fun _ h9 => h9) rfl rfl 0 (by decide) rfl kw_211 (fun _ h9 => h9) dX4_readLine_1 (fun v9 h9 => ?_)
  obtain ⟨v1, rfl, t_v1⟩ := h9
  have e9 := (hU7 _ _ t_v1).symm
  subst e9
  refine va_ldcS (q := kf.1 1) hx hb hown (hks ("FootholdWall$Reader", 81, "hold", 1) (by decide +kernel)) dX4_readLine_4 ?_
  refine tk_i hH hS hA (tr_V (n := 1) (As := [.ref (kf.1 1)]) hx hb hml hown hts hkb hH (ox_map hOX rfl) hks hE hS hA (s_Tok_isWord l D cs kf T (d :: O) ((d, .inr (9, [.int z0, .int z1, .int z2, .int z3, .int z4, .int z5, .ref z6, .ref z7, .ref z8, .ref z9, .ref z10, .null, .int z12, .int z13])) :: X) tk 1 y0 y1 y2 y3 y4 y5 y6 y7 ft t tn 0 t_tk (by decide) t_y0 (by omega) (by omega) (by omega) (by omega) (by omega) (by omega) (by omega) htb hto (by decide) (by decide) (hO.sub (by decide))) kw_550 kw_551 kw_552 kw_3 kw_553 (by decide +kernel) ⟨Nat.le_of_ble_eq_true rfl, Nat.le_of_ble_eq_true rfl⟩ (x_recv (ci := 7) hkb hH 0 rfl rfl) rfl rfl hl.1 (Nat.le_of_ble_eq_true rfl) dX4_readLine_6 ⟨Nat.le_of_ble_eq_true rfl, Nat.le_of_ble_eq_true rfl⟩) (fun v6 u H locs hz9 hH hS => ?_)
  obtain ⟨rfl, l_v6, u_v6, x_v60, x_v61⟩ := hz9
  have hH : HT D cs A T (tk :: y0 :: d :: O) ((tk, .inr (7, [.ref y0, .int y1, .int y2, .int y3, .int y4, .int y5, .int y6, .int y7])) :: (y0, .inl (cs.1, 900, .inl ft)) :: (d, .inr (9, [.int z0, .int z1, .int z2, .int z3, .int z4, .int z5, .ref z6, .ref z7, .ref z8, .ref z9, .ref z10, .null, .int z12, .int z13])) :: X) H := hH
  refine W.widen (k := 0) (n := 0) (Nat.le_of_ble_eq_true rfl) (Nat.le_of_ble_eq_true rfl) ?_
  refine lv_if_eq (tgt := 17) hx hb dX4_readLine_9 (by decide) (fun c9 => ?_) (fun c9 => ?_)
  · skip
    have tc9 := f_eq (k := 0) (by decide) c9
    clear x_v60
    replace x_v61 := x_v61.resolve_left (fun q9 => q9 tc9)
    refine lv_aload_n hx hb dX4_readLine_17 rfl (lv_at hl 0 rfl) ?_
    refine t_get (ci := 4) (lst := ft4 d 0) (C := RX4) (F := TX4) (N := 5) hx hb hts uX4 hown hkb hH t_a0 (hO.no t_a0 (by decide)) (fun _ h9 => h9) rfl rfl 0 (by decide) rfl kw_211 (fun _ h9 => h9) dX4_readLine_18 (fun v9 h9 => ?_)
    obtain ⟨v18, rfl, t_v18⟩ := h9
    have e9 := (hU7 _ _ t_v18).symm
    subst e9
    refine va_ldcS (q := kf.1 6) hx hb hown (hks ("FootholdWall$Reader", 90, "guide", 6) (by decide +kernel)) dX4_readLine_21 ?_
    refine tk_i hH hS hA (tr_V (n := 1) (As := [.ref (kf.1 6)]) hx hb hml hown hts hkb hH (ox_map hOX rfl) hks hE hS hA (s_Tok_isWord l D cs kf T (d :: O) ((d, .inr (9, [.int z0, .int z1, .int z2, .int z3, .int z4, .int z5, .ref z6, .ref z7, .ref z8, .ref z9, .ref z10, .null, .int z12, .int z13])) :: X) tk 6 y0 y1 y2 y3 y4 y5 y6 y7 ft t tn 1 t_tk (by decide) t_y0 (by omega) (by omega) (by omega) (by omega) (by omega) (by omega) (by omega) htb hto (by decide) (by decide) (hO.sub (by decide))) kw_550 kw_551 kw_552 kw_3 kw_553 (by decide +kernel) ⟨Nat.le_of_ble_eq_true rfl, Nat.le_of_ble_eq_true rfl⟩ (x_recv (ci := 7) hkb hH 0 rfl rfl) rfl rfl hl.1 (Nat.le_of_ble_eq_true rfl) dX4_readLine_23 ⟨Nat.le_of_ble_eq_true rfl, Nat.le_of_ble_eq_true rfl⟩) (fun v23 u H locs hz9 hH hS => ?_)
    obtain ⟨rfl, l_v23, u_v23, x_v230, x_v231⟩ := hz9
    have hH : HT D cs A T (tk :: y0 :: d :: O) ((tk, .inr (7, [.ref y0, .int y1, .int y2, .int y3, .int y4, .int y5, .int y6, .int y7])) :: (y0, .inl (cs.1, 900, .inl ft)) :: (d, .inr (9, [.int z0, .int z1, .int z2, .int z3, .int z4, .int z5, .ref z6, .ref z7, .ref z8, .ref z9, .ref z10, .null, .int z12, .int z13])) :: X) H := hH
    refine W.widen (k := 0) (n := 0) (Nat.le_of_ble_eq_true rfl) (Nat.le_of_ble_eq_true rfl) ?_
    refine lv_if_eq (tgt := 34) hx hb dX4_readLine_26 (by decide) (fun c26 => ?_) (fun c26 => ?_)
    · skip
      have tc26 := f_eq (k := 0) (by decide) c26
      clear x_v230
      replace x_v231 := x_v231.resolve_left (fun q9 => q9 tc26)
      refine lv_aload_n hx hb dX4_readLine_34 rfl (lv_at hl 0 rfl) ?_
      refine t_get (ci := 4) (lst := ft4 d 0) (C := RX4) (F := TX4) (N := 5) hx hb hts uX4 hown hkb hH t_a0 (hO.no t_a0 (by decide)) (fun _ h9 => h9) rfl rfl 0 (by decide) rfl kw_211 (fun _ h9 => h9) dX4_readLine_35 (fun v9 h9 => ?_)
      obtain ⟨v35, rfl, t_v35⟩ := h9
      have e9 := (hU7 _ _ t_v35).symm
      subst e9
      refine va_ldcS (q := kf.1 9) hx hb hown (hks ("FootholdWall$Reader", 95, "step", 9) (by decide +kernel)) dX4_readLine_38 ?_
      refine tk_i hH hS hA (tr_V (n := 1) (As := [.ref (kf.1 9)]) hx hb hml hown hts hkb hH (ox_map hOX rfl) hks hE hS hA (s_Tok_isWord l D cs kf T (d :: O) ((d, .inr (9, [.int z0, .int z1, .int z2, .int z3, .int z4, .int z5, .ref z6, .ref z7, .ref z8, .ref z9, .ref z10, .null, .int z12, .int z13])) :: X) tk 9 y0 y1 y2 y3 y4 y5 y6 y7 ft t tn 4 t_tk (by decide) t_y0 (by omega) (by omega) (by omega) (by omega) (by omega) (by omega) (by omega) htb hto (by decide) (by decide) (hO.sub (by decide))) kw_550 kw_551 kw_552 kw_3 kw_553 (by decide +kernel) ⟨Nat.le_of_ble_eq_true rfl, Nat.le_of_ble_eq_true rfl⟩ (x_recv (ci := 7) hkb hH 0 rfl rfl) rfl rfl hl.1 (Nat.le_of_ble_eq_true rfl) dX4_readLine_40 ⟨Nat.le_of_ble_eq_true rfl, Nat.le_of_ble_eq_true rfl⟩) (fun v40 u H locs hz9 hH hS => ?_)
      obtain ⟨rfl, l_v40, u_v40, x_v400, x_v401⟩ := hz9
      have hH : HT D cs A T (tk :: y0 :: d :: O) ((tk, .inr (7, [.ref y0, .int y1, .int y2, .int y3, .int y4, .int y5, .int y6, .int y7])) :: (y0, .inl (cs.1, 900, .inl ft)) :: (d, .inr (9, [.int z0, .int z1, .int z2, .int z3, .int z4, .int z5, .ref z6, .ref z7, .ref z8, .ref z9, .ref z10, .null, .int z12, .int z13])) :: X) H := hH
      refine W.widen (k := 0) (n := 0) (Nat.le_of_ble_eq_true rfl) (Nat.le_of_ble_eq_true rfl) ?_
      refine lv_if_eq (tgt := 86) hx hb dX4_readLine_43 (by decide) (fun c43 => ?_) (fun c43 => ?_)
      · skip
        have tc43 := f_eq (k := 0) (by decide) c43
        clear x_v400
        replace x_v401 := x_v401.resolve_left (fun q9 => q9 tc43)
        refine lv_aload_n hx hb dX4_readLine_86 rfl (lv_at hl 0 rfl) ?_
        refine t_get (ci := 4) (lst := ft4 d 0) (C := RX4) (F := TX4) (N := 5) hx hb hts uX4 hown hkb hH t_a0 (hO.no t_a0 (by decide)) (fun _ h9 => h9) rfl rfl 0 (by decide) rfl kw_211 (fun _ h9 => h9) dX4_readLine_87 (fun v9 h9 => ?_)
        obtain ⟨v87, rfl, t_v87⟩ := h9
        have e9 := (hU7 _ _ t_v87).symm
        subst e9
        refine va_ldcS (q := kf.1 17) hx hb hown (hks ("FootholdWall$Reader", 103, "used", 17) (by decide +kernel)) dX4_readLine_90 ?_
        refine tk_i hH hS hA (tr_V (n := 1) (As := [.ref (kf.1 17)]) hx hb hml hown hts hkb hH (ox_map hOX rfl) hks hE hS hA (s_Tok_isWord l D cs kf T (d :: O) ((d, .inr (9, [.int z0, .int z1, .int z2, .int z3, .int z4, .int z5, .ref z6, .ref z7, .ref z8, .ref z9, .ref z10, .null, .int z12, .int z13])) :: X) tk 17 y0 y1 y2 y3 y4 y5 y6 y7 ft t tn 5 t_tk (by decide) t_y0 (by omega) (by omega) (by omega) (by omega) (by omega) (by omega) (by omega) htb hto (by decide) (by decide) (hO.sub (by decide))) kw_550 kw_551 kw_552 kw_3 kw_553 (by decide +kernel) ⟨Nat.le_of_ble_eq_true rfl, Nat.le_of_ble_eq_true rfl⟩ (x_recv (ci := 7) hkb hH 0 rfl rfl) rfl rfl hl.1 (Nat.le_of_ble_eq_true rfl) dX4_readLine_92 ⟨Nat.le_of_ble_eq_true rfl, Nat.le_of_ble_eq_true rfl⟩) (fun v92 u H locs hz9 hH hS => ?_)
        obtain ⟨rfl, l_v92, u_v92, x_v920, x_v921⟩ := hz9
        have hH : HT D cs A T (tk :: y0 :: d :: O) ((tk, .inr (7, [.ref y0, .int y1, .int y2, .int y3, .int y4, .int y5, .int y6, .int y7])) :: (y0, .inl (cs.1, 900, .inl ft)) :: (d, .inr (9, [.int z0, .int z1, .int z2, .int z3, .int z4, .int z5, .ref z6, .ref z7, .ref z8, .ref z9, .ref z10, .null, .int z12, .int z13])) :: X) H := hH
        refine W.widen (k := 0) (n := 0) (Nat.le_of_ble_eq_true rfl) (Nat.le_of_ble_eq_true rfl) ?_
        refine lv_if_eq (tgt := 103) hx hb dX4_readLine_95 (by decide) (fun c95 => ?_) (fun c95 => ?_)
        · skip
          have tc95 := f_eq (k := 0) (by decide) c95
          clear x_v920
          replace x_v921 := x_v921.resolve_left (fun q9 => q9 tc95)
          refine lv_aload_n hx hb dX4_readLine_103 rfl (lv_at hl 0 rfl) ?_
          refine t_get (ci := 4) (lst := ft4 d 0) (C := RX4) (F := TX4) (N := 5) hx hb hts uX4 hown hkb hH t_a0 (hO.no t_a0 (by decide)) (fun _ h9 => h9) rfl rfl 0 (by decide) rfl kw_211 (fun _ h9 => h9) dX4_readLine_104 (fun v9 h9 => ?_)
          obtain ⟨v104, rfl, t_v104⟩ := h9
          have e9 := (hU7 _ _ t_v104).symm
          subst e9
          refine va_ldcS (q := kf.1 19) hx hb hown (hks ("FootholdWall$Reader", 108, "broken", 19) (by decide +kernel)) dX4_readLine_107 ?_
          refine tk_i hH hS hA (tr_V (n := 1) (As := [.ref (kf.1 19)]) hx hb hml hown hts hkb hH (ox_map hOX rfl) hks hE hS hA (s_Tok_isWord l D cs kf T (d :: O) ((d, .inr (9, [.int z0, .int z1, .int z2, .int z3, .int z4, .int z5, .ref z6, .ref z7, .ref z8, .ref z9, .ref z10, .null, .int z12, .int z13])) :: X) tk 19 y0 y1 y2 y3 y4 y5 y6 y7 ft t tn 7 t_tk (by decide) t_y0 (by omega) (by omega) (by omega) (by omega) (by omega) (by omega) (by omega) htb hto (by decide) (by decide) (hO.sub (by decide))) kw_550 kw_551 kw_552 kw_3 kw_553 (by decide +kernel) ⟨Nat.le_of_ble_eq_true rfl, Nat.le_of_ble_eq_true rfl⟩ (x_recv (ci := 7) hkb hH 0 rfl rfl) rfl rfl hl.1 (Nat.le_of_ble_eq_true rfl) dX4_readLine_109 ⟨Nat.le_of_ble_eq_true rfl, Nat.le_of_ble_eq_true rfl⟩) (fun v109 u H locs hz9 hH hS => ?_)
          obtain ⟨rfl, l_v109, u_v109, x_v1090, x_v1091⟩ := hz9
          have hH : HT D cs A T (tk :: y0 :: d :: O) ((tk, .inr (7, [.ref y0, .int y1, .int y2, .int y3, .int y4, .int y5, .int y6, .int y7])) :: (y0, .inl (cs.1, 900, .inl ft)) :: (d, .inr (9, [.int z0, .int z1, .int z2, .int z3, .int z4, .int z5, .ref z6, .ref z7, .ref z8, .ref z9, .ref z10, .null, .int z12, .int z13])) :: X) H := hH
          refine W.widen (k := 0) (n := 0) (Nat.le_of_ble_eq_true rfl) (Nat.le_of_ble_eq_true rfl) ?_
          refine lv_if_eq (tgt := 120) hx hb dX4_readLine_112 (by decide) (fun c112 => ?_) (fun c112 => ?_)
          · skip
            have tc112 := f_eq (k := 0) (by decide) c112
            clear x_v1090
            replace x_v1091 := x_v1091.resolve_left (fun q9 => q9 tc112)
            refine lv_aload_n hx hb dX4_readLine_120 rfl (lv_at hl 0 rfl) ?_
            refine t_get (ci := 4) (lst := ft4 d 0) (C := RX4) (F := TX4) (N := 5) hx hb hts uX4 hown hkb hH t_a0 (hO.no t_a0 (by decide)) (fun _ h9 => h9) rfl rfl 0 (by decide) rfl kw_211 (fun _ h9 => h9) dX4_readLine_121 (fun v9 h9 => ?_)
            obtain ⟨v121, rfl, t_v121⟩ := h9
            have e9 := (hU7 _ _ t_v121).symm
            subst e9
            refine va_ldcS (q := kf.1 14) hx hb hown (hks ("FootholdWall$Reader", 113, "day", 14) (by decide +kernel)) dX4_readLine_124 ?_
            refine tk_i hH hS hA (tr_V (n := 1) (As := [.ref (kf.1 14)]) hx hb hml hown hts hkb hH (ox_map hOX rfl) hks hE hS hA (s_Tok_isWord l D cs kf T (d :: O) ((d, .inr (9, [.int z0, .int z1, .int z2, .int z3, .int z4, .int z5, .ref z6, .ref z7, .ref z8, .ref z9, .ref z10, .null, .int z12, .int z13])) :: X) tk 14 y0 y1 y2 y3 y4 y5 y6 y7 ft t tn 8 t_tk (by decide) t_y0 (by omega) (by omega) (by omega) (by omega) (by omega) (by omega) (by omega) htb hto (by decide) (by decide) (hO.sub (by decide))) kw_550 kw_551 kw_552 kw_3 kw_553 (by decide +kernel) ⟨Nat.le_of_ble_eq_true rfl, Nat.le_of_ble_eq_true rfl⟩ (x_recv (ci := 7) hkb hH 0 rfl rfl) rfl rfl hl.1 (Nat.le_of_ble_eq_true rfl) dX4_readLine_126 ⟨Nat.le_of_ble_eq_true rfl, Nat.le_of_ble_eq_true rfl⟩) (fun v126 u H locs hz9 hH hS => ?_)
            obtain ⟨rfl, l_v126, u_v126, x_v1260, x_v1261⟩ := hz9
            have hH : HT D cs A T (tk :: y0 :: d :: O) ((tk, .inr (7, [.ref y0, .int y1, .int y2, .int y3, .int y4, .int y5, .int y6, .int y7])) :: (y0, .inl (cs.1, 900, .inl ft)) :: (d, .inr (9, [.int z0, .int z1, .int z2, .int z3, .int z4, .int z5, .ref z6, .ref z7, .ref z8, .ref z9, .ref z10, .null, .int z12, .int z13])) :: X) H := hH
            refine W.widen (k := 0) (n := 0) (Nat.le_of_ble_eq_true rfl) (Nat.le_of_ble_eq_true rfl) ?_
            refine lv_if_eq (tgt := 173) hx hb dX4_readLine_129 (by decide) (fun c129 => ?_) (fun c129 => ?_)
            · skip
              have tc129 := f_eq (k := 0) (by decide) c129
              clear x_v1260
              replace x_v1261 := x_v1261.resolve_left (fun q9 => q9 tc129)
              refine lv_aload_n hx hb dX4_readLine_173 rfl (lv_at hl 0 rfl) ?_
              refine t_get (ci := 4) (lst := ft4 d 0) (C := RX4) (F := TX4) (N := 5) hx hb hts uX4 hown hkb hH t_a0 (hO.no t_a0 (by decide)) (fun _ h9 => h9) rfl rfl 0 (by decide) rfl kw_211 (fun _ h9 => h9) dX4_readLine_174 (fun v9 h9 => ?_)
              obtain ⟨v174, rfl, t_v174⟩ := h9
              have e9 := (hU7 _ _ t_v174).symm
              subst e9
              refine lv_iconst (v := 2) hx hb dX4_readLine_177 (by decide) ?_
              have z9_2 : (2 : Int32).toInt = 2 := by decide
              refine tk_i hH hS hA (tr_V (n := 1) (As := [.int 2]) hx hb hml hown hts hkb hH (ox_map hOX rfl) hks hE hS hA (s_Tok_refuse l D cs kf T (d :: O) ((d, .inr (9, [.int z0, .int z1, .int z2, .int z3, .int z4, .int z5, .ref z6, .ref z7, .ref z8, .ref z9, .ref z10, .null, .int z12, .int z13])) :: X) tk (2) y0 y1 y2 y3 y4 y5 y6 y7 ft t tn t_tk t_y0 (by omega) (by omega) (by omega) (by omega) (by omega) (by omega) (by omega) htb hto (hO.sub (by decide))) kw_579 kw_580 kw_581 kw_3 kw_582 (by decide +kernel) ⟨Nat.le_of_ble_eq_true rfl, Nat.le_of_ble_eq_true rfl⟩ (x_recv (ci := 7) hkb hH 0 rfl rfl) rfl rfl hl.1 (Nat.le_of_ble_eq_true rfl) dX4_readLine_178 ⟨Nat.le_of_ble_eq_true rfl, Nat.le_of_ble_eq_true rfl⟩) (fun v178 u H locs hz9 hH hS => ?_)
              obtain ⟨n178_0_6, n178_0_7, rfl, l_v178, u_v178, x_v1780, x_v1781⟩ := hz9
              have hH : HT D cs A T (tk :: y0 :: d :: O) ((tk, .inr (7, [.ref y0, .int y1, .int y2, .int y3, .int y4, .int y5, .int n178_0_6, .int n178_0_7])) :: (y0, .inl (cs.1, 900, .inl ft)) :: (d, .inr (9, [.int z0, .int z1, .int z2, .int z3, .int z4, .int z5, .ref z6, .ref z7, .ref z8, .ref z9, .ref z10, .null, .int z12, .int z13])) :: X) H := hH
              refine W.widen (k := 0) (n := 0) (Nat.le_of_ble_eq_true rfl) (Nat.le_of_ble_eq_true rfl) ?_
              exact te_z hx hb hr hlocks (nar01 (by omega) (by omega)) hH hS (⟨y2, y3, y4, y5, n178_0_6, n178_0_7, z0, z1, z3, z4, z5, rfl, by omega, by omega, (Or.inl (by omega)), (Or.inr (by first | (refine (g53.ap (G := [(20, 30)])).bd (BR.cons (BR_f (G := []) (fun _ => st_xN x_v641.1) x_v641.2.1 (by decide) x_v641.2.2 ?_)); omega) | (refine (g70.ap (G := [(20, 30)])).bd (BR.cons (BL.r x_v741))) | (refine (g139.ap (G := [(20, 30)])).bd (BR.cons (BR_n (by decide) x_v1501.1 x_v1501.2.1 x_v1501.2.2 ?_)); omega) | (refine (BR_f (G := []) (fun _ => st_iN ?_) x_v1780 (by decide) x_v1781 ?_).cons <;> omega))), (by omega), (by omega), (by omega)⟩) dX4_readLine_181
            · skip
              have tc129 := f_ne (k := 0) (by decide) c129
              replace x_v1260 := x_v1260.resolve_left tc129
              clear x_v1261
              refine lv_aload_n hx hb dX4_readLine_132 rfl (lv_at hl 0 rfl) ?_
              refine t_get (ci := 4) (lst := ft4 d 0) (C := RX4) (F := TX4) (N := 5) hx hb hts uX4 hown hkb hH t_a0 (hO.no t_a0 (by decide)) (fun _ h9 => h9) rfl rfl 0 (by decide) rfl kw_211 (fun _ h9 => h9) dX4_readLine_133 (fun v9 h9 => ?_)
              obtain ⟨v133, rfl, t_v133⟩ := h9
              have e9 := (hU7 _ _ t_v133).symm
              subst e9
              refine tk_v hH hS hA (tr_V (n := 0) (As := []) hx hb hml hown hts hkb hH (ox_map hOX rfl) hks hE hS hA (s_Tok_go l D cs kf T (d :: O) ((d, .inr (9, [.int z0, .int z1, .int z2, .int z3, .int z4, .int z5, .ref z6, .ref z7, .ref z8, .ref z9, .ref z10, .null, .int z12, .int z13])) :: X) tk y0 y1 y2 y3 y4 y5 y6 y7 ft t tn t_tk t_y0 (by omega) (by omega) (by omega) (by omega) (by omega) (by omega) (by omega) htb (by have q9 := (hto).b; omega) (hO.sub (by decide))) kw_583 kw_453 kw_454 kw_3 kw_455 (by decide +kernel) ⟨Nat.le_of_ble_eq_true rfl, Nat.le_of_ble_eq_true rfl⟩ (x_recv (ci := 7) hkb hH 0 rfl rfl) rfl rfl hl.1 (Nat.le_of_ble_eq_true rfl) dX4_readLine_136 ⟨Nat.le_of_ble_eq_true rfl, Nat.le_of_ble_eq_true rfl⟩) (fun u H locs hz9 hH hS => ?_)
              obtain ⟨n136_0_2, n136_0_3, n136_0_4, n136_0_5, rfl, x_v1360, x_v1361, x_v1362⟩ := hz9
              have px136 := TSS.nx hto x_v1361
              have hH : HT D cs A T (tk :: y0 :: d :: O) ((tk, .inr (7, [.ref y0, .int y1, .int n136_0_2, .int n136_0_3, .int n136_0_4, .int n136_0_5, .int y6, .int y7])) :: (y0, .inl (cs.1, 900, .inl ft)) :: (d, .inr (9, [.int z0, .int z1, .int z2, .int z3, .int z4, .int z5, .ref z6, .ref z7, .ref z8, .ref z9, .ref z10, .null, .int z12, .int z13])) :: X) H := hH
              refine W.widen (k := 0) (n := 0) (Nat.le_of_ble_eq_true rfl) (Nat.le_of_ble_eq_true rfl) ?_
              obtain ⟨fs9, ho9, hH⟩ := hH.take t_a0 (hO.no t_a0 (by decide))
              have hp0 : okL T (ft4 d 0) fs9 := ho9
              obtain ⟨v9, fs9, rfl, h9, hp1⟩ := okL_i hp0
              obtain ⟨rq_0, rfl, t_rq_0⟩ := h9
              have e9 := (hU7 _ _ t_rq_0).symm
              subst e9
              obtain ⟨v9, fs9, rfl, h9, hp2⟩ := okL_i hp1
              obtain ⟨rq_1, rfl, t_rq_1⟩ := h9
              obtain ⟨v9, fs9, rfl, h9, hp3⟩ := okL_i hp2
              have h9 : v9 = .ref d := h9
              subst h9
              obtain ⟨v9, fs9, rfl, h9, hp4⟩ := okL_i hp3
              obtain ⟨rq_3, rfl, l_rq_3, u_rq_3⟩ := h9
              obtain ⟨v9, fs9, rfl, h9, hp5⟩ := okL_i hp4
              obtain ⟨rq_4, rfl, t_rq_4⟩ := h9
              have hpz := okL_z hp5
              subst hpz
              have hH : HT D cs A T (a0 :: tk :: y0 :: d :: O) ((a0, .inr (4, [.ref tk, .ref rq_1, .ref d, .int rq_3, .ref rq_4])) :: (tk, .inr (7, [.ref y0, .int y1, .int n136_0_2, .int n136_0_3, .int n136_0_4, .int n136_0_5, .int y6, .int y7])) :: (y0, .inl (cs.1, 900, .inl ft)) :: (d, .inr (9, [.int z0, .int z1, .int z2, .int z3, .int z4, .int z5, .ref z6, .ref z7, .ref z8, .ref z9, .ref z10, .null, .int z12, .int z13])) :: X) H := hH
              have hO : okO T (a0 :: tk :: y0 :: d :: O) [16] := okO.cons (hO.sub (by decide)) t_a0 (by decide)
              have hH : HT D cs A T (tk :: y0 :: d :: a0 :: O) ((tk, .inr (7, [.ref y0, .int y1, .int n136_0_2, .int n136_0_3, .int n136_0_4, .int n136_0_5, .int y6, .int y7])) :: (y0, .inl (cs.1, 900, .inl ft)) :: (d, .inr (9, [.int z0, .int z1, .int z2, .int z3, .int z4, .int z5, .ref z6, .ref z7, .ref z8, .ref z9, .ref z10, .null, .int z12, .int z13])) :: (a0, .inr (4, [.ref tk, .ref rq_1, .ref d, .int rq_3, .ref rq_4])) :: X) H := HT.pm (Y := [(a0, .inr (4, [.ref tk, .ref rq_1, .ref d, .int rq_3, .ref rq_4])), (tk, .inr (7, [.ref y0, .int y1, .int n136_0_2, .int n136_0_3, .int n136_0_4, .int n136_0_5, .int y6, .int y7])), (y0, .inl (cs.1, 900, .inl ft)), (d, .inr (9, [.int z0, .int z1, .int z2, .int z3, .int z4, .int z5, .ref z6, .ref z7, .ref z8, .ref z9, .ref z10, .null, .int z12, .int z13]))]) (Y2 := [(tk, .inr (7, [.ref y0, .int y1, .int n136_0_2, .int n136_0_3, .int n136_0_4, .int n136_0_5, .int y6, .int y7])), (y0, .inl (cs.1, 900, .inl ft)), (d, .inr (9, [.int z0, .int z1, .int z2, .int z3, .int z4, .int z5, .ref z6, .ref z7, .ref z8, .ref z9, .ref z10, .null, .int z12, .int z13])), (a0, .inr (4, [.ref tk, .ref rq_1, .ref d, .int rq_3, .ref rq_4]))]) (X := X) (ym := 4) [1, 2, 3, 0] hH rfl rfl (fun k hk => match k, hk with | 0, _ => rfl | 1, _ => rfl | 2, _ => rfl | 3, _ => rfl | k + 4, h => absurd h (by show ¬ k + 4 < 4; omega)) (by decide) (by intro a ha; simp only [List.mem_cons] at ha ⊢; rcases ha with h | h | h | h | h; exact Or.inr (Or.inr (Or.inr (Or.inl h))); exact Or.inl h; exact Or.inr (Or.inl h); exact Or.inr (Or.inr (Or.inl h)); exact Or.inr (Or.inr (Or.inr (Or.inr (h)))))
              have hO := hO.pm (O' := tk :: y0 :: d :: a0 :: O) (by intro a ha; simp only [List.mem_cons] at ha ⊢; rcases ha with h | h | h | h | h; exact Or.inr (Or.inl h); exact Or.inr (Or.inr (Or.inl h)); exact Or.inr (Or.inr (Or.inr (Or.inl h))); exact Or.inl h; exact Or.inr (Or.inr (Or.inr (Or.inr (h)))))
              have g139 : GR t tn [(31, 0)] [(22, 999)] (RZ z0 z1 z3 z4 z2) (RZ z0 z1 z3 z4 z2) y2 n136_0_2 := GR_nx (fun _ => st_iD x_v1260) px136
              refine lv_aload_n hx hb dX4_readLine_139 rfl (lv_at hl 0 rfl) ?_
              refine x_getk (ci := 4) (C := RX4) (F := TX4) (N := 5) (v := .ref rq_4) hx hb hts uX4 hown hkb hH 3 rfl rfl 4 (by decide) rfl kw_216 (fun _ h9 => h9) dX4_readLine_140 ?_
              refine lv_aload_n hx hb dX4_readLine_143 rfl (lv_at hl 0 rfl) ?_
              refine x_getk (ci := 4) (C := RX4) (F := TX4) (N := 5) (v := .ref tk) hx hb hts uX4 hown hkb hH 3 rfl rfl 0 (by decide) rfl kw_211 (fun _ h9 => h9) dX4_readLine_144 ?_
              refine lv_sipush (v := 999) hx hb dX4_readLine_147 (by decide) ?_
              have z9_999 : (999 : Int32).toInt = 999 := by decide
              refine tk_i hH hS hA (tr_V (n := 1) (As := [.int 999]) hx hb hml hown hts hkb hH (ox_mem hOXf (by intro a ha; simp only [List.map_cons, List.mem_cons] at ha ⊢; rcases ha with h | h | h | h <;> simp [h]) (by intro a ha; simp only [List.map_cons, List.mem_cons] at ha ⊢; rcases ha with h | h | h | h | h <;> simp [h])) hks hE hS hA (s_Tok_takeNumber l D cs kf T (d :: a0 :: O) ((d, .inr (9, [.int z0, .int z1, .int z2, .int z3, .int z4, .int z5, .ref z6, .ref z7, .ref z8, .ref z9, .ref z10, .null, .int z12, .int z13])) :: (a0, .inr (4, [.ref tk, .ref rq_1, .ref d, .int rq_3, .ref rq_4])) :: X) tk (999) y0 y1 n136_0_2 n136_0_3 n136_0_4 n136_0_5 y6 y7 ft t tn t_tk (by decide) (by decide) t_y0 (by omega) (by omega) (by omega) (by omega) (by omega) (by omega) (by omega) htb x_v1360 (hO.sub (by decide))) kw_584 kw_585 kw_586 kw_3 kw_587 (by decide +kernel) ⟨Nat.le_of_ble_eq_true rfl, Nat.le_of_ble_eq_true rfl⟩ (x_recv (ci := 7) hkb hH 0 rfl rfl) rfl rfl hl.1 (Nat.le_of_ble_eq_true rfl) dX4_readLine_150 ⟨Nat.le_of_ble_eq_true rfl, Nat.le_of_ble_eq_true rfl⟩) (fun v150 u H locs hz9 hH hS => ?_)
              obtain ⟨n150_0_2, n150_0_3, n150_0_4, n150_0_5, n150_0_6, n150_0_7, rfl, l_v150, u_v150, x_v1500, x_v1501, x_v1502, x_v1503⟩ := hz9
              have hH : HT D cs A T (tk :: y0 :: d :: a0 :: O) ((tk, .inr (7, [.ref y0, .int y1, .int n150_0_2, .int n150_0_3, .int n150_0_4, .int n150_0_5, .int n150_0_6, .int n150_0_7])) :: (y0, .inl (cs.1, 900, .inl ft)) :: (d, .inr (9, [.int z0, .int z1, .int z2, .int z3, .int z4, .int z5, .ref z6, .ref z7, .ref z8, .ref z9, .ref z10, .null, .int z12, .int z13])) :: (a0, .inr (4, [.ref tk, .ref rq_1, .ref d, .int rq_3, .ref rq_4])) :: X) H := hH
              refine W.widen (k := 0) (n := 0) (Nat.le_of_ble_eq_true rfl) (Nat.le_of_ble_eq_true rfl) ?_
              obtain ⟨fs9, ho9, hH⟩ := hH.take t_rq_4 (hO.no t_rq_4 (by decide))
              have hp0 : okL T (ft6 0 0) fs9 := ho9
              obtain ⟨v9, fs9, rfl, h9, hp1⟩ := okL_i hp0
              obtain ⟨tq_0, rfl⟩ := h9
              obtain ⟨v9, fs9, rfl, h9, hp2⟩ := okL_i hp1
              obtain ⟨tq_1, rfl⟩ := h9
              obtain ⟨v9, fs9, rfl, h9, hp3⟩ := okL_i hp2
              obtain ⟨tq_2, rfl⟩ := h9
              obtain ⟨v9, fs9, rfl, h9, hp4⟩ := okL_i hp3
              obtain ⟨tq_3, rfl⟩ := h9
              obtain ⟨v9, fs9, rfl, h9, hp5⟩ := okL_i hp4
              obtain ⟨tq_4, rfl, t_tq_4⟩ := h9
              obtain ⟨v9, fs9, rfl, h9, hp6⟩ := okL_i hp5
              obtain ⟨tq_5, rfl, t_tq_5⟩ := h9
              have hpz := okL_z hp6
              subst hpz
              have hH : HT D cs A T (rq_4 :: tk :: y0 :: d :: a0 :: O) ((rq_4, .inr (6, [.int tq_0, .int tq_1, .int tq_2, .int tq_3, .ref tq_4, .ref tq_5])) :: (tk, .inr (7, [.ref y0, .int y1, .int n150_0_2, .int n150_0_3, .int n150_0_4, .int n150_0_5, .int n150_0_6, .int n150_0_7])) :: (y0, .inl (cs.1, 900, .inl ft)) :: (d, .inr (9, [.int z0, .int z1, .int z2, .int z3, .int z4, .int z5, .ref z6, .ref z7, .ref z8, .ref z9, .ref z10, .null, .int z12, .int z13])) :: (a0, .inr (4, [.ref tk, .ref rq_1, .ref d, .int rq_3, .ref rq_4])) :: X) H := hH
              refine x_putk (ci := 6) (v := .int v150) (ty := tyX6 2) (C := RX6) (F := TX6) (N := 6) hx hb hts uX6 tyX6 tyX6_ok nmX6 hown hkb hH hS 0 rfl rfl 2 (by decide) kw_190 (fun _ h9 => h9) rfl (tyX6_ok 2 (by decide)) rfl rfl (Nat.le_of_ble_eq_true rfl) dX4_readLine_153 (fun H locs hH hS => ?_)
              have hH : HT D cs A T (rq_4 :: tk :: y0 :: d :: a0 :: O) ((rq_4, .inr (6, [.int tq_0, .int tq_1, .int v150, .int tq_3, .ref tq_4, .ref tq_5])) :: (tk, .inr (7, [.ref y0, .int y1, .int n150_0_2, .int n150_0_3, .int n150_0_4, .int n150_0_5, .int n150_0_6, .int n150_0_7])) :: (y0, .inl (cs.1, 900, .inl ft)) :: (d, .inr (9, [.int z0, .int z1, .int z2, .int z3, .int z4, .int z5, .ref z6, .ref z7, .ref z8, .ref z9, .ref z10, .null, .int z12, .int z13])) :: (a0, .inr (4, [.ref tk, .ref rq_1, .ref d, .int rq_3, .ref rq_4])) :: X) H := hH
              refine lv_aload_n hx hb dX4_readLine_156 rfl (lv_at hl 0 rfl) ?_
              refine x_getk (ci := 4) (C := RX4) (F := TX4) (N := 5) (v := .ref rq_4) hx hb hts uX4 hown hkb hH 4 rfl rfl 4 (by decide) rfl kw_216 (fun _ h9 => h9) dX4_readLine_157 ?_
              refine x_getk (ci := 6) (C := RX6) (F := TX6) (N := 6) (v := .int v150) hx hb hts uX6 hown hkb hH 0 rfl rfl 2 (by decide) rfl kw_190 (fun _ h9 => h9) dX4_readLine_160 ?_
              refine lv_iconst (v := (-1)) hx hb dX4_readLine_163 (by decide) ?_
              refine lv_icmp_eq (tgt := 171) hx hb dX4_readLine_164 (by decide) (fun c164 => ?_) (fun c164 => ?_)
              · skip
                have tc164 := f_eq (k := -1) (by decide) c164
                clear x_v1500
                clear x_v1503
                replace x_v1501 := x_v1501.resolve_left (fun q9 => q9 tc164)
                refine lv_iconst (v := 0) hx hb dX4_readLine_171 (by decide) ?_
                have hH : HT D cs A T (tk :: y0 :: d :: a0 :: O) ((tk, .inr (7, [.ref y0, .int y1, .int n150_0_2, .int n150_0_3, .int n150_0_4, .int n150_0_5, .int n150_0_6, .int n150_0_7])) :: (y0, .inl (cs.1, 900, .inl ft)) :: (d, .inr (9, [.int z0, .int z1, .int z2, .int z3, .int z4, .int z5, .ref z6, .ref z7, .ref z8, .ref z9, .ref z10, .null, .int z12, .int z13])) :: (a0, .inr (4, [.ref tk, .ref rq_1, .ref d, .int rq_3, .ref rq_4])) :: X) H := HT.lay (ci := 6) hH t_rq_4 (okL_c (⟨_, rfl⟩) (okL_c (⟨_, rfl⟩) (okL_c (⟨_, rfl⟩) (okL_c (⟨_, rfl⟩) (okL_c (⟨_, rfl, t_tq_4⟩) (okL_c (⟨_, rfl, t_tq_5⟩) (okL_n)))))))
                have hH : HT D cs A T (a0 :: tk :: y0 :: d :: O) ((a0, .inr (4, [.ref tk, .ref rq_1, .ref d, .int rq_3, .ref rq_4])) :: (tk, .inr (7, [.ref y0, .int y1, .int n150_0_2, .int n150_0_3, .int n150_0_4, .int n150_0_5, .int n150_0_6, .int n150_0_7])) :: (y0, .inl (cs.1, 900, .inl ft)) :: (d, .inr (9, [.int z0, .int z1, .int z2, .int z3, .int z4, .int z5, .ref z6, .ref z7, .ref z8, .ref z9, .ref z10, .null, .int z12, .int z13])) :: X) H := HT.pm (Y := [(tk, .inr (7, [.ref y0, .int y1, .int n150_0_2, .int n150_0_3, .int n150_0_4, .int n150_0_5, .int n150_0_6, .int n150_0_7])), (y0, .inl (cs.1, 900, .inl ft)), (d, .inr (9, [.int z0, .int z1, .int z2, .int z3, .int z4, .int z5, .ref z6, .ref z7, .ref z8, .ref z9, .ref z10, .null, .int z12, .int z13])), (a0, .inr (4, [.ref tk, .ref rq_1, .ref d, .int rq_3, .ref rq_4]))]) (Y2 := [(a0, .inr (4, [.ref tk, .ref rq_1, .ref d, .int rq_3, .ref rq_4])), (tk, .inr (7, [.ref y0, .int y1, .int n150_0_2, .int n150_0_3, .int n150_0_4, .int n150_0_5, .int n150_0_6, .int n150_0_7])), (y0, .inl (cs.1, 900, .inl ft)), (d, .inr (9, [.int z0, .int z1, .int z2, .int z3, .int z4, .int z5, .ref z6, .ref z7, .ref z8, .ref z9, .ref z10, .null, .int z12, .int z13]))]) (X := X) (ym := 4) [3, 0, 1, 2] hH rfl rfl (fun k hk => match k, hk with | 0, _ => rfl | 1, _ => rfl | 2, _ => rfl | 3, _ => rfl | k + 4, h => absurd h (by show ¬ k + 4 < 4; omega)) (by decide) (by intro a ha; simp only [List.mem_cons] at ha ⊢; rcases ha with h | h | h | h | h; exact Or.inr (Or.inl h); exact Or.inr (Or.inr (Or.inl h)); exact Or.inr (Or.inr (Or.inr (Or.inl h))); exact Or.inl h; exact Or.inr (Or.inr (Or.inr (Or.inr (h)))))
                have hH : HT D cs A T (tk :: y0 :: d :: O) ((tk, .inr (7, [.ref y0, .int y1, .int n150_0_2, .int n150_0_3, .int n150_0_4, .int n150_0_5, .int n150_0_6, .int n150_0_7])) :: (y0, .inl (cs.1, 900, .inl ft)) :: (d, .inr (9, [.int z0, .int z1, .int z2, .int z3, .int z4, .int z5, .ref z6, .ref z7, .ref z8, .ref z9, .ref z10, .null, .int z12, .int z13])) :: X) H := HT.lay (ci := 4) hH t_a0 (okL_c (⟨_, rfl, t_tk⟩) (okL_c (⟨_, rfl, t_rq_1⟩) (okL_c (rfl) (okL_c (⟨_, rfl, by omega, by omega⟩) (okL_c (⟨_, rfl, t_rq_4⟩) (okL_n))))))
                have z9_0 : (0 : Int32).toInt = 0 := by decide
                exact te_z hx hb hr hlocks (by rfl) hH hS (⟨n150_0_2, n150_0_3, n150_0_4, n150_0_5, n150_0_6, n150_0_7, z0, z1, z3, z4, z5, rfl, by decide, by decide, Or.inl (by decide), (Or.inr (by first | (refine (g53.ap (G := [(20, 30)])).bd (BR.cons (BR_f (G := []) (fun _ => st_xN x_v641.1) x_v641.2.1 (by decide) x_v641.2.2 ?_)); omega) | (refine (g70.ap (G := [(20, 30)])).bd (BR.cons (BL.r x_v741))) | (refine (g139.ap (G := [(20, 30)])).bd (BR.cons (BR_n (by decide) x_v1501.1 x_v1501.2.1 x_v1501.2.2 ?_)); omega) | (refine (BR_f (G := []) (fun _ => st_iN ?_) x_v1780 (by decide) x_v1781 ?_).cons <;> omega))), (by omega), (by omega), (by omega)⟩) dX4_readLine_172
              · skip
                have tc164 := f_ne (k := -1) (by decide) c164
                replace x_v1500 := x_v1500.resolve_left tc164
                replace x_v1503 := x_v1503.resolve_left tc164
                clear x_v1501
                refine lv_iconst (v := 1) hx hb dX4_readLine_167 (by decide) ?_
                refine lv_goto (tgt := 172) hx hb dX4_readLine_168 (by decide) ?_
                have hH : HT D cs A T (tk :: y0 :: d :: a0 :: O) ((tk, .inr (7, [.ref y0, .int y1, .int n150_0_2, .int n150_0_3, .int n150_0_4, .int n150_0_5, .int n150_0_6, .int n150_0_7])) :: (y0, .inl (cs.1, 900, .inl ft)) :: (d, .inr (9, [.int z0, .int z1, .int z2, .int z3, .int z4, .int z5, .ref z6, .ref z7, .ref z8, .ref z9, .ref z10, .null, .int z12, .int z13])) :: (a0, .inr (4, [.ref tk, .ref rq_1, .ref d, .int rq_3, .ref rq_4])) :: X) H := HT.lay (ci := 6) hH t_rq_4 (okL_c (⟨_, rfl⟩) (okL_c (⟨_, rfl⟩) (okL_c (⟨_, rfl⟩) (okL_c (⟨_, rfl⟩) (okL_c (⟨_, rfl, t_tq_4⟩) (okL_c (⟨_, rfl, t_tq_5⟩) (okL_n)))))))
                have hH : HT D cs A T (a0 :: tk :: y0 :: d :: O) ((a0, .inr (4, [.ref tk, .ref rq_1, .ref d, .int rq_3, .ref rq_4])) :: (tk, .inr (7, [.ref y0, .int y1, .int n150_0_2, .int n150_0_3, .int n150_0_4, .int n150_0_5, .int n150_0_6, .int n150_0_7])) :: (y0, .inl (cs.1, 900, .inl ft)) :: (d, .inr (9, [.int z0, .int z1, .int z2, .int z3, .int z4, .int z5, .ref z6, .ref z7, .ref z8, .ref z9, .ref z10, .null, .int z12, .int z13])) :: X) H := HT.pm (Y := [(tk, .inr (7, [.ref y0, .int y1, .int n150_0_2, .int n150_0_3, .int n150_0_4, .int n150_0_5, .int n150_0_6, .int n150_0_7])), (y0, .inl (cs.1, 900, .inl ft)), (d, .inr (9, [.int z0, .int z1, .int z2, .int z3, .int z4, .int z5, .ref z6, .ref z7, .ref z8, .ref z9, .ref z10, .null, .int z12, .int z13])), (a0, .inr (4, [.ref tk, .ref rq_1, .ref d, .int rq_3, .ref rq_4]))]) (Y2 := [(a0, .inr (4, [.ref tk, .ref rq_1, .ref d, .int rq_3, .ref rq_4])), (tk, .inr (7, [.ref y0, .int y1, .int n150_0_2, .int n150_0_3, .int n150_0_4, .int n150_0_5, .int n150_0_6, .int n150_0_7])), (y0, .inl (cs.1, 900, .inl ft)), (d, .inr (9, [.int z0, .int z1, .int z2, .int z3, .int z4, .int z5, .ref z6, .ref z7, .ref z8, .ref z9, .ref z10, .null, .int z12, .int z13]))]) (X := X) (ym := 4) [3, 0, 1, 2] hH rfl rfl (fun k hk => match k, hk with | 0, _ => rfl | 1, _ => rfl | 2, _ => rfl | 3, _ => rfl | k + 4, h => absurd h (by show ¬ k + 4 < 4; omega)) (by decide) (by intro a ha; simp only [List.mem_cons] at ha ⊢; rcases ha with h | h | h | h | h; exact Or.inr (Or.inl h); exact Or.inr (Or.inr (Or.inl h)); exact Or.inr (Or.inr (Or.inr (Or.inl h))); exact Or.inl h; exact Or.inr (Or.inr (Or.inr (Or.inr (h)))))
                have hH : HT D cs A T (tk :: y0 :: d :: O) ((tk, .inr (7, [.ref y0, .int y1, .int n150_0_2, .int n150_0_3, .int n150_0_4, .int n150_0_5, .int n150_0_6, .int n150_0_7])) :: (y0, .inl (cs.1, 900, .inl ft)) :: (d, .inr (9, [.int z0, .int z1, .int z2, .int z3, .int z4, .int z5, .ref z6, .ref z7, .ref z8, .ref z9, .ref z10, .null, .int z12, .int z13])) :: X) H := HT.lay (ci := 4) hH t_a0 (okL_c (⟨_, rfl, t_tk⟩) (okL_c (⟨_, rfl, t_rq_1⟩) (okL_c (rfl) (okL_c (⟨_, rfl, by omega, by omega⟩) (okL_c (⟨_, rfl, t_rq_4⟩) (okL_n))))))
                have z9_1 : (1 : Int32).toInt = 1 := by decide
                exact te_z hx hb hr hlocks (by rfl) hH hS (⟨n150_0_2, n150_0_3, n150_0_4, n150_0_5, n150_0_6, n150_0_7, z0, z1, z3, z4, z5, rfl, by decide, by decide, (Or.inr ⟨x_v1500.1, by omega, by omega, by omega, (by first | (refine (g70.tr x_v740.2.2.2.r)) | (refine g139.tr (GR_n (by decide) x_v1500.2.2.1 x_v1500.2.2.2.1 x_v1500.2.2.2.2.1 x_v1500.2.1)))⟩), Or.inl (by decide), (by omega), (by omega), (by omega)⟩) dX4_readLine_172
          · skip
            have tc112 := f_ne (k := 0) (by decide) c112
            replace x_v1090 := x_v1090.resolve_left tc112
            clear x_v1091
            refine lv_aload_n hx hb dX4_readLine_115 rfl (lv_at hl 0 rfl) ?_
            refine tk_i hH hS hA (tr_V (n := 0) (As := []) hx hb hml hown hts hkb hH (ox_map hOX rfl) hks hE hS hA (s_RD_readBroken l D cs kf T O X a0 d y0 y1 y2 y3 y4 y5 y6 y7 ft z0 z1 z2 z3 z4 z5 z6 z7 z8 z9 z10 z12 z13 t tn tk t_a0 t_d t_y0 (by omega) (by omega) (by omega) (by omega) (by omega) (by omega) (by omega) (by omega) (by omega) (by omega) (by omega) (by omega) (by omega) (by omega) (by omega) (by omega) t_z6 t_z7 t_z8 t_z9 t_z10 (by omega) (by omega) (by omega) (by omega) (by omega) htb hto t_tk hU7 (by omega) (by omega) (hO.sub (by decide))) kw_698 kw_700 ks_16 kw_2 kw_701 (by decide +kernel) ⟨Nat.le_of_ble_eq_true rfl, Nat.le_of_ble_eq_true rfl⟩ (HT.recv (ci := 4) hkb hH t_a0 (hO.no t_a0 (by decide)) rfl) rfl rfl hl.1 (Nat.le_of_ble_eq_true rfl) dX4_readLine_116 ⟨Nat.le_of_ble_eq_true rfl, Nat.le_of_ble_eq_true rfl⟩) (fun v116 u H locs hz9 hH hS => ?_)
            obtain ⟨n116_0_2, n116_0_3, n116_0_4, n116_0_5, n116_0_6, n116_0_7, rfl, l_v116, u_v116, x_v1160, x_v1161, x_v1162⟩ := hz9
            have hH : HT D cs A T (tk :: y0 :: d :: O) ((tk, .inr (7, [.ref y0, .int y1, .int n116_0_2, .int n116_0_3, .int n116_0_4, .int n116_0_5, .int n116_0_6, .int n116_0_7])) :: (y0, .inl (cs.1, 900, .inl ft)) :: (d, .inr (9, [.int z0, .int z1, .int z2, .int z3, .int z4, .int z5, .ref z6, .ref z7, .ref z8, .ref z9, .ref z10, .null, .int z12, .int z13])) :: X) H := hH
            refine W.widen (k := 0) (n := 0) (Nat.le_of_ble_eq_true rfl) (Nat.le_of_ble_eq_true rfl) ?_
            exact te_z hx hb hr hlocks (nar01 (by omega) (by omega)) hH hS (⟨n116_0_2, n116_0_3, n116_0_4, n116_0_5, n116_0_6, n116_0_7, z0, z1, z3, z4, z5, rfl, by omega, by omega, x_v1160, x_v1161, (by omega), (by omega), (by omega)⟩) dX4_readLine_119
        · skip
          have tc95 := f_ne (k := 0) (by decide) c95
          replace x_v920 := x_v920.resolve_left tc95
          clear x_v921
          refine lv_aload_n hx hb dX4_readLine_98 rfl (lv_at hl 0 rfl) ?_
          refine tk_i hH hS hA (tr_V (n := 0) (As := []) hx hb hml hown hts hkb hH (ox_map hOX rfl) hks hE hS hA (s_RD_readUsed l D cs kf T O X a0 d y0 y1 y2 y3 y4 y5 y6 y7 ft z0 z1 z2 z3 z4 z5 z6 z7 z8 z9 z10 z12 z13 t tn tk t_a0 t_d t_y0 (by omega) (by omega) (by omega) (by omega) (by omega) (by omega) (by omega) (by omega) (by omega) (by omega) (by omega) (by omega) (by omega) (by omega) (by omega) (by omega) t_z6 t_z7 t_z8 t_z9 t_z10 (by omega) (by omega) (by omega) (by omega) (by omega) htb hto t_tk hU7 (by omega) (by omega) (hO.sub (by decide))) kw_678 kw_680 ks_15 kw_2 kw_681 (by decide +kernel) ⟨Nat.le_of_ble_eq_true rfl, Nat.le_of_ble_eq_true rfl⟩ (HT.recv (ci := 4) hkb hH t_a0 (hO.no t_a0 (by decide)) rfl) rfl rfl hl.1 (Nat.le_of_ble_eq_true rfl) dX4_readLine_99 ⟨Nat.le_of_ble_eq_true rfl, Nat.le_of_ble_eq_true rfl⟩) (fun v99 u H locs hz9 hH hS => ?_)
          obtain ⟨n99_0_2, n99_0_3, n99_0_4, n99_0_5, n99_0_6, n99_0_7, rfl, l_v99, u_v99, x_v990, x_v991, x_v992⟩ := hz9
          have hH : HT D cs A T (tk :: y0 :: d :: O) ((tk, .inr (7, [.ref y0, .int y1, .int n99_0_2, .int n99_0_3, .int n99_0_4, .int n99_0_5, .int n99_0_6, .int n99_0_7])) :: (y0, .inl (cs.1, 900, .inl ft)) :: (d, .inr (9, [.int z0, .int z1, .int z2, .int z3, .int z4, .int z5, .ref z6, .ref z7, .ref z8, .ref z9, .ref z10, .null, .int z12, .int z13])) :: X) H := hH
          refine W.widen (k := 0) (n := 0) (Nat.le_of_ble_eq_true rfl) (Nat.le_of_ble_eq_true rfl) ?_
          exact te_z hx hb hr hlocks (nar01 (by omega) (by omega)) hH hS (⟨n99_0_2, n99_0_3, n99_0_4, n99_0_5, n99_0_6, n99_0_7, z0, z1, z3, z4, z5, rfl, by omega, by omega, x_v990, x_v991, (by omega), (by omega), (by omega)⟩) dX4_readLine_102
      · skip
        have tc43 := f_ne (k := 0) (by decide) c43
        replace x_v400 := x_v400.resolve_left tc43
        clear x_v401
        refine lv_aload_n hx hb dX4_readLine_46 rfl (lv_at hl 0 rfl) ?_
        refine t_get (ci := 4) (lst := ft4 d 0) (C := RX4) (F := TX4) (N := 5) hx hb hts uX4 hown hkb hH t_a0 (hO.no t_a0 (by decide)) (fun _ h9 => h9) rfl rfl 0 (by decide) rfl kw_211 (fun _ h9 => h9) dX4_readLine_47 (fun v9 h9 => ?_)
        obtain ⟨v47, rfl, t_v47⟩ := h9
        have e9 := (hU7 _ _ t_v47).symm
        subst e9
        refine tk_v hH hS hA (tr_V (n := 0) (As := []) hx hb hml hown hts hkb hH (ox_map hOX rfl) hks hE hS hA (s_Tok_go l D cs kf T (d :: O) ((d, .inr (9, [.int z0, .int z1, .int z2, .int z3, .int z4, .int z5, .ref z6, .ref z7, .ref z8, .ref z9, .ref z10, .null, .int z12, .int z13])) :: X) tk y0 y1 y2 y3 y4 y5 y6 y7 ft t tn t_tk t_y0 (by omega) (by omega) (by omega) (by omega) (by omega) (by omega) (by omega) htb (by have q9 := (hto).b; omega) (hO.sub (by decide))) kw_583 kw_453 kw_454 kw_3 kw_455 (by decide +kernel) ⟨Nat.le_of_ble_eq_true rfl, Nat.le_of_ble_eq_true rfl⟩ (x_recv (ci := 7) hkb hH 0 rfl rfl) rfl rfl hl.1 (Nat.le_of_ble_eq_true rfl) dX4_readLine_50 ⟨Nat.le_of_ble_eq_true rfl, Nat.le_of_ble_eq_true rfl⟩) (fun u H locs hz9 hH hS => ?_)
        obtain ⟨n50_0_2, n50_0_3, n50_0_4, n50_0_5, rfl, x_v500, x_v501, x_v502⟩ := hz9
        have px50 := TSS.nx hto x_v501
        have hH : HT D cs A T (tk :: y0 :: d :: O) ((tk, .inr (7, [.ref y0, .int y1, .int n50_0_2, .int n50_0_3, .int n50_0_4, .int n50_0_5, .int y6, .int y7])) :: (y0, .inl (cs.1, 900, .inl ft)) :: (d, .inr (9, [.int z0, .int z1, .int z2, .int z3, .int z4, .int z5, .ref z6, .ref z7, .ref z8, .ref z9, .ref z10, .null, .int z12, .int z13])) :: X) H := hH
        refine W.widen (k := 0) (n := 0) (Nat.le_of_ble_eq_true rfl) (Nat.le_of_ble_eq_true rfl) ?_
        have g53 : GR t tn [(31, 0)] [(20, 31), (8, 0)] (RZ z0 z1 z3 z4 z2) (RZ z0 z1 z3 z4 z2) y2 n50_0_2 := GR_nx (fun _ => st_iS x_v400) px50
        refine lv_aload_n hx hb dX4_readLine_53 rfl (lv_at hl 0 rfl) ?_
        refine lv_iconst (v := 1) hx hb dX4_readLine_54 (by decide) ?_
        refine t_put (ci := 4) (lst := ft4 d 0) (v := .int 1) (ty := tyX4 3) (C := RX4) (F := TX4) (N := 5) hx hb hts uX4 tyX4 tyX4_ok nmX4 hown hkb hH hS t_a0 (hO.no t_a0 (by decide)) (fun _ => Iff.rfl) rfl rfl 3 (by decide) rfl (⟨_, rfl, by decide, by decide⟩) kw_215 (fun _ h9 => h9) rfl (tyX4_ok 3 (by decide)) rfl rfl dX4_readLine_55 (fun H locs hH hS => ?_)
        refine lv_aload_n hx hb dX4_readLine_58 rfl (lv_at hl 0 rfl) ?_
        refine t_get (ci := 4) (lst := ft4 d 0) (C := RX4) (F := TX4) (N := 5) hx hb hts uX4 hown hkb hH t_a0 (hO.no t_a0 (by decide)) (fun _ h9 => h9) rfl rfl 0 (by decide) rfl kw_211 (fun _ h9 => h9) dX4_readLine_59 (fun v9 h9 => ?_)
        obtain ⟨v59, rfl, t_v59⟩ := h9
        have e9 := (hU7 _ _ t_v59).symm
        subst e9
        refine lv_bipush (v := 58) hx hb dX4_readLine_62 (by decide) ?_
        have z9_58 : (58 : Int32).toInt = 58 := by decide
        refine tk_i hH hS hA (tr_V (n := 1) (As := [.int 58]) hx hb hml hown hts hkb hH (ox_map hOX rfl) hks hE hS hA (s_Tok_takeSign l D cs kf T (d :: O) ((d, .inr (9, [.int z0, .int z1, .int z2, .int z3, .int z4, .int z5, .ref z6, .ref z7, .ref z8, .ref z9, .ref z10, .null, .int z12, .int z13])) :: X) tk (58) y0 y1 n50_0_2 n50_0_3 n50_0_4 n50_0_5 y6 y7 ft t tn 31 t_tk t_y0 (by omega) (by omega) (by omega) (by omega) (by omega) (by omega) (by omega) htb x_v500 (by decide) (by decide) (hO.sub (by decide))) kw_610 kw_611 kw_612 kw_3 kw_613 (by decide +kernel) ⟨Nat.le_of_ble_eq_true rfl, Nat.le_of_ble_eq_true rfl⟩ (x_recv (ci := 7) hkb hH 0 rfl rfl) rfl rfl hl.1 (Nat.le_of_ble_eq_true rfl) dX4_readLine_64 ⟨Nat.le_of_ble_eq_true rfl, Nat.le_of_ble_eq_true rfl⟩) (fun v64 u H locs hz9 hH hS => ?_)
        obtain ⟨n64_0_2, n64_0_3, n64_0_4, n64_0_5, n64_0_6, n64_0_7, rfl, l_v64, u_v64, x_v640, x_v641, x_v642⟩ := hz9
        have hH : HT D cs A T (tk :: y0 :: d :: O) ((tk, .inr (7, [.ref y0, .int y1, .int n64_0_2, .int n64_0_3, .int n64_0_4, .int n64_0_5, .int n64_0_6, .int n64_0_7])) :: (y0, .inl (cs.1, 900, .inl ft)) :: (d, .inr (9, [.int z0, .int z1, .int z2, .int z3, .int z4, .int z5, .ref z6, .ref z7, .ref z8, .ref z9, .ref z10, .null, .int z12, .int z13])) :: X) H := hH
        refine W.widen (k := 0) (n := 0) (Nat.le_of_ble_eq_true rfl) (Nat.le_of_ble_eq_true rfl) ?_
        refine lv_if_eq (tgt := 84) hx hb dX4_readLine_67 (by decide) (fun c67 => ?_) (fun c67 => ?_)
        · skip
          have tc67 := f_eq (k := 0) (by decide) c67
          clear x_v640
          replace x_v641 := x_v641.resolve_left (fun q9 => q9 tc67)
          refine lv_iconst (v := 0) hx hb dX4_readLine_84 (by decide) ?_
          have z9_0 : (0 : Int32).toInt = 0 := by decide
          exact te_z hx hb hr hlocks (by rfl) hH hS (⟨n64_0_2, n64_0_3, n64_0_4, n64_0_5, n64_0_6, n64_0_7, z0, z1, z3, z4, z5, rfl, by decide, by decide, Or.inl (by decide), (Or.inr (by first | (refine (g53.ap (G := [(20, 30)])).bd (BR.cons (BR_f (G := []) (fun _ => st_xN x_v641.1) x_v641.2.1 (by decide) x_v641.2.2 ?_)); omega) | (refine (g70.ap (G := [(20, 30)])).bd (BR.cons (BL.r x_v741))) | (refine (g139.ap (G := [(20, 30)])).bd (BR.cons (BR_n (by decide) x_v1501.1 x_v1501.2.1 x_v1501.2.2 ?_)); omega) | (refine (BR_f (G := []) (fun _ => st_iN ?_) x_v1780 (by decide) x_v1781 ?_).cons <;> omega))), (by omega), (by omega), (by omega)⟩) dX4_readLine_85
        · skip
          have tc67 := f_ne (k := 0) (by decide) c67
          replace x_v640 := x_v640.resolve_left tc67
          clear x_v641
          have g70 : GR t tn [(31, 0)] [(8, 0)] (RZ z0 z1 z3 z4 z2) (RZ z0 z1 z3 z4 z2) y2 n64_0_2 := g53.tr (GR.cons (GR_nx (fun _ => st_xY x_v640.2.2.1) x_v640.2.1))
          refine lv_aload_n hx hb dX4_readLine_70 rfl (lv_at hl 0 rfl) ?_
          refine t_get (ci := 4) (lst := ft4 d 0) (C := RX4) (F := TX4) (N := 5) hx hb hts uX4 hown hkb hH t_a0 (hO.no t_a0 (by decide)) (fun _ h9 => h9) rfl rfl 1 (by decide) rfl kw_213 (fun _ h9 => h9) dX4_readLine_71 (fun v9 h9 => ?_)
          obtain ⟨v71, rfl, t_v71⟩ := h9
          refine tk_i hH hS hA (tr_V (n := 0) (As := []) hx hb hml hown hts hkb hH (ox_map hOX rfl) hks hE hS hA (s_LR_read l D cs kf T (d :: O) ((d, .inr (9, [.int z0, .int z1, .int z2, .int z3, .int z4, .int z5, .ref z6, .ref z7, .ref z8, .ref z9, .ref z10, .null, .int z12, .int z13])) :: X) v71 y0 y1 n64_0_2 n64_0_3 n64_0_4 n64_0_5 n64_0_6 n64_0_7 ft t tn tk t_v71 t_y0 (by omega) (by omega) (by omega) (by omega) (by omega) (by omega) (by omega) htb x_v640.1 t_tk hU7 (by omega) (hO.sub (by decide))) kw_618 kw_619 kw_620 kw_4 kw_621 (by decide +kernel) ⟨Nat.le_of_ble_eq_true rfl, Nat.le_of_ble_eq_true rfl⟩ (HT.recv (ci := 3) hkb hH t_v71 (hO.no t_v71 (by decide)) rfl) rfl rfl hl.1 (Nat.le_of_ble_eq_true rfl) dX4_readLine_74 ⟨Nat.le_of_ble_eq_true rfl, Nat.le_of_ble_eq_true rfl⟩) (fun v74 u H locs hz9 hH hS => ?_)
          obtain ⟨n74_0_2, n74_0_3, n74_0_4, n74_0_5, n74_0_6, n74_0_7, rfl, l_v74, u_v74, x_v740, x_v741, x_v742⟩ := hz9
          have hH : HT D cs A T (tk :: y0 :: d :: O) ((tk, .inr (7, [.ref y0, .int y1, .int n74_0_2, .int n74_0_3, .int n74_0_4, .int n74_0_5, .int n74_0_6, .int n74_0_7])) :: (y0, .inl (cs.1, 900, .inl ft)) :: (d, .inr (9, [.int z0, .int z1, .int z2, .int z3, .int z4, .int z5, .ref z6, .ref z7, .ref z8, .ref z9, .ref z10, .null, .int z12, .int z13])) :: X) H := hH
          refine W.widen (k := 0) (n := 0) (Nat.le_of_ble_eq_true rfl) (Nat.le_of_ble_eq_true rfl) ?_
          refine lv_if_eq (tgt := 84) hx hb dX4_readLine_77 (by decide) (fun c77 => ?_) (fun c77 => ?_)
          · skip
            have tc77 := f_eq (k := 0) (by decide) c77
            clear x_v740
            replace x_v741 := x_v741.resolve_left (fun q9 => q9 tc77)
            refine lv_iconst (v := 0) hx hb dX4_readLine_84 (by decide) ?_
            have z9_0 : (0 : Int32).toInt = 0 := by decide
            exact te_z hx hb hr hlocks (by rfl) hH hS (⟨n74_0_2, n74_0_3, n74_0_4, n74_0_5, n74_0_6, n74_0_7, z0, z1, z3, z4, z5, rfl, by decide, by decide, Or.inl (by decide), (Or.inr (by first | (refine (g53.ap (G := [(20, 30)])).bd (BR.cons (BR_f (G := []) (fun _ => st_xN x_v641.1) x_v641.2.1 (by decide) x_v641.2.2 ?_)); omega) | (refine (g70.ap (G := [(20, 30)])).bd (BR.cons (BL.r x_v741))) | (refine (g139.ap (G := [(20, 30)])).bd (BR.cons (BR_n (by decide) x_v1501.1 x_v1501.2.1 x_v1501.2.2 ?_)); omega) | (refine (BR_f (G := []) (fun _ => st_iN ?_) x_v1780 (by decide) x_v1781 ?_).cons <;> omega))), (by omega), (by omega), (by omega)⟩) dX4_readLine_85
          · skip
            have tc77 := f_ne (k := 0) (by decide) c77
            replace x_v740 := x_v740.resolve_left tc77
            clear x_v741
            refine lv_iconst (v := 1) hx hb dX4_readLine_80 (by decide) ?_
            refine lv_goto (tgt := 85) hx hb dX4_readLine_81 (by decide) ?_
            have z9_1 : (1 : Int32).toInt = 1 := by decide
            exact te_z hx hb hr hlocks (by rfl) hH hS (⟨n74_0_2, n74_0_3, n74_0_4, n74_0_5, n74_0_6, n74_0_7, z0, z1, z3, z4, z5, rfl, by decide, by decide, (Or.inr ⟨x_v740.1, by omega, by omega, by omega, (by first | (refine (g70.tr x_v740.2.2.2.r)) | (refine g139.tr (GR_n (by decide) x_v1500.2.2.1 x_v1500.2.2.2.1 x_v1500.2.2.2.2.1 x_v1500.2.1)))⟩), Or.inl (by decide), (by omega), (by omega), (by omega)⟩) dX4_readLine_85
    · skip
      have tc26 := f_ne (k := 0) (by decide) c26
      replace x_v230 := x_v230.resolve_left tc26
      clear x_v231
      refine lv_aload_n hx hb dX4_readLine_29 rfl (lv_at hl 0 rfl) ?_
      refine tk_i hH hS hA (tr_V (n := 0) (As := []) hx hb hml hown hts hkb hH (ox_map hOX rfl) hks hE hS hA (s_RD_readGuide l D cs kf T O X a0 d y0 y1 y2 y3 y4 y5 y6 y7 ft z0 z1 z2 z3 z4 z5 z6 z7 z8 z9 z10 z12 z13 t tn tk t_a0 t_d t_y0 (by omega) (by omega) (by omega) (by omega) (by omega) (by omega) (by omega) (by omega) (by omega) (by omega) (by omega) (by omega) (by omega) (by omega) (by omega) (by omega) t_z6 t_z7 t_z8 t_z9 t_z10 (by omega) (by omega) (by omega) (by omega) (by omega) htb hto t_tk hU7 (by omega) (by omega) (hO.sub (by decide))) kw_598 kw_600 ks_4 kw_2 kw_601 (by decide +kernel) ⟨Nat.le_of_ble_eq_true rfl, Nat.le_of_ble_eq_true rfl⟩ (HT.recv (ci := 4) hkb hH t_a0 (hO.no t_a0 (by decide)) rfl) rfl rfl hl.1 (Nat.le_of_ble_eq_true rfl) dX4_readLine_30 ⟨Nat.le_of_ble_eq_true rfl, Nat.le_of_ble_eq_true rfl⟩) (fun v30 u H locs hz9 hH hS => ?_)
      obtain ⟨n30_0_2, n30_0_3, n30_0_4, n30_0_5, n30_0_6, n30_0_7, n30_2_1, rfl, l_v30, u_v30, x_v300, x_v301, x_v302, x_v303⟩ := hz9
      have hH : HT D cs A T (tk :: y0 :: d :: O) ((tk, .inr (7, [.ref y0, .int y1, .int n30_0_2, .int n30_0_3, .int n30_0_4, .int n30_0_5, .int n30_0_6, .int n30_0_7])) :: (y0, .inl (cs.1, 900, .inl ft)) :: (d, .inr (9, [.int z0, .int n30_2_1, .int z2, .int z3, .int z4, .int z5, .ref z6, .ref z7, .ref z8, .ref z9, .ref z10, .null, .int z12, .int z13])) :: X) H := hH
      refine W.widen (k := 0) (n := 0) (Nat.le_of_ble_eq_true rfl) (Nat.le_of_ble_eq_true rfl) ?_
      exact te_z hx hb hr hlocks (nar01 (by omega) (by omega)) hH hS (⟨n30_0_2, n30_0_3, n30_0_4, n30_0_5, n30_0_6, n30_0_7, z0, n30_2_1, z3, z4, z5, rfl, by omega, by omega, x_v300, x_v301, (by omega), (by omega), (by omega)⟩) dX4_readLine_33
  · skip
    have tc9 := f_ne (k := 0) (by decide) c9
    replace x_v60 := x_v60.resolve_left tc9
    clear x_v61
    refine lv_aload_n hx hb dX4_readLine_12 rfl (lv_at hl 0 rfl) ?_
    refine tk_i hH hS hA (tr_V (n := 0) (As := []) hx hb hml hown hts hkb hH (ox_map hOX rfl) hks hE hS hA (s_RD_readHold l D cs kf T O X a0 d y0 y1 y2 y3 y4 y5 y6 y7 ft z0 z1 z2 z3 z4 z5 z6 z7 z8 z9 z10 z12 z13 t tn tk t_a0 t_d t_y0 (by omega) (by omega) (by omega) (by omega) (by omega) (by omega) (by omega) (by omega) (by omega) (by omega) (by omega) (by omega) (by omega) (by omega) (by omega) (by omega) t_z6 t_z7 t_z8 t_z9 t_z10 (by omega) (by omega) (by omega) (by omega) (by omega) htb hto t_tk hU7 (by omega) (by omega) (hO.sub (by decide))) kw_575 kw_577 ks_2 kw_2 kw_578 (by decide +kernel) ⟨Nat.le_of_ble_eq_true rfl, Nat.le_of_ble_eq_true rfl⟩ (HT.recv (ci := 4) hkb hH t_a0 (hO.no t_a0 (by decide)) rfl) rfl rfl hl.1 (Nat.le_of_ble_eq_true rfl) dX4_readLine_13 ⟨Nat.le_of_ble_eq_true rfl, Nat.le_of_ble_eq_true rfl⟩) (fun v13 u H locs hz9 hH hS => ?_)
    obtain ⟨n13_0_2, n13_0_3, n13_0_4, n13_0_5, n13_0_6, n13_0_7, n13_2_0, n13_2_3, n13_2_4, n13_2_5, rfl, l_v13, u_v13, x_v130, x_v131, x_v132, x_v133, x_v134⟩ := hz9
    have hH : HT D cs A T (tk :: y0 :: d :: O) ((tk, .inr (7, [.ref y0, .int y1, .int n13_0_2, .int n13_0_3, .int n13_0_4, .int n13_0_5, .int n13_0_6, .int n13_0_7])) :: (y0, .inl (cs.1, 900, .inl ft)) :: (d, .inr (9, [.int n13_2_0, .int z1, .int z2, .int n13_2_3, .int n13_2_4, .int n13_2_5, .ref z6, .ref z7, .ref z8, .ref z9, .ref z10, .null, .int z12, .int z13])) :: X) H := hH
    refine W.widen (k := 0) (n := 0) (Nat.le_of_ble_eq_true rfl) (Nat.le_of_ble_eq_true rfl) ?_
    exact te_z hx hb hr hlocks (nar01 (by omega) (by omega)) hH hS (⟨n13_0_2, n13_0_3, n13_0_4, n13_0_5, n13_0_6, n13_0_7, n13_2_0, z1, n13_2_3, n13_2_4, n13_2_5, rfl, by omega, by omega, x_v130, x_v131, (by omega), (by omega), (by omega)⟩) dX4_readLine_16
theorem dX4_read_0 : decode cX4_read 0 = .ok (.aload_n 0, 1) := by decide +kernel
theorem dX4_read_1 : decode cX4_read 1 = .ok (.getfield 32, 3) := by decide +kernel
theorem dX4_read_4 : decode cX4_read 4 = .ok (.invokevirtual 47, 3) := by decide +kernel
theorem dX4_read_7 : decode cX4_read 7 = .ok (.aload_n 0, 1) := by decide +kernel
theorem dX4_read_8 : decode cX4_read 8 = .ok (.getfield 43, 3) := by decide +kernel
theorem dX4_read_11 : decode cX4_read 11 = .ok (.invokevirtual 50, 3) := by decide +kernel
theorem dX4_read_14 : decode cX4_read 14 = .ok (.aload_n 0, 1) := by decide +kernel
theorem dX4_read_15 : decode cX4_read 15 = .ok (.iconst 0, 1) := by decide +kernel
theorem dX4_read_16 : decode cX4_read 16 = .ok (.putfield 36, 3) := by decide +kernel
theorem dX4_read_19 : decode cX4_read 19 = .ok (.aload_n 0, 1) := by decide +kernel
theorem dX4_read_20 : decode cX4_read 20 = .ok (.getfield 12, 3) := by decide +kernel
theorem dX4_read_23 : decode cX4_read 23 = .ok (.aload_n 1, 1) := by decide +kernel
theorem dX4_read_24 : decode cX4_read 24 = .ok (.iload_n 2, 1) := by decide +kernel
theorem dX4_read_25 : decode cX4_read 25 = .ok (.invokevirtual 51, 3) := by decide +kernel
theorem dX4_read_28 : decode cX4_read 28 = .ok (.iconst 0, 1) := by decide +kernel
theorem dX4_read_29 : decode cX4_read 29 = .ok (.istore_n 3, 1) := by decide +kernel
theorem dX4_read_30 : decode cX4_read 30 = .ok (.iload_n 3, 1) := by decide +kernel
theorem dX4_read_31 : decode cX4_read 31 = .ok (.sipush 900, 3) := by decide +kernel
theorem dX4_read_34 : decode cX4_read 34 = .ok (.if_icmp .ge 53, 3) := by decide +kernel
theorem dX4_read_37 : decode cX4_read 37 = .ok (.aload_n 0, 1) := by decide +kernel
theorem dX4_read_38 : decode cX4_read 38 = .ok (.getfield 12, 3) := by decide +kernel
theorem dX4_read_41 : decode cX4_read 41 = .ok (.getfield 55, 3) := by decide +kernel
theorem dX4_read_44 : decode cX4_read 44 = .ok (.ifCond .eq 43, 3) := by decide +kernel
theorem dX4_read_47 : decode cX4_read 47 = .ok (.aload_n 0, 1) := by decide +kernel
theorem dX4_read_48 : decode cX4_read 48 = .ok (.invokevirtual 59, 3) := by decide +kernel
theorem dX4_read_51 : decode cX4_read 51 = .ok (.ifCond .eq 15, 3) := by decide +kernel
theorem dX4_read_54 : decode cX4_read 54 = .ok (.aload_n 0, 1) := by decide +kernel
theorem dX4_read_55 : decode cX4_read 55 = .ok (.getfield 12, 3) := by decide +kernel
theorem dX4_read_58 : decode cX4_read 58 = .ok (.bipush 59, 2) := by decide +kernel
theorem dX4_read_60 : decode cX4_read 60 = .ok (.invokevirtual 63, 3) := by decide +kernel
theorem dX4_read_63 : decode cX4_read 63 = .ok (.ifCond .ne 5, 3) := by decide +kernel
theorem dX4_read_66 : decode cX4_read 66 = .ok (.iconst 0, 1) := by decide +kernel
theorem dX4_read_67 : decode cX4_read 67 = .ok (.ireturn, 1) := by decide +kernel
theorem dX4_read_68 : decode cX4_read 68 = .ok (.aload_n 0, 1) := by decide +kernel
theorem dX4_read_69 : decode cX4_read 69 = .ok (.getfield 32, 3) := by decide +kernel
theorem dX4_read_72 : decode cX4_read 72 = .ok (.dup, 1) := by decide +kernel
theorem dX4_read_73 : decode cX4_read 73 = .ok (.getfield 67, 3) := by decide +kernel
theorem dX4_read_76 : decode cX4_read 76 = .ok (.iconst 1, 1) := by decide +kernel
theorem dX4_read_77 : decode cX4_read 77 = .ok (.iadd, 1) := by decide +kernel
theorem dX4_read_78 : decode cX4_read 78 = .ok (.putfield 67, 3) := by decide +kernel
theorem dX4_read_81 : decode cX4_read 81 = .ok (.iinc 3 1, 3) := by decide +kernel
theorem dX4_read_84 : decode cX4_read 84 = .ok (.goto (-54), 3) := by decide +kernel
theorem dX4_read_87 : decode cX4_read 87 = .ok (.aload_n 0, 1) := by decide +kernel
theorem dX4_read_88 : decode cX4_read 88 = .ok (.getfield 43, 3) := by decide +kernel
theorem dX4_read_91 : decode cX4_read 91 = .ok (.invokevirtual 70, 3) := by decide +kernel
theorem dX4_read_94 : decode cX4_read 94 = .ok (.iconst 1, 1) := by decide +kernel
theorem dX4_read_95 : decode cX4_read 95 = .ok (.ireturn, 1) := by decide +kernel
theorem dX7_begin_0 : decode cX7_begin 0 = .ok (.aload_n 0, 1) := by decide +kernel
theorem dX7_begin_1 : decode cX7_begin 1 = .ok (.aload_n 1, 1) := by decide +kernel
theorem dX7_begin_2 : decode cX7_begin 2 = .ok (.putfield 9, 3) := by decide +kernel
theorem dX7_begin_5 : decode cX7_begin 5 = .ok (.aload_n 0, 1) := by decide +kernel
theorem dX7_begin_6 : decode cX7_begin 6 = .ok (.iload_n 2, 1) := by decide +kernel
theorem dX7_begin_7 : decode cX7_begin 7 = .ok (.aload_n 1, 1) := by decide +kernel
theorem dX7_begin_8 : decode cX7_begin 8 = .ok (.arraylength, 1) := by decide +kernel
theorem dX7_begin_9 : decode cX7_begin 9 = .ok (.invokestatic 37, 3) := by decide +kernel
theorem dX7_begin_12 : decode cX7_begin 12 = .ok (.putfield 15, 3) := by decide +kernel
theorem dX7_begin_15 : decode cX7_begin 15 = .ok (.aload_n 0, 1) := by decide +kernel
theorem dX7_begin_16 : decode cX7_begin 16 = .ok (.iconst 0, 1) := by decide +kernel
theorem dX7_begin_17 : decode cX7_begin 17 = .ok (.putfield 22, 3) := by decide +kernel
theorem dX7_begin_20 : decode cX7_begin 20 = .ok (.aload_n 0, 1) := by decide +kernel
theorem dX7_begin_21 : decode cX7_begin 21 = .ok (.iconst 0, 1) := by decide +kernel
theorem dX7_begin_22 : decode cX7_begin 22 = .ok (.putfield 31, 3) := by decide +kernel
theorem dX7_begin_25 : decode cX7_begin 25 = .ok (.aload_n 0, 1) := by decide +kernel
theorem dX7_begin_26 : decode cX7_begin 26 = .ok (.iconst (-1), 1) := by decide +kernel
theorem dX7_begin_27 : decode cX7_begin 27 = .ok (.putfield 34, 3) := by decide +kernel
theorem dX7_begin_30 : decode cX7_begin 30 = .ok (.aload_n 0, 1) := by decide +kernel
theorem dX7_begin_31 : decode cX7_begin 31 = .ok (.invokevirtual 43, 3) := by decide +kernel
theorem dX7_begin_34 : decode cX7_begin 34 = .ok (.return_, 1) := by decide +kernel
theorem kw_114 : Cond.fieldLink "FootholdWall$Reader" 67 "FootholdWall$Wall" "lines" "I" ∈ gw := gw_of (tb_of 114 (by decide +kernel)) (by decide +kernel)
theorem kw_437 : Cond.methodLink "FootholdWall$Reader" 47 yX9_forget ∈ gw := gw_of (tb_of 437 (by decide +kernel)) (by decide +kernel)
theorem kw_438 : Cond.instanceMethod yX9_forget ∈ gw := gw_of (tb_of 438 (by decide +kernel)) (by decide +kernel)
theorem kw_439 : Cond.selects "FootholdWall$Wall" yX9_forget yX9_forget ∈ gw := gw_of (tb_of 439 (by decide +kernel)) (by decide +kernel)
theorem kw_440 : Cond.code yX9_forget cX9_forget 1 none ∈ gw := gw_of (tb_of 440 (by decide +kernel)) (by decide +kernel)
theorem kw_441 : Cond.methodLink "FootholdWall$Reader" 50 yX6_forget ∈ gw := gw_of (tb_of 441 (by decide +kernel)) (by decide +kernel)
theorem kw_442 : Cond.instanceMethod yX6_forget ∈ gw := gw_of (tb_of 442 (by decide +kernel)) (by decide +kernel)
theorem kw_443 : Cond.selects "FootholdWall$State" yX6_forget yX6_forget ∈ gw := gw_of (tb_of 443 (by decide +kernel)) (by decide +kernel)
theorem kw_444 : Cond.code yX6_forget cX6_forget 1 none ∈ gw := gw_of (tb_of 444 (by decide +kernel)) (by decide +kernel)
theorem kw_445 : Cond.methodLink "FootholdWall$Reader" 51 yX7_begin ∈ gw := gw_of (tb_of 445 (by decide +kernel)) (by decide +kernel)
theorem kw_446 : Cond.instanceMethod yX7_begin ∈ gw := gw_of (tb_of 446 (by decide +kernel)) (by decide +kernel)
theorem kw_447 : Cond.selects "FootholdWall$Tokens" yX7_begin yX7_begin ∈ gw := gw_of (tb_of 447 (by decide +kernel)) (by decide +kernel)
theorem kw_448 : Cond.code yX7_begin cX7_begin 3 none ∈ gw := gw_of (tb_of 448 (by decide +kernel)) (by decide +kernel)
theorem kw_449 : Cond.methodLink "FootholdWall$Tokens" 37 Lib.Math.min.name ∈ gw := gw_of (tb_of 449 (by decide +kernel)) (by decide +kernel)
theorem kw_545 : Cond.methodLink "FootholdWall$Reader" 59 yX4_readLine ∈ gw := gw_of (tb_of 545 (by decide +kernel)) (by decide +kernel)
theorem kw_547 : Cond.instanceMethod yX4_readLine ∈ gw := gw_of (tb_of 547 (by decide +kernel)) (by decide +kernel)
theorem kw_548 : Cond.code yX4_readLine cX4_readLine 1 (some (.boolean)) ∈ gw := gw_of (tb_of 548 (by decide +kernel)) (by decide +kernel)
theorem kw_707 : Cond.methodLink "FootholdWall$Reader" 70 yX6_useSinceToday ∈ gw := gw_of (tb_of 707 (by decide +kernel)) (by decide +kernel)
theorem kw_708 : Cond.instanceMethod yX6_useSinceToday ∈ gw := gw_of (tb_of 708 (by decide +kernel)) (by decide +kernel)
theorem kw_709 : Cond.selects "FootholdWall$State" yX6_useSinceToday yX6_useSinceToday ∈ gw := gw_of (tb_of 709 (by decide +kernel)) (by decide +kernel)
theorem kw_710 : Cond.code yX6_useSinceToday cX6_useSinceToday 2 none ∈ gw := gw_of (tb_of 710 (by decide +kernel)) (by decide +kernel)
theorem ks_1 : Cond.selects RX4 yX4_readLine yX4_readLine ∈ gw := gw_of (pv_of 1 (by decide +kernel)) (by decide +kernel)
