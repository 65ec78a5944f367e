set_option maxHeartbeats 4000000 in
set_option maxRecDepth 100000 in
theorem s_LR_readAtom2 (l : Launch) (D : va_G) (cs : CS) (kf : KF) (T : TF) (O : List Nat) (X : va_W) (a0 : Nat) (x1 : Int32) (y0 : Nat) (y1 : Int32) (y2 : Int32) (y3 : Int32) (y4 : Int32) (y5 : Int32) (y6 : Int32) (y7 : Int32) (ft : Nat → Int32) (t : Tp) (tn : Nat) (tk : Nat) (t_a0 : T a0 = some (13, 0, 0)) (l_x1 : 2 ≤ x1.toInt) (u_x1 : x1.toInt ≤ 2) (t_y0 : T y0 = some (0, 900, 0)) (l_y1 : 0 ≤ y1.toInt) (u_y1 : y1.toInt ≤ 900) (l_y2 : 0 ≤ y2.toInt) (u_y2 : y2.toInt ≤ 900) (l_y3 : 0 ≤ y3.toInt) (u_y3 : y3.toInt ≤ 900) (hn : y1.toInt = (tn : Int)) (htb : TB ft t) (hto : TSS t tn y2 y3 y4 y5) (t_tk : T tk = some (17, 0, 0)) (hU7 : ∀ (b : Nat) (q : Nat), T b = some (17, 0, q) → b = tk) (hz : y6.toInt = 0) (hO : okO T (tk :: y0 :: O) [1, 13]) : TK l D cs kf yX3_readAtom cX3_readAtom 3 (some (.boolean)) { frames := 18, cells := 0, slots := 0, locals := 403 } [.ref a0, .int x1] T (tk :: y0 :: O) ((tk, .inr (7, [.ref y0, .int y1, .int y2, .int y3, .int y4, .int y5, .int y6, .int y7])) :: (y0, .inl (cs.1, 900, .inl ft)) :: X) (Ti D cs (fun r u => ∃ (n0_2 : Int32) (n0_3 : Int32) (n0_4 : Int32) (n0_5 : Int32) (n0_6 : Int32) (n0_7 : Int32), u = (T, tk :: y0 :: O, (tk, .inr (7, [.ref y0, .int y1, .int n0_2, .int n0_3, .int n0_4, .int n0_5, .int n0_6, .int n0_7])) :: (y0, .inl (cs.1, 900, .inl ft)) :: X) ∧ 0 ≤ r.toInt ∧ r.toInt ≤ 1 ∧ (r.toInt = 0 ∨ (TSS t tn n0_2 n0_3 n0_4 n0_5 ∧ n0_6.toInt = 0 ∧ n0_7.toInt = y7.toInt ∧ GL t tn [(0, 2)] [] y2 n0_2)) ∧ (r.toInt ≠ 0 ∨ BL t tn [(0, 2)] y2 n0_6 n0_7) ∧ (y2.toInt ≤ n0_2.toInt ∧ n0_2.toInt ≤ n0_3.toInt ∧ n0_3.toInt ≤ y1.toInt))) := by
  refine tk_of (by decide) (Nat.le_of_ble_eq_true rfl) (fun p e s m below meth c ls A H locs hx hb hr hml hown hts hlocks hnm hkb hH hS hA hOX hks hE hl => ?_)
  have hown : s.vm.findClass RX3 = some m.cls := hown
  have hl : lv_has ls 3 [(0, .ref a0), (1, .int x1)] := hl
  have hOXf := hOX
  have hb9 := hto.b
  have hc9 := hto.cs
  refine lv_aload_n hx hb dX3_readAtom_0 rfl (lv_at hl 0 rfl) ?_
  refine t_get (ci := 3) (lst := ft3 0 0) (C := RX3) (F := TX3) (N := 3) hx hb hts uX3 hown hkb hH t_a0 (hO.no t_a0 (by decide)) (fun _ h9 => h9) rfl rfl 0 (by decide) rfl kw_82 (fun _ h9 => h9) dX3_readAtom_1 (fun v9 h9 => ?_)
  obtain ⟨v1, rfl, t_v1⟩ := h9
  have e9 := (hU7 _ _ t_v1).symm
  subst e9
  refine lv_bipush (v := 40) hx hb dX3_readAtom_4 (by decide) ?_
  have z9_40 : (40 : Int32).toInt = 40 := by decide
  refine tk_i hH hS hA (tr_V (n := 1) (As := [.int 40]) hx hb hml hown hts hkb hH (ox_map hOX rfl) hks hE hS hA (s_Tok_isSign l D cs kf T O X tk (40) y0 y1 y2 y3 y4 y5 y6 y7 ft t tn 35 t_tk t_y0 (by omega) (by omega) (by omega) (by omega) (by omega) (by omega) (by omega) htb hto (by decide) (by decide) (hO.sub (by decide))) kw_646 kw_615 kw_616 kw_3 kw_617 (by decide +kernel) ⟨Nat.le_of_ble_eq_true rfl, Nat.le_of_ble_eq_true rfl⟩ (x_recv (ci := 7) hkb hH 0 rfl rfl) rfl rfl hl.1 (Nat.le_of_ble_eq_true rfl) dX3_readAtom_6 ⟨Nat.le_of_ble_eq_true rfl, Nat.le_of_ble_eq_true rfl⟩) (fun v6 u H locs hz9 hH hS => ?_)
  obtain ⟨rfl, l_v6, u_v6, x_v60, x_v61⟩ := hz9
  have hH : HT D cs A T (tk :: y0 :: O) ((tk, .inr (7, [.ref y0, .int y1, .int y2, .int y3, .int y4, .int y5, .int y6, .int y7])) :: (y0, .inl (cs.1, 900, .inl ft)) :: X) H := hH
  refine W.widen (k := 0) (n := 0) (Nat.le_of_ble_eq_true rfl) (Nat.le_of_ble_eq_true rfl) ?_
  refine lv_if_eq (tgt := 48) hx hb dX3_readAtom_9 (by decide) (fun c9 => ?_) (fun c9 => ?_)
  · skip
    have tc9 := f_eq (k := 0) (by decide) c9
    clear x_v60
    replace x_v61 := x_v61.resolve_left (fun q9 => q9 tc9)
    refine lv_aload_n hx hb dX3_readAtom_48 rfl (lv_at hl 0 rfl) ?_
    refine t_get (ci := 3) (lst := ft3 0 0) (C := RX3) (F := TX3) (N := 3) hx hb hts uX3 hown hkb hH t_a0 (hO.no t_a0 (by decide)) (fun _ h9 => h9) rfl rfl 0 (by decide) rfl kw_82 (fun _ h9 => h9) dX3_readAtom_49 (fun v9 h9 => ?_)
    obtain ⟨v49, rfl, t_v49⟩ := h9
    have e9 := (hU7 _ _ t_v49).symm
    subst e9
    refine x_getk (ci := 7) (C := RX7) (F := TX7) (N := 8) (v := .int y4) hx hb hts uX7 hown hkb hH 0 rfl rfl 4 (by decide) rfl kw_50 (fun _ h9 => h9) dX3_readAtom_52 ?_
    refine lv_iconst (v := 2) hx hb dX3_readAtom_55 (by decide) ?_
    refine lv_icmp_ne (tgt := 80) hx hb dX3_readAtom_56 (by decide) (fun c56 => ?_) (fun c56 => ?_)
    · skip
      have tc56 := f_ne (k := 2) (by decide) c56
      refine lv_aload_n hx hb dX3_readAtom_80 rfl (lv_at hl 0 rfl) ?_
      refine tk_i hH hS hA (tr_V (n := 0) (As := []) hx hb hml hown hts hkb hH (ox_map hOX rfl) hks hE hS hA (s_LR_factHere l D cs kf T O X a0 y0 y1 y2 y3 y4 y5 y6 y7 ft t tn tk t_a0 t_y0 (by omega) (by omega) (by omega) (by omega) (by omega) (by omega) (by omega) htb hto t_tk hU7 (hO.sub (by decide))) kw_660 kw_662 ks_13 kw_4 kw_663 (by decide +kernel) ⟨Nat.le_of_ble_eq_true rfl, Nat.le_of_ble_eq_true rfl⟩ (HT.recv (ci := 3) hkb hH t_a0 (hO.no t_a0 (by decide)) rfl) rfl rfl hl.1 (Nat.le_of_ble_eq_true rfl) dX3_readAtom_81 ⟨Nat.le_of_ble_eq_true rfl, Nat.le_of_ble_eq_true rfl⟩) (fun v81 u H locs hz9 hH hS => ?_)
      obtain ⟨rfl, l_v81, u_v81, x_v810, x_v811⟩ := hz9
      have hH : HT D cs A T (tk :: y0 :: O) ((tk, .inr (7, [.ref y0, .int y1, .int y2, .int y3, .int y4, .int y5, .int y6, .int y7])) :: (y0, .inl (cs.1, 900, .inl ft)) :: X) H := hH
      refine W.widen (k := 0) (n := 0) (Nat.le_of_ble_eq_true rfl) (Nat.le_of_ble_eq_true rfl) ?_
      refine lv_istore_n (lv' := [(2, .int v81), (0, .ref a0), (1, .int x1)]) hx hb dX3_readAtom_84 rfl hl (by decide) rfl (fun ls hl => ?_)
      refine lv_iload_n hx hb dX3_readAtom_85 rfl (lv_at hl 0 rfl) ?_
      refine lv_iconst (v := (-1)) hx hb dX3_readAtom_86 (by decide) ?_
      refine lv_icmp_ne (tgt := 99) hx hb dX3_readAtom_87 (by decide) (fun c87 => ?_) (fun c87 => ?_)
      · skip
        have tc87 := f_ne (k := -1) (by decide) c87
        replace x_v810 := x_v810.resolve_left tc87
        clear x_v811
        refine lv_aload_n hx hb dX3_readAtom_99 rfl (lv_at hl 1 rfl) ?_
        refine lv_iconst (v := 1) hx hb dX3_readAtom_100 (by decide) ?_
        refine lv_iload_n hx hb dX3_readAtom_101 rfl (lv_at hl 0 rfl) ?_
        refine tk_v hH hS hA (tr_V (n := 2) (As := [.int 1, .int v81]) hx hb hml hown hts hkb hH (ox_map hOX rfl) hks hE hS hA (s_LR_put l D cs kf T (tk :: y0 :: O) ((tk, .inr (7, [.ref y0, .int y1, .int y2, .int y3, .int y4, .int y5, .int y6, .int y7])) :: (y0, .inl (cs.1, 900, .inl ft)) :: X) a0 (1) v81 t_a0 (hO.sub (by decide))) kw_642 kw_644 ks_9 kw_4 kw_645 (by decide +kernel) ⟨Nat.le_of_ble_eq_true rfl, Nat.le_of_ble_eq_true rfl⟩ (HT.recv (ci := 3) hkb hH t_a0 (hO.no t_a0 (by decide)) rfl) rfl rfl hl.1 (Nat.le_of_ble_eq_true rfl) dX3_readAtom_102 ⟨Nat.le_of_ble_eq_true rfl, Nat.le_of_ble_eq_true rfl⟩) (fun u H locs hz9 hH hS => ?_)
        have hz9 : u = (T, tk :: y0 :: O, (tk, .inr (7, [.ref y0, .int y1, .int y2, .int y3, .int y4, .int y5, .int y6, .int y7])) :: (y0, .inl (cs.1, 900, .inl ft)) :: X) := hz9
        subst hz9
        have hH : HT D cs A T (tk :: y0 :: O) ((tk, .inr (7, [.ref y0, .int y1, .int y2, .int y3, .int y4, .int y5, .int y6, .int y7])) :: (y0, .inl (cs.1, 900, .inl ft)) :: X) H := hH
        refine W.widen (k := 0) (n := 0) (Nat.le_of_ble_eq_true rfl) (Nat.le_of_ble_eq_true rfl) ?_
        refine lv_aload_n hx hb dX3_readAtom_105 rfl (lv_at hl 1 rfl) ?_
        refine t_get (ci := 3) (lst := ft3 0 0) (C := RX3) (F := TX3) (N := 3) hx hb hts uX3 hown hkb hH t_a0 (hO.no t_a0 (by decide)) (fun _ h9 => h9) rfl rfl 0 (by decide) rfl kw_82 (fun _ h9 => h9) dX3_readAtom_106 (fun v9 h9 => ?_)
        obtain ⟨v106, rfl, t_v106⟩ := h9
        have e9 := (hU7 _ _ t_v106).symm
        subst e9
        refine tk_v hH hS hA (tr_V (n := 0) (As := []) hx hb hml hown hts hkb hH (ox_map hOX rfl) hks hE hS hA (s_Tok_go l D cs kf T O X tk y0 y1 y2 y3 y4 y5 y6 y7 ft t tn t_tk t_y0 (by omega) (by omega) (by omega) (by omega) (by omega) (by omega) (by omega) htb (by have q9 := (hto).b; omega) (hO.sub (by decide))) kw_641 kw_453 kw_454 kw_3 kw_455 (by decide +kernel) ⟨Nat.le_of_ble_eq_true rfl, Nat.le_of_ble_eq_true rfl⟩ (x_recv (ci := 7) hkb hH 0 rfl rfl) rfl rfl hl.1 (Nat.le_of_ble_eq_true rfl) dX3_readAtom_109 ⟨Nat.le_of_ble_eq_true rfl, Nat.le_of_ble_eq_true rfl⟩) (fun u H locs hz9 hH hS => ?_)
        obtain ⟨n109_0_2, n109_0_3, n109_0_4, n109_0_5, rfl, x_v1090, x_v1091, x_v1092⟩ := hz9
        have px109 := TSS.nx hto x_v1091
        have hH : HT D cs A T (tk :: y0 :: O) ((tk, .inr (7, [.ref y0, .int y1, .int n109_0_2, .int n109_0_3, .int n109_0_4, .int n109_0_5, .int y6, .int y7])) :: (y0, .inl (cs.1, 900, .inl ft)) :: X) H := hH
        refine W.widen (k := 0) (n := 0) (Nat.le_of_ble_eq_true rfl) (Nat.le_of_ble_eq_true rfl) ?_
        refine lv_iconst (v := 1) hx hb dX3_readAtom_112 (by decide) ?_
        have z9_1 : (1 : Int32).toInt = 1 := by decide
        exact te_z hx hb hr hlocks (by rfl) hH hS (⟨n109_0_2, n109_0_3, n109_0_4, n109_0_5, y6, y7, rfl, by decide, by decide, (Or.inr ⟨x_v1090, by omega, by omega, (by first | (refine g30.tr (GL_nx (fun _ _ => st_xY x_v360.2.2.1) x_v360.2.1)) | (refine GL_nx (fun _ _ => st_aV ?_) px75; omega) | (refine GL_nx (fun _ _ => st_aV ?_) px109; omega))⟩), Or.inl (by decide), (by omega)⟩) dX3_readAtom_113
      · skip
        have tc87 := f_eq (k := -1) (by decide) c87
        clear x_v810
        replace x_v811 := x_v811.resolve_left (fun q9 => q9 tc87)
        refine lv_aload_n hx hb dX3_readAtom_90 rfl (lv_at hl 1 rfl) ?_
        refine t_get (ci := 3) (lst := ft3 0 0) (C := RX3) (F := TX3) (N := 3) hx hb hts uX3 hown hkb hH t_a0 (hO.no t_a0 (by decide)) (fun _ h9 => h9) rfl rfl 0 (by decide) rfl kw_82 (fun _ h9 => h9) dX3_readAtom_91 (fun v9 h9 => ?_)
        obtain ⟨v91, rfl, t_v91⟩ := h9
        have e9 := (hU7 _ _ t_v91).symm
        subst e9
        refine lv_iconst (v := 2) hx hb dX3_readAtom_94 (by decide) ?_
        have z9_2 : (2 : Int32).toInt = 2 := by decide
        refine tk_i hH hS hA (tr_V (n := 1) (As := [.int 2]) hx hb hml hown hts hkb hH (ox_map hOX rfl) hks hE hS hA (s_Tok_refuse l D cs kf T O X tk (2) y0 y1 y2 y3 y4 y5 y6 y7 ft t tn t_tk t_y0 (by omega) (by omega) (by omega) (by omega) (by omega) (by omega) (by omega) htb hto (hO.sub (by decide))) kw_640 kw_580 kw_581 kw_3 kw_582 (by decide +kernel) ⟨Nat.le_of_ble_eq_true rfl, Nat.le_of_ble_eq_true rfl⟩ (x_recv (ci := 7) hkb hH 0 rfl rfl) rfl rfl hl.1 (Nat.le_of_ble_eq_true rfl) dX3_readAtom_95 ⟨Nat.le_of_ble_eq_true rfl, Nat.le_of_ble_eq_true rfl⟩) (fun v95 u H locs hz9 hH hS => ?_)
        obtain ⟨n95_0_6, n95_0_7, rfl, l_v95, u_v95, x_v950, x_v951⟩ := hz9
        have hH : HT D cs A T (tk :: y0 :: O) ((tk, .inr (7, [.ref y0, .int y1, .int y2, .int y3, .int y4, .int y5, .int n95_0_6, .int n95_0_7])) :: (y0, .inl (cs.1, 900, .inl ft)) :: X) H := hH
        refine W.widen (k := 0) (n := 0) (Nat.le_of_ble_eq_true rfl) (Nat.le_of_ble_eq_true rfl) ?_
        exact te_z hx hb hr hlocks (nar01 (by omega) (by omega)) hH hS (⟨y2, y3, y4, y5, n95_0_6, n95_0_7, rfl, by omega, by omega, (Or.inl (by omega)), (Or.inr (by first | (refine BL_f (fun _ _ => st_aD ?_) x_v140 (by decide) x_v141 ?_ <;> omega) | (refine g20.bd (BL.cons x_v241)) | (refine g30.bd (BL_f (fun _ _ => st_xN x_v361.1) x_v361.2.1 (by decide) x_v361.2.2 ?_); omega) | (refine BL_f (fun _ _ => st_aN ?_ ?_) x_v950 (by decide) x_v951 ?_ <;> omega))), (by omega)⟩) dX3_readAtom_98
    · skip
      have tc56 := f_eq (k := 2) (by decide) c56
      refine lv_aload_n hx hb dX3_readAtom_59 rfl (lv_at hl 0 rfl) ?_
      refine lv_iconst (v := 0) hx hb dX3_readAtom_60 (by decide) ?_
      refine lv_aload_n hx hb dX3_readAtom_61 rfl (lv_at hl 0 rfl) ?_
      refine t_get (ci := 3) (lst := ft3 0 0) (C := RX3) (F := TX3) (N := 3) hx hb hts uX3 hown hkb hH t_a0 (hO.no t_a0 (by decide)) (fun _ h9 => h9) rfl rfl 0 (by decide) rfl kw_82 (fun _ h9 => h9) dX3_readAtom_62 (fun v9 h9 => ?_)
      obtain ⟨v62, rfl, t_v62⟩ := h9
      have e9 := (hU7 _ _ t_v62).symm
      subst e9
      refine x_getk (ci := 7) (C := RX7) (F := TX7) (N := 8) (v := .int y5) hx hb hts uX7 hown hkb hH 0 rfl rfl 5 (by decide) rfl kw_53 (fun _ h9 => h9) dX3_readAtom_65 ?_
      refine tk_v hH hS hA (tr_V (n := 2) (As := [.int 0, .int y5]) hx hb hml hown hts hkb hH (ox_map hOX rfl) hks hE hS hA (s_LR_put l D cs kf T (tk :: y0 :: O) ((tk, .inr (7, [.ref y0, .int y1, .int y2, .int y3, .int y4, .int y5, .int y6, .int y7])) :: (y0, .inl (cs.1, 900, .inl ft)) :: X) a0 (0) y5 t_a0 (hO.sub (by decide))) kw_642 kw_644 ks_9 kw_4 kw_645 (by decide +kernel) ⟨Nat.le_of_ble_eq_true rfl, Nat.le_of_ble_eq_true rfl⟩ (HT.recv (ci := 3) hkb hH t_a0 (hO.no t_a0 (by decide)) rfl) rfl rfl hl.1 (Nat.le_of_ble_eq_true rfl) dX3_readAtom_68 ⟨Nat.le_of_ble_eq_true rfl, Nat.le_of_ble_eq_true rfl⟩) (fun u H locs hz9 hH hS => ?_)
      have hz9 : u = (T, tk :: y0 :: O, (tk, .inr (7, [.ref y0, .int y1, .int y2, .int y3, .int y4, .int y5, .int y6, .int y7])) :: (y0, .inl (cs.1, 900, .inl ft)) :: X) := hz9
      subst hz9
      have hH : HT D cs A T (tk :: y0 :: O) ((tk, .inr (7, [.ref y0, .int y1, .int y2, .int y3, .int y4, .int y5, .int y6, .int y7])) :: (y0, .inl (cs.1, 900, .inl ft)) :: X) H := hH
      refine W.widen (k := 0) (n := 0) (Nat.le_of_ble_eq_true rfl) (Nat.le_of_ble_eq_true rfl) ?_
      refine lv_aload_n hx hb dX3_readAtom_71 rfl (lv_at hl 0 rfl) ?_
      refine t_get (ci := 3) (lst := ft3 0 0) (C := RX3) (F := TX3) (N := 3) hx hb hts uX3 hown hkb hH t_a0 (hO.no t_a0 (by decide)) (fun _ h9 => h9) rfl rfl 0 (by decide) rfl kw_82 (fun _ h9 => h9) dX3_readAtom_72 (fun v9 h9 => ?_)
      obtain ⟨v72, rfl, t_v72⟩ := h9
      have e9 := (hU7 _ _ t_v72).symm
      subst e9
      refine tk_v hH hS hA (tr_V (n := 0) (As := []) hx hb hml hown hts hkb hH (ox_map hOX rfl) hks hE hS hA (s_Tok_go l D cs kf T O X tk y0 y1 y2 y3 y4 y5 y6 y7 ft t tn t_tk t_y0 (by omega) (by omega) (by omega) (by omega) (by omega) (by omega) (by omega) htb (by have q9 := (hto).b; omega) (hO.sub (by decide))) kw_641 kw_453 kw_454 kw_3 kw_455 (by decide +kernel) ⟨Nat.le_of_ble_eq_true rfl, Nat.le_of_ble_eq_true rfl⟩ (x_recv (ci := 7) hkb hH 0 rfl rfl) rfl rfl hl.1 (Nat.le_of_ble_eq_true rfl) dX3_readAtom_75 ⟨Nat.le_of_ble_eq_true rfl, Nat.le_of_ble_eq_true rfl⟩) (fun u H locs hz9 hH hS => ?_)
      obtain ⟨n75_0_2, n75_0_3, n75_0_4, n75_0_5, rfl, x_v750, x_v751, x_v752⟩ := hz9
      have px75 := TSS.nx hto x_v751
      have hH : HT D cs A T (tk :: y0 :: O) ((tk, .inr (7, [.ref y0, .int y1, .int n75_0_2, .int n75_0_3, .int n75_0_4, .int n75_0_5, .int y6, .int y7])) :: (y0, .inl (cs.1, 900, .inl ft)) :: X) H := hH
      refine W.widen (k := 0) (n := 0) (Nat.le_of_ble_eq_true rfl) (Nat.le_of_ble_eq_true rfl) ?_
      refine lv_iconst (v := 1) hx hb dX3_readAtom_78 (by decide) ?_
      have z9_1 : (1 : Int32).toInt = 1 := by decide
      exact te_z hx hb hr hlocks (by rfl) hH hS (⟨n75_0_2, n75_0_3, n75_0_4, n75_0_5, y6, y7, rfl, by decide, by decide, (Or.inr ⟨x_v750, by omega, by omega, (by first | (refine g30.tr (GL_nx (fun _ _ => st_xY x_v360.2.2.1) x_v360.2.1)) | (refine GL_nx (fun _ _ => st_aV ?_) px75; omega) | (refine GL_nx (fun _ _ => st_aV ?_) px109; omega))⟩), Or.inl (by decide), (by omega)⟩) dX3_readAtom_79
  · skip
    have tc9 := f_ne (k := 0) (by decide) c9
    replace x_v60 := x_v60.resolve_left tc9
    clear x_v61
    refine lv_aload_n hx hb dX3_readAtom_12 rfl (lv_at hl 0 rfl) ?_
    refine lv_iload_n hx hb dX3_readAtom_13 rfl (lv_at hl 1 rfl) ?_
    refine tk_i hH hS hA (tr_V (n := 1) (As := [.int x1]) hx hb hml hown hts hkb hH (ox_map hOX rfl) hks hE hS hA (s_LR_enter2 l D cs kf T O X a0 x1 y0 y1 y2 y3 y4 y5 y6 y7 ft t tn tk t_a0 (by omega) (by omega) t_y0 (by omega) (by omega) (by omega) (by omega) (by omega) (by omega) (by omega) htb hto t_tk hU7 (hO.sub (by decide))) kw_636 kw_638 ks_8 kw_4 kw_639 (by decide +kernel) ⟨Nat.le_of_ble_eq_true rfl, Nat.le_of_ble_eq_true rfl⟩ (HT.recv (ci := 3) hkb hH t_a0 (hO.no t_a0 (by decide)) rfl) rfl rfl hl.1 (Nat.le_of_ble_eq_true rfl) dX3_readAtom_14 ⟨Nat.le_of_ble_eq_true rfl, Nat.le_of_ble_eq_true rfl⟩) (fun v14 u H locs hz9 hH hS => ?_)
    obtain ⟨n14_0_2, n14_0_3, n14_0_4, n14_0_5, rfl, l_v14, u_v14, x_v140, x_v141, x_v142⟩ := hz9
    have hH : HT D cs A T (tk :: y0 :: O) ((tk, .inr (7, [.ref y0, .int y1, .int n14_0_2, .int n14_0_3, .int n14_0_4, .int n14_0_5, .int y6, .int y7])) :: (y0, .inl (cs.1, 900, .inl ft)) :: X) H := hH
    refine W.widen (k := 0) (n := 0) (Nat.le_of_ble_eq_true rfl) (Nat.le_of_ble_eq_true rfl) ?_
    refine lv_if_eq (tgt := 46) hx hb dX3_readAtom_17 (by decide) (fun c17 => ?_) (fun c17 => ?_)
    · skip
      have tc17 := f_eq (k := 0) (by decide) c17
      exfalso; omega
    · skip
      have tc17 := f_ne (k := 0) (by decide) c17
      have g20 : GL t tn [(0, 2)] [(3, 3), (20, 36)] y2 n14_0_2 := GL_nx (fun _ _ => st_aP (by omega) (by decide)) x_v141
      refine lv_aload_n hx hb dX3_readAtom_20 rfl (lv_at hl 0 rfl) ?_
      refine lv_iload_n hx hb dX3_readAtom_21 rfl (lv_at hl 1 rfl) ?_
      refine lv_iconst (v := 1) hx hb dX3_readAtom_22 (by decide) ?_
      refine lv_iadd hx hb dX3_readAtom_23 ?_
      refine lv_topi (fun v23 ev23 => ?_)
      have tv23 : v23.toInt = x1.toInt + (1) := by rw [ev23]; exact add_i rfl (by decide : (1 : Int32).toInt = 1) (by omega) (by omega)
      refine tk_i hH hS hA (tr_V (n := 1) (As := [.int v23]) hx hb hml hown hts hkb hH (ox_map hOX rfl) hks hE hS hA (s_LR_readSum3 l D cs kf T O X a0 v23 y0 y1 n14_0_2 n14_0_3 n14_0_4 n14_0_5 y6 y7 ft t tn tk t_a0 (by omega) (by omega) t_y0 (by omega) (by omega) (by omega) (by omega) (by omega) (by omega) (by omega) htb x_v140 t_tk hU7 (by omega) (hO.sub (by decide))) kw_648 kw_650 ks_10 kw_4 kw_651 (by decide +kernel) ⟨Nat.le_of_ble_eq_true rfl, Nat.le_of_ble_eq_true rfl⟩ (HT.recv (ci := 3) hkb hH t_a0 (hO.no t_a0 (by decide)) rfl) rfl rfl hl.1 (Nat.le_of_ble_eq_true rfl) dX3_readAtom_24 ⟨Nat.le_of_ble_eq_true rfl, Nat.le_of_ble_eq_true rfl⟩) (fun v24 u H locs hz9 hH hS => ?_)
      obtain ⟨n24_0_2, n24_0_3, n24_0_4, n24_0_5, n24_0_6, n24_0_7, rfl, l_v24, u_v24, x_v240, x_v241, x_v242⟩ := hz9
      have hH : HT D cs A T (tk :: y0 :: O) ((tk, .inr (7, [.ref y0, .int y1, .int n24_0_2, .int n24_0_3, .int n24_0_4, .int n24_0_5, .int n24_0_6, .int n24_0_7])) :: (y0, .inl (cs.1, 900, .inl ft)) :: X) H := hH
      refine W.widen (k := 0) (n := 0) (Nat.le_of_ble_eq_true rfl) (Nat.le_of_ble_eq_true rfl) ?_
      refine lv_if_eq (tgt := 46) hx hb dX3_readAtom_27 (by decide) (fun c27 => ?_) (fun c27 => ?_)
      · skip
        have tc27 := f_eq (k := 0) (by decide) c27
        clear x_v240
        replace x_v241 := x_v241.resolve_left (fun q9 => q9 tc27)
        refine lv_iconst (v := 0) hx hb dX3_readAtom_46 (by decide) ?_
        have z9_0 : (0 : Int32).toInt = 0 := by decide
        exact te_z hx hb hr hlocks (by rfl) hH hS (⟨n24_0_2, n24_0_3, n24_0_4, n24_0_5, n24_0_6, n24_0_7, rfl, by decide, by decide, Or.inl (by decide), (Or.inr (by first | (refine BL_f (fun _ _ => st_aD ?_) x_v140 (by decide) x_v141 ?_ <;> omega) | (refine g20.bd (BL.cons x_v241)) | (refine g30.bd (BL_f (fun _ _ => st_xN x_v361.1) x_v361.2.1 (by decide) x_v361.2.2 ?_); omega) | (refine BL_f (fun _ _ => st_aN ?_ ?_) x_v950 (by decide) x_v951 ?_ <;> omega))), (by omega)⟩) dX3_readAtom_47
      · skip
        have tc27 := f_ne (k := 0) (by decide) c27
        replace x_v240 := x_v240.resolve_left tc27
        clear x_v241
        have g30 := g20.tr (GL.cons x_v240.2.2.2)
        refine lv_aload_n hx hb dX3_readAtom_30 rfl (lv_at hl 0 rfl) ?_
        refine t_get (ci := 3) (lst := ft3 0 0) (C := RX3) (F := TX3) (N := 3) hx hb hts uX3 hown hkb hH t_a0 (hO.no t_a0 (by decide)) (fun _ h9 => h9) rfl rfl 0 (by decide) rfl kw_82 (fun _ h9 => h9) dX3_readAtom_31 (fun v9 h9 => ?_)
        obtain ⟨v31, rfl, t_v31⟩ := h9
        have e9 := (hU7 _ _ t_v31).symm
        subst e9
        refine lv_bipush (v := 41) hx hb dX3_readAtom_34 (by decide) ?_
        have z9_41 : (41 : Int32).toInt = 41 := by decide
        refine tk_i hH hS hA (tr_V (n := 1) (As := [.int 41]) hx hb hml hown hts hkb hH (ox_map hOX rfl) hks hE hS hA (s_Tok_takeSign l D cs kf T O X tk (41) y0 y1 n24_0_2 n24_0_3 n24_0_4 n24_0_5 n24_0_6 n24_0_7 ft t tn 36 t_tk t_y0 (by omega) (by omega) (by omega) (by omega) (by omega) (by omega) (by omega) htb x_v240.1 (by decide) (by decide) (hO.sub (by decide))) kw_647 kw_611 kw_612 kw_3 kw_613 (by decide +kernel) ⟨Nat.le_of_ble_eq_true rfl, Nat.le_of_ble_eq_true rfl⟩ (x_recv (ci := 7) hkb hH 0 rfl rfl) rfl rfl hl.1 (Nat.le_of_ble_eq_true rfl) dX3_readAtom_36 ⟨Nat.le_of_ble_eq_true rfl, Nat.le_of_ble_eq_true rfl⟩) (fun v36 u H locs hz9 hH hS => ?_)
        obtain ⟨n36_0_2, n36_0_3, n36_0_4, n36_0_5, n36_0_6, n36_0_7, rfl, l_v36, u_v36, x_v360, x_v361, x_v362⟩ := hz9
        have hH : HT D cs A T (tk :: y0 :: O) ((tk, .inr (7, [.ref y0, .int y1, .int n36_0_2, .int n36_0_3, .int n36_0_4, .int n36_0_5, .int n36_0_6, .int n36_0_7])) :: (y0, .inl (cs.1, 900, .inl ft)) :: X) H := hH
        refine W.widen (k := 0) (n := 0) (Nat.le_of_ble_eq_true rfl) (Nat.le_of_ble_eq_true rfl) ?_
        refine lv_if_eq (tgt := 46) hx hb dX3_readAtom_39 (by decide) (fun c39 => ?_) (fun c39 => ?_)
        · skip
          have tc39 := f_eq (k := 0) (by decide) c39
          clear x_v360
          replace x_v361 := x_v361.resolve_left (fun q9 => q9 tc39)
          refine lv_iconst (v := 0) hx hb dX3_readAtom_46 (by decide) ?_
          have z9_0 : (0 : Int32).toInt = 0 := by decide
          exact te_z hx hb hr hlocks (by rfl) hH hS (⟨n36_0_2, n36_0_3, n36_0_4, n36_0_5, n36_0_6, n36_0_7, rfl, by decide, by decide, Or.inl (by decide), (Or.inr (by first | (refine BL_f (fun _ _ => st_aD ?_) x_v140 (by decide) x_v141 ?_ <;> omega) | (refine g20.bd (BL.cons x_v241)) | (refine g30.bd (BL_f (fun _ _ => st_xN x_v361.1) x_v361.2.1 (by decide) x_v361.2.2 ?_); omega) | (refine BL_f (fun _ _ => st_aN ?_ ?_) x_v950 (by decide) x_v951 ?_ <;> omega))), (by omega)⟩) dX3_readAtom_47
        · skip
          have tc39 := f_ne (k := 0) (by decide) c39
          replace x_v360 := x_v360.resolve_left tc39
          clear x_v361
          refine lv_iconst (v := 1) hx hb dX3_readAtom_42 (by decide) ?_
          refine lv_goto (tgt := 47) hx hb dX3_readAtom_43 (by decide) ?_
          have z9_1 : (1 : Int32).toInt = 1 := by decide
          exact te_z hx hb hr hlocks (by rfl) hH hS (⟨n36_0_2, n36_0_3, n36_0_4, n36_0_5, n36_0_6, n36_0_7, rfl, by decide, by decide, (Or.inr ⟨x_v360.1, by omega, by omega, (by first | (refine g30.tr (GL_nx (fun _ _ => st_xY x_v360.2.2.1) x_v360.2.1)) | (refine GL_nx (fun _ _ => st_aV ?_) px75; omega) | (refine GL_nx (fun _ _ => st_aV ?_) px109; omega))⟩), Or.inl (by decide), (by omega)⟩) dX3_readAtom_47
set_option maxHeartbeats 4000000 in
set_option maxRecDepth 100000 in
theorem s_LR_readTerm2 (l : Launch) (D : va_G) (cs : CS) (kf : KF) (T : TF) (O : List Nat) (X : va_W) (a0 : Nat) (x1 : Int32) (y0 : Nat) (y1 : Int32) (y2 : Int32) (y3 : Int32) (y4 : Int32) (y5 : Int32) (y6 : Int32) (y7 : Int32) (ft : Nat → Int32) (t : Tp) (tn : Nat) (tk : Nat) (t_a0 : T a0 = some (13, 0, 0)) (l_x1 : 2 ≤ x1.toInt) (u_x1 : x1.toInt ≤ 2) (t_y0 : T y0 = some (0, 900, 0)) (l_y1 : 0 ≤ y1.toInt) (u_y1 : y1.toInt ≤ 900) (l_y2 : 0 ≤ y2.toInt) (u_y2 : y2.toInt ≤ 900) (l_y3 : 0 ≤ y3.toInt) (u_y3 : y3.toInt ≤ 900) (hn : y1.toInt = (tn : Int)) (htb : TB ft t) (hto : TSS t tn y2 y3 y4 y5) (t_tk : T tk = some (17, 0, 0)) (hU7 : ∀ (b : Nat) (q : Nat), T b = some (17, 0, q) → b = tk) (hz : y6.toInt = 0) (hO : okO T (tk :: y0 :: O) [1, 13]) : TK l D cs kf yX3_readTerm cX3_readTerm 4 (some (.boolean)) { frames := 19, cells := 0, slots := 0, locals := 425 } [.ref a0, .int x1] T (tk :: y0 :: O) ((tk, .inr (7, [.ref y0, .int y1, .int y2, .int y3, .int y4, .int y5, .int y6, .int y7])) :: (y0, .inl (cs.1, 900, .inl ft)) :: X) (Ti D cs (fun r u => ∃ (n0_2 : Int32) (n0_3 : Int32) (n0_4 : Int32) (n0_5 : Int32) (n0_6 : Int32) (n0_7 : Int32), u = (T, tk :: y0 :: O, (tk, .inr (7, [.ref y0, .int y1, .int n0_2, .int n0_3, .int n0_4, .int n0_5, .int n0_6, .int n0_7])) :: (y0, .inl (cs.1, 900, .inl ft)) :: X) ∧ 0 ≤ r.toInt ∧ r.toInt ≤ 1 ∧ (r.toInt = 0 ∨ (TSS t tn n0_2 n0_3 n0_4 n0_5 ∧ n0_6.toInt = 0 ∧ n0_7.toInt = y7.toInt ∧ GL t tn [(1, 2)] [] y2 n0_2)) ∧ (r.toInt ≠ 0 ∨ BL t tn [(1, 2)] y2 n0_6 n0_7) ∧ (y2.toInt ≤ n0_2.toInt ∧ n0_2.toInt ≤ n0_3.toInt ∧ n0_3.toInt ≤ y1.toInt))) := by
  refine tk_of (by decide) (Nat.le_of_ble_eq_true rfl) (fun p e s m below meth c ls A H locs hx hb hr hml hown hts hlocks hnm hkb hH hS hA hOX hks hE hl => ?_)
  have hown : s.vm.findClass RX3 = some m.cls := hown
  have hl : lv_has ls 4 [(0, .ref a0), (1, .int x1)] := hl
  have hOXf := hOX
  have hb9 := hto.b
  have hc9 := hto.cs
  refine lv_aload_n hx hb dX3_readTerm_0 rfl (lv_at hl 0 rfl) ?_
  refine lv_iload_n hx hb dX3_readTerm_1 rfl (lv_at hl 1 rfl) ?_
  refine tk_i hH hS hA (tr_V (n := 1) (As := [.int x1]) hx hb hml hown hts hkb hH (ox_map hOX rfl) hks hE hS hA (s_LR_readAtom2 l D cs kf T O X a0 x1 y0 y1 y2 y3 y4 y5 y6 y7 ft t tn tk t_a0 (by omega) (by omega) t_y0 (by omega) (by omega) (by omega) (by omega) (by omega) (by omega) (by omega) htb hto t_tk hU7 (by omega) (hO.sub (by decide))) kw_656 kw_658 ks_12 kw_4 kw_659 (by decide +kernel) ⟨Nat.le_of_ble_eq_true rfl, Nat.le_of_ble_eq_true rfl⟩ (HT.recv (ci := 3) hkb hH t_a0 (hO.no t_a0 (by decide)) rfl) rfl rfl hl.1 (Nat.le_of_ble_eq_true rfl) dX3_readTerm_2 ⟨Nat.le_of_ble_eq_true rfl, Nat.le_of_ble_eq_true rfl⟩) (fun v2 u H locs hz9 hH hS => ?_)
  obtain ⟨n2_0_2, n2_0_3, n2_0_4, n2_0_5, n2_0_6, n2_0_7, rfl, l_v2, u_v2, x_v20, x_v21, x_v22⟩ := hz9
  have hH : HT D cs A T (tk :: y0 :: O) ((tk, .inr (7, [.ref y0, .int y1, .int n2_0_2, .int n2_0_3, .int n2_0_4, .int n2_0_5, .int n2_0_6, .int n2_0_7])) :: (y0, .inl (cs.1, 900, .inl ft)) :: X) H := hH
  refine W.widen (k := 0) (n := 0) (Nat.le_of_ble_eq_true rfl) (Nat.le_of_ble_eq_true rfl) ?_
  refine lv_istore_n (lv' := [(2, .int v2), (0, .ref a0), (1, .int x1)]) hx hb dX3_readTerm_5 rfl hl (by decide) rfl (fun ls hl => ?_)
  refine lv_iconst (v := 0) hx hb dX3_readTerm_6 (by decide) ?_
  have J8 : ∀ (n : Nat) (p8_3 : Int32) (p8_2 : Int32) (f8_102 : Int32) (f8_103 : Int32) (f8_104 : Int32) (f8_105 : Int32) (f8_106 : Int32) (f8_107 : Int32) (H : Heap) (locs : List Loc) (ls : Array Slot), (900 - p8_3.toInt).toNat = n → (0 ≤ p8_3.toInt) → (p8_3.toInt ≤ 900) → (0 ≤ p8_2.toInt) → (p8_2.toInt ≤ 1) → (0 ≤ f8_102.toInt) → (f8_102.toInt ≤ 900) → (0 ≤ f8_103.toInt) → (f8_103.toInt ≤ 900) → (LTI t tn [(1, 2)] [(2, 2)] y2 p8_2 f8_102 f8_103 f8_104 f8_105 f8_106 f8_107 y7) → (y2.toInt ≤ f8_102.toInt ∧ f8_102.toInt ≤ f8_103.toInt ∧ f8_103.toInt ≤ y1.toInt) → (p8_2.toInt = 0 ∨ p8_3.toInt ≤ f8_102.toInt) → HT D cs A T (tk :: y0 :: O) ((tk, .inr (7, [.ref y0, .int y1, .int f8_102, .int f8_103, .int f8_104, .int f8_105, .int f8_106, .int f8_107])) :: (y0, .inl (cs.1, 900, .inl ft)) :: X) H → va_S A s.heap H locs → lv_has ls 4 [(3, .int p8_3), (2, .int p8_2), (0, .ref a0), (1, .int x1)] → W p l e { frames := 19, cells := 0, slots := 0, locals := 425 } s m [.ref a0, .int x1].toArray below meth c H locs 0 0 (MQ below (Ti D cs (fun r u => ∃ (n0_2 : Int32) (n0_3 : Int32) (n0_4 : Int32) (n0_5 : Int32) (n0_6 : Int32) (n0_7 : Int32), u = (T, tk :: y0 :: O, (tk, .inr (7, [.ref y0, .int y1, .int n0_2, .int n0_3, .int n0_4, .int n0_5, .int n0_6, .int n0_7])) :: (y0, .inl (cs.1, 900, .inl ft)) :: X) ∧ 0 ≤ r.toInt ∧ r.toInt ≤ 1 ∧ (r.toInt = 0 ∨ (TSS t tn n0_2 n0_3 n0_4 n0_5 ∧ n0_6.toInt = 0 ∧ n0_7.toInt = y7.toInt ∧ GL t tn [(1, 2)] [] y2 n0_2)) ∧ (r.toInt ≠ 0 ∨ BL t tn [(1, 2)] y2 n0_6 n0_7) ∧ (y2.toInt ≤ n0_2.toInt ∧ n0_2.toInt ≤ n0_3.toInt ∧ n0_3.toInt ≤ y1.toInt)) A) [.ref a0, .int x1].toArray s 0 0 A) (F0 m 8 ls []) := by
    intro n
    induction n using Nat.strongRecOn with
    | _ n ih8 =>
      intro p8_3 p8_2 f8_102 f8_103 f8_104 f8_105 f8_106 f8_107 H locs ls hm8 l_p8_3 u_p8_3 l_p8_2 u_p8_2 l_f8_102 u_f8_102 l_f8_103 u_f8_103 i8t i8n i8c hH hS hl
      refine lv_iload_n hx hb dX3_readTerm_8 rfl (lv_at hl 0 rfl) ?_
      refine lv_sipush (v := 900) hx hb dX3_readTerm_9 (by decide) ?_
      refine lv_icmp_ge (tgt := 57) hx hb dX3_readTerm_12 (by decide) (fun c12 => ?_) (fun c12 => ?_)
      · skip
        have tc12 := f_ge (k := 900) (by decide) c12
        have hk9 : p8_2.toInt = 0 ∨ GL t tn [(2, 2)] [] f8_102 f8_102 := by first | (refine Or.inl ?_; omega) | exact Or.inr (fun _ _ => st_tN x_v251) | (by_cases q9 : p8_2.toInt = 0; exact Or.inl q9; refine Or.inr (fun _ _ => st_tN ?_); have q8 := LTI.ok i8t q9; have q7 := q8.1.b; rw [kd_end (by omega)]; decide)
        have hz9 := LTI.en i8t hk9
        refine lv_iload_n hx hb dX3_readTerm_57 rfl (lv_at hl 1 rfl) ?_
        exact te_z hx hb hr hlocks (nar01 (by omega) (by omega)) hH hS (⟨f8_102, f8_103, f8_104, f8_105, f8_106, f8_107, rfl, by omega, by omega, hz9.1, hz9.2, (by omega)⟩) dX3_readTerm_58
      · skip
        have tc12 := f_nge (k := 900) (by decide) c12
        refine lv_iload_n hx hb dX3_readTerm_15 rfl (lv_at hl 1 rfl) ?_
        refine lv_if_eq (tgt := 57) hx hb dX3_readTerm_16 (by decide) (fun c16 => ?_) (fun c16 => ?_)
        · skip
          have tc16 := f_eq (k := 0) (by decide) c16
          have hk9 : p8_2.toInt = 0 ∨ GL t tn [(2, 2)] [] f8_102 f8_102 := by first | (refine Or.inl ?_; omega) | exact Or.inr (fun _ _ => st_tN x_v251) | (by_cases q9 : p8_2.toInt = 0; exact Or.inl q9; refine Or.inr (fun _ _ => st_tN ?_); have q8 := LTI.ok i8t q9; have q7 := q8.1.b; rw [kd_end (by omega)]; decide)
          have hz9 := LTI.en i8t hk9
          refine lv_iload_n hx hb dX3_readTerm_57 rfl (lv_at hl 1 rfl) ?_
          exact te_z hx hb hr hlocks (nar01 (by omega) (by omega)) hH hS (⟨f8_102, f8_103, f8_104, f8_105, f8_106, f8_107, rfl, by omega, by omega, hz9.1, hz9.2, (by omega)⟩) dX3_readTerm_58
        · skip
          have tc16 := f_ne (k := 0) (by decide) c16
          have h19 := LTI.ok i8t (by omega)
          have hb19 := h19.1.b
          have hc19 := h19.1.cs
          refine lv_aload_n hx hb dX3_readTerm_19 rfl (lv_at hl 2 rfl) ?_
          refine t_get (ci := 3) (lst := ft3 0 0) (C := RX3) (F := TX3) (N := 3) hx hb hts uX3 hown hkb hH t_a0 (hO.no t_a0 (by decide)) (fun _ h9 => h9) rfl rfl 0 (by decide) rfl kw_82 (fun _ h9 => h9) dX3_readTerm_20 (fun v9 h9 => ?_)
          obtain ⟨v20, rfl, t_v20⟩ := h9
          have e9 := (hU7 _ _ t_v20).symm
          subst e9
          refine lv_bipush (v := 42) hx hb dX3_readTerm_23 (by decide) ?_
          have z9_42 : (42 : Int32).toInt = 42 := by decide
          refine tk_i hH hS hA (tr_V (n := 1) (As := [.int 42]) hx hb hml hown hts hkb hH (ox_map hOX rfl) hks hE hS hA (s_Tok_isSign l D cs kf T O X tk (42) y0 y1 f8_102 f8_103 f8_104 f8_105 f8_106 f8_107 ft t tn 34 t_tk t_y0 (by omega) (by omega) (by omega) (by omega) (by omega) (by omega) (by omega) htb h19.1 (by decide) (by decide) (hO.sub (by decide))) kw_646 kw_615 kw_616 kw_3 kw_617 (by decide +kernel) ⟨Nat.le_of_ble_eq_true rfl, Nat.le_of_ble_eq_true rfl⟩ (x_recv (ci := 7) hkb hH 0 rfl rfl) rfl rfl hl.1 (Nat.le_of_ble_eq_true rfl) dX3_readTerm_25 ⟨Nat.le_of_ble_eq_true rfl, Nat.le_of_ble_eq_true rfl⟩) (fun v25 u H locs hz9 hH hS => ?_)
          obtain ⟨rfl, l_v25, u_v25, x_v250, x_v251⟩ := hz9
          have hH : HT D cs A T (tk :: y0 :: O) ((tk, .inr (7, [.ref y0, .int y1, .int f8_102, .int f8_103, .int f8_104, .int f8_105, .int f8_106, .int f8_107])) :: (y0, .inl (cs.1, 900, .inl ft)) :: X) H := hH
          refine W.widen (k := 0) (n := 0) (Nat.le_of_ble_eq_true rfl) (Nat.le_of_ble_eq_true rfl) ?_
          refine lv_if_eq (tgt := 57) hx hb dX3_readTerm_28 (by decide) (fun c28 => ?_) (fun c28 => ?_)
          · skip
            have tc28 := f_eq (k := 0) (by decide) c28
            clear x_v250
            replace x_v251 := x_v251.resolve_left (fun q9 => q9 tc28)
            have hk9 : p8_2.toInt = 0 ∨ GL t tn [(2, 2)] [] f8_102 f8_102 := by first | (refine Or.inl ?_; omega) | exact Or.inr (fun _ _ => st_tN x_v251) | (by_cases q9 : p8_2.toInt = 0; exact Or.inl q9; refine Or.inr (fun _ _ => st_tN ?_); have q8 := LTI.ok i8t q9; have q7 := q8.1.b; rw [kd_end (by omega)]; decide)
            have hz9 := LTI.en i8t hk9
            refine lv_iload_n hx hb dX3_readTerm_57 rfl (lv_at hl 1 rfl) ?_
            exact te_z hx hb hr hlocks (nar01 (by omega) (by omega)) hH hS (⟨f8_102, f8_103, f8_104, f8_105, f8_106, f8_107, rfl, by omega, by omega, hz9.1, hz9.2, (by omega)⟩) dX3_readTerm_58
          · skip
            have tc28 := f_ne (k := 0) (by decide) c28
            replace x_v250 := x_v250.resolve_left tc28
            clear x_v251
            refine lv_aload_n hx hb dX3_readTerm_31 rfl (lv_at hl 2 rfl) ?_
            refine t_get (ci := 3) (lst := ft3 0 0) (C := RX3) (F := TX3) (N := 3) hx hb hts uX3 hown hkb hH t_a0 (hO.no t_a0 (by decide)) (fun _ h9 => h9) rfl rfl 0 (by decide) rfl kw_82 (fun _ h9 => h9) dX3_readTerm_32 (fun v9 h9 => ?_)
            obtain ⟨v32, rfl, t_v32⟩ := h9
            have e9 := (hU7 _ _ t_v32).symm
            subst e9
            have hl9 := h19.1.lt (by omega)
            refine tk_v hH hS hA (tr_V (n := 0) (As := []) hx hb hml hown hts hkb hH (ox_map hOX rfl) hks hE hS hA (s_Tok_go l D cs kf T O X tk y0 y1 f8_102 f8_103 f8_104 f8_105 f8_106 f8_107 ft t tn t_tk t_y0 (by omega) (by omega) (by omega) (by omega) (by omega) (by omega) (by omega) htb (by have q9 := (h19.1).b; omega) (hO.sub (by decide))) kw_641 kw_453 kw_454 kw_3 kw_455 (by decide +kernel) ⟨Nat.le_of_ble_eq_true rfl, Nat.le_of_ble_eq_true rfl⟩ (x_recv (ci := 7) hkb hH 0 rfl rfl) rfl rfl hl.1 (Nat.le_of_ble_eq_true rfl) dX3_readTerm_35 ⟨Nat.le_of_ble_eq_true rfl, Nat.le_of_ble_eq_true rfl⟩) (fun u H locs hz9 hH hS => ?_)
            obtain ⟨n35_0_2, n35_0_3, n35_0_4, n35_0_5, rfl, x_v350, x_v351, x_v352⟩ := hz9
            have px35 := TSS.nx h19.1 x_v351
            have hH : HT D cs A T (tk :: y0 :: O) ((tk, .inr (7, [.ref y0, .int y1, .int n35_0_2, .int n35_0_3, .int n35_0_4, .int n35_0_5, .int f8_106, .int f8_107])) :: (y0, .inl (cs.1, 900, .inl ft)) :: X) H := hH
            refine W.widen (k := 0) (n := 0) (Nat.le_of_ble_eq_true rfl) (Nat.le_of_ble_eq_true rfl) ?_
            refine lv_aload_n hx hb dX3_readTerm_38 rfl (lv_at hl 2 rfl) ?_
            refine lv_iload_n hx hb dX3_readTerm_39 rfl (lv_at hl 3 rfl) ?_
            refine tk_i hH hS hA (tr_V (n := 1) (As := [.int x1]) hx hb hml hown hts hkb hH (ox_map hOX rfl) hks hE hS hA (s_LR_readAtom2 l D cs kf T O X a0 x1 y0 y1 n35_0_2 n35_0_3 n35_0_4 n35_0_5 f8_106 f8_107 ft t tn tk t_a0 (by omega) (by omega) t_y0 (by omega) (by omega) (by omega) (by omega) (by omega) (by omega) (by omega) htb x_v350 t_tk hU7 (by omega) (hO.sub (by decide))) kw_656 kw_658 ks_12 kw_4 kw_659 (by decide +kernel) ⟨Nat.le_of_ble_eq_true rfl, Nat.le_of_ble_eq_true rfl⟩ (HT.recv (ci := 3) hkb hH t_a0 (hO.no t_a0 (by decide)) rfl) rfl rfl hl.1 (Nat.le_of_ble_eq_true rfl) dX3_readTerm_40 ⟨Nat.le_of_ble_eq_true rfl, Nat.le_of_ble_eq_true rfl⟩) (fun v40 u H locs hz9 hH hS => ?_)
            obtain ⟨n40_0_2, n40_0_3, n40_0_4, n40_0_5, n40_0_6, n40_0_7, rfl, l_v40, u_v40, x_v400, x_v401, x_v402⟩ := hz9
            have hH : HT D cs A T (tk :: y0 :: O) ((tk, .inr (7, [.ref y0, .int y1, .int n40_0_2, .int n40_0_3, .int n40_0_4, .int n40_0_5, .int n40_0_6, .int n40_0_7])) :: (y0, .inl (cs.1, 900, .inl ft)) :: X) H := hH
            refine W.widen (k := 0) (n := 0) (Nat.le_of_ble_eq_true rfl) (Nat.le_of_ble_eq_true rfl) ?_
            refine lv_istore_n (lv' := [(2, .int v40), (3, .int p8_3), (0, .ref a0), (1, .int x1)]) hx hb dX3_readTerm_43 rfl hl (by decide) rfl (fun ls hl => ?_)
            refine lv_aload_n hx hb dX3_readTerm_44 rfl (lv_at hl 2 rfl) ?_
            refine lv_bipush (v := 7) hx hb dX3_readTerm_45 (by decide) ?_
            refine lv_iconst (v := 0) hx hb dX3_readTerm_47 (by decide) ?_
            refine tk_v hH hS hA (tr_V (n := 2) (As := [.int 7, .int 0]) hx hb hml hown hts hkb hH (ox_map hOX rfl) hks hE hS hA (s_LR_put l D cs kf T (tk :: y0 :: O) ((tk, .inr (7, [.ref y0, .int y1, .int n40_0_2, .int n40_0_3, .int n40_0_4, .int n40_0_5, .int n40_0_6, .int n40_0_7])) :: (y0, .inl (cs.1, 900, .inl ft)) :: X) a0 (7) (0) t_a0 (hO.sub (by decide))) kw_642 kw_644 ks_9 kw_4 kw_645 (by decide +kernel) ⟨Nat.le_of_ble_eq_true rfl, Nat.le_of_ble_eq_true rfl⟩ (HT.recv (ci := 3) hkb hH t_a0 (hO.no t_a0 (by decide)) rfl) rfl rfl hl.1 (Nat.le_of_ble_eq_true rfl) dX3_readTerm_48 ⟨Nat.le_of_ble_eq_true rfl, Nat.le_of_ble_eq_true rfl⟩) (fun u H locs hz9 hH hS => ?_)
            have hz9 : u = (T, tk :: y0 :: O, (tk, .inr (7, [.ref y0, .int y1, .int n40_0_2, .int n40_0_3, .int n40_0_4, .int n40_0_5, .int n40_0_6, .int n40_0_7])) :: (y0, .inl (cs.1, 900, .inl ft)) :: X) := hz9
            subst hz9
            have hH : HT D cs A T (tk :: y0 :: O) ((tk, .inr (7, [.ref y0, .int y1, .int n40_0_2, .int n40_0_3, .int n40_0_4, .int n40_0_5, .int n40_0_6, .int n40_0_7])) :: (y0, .inl (cs.1, 900, .inl ft)) :: X) H := hH
            refine W.widen (k := 0) (n := 0) (Nat.le_of_ble_eq_true rfl) (Nat.le_of_ble_eq_true rfl) ?_
            obtain ⟨v51, ev51⟩ : ∃ y : Int32, y = p8_3 + 1 := ⟨_, rfl⟩
            have tv51 : v51.toInt = p8_3.toInt + (1) := by rw [ev51]; exact add_i rfl (by decide) (by omega) (by omega)
            refine lv_iinc (v := v51) (lv' := [(3, .int v51), (2, .int v40), (0, .ref a0), (1, .int x1)]) hx hb dX3_readTerm_51 hl (k := 1) rfl (by rw [ev51]; rfl) (by decide) rfl (fun ls hl => ?_)
            refine lv_goto (tgt := 8) hx hb dX3_readTerm_54 (by decide) ?_
            exact ih8 _ (by omega) v51 v40 n40_0_2 n40_0_3 n40_0_4 n40_0_5 n40_0_6 n40_0_7 _ _ _ rfl (by omega) (by omega) (by omega) (by omega) (by omega) (by omega) (by omega) (by omega) (by first | (refine LTI.st (fun _ _ => st_t) x_v20 x_v21 l_v2 u_v2 rfl) | (refine LTI.st (h19.2.2.2.tr (GL_nx (fun _ _ => st_tY x_v250) px35)) x_v400 x_v401 l_v40 u_v40 ?_; omega)) (by omega) (by omega) hH hS (lv_sub hl [0, 1, 2, 3] rfl)
  refine lv_istore_n (lv' := [(3, .int 0), (2, .int v2), (0, .ref a0), (1, .int x1)]) hx hb dX3_readTerm_7 rfl hl (by decide) rfl (fun ls hl => ?_)
  have z_0 : (0 : Int32).toInt = 0 := by decide
  exact J8 _ 0 v2 n2_0_2 n2_0_3 n2_0_4 n2_0_5 n2_0_6 n2_0_7 _ _ _ rfl (by decide) (by decide) (by omega) (by omega) (by omega) (by omega) (by omega) (by omega) (by first | (refine LTI.st (fun _ _ => st_t) x_v20 x_v21 l_v2 u_v2 rfl) | (refine LTI.st (h19.2.2.2.tr (GL_nx (fun _ _ => st_tY x_v250) px35)) x_v400 x_v401 l_v40 u_v40 ?_; omega)) (by omega) (by omega) hH hS (lv_sub hl [0, 1, 2, 3] rfl)
set_option maxHeartbeats 4000000 in
set_option maxRecDepth 100000 in
theorem s_LR_readSum2 (l : Launch) (D : va_G) (cs : CS) (kf : KF) (T : TF) (O : List Nat) (X : va_W) (a0 : Nat) (x1 : Int32) (y0 : Nat) (y1 : Int32) (y2 : Int32) (y3 : Int32) (y4 : Int32) (y5 : Int32) (y6 : Int32) (y7 : Int32) (ft : Nat → Int32) (t : Tp) (tn : Nat) (tk : Nat) (t_a0 : T a0 = some (13, 0, 0)) (l_x1 : 2 ≤ x1.toInt) (u_x1 : x1.toInt ≤ 2) (t_y0 : T y0 = some (0, 900, 0)) (l_y1 : 0 ≤ y1.toInt) (u_y1 : y1.toInt ≤ 900) (l_y2 : 0 ≤ y2.toInt) (u_y2 : y2.toInt ≤ 900) (l_y3 : 0 ≤ y3.toInt) (u_y3 : y3.toInt ≤ 900) (hn : y1.toInt = (tn : Int)) (htb : TB ft t) (hto : TSS t tn y2 y3 y4 y5) (t_tk : T tk = some (17, 0, 0)) (hU7 : ∀ (b : Nat) (q : Nat), T b = some (17, 0, q) → b = tk) (hz : y6.toInt = 0) (hO : okO T (tk :: y0 :: O) [1, 13]) : TK l D cs kf yX3_readSum cX3_readSum 5 (some (.boolean)) { frames := 20, cells := 0, slots := 0, locals := 448 } [.ref a0, .int x1] T (tk :: y0 :: O) ((tk, .inr (7, [.ref y0, .int y1, .int y2, .int y3, .int y4, .int y5, .int y6, .int y7])) :: (y0, .inl (cs.1, 900, .inl ft)) :: X) (Ti D cs (fun r u => ∃ (n0_2 : Int32) (n0_3 : Int32) (n0_4 : Int32) (n0_5 : Int32) (n0_6 : Int32) (n0_7 : Int32), u = (T, tk :: y0 :: O, (tk, .inr (7, [.ref y0, .int y1, .int n0_2, .int n0_3, .int n0_4, .int n0_5, .int n0_6, .int n0_7])) :: (y0, .inl (cs.1, 900, .inl ft)) :: X) ∧ 0 ≤ r.toInt ∧ r.toInt ≤ 1 ∧ (r.toInt = 0 ∨ (TSS t tn n0_2 n0_3 n0_4 n0_5 ∧ n0_6.toInt = 0 ∧ n0_7.toInt = y7.toInt ∧ GL t tn [(3, 2)] [] y2 n0_2)) ∧ (r.toInt ≠ 0 ∨ BL t tn [(3, 2)] y2 n0_6 n0_7) ∧ (y2.toInt ≤ n0_2.toInt ∧ n0_2.toInt ≤ n0_3.toInt ∧ n0_3.toInt ≤ y1.toInt))) := by
  refine tk_of (by decide) (Nat.le_of_ble_eq_true rfl) (fun p e s m below meth c ls A H locs hx hb hr hml hown hts hlocks hnm hkb hH hS hA hOX hks hE hl => ?_)
  have hown : s.vm.findClass RX3 = some m.cls := hown
  have hl : lv_has ls 5 [(0, .ref a0), (1, .int x1)] := hl
  have hOXf := hOX
  have hb9 := hto.b
  have hc9 := hto.cs
  refine lv_aload_n hx hb dX3_readSum_0 rfl (lv_at hl 0 rfl) ?_
  refine lv_iload_n hx hb dX3_readSum_1 rfl (lv_at hl 1 rfl) ?_
  refine tk_i hH hS hA (tr_V (n := 1) (As := [.int x1]) hx hb hml hown hts hkb hH (ox_map hOX rfl) hks hE hS hA (s_LR_readTerm2 l D cs kf T O X a0 x1 y0 y1 y2 y3 y4 y5 y6 y7 ft t tn tk t_a0 (by omega) (by omega) t_y0 (by omega) (by omega) (by omega) (by omega) (by omega) (by omega) (by omega) htb hto t_tk hU7 (by omega) (hO.sub (by decide))) kw_652 kw_654 ks_11 kw_4 kw_655 (by decide +kernel) ⟨Nat.le_of_ble_eq_true rfl, Nat.le_of_ble_eq_true rfl⟩ (HT.recv (ci := 3) hkb hH t_a0 (hO.no t_a0 (by decide)) rfl) rfl rfl hl.1 (Nat.le_of_ble_eq_true rfl) dX3_readSum_2 ⟨Nat.le_of_ble_eq_true rfl, Nat.le_of_ble_eq_true rfl⟩) (fun v2 u H locs hz9 hH hS => ?_)
  obtain ⟨n2_0_2, n2_0_3, n2_0_4, n2_0_5, n2_0_6, n2_0_7, rfl, l_v2, u_v2, x_v20, x_v21, x_v22⟩ := hz9
  have hH : HT D cs A T (tk :: y0 :: O) ((tk, .inr (7, [.ref y0, .int y1, .int n2_0_2, .int n2_0_3, .int n2_0_4, .int n2_0_5, .int n2_0_6, .int n2_0_7])) :: (y0, .inl (cs.1, 900, .inl ft)) :: X) H := hH
  refine W.widen (k := 0) (n := 0) (Nat.le_of_ble_eq_true rfl) (Nat.le_of_ble_eq_true rfl) ?_
  refine lv_istore_n (lv' := [(2, .int v2), (0, .ref a0), (1, .int x1)]) hx hb dX3_readSum_5 rfl hl (by decide) rfl (fun ls hl => ?_)
  refine lv_iconst (v := 0) hx hb dX3_readSum_6 (by decide) ?_
  have J8 : ∀ (n : Nat) (p8_3 : Int32) (p8_2 : Int32) (f8_102 : Int32) (f8_103 : Int32) (f8_104 : Int32) (f8_105 : Int32) (f8_106 : Int32) (f8_107 : Int32) (H : Heap) (locs : List Loc) (ls : Array Slot), (900 - p8_3.toInt).toNat = n → (0 ≤ p8_3.toInt) → (p8_3.toInt ≤ 900) → (0 ≤ p8_2.toInt) → (p8_2.toInt ≤ 1) → (0 ≤ f8_102.toInt) → (f8_102.toInt ≤ 900) → (0 ≤ f8_103.toInt) → (f8_103.toInt ≤ 900) → (LTI t tn [(3, 2)] [(4, 2)] y2 p8_2 f8_102 f8_103 f8_104 f8_105 f8_106 f8_107 y7) → (y2.toInt ≤ f8_102.toInt ∧ f8_102.toInt ≤ f8_103.toInt ∧ f8_103.toInt ≤ y1.toInt) → (p8_2.toInt = 0 ∨ p8_3.toInt ≤ f8_102.toInt) → HT D cs A T (tk :: y0 :: O) ((tk, .inr (7, [.ref y0, .int y1, .int f8_102, .int f8_103, .int f8_104, .int f8_105, .int f8_106, .int f8_107])) :: (y0, .inl (cs.1, 900, .inl ft)) :: X) H → va_S A s.heap H locs → lv_has ls 5 [(3, .int p8_3), (2, .int p8_2), (0, .ref a0), (1, .int x1)] → W p l e { frames := 20, cells := 0, slots := 0, locals := 448 } s m [.ref a0, .int x1].toArray below meth c H locs 0 0 (MQ below (Ti D cs (fun r u => ∃ (n0_2 : Int32) (n0_3 : Int32) (n0_4 : Int32) (n0_5 : Int32) (n0_6 : Int32) (n0_7 : Int32), u = (T, tk :: y0 :: O, (tk, .inr (7, [.ref y0, .int y1, .int n0_2, .int n0_3, .int n0_4, .int n0_5, .int n0_6, .int n0_7])) :: (y0, .inl (cs.1, 900, .inl ft)) :: X) ∧ 0 ≤ r.toInt ∧ r.toInt ≤ 1 ∧ (r.toInt = 0 ∨ (TSS t tn n0_2 n0_3 n0_4 n0_5 ∧ n0_6.toInt = 0 ∧ n0_7.toInt = y7.toInt ∧ GL t tn [(3, 2)] [] y2 n0_2)) ∧ (r.toInt ≠ 0 ∨ BL t tn [(3, 2)] y2 n0_6 n0_7) ∧ (y2.toInt ≤ n0_2.toInt ∧ n0_2.toInt ≤ n0_3.toInt ∧ n0_3.toInt ≤ y1.toInt)) A) [.ref a0, .int x1].toArray s 0 0 A) (F0 m 8 ls []) := by
    intro n
    induction n using Nat.strongRecOn with
    | _ n ih8 =>
      intro p8_3 p8_2 f8_102 f8_103 f8_104 f8_105 f8_106 f8_107 H locs ls hm8 l_p8_3 u_p8_3 l_p8_2 u_p8_2 l_f8_102 u_f8_102 l_f8_103 u_f8_103 i8t i8n i8c hH hS hl
      refine lv_iload_n hx hb dX3_readSum_8 rfl (lv_at hl 0 rfl) ?_
      refine lv_sipush (v := 900) hx hb dX3_readSum_9 (by decide) ?_
      refine lv_icmp_ge (tgt := 89) hx hb dX3_readSum_12 (by decide) (fun c12 => ?_) (fun c12 => ?_)
      · skip
        have tc12 := f_ge (k := 900) (by decide) c12
        have hk9 : p8_2.toInt = 0 ∨ GL t tn [(4, 2)] [] f8_102 f8_102 := by first | (refine Or.inl ?_; omega) | exact Or.inr (fun _ _ => st_sN (by omega)) | (by_cases q9 : p8_2.toInt = 0; exact Or.inl q9; refine Or.inr (fun _ _ => st_sN ?_); have q8 := LTI.ok i8t q9; have q7 := q8.1.b; rw [kd_end (by omega)]; decide)
        have hz9 := LTI.en i8t hk9
        refine lv_iload_n hx hb dX3_readSum_89 rfl (lv_at hl 1 rfl) ?_
        exact te_z hx hb hr hlocks (nar01 (by omega) (by omega)) hH hS (⟨f8_102, f8_103, f8_104, f8_105, f8_106, f8_107, rfl, by omega, by omega, hz9.1, hz9.2, (by omega)⟩) dX3_readSum_90
      · skip
        have tc12 := f_nge (k := 900) (by decide) c12
        refine lv_iload_n hx hb dX3_readSum_15 rfl (lv_at hl 1 rfl) ?_
        refine lv_if_eq (tgt := 89) hx hb dX3_readSum_16 (by decide) (fun c16 => ?_) (fun c16 => ?_)
        · skip
          have tc16 := f_eq (k := 0) (by decide) c16
          have hk9 : p8_2.toInt = 0 ∨ GL t tn [(4, 2)] [] f8_102 f8_102 := by first | (refine Or.inl ?_; omega) | exact Or.inr (fun _ _ => st_sN (by omega)) | (by_cases q9 : p8_2.toInt = 0; exact Or.inl q9; refine Or.inr (fun _ _ => st_sN ?_); have q8 := LTI.ok i8t q9; have q7 := q8.1.b; rw [kd_end (by omega)]; decide)
          have hz9 := LTI.en i8t hk9
          refine lv_iload_n hx hb dX3_readSum_89 rfl (lv_at hl 1 rfl) ?_
          exact te_z hx hb hr hlocks (nar01 (by omega) (by omega)) hH hS (⟨f8_102, f8_103, f8_104, f8_105, f8_106, f8_107, rfl, by omega, by omega, hz9.1, hz9.2, (by omega)⟩) dX3_readSum_90
        · skip
          have tc16 := f_ne (k := 0) (by decide) c16
          have h19 := LTI.ok i8t (by omega)
          have hb19 := h19.1.b
          have hc19 := h19.1.cs
          refine lv_aload_n hx hb dX3_readSum_19 rfl (lv_at hl 2 rfl) ?_
          refine t_get (ci := 3) (lst := ft3 0 0) (C := RX3) (F := TX3) (N := 3) hx hb hts uX3 hown hkb hH t_a0 (hO.no t_a0 (by decide)) (fun _ h9 => h9) rfl rfl 0 (by decide) rfl kw_82 (fun _ h9 => h9) dX3_readSum_20 (fun v9 h9 => ?_)
          obtain ⟨v20, rfl, t_v20⟩ := h9
          have e9 := (hU7 _ _ t_v20).symm
          subst e9
          refine lv_bipush (v := 43) hx hb dX3_readSum_23 (by decide) ?_
          have z9_43 : (43 : Int32).toInt = 43 := by decide
          refine tk_i hH hS hA (tr_V (n := 1) (As := [.int 43]) hx hb hml hown hts hkb hH (ox_map hOX rfl) hks hE hS hA (s_Tok_isSign l D cs kf T O X tk (43) y0 y1 f8_102 f8_103 f8_104 f8_105 f8_106 f8_107 ft t tn 32 t_tk t_y0 (by omega) (by omega) (by omega) (by omega) (by omega) (by omega) (by omega) htb h19.1 (by decide) (by decide) (hO.sub (by decide))) kw_646 kw_615 kw_616 kw_3 kw_617 (by decide +kernel) ⟨Nat.le_of_ble_eq_true rfl, Nat.le_of_ble_eq_true rfl⟩ (x_recv (ci := 7) hkb hH 0 rfl rfl) rfl rfl hl.1 (Nat.le_of_ble_eq_true rfl) dX3_readSum_25 ⟨Nat.le_of_ble_eq_true rfl, Nat.le_of_ble_eq_true rfl⟩) (fun v25 u H locs hz9 hH hS => ?_)
          obtain ⟨rfl, l_v25, u_v25, x_v250, x_v251⟩ := hz9
          have hH : HT D cs A T (tk :: y0 :: O) ((tk, .inr (7, [.ref y0, .int y1, .int f8_102, .int f8_103, .int f8_104, .int f8_105, .int f8_106, .int f8_107])) :: (y0, .inl (cs.1, 900, .inl ft)) :: X) H := hH
          refine W.widen (k := 0) (n := 0) (Nat.le_of_ble_eq_true rfl) (Nat.le_of_ble_eq_true rfl) ?_
          refine lv_if_ne (tgt := 43) hx hb dX3_readSum_28 (by decide) (fun c28 => ?_) (fun c28 => ?_)
          · skip
            have tc28 := f_ne (k := 0) (by decide) c28
            replace x_v250 := x_v250.resolve_left tc28
            clear x_v251
            refine lv_aload_n hx hb dX3_readSum_43 rfl (lv_at hl 2 rfl) ?_
            refine t_get (ci := 3) (lst := ft3 0 0) (C := RX3) (F := TX3) (N := 3) hx hb hts uX3 hown hkb hH t_a0 (hO.no t_a0 (by decide)) (fun _ h9 => h9) rfl rfl 0 (by decide) rfl kw_82 (fun _ h9 => h9) dX3_readSum_44 (fun v9 h9 => ?_)
            obtain ⟨v44, rfl, t_v44⟩ := h9
            have e9 := (hU7 _ _ t_v44).symm
            subst e9
            refine lv_bipush (v := 43) hx hb dX3_readSum_47 (by decide) ?_
            have z9_43 : (43 : Int32).toInt = 43 := by decide
            refine tk_i hH hS hA (tr_V (n := 1) (As := [.int 43]) hx hb hml hown hts hkb hH (ox_map hOX rfl) hks hE hS hA (s_Tok_isSign l D cs kf T O X tk (43) y0 y1 f8_102 f8_103 f8_104 f8_105 f8_106 f8_107 ft t tn 32 t_tk t_y0 (by omega) (by omega) (by omega) (by omega) (by omega) (by omega) (by omega) htb h19.1 (by decide) (by decide) (hO.sub (by decide))) kw_646 kw_615 kw_616 kw_3 kw_617 (by decide +kernel) ⟨Nat.le_of_ble_eq_true rfl, Nat.le_of_ble_eq_true rfl⟩ (x_recv (ci := 7) hkb hH 0 rfl rfl) rfl rfl hl.1 (Nat.le_of_ble_eq_true rfl) dX3_readSum_49 ⟨Nat.le_of_ble_eq_true rfl, Nat.le_of_ble_eq_true rfl⟩) (fun v49 u H locs hz9 hH hS => ?_)
            obtain ⟨rfl, l_v49, u_v49, x_v490, x_v491⟩ := hz9
            have hH : HT D cs A T (tk :: y0 :: O) ((tk, .inr (7, [.ref y0, .int y1, .int f8_102, .int f8_103, .int f8_104, .int f8_105, .int f8_106, .int f8_107])) :: (y0, .inl (cs.1, 900, .inl ft)) :: X) H := hH
            refine W.widen (k := 0) (n := 0) (Nat.le_of_ble_eq_true rfl) (Nat.le_of_ble_eq_true rfl) ?_
            refine lv_if_eq (tgt := 59) hx hb dX3_readSum_52 (by decide) (fun c52 => ?_) (fun c52 => ?_)
            · skip
              have tc52 := f_eq (k := 0) (by decide) c52
              clear x_v490
              replace x_v491 := x_v491.resolve_left (fun q9 => q9 tc52)
              refine lv_bipush (v := 6) hx hb dX3_readSum_59 (by decide) ?_
              refine lv_istore (lv' := [(4, .int 6), (3, .int p8_3), (2, .int p8_2), (0, .ref a0), (1, .int x1)]) hx hb dX3_readSum_61 hl (by decide) rfl (fun ls hl => ?_)
              refine lv_aload_n hx hb dX3_readSum_63 rfl (lv_at hl 3 rfl) ?_
              refine t_get (ci := 3) (lst := ft3 0 0) (C := RX3) (F := TX3) (N := 3) hx hb hts uX3 hown hkb hH t_a0 (hO.no t_a0 (by decide)) (fun _ h9 => h9) rfl rfl 0 (by decide) rfl kw_82 (fun _ h9 => h9) dX3_readSum_64 (fun v9 h9 => ?_)
              obtain ⟨v64, rfl, t_v64⟩ := h9
              have e9 := (hU7 _ _ t_v64).symm
              subst e9
              have hl9 := h19.1.lt (by omega)
              refine tk_v hH hS hA (tr_V (n := 0) (As := []) hx hb hml hown hts hkb hH (ox_map hOX rfl) hks hE hS hA (s_Tok_go l D cs kf T O X tk y0 y1 f8_102 f8_103 f8_104 f8_105 f8_106 f8_107 ft t tn t_tk t_y0 (by omega) (by omega) (by omega) (by omega) (by omega) (by omega) (by omega) htb (by have q9 := (h19.1).b; omega) (hO.sub (by decide))) kw_641 kw_453 kw_454 kw_3 kw_455 (by decide +kernel) ⟨Nat.le_of_ble_eq_true rfl, Nat.le_of_ble_eq_true rfl⟩ (x_recv (ci := 7) hkb hH 0 rfl rfl) rfl rfl hl.1 (Nat.le_of_ble_eq_true rfl) dX3_readSum_67 ⟨Nat.le_of_ble_eq_true rfl, Nat.le_of_ble_eq_true rfl⟩) (fun u H locs hz9 hH hS => ?_)
              obtain ⟨n67_0_2, n67_0_3, n67_0_4, n67_0_5, rfl, x_v670, x_v671, x_v672⟩ := hz9
              have px67 := TSS.nx h19.1 x_v671
              have hH : HT D cs A T (tk :: y0 :: O) ((tk, .inr (7, [.ref y0, .int y1, .int n67_0_2, .int n67_0_3, .int n67_0_4, .int n67_0_5, .int f8_106, .int f8_107])) :: (y0, .inl (cs.1, 900, .inl ft)) :: X) H := hH
              refine W.widen (k := 0) (n := 0) (Nat.le_of_ble_eq_true rfl) (Nat.le_of_ble_eq_true rfl) ?_
              refine lv_aload_n hx hb dX3_readSum_70 rfl (lv_at hl 3 rfl) ?_
              refine lv_iload_n hx hb dX3_readSum_71 rfl (lv_at hl 4 rfl) ?_
              refine tk_i hH hS hA (tr_V (n := 1) (As := [.int x1]) hx hb hml hown hts hkb hH (ox_map hOX rfl) hks hE hS hA (s_LR_readTerm2 l D cs kf T O X a0 x1 y0 y1 n67_0_2 n67_0_3 n67_0_4 n67_0_5 f8_106 f8_107 ft t tn tk t_a0 (by omega) (by omega) t_y0 (by omega) (by omega) (by omega) (by omega) (by omega) (by omega) (by omega) htb x_v670 t_tk hU7 (by omega) (hO.sub (by decide))) kw_652 kw_654 ks_11 kw_4 kw_655 (by decide +kernel) ⟨Nat.le_of_ble_eq_true rfl, Nat.le_of_ble_eq_true rfl⟩ (HT.recv (ci := 3) hkb hH t_a0 (hO.no t_a0 (by decide)) rfl) rfl rfl hl.1 (Nat.le_of_ble_eq_true rfl) dX3_readSum_72 ⟨Nat.le_of_ble_eq_true rfl, Nat.le_of_ble_eq_true rfl⟩) (fun v72 u H locs hz9 hH hS => ?_)
              obtain ⟨n72_0_2, n72_0_3, n72_0_4, n72_0_5, n72_0_6, n72_0_7, rfl, l_v72, u_v72, x_v720, x_v721, x_v722⟩ := hz9
              have hH : HT D cs A T (tk :: y0 :: O) ((tk, .inr (7, [.ref y0, .int y1, .int n72_0_2, .int n72_0_3, .int n72_0_4, .int n72_0_5, .int n72_0_6, .int n72_0_7])) :: (y0, .inl (cs.1, 900, .inl ft)) :: X) H := hH
              refine W.widen (k := 0) (n := 0) (Nat.le_of_ble_eq_true rfl) (Nat.le_of_ble_eq_true rfl) ?_
              refine lv_istore_n (lv' := [(2, .int v72), (4, .int 6), (3, .int p8_3), (0, .ref a0), (1, .int x1)]) hx hb dX3_readSum_75 rfl hl (by decide) rfl (fun ls hl => ?_)
              refine lv_aload_n hx hb dX3_readSum_76 rfl (lv_at hl 3 rfl) ?_
              refine lv_iload hx hb dX3_readSum_77 (lv_at hl 1 rfl) ?_
              refine lv_iconst (v := 0) hx hb dX3_readSum_79 (by decide) ?_
              refine tk_v hH hS hA (tr_V (n := 2) (As := [.int 6, .int 0]) hx hb hml hown hts hkb hH (ox_map hOX rfl) hks hE hS hA (s_LR_put l D cs kf T (tk :: y0 :: O) ((tk, .inr (7, [.ref y0, .int y1, .int n72_0_2, .int n72_0_3, .int n72_0_4, .int n72_0_5, .int n72_0_6, .int n72_0_7])) :: (y0, .inl (cs.1, 900, .inl ft)) :: X) a0 (6) (0) t_a0 (hO.sub (by decide))) kw_642 kw_644 ks_9 kw_4 kw_645 (by decide +kernel) ⟨Nat.le_of_ble_eq_true rfl, Nat.le_of_ble_eq_true rfl⟩ (HT.recv (ci := 3) hkb hH t_a0 (hO.no t_a0 (by decide)) rfl) rfl rfl hl.1 (Nat.le_of_ble_eq_true rfl) dX3_readSum_80 ⟨Nat.le_of_ble_eq_true rfl, Nat.le_of_ble_eq_true rfl⟩) (fun u H locs hz9 hH hS => ?_)
              have hz9 : u = (T, tk :: y0 :: O, (tk, .inr (7, [.ref y0, .int y1, .int n72_0_2, .int n72_0_3, .int n72_0_4, .int n72_0_5, .int n72_0_6, .int n72_0_7])) :: (y0, .inl (cs.1, 900, .inl ft)) :: X) := hz9
              subst hz9
              have hH : HT D cs A T (tk :: y0 :: O) ((tk, .inr (7, [.ref y0, .int y1, .int n72_0_2, .int n72_0_3, .int n72_0_4, .int n72_0_5, .int n72_0_6, .int n72_0_7])) :: (y0, .inl (cs.1, 900, .inl ft)) :: X) H := hH
              refine W.widen (k := 0) (n := 0) (Nat.le_of_ble_eq_true rfl) (Nat.le_of_ble_eq_true rfl) ?_
              obtain ⟨v83, ev83⟩ : ∃ y : Int32, y = p8_3 + 1 := ⟨_, rfl⟩
              have tv83 : v83.toInt = p8_3.toInt + (1) := by rw [ev83]; exact add_i rfl (by decide) (by omega) (by omega)
              refine lv_iinc (v := v83) (lv' := [(3, .int v83), (2, .int v72), (4, .int 6), (0, .ref a0), (1, .int x1)]) hx hb dX3_readSum_83 hl (k := 2) rfl (by rw [ev83]; rfl) (by decide) rfl (fun ls hl => ?_)
              refine lv_goto (tgt := 8) hx hb dX3_readSum_86 (by decide) ?_
              exact ih8 _ (by omega) v83 v72 n72_0_2 n72_0_3 n72_0_4 n72_0_5 n72_0_6 n72_0_7 _ _ _ rfl (by omega) (by omega) (by omega) (by omega) (by omega) (by omega) (by omega) (by omega) (by first | (refine LTI.st (fun _ _ => st_s) x_v20 x_v21 l_v2 u_v2 rfl) | (refine LTI.st (h19.2.2.2.tr (GL_nx (fun _ _ => st_sY (Or.inl x_v250)) px67)) x_v720 x_v721 l_v72 u_v72 ?_; omega) | (refine LTI.st (h19.2.2.2.tr (GL_nx (fun _ _ => st_sY (Or.inr x_v370)) px67)) x_v720 x_v721 l_v72 u_v72 ?_; omega)) (by omega) (by omega) hH hS (lv_sub hl [0, 1, 3, 4] rfl)
            · skip
              have tc52 := f_ne (k := 0) (by decide) c52
              replace x_v490 := x_v490.resolve_left tc52
              clear x_v491
              refine lv_iconst (v := 5) hx hb dX3_readSum_55 (by decide) ?_
              refine lv_goto (tgt := 61) hx hb dX3_readSum_56 (by decide) ?_
              refine lv_istore (lv' := [(4, .int 5), (3, .int p8_3), (2, .int p8_2), (0, .ref a0), (1, .int x1)]) hx hb dX3_readSum_61 hl (by decide) rfl (fun ls hl => ?_)
              refine lv_aload_n hx hb dX3_readSum_63 rfl (lv_at hl 3 rfl) ?_
              refine t_get (ci := 3) (lst := ft3 0 0) (C := RX3) (F := TX3) (N := 3) hx hb hts uX3 hown hkb hH t_a0 (hO.no t_a0 (by decide)) (fun _ h9 => h9) rfl rfl 0 (by decide) rfl kw_82 (fun _ h9 => h9) dX3_readSum_64 (fun v9 h9 => ?_)
              obtain ⟨v64, rfl, t_v64⟩ := h9
              have e9 := (hU7 _ _ t_v64).symm
              subst e9
              have hl9 := h19.1.lt (by omega)
              refine tk_v hH hS hA (tr_V (n := 0) (As := []) hx hb hml hown hts hkb hH (ox_map hOX rfl) hks hE hS hA (s_Tok_go l D cs kf T O X tk y0 y1 f8_102 f8_103 f8_104 f8_105 f8_106 f8_107 ft t tn t_tk t_y0 (by omega) (by omega) (by omega) (by omega) (by omega) (by omega) (by omega) htb (by have q9 := (h19.1).b; omega) (hO.sub (by decide))) kw_641 kw_453 kw_454 kw_3 kw_455 (by decide +kernel) ⟨Nat.le_of_ble_eq_true rfl, Nat.le_of_ble_eq_true rfl⟩ (x_recv (ci := 7) hkb hH 0 rfl rfl) rfl rfl hl.1 (Nat.le_of_ble_eq_true rfl) dX3_readSum_67 ⟨Nat.le_of_ble_eq_true rfl, Nat.le_of_ble_eq_true rfl⟩) (fun u H locs hz9 hH hS => ?_)
              obtain ⟨n67_0_2, n67_0_3, n67_0_4, n67_0_5, rfl, x_v670, x_v671, x_v672⟩ := hz9
              have px67 := TSS.nx h19.1 x_v671
              have hH : HT D cs A T (tk :: y0 :: O) ((tk, .inr (7, [.ref y0, .int y1, .int n67_0_2, .int n67_0_3, .int n67_0_4, .int n67_0_5, .int f8_106, .int f8_107])) :: (y0, .inl (cs.1, 900, .inl ft)) :: X) H := hH
              refine W.widen (k := 0) (n := 0) (Nat.le_of_ble_eq_true rfl) (Nat.le_of_ble_eq_true rfl) ?_
              refine lv_aload_n hx hb dX3_readSum_70 rfl (lv_at hl 3 rfl) ?_
              refine lv_iload_n hx hb dX3_readSum_71 rfl (lv_at hl 4 rfl) ?_
              refine tk_i hH hS hA (tr_V (n := 1) (As := [.int x1]) hx hb hml hown hts hkb hH (ox_map hOX rfl) hks hE hS hA (s_LR_readTerm2 l D cs kf T O X a0 x1 y0 y1 n67_0_2 n67_0_3 n67_0_4 n67_0_5 f8_106 f8_107 ft t tn tk t_a0 (by omega) (by omega) t_y0 (by omega) (by omega) (by omega) (by omega) (by omega) (by omega) (by omega) htb x_v670 t_tk hU7 (by omega) (hO.sub (by decide))) kw_652 kw_654 ks_11 kw_4 kw_655 (by decide +kernel) ⟨Nat.le_of_ble_eq_true rfl, Nat.le_of_ble_eq_true rfl⟩ (HT.recv (ci := 3) hkb hH t_a0 (hO.no t_a0 (by decide)) rfl) rfl rfl hl.1 (Nat.le_of_ble_eq_true rfl) dX3_readSum_72 ⟨Nat.le_of_ble_eq_true rfl, Nat.le_of_ble_eq_true rfl⟩) (fun v72 u H locs hz9 hH hS => ?_)
              obtain ⟨n72_0_2, n72_0_3, n72_0_4, n72_0_5, n72_0_6, n72_0_7, rfl, l_v72, u_v72, x_v720, x_v721, x_v722⟩ := hz9
              have hH : HT D cs A T (tk :: y0 :: O) ((tk, .inr (7, [.ref y0, .int y1, .int n72_0_2, .int n72_0_3, .int n72_0_4, .int n72_0_5, .int n72_0_6, .int n72_0_7])) :: (y0, .inl (cs.1, 900, .inl ft)) :: X) H := hH
              refine W.widen (k := 0) (n := 0) (Nat.le_of_ble_eq_true rfl) (Nat.le_of_ble_eq_true rfl) ?_
              refine lv_istore_n (lv' := [(2, .int v72), (4, .int 5), (3, .int p8_3), (0, .ref a0), (1, .int x1)]) hx hb dX3_readSum_75 rfl hl (by decide) rfl (fun ls hl => ?_)
              refine lv_aload_n hx hb dX3_readSum_76 rfl (lv_at hl 3 rfl) ?_
              refine lv_iload hx hb dX3_readSum_77 (lv_at hl 1 rfl) ?_
              refine lv_iconst (v := 0) hx hb dX3_readSum_79 (by decide) ?_
              refine tk_v hH hS hA (tr_V (n := 2) (As := [.int 5, .int 0]) hx hb hml hown hts hkb hH (ox_map hOX rfl) hks hE hS hA (s_LR_put l D cs kf T (tk :: y0 :: O) ((tk, .inr (7, [.ref y0, .int y1, .int n72_0_2, .int n72_0_3, .int n72_0_4, .int n72_0_5, .int n72_0_6, .int n72_0_7])) :: (y0, .inl (cs.1, 900, .inl ft)) :: X) a0 (5) (0) t_a0 (hO.sub (by decide))) kw_642 kw_644 ks_9 kw_4 kw_645 (by decide +kernel) ⟨Nat.le_of_ble_eq_true rfl, Nat.le_of_ble_eq_true rfl⟩ (HT.recv (ci := 3) hkb hH t_a0 (hO.no t_a0 (by decide)) rfl) rfl rfl hl.1 (Nat.le_of_ble_eq_true rfl) dX3_readSum_80 ⟨Nat.le_of_ble_eq_true rfl, Nat.le_of_ble_eq_true rfl⟩) (fun u H locs hz9 hH hS => ?_)
              have hz9 : u = (T, tk :: y0 :: O, (tk, .inr (7, [.ref y0, .int y1, .int n72_0_2, .int n72_0_3, .int n72_0_4, .int n72_0_5, .int n72_0_6, .int n72_0_7])) :: (y0, .inl (cs.1, 900, .inl ft)) :: X) := hz9
              subst hz9
              have hH : HT D cs A T (tk :: y0 :: O) ((tk, .inr (7, [.ref y0, .int y1, .int n72_0_2, .int n72_0_3, .int n72_0_4, .int n72_0_5, .int n72_0_6, .int n72_0_7])) :: (y0, .inl (cs.1, 900, .inl ft)) :: X) H := hH
              refine W.widen (k := 0) (n := 0) (Nat.le_of_ble_eq_true rfl) (Nat.le_of_ble_eq_true rfl) ?_
              obtain ⟨v83, ev83⟩ : ∃ y : Int32, y = p8_3 + 1 := ⟨_, rfl⟩
              have tv83 : v83.toInt = p8_3.toInt + (1) := by rw [ev83]; exact add_i rfl (by decide) (by omega) (by omega)
              refine lv_iinc (v := v83) (lv' := [(3, .int v83), (2, .int v72), (4, .int 5), (0, .ref a0), (1, .int x1)]) hx hb dX3_readSum_83 hl (k := 2) rfl (by rw [ev83]; rfl) (by decide) rfl (fun ls hl => ?_)
              refine lv_goto (tgt := 8) hx hb dX3_readSum_86 (by decide) ?_
              exact ih8 _ (by omega) v83 v72 n72_0_2 n72_0_3 n72_0_4 n72_0_5 n72_0_6 n72_0_7 _ _ _ rfl (by omega) (by omega) (by omega) (by omega) (by omega) (by omega) (by omega) (by omega) (by first | (refine LTI.st (fun _ _ => st_s) x_v20 x_v21 l_v2 u_v2 rfl) | (refine LTI.st (h19.2.2.2.tr (GL_nx (fun _ _ => st_sY (Or.inl x_v250)) px67)) x_v720 x_v721 l_v72 u_v72 ?_; omega) | (refine LTI.st (h19.2.2.2.tr (GL_nx (fun _ _ => st_sY (Or.inr x_v370)) px67)) x_v720 x_v721 l_v72 u_v72 ?_; omega)) (by omega) (by omega) hH hS (lv_sub hl [0, 1, 3, 4] rfl)
          · skip
            have tc28 := f_eq (k := 0) (by decide) c28
            clear x_v250
            replace x_v251 := x_v251.resolve_left (fun q9 => q9 tc28)
            refine lv_aload_n hx hb dX3_readSum_31 rfl (lv_at hl 2 rfl) ?_
            refine t_get (ci := 3) (lst := ft3 0 0) (C := RX3) (F := TX3) (N := 3) hx hb hts uX3 hown hkb hH t_a0 (hO.no t_a0 (by decide)) (fun _ h9 => h9) rfl rfl 0 (by decide) rfl kw_82 (fun _ h9 => h9) dX3_readSum_32 (fun v9 h9 => ?_)
            obtain ⟨v32, rfl, t_v32⟩ := h9
            have e9 := (hU7 _ _ t_v32).symm
            subst e9
            refine lv_bipush (v := 45) hx hb dX3_readSum_35 (by decide) ?_
            have z9_45 : (45 : Int32).toInt = 45 := by decide
            refine tk_i hH hS hA (tr_V (n := 1) (As := [.int 45]) hx hb hml hown hts hkb hH (ox_map hOX rfl) hks hE hS hA (s_Tok_isSign l D cs kf T O X tk (45) y0 y1 f8_102 f8_103 f8_104 f8_105 f8_106 f8_107 ft t tn 33 t_tk t_y0 (by omega) (by omega) (by omega) (by omega) (by omega) (by omega) (by omega) htb h19.1 (by decide) (by decide) (hO.sub (by decide))) kw_646 kw_615 kw_616 kw_3 kw_617 (by decide +kernel) ⟨Nat.le_of_ble_eq_true rfl, Nat.le_of_ble_eq_true rfl⟩ (x_recv (ci := 7) hkb hH 0 rfl rfl) rfl rfl hl.1 (Nat.le_of_ble_eq_true rfl) dX3_readSum_37 ⟨Nat.le_of_ble_eq_true rfl, Nat.le_of_ble_eq_true rfl⟩) (fun v37 u H locs hz9 hH hS => ?_)
            obtain ⟨rfl, l_v37, u_v37, x_v370, x_v371⟩ := hz9
            have hH : HT D cs A T (tk :: y0 :: O) ((tk, .inr (7, [.ref y0, .int y1, .int f8_102, .int f8_103, .int f8_104, .int f8_105, .int f8_106, .int f8_107])) :: (y0, .inl (cs.1, 900, .inl ft)) :: X) H := hH
            refine W.widen (k := 0) (n := 0) (Nat.le_of_ble_eq_true rfl) (Nat.le_of_ble_eq_true rfl) ?_
            refine lv_if_eq (tgt := 89) hx hb dX3_readSum_40 (by decide) (fun c40 => ?_) (fun c40 => ?_)
            · skip
              have tc40 := f_eq (k := 0) (by decide) c40
              clear x_v370
              replace x_v371 := x_v371.resolve_left (fun q9 => q9 tc40)
              have hk9 : p8_2.toInt = 0 ∨ GL t tn [(4, 2)] [] f8_102 f8_102 := by first | (refine Or.inl ?_; omega) | exact Or.inr (fun _ _ => st_sN (by omega)) | (by_cases q9 : p8_2.toInt = 0; exact Or.inl q9; refine Or.inr (fun _ _ => st_sN ?_); have q8 := LTI.ok i8t q9; have q7 := q8.1.b; rw [kd_end (by omega)]; decide)
              have hz9 := LTI.en i8t hk9
              refine lv_iload_n hx hb dX3_readSum_89 rfl (lv_at hl 1 rfl) ?_
              exact te_z hx hb hr hlocks (nar01 (by omega) (by omega)) hH hS (⟨f8_102, f8_103, f8_104, f8_105, f8_106, f8_107, rfl, by omega, by omega, hz9.1, hz9.2, (by omega)⟩) dX3_readSum_90
            · skip
              have tc40 := f_ne (k := 0) (by decide) c40
              replace x_v370 := x_v370.resolve_left tc40
              clear x_v371
              refine lv_aload_n hx hb dX3_readSum_43 rfl (lv_at hl 2 rfl) ?_
              refine t_get (ci := 3) (lst := ft3 0 0) (C := RX3) (F := TX3) (N := 3) hx hb hts uX3 hown hkb hH t_a0 (hO.no t_a0 (by decide)) (fun _ h9 => h9) rfl rfl 0 (by decide) rfl kw_82 (fun _ h9 => h9) dX3_readSum_44 (fun v9 h9 => ?_)
              obtain ⟨v44, rfl, t_v44⟩ := h9
              have e9 := (hU7 _ _ t_v44).symm
              subst e9
              refine lv_bipush (v := 43) hx hb dX3_readSum_47 (by decide) ?_
              have z9_43 : (43 : Int32).toInt = 43 := by decide
              refine tk_i hH hS hA (tr_V (n := 1) (As := [.int 43]) hx hb hml hown hts hkb hH (ox_map hOX rfl) hks hE hS hA (s_Tok_isSign l D cs kf T O X tk (43) y0 y1 f8_102 f8_103 f8_104 f8_105 f8_106 f8_107 ft t tn 32 t_tk t_y0 (by omega) (by omega) (by omega) (by omega) (by omega) (by omega) (by omega) htb h19.1 (by decide) (by decide) (hO.sub (by decide))) kw_646 kw_615 kw_616 kw_3 kw_617 (by decide +kernel) ⟨Nat.le_of_ble_eq_true rfl, Nat.le_of_ble_eq_true rfl⟩ (x_recv (ci := 7) hkb hH 0 rfl rfl) rfl rfl hl.1 (Nat.le_of_ble_eq_true rfl) dX3_readSum_49 ⟨Nat.le_of_ble_eq_true rfl, Nat.le_of_ble_eq_true rfl⟩) (fun v49 u H locs hz9 hH hS => ?_)
              obtain ⟨rfl, l_v49, u_v49, x_v490, x_v491⟩ := hz9
              have hH : HT D cs A T (tk :: y0 :: O) ((tk, .inr (7, [.ref y0, .int y1, .int f8_102, .int f8_103, .int f8_104, .int f8_105, .int f8_106, .int f8_107])) :: (y0, .inl (cs.1, 900, .inl ft)) :: X) H := hH
              refine W.widen (k := 0) (n := 0) (Nat.le_of_ble_eq_true rfl) (Nat.le_of_ble_eq_true rfl) ?_
              refine lv_if_eq (tgt := 59) hx hb dX3_readSum_52 (by decide) (fun c52 => ?_) (fun c52 => ?_)
              · skip
                have tc52 := f_eq (k := 0) (by decide) c52
                clear x_v490
                replace x_v491 := x_v491.resolve_left (fun q9 => q9 tc52)
                refine lv_bipush (v := 6) hx hb dX3_readSum_59 (by decide) ?_
                refine lv_istore (lv' := [(4, .int 6), (3, .int p8_3), (2, .int p8_2), (0, .ref a0), (1, .int x1)]) hx hb dX3_readSum_61 hl (by decide) rfl (fun ls hl => ?_)
                refine lv_aload_n hx hb dX3_readSum_63 rfl (lv_at hl 3 rfl) ?_
                refine t_get (ci := 3) (lst := ft3 0 0) (C := RX3) (F := TX3) (N := 3) hx hb hts uX3 hown hkb hH t_a0 (hO.no t_a0 (by decide)) (fun _ h9 => h9) rfl rfl 0 (by decide) rfl kw_82 (fun _ h9 => h9) dX3_readSum_64 (fun v9 h9 => ?_)
                obtain ⟨v64, rfl, t_v64⟩ := h9
                have e9 := (hU7 _ _ t_v64).symm
                subst e9
                have hl9 := h19.1.lt (by omega)
                refine tk_v hH hS hA (tr_V (n := 0) (As := []) hx hb hml hown hts hkb hH (ox_map hOX rfl) hks hE hS hA (s_Tok_go l D cs kf T O X tk y0 y1 f8_102 f8_103 f8_104 f8_105 f8_106 f8_107 ft t tn t_tk t_y0 (by omega) (by omega) (by omega) (by omega) (by omega) (by omega) (by omega) htb (by have q9 := (h19.1).b; omega) (hO.sub (by decide))) kw_641 kw_453 kw_454 kw_3 kw_455 (by decide +kernel) ⟨Nat.le_of_ble_eq_true rfl, Nat.le_of_ble_eq_true rfl⟩ (x_recv (ci := 7) hkb hH 0 rfl rfl) rfl rfl hl.1 (Nat.le_of_ble_eq_true rfl) dX3_readSum_67 ⟨Nat.le_of_ble_eq_true rfl, Nat.le_of_ble_eq_true rfl⟩) (fun u H locs hz9 hH hS => ?_)
                obtain ⟨n67_0_2, n67_0_3, n67_0_4, n67_0_5, rfl, x_v670, x_v671, x_v672⟩ := hz9
                have px67 := TSS.nx h19.1 x_v671
                have hH : HT D cs A T (tk :: y0 :: O) ((tk, .inr (7, [.ref y0, .int y1, .int n67_0_2, .int n67_0_3, .int n67_0_4, .int n67_0_5, .int f8_106, .int f8_107])) :: (y0, .inl (cs.1, 900, .inl ft)) :: X) H := hH
                refine W.widen (k := 0) (n := 0) (Nat.le_of_ble_eq_true rfl) (Nat.le_of_ble_eq_true rfl) ?_
                refine lv_aload_n hx hb dX3_readSum_70 rfl (lv_at hl 3 rfl) ?_
                refine lv_iload_n hx hb dX3_readSum_71 rfl (lv_at hl 4 rfl) ?_
                refine tk_i hH hS hA (tr_V (n := 1) (As := [.int x1]) hx hb hml hown hts hkb hH (ox_map hOX rfl) hks hE hS hA (s_LR_readTerm2 l D cs kf T O X a0 x1 y0 y1 n67_0_2 n67_0_3 n67_0_4 n67_0_5 f8_106 f8_107 ft t tn tk t_a0 (by omega) (by omega) t_y0 (by omega) (by omega) (by omega) (by omega) (by omega) (by omega) (by omega) htb x_v670 t_tk hU7 (by omega) (hO.sub (by decide))) kw_652 kw_654 ks_11 kw_4 kw_655 (by decide +kernel) ⟨Nat.le_of_ble_eq_true rfl, Nat.le_of_ble_eq_true rfl⟩ (HT.recv (ci := 3) hkb hH t_a0 (hO.no t_a0 (by decide)) rfl) rfl rfl hl.1 (Nat.le_of_ble_eq_true rfl) dX3_readSum_72 ⟨Nat.le_of_ble_eq_true rfl, Nat.le_of_ble_eq_true rfl⟩) (fun v72 u H locs hz9 hH hS => ?_)
                obtain ⟨n72_0_2, n72_0_3, n72_0_4, n72_0_5, n72_0_6, n72_0_7, rfl, l_v72, u_v72, x_v720, x_v721, x_v722⟩ := hz9
                have hH : HT D cs A T (tk :: y0 :: O) ((tk, .inr (7, [.ref y0, .int y1, .int n72_0_2, .int n72_0_3, .int n72_0_4, .int n72_0_5, .int n72_0_6, .int n72_0_7])) :: (y0, .inl (cs.1, 900, .inl ft)) :: X) H := hH
                refine W.widen (k := 0) (n := 0) (Nat.le_of_ble_eq_true rfl) (Nat.le_of_ble_eq_true rfl) ?_
                refine lv_istore_n (lv' := [(2, .int v72), (4, .int 6), (3, .int p8_3), (0, .ref a0), (1, .int x1)]) hx hb dX3_readSum_75 rfl hl (by decide) rfl (fun ls hl => ?_)
                refine lv_aload_n hx hb dX3_readSum_76 rfl (lv_at hl 3 rfl) ?_
                refine lv_iload hx hb dX3_readSum_77 (lv_at hl 1 rfl) ?_
                refine lv_iconst (v := 0) hx hb dX3_readSum_79 (by decide) ?_
                refine tk_v hH hS hA (tr_V (n := 2) (As := [.int 6, .int 0]) hx hb hml hown hts hkb hH (ox_map hOX rfl) hks hE hS hA (s_LR_put l D cs kf T (tk :: y0 :: O) ((tk, .inr (7, [.ref y0, .int y1, .int n72_0_2, .int n72_0_3, .int n72_0_4, .int n72_0_5, .int n72_0_6, .int n72_0_7])) :: (y0, .inl (cs.1, 900, .inl ft)) :: X) a0 (6) (0) t_a0 (hO.sub (by decide))) kw_642 kw_644 ks_9 kw_4 kw_645 (by decide +kernel) ⟨Nat.le_of_ble_eq_true rfl, Nat.le_of_ble_eq_true rfl⟩ (HT.recv (ci := 3) hkb hH t_a0 (hO.no t_a0 (by decide)) rfl) rfl rfl hl.1 (Nat.le_of_ble_eq_true rfl) dX3_readSum_80 ⟨Nat.le_of_ble_eq_true rfl, Nat.le_of_ble_eq_true rfl⟩) (fun u H locs hz9 hH hS => ?_)
                have hz9 : u = (T, tk :: y0 :: O, (tk, .inr (7, [.ref y0, .int y1, .int n72_0_2, .int n72_0_3, .int n72_0_4, .int n72_0_5, .int n72_0_6, .int n72_0_7])) :: (y0, .inl (cs.1, 900, .inl ft)) :: X) := hz9
                subst hz9
                have hH : HT D cs A T (tk :: y0 :: O) ((tk, .inr (7, [.ref y0, .int y1, .int n72_0_2, .int n72_0_3, .int n72_0_4, .int n72_0_5, .int n72_0_6, .int n72_0_7])) :: (y0, .inl (cs.1, 900, .inl ft)) :: X) H := hH
                refine W.widen (k := 0) (n := 0) (Nat.le_of_ble_eq_true rfl) (Nat.le_of_ble_eq_true rfl) ?_
                obtain ⟨v83, ev83⟩ : ∃ y : Int32, y = p8_3 + 1 := ⟨_, rfl⟩
                have tv83 : v83.toInt = p8_3.toInt + (1) := by rw [ev83]; exact add_i rfl (by decide) (by omega) (by omega)
                refine lv_iinc (v := v83) (lv' := [(3, .int v83), (2, .int v72), (4, .int 6), (0, .ref a0), (1, .int x1)]) hx hb dX3_readSum_83 hl (k := 2) rfl (by rw [ev83]; rfl) (by decide) rfl (fun ls hl => ?_)
                refine lv_goto (tgt := 8) hx hb dX3_readSum_86 (by decide) ?_
                exact ih8 _ (by omega) v83 v72 n72_0_2 n72_0_3 n72_0_4 n72_0_5 n72_0_6 n72_0_7 _ _ _ rfl (by omega) (by omega) (by omega) (by omega) (by omega) (by omega) (by omega) (by omega) (by first | (refine LTI.st (fun _ _ => st_s) x_v20 x_v21 l_v2 u_v2 rfl) | (refine LTI.st (h19.2.2.2.tr (GL_nx (fun _ _ => st_sY (Or.inl x_v250)) px67)) x_v720 x_v721 l_v72 u_v72 ?_; omega) | (refine LTI.st (h19.2.2.2.tr (GL_nx (fun _ _ => st_sY (Or.inr x_v370)) px67)) x_v720 x_v721 l_v72 u_v72 ?_; omega)) (by omega) (by omega) hH hS (lv_sub hl [0, 1, 3, 4] rfl)
              · skip
                have tc52 := f_ne (k := 0) (by decide) c52
                replace x_v490 := x_v490.resolve_left tc52
                clear x_v491
                refine lv_iconst (v := 5) hx hb dX3_readSum_55 (by decide) ?_
                refine lv_goto (tgt := 61) hx hb dX3_readSum_56 (by decide) ?_
                refine lv_istore (lv' := [(4, .int 5), (3, .int p8_3), (2, .int p8_2), (0, .ref a0), (1, .int x1)]) hx hb dX3_readSum_61 hl (by decide) rfl (fun ls hl => ?_)
                refine lv_aload_n hx hb dX3_readSum_63 rfl (lv_at hl 3 rfl) ?_
                refine t_get (ci := 3) (lst := ft3 0 0) (C := RX3) (F := TX3) (N := 3) hx hb hts uX3 hown hkb hH t_a0 (hO.no t_a0 (by decide)) (fun _ h9 => h9) rfl rfl 0 (by decide) rfl kw_82 (fun _ h9 => h9) dX3_readSum_64 (fun v9 h9 => ?_)
                obtain ⟨v64, rfl, t_v64⟩ := h9
                have e9 := (hU7 _ _ t_v64).symm
                subst e9
                have hl9 := h19.1.lt (by omega)
                refine tk_v hH hS hA (tr_V (n := 0) (As := []) hx hb hml hown hts hkb hH (ox_map hOX rfl) hks hE hS hA (s_Tok_go l D cs kf T O X tk y0 y1 f8_102 f8_103 f8_104 f8_105 f8_106 f8_107 ft t tn t_tk t_y0 (by omega) (by omega) (by omega) (by omega) (by omega) (by omega) (by omega) htb (by have q9 := (h19.1).b; omega) (hO.sub (by decide))) kw_641 kw_453 kw_454 kw_3 kw_455 (by decide +kernel) ⟨Nat.le_of_ble_eq_true rfl, Nat.le_of_ble_eq_true rfl⟩ (x_recv (ci := 7) hkb hH 0 rfl rfl) rfl rfl hl.1 (Nat.le_of_ble_eq_true rfl) dX3_readSum_67 ⟨Nat.le_of_ble_eq_true rfl, Nat.le_of_ble_eq_true rfl⟩) (fun u H locs hz9 hH hS => ?_)
                obtain ⟨n67_0_2, n67_0_3, n67_0_4, n67_0_5, rfl, x_v670, x_v671, x_v672⟩ := hz9
                have px67 := TSS.nx h19.1 x_v671
                have hH : HT D cs A T (tk :: y0 :: O) ((tk, .inr (7, [.ref y0, .int y1, .int n67_0_2, .int n67_0_3, .int n67_0_4, .int n67_0_5, .int f8_106, .int f8_107])) :: (y0, .inl (cs.1, 900, .inl ft)) :: X) H := hH
                refine W.widen (k := 0) (n := 0) (Nat.le_of_ble_eq_true rfl) (Nat.le_of_ble_eq_true rfl) ?_
                refine lv_aload_n hx hb dX3_readSum_70 rfl (lv_at hl 3 rfl) ?_
                refine lv_iload_n hx hb dX3_readSum_71 rfl (lv_at hl 4 rfl) ?_
                refine tk_i hH hS hA (tr_V (n := 1) (As := [.int x1]) hx hb hml hown hts hkb hH (ox_map hOX rfl) hks hE hS hA (s_LR_readTerm2 l D cs kf T O X a0 x1 y0 y1 n67_0_2 n67_0_3 n67_0_4 n67_0_5 f8_106 f8_107 ft t tn tk t_a0 (by omega) (by omega) t_y0 (by omega) (by omega) (by omega) (by omega) (by omega) (by omega) (by omega) htb x_v670 t_tk hU7 (by omega) (hO.sub (by decide))) kw_652 kw_654 ks_11 kw_4 kw_655 (by decide +kernel) ⟨Nat.le_of_ble_eq_true rfl, Nat.le_of_ble_eq_true rfl⟩ (HT.recv (ci := 3) hkb hH t_a0 (hO.no t_a0 (by decide)) rfl) rfl rfl hl.1 (Nat.le_of_ble_eq_true rfl) dX3_readSum_72 ⟨Nat.le_of_ble_eq_true rfl, Nat.le_of_ble_eq_true rfl⟩) (fun v72 u H locs hz9 hH hS => ?_)
                obtain ⟨n72_0_2, n72_0_3, n72_0_4, n72_0_5, n72_0_6, n72_0_7, rfl, l_v72, u_v72, x_v720, x_v721, x_v722⟩ := hz9
                have hH : HT D cs A T (tk :: y0 :: O) ((tk, .inr (7, [.ref y0, .int y1, .int n72_0_2, .int n72_0_3, .int n72_0_4, .int n72_0_5, .int n72_0_6, .int n72_0_7])) :: (y0, .inl (cs.1, 900, .inl ft)) :: X) H := hH
                refine W.widen (k := 0) (n := 0) (Nat.le_of_ble_eq_true rfl) (Nat.le_of_ble_eq_true rfl) ?_
                refine lv_istore_n (lv' := [(2, .int v72), (4, .int 5), (3, .int p8_3), (0, .ref a0), (1, .int x1)]) hx hb dX3_readSum_75 rfl hl (by decide) rfl (fun ls hl => ?_)
                refine lv_aload_n hx hb dX3_readSum_76 rfl (lv_at hl 3 rfl) ?_
                refine lv_iload hx hb dX3_readSum_77 (lv_at hl 1 rfl) ?_
                refine lv_iconst (v := 0) hx hb dX3_readSum_79 (by decide) ?_
                refine tk_v hH hS hA (tr_V (n := 2) (As := [.int 5, .int 0]) hx hb hml hown hts hkb hH (ox_map hOX rfl) hks hE hS hA (s_LR_put l D cs kf T (tk :: y0 :: O) ((tk, .inr (7, [.ref y0, .int y1, .int n72_0_2, .int n72_0_3, .int n72_0_4, .int n72_0_5, .int n72_0_6, .int n72_0_7])) :: (y0, .inl (cs.1, 900, .inl ft)) :: X) a0 (5) (0) t_a0 (hO.sub (by decide))) kw_642 kw_644 ks_9 kw_4 kw_645 (by decide +kernel) ⟨Nat.le_of_ble_eq_true rfl, Nat.le_of_ble_eq_true rfl⟩ (HT.recv (ci := 3) hkb hH t_a0 (hO.no t_a0 (by decide)) rfl) rfl rfl hl.1 (Nat.le_of_ble_eq_true rfl) dX3_readSum_80 ⟨Nat.le_of_ble_eq_true rfl, Nat.le_of_ble_eq_true rfl⟩) (fun u H locs hz9 hH hS => ?_)
                have hz9 : u = (T, tk :: y0 :: O, (tk, .inr (7, [.ref y0, .int y1, .int n72_0_2, .int n72_0_3, .int n72_0_4, .int n72_0_5, .int n72_0_6, .int n72_0_7])) :: (y0, .inl (cs.1, 900, .inl ft)) :: X) := hz9
                subst hz9
                have hH : HT D cs A T (tk :: y0 :: O) ((tk, .inr (7, [.ref y0, .int y1, .int n72_0_2, .int n72_0_3, .int n72_0_4, .int n72_0_5, .int n72_0_6, .int n72_0_7])) :: (y0, .inl (cs.1, 900, .inl ft)) :: X) H := hH
                refine W.widen (k := 0) (n := 0) (Nat.le_of_ble_eq_true rfl) (Nat.le_of_ble_eq_true rfl) ?_
                obtain ⟨v83, ev83⟩ : ∃ y : Int32, y = p8_3 + 1 := ⟨_, rfl⟩
                have tv83 : v83.toInt = p8_3.toInt + (1) := by rw [ev83]; exact add_i rfl (by decide) (by omega) (by omega)
                refine lv_iinc (v := v83) (lv' := [(3, .int v83), (2, .int v72), (4, .int 5), (0, .ref a0), (1, .int x1)]) hx hb dX3_readSum_83 hl (k := 2) rfl (by rw [ev83]; rfl) (by decide) rfl (fun ls hl => ?_)
                refine lv_goto (tgt := 8) hx hb dX3_readSum_86 (by decide) ?_
                exact ih8 _ (by omega) v83 v72 n72_0_2 n72_0_3 n72_0_4 n72_0_5 n72_0_6 n72_0_7 _ _ _ rfl (by omega) (by omega) (by omega) (by omega) (by omega) (by omega) (by omega) (by omega) (by first | (refine LTI.st (fun _ _ => st_s) x_v20 x_v21 l_v2 u_v2 rfl) | (refine LTI.st (h19.2.2.2.tr (GL_nx (fun _ _ => st_sY (Or.inl x_v250)) px67)) x_v720 x_v721 l_v72 u_v72 ?_; omega) | (refine LTI.st (h19.2.2.2.tr (GL_nx (fun _ _ => st_sY (Or.inr x_v370)) px67)) x_v720 x_v721 l_v72 u_v72 ?_; omega)) (by omega) (by omega) hH hS (lv_sub hl [0, 1, 3, 4] rfl)
  refine lv_istore_n (lv' := [(3, .int 0), (2, .int v2), (0, .ref a0), (1, .int x1)]) hx hb dX3_readSum_7 rfl hl (by decide) rfl (fun ls hl => ?_)
  have z_0 : (0 : Int32).toInt = 0 := by decide
  exact J8 _ 0 v2 n2_0_2 n2_0_3 n2_0_4 n2_0_5 n2_0_6 n2_0_7 _ _ _ rfl (by decide) (by decide) (by omega) (by omega) (by omega) (by omega) (by omega) (by omega) (by first | (refine LTI.st (fun _ _ => st_s) x_v20 x_v21 l_v2 u_v2 rfl) | (refine LTI.st (h19.2.2.2.tr (GL_nx (fun _ _ => st_sY (Or.inl x_v250)) px67)) x_v720 x_v721 l_v72 u_v72 ?_; omega) | (refine LTI.st (h19.2.2.2.tr (GL_nx (fun _ _ => st_sY (Or.inr x_v370)) px67)) x_v720 x_v721 l_v72 u_v72 ?_; omega)) (by omega) (by omega) hH hS (lv_sub hl [0, 1, 2, 3] rfl)
set_option maxHeartbeats 4000000 in
set_option maxRecDepth 100000 in
theorem s_LR_readUnit2 (l : Launch) (D : va_G) (cs : CS) (kf : KF) (T : TF) (O : List Nat) (X : va_W) (a0 : Nat) (x1 : Int32) (y0 : Nat) (y1 : Int32) (y2 : Int32) (y3 : Int32) (y4 : Int32) (y5 : Int32) (y6 : Int32) (y7 : Int32) (ft : Nat → Int32) (t : Tp) (tn : Nat) (tk : Nat) (t_a0 : T a0 = some (13, 0, 0)) (l_x1 : 2 ≤ x1.toInt) (u_x1 : x1.toInt ≤ 2) (t_y0 : T y0 = some (0, 900, 0)) (l_y1 : 0 ≤ y1.toInt) (u_y1 : y1.toInt ≤ 900) (l_y2 : 0 ≤ y2.toInt) (u_y2 : y2.toInt ≤ 900) (l_y3 : 0 ≤ y3.toInt) (u_y3 : y3.toInt ≤ 900) (hn : y1.toInt = (tn : Int)) (htb : TB ft t) (hto : TSS t tn y2 y3 y4 y5) (t_tk : T tk = some (17, 0, 0)) (hU7 : ∀ (b : Nat) (q : Nat), T b = some (17, 0, q) → b = tk) (hz : y6.toInt = 0) (hO : okO T (tk :: y0 :: O) [1, 13]) : TK l D cs kf yX3_readUnit cX3_readUnit 3 (some (.boolean)) { frames := 21, cells := 0, slots := 0, locals := 476 } [.ref a0, .int x1] T (tk :: y0 :: O) ((tk, .inr (7, [.ref y0, .int y1, .int y2, .int y3, .int y4, .int y5, .int y6, .int y7])) :: (y0, .inl (cs.1, 900, .inl ft)) :: X) (Ti D cs (fun r u => ∃ (n0_2 : Int32) (n0_3 : Int32) (n0_4 : Int32) (n0_5 : Int32) (n0_6 : Int32) (n0_7 : Int32), u = (T, tk :: y0 :: O, (tk, .inr (7, [.ref y0, .int y1, .int n0_2, .int n0_3, .int n0_4, .int n0_5, .int n0_6, .int n0_7])) :: (y0, .inl (cs.1, 900, .inl ft)) :: X) ∧ 0 ≤ r.toInt ∧ r.toInt ≤ 1 ∧ (r.toInt = 0 ∨ (TSS t tn n0_2 n0_3 n0_4 n0_5 ∧ n0_6.toInt = 0 ∧ n0_7.toInt = y7.toInt ∧ GL t tn [(5, 2)] [] y2 n0_2)) ∧ (r.toInt ≠ 0 ∨ BL t tn [(5, 2)] y2 n0_6 n0_7) ∧ (y2.toInt ≤ n0_2.toInt ∧ n0_2.toInt ≤ n0_3.toInt ∧ n0_3.toInt ≤ y1.toInt))) := by
  refine tk_of (by decide) (Nat.le_of_ble_eq_true rfl) (fun p e s m below meth c ls A H locs hx hb hr hml hown hts hlocks hnm hkb hH hS hA hOX hks hE hl => ?_)
  have hown : s.vm.findClass RX3 = some m.cls := hown
  have hl : lv_has ls 3 [(0, .ref a0), (1, .int x1)] := hl
  have hOXf := hOX
  have hb9 := hto.b
  have hc9 := hto.cs
  refine lv_aload_n hx hb dX3_readUnit_0 rfl (lv_at hl 0 rfl) ?_
  refine t_get (ci := 3) (lst := ft3 0 0) (C := RX3) (F := TX3) (N := 3) hx hb hts uX3 hown hkb hH t_a0 (hO.no t_a0 (by decide)) (fun _ h9 => h9) rfl rfl 0 (by decide) rfl kw_82 (fun _ h9 => h9) dX3_readUnit_1 (fun v9 h9 => ?_)
  obtain ⟨v1, rfl, t_v1⟩ := h9
  have e9 := (hU7 _ _ t_v1).symm
  subst e9
  refine va_ldcS (q := kf.1 10) hx hb hown (hks ("FootholdWall$LawReader", 65, "not", 10) (by decide +kernel)) dX3_readUnit_4 ?_
  refine tk_i hH hS hA (tr_V (n := 1) (As := [.ref (kf.1 10)]) hx hb hml hown hts hkb hH (ox_map hOX rfl) hks hE hS hA (s_Tok_isWord l D cs kf T O X tk 10 y0 y1 y2 y3 y4 y5 y6 y7 ft t tn 15 t_tk (by decide) t_y0 (by omega) (by omega) (by omega) (by omega) (by omega) (by omega) (by omega) htb hto (by decide) (by decide) (hO.sub (by decide))) kw_635 kw_551 kw_552 kw_3 kw_553 (by decide +kernel) ⟨Nat.le_of_ble_eq_true rfl, Nat.le_of_ble_eq_true rfl⟩ (x_recv (ci := 7) hkb hH 0 rfl rfl) rfl rfl hl.1 (Nat.le_of_ble_eq_true rfl) dX3_readUnit_6 ⟨Nat.le_of_ble_eq_true rfl, Nat.le_of_ble_eq_true rfl⟩) (fun v6 u H locs hz9 hH hS => ?_)
  obtain ⟨rfl, l_v6, u_v6, x_v60, x_v61⟩ := hz9
  have hH : HT D cs A T (tk :: y0 :: O) ((tk, .inr (7, [.ref y0, .int y1, .int y2, .int y3, .int y4, .int y5, .int y6, .int y7])) :: (y0, .inl (cs.1, 900, .inl ft)) :: X) H := hH
  refine W.widen (k := 0) (n := 0) (Nat.le_of_ble_eq_true rfl) (Nat.le_of_ble_eq_true rfl) ?_
  refine lv_if_eq (tgt := 40) hx hb dX3_readUnit_9 (by decide) (fun c9 => ?_) (fun c9 => ?_)
  · skip
    have tc9 := f_eq (k := 0) (by decide) c9
    clear x_v60
    replace x_v61 := x_v61.resolve_left (fun q9 => q9 tc9)
    refine lv_aload_n hx hb dX3_readUnit_40 rfl (lv_at hl 0 rfl) ?_
    refine t_get (ci := 3) (lst := ft3 0 0) (C := RX3) (F := TX3) (N := 3) hx hb hts uX3 hown hkb hH t_a0 (hO.no t_a0 (by decide)) (fun _ h9 => h9) rfl rfl 0 (by decide) rfl kw_82 (fun _ h9 => h9) dX3_readUnit_41 (fun v9 h9 => ?_)
    obtain ⟨v41, rfl, t_v41⟩ := h9
    have e9 := (hU7 _ _ t_v41).symm
    subst e9
    refine lv_bipush (v := 91) hx hb dX3_readUnit_44 (by decide) ?_
    have z9_91 : (91 : Int32).toInt = 91 := by decide
    refine tk_i hH hS hA (tr_V (n := 1) (As := [.int 91]) hx hb hml hown hts hkb hH (ox_map hOX rfl) hks hE hS hA (s_Tok_isSign l D cs kf T O X tk (91) y0 y1 y2 y3 y4 y5 y6 y7 ft t tn 37 t_tk t_y0 (by omega) (by omega) (by omega) (by omega) (by omega) (by omega) (by omega) htb hto (by decide) (by decide) (hO.sub (by decide))) kw_646 kw_615 kw_616 kw_3 kw_617 (by decide +kernel) ⟨Nat.le_of_ble_eq_true rfl, Nat.le_of_ble_eq_true rfl⟩ (x_recv (ci := 7) hkb hH 0 rfl rfl) rfl rfl hl.1 (Nat.le_of_ble_eq_true rfl) dX3_readUnit_46 ⟨Nat.le_of_ble_eq_true rfl, Nat.le_of_ble_eq_true rfl⟩) (fun v46 u H locs hz9 hH hS => ?_)
    obtain ⟨rfl, l_v46, u_v46, x_v460, x_v461⟩ := hz9
    have hH : HT D cs A T (tk :: y0 :: O) ((tk, .inr (7, [.ref y0, .int y1, .int y2, .int y3, .int y4, .int y5, .int y6, .int y7])) :: (y0, .inl (cs.1, 900, .inl ft)) :: X) H := hH
    refine W.widen (k := 0) (n := 0) (Nat.le_of_ble_eq_true rfl) (Nat.le_of_ble_eq_true rfl) ?_
    refine lv_if_eq (tgt := 88) hx hb dX3_readUnit_49 (by decide) (fun c49 => ?_) (fun c49 => ?_)
    · skip
      have tc49 := f_eq (k := 0) (by decide) c49
      clear x_v460
      replace x_v461 := x_v461.resolve_left (fun q9 => q9 tc49)
      have g88 : GL t tn [(5, 2)] [(3, 2), (21, 2)] y2 y2 := fun _ _ => st_uS (by omega) (by omega)
      refine lv_aload_n hx hb dX3_readUnit_88 rfl (lv_at hl 0 rfl) ?_
      refine lv_iload_n hx hb dX3_readUnit_89 rfl (lv_at hl 1 rfl) ?_
      refine tk_i hH hS hA (tr_V (n := 1) (As := [.int x1]) hx hb hml hown hts hkb hH (ox_map hOX rfl) hks hE hS hA (s_LR_readSum2 l D cs kf T O X a0 x1 y0 y1 y2 y3 y4 y5 y6 y7 ft t tn tk t_a0 (by omega) (by omega) t_y0 (by omega) (by omega) (by omega) (by omega) (by omega) (by omega) (by omega) htb hto t_tk hU7 (by omega) (hO.sub (by decide))) kw_648 kw_650 ks_10 kw_4 kw_651 (by decide +kernel) ⟨Nat.le_of_ble_eq_true rfl, Nat.le_of_ble_eq_true rfl⟩ (HT.recv (ci := 3) hkb hH t_a0 (hO.no t_a0 (by decide)) rfl) rfl rfl hl.1 (Nat.le_of_ble_eq_true rfl) dX3_readUnit_90 ⟨Nat.le_of_ble_eq_true rfl, Nat.le_of_ble_eq_true rfl⟩) (fun v90 u H locs hz9 hH hS => ?_)
      obtain ⟨n90_0_2, n90_0_3, n90_0_4, n90_0_5, n90_0_6, n90_0_7, rfl, l_v90, u_v90, x_v900, x_v901, x_v902⟩ := hz9
      have hH : HT D cs A T (tk :: y0 :: O) ((tk, .inr (7, [.ref y0, .int y1, .int n90_0_2, .int n90_0_3, .int n90_0_4, .int n90_0_5, .int n90_0_6, .int n90_0_7])) :: (y0, .inl (cs.1, 900, .inl ft)) :: X) H := hH
      refine W.widen (k := 0) (n := 0) (Nat.le_of_ble_eq_true rfl) (Nat.le_of_ble_eq_true rfl) ?_
      refine lv_if_ne (tgt := 98) hx hb dX3_readUnit_93 (by decide) (fun c93 => ?_) (fun c93 => ?_)
      · skip
        have tc93 := f_ne (k := 0) (by decide) c93
        replace x_v900 := x_v900.resolve_left tc93
        clear x_v901
        have g98 := g88.tr (GL.cons x_v900.2.2.2)
        have hc98 := x_v900.1.cs
        refine lv_aload_n hx hb dX3_readUnit_98 rfl (lv_at hl 0 rfl) ?_
        refine t_get (ci := 3) (lst := ft3 0 0) (C := RX3) (F := TX3) (N := 3) hx hb hts uX3 hown hkb hH t_a0 (hO.no t_a0 (by decide)) (fun _ h9 => h9) rfl rfl 0 (by decide) rfl kw_82 (fun _ h9 => h9) dX3_readUnit_99 (fun v9 h9 => ?_)
        obtain ⟨v99, rfl, t_v99⟩ := h9
        have e9 := (hU7 _ _ t_v99).symm
        subst e9
        refine lv_bipush (v := 61) hx hb dX3_readUnit_102 (by decide) ?_
        have z9_61 : (61 : Int32).toInt = 61 := by decide
        refine tk_i hH hS hA (tr_V (n := 1) (As := [.int 61]) hx hb hml hown hts hkb hH (ox_map hOX rfl) hks hE hS hA (s_Tok_isSign l D cs kf T O X tk (61) y0 y1 n90_0_2 n90_0_3 n90_0_4 n90_0_5 n90_0_6 n90_0_7 ft t tn 39 t_tk t_y0 (by omega) (by omega) (by omega) (by omega) (by omega) (by omega) (by omega) htb x_v900.1 (by decide) (by decide) (hO.sub (by decide))) kw_646 kw_615 kw_616 kw_3 kw_617 (by decide +kernel) ⟨Nat.le_of_ble_eq_true rfl, Nat.le_of_ble_eq_true rfl⟩ (x_recv (ci := 7) hkb hH 0 rfl rfl) rfl rfl hl.1 (Nat.le_of_ble_eq_true rfl) dX3_readUnit_104 ⟨Nat.le_of_ble_eq_true rfl, Nat.le_of_ble_eq_true rfl⟩) (fun v104 u H locs hz9 hH hS => ?_)
        obtain ⟨rfl, l_v104, u_v104, x_v1040, x_v1041⟩ := hz9
        have hH : HT D cs A T (tk :: y0 :: O) ((tk, .inr (7, [.ref y0, .int y1, .int n90_0_2, .int n90_0_3, .int n90_0_4, .int n90_0_5, .int n90_0_6, .int n90_0_7])) :: (y0, .inl (cs.1, 900, .inl ft)) :: X) H := hH
        refine W.widen (k := 0) (n := 0) (Nat.le_of_ble_eq_true rfl) (Nat.le_of_ble_eq_true rfl) ?_
        refine lv_if_eq (tgt := 115) hx hb dX3_readUnit_107 (by decide) (fun c107 => ?_) (fun c107 => ?_)
        · skip
          have tc107 := f_eq (k := 0) (by decide) c107
          clear x_v1040
          replace x_v1041 := x_v1041.resolve_left (fun q9 => q9 tc107)
          refine lv_aload_n hx hb dX3_readUnit_115 rfl (lv_at hl 0 rfl) ?_
          refine t_get (ci := 3) (lst := ft3 0 0) (C := RX3) (F := TX3) (N := 3) hx hb hts uX3 hown hkb hH t_a0 (hO.no t_a0 (by decide)) (fun _ h9 => h9) rfl rfl 0 (by decide) rfl kw_82 (fun _ h9 => h9) dX3_readUnit_116 (fun v9 h9 => ?_)
          obtain ⟨v116, rfl, t_v116⟩ := h9
          have e9 := (hU7 _ _ t_v116).symm
          subst e9
          refine lv_bipush (v := 60) hx hb dX3_readUnit_119 (by decide) ?_
          have z9_60 : (60 : Int32).toInt = 60 := by decide
          refine tk_i hH hS hA (tr_V (n := 1) (As := [.int 60]) hx hb hml hown hts hkb hH (ox_map hOX rfl) hks hE hS hA (s_Tok_isSign l D cs kf T O X tk (60) y0 y1 n90_0_2 n90_0_3 n90_0_4 n90_0_5 n90_0_6 n90_0_7 ft t tn 40 t_tk t_y0 (by omega) (by omega) (by omega) (by omega) (by omega) (by omega) (by omega) htb x_v900.1 (by decide) (by decide) (hO.sub (by decide))) kw_646 kw_615 kw_616 kw_3 kw_617 (by decide +kernel) ⟨Nat.le_of_ble_eq_true rfl, Nat.le_of_ble_eq_true rfl⟩ (x_recv (ci := 7) hkb hH 0 rfl rfl) rfl rfl hl.1 (Nat.le_of_ble_eq_true rfl) dX3_readUnit_121 ⟨Nat.le_of_ble_eq_true rfl, Nat.le_of_ble_eq_true rfl⟩) (fun v121 u H locs hz9 hH hS => ?_)
          obtain ⟨rfl, l_v121, u_v121, x_v1210, x_v1211⟩ := hz9
          have hH : HT D cs A T (tk :: y0 :: O) ((tk, .inr (7, [.ref y0, .int y1, .int n90_0_2, .int n90_0_3, .int n90_0_4, .int n90_0_5, .int n90_0_6, .int n90_0_7])) :: (y0, .inl (cs.1, 900, .inl ft)) :: X) H := hH
          refine W.widen (k := 0) (n := 0) (Nat.le_of_ble_eq_true rfl) (Nat.le_of_ble_eq_true rfl) ?_
          refine lv_if_eq (tgt := 132) hx hb dX3_readUnit_124 (by decide) (fun c124 => ?_) (fun c124 => ?_)
          · skip
            have tc124 := f_eq (k := 0) (by decide) c124
            clear x_v1210
            replace x_v1211 := x_v1211.resolve_left (fun q9 => q9 tc124)
            refine lv_bipush (v := 10) hx hb dX3_readUnit_132 (by decide) ?_
            refine lv_istore_n (lv' := [(2, .int 10), (0, .ref a0), (1, .int x1)]) hx hb dX3_readUnit_134 rfl hl (by decide) rfl (fun ls hl => ?_)
            refine lv_iload_n hx hb dX3_readUnit_135 rfl (lv_at hl 0 rfl) ?_
            refine lv_bipush (v := 10) hx hb dX3_readUnit_136 (by decide) ?_
            refine lv_icmp_ne (tgt := 162) hx hb dX3_readUnit_138 (by decide) (fun c138 => absurd c138 (by decide)) (fun _ => ?_)
            refine lv_aload_n hx hb dX3_readUnit_141 rfl (lv_at hl 1 rfl) ?_
            refine t_get (ci := 3) (lst := ft3 0 0) (C := RX3) (F := TX3) (N := 3) hx hb hts uX3 hown hkb hH t_a0 (hO.no t_a0 (by decide)) (fun _ h9 => h9) rfl rfl 0 (by decide) rfl kw_82 (fun _ h9 => h9) dX3_readUnit_142 (fun v9 h9 => ?_)
            obtain ⟨v142, rfl, t_v142⟩ := h9
            have e9 := (hU7 _ _ t_v142).symm
            subst e9
            refine lv_bipush (v := 62) hx hb dX3_readUnit_145 (by decide) ?_
            have z9_62 : (62 : Int32).toInt = 62 := by decide
            refine tk_i hH hS hA (tr_V (n := 1) (As := [.int 62]) hx hb hml hown hts hkb hH (ox_map hOX rfl) hks hE hS hA (s_Tok_isSign l D cs kf T O X tk (62) y0 y1 n90_0_2 n90_0_3 n90_0_4 n90_0_5 n90_0_6 n90_0_7 ft t tn 41 t_tk t_y0 (by omega) (by omega) (by omega) (by omega) (by omega) (by omega) (by omega) htb x_v900.1 (by decide) (by decide) (hO.sub (by decide))) kw_646 kw_615 kw_616 kw_3 kw_617 (by decide +kernel) ⟨Nat.le_of_ble_eq_true rfl, Nat.le_of_ble_eq_true rfl⟩ (x_recv (ci := 7) hkb hH 0 rfl rfl) rfl rfl hl.1 (Nat.le_of_ble_eq_true rfl) dX3_readUnit_147 ⟨Nat.le_of_ble_eq_true rfl, Nat.le_of_ble_eq_true rfl⟩) (fun v147 u H locs hz9 hH hS => ?_)
            obtain ⟨rfl, l_v147, u_v147, x_v1470, x_v1471⟩ := hz9
            have hH : HT D cs A T (tk :: y0 :: O) ((tk, .inr (7, [.ref y0, .int y1, .int n90_0_2, .int n90_0_3, .int n90_0_4, .int n90_0_5, .int n90_0_6, .int n90_0_7])) :: (y0, .inl (cs.1, 900, .inl ft)) :: X) H := hH
            refine W.widen (k := 0) (n := 0) (Nat.le_of_ble_eq_true rfl) (Nat.le_of_ble_eq_true rfl) ?_
            refine lv_if_ne (tgt := 162) hx hb dX3_readUnit_150 (by decide) (fun c150 => ?_) (fun c150 => ?_)
            · skip
              have tc150 := f_ne (k := 0) (by decide) c150
              replace x_v1470 := x_v1470.resolve_left tc150
              clear x_v1471
              refine lv_aload_n hx hb dX3_readUnit_162 rfl (lv_at hl 1 rfl) ?_
              refine t_get (ci := 3) (lst := ft3 0 0) (C := RX3) (F := TX3) (N := 3) hx hb hts uX3 hown hkb hH t_a0 (hO.no t_a0 (by decide)) (fun _ h9 => h9) rfl rfl 0 (by decide) rfl kw_82 (fun _ h9 => h9) dX3_readUnit_163 (fun v9 h9 => ?_)
              obtain ⟨v163, rfl, t_v163⟩ := h9
              have e9 := (hU7 _ _ t_v163).symm
              subst e9
              refine tk_v hH hS hA (tr_V (n := 0) (As := []) hx hb hml hown hts hkb hH (ox_map hOX rfl) hks hE hS hA (s_Tok_go l D cs kf T O X tk y0 y1 n90_0_2 n90_0_3 n90_0_4 n90_0_5 n90_0_6 n90_0_7 ft t tn t_tk t_y0 (by omega) (by omega) (by omega) (by omega) (by omega) (by omega) (by omega) htb (by have q9 := (x_v900.1).b; omega) (hO.sub (by decide))) kw_641 kw_453 kw_454 kw_3 kw_455 (by decide +kernel) ⟨Nat.le_of_ble_eq_true rfl, Nat.le_of_ble_eq_true rfl⟩ (x_recv (ci := 7) hkb hH 0 rfl rfl) rfl rfl hl.1 (Nat.le_of_ble_eq_true rfl) dX3_readUnit_166 ⟨Nat.le_of_ble_eq_true rfl, Nat.le_of_ble_eq_true rfl⟩) (fun u H locs hz9 hH hS => ?_)
              obtain ⟨n166_0_2, n166_0_3, n166_0_4, n166_0_5, rfl, x_v1660, x_v1661, x_v1662⟩ := hz9
              have px166 := TSS.nx x_v900.1 x_v1661
              have hH : HT D cs A T (tk :: y0 :: O) ((tk, .inr (7, [.ref y0, .int y1, .int n166_0_2, .int n166_0_3, .int n166_0_4, .int n166_0_5, .int n90_0_6, .int n90_0_7])) :: (y0, .inl (cs.1, 900, .inl ft)) :: X) H := hH
              refine W.widen (k := 0) (n := 0) (Nat.le_of_ble_eq_true rfl) (Nat.le_of_ble_eq_true rfl) ?_
              have g169 : GL t tn [(5, 2)] [(3, 2)] y2 n166_0_2 := g98.tr (GL_nx (fun _ _ => st_cY (by omega)) px166)
              refine lv_aload_n hx hb dX3_readUnit_169 rfl (lv_at hl 1 rfl) ?_
              refine lv_iload_n hx hb dX3_readUnit_170 rfl (lv_at hl 2 rfl) ?_
              refine tk_i hH hS hA (tr_V (n := 1) (As := [.int x1]) hx hb hml hown hts hkb hH (ox_map hOX rfl) hks hE hS hA (s_LR_readSum2 l D cs kf T O X a0 x1 y0 y1 n166_0_2 n166_0_3 n166_0_4 n166_0_5 n90_0_6 n90_0_7 ft t tn tk t_a0 (by omega) (by omega) t_y0 (by omega) (by omega) (by omega) (by omega) (by omega) (by omega) (by omega) htb x_v1660 t_tk hU7 (by omega) (hO.sub (by decide))) kw_648 kw_650 ks_10 kw_4 kw_651 (by decide +kernel) ⟨Nat.le_of_ble_eq_true rfl, Nat.le_of_ble_eq_true rfl⟩ (HT.recv (ci := 3) hkb hH t_a0 (hO.no t_a0 (by decide)) rfl) rfl rfl hl.1 (Nat.le_of_ble_eq_true rfl) dX3_readUnit_171 ⟨Nat.le_of_ble_eq_true rfl, Nat.le_of_ble_eq_true rfl⟩) (fun v171 u H locs hz9 hH hS => ?_)
              obtain ⟨n171_0_2, n171_0_3, n171_0_4, n171_0_5, n171_0_6, n171_0_7, rfl, l_v171, u_v171, x_v1710, x_v1711, x_v1712⟩ := hz9
              have hH : HT D cs A T (tk :: y0 :: O) ((tk, .inr (7, [.ref y0, .int y1, .int n171_0_2, .int n171_0_3, .int n171_0_4, .int n171_0_5, .int n171_0_6, .int n171_0_7])) :: (y0, .inl (cs.1, 900, .inl ft)) :: X) H := hH
              refine W.widen (k := 0) (n := 0) (Nat.le_of_ble_eq_true rfl) (Nat.le_of_ble_eq_true rfl) ?_
              refine lv_if_ne (tgt := 179) hx hb dX3_readUnit_174 (by decide) (fun c174 => ?_) (fun c174 => ?_)
              · skip
                have tc174 := f_ne (k := 0) (by decide) c174
                replace x_v1710 := x_v1710.resolve_left tc174
                clear x_v1711
                refine lv_aload_n hx hb dX3_readUnit_179 rfl (lv_at hl 1 rfl) ?_
                refine lv_iload_n hx hb dX3_readUnit_180 rfl (lv_at hl 0 rfl) ?_
                refine lv_iconst (v := 0) hx hb dX3_readUnit_181 (by decide) ?_
                refine tk_v hH hS hA (tr_V (n := 2) (As := [.int 10, .int 0]) hx hb hml hown hts hkb hH (ox_map hOX rfl) hks hE hS hA (s_LR_put l D cs kf T (tk :: y0 :: O) ((tk, .inr (7, [.ref y0, .int y1, .int n171_0_2, .int n171_0_3, .int n171_0_4, .int n171_0_5, .int n171_0_6, .int n171_0_7])) :: (y0, .inl (cs.1, 900, .inl ft)) :: X) a0 (10) (0) t_a0 (hO.sub (by decide))) kw_642 kw_644 ks_9 kw_4 kw_645 (by decide +kernel) ⟨Nat.le_of_ble_eq_true rfl, Nat.le_of_ble_eq_true rfl⟩ (HT.recv (ci := 3) hkb hH t_a0 (hO.no t_a0 (by decide)) rfl) rfl rfl hl.1 (Nat.le_of_ble_eq_true rfl) dX3_readUnit_182 ⟨Nat.le_of_ble_eq_true rfl, Nat.le_of_ble_eq_true rfl⟩) (fun u H locs hz9 hH hS => ?_)
                have hz9 : u = (T, tk :: y0 :: O, (tk, .inr (7, [.ref y0, .int y1, .int n171_0_2, .int n171_0_3, .int n171_0_4, .int n171_0_5, .int n171_0_6, .int n171_0_7])) :: (y0, .inl (cs.1, 900, .inl ft)) :: X) := hz9
                subst hz9
                have hH : HT D cs A T (tk :: y0 :: O) ((tk, .inr (7, [.ref y0, .int y1, .int n171_0_2, .int n171_0_3, .int n171_0_4, .int n171_0_5, .int n171_0_6, .int n171_0_7])) :: (y0, .inl (cs.1, 900, .inl ft)) :: X) H := hH
                refine W.widen (k := 0) (n := 0) (Nat.le_of_ble_eq_true rfl) (Nat.le_of_ble_eq_true rfl) ?_
                refine lv_iconst (v := 1) hx hb dX3_readUnit_185 (by decide) ?_
                have z9_1 : (1 : Int32).toInt = 1 := by decide
                exact te_z hx hb hr hlocks (by rfl) hH hS (⟨n171_0_2, n171_0_3, n171_0_4, n171_0_5, n171_0_6, n171_0_7, rfl, by decide, by decide, (Or.inr ⟨x_v1710.1, by omega, by omega, (by first | (refine g20.tr x_v240.2.2.2) | (refine g70.tr (GL_nx (fun _ _ => st_xY x_v760.2.2.1) x_v760.2.1)) | (refine g169.tr x_v1710.2.2.2))⟩), Or.inl (by decide), (by omega)⟩) dX3_readUnit_186
              · skip
                have tc174 := f_eq (k := 0) (by decide) c174
                clear x_v1710
                replace x_v1711 := x_v1711.resolve_left (fun q9 => q9 tc174)
                refine lv_iconst (v := 0) hx hb dX3_readUnit_177 (by decide) ?_
                have z9_0 : (0 : Int32).toInt = 0 := by decide
                exact te_z hx hb hr hlocks (by rfl) hH hS (⟨n171_0_2, n171_0_3, n171_0_4, n171_0_5, n171_0_6, n171_0_7, rfl, by decide, by decide, Or.inl (by decide), (Or.inr (by first | (refine BL_f (fun _ _ => st_uND ?_) x_v140 (by decide) x_v141 ?_ <;> omega) | (refine g20.bd x_v241) | (refine BL_f (fun _ _ => st_uBD ?_) x_v540 (by decide) x_v541 ?_ <;> omega) | (refine g60.bd (BL.cons x_v641)) | (refine g70.bd (BL_f (fun _ _ => st_xN x_v761.1) x_v761.2.1 (by decide) x_v761.2.2 ?_); omega) | (refine g88.bd (BL.cons x_v901)) | (refine g98.bd (BL_f (fun _ _ => st_cN ?_) x_v1580 (by decide) x_v1581 ?_) <;> omega) | (refine g169.bd x_v1711))), (by omega)⟩) dX3_readUnit_178
            · skip
              have tc150 := f_eq (k := 0) (by decide) c150
              clear x_v1470
              replace x_v1471 := x_v1471.resolve_left (fun q9 => q9 tc150)
              refine lv_aload_n hx hb dX3_readUnit_153 rfl (lv_at hl 1 rfl) ?_
              refine t_get (ci := 3) (lst := ft3 0 0) (C := RX3) (F := TX3) (N := 3) hx hb hts uX3 hown hkb hH t_a0 (hO.no t_a0 (by decide)) (fun _ h9 => h9) rfl rfl 0 (by decide) rfl kw_82 (fun _ h9 => h9) dX3_readUnit_154 (fun v9 h9 => ?_)
              obtain ⟨v154, rfl, t_v154⟩ := h9
              have e9 := (hU7 _ _ t_v154).symm
              subst e9
              refine lv_iconst (v := 2) hx hb dX3_readUnit_157 (by decide) ?_
              have z9_2 : (2 : Int32).toInt = 2 := by decide
              refine tk_i hH hS hA (tr_V (n := 1) (As := [.int 2]) hx hb hml hown hts hkb hH (ox_map hOX rfl) hks hE hS hA (s_Tok_refuse l D cs kf T O X tk (2) y0 y1 n90_0_2 n90_0_3 n90_0_4 n90_0_5 n90_0_6 n90_0_7 ft t tn t_tk t_y0 (by omega) (by omega) (by omega) (by omega) (by omega) (by omega) (by omega) htb x_v900.1 (hO.sub (by decide))) kw_640 kw_580 kw_581 kw_3 kw_582 (by decide +kernel) ⟨Nat.le_of_ble_eq_true rfl, Nat.le_of_ble_eq_true rfl⟩ (x_recv (ci := 7) hkb hH 0 rfl rfl) rfl rfl hl.1 (Nat.le_of_ble_eq_true rfl) dX3_readUnit_158 ⟨Nat.le_of_ble_eq_true rfl, Nat.le_of_ble_eq_true rfl⟩) (fun v158 u H locs hz9 hH hS => ?_)
              obtain ⟨n158_0_6, n158_0_7, rfl, l_v158, u_v158, x_v1580, x_v1581⟩ := hz9
              have hH : HT D cs A T (tk :: y0 :: O) ((tk, .inr (7, [.ref y0, .int y1, .int n90_0_2, .int n90_0_3, .int n90_0_4, .int n90_0_5, .int n158_0_6, .int n158_0_7])) :: (y0, .inl (cs.1, 900, .inl ft)) :: X) H := hH
              refine W.widen (k := 0) (n := 0) (Nat.le_of_ble_eq_true rfl) (Nat.le_of_ble_eq_true rfl) ?_
              exact te_z hx hb hr hlocks (nar01 (by omega) (by omega)) hH hS (⟨n90_0_2, n90_0_3, n90_0_4, n90_0_5, n158_0_6, n158_0_7, rfl, by omega, by omega, (Or.inl (by omega)), (Or.inr (by first | (refine BL_f (fun _ _ => st_uND ?_) x_v140 (by decide) x_v141 ?_ <;> omega) | (refine g20.bd x_v241) | (refine BL_f (fun _ _ => st_uBD ?_) x_v540 (by decide) x_v541 ?_ <;> omega) | (refine g60.bd (BL.cons x_v641)) | (refine g70.bd (BL_f (fun _ _ => st_xN x_v761.1) x_v761.2.1 (by decide) x_v761.2.2 ?_); omega) | (refine g88.bd (BL.cons x_v901)) | (refine g98.bd (BL_f (fun _ _ => st_cN ?_) x_v1580 (by decide) x_v1581 ?_) <;> omega) | (refine g169.bd x_v1711))), (by omega)⟩) dX3_readUnit_161
          · skip
            have tc124 := f_ne (k := 0) (by decide) c124
            replace x_v1210 := x_v1210.resolve_left tc124
            clear x_v1211
            refine lv_bipush (v := 9) hx hb dX3_readUnit_127 (by decide) ?_
            refine lv_goto (tgt := 134) hx hb dX3_readUnit_129 (by decide) ?_
            refine lv_istore_n (lv' := [(2, .int 9), (0, .ref a0), (1, .int x1)]) hx hb dX3_readUnit_134 rfl hl (by decide) rfl (fun ls hl => ?_)
            refine lv_iload_n hx hb dX3_readUnit_135 rfl (lv_at hl 0 rfl) ?_
            refine lv_bipush (v := 10) hx hb dX3_readUnit_136 (by decide) ?_
            refine lv_icmp_ne (tgt := 162) hx hb dX3_readUnit_138 (by decide) (fun _ => ?_) (fun c138 => absurd c138 (by decide))
            refine lv_aload_n hx hb dX3_readUnit_162 rfl (lv_at hl 1 rfl) ?_
            refine t_get (ci := 3) (lst := ft3 0 0) (C := RX3) (F := TX3) (N := 3) hx hb hts uX3 hown hkb hH t_a0 (hO.no t_a0 (by decide)) (fun _ h9 => h9) rfl rfl 0 (by decide) rfl kw_82 (fun _ h9 => h9) dX3_readUnit_163 (fun v9 h9 => ?_)
            obtain ⟨v163, rfl, t_v163⟩ := h9
            have e9 := (hU7 _ _ t_v163).symm
            subst e9
            refine tk_v hH hS hA (tr_V (n := 0) (As := []) hx hb hml hown hts hkb hH (ox_map hOX rfl) hks hE hS hA (s_Tok_go l D cs kf T O X tk y0 y1 n90_0_2 n90_0_3 n90_0_4 n90_0_5 n90_0_6 n90_0_7 ft t tn t_tk t_y0 (by omega) (by omega) (by omega) (by omega) (by omega) (by omega) (by omega) htb (by have q9 := (x_v900.1).b; omega) (hO.sub (by decide))) kw_641 kw_453 kw_454 kw_3 kw_455 (by decide +kernel) ⟨Nat.le_of_ble_eq_true rfl, Nat.le_of_ble_eq_true rfl⟩ (x_recv (ci := 7) hkb hH 0 rfl rfl) rfl rfl hl.1 (Nat.le_of_ble_eq_true rfl) dX3_readUnit_166 ⟨Nat.le_of_ble_eq_true rfl, Nat.le_of_ble_eq_true rfl⟩) (fun u H locs hz9 hH hS => ?_)
            obtain ⟨n166_0_2, n166_0_3, n166_0_4, n166_0_5, rfl, x_v1660, x_v1661, x_v1662⟩ := hz9
            have px166 := TSS.nx x_v900.1 x_v1661
            have hH : HT D cs A T (tk :: y0 :: O) ((tk, .inr (7, [.ref y0, .int y1, .int n166_0_2, .int n166_0_3, .int n166_0_4, .int n166_0_5, .int n90_0_6, .int n90_0_7])) :: (y0, .inl (cs.1, 900, .inl ft)) :: X) H := hH
            refine W.widen (k := 0) (n := 0) (Nat.le_of_ble_eq_true rfl) (Nat.le_of_ble_eq_true rfl) ?_
            have g169 : GL t tn [(5, 2)] [(3, 2)] y2 n166_0_2 := g98.tr (GL_nx (fun _ _ => st_cY (by omega)) px166)
            refine lv_aload_n hx hb dX3_readUnit_169 rfl (lv_at hl 1 rfl) ?_
            refine lv_iload_n hx hb dX3_readUnit_170 rfl (lv_at hl 2 rfl) ?_
            refine tk_i hH hS hA (tr_V (n := 1) (As := [.int x1]) hx hb hml hown hts hkb hH (ox_map hOX rfl) hks hE hS hA (s_LR_readSum2 l D cs kf T O X a0 x1 y0 y1 n166_0_2 n166_0_3 n166_0_4 n166_0_5 n90_0_6 n90_0_7 ft t tn tk t_a0 (by omega) (by omega) t_y0 (by omega) (by omega) (by omega) (by omega) (by omega) (by omega) (by omega) htb x_v1660 t_tk hU7 (by omega) (hO.sub (by decide))) kw_648 kw_650 ks_10 kw_4 kw_651 (by decide +kernel) ⟨Nat.le_of_ble_eq_true rfl, Nat.le_of_ble_eq_true rfl⟩ (HT.recv (ci := 3) hkb hH t_a0 (hO.no t_a0 (by decide)) rfl) rfl rfl hl.1 (Nat.le_of_ble_eq_true rfl) dX3_readUnit_171 ⟨Nat.le_of_ble_eq_true rfl, Nat.le_of_ble_eq_true rfl⟩) (fun v171 u H locs hz9 hH hS => ?_)
            obtain ⟨n171_0_2, n171_0_3, n171_0_4, n171_0_5, n171_0_6, n171_0_7, rfl, l_v171, u_v171, x_v1710, x_v1711, x_v1712⟩ := hz9
            have hH : HT D cs A T (tk :: y0 :: O) ((tk, .inr (7, [.ref y0, .int y1, .int n171_0_2, .int n171_0_3, .int n171_0_4, .int n171_0_5, .int n171_0_6, .int n171_0_7])) :: (y0, .inl (cs.1, 900, .inl ft)) :: X) H := hH
            refine W.widen (k := 0) (n := 0) (Nat.le_of_ble_eq_true rfl) (Nat.le_of_ble_eq_true rfl) ?_
            refine lv_if_ne (tgt := 179) hx hb dX3_readUnit_174 (by decide) (fun c174 => ?_) (fun c174 => ?_)
            · skip
              have tc174 := f_ne (k := 0) (by decide) c174
              replace x_v1710 := x_v1710.resolve_left tc174
              clear x_v1711
              refine lv_aload_n hx hb dX3_readUnit_179 rfl (lv_at hl 1 rfl) ?_
              refine lv_iload_n hx hb dX3_readUnit_180 rfl (lv_at hl 0 rfl) ?_
              refine lv_iconst (v := 0) hx hb dX3_readUnit_181 (by decide) ?_
              refine tk_v hH hS hA (tr_V (n := 2) (As := [.int 9, .int 0]) hx hb hml hown hts hkb hH (ox_map hOX rfl) hks hE hS hA (s_LR_put l D cs kf T (tk :: y0 :: O) ((tk, .inr (7, [.ref y0, .int y1, .int n171_0_2, .int n171_0_3, .int n171_0_4, .int n171_0_5, .int n171_0_6, .int n171_0_7])) :: (y0, .inl (cs.1, 900, .inl ft)) :: X) a0 (9) (0) t_a0 (hO.sub (by decide))) kw_642 kw_644 ks_9 kw_4 kw_645 (by decide +kernel) ⟨Nat.le_of_ble_eq_true rfl, Nat.le_of_ble_eq_true rfl⟩ (HT.recv (ci := 3) hkb hH t_a0 (hO.no t_a0 (by decide)) rfl) rfl rfl hl.1 (Nat.le_of_ble_eq_true rfl) dX3_readUnit_182 ⟨Nat.le_of_ble_eq_true rfl, Nat.le_of_ble_eq_true rfl⟩) (fun u H locs hz9 hH hS => ?_)
              have hz9 : u = (T, tk :: y0 :: O, (tk, .inr (7, [.ref y0, .int y1, .int n171_0_2, .int n171_0_3, .int n171_0_4, .int n171_0_5, .int n171_0_6, .int n171_0_7])) :: (y0, .inl (cs.1, 900, .inl ft)) :: X) := hz9
              subst hz9
              have hH : HT D cs A T (tk :: y0 :: O) ((tk, .inr (7, [.ref y0, .int y1, .int n171_0_2, .int n171_0_3, .int n171_0_4, .int n171_0_5, .int n171_0_6, .int n171_0_7])) :: (y0, .inl (cs.1, 900, .inl ft)) :: X) H := hH
              refine W.widen (k := 0) (n := 0) (Nat.le_of_ble_eq_true rfl) (Nat.le_of_ble_eq_true rfl) ?_
              refine lv_iconst (v := 1) hx hb dX3_readUnit_185 (by decide) ?_
              have z9_1 : (1 : Int32).toInt = 1 := by decide
              exact te_z hx hb hr hlocks (by rfl) hH hS (⟨n171_0_2, n171_0_3, n171_0_4, n171_0_5, n171_0_6, n171_0_7, rfl, by decide, by decide, (Or.inr ⟨x_v1710.1, by omega, by omega, (by first | (refine g20.tr x_v240.2.2.2) | (refine g70.tr (GL_nx (fun _ _ => st_xY x_v760.2.2.1) x_v760.2.1)) | (refine g169.tr x_v1710.2.2.2))⟩), Or.inl (by decide), (by omega)⟩) dX3_readUnit_186
            · skip
              have tc174 := f_eq (k := 0) (by decide) c174
              clear x_v1710
              replace x_v1711 := x_v1711.resolve_left (fun q9 => q9 tc174)
              refine lv_iconst (v := 0) hx hb dX3_readUnit_177 (by decide) ?_
              have z9_0 : (0 : Int32).toInt = 0 := by decide
              exact te_z hx hb hr hlocks (by rfl) hH hS (⟨n171_0_2, n171_0_3, n171_0_4, n171_0_5, n171_0_6, n171_0_7, rfl, by decide, by decide, Or.inl (by decide), (Or.inr (by first | (refine BL_f (fun _ _ => st_uND ?_) x_v140 (by decide) x_v141 ?_ <;> omega) | (refine g20.bd x_v241) | (refine BL_f (fun _ _ => st_uBD ?_) x_v540 (by decide) x_v541 ?_ <;> omega) | (refine g60.bd (BL.cons x_v641)) | (refine g70.bd (BL_f (fun _ _ => st_xN x_v761.1) x_v761.2.1 (by decide) x_v761.2.2 ?_); omega) | (refine g88.bd (BL.cons x_v901)) | (refine g98.bd (BL_f (fun _ _ => st_cN ?_) x_v1580 (by decide) x_v1581 ?_) <;> omega) | (refine g169.bd x_v1711))), (by omega)⟩) dX3_readUnit_178
        · skip
          have tc107 := f_ne (k := 0) (by decide) c107
          replace x_v1040 := x_v1040.resolve_left tc107
          clear x_v1041
          refine lv_bipush (v := 8) hx hb dX3_readUnit_110 (by decide) ?_
          refine lv_goto (tgt := 134) hx hb dX3_readUnit_112 (by decide) ?_
          refine lv_istore_n (lv' := [(2, .int 8), (0, .ref a0), (1, .int x1)]) hx hb dX3_readUnit_134 rfl hl (by decide) rfl (fun ls hl => ?_)
          refine lv_iload_n hx hb dX3_readUnit_135 rfl (lv_at hl 0 rfl) ?_
          refine lv_bipush (v := 10) hx hb dX3_readUnit_136 (by decide) ?_
          refine lv_icmp_ne (tgt := 162) hx hb dX3_readUnit_138 (by decide) (fun _ => ?_) (fun c138 => absurd c138 (by decide))
          refine lv_aload_n hx hb dX3_readUnit_162 rfl (lv_at hl 1 rfl) ?_
          refine t_get (ci := 3) (lst := ft3 0 0) (C := RX3) (F := TX3) (N := 3) hx hb hts uX3 hown hkb hH t_a0 (hO.no t_a0 (by decide)) (fun _ h9 => h9) rfl rfl 0 (by decide) rfl kw_82 (fun _ h9 => h9) dX3_readUnit_163 (fun v9 h9 => ?_)
          obtain ⟨v163, rfl, t_v163⟩ := h9
          have e9 := (hU7 _ _ t_v163).symm
          subst e9
          refine tk_v hH hS hA (tr_V (n := 0) (As := []) hx hb hml hown hts hkb hH (ox_map hOX rfl) hks hE hS hA (s_Tok_go l D cs kf T O X tk y0 y1 n90_0_2 n90_0_3 n90_0_4 n90_0_5 n90_0_6 n90_0_7 ft t tn t_tk t_y0 (by omega) (by omega) (by omega) (by omega) (by omega) (by omega) (by omega) htb (by have q9 := (x_v900.1).b; omega) (hO.sub (by decide))) kw_641 kw_453 kw_454 kw_3 kw_455 (by decide +kernel) ⟨Nat.le_of_ble_eq_true rfl, Nat.le_of_ble_eq_true rfl⟩ (x_recv (ci := 7) hkb hH 0 rfl rfl) rfl rfl hl.1 (Nat.le_of_ble_eq_true rfl) dX3_readUnit_166 ⟨Nat.le_of_ble_eq_true rfl, Nat.le_of_ble_eq_true rfl⟩) (fun u H locs hz9 hH hS => ?_)
          obtain ⟨n166_0_2, n166_0_3, n166_0_4, n166_0_5, rfl, x_v1660, x_v1661, x_v1662⟩ := hz9
          have px166 := TSS.nx x_v900.1 x_v1661
          have hH : HT D cs A T (tk :: y0 :: O) ((tk, .inr (7, [.ref y0, .int y1, .int n166_0_2, .int n166_0_3, .int n166_0_4, .int n166_0_5, .int n90_0_6, .int n90_0_7])) :: (y0, .inl (cs.1, 900, .inl ft)) :: X) H := hH
          refine W.widen (k := 0) (n := 0) (Nat.le_of_ble_eq_true rfl) (Nat.le_of_ble_eq_true rfl) ?_
          have g169 : GL t tn [(5, 2)] [(3, 2)] y2 n166_0_2 := g98.tr (GL_nx (fun _ _ => st_cY (by omega)) px166)
          refine lv_aload_n hx hb dX3_readUnit_169 rfl (lv_at hl 1 rfl) ?_
          refine lv_iload_n hx hb dX3_readUnit_170 rfl (lv_at hl 2 rfl) ?_
          refine tk_i hH hS hA (tr_V (n := 1) (As := [.int x1]) hx hb hml hown hts hkb hH (ox_map hOX rfl) hks hE hS hA (s_LR_readSum2 l D cs kf T O X a0 x1 y0 y1 n166_0_2 n166_0_3 n166_0_4 n166_0_5 n90_0_6 n90_0_7 ft t tn tk t_a0 (by omega) (by omega) t_y0 (by omega) (by omega) (by omega) (by omega) (by omega) (by omega) (by omega) htb x_v1660 t_tk hU7 (by omega) (hO.sub (by decide))) kw_648 kw_650 ks_10 kw_4 kw_651 (by decide +kernel) ⟨Nat.le_of_ble_eq_true rfl, Nat.le_of_ble_eq_true rfl⟩ (HT.recv (ci := 3) hkb hH t_a0 (hO.no t_a0 (by decide)) rfl) rfl rfl hl.1 (Nat.le_of_ble_eq_true rfl) dX3_readUnit_171 ⟨Nat.le_of_ble_eq_true rfl, Nat.le_of_ble_eq_true rfl⟩) (fun v171 u H locs hz9 hH hS => ?_)
          obtain ⟨n171_0_2, n171_0_3, n171_0_4, n171_0_5, n171_0_6, n171_0_7, rfl, l_v171, u_v171, x_v1710, x_v1711, x_v1712⟩ := hz9
          have hH : HT D cs A T (tk :: y0 :: O) ((tk, .inr (7, [.ref y0, .int y1, .int n171_0_2, .int n171_0_3, .int n171_0_4, .int n171_0_5, .int n171_0_6, .int n171_0_7])) :: (y0, .inl (cs.1, 900, .inl ft)) :: X) H := hH
          refine W.widen (k := 0) (n := 0) (Nat.le_of_ble_eq_true rfl) (Nat.le_of_ble_eq_true rfl) ?_
          refine lv_if_ne (tgt := 179) hx hb dX3_readUnit_174 (by decide) (fun c174 => ?_) (fun c174 => ?_)
          · skip
            have tc174 := f_ne (k := 0) (by decide) c174
            replace x_v1710 := x_v1710.resolve_left tc174
            clear x_v1711
            refine lv_aload_n hx hb dX3_readUnit_179 rfl (lv_at hl 1 rfl) ?_
            refine lv_iload_n hx hb dX3_readUnit_180 rfl (lv_at hl 0 rfl) ?_
            refine lv_iconst (v := 0) hx hb dX3_readUnit_181 (by decide) ?_
            refine tk_v hH hS hA (tr_V (n := 2) (As := [.int 8, .int 0]) hx hb hml hown hts hkb hH (ox_map hOX rfl) hks hE hS hA (s_LR_put l D cs kf T (tk :: y0 :: O) ((tk, .inr (7, [.ref y0, .int y1, .int n171_0_2, .int n171_0_3, .int n171_0_4, .int n171_0_5, .int n171_0_6, .int n171_0_7])) :: (y0, .inl (cs.1, 900, .inl ft)) :: X) a0 (8) (0) t_a0 (hO.sub (by decide))) kw_642 kw_644 ks_9 kw_4 kw_645 (by decide +kernel) ⟨Nat.le_of_ble_eq_true rfl, Nat.le_of_ble_eq_true rfl⟩ (HT.recv (ci := 3) hkb hH t_a0 (hO.no t_a0 (by decide)) rfl) rfl rfl hl.1 (Nat.le_of_ble_eq_true rfl) dX3_readUnit_182 ⟨Nat.le_of_ble_eq_true rfl, Nat.le_of_ble_eq_true rfl⟩) (fun u H locs hz9 hH hS => ?_)
            have hz9 : u = (T, tk :: y0 :: O, (tk, .inr (7, [.ref y0, .int y1, .int n171_0_2, .int n171_0_3, .int n171_0_4, .int n171_0_5, .int n171_0_6, .int n171_0_7])) :: (y0, .inl (cs.1, 900, .inl ft)) :: X) := hz9
            subst hz9
            have hH : HT D cs A T (tk :: y0 :: O) ((tk, .inr (7, [.ref y0, .int y1, .int n171_0_2, .int n171_0_3, .int n171_0_4, .int n171_0_5, .int n171_0_6, .int n171_0_7])) :: (y0, .inl (cs.1, 900, .inl ft)) :: X) H := hH
            refine W.widen (k := 0) (n := 0) (Nat.le_of_ble_eq_true rfl) (Nat.le_of_ble_eq_true rfl) ?_
            refine lv_iconst (v := 1) hx hb dX3_readUnit_185 (by decide) ?_
            have z9_1 : (1 : Int32).toInt = 1 := by decide
            exact te_z hx hb hr hlocks (by rfl) hH hS (⟨n171_0_2, n171_0_3, n171_0_4, n171_0_5, n171_0_6, n171_0_7, rfl, by decide, by decide, (Or.inr ⟨x_v1710.1, by omega, by omega, (by first | (refine g20.tr x_v240.2.2.2) | (refine g70.tr (GL_nx (fun _ _ => st_xY x_v760.2.2.1) x_v760.2.1)) | (refine g169.tr x_v1710.2.2.2))⟩), Or.inl (by decide), (by omega)⟩) dX3_readUnit_186
          · skip
            have tc174 := f_eq (k := 0) (by decide) c174
            clear x_v1710
            replace x_v1711 := x_v1711.resolve_left (fun q9 => q9 tc174)
            refine lv_iconst (v := 0) hx hb dX3_readUnit_177 (by decide) ?_
            have z9_0 : (0 : Int32).toInt = 0 := by decide
            exact te_z hx hb hr hlocks (by rfl) hH hS (⟨n171_0_2, n171_0_3, n171_0_4, n171_0_5, n171_0_6, n171_0_7, rfl, by decide, by decide, Or.inl (by decide), (Or.inr (by first | (refine BL_f (fun _ _ => st_uND ?_) x_v140 (by decide) x_v141 ?_ <;> omega) | (refine g20.bd x_v241) | (refine BL_f (fun _ _ => st_uBD ?_) x_v540 (by decide) x_v541 ?_ <;> omega) | (refine g60.bd (BL.cons x_v641)) | (refine g70.bd (BL_f (fun _ _ => st_xN x_v761.1) x_v761.2.1 (by decide) x_v761.2.2 ?_); omega) | (refine g88.bd (BL.cons x_v901)) | (refine g98.bd (BL_f (fun _ _ => st_cN ?_) x_v1580 (by decide) x_v1581 ?_) <;> omega) | (refine g169.bd x_v1711))), (by omega)⟩) dX3_readUnit_178
      · skip
        have tc93 := f_eq (k := 0) (by decide) c93
        clear x_v900
        replace x_v901 := x_v901.resolve_left (fun q9 => q9 tc93)
        refine lv_iconst (v := 0) hx hb dX3_readUnit_96 (by decide) ?_
        have z9_0 : (0 : Int32).toInt = 0 := by decide
        exact te_z hx hb hr hlocks (by rfl) hH hS (⟨n90_0_2, n90_0_3, n90_0_4, n90_0_5, n90_0_6, n90_0_7, rfl, by decide, by decide, Or.inl (by decide), (Or.inr (by first | (refine BL_f (fun _ _ => st_uND ?_) x_v140 (by decide) x_v141 ?_ <;> omega) | (refine g20.bd x_v241) | (refine BL_f (fun _ _ => st_uBD ?_) x_v540 (by decide) x_v541 ?_ <;> omega) | (refine g60.bd (BL.cons x_v641)) | (refine g70.bd (BL_f (fun _ _ => st_xN x_v761.1) x_v761.2.1 (by decide) x_v761.2.2 ?_); omega) | (refine g88.bd (BL.cons x_v901)) | (refine g98.bd (BL_f (fun _ _ => st_cN ?_) x_v1580 (by decide) x_v1581 ?_) <;> omega) | (refine g169.bd x_v1711))), (by omega)⟩) dX3_readUnit_97
    · skip
      have tc49 := f_ne (k := 0) (by decide) c49
      replace x_v460 := x_v460.resolve_left tc49
      clear x_v461
      refine lv_aload_n hx hb dX3_readUnit_52 rfl (lv_at hl 0 rfl) ?_
      refine lv_iload_n hx hb dX3_readUnit_53 rfl (lv_at hl 1 rfl) ?_
      refine tk_i hH hS hA (tr_V (n := 1) (As := [.int x1]) hx hb hml hown hts hkb hH (ox_map hOX rfl) hks hE hS hA (s_LR_enter2 l D cs kf T O X a0 x1 y0 y1 y2 y3 y4 y5 y6 y7 ft t tn tk t_a0 (by omega) (by omega) t_y0 (by omega) (by omega) (by omega) (by omega) (by omega) (by omega) (by omega) htb hto t_tk hU7 (hO.sub (by decide))) kw_636 kw_638 ks_8 kw_4 kw_639 (by decide +kernel) ⟨Nat.le_of_ble_eq_true rfl, Nat.le_of_ble_eq_true rfl⟩ (HT.recv (ci := 3) hkb hH t_a0 (hO.no t_a0 (by decide)) rfl) rfl rfl hl.1 (Nat.le_of_ble_eq_true rfl) dX3_readUnit_54 ⟨Nat.le_of_ble_eq_true rfl, Nat.le_of_ble_eq_true rfl⟩) (fun v54 u H locs hz9 hH hS => ?_)
      obtain ⟨n54_0_2, n54_0_3, n54_0_4, n54_0_5, rfl, l_v54, u_v54, x_v540, x_v541, x_v542⟩ := hz9
      have hH : HT D cs A T (tk :: y0 :: O) ((tk, .inr (7, [.ref y0, .int y1, .int n54_0_2, .int n54_0_3, .int n54_0_4, .int n54_0_5, .int y6, .int y7])) :: (y0, .inl (cs.1, 900, .inl ft)) :: X) H := hH
      refine W.widen (k := 0) (n := 0) (Nat.le_of_ble_eq_true rfl) (Nat.le_of_ble_eq_true rfl) ?_
      refine lv_if_eq (tgt := 86) hx hb dX3_readUnit_57 (by decide) (fun c57 => ?_) (fun c57 => ?_)
      · skip
        have tc57 := f_eq (k := 0) (by decide) c57
        exfalso; omega
      · skip
        have tc57 := f_ne (k := 0) (by decide) c57
        have g60 : GL t tn [(5, 2)] [(8, 3), (20, 38)] y2 n54_0_2 := GL_nx (fun _ _ => st_uB (by omega) (by decide)) x_v541
        refine lv_aload_n hx hb dX3_readUnit_60 rfl (lv_at hl 0 rfl) ?_
        refine lv_iload_n hx hb dX3_readUnit_61 rfl (lv_at hl 1 rfl) ?_
        refine lv_iconst (v := 1) hx hb dX3_readUnit_62 (by decide) ?_
        refine lv_iadd hx hb dX3_readUnit_63 ?_
        refine lv_topi (fun v63 ev63 => ?_)
        have tv63 : v63.toInt = x1.toInt + (1) := by rw [ev63]; exact add_i rfl (by decide : (1 : Int32).toInt = 1) (by omega) (by omega)
        refine tk_i hH hS hA (tr_V (n := 1) (As := [.int v63]) hx hb hml hown hts hkb hH (ox_map hOX rfl) hks hE hS hA (s_LR_readTruth3 l D cs kf T O X a0 v63 y0 y1 n54_0_2 n54_0_3 n54_0_4 n54_0_5 y6 y7 ft t tn tk t_a0 (by omega) (by omega) t_y0 (by omega) (by omega) (by omega) (by omega) (by omega) (by omega) (by omega) htb x_v540 t_tk hU7 (by omega) (hO.sub (by decide))) kw_622 kw_624 ks_5 kw_4 kw_625 (by decide +kernel) ⟨Nat.le_of_ble_eq_true rfl, Nat.le_of_ble_eq_true rfl⟩ (HT.recv (ci := 3) hkb hH t_a0 (hO.no t_a0 (by decide)) rfl) rfl rfl hl.1 (Nat.le_of_ble_eq_true rfl) dX3_readUnit_64 ⟨Nat.le_of_ble_eq_true rfl, Nat.le_of_ble_eq_true rfl⟩) (fun v64 u H locs hz9 hH hS => ?_)
        obtain ⟨n64_0_2, n64_0_3, n64_0_4, n64_0_5, n64_0_6, n64_0_7, rfl, l_v64, u_v64, x_v640, x_v641, x_v642⟩ := hz9
        have hH : HT D cs A T (tk :: y0 :: O) ((tk, .inr (7, [.ref y0, .int y1, .int n64_0_2, .int n64_0_3, .int n64_0_4, .int n64_0_5, .int n64_0_6, .int n64_0_7])) :: (y0, .inl (cs.1, 900, .inl ft)) :: X) H := hH
        refine W.widen (k := 0) (n := 0) (Nat.le_of_ble_eq_true rfl) (Nat.le_of_ble_eq_true rfl) ?_
        refine lv_if_eq (tgt := 86) hx hb dX3_readUnit_67 (by decide) (fun c67 => ?_) (fun c67 => ?_)
        · skip
          have tc67 := f_eq (k := 0) (by decide) c67
          clear x_v640
          replace x_v641 := x_v641.resolve_left (fun q9 => q9 tc67)
          refine lv_iconst (v := 0) hx hb dX3_readUnit_86 (by decide) ?_
          have z9_0 : (0 : Int32).toInt = 0 := by decide
          exact te_z hx hb hr hlocks (by rfl) hH hS (⟨n64_0_2, n64_0_3, n64_0_4, n64_0_5, n64_0_6, n64_0_7, rfl, by decide, by decide, Or.inl (by decide), (Or.inr (by first | (refine BL_f (fun _ _ => st_uND ?_) x_v140 (by decide) x_v141 ?_ <;> omega) | (refine g20.bd x_v241) | (refine BL_f (fun _ _ => st_uBD ?_) x_v540 (by decide) x_v541 ?_ <;> omega) | (refine g60.bd (BL.cons x_v641)) | (refine g70.bd (BL_f (fun _ _ => st_xN x_v761.1) x_v761.2.1 (by decide) x_v761.2.2 ?_); omega) | (refine g88.bd (BL.cons x_v901)) | (refine g98.bd (BL_f (fun _ _ => st_cN ?_) x_v1580 (by decide) x_v1581 ?_) <;> omega) | (refine g169.bd x_v1711))), (by omega)⟩) dX3_readUnit_87
        · skip
          have tc67 := f_ne (k := 0) (by decide) c67
          replace x_v640 := x_v640.resolve_left tc67
          clear x_v641
          have g70 := g60.tr (GL.cons x_v640.2.2.2)
          refine lv_aload_n hx hb dX3_readUnit_70 rfl (lv_at hl 0 rfl) ?_
          refine t_get (ci := 3) (lst := ft3 0 0) (C := RX3) (F := TX3) (N := 3) hx hb hts uX3 hown hkb hH t_a0 (hO.no t_a0 (by decide)) (fun _ h9 => h9) rfl rfl 0 (by decide) rfl kw_82 (fun _ h9 => h9) dX3_readUnit_71 (fun v9 h9 => ?_)
          obtain ⟨v71, rfl, t_v71⟩ := h9
          have e9 := (hU7 _ _ t_v71).symm
          subst e9
          refine lv_bipush (v := 93) hx hb dX3_readUnit_74 (by decide) ?_
          have z9_93 : (93 : Int32).toInt = 93 := by decide
          refine tk_i hH hS hA (tr_V (n := 1) (As := [.int 93]) hx hb hml hown hts hkb hH (ox_map hOX rfl) hks hE hS hA (s_Tok_takeSign l D cs kf T O X tk (93) y0 y1 n64_0_2 n64_0_3 n64_0_4 n64_0_5 n64_0_6 n64_0_7 ft t tn 38 t_tk t_y0 (by omega) (by omega) (by omega) (by omega) (by omega) (by omega) (by omega) htb x_v640.1 (by decide) (by decide) (hO.sub (by decide))) kw_647 kw_611 kw_612 kw_3 kw_613 (by decide +kernel) ⟨Nat.le_of_ble_eq_true rfl, Nat.le_of_ble_eq_true rfl⟩ (x_recv (ci := 7) hkb hH 0 rfl rfl) rfl rfl hl.1 (Nat.le_of_ble_eq_true rfl) dX3_readUnit_76 ⟨Nat.le_of_ble_eq_true rfl, Nat.le_of_ble_eq_true rfl⟩) (fun v76 u H locs hz9 hH hS => ?_)
          obtain ⟨n76_0_2, n76_0_3, n76_0_4, n76_0_5, n76_0_6, n76_0_7, rfl, l_v76, u_v76, x_v760, x_v761, x_v762⟩ := hz9
          have hH : HT D cs A T (tk :: y0 :: O) ((tk, .inr (7, [.ref y0, .int y1, .int n76_0_2, .int n76_0_3, .int n76_0_4, .int n76_0_5, .int n76_0_6, .int n76_0_7])) :: (y0, .inl (cs.1, 900, .inl ft)) :: X) H := hH
          refine W.widen (k := 0) (n := 0) (Nat.le_of_ble_eq_true rfl) (Nat.le_of_ble_eq_true rfl) ?_
          refine lv_if_eq (tgt := 86) hx hb dX3_readUnit_79 (by decide) (fun c79 => ?_) (fun c79 => ?_)
          · skip
            have tc79 := f_eq (k := 0) (by decide) c79
            clear x_v760
            replace x_v761 := x_v761.resolve_left (fun q9 => q9 tc79)
            refine lv_iconst (v := 0) hx hb dX3_readUnit_86 (by decide) ?_
            have z9_0 : (0 : Int32).toInt = 0 := by decide
            exact te_z hx hb hr hlocks (by rfl) hH hS (⟨n76_0_2, n76_0_3, n76_0_4, n76_0_5, n76_0_6, n76_0_7, rfl, by decide, by decide, Or.inl (by decide), (Or.inr (by first | (refine BL_f (fun _ _ => st_uND ?_) x_v140 (by decide) x_v141 ?_ <;> omega) | (refine g20.bd x_v241) | (refine BL_f (fun _ _ => st_uBD ?_) x_v540 (by decide) x_v541 ?_ <;> omega) | (refine g60.bd (BL.cons x_v641)) | (refine g70.bd (BL_f (fun _ _ => st_xN x_v761.1) x_v761.2.1 (by decide) x_v761.2.2 ?_); omega) | (refine g88.bd (BL.cons x_v901)) | (refine g98.bd (BL_f (fun _ _ => st_cN ?_) x_v1580 (by decide) x_v1581 ?_) <;> omega) | (refine g169.bd x_v1711))), (by omega)⟩) dX3_readUnit_87
          · skip
            have tc79 := f_ne (k := 0) (by decide) c79
            replace x_v760 := x_v760.resolve_left tc79
            clear x_v761
            refine lv_iconst (v := 1) hx hb dX3_readUnit_82 (by decide) ?_
            refine lv_goto (tgt := 87) hx hb dX3_readUnit_83 (by decide) ?_
            have z9_1 : (1 : Int32).toInt = 1 := by decide
            exact te_z hx hb hr hlocks (by rfl) hH hS (⟨n76_0_2, n76_0_3, n76_0_4, n76_0_5, n76_0_6, n76_0_7, rfl, by decide, by decide, (Or.inr ⟨x_v760.1, by omega, by omega, (by first | (refine g20.tr x_v240.2.2.2) | (refine g70.tr (GL_nx (fun _ _ => st_xY x_v760.2.2.1) x_v760.2.1)) | (refine g169.tr x_v1710.2.2.2))⟩), Or.inl (by decide), (by omega)⟩) dX3_readUnit_87
  · skip
    have tc9 := f_ne (k := 0) (by decide) c9
    replace x_v60 := x_v60.resolve_left tc9
    clear x_v61
    refine lv_aload_n hx hb dX3_readUnit_12 rfl (lv_at hl 0 rfl) ?_
    refine lv_iload_n hx hb dX3_readUnit_13 rfl (lv_at hl 1 rfl) ?_
    refine tk_i hH hS hA (tr_V (n := 1) (As := [.int x1]) hx hb hml hown hts hkb hH (ox_map hOX rfl) hks hE hS hA (s_LR_enter2 l D cs kf T O X a0 x1 y0 y1 y2 y3 y4 y5 y6 y7 ft t tn tk t_a0 (by omega) (by omega) t_y0 (by omega) (by omega) (by omega) (by omega) (by omega) (by omega) (by omega) htb hto t_tk hU7 (hO.sub (by decide))) kw_636 kw_638 ks_8 kw_4 kw_639 (by decide +kernel) ⟨Nat.le_of_ble_eq_true rfl, Nat.le_of_ble_eq_true rfl⟩ (HT.recv (ci := 3) hkb hH t_a0 (hO.no t_a0 (by decide)) rfl) rfl rfl hl.1 (Nat.le_of_ble_eq_true rfl) dX3_readUnit_14 ⟨Nat.le_of_ble_eq_true rfl, Nat.le_of_ble_eq_true rfl⟩) (fun v14 u H locs hz9 hH hS => ?_)
    obtain ⟨n14_0_2, n14_0_3, n14_0_4, n14_0_5, rfl, l_v14, u_v14, x_v140, x_v141, x_v142⟩ := hz9
    have hH : HT D cs A T (tk :: y0 :: O) ((tk, .inr (7, [.ref y0, .int y1, .int n14_0_2, .int n14_0_3, .int n14_0_4, .int n14_0_5, .int y6, .int y7])) :: (y0, .inl (cs.1, 900, .inl ft)) :: X) H := hH
    refine W.widen (k := 0) (n := 0) (Nat.le_of_ble_eq_true rfl) (Nat.le_of_ble_eq_true rfl) ?_
    refine lv_if_eq (tgt := 30) hx hb dX3_readUnit_17 (by decide) (fun c17 => ?_) (fun c17 => ?_)
    · skip
      have tc17 := f_eq (k := 0) (by decide) c17
      exfalso; omega
    · skip
      have tc17 := f_ne (k := 0) (by decide) c17
      have g20 : GL t tn [(5, 2)] [(5, 3)] y2 n14_0_2 := GL_nx (fun _ _ => st_uN (by omega) (by decide)) x_v141
      refine lv_aload_n hx hb dX3_readUnit_20 rfl (lv_at hl 0 rfl) ?_
      refine lv_iload_n hx hb dX3_readUnit_21 rfl (lv_at hl 1 rfl) ?_
      refine lv_iconst (v := 1) hx hb dX3_readUnit_22 (by decide) ?_
      refine lv_iadd hx hb dX3_readUnit_23 ?_
      refine lv_topi (fun v23 ev23 => ?_)
      have tv23 : v23.toInt = x1.toInt + (1) := by rw [ev23]; exact add_i rfl (by decide : (1 : Int32).toInt = 1) (by omega) (by omega)
      refine tk_i hH hS hA (tr_V (n := 1) (As := [.int v23]) hx hb hml hown hts hkb hH (ox_map hOX rfl) hks hE hS hA (s_LR_readUnit3 l D cs kf T O X a0 v23 y0 y1 n14_0_2 n14_0_3 n14_0_4 n14_0_5 y6 y7 ft t tn tk t_a0 (by omega) (by omega) t_y0 (by omega) (by omega) (by omega) (by omega) (by omega) (by omega) (by omega) htb x_v140 t_tk hU7 (by omega) (hO.sub (by decide))) kw_630 kw_632 ks_7 kw_4 kw_633 (by decide +kernel) ⟨Nat.le_of_ble_eq_true rfl, Nat.le_of_ble_eq_true rfl⟩ (HT.recv (ci := 3) hkb hH t_a0 (hO.no t_a0 (by decide)) rfl) rfl rfl hl.1 (Nat.le_of_ble_eq_true rfl) dX3_readUnit_24 ⟨Nat.le_of_ble_eq_true rfl, Nat.le_of_ble_eq_true rfl⟩) (fun v24 u H locs hz9 hH hS => ?_)
      obtain ⟨n24_0_2, n24_0_3, n24_0_4, n24_0_5, n24_0_6, n24_0_7, rfl, l_v24, u_v24, x_v240, x_v241, x_v242⟩ := hz9
      have hH : HT D cs A T (tk :: y0 :: O) ((tk, .inr (7, [.ref y0, .int y1, .int n24_0_2, .int n24_0_3, .int n24_0_4, .int n24_0_5, .int n24_0_6, .int n24_0_7])) :: (y0, .inl (cs.1, 900, .inl ft)) :: X) H := hH
      refine W.widen (k := 0) (n := 0) (Nat.le_of_ble_eq_true rfl) (Nat.le_of_ble_eq_true rfl) ?_
      refine lv_if_ne (tgt := 32) hx hb dX3_readUnit_27 (by decide) (fun c27 => ?_) (fun c27 => ?_)
      · skip
        have tc27 := f_ne (k := 0) (by decide) c27
        replace x_v240 := x_v240.resolve_left tc27
        clear x_v241
        refine lv_aload_n hx hb dX3_readUnit_32 rfl (lv_at hl 0 rfl) ?_
        refine lv_iconst (v := 2) hx hb dX3_readUnit_33 (by decide) ?_
        refine lv_iconst (v := 0) hx hb dX3_readUnit_34 (by decide) ?_
        refine tk_v hH hS hA (tr_V (n := 2) (As := [.int 2, .int 0]) hx hb hml hown hts hkb hH (ox_map hOX rfl) hks hE hS hA (s_LR_put l D cs kf T (tk :: y0 :: O) ((tk, .inr (7, [.ref y0, .int y1, .int n24_0_2, .int n24_0_3, .int n24_0_4, .int n24_0_5, .int n24_0_6, .int n24_0_7])) :: (y0, .inl (cs.1, 900, .inl ft)) :: X) a0 (2) (0) t_a0 (hO.sub (by decide))) kw_642 kw_644 ks_9 kw_4 kw_645 (by decide +kernel) ⟨Nat.le_of_ble_eq_true rfl, Nat.le_of_ble_eq_true rfl⟩ (HT.recv (ci := 3) hkb hH t_a0 (hO.no t_a0 (by decide)) rfl) rfl rfl hl.1 (Nat.le_of_ble_eq_true rfl) dX3_readUnit_35 ⟨Nat.le_of_ble_eq_true rfl, Nat.le_of_ble_eq_true rfl⟩) (fun u H locs hz9 hH hS => ?_)
        have hz9 : u = (T, tk :: y0 :: O, (tk, .inr (7, [.ref y0, .int y1, .int n24_0_2, .int n24_0_3, .int n24_0_4, .int n24_0_5, .int n24_0_6, .int n24_0_7])) :: (y0, .inl (cs.1, 900, .inl ft)) :: X) := hz9
        subst hz9
        have hH : HT D cs A T (tk :: y0 :: O) ((tk, .inr (7, [.ref y0, .int y1, .int n24_0_2, .int n24_0_3, .int n24_0_4, .int n24_0_5, .int n24_0_6, .int n24_0_7])) :: (y0, .inl (cs.1, 900, .inl ft)) :: X) H := hH
        refine W.widen (k := 0) (n := 0) (Nat.le_of_ble_eq_true rfl) (Nat.le_of_ble_eq_true rfl) ?_
        refine lv_iconst (v := 1) hx hb dX3_readUnit_38 (by decide) ?_
        have z9_1 : (1 : Int32).toInt = 1 := by decide
        exact te_z hx hb hr hlocks (by rfl) hH hS (⟨n24_0_2, n24_0_3, n24_0_4, n24_0_5, n24_0_6, n24_0_7, rfl, by decide, by decide, (Or.inr ⟨x_v240.1, by omega, by omega, (by first | (refine g20.tr x_v240.2.2.2) | (refine g70.tr (GL_nx (fun _ _ => st_xY x_v760.2.2.1) x_v760.2.1)) | (refine g169.tr x_v1710.2.2.2))⟩), Or.inl (by decide), (by omega)⟩) dX3_readUnit_39
      · skip
        have tc27 := f_eq (k := 0) (by decide) c27
        clear x_v240
        replace x_v241 := x_v241.resolve_left (fun q9 => q9 tc27)
        refine lv_iconst (v := 0) hx hb dX3_readUnit_30 (by decide) ?_
        have z9_0 : (0 : Int32).toInt = 0 := by decide
        exact te_z hx hb hr hlocks (by rfl) hH hS (⟨n24_0_2, n24_0_3, n24_0_4, n24_0_5, n24_0_6, n24_0_7, rfl, by decide, by decide, Or.inl (by decide), (Or.inr (by first | (refine BL_f (fun _ _ => st_uND ?_) x_v140 (by decide) x_v141 ?_ <;> omega) | (refine g20.bd x_v241) | (refine BL_f (fun _ _ => st_uBD ?_) x_v540 (by decide) x_v541 ?_ <;> omega) | (refine g60.bd (BL.cons x_v641)) | (refine g70.bd (BL_f (fun _ _ => st_xN x_v761.1) x_v761.2.1 (by decide) x_v761.2.2 ?_); omega) | (refine g88.bd (BL.cons x_v901)) | (refine g98.bd (BL_f (fun _ _ => st_cN ?_) x_v1580 (by decide) x_v1581 ?_) <;> omega) | (refine g169.bd x_v1711))), (by omega)⟩) dX3_readUnit_31
set_option maxHeartbeats 4000000 in
set_option maxRecDepth 100000 in
theorem s_LR_readBoth2 (l : Launch) (D : va_G) (cs : CS) (kf : KF) (T : TF) (O : List Nat) (X : va_W) (a0 : Nat) (x1 : Int32) (y0 : Nat) (y1 : Int32) (y2 : Int32) (y3 : Int32) (y4 : Int32) (y5 : Int32) (y6 : Int32) (y7 : Int32) (ft : Nat → Int32) (t : Tp) (tn : Nat) (tk : Nat) (t_a0 : T a0 = some (13, 0, 0)) (l_x1 : 2 ≤ x1.toInt) (u_x1 : x1.toInt ≤ 2) (t_y0 : T y0 = some (0, 900, 0)) (l_y1 : 0 ≤ y1.toInt) (u_y1 : y1.toInt ≤ 900) (l_y2 : 0 ≤ y2.toInt) (u_y2 : y2.toInt ≤ 900) (l_y3 : 0 ≤ y3.toInt) (u_y3 : y3.toInt ≤ 900) (hn : y1.toInt = (tn : Int)) (htb : TB ft t) (hto : TSS t tn y2 y3 y4 y5) (t_tk : T tk = some (17, 0, 0)) (hU7 : ∀ (b : Nat) (q : Nat), T b = some (17, 0, q) → b = tk) (hz : y6.toInt = 0) (hO : okO T (tk :: y0 :: O) [1, 13]) : TK l D cs kf yX3_readBoth cX3_readBoth 5 (some (.boolean)) { frames := 22, cells := 0, slots := 0, locals := 498 } [.ref a0, .int x1] T (tk :: y0 :: O) ((tk, .inr (7, [.ref y0, .int y1, .int y2, .int y3, .int y4, .int y5, .int y6, .int y7])) :: (y0, .inl (cs.1, 900, .inl ft)) :: X) (Ti D cs (fun r u => ∃ (n0_2 : Int32) (n0_3 : Int32) (n0_4 : Int32) (n0_5 : Int32) (n0_6 : Int32) (n0_7 : Int32), u = (T, tk :: y0 :: O, (tk, .inr (7, [.ref y0, .int y1, .int n0_2, .int n0_3, .int n0_4, .int n0_5, .int n0_6, .int n0_7])) :: (y0, .inl (cs.1, 900, .inl ft)) :: X) ∧ 0 ≤ r.toInt ∧ r.toInt ≤ 1 ∧ (r.toInt = 0 ∨ (TSS t tn n0_2 n0_3 n0_4 n0_5 ∧ n0_6.toInt = 0 ∧ n0_7.toInt = y7.toInt ∧ GL t tn [(6, 2)] [] y2 n0_2)) ∧ (r.toInt ≠ 0 ∨ BL t tn [(6, 2)] y2 n0_6 n0_7) ∧ (y2.toInt ≤ n0_2.toInt ∧ n0_2.toInt ≤ n0_3.toInt ∧ n0_3.toInt ≤ y1.toInt))) := by
  refine tk_of (by decide) (Nat.le_of_ble_eq_true rfl) (fun p e s m below meth c ls A H locs hx hb hr hml hown hts hlocks hnm hkb hH hS hA hOX hks hE hl => ?_)
  have hown : s.vm.findClass RX3 = some m.cls := hown
  have hl : lv_has ls 5 [(0, .ref a0), (1, .int x1)] := hl
  have hOXf := hOX
  have hb9 := hto.b
  have hc9 := hto.cs
  refine lv_aload_n hx hb dX3_readBoth_0 rfl (lv_at hl 0 rfl) ?_
  refine lv_iload_n hx hb dX3_readBoth_1 rfl (lv_at hl 1 rfl) ?_
  refine tk_i hH hS hA (tr_V (n := 1) (As := [.int x1]) hx hb hml hown hts hkb hH (ox_map hOX rfl) hks hE hS hA (s_LR_readUnit2 l D cs kf T O X a0 x1 y0 y1 y2 y3 y4 y5 y6 y7 ft t tn tk t_a0 (by omega) (by omega) t_y0 (by omega) (by omega) (by omega) (by omega) (by omega) (by omega) (by omega) htb hto t_tk hU7 (by omega) (hO.sub (by decide))) kw_630 kw_632 ks_7 kw_4 kw_633 (by decide +kernel) ⟨Nat.le_of_ble_eq_true rfl, Nat.le_of_ble_eq_true rfl⟩ (HT.recv (ci := 3) hkb hH t_a0 (hO.no t_a0 (by decide)) rfl) rfl rfl hl.1 (Nat.le_of_ble_eq_true rfl) dX3_readBoth_2 ⟨Nat.le_of_ble_eq_true rfl, Nat.le_of_ble_eq_true rfl⟩) (fun v2 u H locs hz9 hH hS => ?_)
  obtain ⟨n2_0_2, n2_0_3, n2_0_4, n2_0_5, n2_0_6, n2_0_7, rfl, l_v2, u_v2, x_v20, x_v21, x_v22⟩ := hz9
  have hH : HT D cs A T (tk :: y0 :: O) ((tk, .inr (7, [.ref y0, .int y1, .int n2_0_2, .int n2_0_3, .int n2_0_4, .int n2_0_5, .int n2_0_6, .int n2_0_7])) :: (y0, .inl (cs.1, 900, .inl ft)) :: X) H := hH
  refine W.widen (k := 0) (n := 0) (Nat.le_of_ble_eq_true rfl) (Nat.le_of_ble_eq_true rfl) ?_
  refine lv_istore_n (lv' := [(2, .int v2), (0, .ref a0), (1, .int x1)]) hx hb dX3_readBoth_5 rfl hl (by decide) rfl (fun ls hl => ?_)
  refine lv_iconst (v := 0) hx hb dX3_readBoth_6 (by decide) ?_
  have J8 : ∀ (n : Nat) (p8_3 : Int32) (p8_2 : Int32) (f8_102 : Int32) (f8_103 : Int32) (f8_104 : Int32) (f8_105 : Int32) (f8_106 : Int32) (f8_107 : Int32) (H : Heap) (locs : List Loc) (ls : Array Slot), (900 - p8_3.toInt).toNat = n → (0 ≤ p8_3.toInt) → (p8_3.toInt ≤ 900) → (0 ≤ p8_2.toInt) → (p8_2.toInt ≤ 1) → (0 ≤ f8_102.toInt) → (f8_102.toInt ≤ 900) → (0 ≤ f8_103.toInt) → (f8_103.toInt ≤ 900) → (LTI t tn [(6, 2)] [(7, 2)] y2 p8_2 f8_102 f8_103 f8_104 f8_105 f8_106 f8_107 y7) → (y2.toInt ≤ f8_102.toInt ∧ f8_102.toInt ≤ f8_103.toInt ∧ f8_103.toInt ≤ y1.toInt) → (p8_2.toInt = 0 ∨ p8_3.toInt ≤ f8_102.toInt) → HT D cs A T (tk :: y0 :: O) ((tk, .inr (7, [.ref y0, .int y1, .int f8_102, .int f8_103, .int f8_104, .int f8_105, .int f8_106, .int f8_107])) :: (y0, .inl (cs.1, 900, .inl ft)) :: X) H → va_S A s.heap H locs → lv_has ls 5 [(3, .int p8_3), (2, .int p8_2), (0, .ref a0), (1, .int x1)] → W p l e { frames := 22, cells := 0, slots := 0, locals := 498 } s m [.ref a0, .int x1].toArray below meth c H locs 0 0 (MQ below (Ti D cs (fun r u => ∃ (n0_2 : Int32) (n0_3 : Int32) (n0_4 : Int32) (n0_5 : Int32) (n0_6 : Int32) (n0_7 : Int32), u = (T, tk :: y0 :: O, (tk, .inr (7, [.ref y0, .int y1, .int n0_2, .int n0_3, .int n0_4, .int n0_5, .int n0_6, .int n0_7])) :: (y0, .inl (cs.1, 900, .inl ft)) :: X) ∧ 0 ≤ r.toInt ∧ r.toInt ≤ 1 ∧ (r.toInt = 0 ∨ (TSS t tn n0_2 n0_3 n0_4 n0_5 ∧ n0_6.toInt = 0 ∧ n0_7.toInt = y7.toInt ∧ GL t tn [(6, 2)] [] y2 n0_2)) ∧ (r.toInt ≠ 0 ∨ BL t tn [(6, 2)] y2 n0_6 n0_7) ∧ (y2.toInt ≤ n0_2.toInt ∧ n0_2.toInt ≤ n0_3.toInt ∧ n0_3.toInt ≤ y1.toInt)) A) [.ref a0, .int x1].toArray s 0 0 A) (F0 m 8 ls []) := by
    intro n
    induction n using Nat.strongRecOn with
    | _ n ih8 =>
      intro p8_3 p8_2 f8_102 f8_103 f8_104 f8_105 f8_106 f8_107 H locs ls hm8 l_p8_3 u_p8_3 l_p8_2 u_p8_2 l_f8_102 u_f8_102 l_f8_103 u_f8_103 i8t i8n i8c hH hS hl
      refine lv_iload_n hx hb dX3_readBoth_8 rfl (lv_at hl 0 rfl) ?_
      refine lv_sipush (v := 900) hx hb dX3_readBoth_9 (by decide) ?_
      refine lv_icmp_ge (tgt := 68) hx hb dX3_readBoth_12 (by decide) (fun c12 => ?_) (fun c12 => ?_)
      · skip
        have tc12 := f_ge (k := 900) (by decide) c12
        have hk9 : p8_2.toInt = 0 ∨ GL t tn [(7, 2)] [] f8_102 f8_102 := by first | (refine Or.inl ?_; omega) | exact Or.inr (fun _ _ => st_bN x_v251) | (by_cases q9 : p8_2.toInt = 0; exact Or.inl q9; refine Or.inr (fun _ _ => st_bN ?_); have q8 := LTI.ok i8t q9; have q7 := q8.1.b; rw [kd_end (by omega)]; decide)
        have hz9 := LTI.en i8t hk9
        refine lv_iload_n hx hb dX3_readBoth_68 rfl (lv_at hl 1 rfl) ?_
        exact te_z hx hb hr hlocks (nar01 (by omega) (by omega)) hH hS (⟨f8_102, f8_103, f8_104, f8_105, f8_106, f8_107, rfl, by omega, by omega, hz9.1, hz9.2, (by omega)⟩) dX3_readBoth_69
      · skip
        have tc12 := f_nge (k := 900) (by decide) c12
        refine lv_iload_n hx hb dX3_readBoth_15 rfl (lv_at hl 1 rfl) ?_
        refine lv_if_eq (tgt := 68) hx hb dX3_readBoth_16 (by decide) (fun c16 => ?_) (fun c16 => ?_)
        · skip
          have tc16 := f_eq (k := 0) (by decide) c16
          have hk9 : p8_2.toInt = 0 ∨ GL t tn [(7, 2)] [] f8_102 f8_102 := by first | (refine Or.inl ?_; omega) | exact Or.inr (fun _ _ => st_bN x_v251) | (by_cases q9 : p8_2.toInt = 0; exact Or.inl q9; refine Or.inr (fun _ _ => st_bN ?_); have q8 := LTI.ok i8t q9; have q7 := q8.1.b; rw [kd_end (by omega)]; decide)
          have hz9 := LTI.en i8t hk9
          refine lv_iload_n hx hb dX3_readBoth_68 rfl (lv_at hl 1 rfl) ?_
          exact te_z hx hb hr hlocks (nar01 (by omega) (by omega)) hH hS (⟨f8_102, f8_103, f8_104, f8_105, f8_106, f8_107, rfl, by omega, by omega, hz9.1, hz9.2, (by omega)⟩) dX3_readBoth_69
        · skip
          have tc16 := f_ne (k := 0) (by decide) c16
          have h19 := LTI.ok i8t (by omega)
          have hb19 := h19.1.b
          have hc19 := h19.1.cs
          refine lv_aload_n hx hb dX3_readBoth_19 rfl (lv_at hl 2 rfl) ?_
          refine t_get (ci := 3) (lst := ft3 0 0) (C := RX3) (F := TX3) (N := 3) hx hb hts uX3 hown hkb hH t_a0 (hO.no t_a0 (by decide)) (fun _ h9 => h9) rfl rfl 0 (by decide) rfl kw_82 (fun _ h9 => h9) dX3_readBoth_20 (fun v9 h9 => ?_)
          obtain ⟨v20, rfl, t_v20⟩ := h9
          have e9 := (hU7 _ _ t_v20).symm
          subst e9
          refine va_ldcS (q := kf.1 15) hx hb hown (hks ("FootholdWall$LawReader", 63, "and", 15) (by decide +kernel)) dX3_readBoth_23 ?_
          refine tk_i hH hS hA (tr_V (n := 1) (As := [.ref (kf.1 15)]) hx hb hml hown hts hkb hH (ox_map hOX rfl) hks hE hS hA (s_Tok_isWord l D cs kf T O X tk 15 y0 y1 f8_102 f8_103 f8_104 f8_105 f8_106 f8_107 ft t tn 14 t_tk (by decide) t_y0 (by omega) (by omega) (by omega) (by omega) (by omega) (by omega) (by omega) htb h19.1 (by decide) (by decide) (hO.sub (by decide))) kw_635 kw_551 kw_552 kw_3 kw_553 (by decide +kernel) ⟨Nat.le_of_ble_eq_true rfl, Nat.le_of_ble_eq_true rfl⟩ (x_recv (ci := 7) hkb hH 0 rfl rfl) rfl rfl hl.1 (Nat.le_of_ble_eq_true rfl) dX3_readBoth_25 ⟨Nat.le_of_ble_eq_true rfl, Nat.le_of_ble_eq_true rfl⟩) (fun v25 u H locs hz9 hH hS => ?_)
          obtain ⟨rfl, l_v25, u_v25, x_v250, x_v251⟩ := hz9
          have hH : HT D cs A T (tk :: y0 :: O) ((tk, .inr (7, [.ref y0, .int y1, .int f8_102, .int f8_103, .int f8_104, .int f8_105, .int f8_106, .int f8_107])) :: (y0, .inl (cs.1, 900, .inl ft)) :: X) H := hH
          refine W.widen (k := 0) (n := 0) (Nat.le_of_ble_eq_true rfl) (Nat.le_of_ble_eq_true rfl) ?_
          refine lv_if_eq (tgt := 68) hx hb dX3_readBoth_28 (by decide) (fun c28 => ?_) (fun c28 => ?_)
          · skip
            have tc28 := f_eq (k := 0) (by decide) c28
            clear x_v250
            replace x_v251 := x_v251.resolve_left (fun q9 => q9 tc28)
            have hk9 : p8_2.toInt = 0 ∨ GL t tn [(7, 2)] [] f8_102 f8_102 := by first | (refine Or.inl ?_; omega) | exact Or.inr (fun _ _ => st_bN x_v251) | (by_cases q9 : p8_2.toInt = 0; exact Or.inl q9; refine Or.inr (fun _ _ => st_bN ?_); have q8 := LTI.ok i8t q9; have q7 := q8.1.b; rw [kd_end (by omega)]; decide)
            have hz9 := LTI.en i8t hk9
            refine lv_iload_n hx hb dX3_readBoth_68 rfl (lv_at hl 1 rfl) ?_
            exact te_z hx hb hr hlocks (nar01 (by omega) (by omega)) hH hS (⟨f8_102, f8_103, f8_104, f8_105, f8_106, f8_107, rfl, by omega, by omega, hz9.1, hz9.2, (by omega)⟩) dX3_readBoth_69
          · skip
            have tc28 := f_ne (k := 0) (by decide) c28
            replace x_v250 := x_v250.resolve_left tc28
            clear x_v251
            refine lv_aload_n hx hb dX3_readBoth_31 rfl (lv_at hl 2 rfl) ?_
            refine t_get (ci := 3) (lst := ft3 0 0) (C := RX3) (F := TX3) (N := 3) hx hb hts uX3 hown hkb hH t_a0 (hO.no t_a0 (by decide)) (fun _ h9 => h9) rfl rfl 0 (by decide) rfl kw_82 (fun _ h9 => h9) dX3_readBoth_32 (fun v9 h9 => ?_)
            obtain ⟨v32, rfl, t_v32⟩ := h9
            have e9 := (hU7 _ _ t_v32).symm
            subst e9
            have hl9 := h19.1.lt (by omega)
            refine tk_v hH hS hA (tr_V (n := 0) (As := []) hx hb hml hown hts hkb hH (ox_map hOX rfl) hks hE hS hA (s_Tok_go l D cs kf T O X tk y0 y1 f8_102 f8_103 f8_104 f8_105 f8_106 f8_107 ft t tn t_tk t_y0 (by omega) (by omega) (by omega) (by omega) (by omega) (by omega) (by omega) htb (by have q9 := (h19.1).b; omega) (hO.sub (by decide))) kw_641 kw_453 kw_454 kw_3 kw_455 (by decide +kernel) ⟨Nat.le_of_ble_eq_true rfl, Nat.le_of_ble_eq_true rfl⟩ (x_recv (ci := 7) hkb hH 0 rfl rfl) rfl rfl hl.1 (Nat.le_of_ble_eq_true rfl) dX3_readBoth_35 ⟨Nat.le_of_ble_eq_true rfl, Nat.le_of_ble_eq_true rfl⟩) (fun u H locs hz9 hH hS => ?_)
            obtain ⟨n35_0_2, n35_0_3, n35_0_4, n35_0_5, rfl, x_v350, x_v351, x_v352⟩ := hz9
            have px35 := TSS.nx h19.1 x_v351
            have hH : HT D cs A T (tk :: y0 :: O) ((tk, .inr (7, [.ref y0, .int y1, .int n35_0_2, .int n35_0_3, .int n35_0_4, .int n35_0_5, .int f8_106, .int f8_107])) :: (y0, .inl (cs.1, 900, .inl ft)) :: X) H := hH
            refine W.widen (k := 0) (n := 0) (Nat.le_of_ble_eq_true rfl) (Nat.le_of_ble_eq_true rfl) ?_
            refine lv_aload_n hx hb dX3_readBoth_38 rfl (lv_at hl 2 rfl) ?_
            refine t_get (ci := 3) (lst := ft3 0 0) (C := RX3) (F := TX3) (N := 3) hx hb hts uX3 hown hkb hH t_a0 (hO.no t_a0 (by decide)) (fun _ h9 => h9) rfl rfl 2 (by decide) rfl kw_84 (fun _ h9 => h9) dX3_readBoth_39 (fun v9 h9 => ?_)
            obtain ⟨v39, rfl, l_v39, u_v39⟩ := h9
            refine lv_istore (lv' := [(4, .int v39), (3, .int p8_3), (2, .int p8_2), (0, .ref a0), (1, .int x1)]) hx hb dX3_readBoth_42 hl (by decide) rfl (fun ls hl => ?_)
            refine lv_aload_n hx hb dX3_readBoth_44 rfl (lv_at hl 3 rfl) ?_
            refine lv_iconst (v := 3) hx hb dX3_readBoth_45 (by decide) ?_
            refine lv_iconst (v := 0) hx hb dX3_readBoth_46 (by decide) ?_
            refine tk_v hH hS hA (tr_V (n := 2) (As := [.int 3, .int 0]) hx hb hml hown hts hkb hH (ox_map hOX rfl) hks hE hS hA (s_LR_put l D cs kf T (tk :: y0 :: O) ((tk, .inr (7, [.ref y0, .int y1, .int n35_0_2, .int n35_0_3, .int n35_0_4, .int n35_0_5, .int f8_106, .int f8_107])) :: (y0, .inl (cs.1, 900, .inl ft)) :: X) a0 (3) (0) t_a0 (hO.sub (by decide))) kw_642 kw_644 ks_9 kw_4 kw_645 (by decide +kernel) ⟨Nat.le_of_ble_eq_true rfl, Nat.le_of_ble_eq_true rfl⟩ (HT.recv (ci := 3) hkb hH t_a0 (hO.no t_a0 (by decide)) rfl) rfl rfl hl.1 (Nat.le_of_ble_eq_true rfl) dX3_readBoth_47 ⟨Nat.le_of_ble_eq_true rfl, Nat.le_of_ble_eq_true rfl⟩) (fun u H locs hz9 hH hS => ?_)
            have hz9 : u = (T, tk :: y0 :: O, (tk, .inr (7, [.ref y0, .int y1, .int n35_0_2, .int n35_0_3, .int n35_0_4, .int n35_0_5, .int f8_106, .int f8_107])) :: (y0, .inl (cs.1, 900, .inl ft)) :: X) := hz9
            subst hz9
            have hH : HT D cs A T (tk :: y0 :: O) ((tk, .inr (7, [.ref y0, .int y1, .int n35_0_2, .int n35_0_3, .int n35_0_4, .int n35_0_5, .int f8_106, .int f8_107])) :: (y0, .inl (cs.1, 900, .inl ft)) :: X) H := hH
            refine W.widen (k := 0) (n := 0) (Nat.le_of_ble_eq_true rfl) (Nat.le_of_ble_eq_true rfl) ?_
            refine lv_aload_n hx hb dX3_readBoth_50 rfl (lv_at hl 3 rfl) ?_
            refine lv_iload_n hx hb dX3_readBoth_51 rfl (lv_at hl 4 rfl) ?_
            refine tk_i hH hS hA (tr_V (n := 1) (As := [.int x1]) hx hb hml hown hts hkb hH (ox_map hOX rfl) hks hE hS hA (s_LR_readUnit2 l D cs kf T O X a0 x1 y0 y1 n35_0_2 n35_0_3 n35_0_4 n35_0_5 f8_106 f8_107 ft t tn tk t_a0 (by omega) (by omega) t_y0 (by omega) (by omega) (by omega) (by omega) (by omega) (by omega) (by omega) htb x_v350 t_tk hU7 (by omega) (hO.sub (by decide))) kw_630 kw_632 ks_7 kw_4 kw_633 (by decide +kernel) ⟨Nat.le_of_ble_eq_true rfl, Nat.le_of_ble_eq_true rfl⟩ (HT.recv (ci := 3) hkb hH t_a0 (hO.no t_a0 (by decide)) rfl) rfl rfl hl.1 (Nat.le_of_ble_eq_true rfl) dX3_readBoth_52 ⟨Nat.le_of_ble_eq_true rfl, Nat.le_of_ble_eq_true rfl⟩) (fun v52 u H locs hz9 hH hS => ?_)
            obtain ⟨n52_0_2, n52_0_3, n52_0_4, n52_0_5, n52_0_6, n52_0_7, rfl, l_v52, u_v52, x_v520, x_v521, x_v522⟩ := hz9
            have hH : HT D cs A T (tk :: y0 :: O) ((tk, .inr (7, [.ref y0, .int y1, .int n52_0_2, .int n52_0_3, .int n52_0_4, .int n52_0_5, .int n52_0_6, .int n52_0_7])) :: (y0, .inl (cs.1, 900, .inl ft)) :: X) H := hH
            refine W.widen (k := 0) (n := 0) (Nat.le_of_ble_eq_true rfl) (Nat.le_of_ble_eq_true rfl) ?_
            refine lv_istore_n (lv' := [(2, .int v52), (4, .int v39), (3, .int p8_3), (0, .ref a0), (1, .int x1)]) hx hb dX3_readBoth_55 rfl hl (by decide) rfl (fun ls hl => ?_)
            refine lv_aload_n hx hb dX3_readBoth_56 rfl (lv_at hl 3 rfl) ?_
            refine lv_iload hx hb dX3_readBoth_57 (lv_at hl 1 rfl) ?_
            refine tk_v hH hS hA (tr_V (n := 1) (As := [.int v39]) hx hb hml hown hts hkb hH (ox_map hOX rfl) hks hE hS hA (s_LR_aimSkip l D cs kf T (tk :: y0 :: O) ((tk, .inr (7, [.ref y0, .int y1, .int n52_0_2, .int n52_0_3, .int n52_0_4, .int n52_0_5, .int n52_0_6, .int n52_0_7])) :: (y0, .inl (cs.1, 900, .inl ft)) :: X) a0 v39 t_a0 (hO.sub (by decide))) kw_672 kw_674 ks_14 kw_4 kw_675 (by decide +kernel) ⟨Nat.le_of_ble_eq_true rfl, Nat.le_of_ble_eq_true rfl⟩ (HT.recv (ci := 3) hkb hH t_a0 (hO.no t_a0 (by decide)) rfl) rfl rfl hl.1 (Nat.le_of_ble_eq_true rfl) dX3_readBoth_59 ⟨Nat.le_of_ble_eq_true rfl, Nat.le_of_ble_eq_true rfl⟩) (fun u H locs hz9 hH hS => ?_)
            have hz9 : u = (T, tk :: y0 :: O, (tk, .inr (7, [.ref y0, .int y1, .int n52_0_2, .int n52_0_3, .int n52_0_4, .int n52_0_5, .int n52_0_6, .int n52_0_7])) :: (y0, .inl (cs.1, 900, .inl ft)) :: X) := hz9
            subst hz9
            have hH : HT D cs A T (tk :: y0 :: O) ((tk, .inr (7, [.ref y0, .int y1, .int n52_0_2, .int n52_0_3, .int n52_0_4, .int n52_0_5, .int n52_0_6, .int n52_0_7])) :: (y0, .inl (cs.1, 900, .inl ft)) :: X) H := hH
            refine W.widen (k := 0) (n := 0) (Nat.le_of_ble_eq_true rfl) (Nat.le_of_ble_eq_true rfl) ?_
            obtain ⟨v62, ev62⟩ : ∃ y : Int32, y = p8_3 + 1 := ⟨_, rfl⟩
            have tv62 : v62.toInt = p8_3.toInt + (1) := by rw [ev62]; exact add_i rfl (by decide) (by omega) (by omega)
            refine lv_iinc (v := v62) (lv' := [(3, .int v62), (2, .int v52), (4, .int v39), (0, .ref a0), (1, .int x1)]) hx hb dX3_readBoth_62 hl (k := 2) rfl (by rw [ev62]; rfl) (by decide) rfl (fun ls hl => ?_)
            refine lv_goto (tgt := 8) hx hb dX3_readBoth_65 (by decide) ?_
            exact ih8 _ (by omega) v62 v52 n52_0_2 n52_0_3 n52_0_4 n52_0_5 n52_0_6 n52_0_7 _ _ _ rfl (by omega) (by omega) (by omega) (by omega) (by omega) (by omega) (by omega) (by omega) (by first | (refine LTI.st (fun _ _ => st_b) x_v20 x_v21 l_v2 u_v2 rfl) | (refine LTI.st (h19.2.2.2.tr (GL_nx (fun _ _ => st_bY x_v250) px35)) x_v520 x_v521 l_v52 u_v52 ?_; omega)) (by omega) (by omega) hH hS (lv_sub hl [0, 1, 3, 4] rfl)
  refine lv_istore_n (lv' := [(3, .int 0), (2, .int v2), (0, .ref a0), (1, .int x1)]) hx hb dX3_readBoth_7 rfl hl (by decide) rfl (fun ls hl => ?_)
  have z_0 : (0 : Int32).toInt = 0 := by decide
  exact J8 _ 0 v2 n2_0_2 n2_0_3 n2_0_4 n2_0_5 n2_0_6 n2_0_7 _ _ _ rfl (by decide) (by decide) (by omega) (by omega) (by omega) (by omega) (by omega) (by omega) (by first | (refine LTI.st (fun _ _ => st_b) x_v20 x_v21 l_v2 u_v2 rfl) | (refine LTI.st (h19.2.2.2.tr (GL_nx (fun _ _ => st_bY x_v250) px35)) x_v520 x_v521 l_v52 u_v52 ?_; omega)) (by omega) (by omega) hH hS (lv_sub hl [0, 1, 2, 3] rfl)
set_option maxHeartbeats 4000000 in
set_option maxRecDepth 100000 in
theorem s_LR_readTruth2 (l : Launch) (D : va_G) (cs : CS) (kf : KF) (T : TF) (O : List Nat) (X : va_W) (a0 : Nat) (x1 : Int32) (y0 : Nat) (y1 : Int32) (y2 : Int32) (y3 : Int32) (y4 : Int32) (y5 : Int32) (y6 : Int32) (y7 : Int32) (ft : Nat → Int32) (t : Tp) (tn : Nat) (tk : Nat) (t_a0 : T a0 = some (13, 0, 0)) (l_x1 : 2 ≤ x1.toInt) (u_x1 : x1.toInt ≤ 2) (t_y0 : T y0 = some (0, 900, 0)) (l_y1 : 0 ≤ y1.toInt) (u_y1 : y1.toInt ≤ 900) (l_y2 : 0 ≤ y2.toInt) (u_y2 : y2.toInt ≤ 900) (l_y3 : 0 ≤ y3.toInt) (u_y3 : y3.toInt ≤ 900) (hn : y1.toInt = (tn : Int)) (htb : TB ft t) (hto : TSS t tn y2 y3 y4 y5) (t_tk : T tk = some (17, 0, 0)) (hU7 : ∀ (b : Nat) (q : Nat), T b = some (17, 0, q) → b = tk) (hz : y6.toInt = 0) (hO : okO T (tk :: y0 :: O) [1, 13]) : TK l D cs kf yX3_readTruth cX3_readTruth 5 (some (.boolean)) { frames := 23, cells := 0, slots := 0, locals := 522 } [.ref a0, .int x1] T (tk :: y0 :: O) ((tk, .inr (7, [.ref y0, .int y1, .int y2, .int y3, .int y4, .int y5, .int y6, .int y7])) :: (y0, .inl (cs.1, 900, .inl ft)) :: X) (Ti D cs (fun r u => ∃ (n0_2 : Int32) (n0_3 : Int32) (n0_4 : Int32) (n0_5 : Int32) (n0_6 : Int32) (n0_7 : Int32), u = (T, tk :: y0 :: O, (tk, .inr (7, [.ref y0, .int y1, .int n0_2, .int n0_3, .int n0_4, .int n0_5, .int n0_6, .int n0_7])) :: (y0, .inl (cs.1, 900, .inl ft)) :: X) ∧ 0 ≤ r.toInt ∧ r.toInt ≤ 1 ∧ (r.toInt = 0 ∨ (TSS t tn n0_2 n0_3 n0_4 n0_5 ∧ n0_6.toInt = 0 ∧ n0_7.toInt = y7.toInt ∧ GL t tn [(8, 2)] [] y2 n0_2)) ∧ (r.toInt ≠ 0 ∨ BL t tn [(8, 2)] y2 n0_6 n0_7) ∧ (y2.toInt ≤ n0_2.toInt ∧ n0_2.toInt ≤ n0_3.toInt ∧ n0_3.toInt ≤ y1.toInt))) := by
  refine tk_of (by decide) (Nat.le_of_ble_eq_true rfl) (fun p e s m below meth c ls A H locs hx hb hr hml hown hts hlocks hnm hkb hH hS hA hOX hks hE hl => ?_)
  have hown : s.vm.findClass RX3 = some m.cls := hown
  have hl : lv_has ls 5 [(0, .ref a0), (1, .int x1)] := hl
  have hOXf := hOX
  have hb9 := hto.b
  have hc9 := hto.cs
  refine lv_aload_n hx hb dX3_readTruth_0 rfl (lv_at hl 0 rfl) ?_
  refine lv_iload_n hx hb dX3_readTruth_1 rfl (lv_at hl 1 rfl) ?_
  refine tk_i hH hS hA (tr_V (n := 1) (As := [.int x1]) hx hb hml hown hts hkb hH (ox_map hOX rfl) hks hE hS hA (s_LR_readBoth2 l D cs kf T O X a0 x1 y0 y1 y2 y3 y4 y5 y6 y7 ft t tn tk t_a0 (by omega) (by omega) t_y0 (by omega) (by omega) (by omega) (by omega) (by omega) (by omega) (by omega) htb hto t_tk hU7 (by omega) (hO.sub (by decide))) kw_626 kw_628 ks_6 kw_4 kw_629 (by decide +kernel) ⟨Nat.le_of_ble_eq_true rfl, Nat.le_of_ble_eq_true rfl⟩ (HT.recv (ci := 3) hkb hH t_a0 (hO.no t_a0 (by decide)) rfl) rfl rfl hl.1 (Nat.le_of_ble_eq_true rfl) dX3_readTruth_2 ⟨Nat.le_of_ble_eq_true rfl, Nat.le_of_ble_eq_true rfl⟩) (fun v2 u H locs hz9 hH hS => ?_)
  obtain ⟨n2_0_2, n2_0_3, n2_0_4, n2_0_5, n2_0_6, n2_0_7, rfl, l_v2, u_v2, x_v20, x_v21, x_v22⟩ := hz9
  have hH : HT D cs A T (tk :: y0 :: O) ((tk, .inr (7, [.ref y0, .int y1, .int n2_0_2, .int n2_0_3, .int n2_0_4, .int n2_0_5, .int n2_0_6, .int n2_0_7])) :: (y0, .inl (cs.1, 900, .inl ft)) :: X) H := hH
  refine W.widen (k := 0) (n := 0) (Nat.le_of_ble_eq_true rfl) (Nat.le_of_ble_eq_true rfl) ?_
  refine lv_istore_n (lv' := [(2, .int v2), (0, .ref a0), (1, .int x1)]) hx hb dX3_readTruth_5 rfl hl (by decide) rfl (fun ls hl => ?_)
  refine lv_iconst (v := 0) hx hb dX3_readTruth_6 (by decide) ?_
  have J8 : ∀ (n : Nat) (p8_3 : Int32) (p8_2 : Int32) (f8_102 : Int32) (f8_103 : Int32) (f8_104 : Int32) (f8_105 : Int32) (f8_106 : Int32) (f8_107 : Int32) (H : Heap) (locs : List Loc) (ls : Array Slot), (900 - p8_3.toInt).toNat = n → (0 ≤ p8_3.toInt) → (p8_3.toInt ≤ 900) → (0 ≤ p8_2.toInt) → (p8_2.toInt ≤ 1) → (0 ≤ f8_102.toInt) → (f8_102.toInt ≤ 900) → (0 ≤ f8_103.toInt) → (f8_103.toInt ≤ 900) → (LTI t tn [(8, 2)] [(9, 2)] y2 p8_2 f8_102 f8_103 f8_104 f8_105 f8_106 f8_107 y7) → (y2.toInt ≤ f8_102.toInt ∧ f8_102.toInt ≤ f8_103.toInt ∧ f8_103.toInt ≤ y1.toInt) → (p8_2.toInt = 0 ∨ p8_3.toInt ≤ f8_102.toInt) → HT D cs A T (tk :: y0 :: O) ((tk, .inr (7, [.ref y0, .int y1, .int f8_102, .int f8_103, .int f8_104, .int f8_105, .int f8_106, .int f8_107])) :: (y0, .inl (cs.1, 900, .inl ft)) :: X) H → va_S A s.heap H locs → lv_has ls 5 [(3, .int p8_3), (2, .int p8_2), (0, .ref a0), (1, .int x1)] → W p l e { frames := 23, cells := 0, slots := 0, locals := 522 } s m [.ref a0, .int x1].toArray below meth c H locs 0 0 (MQ below (Ti D cs (fun r u => ∃ (n0_2 : Int32) (n0_3 : Int32) (n0_4 : Int32) (n0_5 : Int32) (n0_6 : Int32) (n0_7 : Int32), u = (T, tk :: y0 :: O, (tk, .inr (7, [.ref y0, .int y1, .int n0_2, .int n0_3, .int n0_4, .int n0_5, .int n0_6, .int n0_7])) :: (y0, .inl (cs.1, 900, .inl ft)) :: X) ∧ 0 ≤ r.toInt ∧ r.toInt ≤ 1 ∧ (r.toInt = 0 ∨ (TSS t tn n0_2 n0_3 n0_4 n0_5 ∧ n0_6.toInt = 0 ∧ n0_7.toInt = y7.toInt ∧ GL t tn [(8, 2)] [] y2 n0_2)) ∧ (r.toInt ≠ 0 ∨ BL t tn [(8, 2)] y2 n0_6 n0_7) ∧ (y2.toInt ≤ n0_2.toInt ∧ n0_2.toInt ≤ n0_3.toInt ∧ n0_3.toInt ≤ y1.toInt)) A) [.ref a0, .int x1].toArray s 0 0 A) (F0 m 8 ls []) := by
    intro n
    induction n using Nat.strongRecOn with
    | _ n ih8 =>
      intro p8_3 p8_2 f8_102 f8_103 f8_104 f8_105 f8_106 f8_107 H locs ls hm8 l_p8_3 u_p8_3 l_p8_2 u_p8_2 l_f8_102 u_f8_102 l_f8_103 u_f8_103 i8t i8n i8c hH hS hl
      refine lv_iload_n hx hb dX3_readTruth_8 rfl (lv_at hl 0 rfl) ?_
      refine lv_sipush (v := 900) hx hb dX3_readTruth_9 (by decide) ?_
      refine lv_icmp_ge (tgt := 68) hx hb dX3_readTruth_12 (by decide) (fun c12 => ?_) (fun c12 => ?_)
      · skip
        have tc12 := f_ge (k := 900) (by decide) c12
        have hk9 : p8_2.toInt = 0 ∨ GL t tn [(9, 2)] [] f8_102 f8_102 := by first | (refine Or.inl ?_; omega) | exact Or.inr (fun _ _ => st_rN x_v251) | (by_cases q9 : p8_2.toInt = 0; exact Or.inl q9; refine Or.inr (fun _ _ => st_rN ?_); have q8 := LTI.ok i8t q9; have q7 := q8.1.b; rw [kd_end (by omega)]; decide)
        have hz9 := LTI.en i8t hk9
        refine lv_iload_n hx hb dX3_readTruth_68 rfl (lv_at hl 1 rfl) ?_
        exact te_z hx hb hr hlocks (nar01 (by omega) (by omega)) hH hS (⟨f8_102, f8_103, f8_104, f8_105, f8_106, f8_107, rfl, by omega, by omega, hz9.1, hz9.2, (by omega)⟩) dX3_readTruth_69
      · skip
        have tc12 := f_nge (k := 900) (by decide) c12
        refine lv_iload_n hx hb dX3_readTruth_15 rfl (lv_at hl 1 rfl) ?_
        refine lv_if_eq (tgt := 68) hx hb dX3_readTruth_16 (by decide) (fun c16 => ?_) (fun c16 => ?_)
        · skip
          have tc16 := f_eq (k := 0) (by decide) c16
          have hk9 : p8_2.toInt = 0 ∨ GL t tn [(9, 2)] [] f8_102 f8_102 := by first | (refine Or.inl ?_; omega) | exact Or.inr (fun _ _ => st_rN x_v251) | (by_cases q9 : p8_2.toInt = 0; exact Or.inl q9; refine Or.inr (fun _ _ => st_rN ?_); have q8 := LTI.ok i8t q9; have q7 := q8.1.b; rw [kd_end (by omega)]; decide)
          have hz9 := LTI.en i8t hk9
          refine lv_iload_n hx hb dX3_readTruth_68 rfl (lv_at hl 1 rfl) ?_
          exact te_z hx hb hr hlocks (nar01 (by omega) (by omega)) hH hS (⟨f8_102, f8_103, f8_104, f8_105, f8_106, f8_107, rfl, by omega, by omega, hz9.1, hz9.2, (by omega)⟩) dX3_readTruth_69
        · skip
          have tc16 := f_ne (k := 0) (by decide) c16
          have h19 := LTI.ok i8t (by omega)
          have hb19 := h19.1.b
          have hc19 := h19.1.cs
          refine lv_aload_n hx hb dX3_readTruth_19 rfl (lv_at hl 2 rfl) ?_
          refine t_get (ci := 3) (lst := ft3 0 0) (C := RX3) (F := TX3) (N := 3) hx hb hts uX3 hown hkb hH t_a0 (hO.no t_a0 (by decide)) (fun _ h9 => h9) rfl rfl 0 (by decide) rfl kw_82 (fun _ h9 => h9) dX3_readTruth_20 (fun v9 h9 => ?_)
          obtain ⟨v20, rfl, t_v20⟩ := h9
          have e9 := (hU7 _ _ t_v20).symm
          subst e9
          refine va_ldcS (q := kf.1 16) hx hb hown (hks ("FootholdWall$LawReader", 41, "or", 16) (by decide +kernel)) dX3_readTruth_23 ?_
          refine tk_i hH hS hA (tr_V (n := 1) (As := [.ref (kf.1 16)]) hx hb hml hown hts hkb hH (ox_map hOX rfl) hks hE hS hA (s_Tok_isWord l D cs kf T O X tk 16 y0 y1 f8_102 f8_103 f8_104 f8_105 f8_106 f8_107 ft t tn 13 t_tk (by decide) t_y0 (by omega) (by omega) (by omega) (by omega) (by omega) (by omega) (by omega) htb h19.1 (by decide) (by decide) (hO.sub (by decide))) kw_635 kw_551 kw_552 kw_3 kw_553 (by decide +kernel) ⟨Nat.le_of_ble_eq_true rfl, Nat.le_of_ble_eq_true rfl⟩ (x_recv (ci := 7) hkb hH 0 rfl rfl) rfl rfl hl.1 (Nat.le_of_ble_eq_true rfl) dX3_readTruth_25 ⟨Nat.le_of_ble_eq_true rfl, Nat.le_of_ble_eq_true rfl⟩) (fun v25 u H locs hz9 hH hS => ?_)
          obtain ⟨rfl, l_v25, u_v25, x_v250, x_v251⟩ := hz9
          have hH : HT D cs A T (tk :: y0 :: O) ((tk, .inr (7, [.ref y0, .int y1, .int f8_102, .int f8_103, .int f8_104, .int f8_105, .int f8_106, .int f8_107])) :: (y0, .inl (cs.1, 900, .inl ft)) :: X) H := hH
          refine W.widen (k := 0) (n := 0) (Nat.le_of_ble_eq_true rfl) (Nat.le_of_ble_eq_true rfl) ?_
          refine lv_if_eq (tgt := 68) hx hb dX3_readTruth_28 (by decide) (fun c28 => ?_) (fun c28 => ?_)
          · skip
            have tc28 := f_eq (k := 0) (by decide) c28
            clear x_v250
            replace x_v251 := x_v251.resolve_left (fun q9 => q9 tc28)
            have hk9 : p8_2.toInt = 0 ∨ GL t tn [(9, 2)] [] f8_102 f8_102 := by first | (refine Or.inl ?_; omega) | exact Or.inr (fun _ _ => st_rN x_v251) | (by_cases q9 : p8_2.toInt = 0; exact Or.inl q9; refine Or.inr (fun _ _ => st_rN ?_); have q8 := LTI.ok i8t q9; have q7 := q8.1.b; rw [kd_end (by omega)]; decide)
            have hz9 := LTI.en i8t hk9
            refine lv_iload_n hx hb dX3_readTruth_68 rfl (lv_at hl 1 rfl) ?_
            exact te_z hx hb hr hlocks (nar01 (by omega) (by omega)) hH hS (⟨f8_102, f8_103, f8_104, f8_105, f8_106, f8_107, rfl, by omega, by omega, hz9.1, hz9.2, (by omega)⟩) dX3_readTruth_69
          · skip
            have tc28 := f_ne (k := 0) (by decide) c28
            replace x_v250 := x_v250.resolve_left tc28
            clear x_v251
            refine lv_aload_n hx hb dX3_readTruth_31 rfl (lv_at hl 2 rfl) ?_
            refine t_get (ci := 3) (lst := ft3 0 0) (C := RX3) (F := TX3) (N := 3) hx hb hts uX3 hown hkb hH t_a0 (hO.no t_a0 (by decide)) (fun _ h9 => h9) rfl rfl 0 (by decide) rfl kw_82 (fun _ h9 => h9) dX3_readTruth_32 (fun v9 h9 => ?_)
            obtain ⟨v32, rfl, t_v32⟩ := h9
            have e9 := (hU7 _ _ t_v32).symm
            subst e9
            have hl9 := h19.1.lt (by omega)
            refine tk_v hH hS hA (tr_V (n := 0) (As := []) hx hb hml hown hts hkb hH (ox_map hOX rfl) hks hE hS hA (s_Tok_go l D cs kf T O X tk y0 y1 f8_102 f8_103 f8_104 f8_105 f8_106 f8_107 ft t tn t_tk t_y0 (by omega) (by omega) (by omega) (by omega) (by omega) (by omega) (by omega) htb (by have q9 := (h19.1).b; omega) (hO.sub (by decide))) kw_641 kw_453 kw_454 kw_3 kw_455 (by decide +kernel) ⟨Nat.le_of_ble_eq_true rfl, Nat.le_of_ble_eq_true rfl⟩ (x_recv (ci := 7) hkb hH 0 rfl rfl) rfl rfl hl.1 (Nat.le_of_ble_eq_true rfl) dX3_readTruth_35 ⟨Nat.le_of_ble_eq_true rfl, Nat.le_of_ble_eq_true rfl⟩) (fun u H locs hz9 hH hS => ?_)
            obtain ⟨n35_0_2, n35_0_3, n35_0_4, n35_0_5, rfl, x_v350, x_v351, x_v352⟩ := hz9
            have px35 := TSS.nx h19.1 x_v351
            have hH : HT D cs A T (tk :: y0 :: O) ((tk, .inr (7, [.ref y0, .int y1, .int n35_0_2, .int n35_0_3, .int n35_0_4, .int n35_0_5, .int f8_106, .int f8_107])) :: (y0, .inl (cs.1, 900, .inl ft)) :: X) H := hH
            refine W.widen (k := 0) (n := 0) (Nat.le_of_ble_eq_true rfl) (Nat.le_of_ble_eq_true rfl) ?_
            refine lv_aload_n hx hb dX3_readTruth_38 rfl (lv_at hl 2 rfl) ?_
            refine t_get (ci := 3) (lst := ft3 0 0) (C := RX3) (F := TX3) (N := 3) hx hb hts uX3 hown hkb hH t_a0 (hO.no t_a0 (by decide)) (fun _ h9 => h9) rfl rfl 2 (by decide) rfl kw_84 (fun _ h9 => h9) dX3_readTruth_39 (fun v9 h9 => ?_)
            obtain ⟨v39, rfl, l_v39, u_v39⟩ := h9
            refine lv_istore (lv' := [(4, .int v39), (3, .int p8_3), (2, .int p8_2), (0, .ref a0), (1, .int x1)]) hx hb dX3_readTruth_42 hl (by decide) rfl (fun ls hl => ?_)
            refine lv_aload_n hx hb dX3_readTruth_44 rfl (lv_at hl 3 rfl) ?_
            refine lv_iconst (v := 4) hx hb dX3_readTruth_45 (by decide) ?_
            refine lv_iconst (v := 0) hx hb dX3_readTruth_46 (by decide) ?_
            refine tk_v hH hS hA (tr_V (n := 2) (As := [.int 4, .int 0]) hx hb hml hown hts hkb hH (ox_map hOX rfl) hks hE hS hA (s_LR_put l D cs kf T (tk :: y0 :: O) ((tk, .inr (7, [.ref y0, .int y1, .int n35_0_2, .int n35_0_3, .int n35_0_4, .int n35_0_5, .int f8_106, .int f8_107])) :: (y0, .inl (cs.1, 900, .inl ft)) :: X) a0 (4) (0) t_a0 (hO.sub (by decide))) kw_642 kw_644 ks_9 kw_4 kw_645 (by decide +kernel) ⟨Nat.le_of_ble_eq_true rfl, Nat.le_of_ble_eq_true rfl⟩ (HT.recv (ci := 3) hkb hH t_a0 (hO.no t_a0 (by decide)) rfl) rfl rfl hl.1 (Nat.le_of_ble_eq_true rfl) dX3_readTruth_47 ⟨Nat.le_of_ble_eq_true rfl, Nat.le_of_ble_eq_true rfl⟩) (fun u H locs hz9 hH hS => ?_)
            have hz9 : u = (T, tk :: y0 :: O, (tk, .inr (7, [.ref y0, .int y1, .int n35_0_2, .int n35_0_3, .int n35_0_4, .int n35_0_5, .int f8_106, .int f8_107])) :: (y0, .inl (cs.1, 900, .inl ft)) :: X) := hz9
            subst hz9
            have hH : HT D cs A T (tk :: y0 :: O) ((tk, .inr (7, [.ref y0, .int y1, .int n35_0_2, .int n35_0_3, .int n35_0_4, .int n35_0_5, .int f8_106, .int f8_107])) :: (y0, .inl (cs.1, 900, .inl ft)) :: X) H := hH
            refine W.widen (k := 0) (n := 0) (Nat.le_of_ble_eq_true rfl) (Nat.le_of_ble_eq_true rfl) ?_
            refine lv_aload_n hx hb dX3_readTruth_50 rfl (lv_at hl 3 rfl) ?_
            refine lv_iload_n hx hb dX3_readTruth_51 rfl (lv_at hl 4 rfl) ?_
            refine tk_i hH hS hA (tr_V (n := 1) (As := [.int x1]) hx hb hml hown hts hkb hH (ox_map hOX rfl) hks hE hS hA (s_LR_readBoth2 l D cs kf T O X a0 x1 y0 y1 n35_0_2 n35_0_3 n35_0_4 n35_0_5 f8_106 f8_107 ft t tn tk t_a0 (by omega) (by omega) t_y0 (by omega) (by omega) (by omega) (by omega) (by omega) (by omega) (by omega) htb x_v350 t_tk hU7 (by omega) (hO.sub (by decide))) kw_626 kw_628 ks_6 kw_4 kw_629 (by decide +kernel) ⟨Nat.le_of_ble_eq_true rfl, Nat.le_of_ble_eq_true rfl⟩ (HT.recv (ci := 3) hkb hH t_a0 (hO.no t_a0 (by decide)) rfl) rfl rfl hl.1 (Nat.le_of_ble_eq_true rfl) dX3_readTruth_52 ⟨Nat.le_of_ble_eq_true rfl, Nat.le_of_ble_eq_true rfl⟩) (fun v52 u H locs hz9 hH hS => ?_)
            obtain ⟨n52_0_2, n52_0_3, n52_0_4, n52_0_5, n52_0_6, n52_0_7, rfl, l_v52, u_v52, x_v520, x_v521, x_v522⟩ := hz9
            have hH : HT D cs A T (tk :: y0 :: O) ((tk, .inr (7, [.ref y0, .int y1, .int n52_0_2, .int n52_0_3, .int n52_0_4, .int n52_0_5, .int n52_0_6, .int n52_0_7])) :: (y0, .inl (cs.1, 900, .inl ft)) :: X) H := hH
            refine W.widen (k := 0) (n := 0) (Nat.le_of_ble_eq_true rfl) (Nat.le_of_ble_eq_true rfl) ?_
            refine lv_istore_n (lv' := [(2, .int v52), (4, .int v39), (3, .int p8_3), (0, .ref a0), (1, .int x1)]) hx hb dX3_readTruth_55 rfl hl (by decide) rfl (fun ls hl => ?_)
            refine lv_aload_n hx hb dX3_readTruth_56 rfl (lv_at hl 3 rfl) ?_
            refine lv_iload hx hb dX3_readTruth_57 (lv_at hl 1 rfl) ?_
            refine tk_v hH hS hA (tr_V (n := 1) (As := [.int v39]) hx hb hml hown hts hkb hH (ox_map hOX rfl) hks hE hS hA (s_LR_aimSkip l D cs kf T (tk :: y0 :: O) ((tk, .inr (7, [.ref y0, .int y1, .int n52_0_2, .int n52_0_3, .int n52_0_4, .int n52_0_5, .int n52_0_6, .int n52_0_7])) :: (y0, .inl (cs.1, 900, .inl ft)) :: X) a0 v39 t_a0 (hO.sub (by decide))) kw_672 kw_674 ks_14 kw_4 kw_675 (by decide +kernel) ⟨Nat.le_of_ble_eq_true rfl, Nat.le_of_ble_eq_true rfl⟩ (HT.recv (ci := 3) hkb hH t_a0 (hO.no t_a0 (by decide)) rfl) rfl rfl hl.1 (Nat.le_of_ble_eq_true rfl) dX3_readTruth_59 ⟨Nat.le_of_ble_eq_true rfl, Nat.le_of_ble_eq_true rfl⟩) (fun u H locs hz9 hH hS => ?_)
            have hz9 : u = (T, tk :: y0 :: O, (tk, .inr (7, [.ref y0, .int y1, .int n52_0_2, .int n52_0_3, .int n52_0_4, .int n52_0_5, .int n52_0_6, .int n52_0_7])) :: (y0, .inl (cs.1, 900, .inl ft)) :: X) := hz9
            subst hz9
            have hH : HT D cs A T (tk :: y0 :: O) ((tk, .inr (7, [.ref y0, .int y1, .int n52_0_2, .int n52_0_3, .int n52_0_4, .int n52_0_5, .int n52_0_6, .int n52_0_7])) :: (y0, .inl (cs.1, 900, .inl ft)) :: X) H := hH
            refine W.widen (k := 0) (n := 0) (Nat.le_of_ble_eq_true rfl) (Nat.le_of_ble_eq_true rfl) ?_
            obtain ⟨v62, ev62⟩ : ∃ y : Int32, y = p8_3 + 1 := ⟨_, rfl⟩
            have tv62 : v62.toInt = p8_3.toInt + (1) := by rw [ev62]; exact add_i rfl (by decide) (by omega) (by omega)
            refine lv_iinc (v := v62) (lv' := [(3, .int v62), (2, .int v52), (4, .int v39), (0, .ref a0), (1, .int x1)]) hx hb dX3_readTruth_62 hl (k := 2) rfl (by rw [ev62]; rfl) (by decide) rfl (fun ls hl => ?_)
            refine lv_goto (tgt := 8) hx hb dX3_readTruth_65 (by decide) ?_
            exact ih8 _ (by omega) v62 v52 n52_0_2 n52_0_3 n52_0_4 n52_0_5 n52_0_6 n52_0_7 _ _ _ rfl (by omega) (by omega) (by omega) (by omega) (by omega) (by omega) (by omega) (by omega) (by first | (refine LTI.st (fun _ _ => st_r) x_v20 x_v21 l_v2 u_v2 rfl) | (refine LTI.st (h19.2.2.2.tr (GL_nx (fun _ _ => st_rY x_v250) px35)) x_v520 x_v521 l_v52 u_v52 ?_; omega)) (by omega) (by omega) hH hS (lv_sub hl [0, 1, 3, 4] rfl)
  refine lv_istore_n (lv' := [(3, .int 0), (2, .int v2), (0, .ref a0), (1, .int x1)]) hx hb dX3_readTruth_7 rfl hl (by decide) rfl (fun ls hl => ?_)
  have z_0 : (0 : Int32).toInt = 0 := by decide
  exact J8 _ 0 v2 n2_0_2 n2_0_3 n2_0_4 n2_0_5 n2_0_6 n2_0_7 _ _ _ rfl (by decide) (by decide) (by omega) (by omega) (by omega) (by omega) (by omega) (by omega) (by first | (refine LTI.st (fun _ _ => st_r) x_v20 x_v21 l_v2 u_v2 rfl) | (refine LTI.st (h19.2.2.2.tr (GL_nx (fun _ _ => st_rY x_v250) px35)) x_v520 x_v521 l_v52 u_v52 ?_; omega)) (by omega) (by omega) hH hS (lv_sub hl [0, 1, 2, 3] rfl)
set_option maxHeartbeats 4000000 in
set_option maxRecDepth 100000 in
theorem s_LR_readAtom1 (l : Launch) (D : va_G) (cs : CS) (kf : KF) (T : TF) (O : List Nat) (X : va_W) (a0 : Nat) (x1 : Int32) (y0 : Nat) (y1 : Int32) (y2 : Int32) (y3 : Int32) (y4 : Int32) (y5 : Int32) (y6 : Int32) (y7 : Int32) (ft : Nat → Int32) (t : Tp) (tn : Nat) (tk : Nat) (t_a0 : T a0 = some (13, 0, 0)) (l_x1 : 1 ≤ x1.toInt) (u_x1 : x1.toInt ≤ 1) (t_y0 : T y0 = some (0, 900, 0)) (l_y1 : 0 ≤ y1.toInt) (u_y1 : y1.toInt ≤ 900) (l_y2 : 0 ≤ y2.toInt) (u_y2 : y2.toInt ≤ 900) (l_y3 : 0 ≤ y3.toInt) (u_y3 : y3.toInt ≤ 900) (hn : y1.toInt = (tn : Int)) (htb : TB ft t) (hto : TSS t tn y2 y3 y4 y5) (t_tk : T tk = some (17, 0, 0)) (hU7 : ∀ (b : Nat) (q : Nat), T b = some (17, 0, q) → b = tk) (hz : y6.toInt = 0) (hO : okO T (tk :: y0 :: O) [1, 13]) : TK l D cs kf yX3_readAtom cX3_readAtom 3 (some (.boolean)) { frames := 21, cells := 0, slots := 0, locals := 472 } [.ref a0, .int x1] T (tk :: y0 :: O) ((tk, .inr (7, [.ref y0, .int y1, .int y2, .int y3, .int y4, .int y5, .int y6, .int y7])) :: (y0, .inl (cs.1, 900, .inl ft)) :: X) (Ti D cs (fun r u => ∃ (n0_2 : Int32) (n0_3 : Int32) (n0_4 : Int32) (n0_5 : Int32) (n0_6 : Int32) (n0_7 : Int32), u = (T, tk :: y0 :: O, (tk, .inr (7, [.ref y0, .int y1, .int n0_2, .int n0_3, .int n0_4, .int n0_5, .int n0_6, .int n0_7])) :: (y0, .inl (cs.1, 900, .inl ft)) :: X) ∧ 0 ≤ r.toInt ∧ r.toInt ≤ 1 ∧ (r.toInt = 0 ∨ (TSS t tn n0_2 n0_3 n0_4 n0_5 ∧ n0_6.toInt = 0 ∧ n0_7.toInt = y7.toInt ∧ GL t tn [(0, 1)] [] y2 n0_2)) ∧ (r.toInt ≠ 0 ∨ BL t tn [(0, 1)] y2 n0_6 n0_7) ∧ (y2.toInt ≤ n0_2.toInt ∧ n0_2.toInt ≤ n0_3.toInt ∧ n0_3.toInt ≤ y1.toInt))) := by
  refine tk_of (by decide) (Nat.le_of_ble_eq_true rfl) (fun p e s m below meth c ls A H locs hx hb hr hml hown hts hlocks hnm hkb hH hS hA hOX hks hE hl => ?_)
  have hown : s.vm.findClass RX3 = some m.cls := hown
  have hl : lv_has ls 3 [(0, .ref a0), (1, .int x1)] := hl
  have hOXf := hOX
  have hb9 := hto.b
  have hc9 := hto.cs
  refine lv_aload_n hx hb dX3_readAtom_0 rfl (lv_at hl 0 rfl) ?_
  refine t_get (ci := 3) (lst := ft3 0 0) (C := RX3) (F := TX3) (N := 3) hx hb hts uX3 hown hkb hH t_a0 (hO.no t_a0 (by decide)) (fun _ h9 => h9) rfl rfl 0 (by decide) rfl kw_82 (fun _ h9 => h9) dX3_readAtom_1 (fun v9 h9 => ?_)
  obtain ⟨v1, rfl, t_v1⟩ := h9
  have e9 := (hU7 _ _ t_v1).symm
  subst e9
  refine lv_bipush (v := 40) hx hb dX3_readAtom_4 (by decide) ?_
  have z9_40 : (40 : Int32).toInt = 40 := by decide
  refine tk_i hH hS hA (tr_V (n := 1) (As := [.int 40]) hx hb hml hown hts hkb hH (ox_map hOX rfl) hks hE hS hA (s_Tok_isSign l D cs kf T O X tk (40) y0 y1 y2 y3 y4 y5 y6 y7 ft t tn 35 t_tk t_y0 (by omega) (by omega) (by omega) (by omega) (by omega) (by omega) (by omega) htb hto (by decide) (by decide) (hO.sub (by decide))) kw_646 kw_615 kw_616 kw_3 kw_617 (by decide +kernel) ⟨Nat.le_of_ble_eq_true rfl, Nat.le_of_ble_eq_true rfl⟩ (x_recv (ci := 7) hkb hH 0 rfl rfl) rfl rfl hl.1 (Nat.le_of_ble_eq_true rfl) dX3_readAtom_6 ⟨Nat.le_of_ble_eq_true rfl, Nat.le_of_ble_eq_true rfl⟩) (fun v6 u H locs hz9 hH hS => ?_)
  obtain ⟨rfl, l_v6, u_v6, x_v60, x_v61⟩ := hz9
  have hH : HT D cs A T (tk :: y0 :: O) ((tk, .inr (7, [.ref y0, .int y1, .int y2, .int y3, .int y4, .int y5, .int y6, .int y7])) :: (y0, .inl (cs.1, 900, .inl ft)) :: X) H := hH
  refine W.widen (k := 0) (n := 0) (Nat.le_of_ble_eq_true rfl) (Nat.le_of_ble_eq_true rfl) ?_
  refine lv_if_eq (tgt := 48) hx hb dX3_readAtom_9 (by decide) (fun c9 => ?_) (fun c9 => ?_)
  · skip
    have tc9 := f_eq (k := 0) (by decide) c9
    clear x_v60
    replace x_v61 := x_v61.resolve_left (fun q9 => q9 tc9)
    refine lv_aload_n hx hb dX3_readAtom_48 rfl (lv_at hl 0 rfl) ?_
    refine t_get (ci := 3) (lst := ft3 0 0) (C := RX3) (F := TX3) (N := 3) hx hb hts uX3 hown hkb hH t_a0 (hO.no t_a0 (by decide)) (fun _ h9 => h9) rfl rfl 0 (by decide) rfl kw_82 (fun _ h9 => h9) dX3_readAtom_49 (fun v9 h9 => ?_)
    obtain ⟨v49, rfl, t_v49⟩ := h9
    have e9 := (hU7 _ _ t_v49).symm
    subst e9
    refine x_getk (ci := 7) (C := RX7) (F := TX7) (N := 8) (v := .int y4) hx hb hts uX7 hown hkb hH 0 rfl rfl 4 (by decide) rfl kw_50 (fun _ h9 => h9) dX3_readAtom_52 ?_
    refine lv_iconst (v := 2) hx hb dX3_readAtom_55 (by decide) ?_
    refine lv_icmp_ne (tgt := 80) hx hb dX3_readAtom_56 (by decide) (fun c56 => ?_) (fun c56 => ?_)
    · skip
      have tc56 := f_ne (k := 2) (by decide) c56
      refine lv_aload_n hx hb dX3_readAtom_80 rfl (lv_at hl 0 rfl) ?_
      refine tk_i hH hS hA (tr_V (n := 0) (As := []) hx hb hml hown hts hkb hH (ox_map hOX rfl) hks hE hS hA (s_LR_factHere l D cs kf T O X a0 y0 y1 y2 y3 y4 y5 y6 y7 ft t tn tk t_a0 t_y0 (by omega) (by omega) (by omega) (by omega) (by omega) (by omega) (by omega) htb hto t_tk hU7 (hO.sub (by decide))) kw_660 kw_662 ks_13 kw_4 kw_663 (by decide +kernel) ⟨Nat.le_of_ble_eq_true rfl, Nat.le_of_ble_eq_true rfl⟩ (HT.recv (ci := 3) hkb hH t_a0 (hO.no t_a0 (by decide)) rfl) rfl rfl hl.1 (Nat.le_of_ble_eq_true rfl) dX3_readAtom_81 ⟨Nat.le_of_ble_eq_true rfl, Nat.le_of_ble_eq_true rfl⟩) (fun v81 u H locs hz9 hH hS => ?_)
      obtain ⟨rfl, l_v81, u_v81, x_v810, x_v811⟩ := hz9
      have hH : HT D cs A T (tk :: y0 :: O) ((tk, .inr (7, [.ref y0, .int y1, .int y2, .int y3, .int y4, .int y5, .int y6, .int y7])) :: (y0, .inl (cs.1, 900, .inl ft)) :: X) H := hH
      refine W.widen (k := 0) (n := 0) (Nat.le_of_ble_eq_true rfl) (Nat.le_of_ble_eq_true rfl) ?_
      refine lv_istore_n (lv' := [(2, .int v81), (0, .ref a0), (1, .int x1)]) hx hb dX3_readAtom_84 rfl hl (by decide) rfl (fun ls hl => ?_)
      refine lv_iload_n hx hb dX3_readAtom_85 rfl (lv_at hl 0 rfl) ?_
      refine lv_iconst (v := (-1)) hx hb dX3_readAtom_86 (by decide) ?_
      refine lv_icmp_ne (tgt := 99) hx hb dX3_readAtom_87 (by decide) (fun c87 => ?_) (fun c87 => ?_)
      · skip
        have tc87 := f_ne (k := -1) (by decide) c87
        replace x_v810 := x_v810.resolve_left tc87
        clear x_v811
        refine lv_aload_n hx hb dX3_readAtom_99 rfl (lv_at hl 1 rfl) ?_
        refine lv_iconst (v := 1) hx hb dX3_readAtom_100 (by decide) ?_
        refine lv_iload_n hx hb dX3_readAtom_101 rfl (lv_at hl 0 rfl) ?_
        refine tk_v hH hS hA (tr_V (n := 2) (As := [.int 1, .int v81]) hx hb hml hown hts hkb hH (ox_map hOX rfl) hks hE hS hA (s_LR_put l D cs kf T (tk :: y0 :: O) ((tk, .inr (7, [.ref y0, .int y1, .int y2, .int y3, .int y4, .int y5, .int y6, .int y7])) :: (y0, .inl (cs.1, 900, .inl ft)) :: X) a0 (1) v81 t_a0 (hO.sub (by decide))) kw_642 kw_644 ks_9 kw_4 kw_645 (by decide +kernel) ⟨Nat.le_of_ble_eq_true rfl, Nat.le_of_ble_eq_true rfl⟩ (HT.recv (ci := 3) hkb hH t_a0 (hO.no t_a0 (by decide)) rfl) rfl rfl hl.1 (Nat.le_of_ble_eq_true rfl) dX3_readAtom_102 ⟨Nat.le_of_ble_eq_true rfl, Nat.le_of_ble_eq_true rfl⟩) (fun u H locs hz9 hH hS => ?_)
        have hz9 : u = (T, tk :: y0 :: O, (tk, .inr (7, [.ref y0, .int y1, .int y2, .int y3, .int y4, .int y5, .int y6, .int y7])) :: (y0, .inl (cs.1, 900, .inl ft)) :: X) := hz9
        subst hz9
        have hH : HT D cs A T (tk :: y0 :: O) ((tk, .inr (7, [.ref y0, .int y1, .int y2, .int y3, .int y4, .int y5, .int y6, .int y7])) :: (y0, .inl (cs.1, 900, .inl ft)) :: X) H := hH
        refine W.widen (k := 0) (n := 0) (Nat.le_of_ble_eq_true rfl) (Nat.le_of_ble_eq_true rfl) ?_
        refine lv_aload_n hx hb dX3_readAtom_105 rfl (lv_at hl 1 rfl) ?_
        refine t_get (ci := 3) (lst := ft3 0 0) (C := RX3) (F := TX3) (N := 3) hx hb hts uX3 hown hkb hH t_a0 (hO.no t_a0 (by decide)) (fun _ h9 => h9) rfl rfl 0 (by decide) rfl kw_82 (fun _ h9 => h9) dX3_readAtom_106 (fun v9 h9 => ?_)
        obtain ⟨v106, rfl, t_v106⟩ := h9
        have e9 := (hU7 _ _ t_v106).symm
        subst e9
        refine tk_v hH hS hA (tr_V (n := 0) (As := []) hx hb hml hown hts hkb hH (ox_map hOX rfl) hks hE hS hA (s_Tok_go l D cs kf T O X tk y0 y1 y2 y3 y4 y5 y6 y7 ft t tn t_tk t_y0 (by omega) (by omega) (by omega) (by omega) (by omega) (by omega) (by omega) htb (by have q9 := (hto).b; omega) (hO.sub (by decide))) kw_641 kw_453 kw_454 kw_3 kw_455 (by decide +kernel) ⟨Nat.le_of_ble_eq_true rfl, Nat.le_of_ble_eq_true rfl⟩ (x_recv (ci := 7) hkb hH 0 rfl rfl) rfl rfl hl.1 (Nat.le_of_ble_eq_true rfl) dX3_readAtom_109 ⟨Nat.le_of_ble_eq_true rfl, Nat.le_of_ble_eq_true rfl⟩) (fun u H locs hz9 hH hS => ?_)
        obtain ⟨n109_0_2, n109_0_3, n109_0_4, n109_0_5, rfl, x_v1090, x_v1091, x_v1092⟩ := hz9
        have px109 := TSS.nx hto x_v1091
        have hH : HT D cs A T (tk :: y0 :: O) ((tk, .inr (7, [.ref y0, .int y1, .int n109_0_2, .int n109_0_3, .int n109_0_4, .int n109_0_5, .int y6, .int y7])) :: (y0, .inl (cs.1, 900, .inl ft)) :: X) H := hH
        refine W.widen (k := 0) (n := 0) (Nat.le_of_ble_eq_true rfl) (Nat.le_of_ble_eq_true rfl) ?_
        refine lv_iconst (v := 1) hx hb dX3_readAtom_112 (by decide) ?_
        have z9_1 : (1 : Int32).toInt = 1 := by decide
        exact te_z hx hb hr hlocks (by rfl) hH hS (⟨n109_0_2, n109_0_3, n109_0_4, n109_0_5, y6, y7, rfl, by decide, by decide, (Or.inr ⟨x_v1090, by omega, by omega, (by first | (refine g30.tr (GL_nx (fun _ _ => st_xY x_v360.2.2.1) x_v360.2.1)) | (refine GL_nx (fun _ _ => st_aV ?_) px75; omega) | (refine GL_nx (fun _ _ => st_aV ?_) px109; omega))⟩), Or.inl (by decide), (by omega)⟩) dX3_readAtom_113
      · skip
        have tc87 := f_eq (k := -1) (by decide) c87
        clear x_v810
        replace x_v811 := x_v811.resolve_left (fun q9 => q9 tc87)
        refine lv_aload_n hx hb dX3_readAtom_90 rfl (lv_at hl 1 rfl) ?_
        refine t_get (ci := 3) (lst := ft3 0 0) (C := RX3) (F := TX3) (N := 3) hx hb hts uX3 hown hkb hH t_a0 (hO.no t_a0 (by decide)) (fun _ h9 => h9) rfl rfl 0 (by decide) rfl kw_82 (fun _ h9 => h9) dX3_readAtom_91 (fun v9 h9 => ?_)
        obtain ⟨v91, rfl, t_v91⟩ := h9
        have e9 := (hU7 _ _ t_v91).symm
        subst e9
        refine lv_iconst (v := 2) hx hb dX3_readAtom_94 (by decide) ?_
        have z9_2 : (2 : Int32).toInt = 2 := by decide
        refine tk_i hH hS hA (tr_V (n := 1) (As := [.int 2]) hx hb hml hown hts hkb hH (ox_map hOX rfl) hks hE hS hA (s_Tok_refuse l D cs kf T O X tk (2) y0 y1 y2 y3 y4 y5 y6 y7 ft t tn t_tk t_y0 (by omega) (by omega) (by omega) (by omega) (by omega) (by omega) (by omega) htb hto (hO.sub (by decide))) kw_640 kw_580 kw_581 kw_3 kw_582 (by decide +kernel) ⟨Nat.le_of_ble_eq_true rfl, Nat.le_of_ble_eq_true rfl⟩ (x_recv (ci := 7) hkb hH 0 rfl rfl) rfl rfl hl.1 (Nat.le_of_ble_eq_true rfl) dX3_readAtom_95 ⟨Nat.le_of_ble_eq_true rfl, Nat.le_of_ble_eq_true rfl⟩) (fun v95 u H locs hz9 hH hS => ?_)
        obtain ⟨n95_0_6, n95_0_7, rfl, l_v95, u_v95, x_v950, x_v951⟩ := hz9
        have hH : HT D cs A T (tk :: y0 :: O) ((tk, .inr (7, [.ref y0, .int y1, .int y2, .int y3, .int y4, .int y5, .int n95_0_6, .int n95_0_7])) :: (y0, .inl (cs.1, 900, .inl ft)) :: X) H := hH
        refine W.widen (k := 0) (n := 0) (Nat.le_of_ble_eq_true rfl) (Nat.le_of_ble_eq_true rfl) ?_
        exact te_z hx hb hr hlocks (nar01 (by omega) (by omega)) hH hS (⟨y2, y3, y4, y5, n95_0_6, n95_0_7, rfl, by omega, by omega, (Or.inl (by omega)), (Or.inr (by first | (refine BL_f (fun _ _ => st_aD ?_) x_v140 (by decide) x_v141 ?_ <;> omega) | (refine g20.bd (BL.cons x_v241)) | (refine g30.bd (BL_f (fun _ _ => st_xN x_v361.1) x_v361.2.1 (by decide) x_v361.2.2 ?_); omega) | (refine BL_f (fun _ _ => st_aN ?_ ?_) x_v950 (by decide) x_v951 ?_ <;> omega))), (by omega)⟩) dX3_readAtom_98
    · skip
      have tc56 := f_eq (k := 2) (by decide) c56
      refine lv_aload_n hx hb dX3_readAtom_59 rfl (lv_at hl 0 rfl) ?_
      refine lv_iconst (v := 0) hx hb dX3_readAtom_60 (by decide) ?_
      refine lv_aload_n hx hb dX3_readAtom_61 rfl (lv_at hl 0 rfl) ?_
      refine t_get (ci := 3) (lst := ft3 0 0) (C := RX3) (F := TX3) (N := 3) hx hb hts uX3 hown hkb hH t_a0 (hO.no t_a0 (by decide)) (fun _ h9 => h9) rfl rfl 0 (by decide) rfl kw_82 (fun _ h9 => h9) dX3_readAtom_62 (fun v9 h9 => ?_)
      obtain ⟨v62, rfl, t_v62⟩ := h9
      have e9 := (hU7 _ _ t_v62).symm
      subst e9
      refine x_getk (ci := 7) (C := RX7) (F := TX7) (N := 8) (v := .int y5) hx hb hts uX7 hown hkb hH 0 rfl rfl 5 (by decide) rfl kw_53 (fun _ h9 => h9) dX3_readAtom_65 ?_
      refine tk_v hH hS hA (tr_V (n := 2) (As := [.int 0, .int y5]) hx hb hml hown hts hkb hH (ox_map hOX rfl) hks hE hS hA (s_LR_put l D cs kf T (tk :: y0 :: O) ((tk, .inr (7, [.ref y0, .int y1, .int y2, .int y3, .int y4, .int y5, .int y6, .int y7])) :: (y0, .inl (cs.1, 900, .inl ft)) :: X) a0 (0) y5 t_a0 (hO.sub (by decide))) kw_642 kw_644 ks_9 kw_4 kw_645 (by decide +kernel) ⟨Nat.le_of_ble_eq_true rfl, Nat.le_of_ble_eq_true rfl⟩ (HT.recv (ci := 3) hkb hH t_a0 (hO.no t_a0 (by decide)) rfl) rfl rfl hl.1 (Nat.le_of_ble_eq_true rfl) dX3_readAtom_68 ⟨Nat.le_of_ble_eq_true rfl, Nat.le_of_ble_eq_true rfl⟩) (fun u H locs hz9 hH hS => ?_)
      have hz9 : u = (T, tk :: y0 :: O, (tk, .inr (7, [.ref y0, .int y1, .int y2, .int y3, .int y4, .int y5, .int y6, .int y7])) :: (y0, .inl (cs.1, 900, .inl ft)) :: X) := hz9
      subst hz9
      have hH : HT D cs A T (tk :: y0 :: O) ((tk, .inr (7, [.ref y0, .int y1, .int y2, .int y3, .int y4, .int y5, .int y6, .int y7])) :: (y0, .inl (cs.1, 900, .inl ft)) :: X) H := hH
      refine W.widen (k := 0) (n := 0) (Nat.le_of_ble_eq_true rfl) (Nat.le_of_ble_eq_true rfl) ?_
      refine lv_aload_n hx hb dX3_readAtom_71 rfl (lv_at hl 0 rfl) ?_
      refine t_get (ci := 3) (lst := ft3 0 0) (C := RX3) (F := TX3) (N := 3) hx hb hts uX3 hown hkb hH t_a0 (hO.no t_a0 (by decide)) (fun _ h9 => h9) rfl rfl 0 (by decide) rfl kw_82 (fun _ h9 => h9) dX3_readAtom_72 (fun v9 h9 => ?_)
      obtain ⟨v72, rfl, t_v72⟩ := h9
      have e9 := (hU7 _ _ t_v72).symm
      subst e9
      refine tk_v hH hS hA (tr_V (n := 0) (As := []) hx hb hml hown hts hkb hH (ox_map hOX rfl) hks hE hS hA (s_Tok_go l D cs kf T O X tk y0 y1 y2 y3 y4 y5 y6 y7 ft t tn t_tk t_y0 (by omega) (by omega) (by omega) (by omega) (by omega) (by omega) (by omega) htb (by have q9 := (hto).b; omega) (hO.sub (by decide))) kw_641 kw_453 kw_454 kw_3 kw_455 (by decide +kernel) ⟨Nat.le_of_ble_eq_true rfl, Nat.le_of_ble_eq_true rfl⟩ (x_recv (ci := 7) hkb hH 0 rfl rfl) rfl rfl hl.1 (Nat.le_of_ble_eq_true rfl) dX3_readAtom_75 ⟨Nat.le_of_ble_eq_true rfl, Nat.le_of_ble_eq_true rfl⟩) (fun u H locs hz9 hH hS => ?_)
      obtain ⟨n75_0_2, n75_0_3, n75_0_4, n75_0_5, rfl, x_v750, x_v751, x_v752⟩ := hz9
      have px75 := TSS.nx hto x_v751
      have hH : HT D cs A T (tk :: y0 :: O) ((tk, .inr (7, [.ref y0, .int y1, .int n75_0_2, .int n75_0_3, .int n75_0_4, .int n75_0_5, .int y6, .int y7])) :: (y0, .inl (cs.1, 900, .inl ft)) :: X) H := hH
      refine W.widen (k := 0) (n := 0) (Nat.le_of_ble_eq_true rfl) (Nat.le_of_ble_eq_true rfl) ?_
      refine lv_iconst (v := 1) hx hb dX3_readAtom_78 (by decide) ?_
      have z9_1 : (1 : Int32).toInt = 1 := by decide
      exact te_z hx hb hr hlocks (by rfl) hH hS (⟨n75_0_2, n75_0_3, n75_0_4, n75_0_5, y6, y7, rfl, by decide, by decide, (Or.inr ⟨x_v750, by omega, by omega, (by first | (refine g30.tr (GL_nx (fun _ _ => st_xY x_v360.2.2.1) x_v360.2.1)) | (refine GL_nx (fun _ _ => st_aV ?_) px75; omega) | (refine GL_nx (fun _ _ => st_aV ?_) px109; omega))⟩), Or.inl (by decide), (by omega)⟩) dX3_readAtom_79
  · skip
    have tc9 := f_ne (k := 0) (by decide) c9
    replace x_v60 := x_v60.resolve_left tc9
    clear x_v61
    refine lv_aload_n hx hb dX3_readAtom_12 rfl (lv_at hl 0 rfl) ?_
    refine lv_iload_n hx hb dX3_readAtom_13 rfl (lv_at hl 1 rfl) ?_
    refine tk_i hH hS hA (tr_V (n := 1) (As := [.int x1]) hx hb hml hown hts hkb hH (ox_map hOX rfl) hks hE hS hA (s_LR_enter1 l D cs kf T O X a0 x1 y0 y1 y2 y3 y4 y5 y6 y7 ft t tn tk t_a0 (by omega) (by omega) t_y0 (by omega) (by omega) (by omega) (by omega) (by omega) (by omega) (by omega) htb hto t_tk hU7 (hO.sub (by decide))) kw_636 kw_638 ks_8 kw_4 kw_639 (by decide +kernel) ⟨Nat.le_of_ble_eq_true rfl, Nat.le_of_ble_eq_true rfl⟩ (HT.recv (ci := 3) hkb hH t_a0 (hO.no t_a0 (by decide)) rfl) rfl rfl hl.1 (Nat.le_of_ble_eq_true rfl) dX3_readAtom_14 ⟨Nat.le_of_ble_eq_true rfl, Nat.le_of_ble_eq_true rfl⟩) (fun v14 u H locs hz9 hH hS => ?_)
    obtain ⟨n14_0_2, n14_0_3, n14_0_4, n14_0_5, rfl, l_v14, u_v14, x_v140, x_v141, x_v142⟩ := hz9
    have hH : HT D cs A T (tk :: y0 :: O) ((tk, .inr (7, [.ref y0, .int y1, .int n14_0_2, .int n14_0_3, .int n14_0_4, .int n14_0_5, .int y6, .int y7])) :: (y0, .inl (cs.1, 900, .inl ft)) :: X) H := hH
    refine W.widen (k := 0) (n := 0) (Nat.le_of_ble_eq_true rfl) (Nat.le_of_ble_eq_true rfl) ?_
    refine lv_if_eq (tgt := 46) hx hb dX3_readAtom_17 (by decide) (fun c17 => ?_) (fun c17 => ?_)
    · skip
      have tc17 := f_eq (k := 0) (by decide) c17
      exfalso; omega
    · skip
      have tc17 := f_ne (k := 0) (by decide) c17
      have g20 : GL t tn [(0, 1)] [(3, 2), (20, 36)] y2 n14_0_2 := GL_nx (fun _ _ => st_aP (by omega) (by decide)) x_v141
      refine lv_aload_n hx hb dX3_readAtom_20 rfl (lv_at hl 0 rfl) ?_
      refine lv_iload_n hx hb dX3_readAtom_21 rfl (lv_at hl 1 rfl) ?_
      refine lv_iconst (v := 1) hx hb dX3_readAtom_22 (by decide) ?_
      refine lv_iadd hx hb dX3_readAtom_23 ?_
      refine lv_topi (fun v23 ev23 => ?_)
      have tv23 : v23.toInt = x1.toInt + (1) := by rw [ev23]; exact add_i rfl (by decide : (1 : Int32).toInt = 1) (by omega) (by omega)
      refine tk_i hH hS hA (tr_V (n := 1) (As := [.int v23]) hx hb hml hown hts hkb hH (ox_map hOX rfl) hks hE hS hA (s_LR_readSum2 l D cs kf T O X a0 v23 y0 y1 n14_0_2 n14_0_3 n14_0_4 n14_0_5 y6 y7 ft t tn tk t_a0 (by omega) (by omega) t_y0 (by omega) (by omega) (by omega) (by omega) (by omega) (by omega) (by omega) htb x_v140 t_tk hU7 (by omega) (hO.sub (by decide))) kw_648 kw_650 ks_10 kw_4 kw_651 (by decide +kernel) ⟨Nat.le_of_ble_eq_true rfl, Nat.le_of_ble_eq_true rfl⟩ (HT.recv (ci := 3) hkb hH t_a0 (hO.no t_a0 (by decide)) rfl) rfl rfl hl.1 (Nat.le_of_ble_eq_true rfl) dX3_readAtom_24 ⟨Nat.le_of_ble_eq_true rfl, Nat.le_of_ble_eq_true rfl⟩) (fun v24 u H locs hz9 hH hS => ?_)
      obtain ⟨n24_0_2, n24_0_3, n24_0_4, n24_0_5, n24_0_6, n24_0_7, rfl, l_v24, u_v24, x_v240, x_v241, x_v242⟩ := hz9
      have hH : HT D cs A T (tk :: y0 :: O) ((tk, .inr (7, [.ref y0, .int y1, .int n24_0_2, .int n24_0_3, .int n24_0_4, .int n24_0_5, .int n24_0_6, .int n24_0_7])) :: (y0, .inl (cs.1, 900, .inl ft)) :: X) H := hH
      refine W.widen (k := 0) (n := 0) (Nat.le_of_ble_eq_true rfl) (Nat.le_of_ble_eq_true rfl) ?_
      refine lv_if_eq (tgt := 46) hx hb dX3_readAtom_27 (by decide) (fun c27 => ?_) (fun c27 => ?_)
      · skip
        have tc27 := f_eq (k := 0) (by decide) c27
        clear x_v240
        replace x_v241 := x_v241.resolve_left (fun q9 => q9 tc27)
        refine lv_iconst (v := 0) hx hb dX3_readAtom_46 (by decide) ?_
        have z9_0 : (0 : Int32).toInt = 0 := by decide
        exact te_z hx hb hr hlocks (by rfl) hH hS (⟨n24_0_2, n24_0_3, n24_0_4, n24_0_5, n24_0_6, n24_0_7, rfl, by decide, by decide, Or.inl (by decide), (Or.inr (by first | (refine BL_f (fun _ _ => st_aD ?_) x_v140 (by decide) x_v141 ?_ <;> omega) | (refine g20.bd (BL.cons x_v241)) | (refine g30.bd (BL_f (fun _ _ => st_xN x_v361.1) x_v361.2.1 (by decide) x_v361.2.2 ?_); omega) | (refine BL_f (fun _ _ => st_aN ?_ ?_) x_v950 (by decide) x_v951 ?_ <;> omega))), (by omega)⟩) dX3_readAtom_47
      · skip
        have tc27 := f_ne (k := 0) (by decide) c27
        replace x_v240 := x_v240.resolve_left tc27
        clear x_v241
        have g30 := g20.tr (GL.cons x_v240.2.2.2)
        refine lv_aload_n hx hb dX3_readAtom_30 rfl (lv_at hl 0 rfl) ?_
        refine t_get (ci := 3) (lst := ft3 0 0) (C := RX3) (F := TX3) (N := 3) hx hb hts uX3 hown hkb hH t_a0 (hO.no t_a0 (by decide)) (fun _ h9 => h9) rfl rfl 0 (by decide) rfl kw_82 (fun _ h9 => h9) dX3_readAtom_31 (fun v9 h9 => ?_)
        obtain ⟨v31, rfl, t_v31⟩ := h9
        have e9 := (hU7 _ _ t_v31).symm
        subst e9
        refine lv_bipush (v := 41) hx hb dX3_readAtom_34 (by decide) ?_
        have z9_41 : (41 : Int32).toInt = 41 := by decide
        refine tk_i hH hS hA (tr_V (n := 1) (As := [.int 41]) hx hb hml hown hts hkb hH (ox_map hOX rfl) hks hE hS hA (s_Tok_takeSign l D cs kf T O X tk (41) y0 y1 n24_0_2 n24_0_3 n24_0_4 n24_0_5 n24_0_6 n24_0_7 ft t tn 36 t_tk t_y0 (by omega) (by omega) (by omega) (by omega) (by omega) (by omega) (by omega) htb x_v240.1 (by decide) (by decide) (hO.sub (by decide))) kw_647 kw_611 kw_612 kw_3 kw_613 (by decide +kernel) ⟨Nat.le_of_ble_eq_true rfl, Nat.le_of_ble_eq_true rfl⟩ (x_recv (ci := 7) hkb hH 0 rfl rfl) rfl rfl hl.1 (Nat.le_of_ble_eq_true rfl) dX3_readAtom_36 ⟨Nat.le_of_ble_eq_true rfl, Nat.le_of_ble_eq_true rfl⟩) (fun v36 u H locs hz9 hH hS => ?_)
        obtain ⟨n36_0_2, n36_0_3, n36_0_4, n36_0_5, n36_0_6, n36_0_7, rfl, l_v36, u_v36, x_v360, x_v361, x_v362⟩ := hz9
        have hH : HT D cs A T (tk :: y0 :: O) ((tk, .inr (7, [.ref y0, .int y1, .int n36_0_2, .int n36_0_3, .int n36_0_4, .int n36_0_5, .int n36_0_6, .int n36_0_7])) :: (y0, .inl (cs.1, 900, .inl ft)) :: X) H := hH
        refine W.widen (k := 0) (n := 0) (Nat.le_of_ble_eq_true rfl) (Nat.le_of_ble_eq_true rfl) ?_
        refine lv_if_eq (tgt := 46) hx hb dX3_readAtom_39 (by decide) (fun c39 => ?_) (fun c39 => ?_)
        · skip
          have tc39 := f_eq (k := 0) (by decide) c39
          clear x_v360
          replace x_v361 := x_v361.resolve_left (fun q9 => q9 tc39)
          refine lv_iconst (v := 0) hx hb dX3_readAtom_46 (by decide) ?_
          have z9_0 : (0 : Int32).toInt = 0 := by decide
          exact te_z hx hb hr hlocks (by rfl) hH hS (⟨n36_0_2, n36_0_3, n36_0_4, n36_0_5, n36_0_6, n36_0_7, rfl, by decide, by decide, Or.inl (by decide), (Or.inr (by first | (refine BL_f (fun _ _ => st_aD ?_) x_v140 (by decide) x_v141 ?_ <;> omega) | (refine g20.bd (BL.cons x_v241)) | (refine g30.bd (BL_f (fun _ _ => st_xN x_v361.1) x_v361.2.1 (by decide) x_v361.2.2 ?_); omega) | (refine BL_f (fun _ _ => st_aN ?_ ?_) x_v950 (by decide) x_v951 ?_ <;> omega))), (by omega)⟩) dX3_readAtom_47
        · skip
          have tc39 := f_ne (k := 0) (by decide) c39
          replace x_v360 := x_v360.resolve_left tc39
          clear x_v361
          refine lv_iconst (v := 1) hx hb dX3_readAtom_42 (by decide) ?_
          refine lv_goto (tgt := 47) hx hb dX3_readAtom_43 (by decide) ?_
          have z9_1 : (1 : Int32).toInt = 1 := by decide
          exact te_z hx hb hr hlocks (by rfl) hH hS (⟨n36_0_2, n36_0_3, n36_0_4, n36_0_5, n36_0_6, n36_0_7, rfl, by decide, by decide, (Or.inr ⟨x_v360.1, by omega, by omega, (by first | (refine g30.tr (GL_nx (fun _ _ => st_xY x_v360.2.2.1) x_v360.2.1)) | (refine GL_nx (fun _ _ => st_aV ?_) px75; omega) | (refine GL_nx (fun _ _ => st_aV ?_) px109; omega))⟩), Or.inl (by decide), (by omega)⟩) dX3_readAtom_47
set_option maxHeartbeats 4000000 in
set_option maxRecDepth 100000 in
theorem s_LR_readTerm1 (l : Launch) (D : va_G) (cs : CS) (kf : KF) (T : TF) (O : List Nat) (X : va_W) (a0 : Nat) (x1 : Int32) (y0 : Nat) (y1 : Int32) (y2 : Int32) (y3 : Int32) (y4 : Int32) (y5 : Int32) (y6 : Int32) (y7 : Int32) (ft : Nat → Int32) (t : Tp) (tn : Nat) (tk : Nat) (t_a0 : T a0 = some (13, 0, 0)) (l_x1 : 1 ≤ x1.toInt) (u_x1 : x1.toInt ≤ 1) (t_y0 : T y0 = some (0, 900, 0)) (l_y1 : 0 ≤ y1.toInt) (u_y1 : y1.toInt ≤ 900) (l_y2 : 0 ≤ y2.toInt) (u_y2 : y2.toInt ≤ 900) (l_y3 : 0 ≤ y3.toInt) (u_y3 : y3.toInt ≤ 900) (hn : y1.toInt = (tn : Int)) (htb : TB ft t) (hto : TSS t tn y2 y3 y4 y5) (t_tk : T tk = some (17, 0, 0)) (hU7 : ∀ (b : Nat) (q : Nat), T b = some (17, 0, q) → b = tk) (hz : y6.toInt = 0) (hO : okO T (tk :: y0 :: O) [1, 13]) : TK l D cs kf yX3_readTerm cX3_readTerm 4 (some (.boolean)) { frames := 22, cells := 0, slots := 0, locals := 494 } [.ref a0, .int x1] T (tk :: y0 :: O) ((tk, .inr (7, [.ref y0, .int y1, .int y2, .int y3, .int y4, .int y5, .int y6, .int y7])) :: (y0, .inl (cs.1, 900, .inl ft)) :: X) (Ti D cs (fun r u => ∃ (n0_2 : Int32) (n0_3 : Int32) (n0_4 : Int32) (n0_5 : Int32) (n0_6 : Int32) (n0_7 : Int32), u = (T, tk :: y0 :: O, (tk, .inr (7, [.ref y0, .int y1, .int n0_2, .int n0_3, .int n0_4, .int n0_5, .int n0_6, .int n0_7])) :: (y0, .inl (cs.1, 900, .inl ft)) :: X) ∧ 0 ≤ r.toInt ∧ r.toInt ≤ 1 ∧ (r.toInt = 0 ∨ (TSS t tn n0_2 n0_3 n0_4 n0_5 ∧ n0_6.toInt = 0 ∧ n0_7.toInt = y7.toInt ∧ GL t tn [(1, 1)] [] y2 n0_2)) ∧ (r.toInt ≠ 0 ∨ BL t tn [(1, 1)] y2 n0_6 n0_7) ∧ (y2.toInt ≤ n0_2.toInt ∧ n0_2.toInt ≤ n0_3.toInt ∧ n0_3.toInt ≤ y1.toInt))) := by
  refine tk_of (by decide) (Nat.le_of_ble_eq_true rfl) (fun p e s m below meth c ls A H locs hx hb hr hml hown hts hlocks hnm hkb hH hS hA hOX hks hE hl => ?_)
  have hown : s.vm.findClass RX3 = some m.cls := hown
  have hl : lv_has ls 4 [(0, .ref a0), (1, .int x1)] := hl
  have hOXf := hOX
  have hb9 := hto.b
  have hc9 := hto.cs
  refine lv_aload_n hx hb dX3_readTerm_0 rfl (lv_at hl 0 rfl) ?_
  refine lv_iload_n hx hb dX3_readTerm_1 rfl (lv_at hl 1 rfl) ?_
  refine tk_i hH hS hA (tr_V (n := 1) (As := [.int x1]) hx hb hml hown hts hkb hH (ox_map hOX rfl) hks hE hS hA (s_LR_readAtom1 l D cs kf T O X a0 x1 y0 y1 y2 y3 y4 y5 y6 y7 ft t tn tk t_a0 (by omega) (by omega) t_y0 (by omega) (by omega) (by omega) (by omega) (by omega) (by omega) (by omega) htb hto t_tk hU7 (by omega) (hO.sub (by decide))) kw_656 kw_658 ks_12 kw_4 kw_659 (by decide +kernel) ⟨Nat.le_of_ble_eq_true rfl, Nat.le_of_ble_eq_true rfl⟩ (HT.recv (ci := 3) hkb hH t_a0 (hO.no t_a0 (by decide)) rfl) rfl rfl hl.1 (Nat.le_of_ble_eq_true rfl) dX3_readTerm_2 ⟨Nat.le_of_ble_eq_true rfl, Nat.le_of_ble_eq_true rfl⟩) (fun v2 u H locs hz9 hH hS => ?_)
  obtain ⟨n2_0_2, n2_0_3, n2_0_4, n2_0_5, n2_0_6, n2_0_7, rfl, l_v2, u_v2, x_v20, x_v21, x_v22⟩ := hz9
  have hH : HT D cs A T (tk :: y0 :: O) ((tk, .inr (7, [.ref y0, .int y1, .int n2_0_2, .int n2_0_3, .int n2_0_4, .int n2_0_5, .int n2_0_6, .int n2_0_7])) :: (y0, .inl (cs.1, 900, .inl ft)) :: X) H := hH
  refine W.widen (k := 0) (n := 0) (Nat.le_of_ble_eq_true rfl) (Nat.le_of_ble_eq_true rfl) ?_
  refine lv_istore_n (lv' := [(2, .int v2), (0, .ref a0), (1, .int x1)]) hx hb dX3_readTerm_5 rfl hl (by decide) rfl (fun ls hl => ?_)
  refine lv_iconst (v := 0) hx hb dX3_readTerm_6 (by decide) ?_
  have J8 : ∀ (n : Nat) (p8_3 : Int32) (p8_2 : Int32) (f8_102 : Int32) (f8_103 : Int32) (f8_104 : Int32) (f8_105 : Int32) (f8_106 : Int32) (f8_107 : Int32) (H : Heap) (locs : List Loc) (ls : Array Slot), (900 - p8_3.toInt).toNat = n → (0 ≤ p8_3.toInt) → (p8_3.toInt ≤ 900) → (0 ≤ p8_2.toInt) → (p8_2.toInt ≤ 1) → (0 ≤ f8_102.toInt) → (f8_102.toInt ≤ 900) → (0 ≤ f8_103.toInt) → (f8_103.toInt ≤ 900) → (LTI t tn [(1, 1)] [(2, 1)] y2 p8_2 f8_102 f8_103 f8_104 f8_105 f8_106 f8_107 y7) → (y2.toInt ≤ f8_102.toInt ∧ f8_102.toInt ≤ f8_103.toInt ∧ f8_103.toInt ≤ y1.toInt) → (p8_2.toInt = 0 ∨ p8_3.toInt ≤ f8_102.toInt) → HT D cs A T (tk :: y0 :: O) ((tk, .inr (7, [.ref y0, .int y1, .int f8_102, .int f8_103, .int f8_104, .int f8_105, .int f8_106, .int f8_107])) :: (y0, .inl (cs.1, 900, .inl ft)) :: X) H → va_S A s.heap H locs → lv_has ls 4 [(3, .int p8_3), (2, .int p8_2), (0, .ref a0), (1, .int x1)] → W p l e { frames := 22, cells := 0, slots := 0, locals := 494 } s m [.ref a0, .int x1].toArray below meth c H locs 0 0 (MQ below (Ti D cs (fun r u => ∃ (n0_2 : Int32) (n0_3 : Int32) (n0_4 : Int32) (n0_5 : Int32) (n0_6 : Int32) (n0_7 : Int32), u = (T, tk :: y0 :: O, (tk, .inr (7, [.ref y0, .int y1, .int n0_2, .int n0_3, .int n0_4, .int n0_5, .int n0_6, .int n0_7])) :: (y0, .inl (cs.1, 900, .inl ft)) :: X) ∧ 0 ≤ r.toInt ∧ r.toInt ≤ 1 ∧ (r.toInt = 0 ∨ (TSS t tn n0_2 n0_3 n0_4 n0_5 ∧ n0_6.toInt = 0 ∧ n0_7.toInt = y7.toInt ∧ GL t tn [(1, 1)] [] y2 n0_2)) ∧ (r.toInt ≠ 0 ∨ BL t tn [(1, 1)] y2 n0_6 n0_7) ∧ (y2.toInt ≤ n0_2.toInt ∧ n0_2.toInt ≤ n0_3.toInt ∧ n0_3.toInt ≤ y1.toInt)) A) [.ref a0, .int x1].toArray s 0 0 A) (F0 m 8 ls []) := by
    intro n
    induction n using Nat.strongRecOn with
    | _ n ih8 =>
      intro p8_3 p8_2 f8_102 f8_103 f8_104 f8_105 f8_106 f8_107 H locs ls hm8 l_p8_3 u_p8_3 l_p8_2 u_p8_2 l_f8_102 u_f8_102 l_f8_103 u_f8_103 i8t i8n i8c hH hS hl
      refine lv_iload_n hx hb dX3_readTerm_8 rfl (lv_at hl 0 rfl) ?_
      refine lv_sipush (v := 900) hx hb dX3_readTerm_9 (by decide) ?_
      refine lv_icmp_ge (tgt := 57) hx hb dX3_readTerm_12 (by decide) (fun c12 => ?_) (fun c12 => ?_)
      · skip
        have tc12 := f_ge (k := 900) (by decide) c12
        have hk9 : p8_2.toInt = 0 ∨ GL t tn [(2, 1)] [] f8_102 f8_102 := by first | (refine Or.inl ?_; omega) | exact Or.inr (fun _ _ => st_tN x_v251) | (by_cases q9 : p8_2.toInt = 0; exact Or.inl q9; refine Or.inr (fun _ _ => st_tN ?_); have q8 := LTI.ok i8t q9; have q7 := q8.1.b; rw [kd_end (by omega)]; decide)
        have hz9 := LTI.en i8t hk9
        refine lv_iload_n hx hb dX3_readTerm_57 rfl (lv_at hl 1 rfl) ?_
        exact te_z hx hb hr hlocks (nar01 (by omega) (by omega)) hH hS (⟨f8_102, f8_103, f8_104, f8_105, f8_106, f8_107, rfl, by omega, by omega, hz9.1, hz9.2, (by omega)⟩) dX3_readTerm_58
      · skip
        have tc12 := f_nge (k := 900) (by decide) c12
        refine lv_iload_n hx hb dX3_readTerm_15 rfl (lv_at hl 1 rfl) ?_
        refine lv_if_eq (tgt := 57) hx hb dX3_readTerm_16 (by decide) (fun c16 => ?_) (fun c16 => ?_)
        · skip
          have tc16 := f_eq (k := 0) (by decide) c16
          have hk9 : p8_2.toInt = 0 ∨ GL t tn [(2, 1)] [] f8_102 f8_102 := by first | (refine Or.inl ?_; omega) | exact Or.inr (fun _ _ => st_tN x_v251) | (by_cases q9 : p8_2.toInt = 0; exact Or.inl q9; refine Or.inr (fun _ _ => st_tN ?_); have q8 := LTI.ok i8t q9; have q7 := q8.1.b; rw [kd_end (by omega)]; decide)
          have hz9 := LTI.en i8t hk9
          refine lv_iload_n hx hb dX3_readTerm_57 rfl (lv_at hl 1 rfl) ?_
          exact te_z hx hb hr hlocks (nar01 (by omega) (by omega)) hH hS (⟨f8_102, f8_103, f8_104, f8_105, f8_106, f8_107, rfl, by omega, by omega, hz9.1, hz9.2, (by omega)⟩) dX3_readTerm_58
        · skip
          have tc16 := f_ne (k := 0) (by decide) c16
          have h19 := LTI.ok i8t (by omega)
          have hb19 := h19.1.b
          have hc19 := h19.1.cs
          refine lv_aload_n hx hb dX3_readTerm_19 rfl (lv_at hl 2 rfl) ?_
          refine t_get (ci := 3) (lst := ft3 0 0) (C := RX3) (F := TX3) (N := 3) hx hb hts uX3 hown hkb hH t_a0 (hO.no t_a0 (by decide)) (fun _ h9 => h9) rfl rfl 0 (by decide) rfl kw_82 (fun _ h9 => h9) dX3_readTerm_20 (fun v9 h9 => ?_)
          obtain ⟨v20, rfl, t_v20⟩ := h9
          have e9 := (hU7 _ _ t_v20).symm
          subst e9
          refine lv_bipush (v := 42) hx hb dX3_readTerm_23 (by decide) ?_
          have z9_42 : (42 : Int32).toInt = 42 := by decide
          refine tk_i hH hS hA (tr_V (n := 1) (As := [.int 42]) hx hb hml hown hts hkb hH (ox_map hOX rfl) hks hE hS hA (s_Tok_isSign l D cs kf T O X tk (42) y0 y1 f8_102 f8_103 f8_104 f8_105 f8_106 f8_107 ft t tn 34 t_tk t_y0 (by omega) (by omega) (by omega) (by omega) (by omega) (by omega) (by omega) htb h19.1 (by decide) (by decide) (hO.sub (by decide))) kw_646 kw_615 kw_616 kw_3 kw_617 (by decide +kernel) ⟨Nat.le_of_ble_eq_true rfl, Nat.le_of_ble_eq_true rfl⟩ (x_recv (ci := 7) hkb hH 0 rfl rfl) rfl rfl hl.1 (Nat.le_of_ble_eq_true rfl) dX3_readTerm_25 ⟨Nat.le_of_ble_eq_true rfl, Nat.le_of_ble_eq_true rfl⟩) (fun v25 u H locs hz9 hH hS => ?_)
          obtain ⟨rfl, l_v25, u_v25, x_v250, x_v251⟩ := hz9
          have hH : HT D cs A T (tk :: y0 :: O) ((tk, .inr (7, [.ref y0, .int y1, .int f8_102, .int f8_103, .int f8_104, .int f8_105, .int f8_106, .int f8_107])) :: (y0, .inl (cs.1, 900, .inl ft)) :: X) H := hH
          refine W.widen (k := 0) (n := 0) (Nat.le_of_ble_eq_true rfl) (Nat.le_of_ble_eq_true rfl) ?_
          refine lv_if_eq (tgt := 57) hx hb dX3_readTerm_28 (by decide) (fun c28 => ?_) (fun c28 => ?_)
          · skip
            have tc28 := f_eq (k := 0) (by decide) c28
            clear x_v250
            replace x_v251 := x_v251.resolve_left (fun q9 => q9 tc28)
            have hk9 : p8_2.toInt = 0 ∨ GL t tn [(2, 1)] [] f8_102 f8_102 := by first | (refine Or.inl ?_; omega) | exact Or.inr (fun _ _ => st_tN x_v251) | (by_cases q9 : p8_2.toInt = 0; exact Or.inl q9; refine Or.inr (fun _ _ => st_tN ?_); have q8 := LTI.ok i8t q9; have q7 := q8.1.b; rw [kd_end (by omega)]; decide)
            have hz9 := LTI.en i8t hk9
            refine lv_iload_n hx hb dX3_readTerm_57 rfl (lv_at hl 1 rfl) ?_
            exact te_z hx hb hr hlocks (nar01 (by omega) (by omega)) hH hS (⟨f8_102, f8_103, f8_104, f8_105, f8_106, f8_107, rfl, by omega, by omega, hz9.1, hz9.2, (by omega)⟩) dX3_readTerm_58
          · skip
            have tc28 := f_ne (k := 0) (by decide) c28
            replace x_v250 := x_v250.resolve_left tc28
            clear x_v251
            refine lv_aload_n hx hb dX3_readTerm_31 rfl (lv_at hl 2 rfl) ?_
            refine t_get (ci := 3) (lst := ft3 0 0) (C := RX3) (F := TX3) (N := 3) hx hb hts uX3 hown hkb hH t_a0 (hO.no t_a0 (by decide)) (fun _ h9 => h9) rfl rfl 0 (by decide) rfl kw_82 (fun _ h9 => h9) dX3_readTerm_32 (fun v9 h9 => ?_)
            obtain ⟨v32, rfl, t_v32⟩ := h9
            have e9 := (hU7 _ _ t_v32).symm
            subst e9
            have hl9 := h19.1.lt (by omega)
            refine tk_v hH hS hA (tr_V (n := 0) (As := []) hx hb hml hown hts hkb hH (ox_map hOX rfl) hks hE hS hA (s_Tok_go l D cs kf T O X tk y0 y1 f8_102 f8_103 f8_104 f8_105 f8_106 f8_107 ft t tn t_tk t_y0 (by omega) (by omega) (by omega) (by omega) (by omega) (by omega) (by omega) htb (by have q9 := (h19.1).b; omega) (hO.sub (by decide))) kw_641 kw_453 kw_454 kw_3 kw_455 (by decide +kernel) ⟨Nat.le_of_ble_eq_true rfl, Nat.le_of_ble_eq_true rfl⟩ (x_recv (ci := 7) hkb hH 0 rfl rfl) rfl rfl hl.1 (Nat.le_of_ble_eq_true rfl) dX3_readTerm_35 ⟨Nat.le_of_ble_eq_true rfl, Nat.le_of_ble_eq_true rfl⟩) (fun u H locs hz9 hH hS => ?_)
            obtain ⟨n35_0_2, n35_0_3, n35_0_4, n35_0_5, rfl, x_v350, x_v351, x_v352⟩ := hz9
            have px35 := TSS.nx h19.1 x_v351
            have hH : HT D cs A T (tk :: y0 :: O) ((tk, .inr (7, [.ref y0, .int y1, .int n35_0_2, .int n35_0_3, .int n35_0_4, .int n35_0_5, .int f8_106, .int f8_107])) :: (y0, .inl (cs.1, 900, .inl ft)) :: X) H := hH
            refine W.widen (k := 0) (n := 0) (Nat.le_of_ble_eq_true rfl) (Nat.le_of_ble_eq_true rfl) ?_
            refine lv_aload_n hx hb dX3_readTerm_38 rfl (lv_at hl 2 rfl) ?_
            refine lv_iload_n hx hb dX3_readTerm_39 rfl (lv_at hl 3 rfl) ?_
            refine tk_i hH hS hA (tr_V (n := 1) (As := [.int x1]) hx hb hml hown hts hkb hH (ox_map hOX rfl) hks hE hS hA (s_LR_readAtom1 l D cs kf T O X a0 x1 y0 y1 n35_0_2 n35_0_3 n35_0_4 n35_0_5 f8_106 f8_107 ft t tn tk t_a0 (by omega) (by omega) t_y0 (by omega) (by omega) (by omega) (by omega) (by omega) (by omega) (by omega) htb x_v350 t_tk hU7 (by omega) (hO.sub (by decide))) kw_656 kw_658 ks_12 kw_4 kw_659 (by decide +kernel) ⟨Nat.le_of_ble_eq_true rfl, Nat.le_of_ble_eq_true rfl⟩ (HT.recv (ci := 3) hkb hH t_a0 (hO.no t_a0 (by decide)) rfl) rfl rfl hl.1 (Nat.le_of_ble_eq_true rfl) dX3_readTerm_40 ⟨Nat.le_of_ble_eq_true rfl, Nat.le_of_ble_eq_true rfl⟩) (fun v40 u H locs hz9 hH hS => ?_)
            obtain ⟨n40_0_2, n40_0_3, n40_0_4, n40_0_5, n40_0_6, n40_0_7, rfl, l_v40, u_v40, x_v400, x_v401, x_v402⟩ := hz9
            have hH : HT D cs A T (tk :: y0 :: O) ((tk, .inr (7, [.ref y0, .int y1, .int n40_0_2, .int n40_0_3, .int n40_0_4, .int n40_0_5, .int n40_0_6, .int n40_0_7])) :: (y0, .inl (cs.1, 900, .inl ft)) :: X) H := hH
            refine W.widen (k := 0) (n := 0) (Nat.le_of_ble_eq_true rfl) (Nat.le_of_ble_eq_true rfl) ?_
            refine lv_istore_n (lv' := [(2, .int v40), (3, .int p8_3), (0, .ref a0), (1, .int x1)]) hx hb dX3_readTerm_43 rfl hl (by decide) rfl (fun ls hl => ?_)
            refine lv_aload_n hx hb dX3_readTerm_44 rfl (lv_at hl 2 rfl) ?_
            refine lv_bipush (v := 7) hx hb dX3_readTerm_45 (by decide) ?_
            refine lv_iconst (v := 0) hx hb dX3_readTerm_47 (by decide) ?_
            refine tk_v hH hS hA (tr_V (n := 2) (As := [.int 7, .int 0]) hx hb hml hown hts hkb hH (ox_map hOX rfl) hks hE hS hA (s_LR_put l D cs kf T (tk :: y0 :: O) ((tk, .inr (7, [.ref y0, .int y1, .int n40_0_2, .int n40_0_3, .int n40_0_4, .int n40_0_5, .int n40_0_6, .int n40_0_7])) :: (y0, .inl (cs.1, 900, .inl ft)) :: X) a0 (7) (0) t_a0 (hO.sub (by decide))) kw_642 kw_644 ks_9 kw_4 kw_645 (by decide +kernel) ⟨Nat.le_of_ble_eq_true rfl, Nat.le_of_ble_eq_true rfl⟩ (HT.recv (ci := 3) hkb hH t_a0 (hO.no t_a0 (by decide)) rfl) rfl rfl hl.1 (Nat.le_of_ble_eq_true rfl) dX3_readTerm_48 ⟨Nat.le_of_ble_eq_true rfl, Nat.le_of_ble_eq_true rfl⟩) (fun u H locs hz9 hH hS => ?_)
            have hz9 : u = (T, tk :: y0 :: O, (tk, .inr (7, [.ref y0, .int y1, .int n40_0_2, .int n40_0_3, .int n40_0_4, .int n40_0_5, .int n40_0_6, .int n40_0_7])) :: (y0, .inl (cs.1, 900, .inl ft)) :: X) := hz9
            subst hz9
            have hH : HT D cs A T (tk :: y0 :: O) ((tk, .inr (7, [.ref y0, .int y1, .int n40_0_2, .int n40_0_3, .int n40_0_4, .int n40_0_5, .int n40_0_6, .int n40_0_7])) :: (y0, .inl (cs.1, 900, .inl ft)) :: X) H := hH
            refine W.widen (k := 0) (n := 0) (Nat.le_of_ble_eq_true rfl) (Nat.le_of_ble_eq_true rfl) ?_
            obtain ⟨v51, ev51⟩ : ∃ y : Int32, y = p8_3 + 1 := ⟨_, rfl⟩
            have tv51 : v51.toInt = p8_3.toInt + (1) := by rw [ev51]; exact add_i rfl (by decide) (by omega) (by omega)
            refine lv_iinc (v := v51) (lv' := [(3, .int v51), (2, .int v40), (0, .ref a0), (1, .int x1)]) hx hb dX3_readTerm_51 hl (k := 1) rfl (by rw [ev51]; rfl) (by decide) rfl (fun ls hl => ?_)
            refine lv_goto (tgt := 8) hx hb dX3_readTerm_54 (by decide) ?_
            exact ih8 _ (by omega) v51 v40 n40_0_2 n40_0_3 n40_0_4 n40_0_5 n40_0_6 n40_0_7 _ _ _ rfl (by omega) (by omega) (by omega) (by omega) (by omega) (by omega) (by omega) (by omega) (by first | (refine LTI.st (fun _ _ => st_t) x_v20 x_v21 l_v2 u_v2 rfl) | (refine LTI.st (h19.2.2.2.tr (GL_nx (fun _ _ => st_tY x_v250) px35)) x_v400 x_v401 l_v40 u_v40 ?_; omega)) (by omega) (by omega) hH hS (lv_sub hl [0, 1, 2, 3] rfl)
  refine lv_istore_n (lv' := [(3, .int 0), (2, .int v2), (0, .ref a0), (1, .int x1)]) hx hb dX3_readTerm_7 rfl hl (by decide) rfl (fun ls hl => ?_)
  have z_0 : (0 : Int32).toInt = 0 := by decide
  exact J8 _ 0 v2 n2_0_2 n2_0_3 n2_0_4 n2_0_5 n2_0_6 n2_0_7 _ _ _ rfl (by decide) (by decide) (by omega) (by omega) (by omega) (by omega) (by omega) (by omega) (by first | (refine LTI.st (fun _ _ => st_t) x_v20 x_v21 l_v2 u_v2 rfl) | (refine LTI.st (h19.2.2.2.tr (GL_nx (fun _ _ => st_tY x_v250) px35)) x_v400 x_v401 l_v40 u_v40 ?_; omega)) (by omega) (by omega) hH hS (lv_sub hl [0, 1, 2, 3] rfl)
set_option maxHeartbeats 4000000 in
set_option maxRecDepth 100000 in
theorem s_LR_readSum1 (l : Launch) (D : va_G) (cs : CS) (kf : KF) (T : TF) (O : List Nat) (X : va_W) (a0 : Nat) (x1 : Int32) (y0 : Nat) (y1 : Int32) (y2 : Int32) (y3 : Int32) (y4 : Int32) (y5 : Int32) (y6 : Int32) (y7 : Int32) (ft : Nat → Int32) (t : Tp) (tn : Nat) (tk : Nat) (t_a0 : T a0 = some (13, 0, 0)) (l_x1 : 1 ≤ x1.toInt) (u_x1 : x1.toInt ≤ 1) (t_y0 : T y0 = some (0, 900, 0)) (l_y1 : 0 ≤ y1.toInt) (u_y1 : y1.toInt ≤ 900) (l_y2 : 0 ≤ y2.toInt) (u_y2 : y2.toInt ≤ 900) (l_y3 : 0 ≤ y3.toInt) (u_y3 : y3.toInt ≤ 900) (hn : y1.toInt = (tn : Int)) (htb : TB ft t) (hto : TSS t tn y2 y3 y4 y5) (t_tk : T tk = some (17, 0, 0)) (hU7 : ∀ (b : Nat) (q : Nat), T b = some (17, 0, q) → b = tk) (hz : y6.toInt = 0) (hO : okO T (tk :: y0 :: O) [1, 13]) : TK l D cs kf yX3_readSum cX3_readSum 5 (some (.boolean)) { frames := 23, cells := 0, slots := 0, locals := 517 } [.ref a0, .int x1] T (tk :: y0 :: O) ((tk, .inr (7, [.ref y0, .int y1, .int y2, .int y3, .int y4, .int y5, .int y6, .int y7])) :: (y0, .inl (cs.1, 900, .inl ft)) :: X) (Ti D cs (fun r u => ∃ (n0_2 : Int32) (n0_3 : Int32) (n0_4 : Int32) (n0_5 : Int32) (n0_6 : Int32) (n0_7 : Int32), u = (T, tk :: y0 :: O, (tk, .inr (7, [.ref y0, .int y1, .int n0_2, .int n0_3, .int n0_4, .int n0_5, .int n0_6, .int n0_7])) :: (y0, .inl (cs.1, 900, .inl ft)) :: X) ∧ 0 ≤ r.toInt ∧ r.toInt ≤ 1 ∧ (r.toInt = 0 ∨ (TSS t tn n0_2 n0_3 n0_4 n0_5 ∧ n0_6.toInt = 0 ∧ n0_7.toInt = y7.toInt ∧ GL t tn [(3, 1)] [] y2 n0_2)) ∧ (r.toInt ≠ 0 ∨ BL t tn [(3, 1)] y2 n0_6 n0_7) ∧ (y2.toInt ≤ n0_2.toInt ∧ n0_2.toInt ≤ n0_3.toInt ∧ n0_3.toInt ≤ y1.toInt))) := by
  refine tk_of (by decide) (Nat.le_of_ble_eq_true rfl) (fun p e s m below meth c ls A H locs hx hb hr hml hown hts hlocks hnm hkb hH hS hA hOX hks hE hl => ?_)
  have hown : s.vm.findClass RX3 = some m.cls := hown
  have hl : lv_has ls 5 [(0, .ref a0), (1, .int x1)] := hl
  have hOXf := hOX
  have hb9 := hto.b
  have hc9 := hto.cs
  refine lv_aload_n hx hb dX3_readSum_0 rfl (lv_at hl 0 rfl) ?_
  refine lv_iload_n hx hb dX3_readSum_1 rfl (lv_at hl 1 rfl) ?_
  refine tk_i hH hS hA (tr_V (n := 1) (As := [.int x1]) hx hb hml hown hts hkb hH (ox_map hOX rfl) hks hE hS hA (s_LR_readTerm1 l D cs kf T O X a0 x1 y0 y1 y2 y3 y4 y5 y6 y7 ft t tn tk t_a0 (by omega) (by omega) t_y0 (by omega) (by omega) (by omega) (by omega) (by omega) (by omega) (by omega) htb hto t_tk hU7 (by omega) (hO.sub (by decide))) kw_652 kw_654 ks_11 kw_4 kw_655 (by decide +kernel) ⟨Nat.le_of_ble_eq_true rfl, Nat.le_of_ble_eq_true rfl⟩ (HT.recv (ci := 3) hkb hH t_a0 (hO.no t_a0 (by decide)) rfl) rfl rfl hl.1 (Nat.le_of_ble_eq_true rfl) dX3_readSum_2 ⟨Nat.le_of_ble_eq_true rfl, Nat.le_of_ble_eq_true rfl⟩) (fun v2 u H locs hz9 hH hS => ?_)
  obtain ⟨n2_0_2, n2_0_3, n2_0_4, n2_0_5, n2_0_6, n2_0_7, rfl, l_v2, u_v2, x_v20, x_v21, x_v22⟩ := hz9
  have hH : HT D cs A T (tk :: y0 :: O) ((tk, .inr (7, [.ref y0, .int y1, .int n2_0_2, .int n2_0_3, .int n2_0_4, .int n2_0_5, .int n2_0_6, .int n2_0_7])) :: (y0, .inl (cs.1, 900, .inl ft)) :: X) H := hH
  refine W.widen (k := 0) (n := 0) (Nat.le_of_ble_eq_true rfl) (Nat.le_of_ble_eq_true rfl) ?_
  refine lv_istore_n (lv' := [(2, .int v2), (0, .ref a0), (1, .int x1)]) hx hb dX3_readSum_5 rfl hl (by decide) rfl (fun ls hl => ?_)
  refine lv_iconst (v := 0) hx hb dX3_readSum_6 (by decide) ?_
  have J8 : ∀ (n : Nat) (p8_3 : Int32) (p8_2 : Int32) (f8_102 : Int32) (f8_103 : Int32) (f8_104 : Int32) (f8_105 : Int32) (f8_106 : Int32) (f8_107 : Int32) (H : Heap) (locs : List Loc) (ls : Array Slot), (900 - p8_3.toInt).toNat = n → (0 ≤ p8_3.toInt) → (p8_3.toInt ≤ 900) → (0 ≤ p8_2.toInt) → (p8_2.toInt ≤ 1) → (0 ≤ f8_102.toInt) → (f8_102.toInt ≤ 900) → (0 ≤ f8_103.toInt) → (f8_103.toInt ≤ 900) → (LTI t tn [(3, 1)] [(4, 1)] y2 p8_2 f8_102 f8_103 f8_104 f8_105 f8_106 f8_107 y7) → (y2.toInt ≤ f8_102.toInt ∧ f8_102.toInt ≤ f8_103.toInt ∧ f8_103.toInt ≤ y1.toInt) → (p8_2.toInt = 0 ∨ p8_3.toInt ≤ f8_102.toInt) → HT D cs A T (tk :: y0 :: O) ((tk, .inr (7, [.ref y0, .int y1, .int f8_102, .int f8_103, .int f8_104, .int f8_105, .int f8_106, .int f8_107])) :: (y0, .inl (cs.1, 900, .inl ft)) :: X) H → va_S A s.heap H locs → lv_has ls 5 [(3, .int p8_3), (2, .int p8_2), (0, .ref a0), (1, .int x1)] → W p l e { frames := 23, cells := 0, slots := 0, locals := 517 } s m [.ref a0, .int x1].toArray below meth c H locs 0 0 (MQ below (Ti D cs (fun r u => ∃ (n0_2 : Int32) (n0_3 : Int32) (n0_4 : Int32) (n0_5 : Int32) (n0_6 : Int32) (n0_7 : Int32), u = (T, tk :: y0 :: O, (tk, .inr (7, [.ref y0, .int y1, .int n0_2, .int n0_3, .int n0_4, .int n0_5, .int n0_6, .int n0_7])) :: (y0, .inl (cs.1, 900, .inl ft)) :: X) ∧ 0 ≤ r.toInt ∧ r.toInt ≤ 1 ∧ (r.toInt = 0 ∨ (TSS t tn n0_2 n0_3 n0_4 n0_5 ∧ n0_6.toInt = 0 ∧ n0_7.toInt = y7.toInt ∧ GL t tn [(3, 1)] [] y2 n0_2)) ∧ (r.toInt ≠ 0 ∨ BL t tn [(3, 1)] y2 n0_6 n0_7) ∧ (y2.toInt ≤ n0_2.toInt ∧ n0_2.toInt ≤ n0_3.toInt ∧ n0_3.toInt ≤ y1.toInt)) A) [.ref a0, .int x1].toArray s 0 0 A) (F0 m 8 ls []) := by
    intro n
    induction n using Nat.strongRecOn with
    | _ n ih8 =>
      intro p8_3 p8_2 f8_102 f8_103 f8_104 f8_105 f8_106 f8_107 H locs ls hm8 l_p8_3 u_p8_3 l_p8_2 u_p8_2 l_f8_102 u_f8_102 l_f8_103 u_f8_103 i8t i8n i8c hH hS hl
      refine lv_iload_n hx hb dX3_readSum_8 rfl (lv_at hl 0 rfl) ?_
      refine lv_sipush (v := 900) hx hb dX3_readSum_9 (by decide) ?_
      refine lv_icmp_ge (tgt := 89) hx hb dX3_readSum_12 (by decide) (fun c12 => ?_) (fun c12 => ?_)
      · skip
        have tc12 := f_ge (k := 900) (by decide) c12
        have hk9 : p8_2.toInt = 0 ∨ GL t tn [(4, 1)] [] f8_102 f8_102 := by first | (refine Or.inl ?_; omega) | exact Or.inr (fun _ _ => st_sN (by omega)) | (by_cases q9 : p8_2.toInt = 0; exact Or.inl q9; refine Or.inr (fun _ _ => st_sN ?_); have q8 := LTI.ok i8t q9; have q7 := q8.1.b; rw [kd_end (by omega)]; decide)
        have hz9 := LTI.en i8t hk9
        refine lv_iload_n hx hb dX3_readSum_89 rfl (lv_at hl 1 rfl) ?_
        exact te_z hx hb hr hlocks (nar01 (by omega) (by omega)) hH hS (⟨f8_102, f8_103, f8_104, f8_105, f8_106, f8_107, rfl, by omega, by omega, hz9.1, hz9.2, (by omega)⟩) dX3_readSum_90
      · skip
        have tc12 := f_nge (k := 900) (by decide) c12
        refine lv_iload_n hx hb dX3_readSum_15 rfl (lv_at hl 1 rfl) ?_
        refine lv_if_eq (tgt := 89) hx hb dX3_readSum_16 (by decide) (fun c16 => ?_) (fun c16 => ?_)
        · skip
          have tc16 := f_eq (k := 0) (by decide) c16
          have hk9 : p8_2.toInt = 0 ∨ GL t tn [(4, 1)] [] f8_102 f8_102 := by first | (refine Or.inl ?_; omega) | exact Or.inr (fun _ _ => st_sN (by omega)) | (by_cases q9 : p8_2.toInt = 0; exact Or.inl q9; refine Or.inr (fun _ _ => st_sN ?_); have q8 := LTI.ok i8t q9; have q7 := q8.1.b; rw [kd_end (by omega)]; decide)
          have hz9 := LTI.en i8t hk9
          refine lv_iload_n hx hb dX3_readSum_89 rfl (lv_at hl 1 rfl) ?_
          exact te_z hx hb hr hlocks (nar01 (by omega) (by omega)) hH hS (⟨f8_102, f8_103, f8_104, f8_105, f8_106, f8_107, rfl, by omega, by omega, hz9.1, hz9.2, (by omega)⟩) dX3_readSum_90
        · skip
          have tc16 := f_ne (k := 0) (by decide) c16
          have h19 := LTI.ok i8t (by omega)
          have hb19 := h19.1.b
          have hc19 := h19.1.cs
          refine lv_aload_n hx hb dX3_readSum_19 rfl (lv_at hl 2 rfl) ?_
          refine t_get (ci := 3) (lst := ft3 0 0) (C := RX3) (F := TX3) (N := 3) hx hb hts uX3 hown hkb hH t_a0 (hO.no t_a0 (by decide)) (fun _ h9 => h9) rfl rfl 0 (by decide) rfl kw_82 (fun _ h9 => h9) dX3_readSum_20 (fun v9 h9 => ?_)
          obtain ⟨v20, rfl, t_v20⟩ := h9
          have e9 := (hU7 _ _ t_v20).symm
          subst e9
          refine lv_bipush (v := 43) hx hb dX3_readSum_23 (by decide) ?_
          have z9_43 : (43 : Int32).toInt = 43 := by decide
          refine tk_i hH hS hA (tr_V (n := 1) (As := [.int 43]) hx hb hml hown hts hkb hH (ox_map hOX rfl) hks hE hS hA (s_Tok_isSign l D cs kf T O X tk (43) y0 y1 f8_102 f8_103 f8_104 f8_105 f8_106 f8_107 ft t tn 32 t_tk t_y0 (by omega) (by omega) (by omega) (by omega) (by omega) (by omega) (by omega) htb h19.1 (by decide) (by decide) (hO.sub (by decide))) kw_646 kw_615 kw_616 kw_3 kw_617 (by decide +kernel) ⟨Nat.le_of_ble_eq_true rfl, Nat.le_of_ble_eq_true rfl⟩ (x_recv (ci := 7) hkb hH 0 rfl rfl) rfl rfl hl.1 (Nat.le_of_ble_eq_true rfl) dX3_readSum_25 ⟨Nat.le_of_ble_eq_true rfl, Nat.le_of_ble_eq_true rfl⟩) (fun v25 u H locs hz9 hH hS => ?_)
          obtain ⟨rfl, l_v25, u_v25, x_v250, x_v251⟩ := hz9
          have hH : HT D cs A T (tk :: y0 :: O) ((tk, .inr (7, [.ref y0, .int y1, .int f8_102, .int f8_103, .int f8_104, .int f8_105, .int f8_106, .int f8_107])) :: (y0, .inl (cs.1, 900, .inl ft)) :: X) H := hH
          refine W.widen (k := 0) (n := 0) (Nat.le_of_ble_eq_true rfl) (Nat.le_of_ble_eq_true rfl) ?_
          refine lv_if_ne (tgt := 43) hx hb dX3_readSum_28 (by decide) (fun c28 => ?_) (fun c28 => ?_)
          · skip
            have tc28 := f_ne (k := 0) (by decide) c28
            replace x_v250 := x_v250.resolve_left tc28
            clear x_v251
            refine lv_aload_n hx hb dX3_readSum_43 rfl (lv_at hl 2 rfl) ?_
            refine t_get (ci := 3) (lst := ft3 0 0) (C := RX3) (F := TX3) (N := 3) hx hb hts uX3 hown hkb hH t_a0 (hO.no t_a0 (by decide)) (fun _ h9 => h9) rfl rfl 0 (by decide) rfl kw_82 (fun _ h9 => h9) dX3_readSum_44 (fun v9 h9 => ?_)
            obtain ⟨v44, rfl, t_v44⟩ := h9
            have e9 := (hU7 _ _ t_v44).symm
            subst e9
            refine lv_bipush (v := 43) hx hb dX3_readSum_47 (by decide) ?_
            have z9_43 : (43 : Int32).toInt = 43 := by decide
            refine tk_i hH hS hA (tr_V (n := 1) (As := [.int 43]) hx hb hml hown hts hkb hH (ox_map hOX rfl) hks hE hS hA (s_Tok_isSign l D cs kf T O X tk (43) y0 y1 f8_102 f8_103 f8_104 f8_105 f8_106 f8_107 ft t tn 32 t_tk t_y0 (by omega) (by omega) (by omega) (by omega) (by omega) (by omega) (by omega) htb h19.1 (by decide) (by decide) (hO.sub (by decide))) kw_646 kw_615 kw_616 kw_3 kw_617 (by decide +kernel) ⟨Nat.le_of_ble_eq_true rfl, Nat.le_of_ble_eq_true rfl⟩ (x_recv (ci := 7) hkb hH 0 rfl rfl) rfl rfl hl.1 (Nat.le_of_ble_eq_true rfl) dX3_readSum_49 ⟨Nat.le_of_ble_eq_true rfl, Nat.le_of_ble_eq_true rfl⟩) (fun v49 u H locs hz9 hH hS => ?_)
            obtain ⟨rfl, l_v49, u_v49, x_v490, x_v491⟩ := hz9
            have hH : HT D cs A T (tk :: y0 :: O) ((tk, .inr (7, [.ref y0, .int y1, .int f8_102, .int f8_103, .int f8_104, .int f8_105, .int f8_106, .int f8_107])) :: (y0, .inl (cs.1, 900, .inl ft)) :: X) H := hH
            refine W.widen (k := 0) (n := 0) (Nat.le_of_ble_eq_true rfl) (Nat.le_of_ble_eq_true rfl) ?_
            refine lv_if_eq (tgt := 59) hx hb dX3_readSum_52 (by decide) (fun c52 => ?_) (fun c52 => ?_)
            · skip
              have tc52 := f_eq (k := 0) (by decide) c52
              clear x_v490
              replace x_v491 := x_v491.resolve_left (fun q9 => q9 tc52)
              refine lv_bipush (v := 6) hx hb dX3_readSum_59 (by decide) ?_
              refine lv_istore (lv' := [(4, .int 6), (3, .int p8_3), (2, .int p8_2), (0, .ref a0), (1, .int x1)]) hx hb dX3_readSum_61 hl (by decide) rfl (fun ls hl => ?_)
              refine lv_aload_n hx hb dX3_readSum_63 rfl (lv_at hl 3 rfl) ?_
              refine t_get (ci := 3) (lst := ft3 0 0) (C := RX3) (F := TX3) (N := 3) hx hb hts uX3 hown hkb hH t_a0 (hO.no t_a0 (by decide)) (fun _ h9 => h9) rfl rfl 0 (by decide) rfl kw_82 (fun _ h9 => h9) dX3_readSum_64 (fun v9 h9 => ?_)
              obtain ⟨v64, rfl, t_v64⟩ := h9
              have e9 := (hU7 _ _ t_v64).symm
              subst e9
              have hl9 := h19.1.lt (by omega)
              refine tk_v hH hS hA (tr_V (n := 0) (As := []) hx hb hml hown hts hkb hH (ox_map hOX rfl) hks hE hS hA (s_Tok_go l D cs kf T O X tk y0 y1 f8_102 f8_103 f8_104 f8_105 f8_106 f8_107 ft t tn t_tk t_y0 (by omega) (by omega) (by omega) (by omega) (by omega) (by omega) (by omega) htb (by have q9 := (h19.1).b; omega) (hO.sub (by decide))) kw_641 kw_453 kw_454 kw_3 kw_455 (by decide +kernel) ⟨Nat.le_of_ble_eq_true rfl, Nat.le_of_ble_eq_true rfl⟩ (x_recv (ci := 7) hkb hH 0 rfl rfl) rfl rfl hl.1 (Nat.le_of_ble_eq_true rfl) dX3_readSum_67 ⟨Nat.le_of_ble_eq_true rfl, Nat.le_of_ble_eq_true rfl⟩) (fun u H locs hz9 hH hS => ?_)
              obtain ⟨n67_0_2, n67_0_3, n67_0_4, n67_0_5, rfl, x_v670, x_v671, x_v672⟩ := hz9
              have px67 := TSS.nx h19.1 x_v671
              have hH : HT D cs A T (tk :: y0 :: O) ((tk, .inr (7, [.ref y0, .int y1, .int n67_0_2, .int n67_0_3, .int n67_0_4, .int n67_0_5, .int f8_106, .int f8_107])) :: (y0, .inl (cs.1, 900, .inl ft)) :: X) H := hH
              refine W.widen (k := 0) (n := 0) (Nat.le_of_ble_eq_true rfl) (Nat.le_of_ble_eq_true rfl) ?_
              refine lv_aload_n hx hb dX3_readSum_70 rfl (lv_at hl 3 rfl) ?_
              refine lv_iload_n hx hb dX3_readSum_71 rfl (lv_at hl 4 rfl) ?_
              refine tk_i hH hS hA (tr_V (n := 1) (As := [.int x1]) hx hb hml hown hts hkb hH (ox_map hOX rfl) hks hE hS hA (s_LR_readTerm1 l D cs kf T O X a0 x1 y0 y1 n67_0_2 n67_0_3 n67_0_4 n67_0_5 f8_106 f8_107 ft t tn tk t_a0 (by omega) (by omega) t_y0 (by omega) (by omega) (by omega) (by omega) (by omega) (by omega) (by omega) htb x_v670 t_tk hU7 (by omega) (hO.sub (by decide))) kw_652 kw_654 ks_11 kw_4 kw_655 (by decide +kernel) ⟨Nat.le_of_ble_eq_true rfl, Nat.le_of_ble_eq_true rfl⟩ (HT.recv (ci := 3) hkb hH t_a0 (hO.no t_a0 (by decide)) rfl) rfl rfl hl.1 (Nat.le_of_ble_eq_true rfl) dX3_readSum_72 ⟨Nat.le_of_ble_eq_true rfl, Nat.le_of_ble_eq_true rfl⟩) (fun v72 u H locs hz9 hH hS => ?_)
              obtain ⟨n72_0_2, n72_0_3, n72_0_4, n72_0_5, n72_0_6, n72_0_7, rfl, l_v72, u_v72, x_v720, x_v721, x_v722⟩ := hz9
              have hH : HT D cs A T (tk :: y0 :: O) ((tk, .inr (7, [.ref y0, .int y1, .int n72_0_2, .int n72_0_3, .int n72_0_4, .int n72_0_5, .int n72_0_6, .int n72_0_7])) :: (y0, .inl (cs.1, 900, .inl ft)) :: X) H := hH
              refine W.widen (k := 0) (n := 0) (Nat.le_of_ble_eq_true rfl) (Nat.le_of_ble_eq_true rfl) ?_
              refine lv_istore_n (lv' := [(2, .int v72), (4, .int 6), (3, .int p8_3), (0, .ref a0), (1, .int x1)]) hx hb dX3_readSum_75 rfl hl (by decide) rfl (fun ls hl => ?_)
              refine lv_aload_n hx hb dX3_readSum_76 rfl (lv_at hl 3 rfl) ?_
              refine lv_iload hx hb dX3_readSum_77 (lv_at hl 1 rfl) ?_
              refine lv_iconst (v := 0) hx hb dX3_readSum_79 (by decide) ?_
              refine tk_v hH hS hA (tr_V (n := 2) (As := [.int 6, .int 0]) hx hb hml hown hts hkb hH (ox_map hOX rfl) hks hE hS hA (s_LR_put l D cs kf T (tk :: y0 :: O) ((tk, .inr (7, [.ref y0, .int y1, .int n72_0_2, .int n72_0_3, .int n72_0_4, .int n72_0_5, .int n72_0_6, .int n72_0_7])) :: (y0, .inl (cs.1, 900, .inl ft)) :: X) a0 (6) (0) t_a0 (hO.sub (by decide))) kw_642 kw_644 ks_9 kw_4 kw_645 (by decide +kernel) ⟨Nat.le_of_ble_eq_true rfl, Nat.le_of_ble_eq_true rfl⟩ (HT.recv (ci := 3) hkb hH t_a0 (hO.no t_a0 (by decide)) rfl) rfl rfl hl.1 (Nat.le_of_ble_eq_true rfl) dX3_readSum_80 ⟨Nat.le_of_ble_eq_true rfl, Nat.le_of_ble_eq_true rfl⟩) (fun u H locs hz9 hH hS => ?_)
              have hz9 : u = (T, tk :: y0 :: O, (tk, .inr (7, [.ref y0, .int y1, .int n72_0_2, .int n72_0_3, .int n72_0_4, .int n72_0_5, .int n72_0_6, .int n72_0_7])) :: (y0, .inl (cs.1, 900, .inl ft)) :: X) := hz9
              subst hz9
              have hH : HT D cs A T (tk :: y0 :: O) ((tk, .inr (7, [.ref y0, .int y1, .int n72_0_2, .int n72_0_3, .int n72_0_4, .int n72_0_5, .int n72_0_6, .int n72_0_7])) :: (y0, .inl (cs.1, 900, .inl ft)) :: X) H := hH
              refine W.widen (k := 0) (n := 0) (Nat.le_of_ble_eq_true rfl) (Nat.le_of_ble_eq_true rfl) ?_
              obtain ⟨v83, ev83⟩ : ∃ y : Int32, y = p8_3 + 1 := ⟨_, rfl⟩
              have tv83 : v83.toInt = p8_3.toInt + (1) := by rw [ev83]; exact add_i rfl (by decide) (by omega) (by omega)
              refine lv_iinc (v := v83) (lv' := [(3, .int v83), (2, .int v72), (4, .int 6), (0, .ref a0), (1, .int x1)]) hx hb dX3_readSum_83 hl (k := 2) rfl (by rw [ev83]; rfl) (by decide) rfl (fun ls hl => ?_)
              refine lv_goto (tgt := 8) hx hb dX3_readSum_86 (by decide) ?_
              exact ih8 _ (by omega) v83 v72 n72_0_2 n72_0_3 n72_0_4 n72_0_5 n72_0_6 n72_0_7 _ _ _ rfl (by omega) (by omega) (by omega) (by omega) (by omega) (by omega) (by omega) (by omega) (by first | (refine LTI.st (fun _ _ => st_s) x_v20 x_v21 l_v2 u_v2 rfl) | (refine LTI.st (h19.2.2.2.tr (GL_nx (fun _ _ => st_sY (Or.inl x_v250)) px67)) x_v720 x_v721 l_v72 u_v72 ?_; omega) | (refine LTI.st (h19.2.2.2.tr (GL_nx (fun _ _ => st_sY (Or.inr x_v370)) px67)) x_v720 x_v721 l_v72 u_v72 ?_; omega)) (by omega) (by omega) hH hS (lv_sub hl [0, 1, 3, 4] rfl)
            · skip
              have tc52 := f_ne (k := 0) (by decide) c52
              replace x_v490 := x_v490.resolve_left tc52
              clear x_v491
              refine lv_iconst (v := 5) hx hb dX3_readSum_55 (by decide) ?_
              refine lv_goto (tgt := 61) hx hb dX3_readSum_56 (by decide) ?_
              refine lv_istore (lv' := [(4, .int 5), (3, .int p8_3), (2, .int p8_2), (0, .ref a0), (1, .int x1)]) hx hb dX3_readSum_61 hl (by decide) rfl (fun ls hl => ?_)
              refine lv_aload_n hx hb dX3_readSum_63 rfl (lv_at hl 3 rfl) ?_
              refine t_get (ci := 3) (lst := ft3 0 0) (C := RX3) (F := TX3) (N := 3) hx hb hts uX3 hown hkb hH t_a0 (hO.no t_a0 (by decide)) (fun _ h9 => h9) rfl rfl 0 (by decide) rfl kw_82 (fun _ h9 => h9) dX3_readSum_64 (fun v9 h9 => ?_)
              obtain ⟨v64, rfl, t_v64⟩ := h9
              have e9 := (hU7 _ _ t_v64).symm
              subst e9
              have hl9 := h19.1.lt (by omega)
              refine tk_v hH hS hA (tr_V (n := 0) (As := []) hx hb hml hown hts hkb hH (ox_map hOX rfl) hks hE hS hA (s_Tok_go l D cs kf T O X tk y0 y1 f8_102 f8_103 f8_104 f8_105 f8_106 f8_107 ft t tn t_tk t_y0 (by omega) (by omega) (by omega) (by omega) (by omega) (by omega) (by omega) htb (by have q9 := (h19.1).b; omega) (hO.sub (by decide))) kw_641 kw_453 kw_454 kw_3 kw_455 (by decide +kernel) ⟨Nat.le_of_ble_eq_true rfl, Nat.le_of_ble_eq_true rfl⟩ (x_recv (ci := 7) hkb hH 0 rfl rfl) rfl rfl hl.1 (Nat.le_of_ble_eq_true rfl) dX3_readSum_67 ⟨Nat.le_of_ble_eq_true rfl, Nat.le_of_ble_eq_true rfl⟩) (fun u H locs hz9 hH hS => ?_)
              obtain ⟨n67_0_2, n67_0_3, n67_0_4, n67_0_5, rfl, x_v670, x_v671, x_v672⟩ := hz9
              have px67 := TSS.nx h19.1 x_v671
              have hH : HT D cs A T (tk :: y0 :: O) ((tk, .inr (7, [.ref y0, .int y1, .int n67_0_2, .int n67_0_3, .int n67_0_4, .int n67_0_5, .int f8_106, .int f8_107])) :: (y0, .inl (cs.1, 900, .inl ft)) :: X) H := hH
              refine W.widen (k := 0) (n := 0) (Nat.le_of_ble_eq_true rfl) (Nat.le_of_ble_eq_true rfl) ?_
              refine lv_aload_n hx hb dX3_readSum_70 rfl (lv_at hl 3 rfl) ?_
              refine lv_iload_n hx hb dX3_readSum_71 rfl (lv_at hl 4 rfl) ?_
              refine tk_i hH hS hA (tr_V (n := 1) (As := [.int x1]) hx hb hml hown hts hkb hH (ox_map hOX rfl) hks hE hS hA (s_LR_readTerm1 l D cs kf T O X a0 x1 y0 y1 n67_0_2 n67_0_3 n67_0_4 n67_0_5 f8_106 f8_107 ft t tn tk t_a0 (by omega) (by omega) t_y0 (by omega) (by omega) (by omega) (by omega) (by omega) (by omega) (by omega) htb x_v670 t_tk hU7 (by omega) (hO.sub (by decide))) kw_652 kw_654 ks_11 kw_4 kw_655 (by decide +kernel) ⟨Nat.le_of_ble_eq_true rfl, Nat.le_of_ble_eq_true rfl⟩ (HT.recv (ci := 3) hkb hH t_a0 (hO.no t_a0 (by decide)) rfl) rfl rfl hl.1 (Nat.le_of_ble_eq_true rfl) dX3_readSum_72 ⟨Nat.le_of_ble_eq_true rfl, Nat.le_of_ble_eq_true rfl⟩) (fun v72 u H locs hz9 hH hS => ?_)
              obtain ⟨n72_0_2, n72_0_3, n72_0_4, n72_0_5, n72_0_6, n72_0_7, rfl, l_v72, u_v72, x_v720, x_v721, x_v722⟩ := hz9
              have hH : HT D cs A T (tk :: y0 :: O) ((tk, .inr (7, [.ref y0, .int y1, .int n72_0_2, .int n72_0_3, .int n72_0_4, .int n72_0_5, .int n72_0_6, .int n72_0_7])) :: (y0, .inl (cs.1, 900, .inl ft)) :: X) H := hH
              refine W.widen (k := 0) (n := 0) (Nat.le_of_ble_eq_true rfl) (Nat.le_of_ble_eq_true rfl) ?_
              refine lv_istore_n (lv' := [(2, .int v72), (4, .int 5), (3, .int p8_3), (0, .ref a0), (1, .int x1)]) hx hb dX3_readSum_75 rfl hl (by decide) rfl (fun ls hl => ?_)
              refine lv_aload_n hx hb dX3_readSum_76 rfl (lv_at hl 3 rfl) ?_
              refine lv_iload hx hb dX3_readSum_77 (lv_at hl 1 rfl) ?_
              refine lv_iconst (v := 0) hx hb dX3_readSum_79 (by decide) ?_
              refine tk_v hH hS hA (tr_V (n := 2) (As := [.int 5, .int 0]) hx hb hml hown hts hkb hH (ox_map hOX rfl) hks hE hS hA (s_LR_put l D cs kf T (tk :: y0 :: O) ((tk, .inr (7, [.ref y0, .int y1, .int n72_0_2, .int n72_0_3, .int n72_0_4, .int n72_0_5, .int n72_0_6, .int n72_0_7])) :: (y0, .inl (cs.1, 900, .inl ft)) :: X) a0 (5) (0) t_a0 (hO.sub (by decide))) kw_642 kw_644 ks_9 kw_4 kw_645 (by decide +kernel) ⟨Nat.le_of_ble_eq_true rfl, Nat.le_of_ble_eq_true rfl⟩ (HT.recv (ci := 3) hkb hH t_a0 (hO.no t_a0 (by decide)) rfl) rfl rfl hl.1 (Nat.le_of_ble_eq_true rfl) dX3_readSum_80 ⟨Nat.le_of_ble_eq_true rfl, Nat.le_of_ble_eq_true rfl⟩) (fun u H locs hz9 hH hS => ?_)
              have hz9 : u = (T, tk :: y0 :: O, (tk, .inr (7, [.ref y0, .int y1, .int n72_0_2, .int n72_0_3, .int n72_0_4, .int n72_0_5, .int n72_0_6, .int n72_0_7])) :: (y0, .inl (cs.1, 900, .inl ft)) :: X) := hz9
              subst hz9
              have hH : HT D cs A T (tk :: y0 :: O) ((tk, .inr (7, [.ref y0, .int y1, .int n72_0_2, .int n72_0_3, .int n72_0_4, .int n72_0_5, .int n72_0_6, .int n72_0_7])) :: (y0, .inl (cs.1, 900, .inl ft)) :: X) H := hH
              refine W.widen (k := 0) (n := 0) (Nat.le_of_ble_eq_true rfl) (Nat.le_of_ble_eq_true rfl) ?_
              obtain ⟨v83, ev83⟩ : ∃ y : Int32, y = p8_3 + 1 := ⟨_, rfl⟩
              have tv83 : v83.toInt = p8_3.toInt + (1) := by rw [ev83]; exact add_i rfl (by decide) (by omega) (by omega)
              refine lv_iinc (v := v83) (lv' := [(3, .int v83), (2, .int v72), (4, .int 5), (0, .ref a0), (1, .int x1)]) hx hb dX3_readSum_83 hl (k := 2) rfl (by rw [ev83]; rfl) (by decide) rfl (fun ls hl => ?_)
              refine lv_goto (tgt := 8) hx hb dX3_readSum_86 (by decide) ?_
              exact ih8 _ (by omega) v83 v72 n72_0_2 n72_0_3 n72_0_4 n72_0_5 n72_0_6 n72_0_7 _ _ _ rfl (by omega) (by omega) (by omega) (by omega) (by omega) (by omega) (by omega) (by omega) (by first | (refine LTI.st (fun _ _ => st_s) x_v20 x_v21 l_v2 u_v2 rfl) | (refine LTI.st (h19.2.2.2.tr (GL_nx (fun _ _ => st_sY (Or.inl x_v250)) px67)) x_v720 x_v721 l_v72 u_v72 ?_; omega) | (refine LTI.st (h19.2.2.2.tr (GL_nx (fun _ _ => st_sY (Or.inr x_v370)) px67)) x_v720 x_v721 l_v72 u_v72 ?_; omega)) (by omega) (by omega) hH hS (lv_sub hl [0, 1, 3, 4] rfl)
          · skip
            have tc28 := f_eq (k := 0) (by decide) c28
            clear x_v250
            replace x_v251 := x_v251.resolve_left (fun q9 => q9 tc28)
            refine lv_aload_n hx hb dX3_readSum_31 rfl (lv_at hl 2 rfl) ?_
            refine t_get (ci := 3) (lst := ft3 0 0) (C := RX3) (F := TX3) (N := 3) hx hb hts uX3 hown hkb hH t_a0 (hO.no t_a0 (by decide)) (fun _ h9 => h9) rfl rfl 0 (by decide) rfl kw_82 (fun _ h9 => h9) dX3_readSum_32 (fun v9 h9 => ?_)
            obtain ⟨v32, rfl, t_v32⟩ := h9
            have e9 := (hU7 _ _ t_v32).symm
            subst e9
            refine lv_bipush (v := 45) hx hb dX3_readSum_35 (by decide) ?_
            have z9_45 : (45 : Int32).toInt = 45 := by decide
            refine tk_i hH hS hA (tr_V (n := 1) (As := [.int 45]) hx hb hml hown hts hkb hH (ox_map hOX rfl) hks hE hS hA (s_Tok_isSign l D cs kf T O X tk (45) y0 y1 f8_102 f8_103 f8_104 f8_105 f8_106 f8_107 ft t tn 33 t_tk t_y0 (by omega) (by omega) (by omega) (by omega) (by omega) (by omega) (by omega) htb h19.1 (by decide) (by decide) (hO.sub (by decide))) kw_646 kw_615 kw_616 kw_3 kw_617 (by decide +kernel) ⟨Nat.le_of_ble_eq_true rfl, Nat.le_of_ble_eq_true rfl⟩ (x_recv (ci := 7) hkb hH 0 rfl rfl) rfl rfl hl.1 (Nat.le_of_ble_eq_true rfl) dX3_readSum_37 ⟨Nat.le_of_ble_eq_true rfl, Nat.le_of_ble_eq_true rfl⟩) (fun v37 u H locs hz9 hH hS => ?_)
            obtain ⟨rfl, l_v37, u_v37, x_v370, x_v371⟩ := hz9
            have hH : HT D cs A T (tk :: y0 :: O) ((tk, .inr (7, [.ref y0, .int y1, .int f8_102, .int f8_103, .int f8_104, .int f8_105, .int f8_106, .int f8_107])) :: (y0, .inl (cs.1, 900, .inl ft)) :: X) H := hH
            refine W.widen (k := 0) (n := 0) (Nat.le_of_ble_eq_true rfl) (Nat.le_of_ble_eq_true rfl) ?_
            refine lv_if_eq (tgt := 89) hx hb dX3_readSum_40 (by decide) (fun c40 => ?_) (fun c40 => ?_)
            · skip
              have tc40 := f_eq (k := 0) (by decide) c40
              clear x_v370
              replace x_v371 := x_v371.resolve_left (fun q9 => q9 tc40)
              have hk9 : p8_2.toInt = 0 ∨ GL t tn [(4, 1)] [] f8_102 f8_102 := by first | (refine Or.inl ?_; omega) | exact Or.inr (fun _ _ => st_sN (by omega)) | (by_cases q9 : p8_2.toInt = 0; exact Or.inl q9; refine Or.inr (fun _ _ => st_sN ?_); have q8 := LTI.ok i8t q9; have q7 := q8.1.b; rw [kd_end (by omega)]; decide)
              have hz9 := LTI.en i8t hk9
              refine lv_iload_n hx hb dX3_readSum_89 rfl (lv_at hl 1 rfl) ?_
              exact te_z hx hb hr hlocks (nar01 (by omega) (by omega)) hH hS (⟨f8_102, f8_103, f8_104, f8_105, f8_106, f8_107, rfl, by omega, by omega, hz9.1, hz9.2, (by omega)⟩) dX3_readSum_90
            · skip
              have tc40 := f_ne (k := 0) (by decide) c40
              replace x_v370 := x_v370.resolve_left tc40
              clear x_v371
              refine lv_aload_n hx hb dX3_readSum_43 rfl (lv_at hl 2 rfl) ?_
              refine t_get (ci := 3) (lst := ft3 0 0) (C := RX3) (F := TX3) (N := 3) hx hb hts uX3 hown hkb hH t_a0 (hO.no t_a0 (by decide)) (fun _ h9 => h9) rfl rfl 0 (by decide) rfl kw_82 (fun _ h9 => h9) dX3_readSum_44 (fun v9 h9 => ?_)
              obtain ⟨v44, rfl, t_v44⟩ := h9
              have e9 := (hU7 _ _ t_v44).symm
              subst e9
              refine lv_bipush (v := 43) hx hb dX3_readSum_47 (by decide) ?_
              have z9_43 : (43 : Int32).toInt = 43 := by decide
              refine tk_i hH hS hA (tr_V (n := 1) (As := [.int 43]) hx hb hml hown hts hkb hH (ox_map hOX rfl) hks hE hS hA (s_Tok_isSign l D cs kf T O X tk (43) y0 y1 f8_102 f8_103 f8_104 f8_105 f8_106 f8_107 ft t tn 32 t_tk t_y0 (by omega) (by omega) (by omega) (by omega) (by omega) (by omega) (by omega) htb h19.1 (by decide) (by decide) (hO.sub (by decide))) kw_646 kw_615 kw_616 kw_3 kw_617 (by decide +kernel) ⟨Nat.le_of_ble_eq_true rfl, Nat.le_of_ble_eq_true rfl⟩ (x_recv (ci := 7) hkb hH 0 rfl rfl) rfl rfl hl.1 (Nat.le_of_ble_eq_true rfl) dX3_readSum_49 ⟨Nat.le_of_ble_eq_true rfl, Nat.le_of_ble_eq_true rfl⟩) (fun v49 u H locs hz9 hH hS => ?_)
              obtain ⟨rfl, l_v49, u_v49, x_v490, x_v491⟩ := hz9
              have hH : HT D cs A T (tk :: y0 :: O) ((tk, .inr (7, [.ref y0, .int y1, .int f8_102, .int f8_103, .int f8_104, .int f8_105, .int f8_106, .int f8_107])) :: (y0, .inl (cs.1, 900, .inl ft)) :: X) H := hH
              refine W.widen (k := 0) (n := 0) (Nat.le_of_ble_eq_true rfl) (Nat.le_of_ble_eq_true rfl) ?_
              refine lv_if_eq (tgt := 59) hx hb dX3_readSum_52 (by decide) (fun c52 => ?_) (fun c52 => ?_)
              · skip
                have tc52 := f_eq (k := 0) (by decide) c52
                clear x_v490
                replace x_v491 := x_v491.resolve_left (fun q9 => q9 tc52)
                refine lv_bipush (v := 6) hx hb dX3_readSum_59 (by decide) ?_
                refine lv_istore (lv' := [(4, .int 6), (3, .int p8_3), (2, .int p8_2), (0, .ref a0), (1, .int x1)]) hx hb dX3_readSum_61 hl (by decide) rfl (fun ls hl => ?_)
                refine lv_aload_n hx hb dX3_readSum_63 rfl (lv_at hl 3 rfl) ?_
                refine t_get (ci := 3) (lst := ft3 0 0) (C := RX3) (F := TX3) (N := 3) hx hb hts uX3 hown hkb hH t_a0 (hO.no t_a0 (by decide)) (fun _ h9 => h9) rfl rfl 0 (by decide) rfl kw_82 (fun _ h9 => h9) dX3_readSum_64 (fun v9 h9 => ?_)
                obtain ⟨v64, rfl, t_v64⟩ := h9
                have e9 := (hU7 _ _ t_v64).symm
                subst e9
                have hl9 := h19.1.lt (by omega)
                refine tk_v hH hS hA (tr_V (n := 0) (As := []) hx hb hml hown hts hkb hH (ox_map hOX rfl) hks hE hS hA (s_Tok_go l D cs kf T O X tk y0 y1 f8_102 f8_103 f8_104 f8_105 f8_106 f8_107 ft t tn t_tk t_y0 (by omega) (by omega) (by omega) (by omega) (by omega) (by omega) (by omega) htb (by have q9 := (h19.1).b; omega) (hO.sub (by decide))) kw_641 kw_453 kw_454 kw_3 kw_455 (by decide +kernel) ⟨Nat.le_of_ble_eq_true rfl, Nat.le_of_ble_eq_true rfl⟩ (x_recv (ci := 7) hkb hH 0 rfl rfl) rfl rfl hl.1 (Nat.le_of_ble_eq_true rfl) dX3_readSum_67 ⟨Nat.le_of_ble_eq_true rfl, Nat.le_of_ble_eq_true rfl⟩) (fun u H locs hz9 hH hS => ?_)
                obtain ⟨n67_0_2, n67_0_3, n67_0_4, n67_0_5, rfl, x_v670, x_v671, x_v672⟩ := hz9
                have px67 := TSS.nx h19.1 x_v671
                have hH : HT D cs A T (tk :: y0 :: O) ((tk, .inr (7, [.ref y0, .int y1, .int n67_0_2, .int n67_0_3, .int n67_0_4, .int n67_0_5, .int f8_106, .int f8_107])) :: (y0, .inl (cs.1, 900, .inl ft)) :: X) H := hH
                refine W.widen (k := 0) (n := 0) (Nat.le_of_ble_eq_true rfl) (Nat.le_of_ble_eq_true rfl) ?_
                refine lv_aload_n hx hb dX3_readSum_70 rfl (lv_at hl 3 rfl) ?_
                refine lv_iload_n hx hb dX3_readSum_71 rfl (lv_at hl 4 rfl) ?_
                refine tk_i hH hS hA (tr_V (n := 1) (As := [.int x1]) hx hb hml hown hts hkb hH (ox_map hOX rfl) hks hE hS hA (s_LR_readTerm1 l D cs kf T O X a0 x1 y0 y1 n67_0_2 n67_0_3 n67_0_4 n67_0_5 f8_106 f8_107 ft t tn tk t_a0 (by omega) (by omega) t_y0 (by omega) (by omega) (by omega) (by omega) (by omega) (by omega) (by omega) htb x_v670 t_tk hU7 (by omega) (hO.sub (by decide))) kw_652 kw_654 ks_11 kw_4 kw_655 (by decide +kernel) ⟨Nat.le_of_ble_eq_true rfl, Nat.le_of_ble_eq_true rfl⟩ (HT.recv (ci := 3) hkb hH t_a0 (hO.no t_a0 (by decide)) rfl) rfl rfl hl.1 (Nat.le_of_ble_eq_true rfl) dX3_readSum_72 ⟨Nat.le_of_ble_eq_true rfl, Nat.le_of_ble_eq_true rfl⟩) (fun v72 u H locs hz9 hH hS => ?_)
                obtain ⟨n72_0_2, n72_0_3, n72_0_4, n72_0_5, n72_0_6, n72_0_7, rfl, l_v72, u_v72, x_v720, x_v721, x_v722⟩ := hz9
                have hH : HT D cs A T (tk :: y0 :: O) ((tk, .inr (7, [.ref y0, .int y1, .int n72_0_2, .int n72_0_3, .int n72_0_4, .int n72_0_5, .int n72_0_6, .int n72_0_7])) :: (y0, .inl (cs.1, 900, .inl ft)) :: X) H := hH
                refine W.widen (k := 0) (n := 0) (Nat.le_of_ble_eq_true rfl) (Nat.le_of_ble_eq_true rfl) ?_
                refine lv_istore_n (lv' := [(2, .int v72), (4, .int 6), (3, .int p8_3), (0, .ref a0), (1, .int x1)]) hx hb dX3_readSum_75 rfl hl (by decide) rfl (fun ls hl => ?_)
                refine lv_aload_n hx hb dX3_readSum_76 rfl (lv_at hl 3 rfl) ?_
                refine lv_iload hx hb dX3_readSum_77 (lv_at hl 1 rfl) ?_
                refine lv_iconst (v := 0) hx hb dX3_readSum_79 (by decide) ?_
                refine tk_v hH hS hA (tr_V (n := 2) (As := [.int 6, .int 0]) hx hb hml hown hts hkb hH (ox_map hOX rfl) hks hE hS hA (s_LR_put l D cs kf T (tk :: y0 :: O) ((tk, .inr (7, [.ref y0, .int y1, .int n72_0_2, .int n72_0_3, .int n72_0_4, .int n72_0_5, .int n72_0_6, .int n72_0_7])) :: (y0, .inl (cs.1, 900, .inl ft)) :: X) a0 (6) (0) t_a0 (hO.sub (by decide))) kw_642 kw_644 ks_9 kw_4 kw_645 (by decide +kernel) ⟨Nat.le_of_ble_eq_true rfl, Nat.le_of_ble_eq_true rfl⟩ (HT.recv (ci := 3) hkb hH t_a0 (hO.no t_a0 (by decide)) rfl) rfl rfl hl.1 (Nat.le_of_ble_eq_true rfl) dX3_readSum_80 ⟨Nat.le_of_ble_eq_true rfl, Nat.le_of_ble_eq_true rfl⟩) (fun u H locs hz9 hH hS => ?_)
                have hz9 : u = (T, tk :: y0 :: O, (tk, .inr (7, [.ref y0, .int y1, .int n72_0_2, .int n72_0_3, .int n72_0_4, .int n72_0_5, .int n72_0_6, .int n72_0_7])) :: (y0, .inl (cs.1, 900, .inl ft)) :: X) := hz9
                subst hz9
                have hH : HT D cs A T (tk :: y0 :: O) ((tk, .inr (7, [.ref y0, .int y1, .int n72_0_2, .int n72_0_3, .int n72_0_4, .int n72_0_5, .int n72_0_6, .int n72_0_7])) :: (y0, .inl (cs.1, 900, .inl ft)) :: X) H := hH
                refine W.widen (k := 0) (n := 0) (Nat.le_of_ble_eq_true rfl) (Nat.le_of_ble_eq_true rfl) ?_
                obtain ⟨v83, ev83⟩ : ∃ y : Int32, y = p8_3 + 1 := ⟨_, rfl⟩
                have tv83 : v83.toInt = p8_3.toInt + (1) := by rw [ev83]; exact add_i rfl (by decide) (by omega) (by omega)
                refine lv_iinc (v := v83) (lv' := [(3, .int v83), (2, .int v72), (4, .int 6), (0, .ref a0), (1, .int x1)]) hx hb dX3_readSum_83 hl (k := 2) rfl (by rw [ev83]; rfl) (by decide) rfl (fun ls hl => ?_)
                refine lv_goto (tgt := 8) hx hb dX3_readSum_86 (by decide) ?_
                exact ih8 _ (by omega) v83 v72 n72_0_2 n72_0_3 n72_0_4 n72_0_5 n72_0_6 n72_0_7 _ _ _ rfl (by omega) (by omega) (by omega) (by omega) (by omega) (by omega) (by omega) (by omega) (by first | (refine LTI.st (fun _ _ => st_s) x_v20 x_v21 l_v2 u_v2 rfl) | (refine LTI.st (h19.2.2.2.tr (GL_nx (fun _ _ => st_sY (Or.inl x_v250)) px67)) x_v720 x_v721 l_v72 u_v72 ?_; omega) | (refine LTI.st (h19.2.2.2.tr (GL_nx (fun _ _ => st_sY (Or.inr x_v370)) px67)) x_v720 x_v721 l_v72 u_v72 ?_; omega)) (by omega) (by omega) hH hS (lv_sub hl [0, 1, 3, 4] rfl)
              · skip
                have tc52 := f_ne (k := 0) (by decide) c52
                replace x_v490 := x_v490.resolve_left tc52
                clear x_v491
                refine lv_iconst (v := 5) hx hb dX3_readSum_55 (by decide) ?_
                refine lv_goto (tgt := 61) hx hb dX3_readSum_56 (by decide) ?_
                refine lv_istore (lv' := [(4, .int 5), (3, .int p8_3), (2, .int p8_2), (0, .ref a0), (1, .int x1)]) hx hb dX3_readSum_61 hl (by decide) rfl (fun ls hl => ?_)
                refine lv_aload_n hx hb dX3_readSum_63 rfl (lv_at hl 3 rfl) ?_
                refine t_get (ci := 3) (lst := ft3 0 0) (C := RX3) (F := TX3) (N := 3) hx hb hts uX3 hown hkb hH t_a0 (hO.no t_a0 (by decide)) (fun _ h9 => h9) rfl rfl 0 (by decide) rfl kw_82 (fun _ h9 => h9) dX3_readSum_64 (fun v9 h9 => ?_)
                obtain ⟨v64, rfl, t_v64⟩ := h9
                have e9 := (hU7 _ _ t_v64).symm
                subst e9
                have hl9 := h19.1.lt (by omega)
                refine tk_v hH hS hA (tr_V (n := 0) (As := []) hx hb hml hown hts hkb hH (ox_map hOX rfl) hks hE hS hA (s_Tok_go l D cs kf T O X tk y0 y1 f8_102 f8_103 f8_104 f8_105 f8_106 f8_107 ft t tn t_tk t_y0 (by omega) (by omega) (by omega) (by omega) (by omega) (by omega) (by omega) htb (by have q9 := (h19.1).b; omega) (hO.sub (by decide))) kw_641 kw_453 kw_454 kw_3 kw_455 (by decide +kernel) ⟨Nat.le_of_ble_eq_true rfl, Nat.le_of_ble_eq_true rfl⟩ (x_recv (ci := 7) hkb hH 0 rfl rfl) rfl rfl hl.1 (Nat.le_of_ble_eq_true rfl) dX3_readSum_67 ⟨Nat.le_of_ble_eq_true rfl, Nat.le_of_ble_eq_true rfl⟩) (fun u H locs hz9 hH hS => ?_)
                obtain ⟨n67_0_2, n67_0_3, n67_0_4, n67_0_5, rfl, x_v670, x_v671, x_v672⟩ := hz9
                have px67 := TSS.nx h19.1 x_v671
                have hH : HT D cs A T (tk :: y0 :: O) ((tk, .inr (7, [.ref y0, .int y1, .int n67_0_2, .int n67_0_3, .int n67_0_4, .int n67_0_5, .int f8_106, .int f8_107])) :: (y0, .inl (cs.1, 900, .inl ft)) :: X) H := hH
                refine W.widen (k := 0) (n := 0) (Nat.le_of_ble_eq_true rfl) (Nat.le_of_ble_eq_true rfl) ?_
                refine lv_aload_n hx hb dX3_readSum_70 rfl (lv_at hl 3 rfl) ?_
                refine lv_iload_n hx hb dX3_readSum_71 rfl (lv_at hl 4 rfl) ?_
                refine tk_i hH hS hA (tr_V (n := 1) (As := [.int x1]) hx hb hml hown hts hkb hH (ox_map hOX rfl) hks hE hS hA (s_LR_readTerm1 l D cs kf T O X a0 x1 y0 y1 n67_0_2 n67_0_3 n67_0_4 n67_0_5 f8_106 f8_107 ft t tn tk t_a0 (by omega) (by omega) t_y0 (by omega) (by omega) (by omega) (by omega) (by omega) (by omega) (by omega) htb x_v670 t_tk hU7 (by omega) (hO.sub (by decide))) kw_652 kw_654 ks_11 kw_4 kw_655 (by decide +kernel) ⟨Nat.le_of_ble_eq_true rfl, Nat.le_of_ble_eq_true rfl⟩ (HT.recv (ci := 3) hkb hH t_a0 (hO.no t_a0 (by decide)) rfl) rfl rfl hl.1 (Nat.le_of_ble_eq_true rfl) dX3_readSum_72 ⟨Nat.le_of_ble_eq_true rfl, Nat.le_of_ble_eq_true rfl⟩) (fun v72 u H locs hz9 hH hS => ?_)
                obtain ⟨n72_0_2, n72_0_3, n72_0_4, n72_0_5, n72_0_6, n72_0_7, rfl, l_v72, u_v72, x_v720, x_v721, x_v722⟩ := hz9
                have hH : HT D cs A T (tk :: y0 :: O) ((tk, .inr (7, [.ref y0, .int y1, .int n72_0_2, .int n72_0_3, .int n72_0_4, .int n72_0_5, .int n72_0_6, .int n72_0_7])) :: (y0, .inl (cs.1, 900, .inl ft)) :: X) H := hH
                refine W.widen (k := 0) (n := 0) (Nat.le_of_ble_eq_true rfl) (Nat.le_of_ble_eq_true rfl) ?_
                refine lv_istore_n (lv' := [(2, .int v72), (4, .int 5), (3, .int p8_3), (0, .ref a0), (1, .int x1)]) hx hb dX3_readSum_75 rfl hl (by decide) rfl (fun ls hl => ?_)
                refine lv_aload_n hx hb dX3_readSum_76 rfl (lv_at hl 3 rfl) ?_
                refine lv_iload hx hb dX3_readSum_77 (lv_at hl 1 rfl) ?_
                refine lv_iconst (v := 0) hx hb dX3_readSum_79 (by decide) ?_
                refine tk_v hH hS hA (tr_V (n := 2) (As := [.int 5, .int 0]) hx hb hml hown hts hkb hH (ox_map hOX rfl) hks hE hS hA (s_LR_put l D cs kf T (tk :: y0 :: O) ((tk, .inr (7, [.ref y0, .int y1, .int n72_0_2, .int n72_0_3, .int n72_0_4, .int n72_0_5, .int n72_0_6, .int n72_0_7])) :: (y0, .inl (cs.1, 900, .inl ft)) :: X) a0 (5) (0) t_a0 (hO.sub (by decide))) kw_642 kw_644 ks_9 kw_4 kw_645 (by decide +kernel) ⟨Nat.le_of_ble_eq_true rfl, Nat.le_of_ble_eq_true rfl⟩ (HT.recv (ci := 3) hkb hH t_a0 (hO.no t_a0 (by decide)) rfl) rfl rfl hl.1 (Nat.le_of_ble_eq_true rfl) dX3_readSum_80 ⟨Nat.le_of_ble_eq_true rfl, Nat.le_of_ble_eq_true rfl⟩) (fun u H locs hz9 hH hS => ?_)
                have hz9 : u = (T, tk :: y0 :: O, (tk, .inr (7, [.ref y0, .int y1, .int n72_0_2, .int n72_0_3, .int n72_0_4, .int n72_0_5, .int n72_0_6, .int n72_0_7])) :: (y0, .inl (cs.1, 900, .inl ft)) :: X) := hz9
                subst hz9
                have hH : HT D cs A T (tk :: y0 :: O) ((tk, .inr (7, [.ref y0, .int y1, .int n72_0_2, .int n72_0_3, .int n72_0_4, .int n72_0_5, .int n72_0_6, .int n72_0_7])) :: (y0, .inl (cs.1, 900, .inl ft)) :: X) H := hH
                refine W.widen (k := 0) (n := 0) (Nat.le_of_ble_eq_true rfl) (Nat.le_of_ble_eq_true rfl) ?_
                obtain ⟨v83, ev83⟩ : ∃ y : Int32, y = p8_3 + 1 := ⟨_, rfl⟩
                have tv83 : v83.toInt = p8_3.toInt + (1) := by rw [ev83]; exact add_i rfl (by decide) (by omega) (by omega)
                refine lv_iinc (v := v83) (lv' := [(3, .int v83), (2, .int v72), (4, .int 5), (0, .ref a0), (1, .int x1)]) hx hb dX3_readSum_83 hl (k := 2) rfl (by rw [ev83]; rfl) (by decide) rfl (fun ls hl => ?_)
                refine lv_goto (tgt := 8) hx hb dX3_readSum_86 (by decide) ?_
                exact ih8 _ (by omega) v83 v72 n72_0_2 n72_0_3 n72_0_4 n72_0_5 n72_0_6 n72_0_7 _ _ _ rfl (by omega) (by omega) (by omega) (by omega) (by omega) (by omega) (by omega) (by omega) (by first | (refine LTI.st (fun _ _ => st_s) x_v20 x_v21 l_v2 u_v2 rfl) | (refine LTI.st (h19.2.2.2.tr (GL_nx (fun _ _ => st_sY (Or.inl x_v250)) px67)) x_v720 x_v721 l_v72 u_v72 ?_; omega) | (refine LTI.st (h19.2.2.2.tr (GL_nx (fun _ _ => st_sY (Or.inr x_v370)) px67)) x_v720 x_v721 l_v72 u_v72 ?_; omega)) (by omega) (by omega) hH hS (lv_sub hl [0, 1, 3, 4] rfl)
  refine lv_istore_n (lv' := [(3, .int 0), (2, .int v2), (0, .ref a0), (1, .int x1)]) hx hb dX3_readSum_7 rfl hl (by decide) rfl (fun ls hl => ?_)
  have z_0 : (0 : Int32).toInt = 0 := by decide
  exact J8 _ 0 v2 n2_0_2 n2_0_3 n2_0_4 n2_0_5 n2_0_6 n2_0_7 _ _ _ rfl (by decide) (by decide) (by omega) (by omega) (by omega) (by omega) (by omega) (by omega) (by first | (refine LTI.st (fun _ _ => st_s) x_v20 x_v21 l_v2 u_v2 rfl) | (refine LTI.st (h19.2.2.2.tr (GL_nx (fun _ _ => st_sY (Or.inl x_v250)) px67)) x_v720 x_v721 l_v72 u_v72 ?_; omega) | (refine LTI.st (h19.2.2.2.tr (GL_nx (fun _ _ => st_sY (Or.inr x_v370)) px67)) x_v720 x_v721 l_v72 u_v72 ?_; omega)) (by omega) (by omega) hH hS (lv_sub hl [0, 1, 2, 3] rfl)
set_option maxHeartbeats 4000000 in
set_option maxRecDepth 100000 in
theorem s_LR_readUnit1 (l : Launch) (D : va_G) (cs : CS) (kf : KF) (T : TF) (O : List Nat) (X : va_W) (a0 : Nat) (x1 : Int32) (y0 : Nat) (y1 : Int32) (y2 : Int32) (y3 : Int32) (y4 : Int32) (y5 : Int32) (y6 : Int32) (y7 : Int32) (ft : Nat → Int32) (t : Tp) (tn : Nat) (tk : Nat) (t_a0 : T a0 = some (13, 0, 0)) (l_x1 : 1 ≤ x1.toInt) (u_x1 : x1.toInt ≤ 1) (t_y0 : T y0 = some (0, 900, 0)) (l_y1 : 0 ≤ y1.toInt) (u_y1 : y1.toInt ≤ 900) (l_y2 : 0 ≤ y2.toInt) (u_y2 : y2.toInt ≤ 900) (l_y3 : 0 ≤ y3.toInt) (u_y3 : y3.toInt ≤ 900) (hn : y1.toInt = (tn : Int)) (htb : TB ft t) (hto : TSS t tn y2 y3 y4 y5) (t_tk : T tk = some (17, 0, 0)) (hU7 : ∀ (b : Nat) (q : Nat), T b = some (17, 0, q) → b = tk) (hz : y6.toInt = 0) (hO : okO T (tk :: y0 :: O) [1, 13]) : TK l D cs kf yX3_readUnit cX3_readUnit 3 (some (.boolean)) { frames := 24, cells := 0, slots := 0, locals := 546 } [.ref a0, .int x1] T (tk :: y0 :: O) ((tk, .inr (7, [.ref y0, .int y1, .int y2, .int y3, .int y4, .int y5, .int y6, .int y7])) :: (y0, .inl (cs.1, 900, .inl ft)) :: X) (Ti D cs (fun r u => ∃ (n0_2 : Int32) (n0_3 : Int32) (n0_4 : Int32) (n0_5 : Int32) (n0_6 : Int32) (n0_7 : Int32), u = (T, tk :: y0 :: O, (tk, .inr (7, [.ref y0, .int y1, .int n0_2, .int n0_3, .int n0_4, .int n0_5, .int n0_6, .int n0_7])) :: (y0, .inl (cs.1, 900, .inl ft)) :: X) ∧ 0 ≤ r.toInt ∧ r.toInt ≤ 1 ∧ (r.toInt = 0 ∨ (TSS t tn n0_2 n0_3 n0_4 n0_5 ∧ n0_6.toInt = 0 ∧ n0_7.toInt = y7.toInt ∧ GL t tn [(5, 1)] [] y2 n0_2)) ∧ (r.toInt ≠ 0 ∨ BL t tn [(5, 1)] y2 n0_6 n0_7) ∧ (y2.toInt ≤ n0_2.toInt ∧ n0_2.toInt ≤ n0_3.toInt ∧ n0_3.toInt ≤ y1.toInt))) := by
  refine tk_of (by decide) (Nat.le_of_ble_eq_true rfl) (fun p e s m below meth c ls A H locs hx hb hr hml hown hts hlocks hnm hkb hH hS hA hOX hks hE hl => ?_)
  have hown : s.vm.findClass RX3 = some m.cls := hown
  have hl : lv_has ls 3 [(0, .ref a0), (1, .int x1)] := hl
  have hOXf := hOX
  have hb9 := hto.b
  have hc9 := hto.cs
  refine lv_aload_n hx hb dX3_readUnit_0 rfl (lv_at hl 0 rfl) ?_
  refine t_get (ci := 3) (lst := ft3 0 0) (C := RX3) (F := TX3) (N := 3) hx hb hts uX3 hown hkb hH t_a0 (hO.no t_a0 (by decide)) (fun _ h9 => h9) rfl rfl 0 (by decide) rfl kw_82 (fun _ h9 => h9) dX3_readUnit_1 (fun v9 h9 => ?_)
  obtain ⟨v1, rfl, t_v1⟩ := h9
  have e9 := (hU7 _ _ t_v1).symm
  subst e9
  refine va_ldcS (q := kf.1 10) hx hb hown (hks ("FootholdWall$LawReader", 65, "not", 10) (by decide +kernel)) dX3_readUnit_4 ?_
  refine tk_i hH hS hA (tr_V (n := 1) (As := [.ref (kf.1 10)]) hx hb hml hown hts hkb hH (ox_map hOX rfl) hks hE hS hA (s_Tok_isWord l D cs kf T O X tk 10 y0 y1 y2 y3 y4 y5 y6 y7 ft t tn 15 t_tk (by decide) t_y0 (by omega) (by omega) (by omega) (by omega) (by omega) (by omega) (by omega) htb hto (by decide) (by decide) (hO.sub (by decide))) kw_635 kw_551 kw_552 kw_3 kw_553 (by decide +kernel) ⟨Nat.le_of_ble_eq_true rfl, Nat.le_of_ble_eq_true rfl⟩ (x_recv (ci := 7) hkb hH 0 rfl rfl) rfl rfl hl.1 (Nat.le_of_ble_eq_true rfl) dX3_readUnit_6 ⟨Nat.le_of_ble_eq_true rfl, Nat.le_of_ble_eq_true rfl⟩) (fun v6 u H locs hz9 hH hS => ?_)
  obtain ⟨rfl, l_v6, u_v6, x_v60, x_v61⟩ := hz9
  have hH : HT D cs A T (tk :: y0 :: O) ((tk, .inr (7, [.ref y0, .int y1, .int y2, .int y3, .int y4, .int y5, .int y6, .int y7])) :: (y0, .inl (cs.1, 900, .inl ft)) :: X) H := hH
  refine W.widen (k := 0) (n := 0) (Nat.le_of_ble_eq_true rfl) (Nat.le_of_ble_eq_true rfl) ?_
  refine lv_if_eq (tgt := 40) hx hb dX3_readUnit_9 (by decide) (fun c9 => ?_) (fun c9 => ?_)
  · skip
    have tc9 := f_eq (k := 0) (by decide) c9
    clear x_v60
    replace x_v61 := x_v61.resolve_left (fun q9 => q9 tc9)
    refine lv_aload_n hx hb dX3_readUnit_40 rfl (lv_at hl 0 rfl) ?_
    refine t_get (ci := 3) (lst := ft3 0 0) (C := RX3) (F := TX3) (N := 3) hx hb hts uX3 hown hkb hH t_a0 (hO.no t_a0 (by decide)) (fun _ h9 => h9) rfl rfl 0 (by decide) rfl kw_82 (fun _ h9 => h9) dX3_readUnit_41 (fun v9 h9 => ?_)
    obtain ⟨v41, rfl, t_v41⟩ := h9
    have e9 := (hU7 _ _ t_v41).symm
    subst e9
    refine lv_bipush (v := 91) hx hb dX3_readUnit_44 (by decide) ?_
    have z9_91 : (91 : Int32).toInt = 91 := by decide
    refine tk_i hH hS hA (tr_V (n := 1) (As := [.int 91]) hx hb hml hown hts hkb hH (ox_map hOX rfl) hks hE hS hA (s_Tok_isSign l D cs kf T O X tk (91) y0 y1 y2 y3 y4 y5 y6 y7 ft t tn 37 t_tk t_y0 (by omega) (by omega) (by omega) (by omega) (by omega) (by omega) (by omega) htb hto (by decide) (by decide) (hO.sub (by decide))) kw_646 kw_615 kw_616 kw_3 kw_617 (by decide +kernel) ⟨Nat.le_of_ble_eq_true rfl, Nat.le_of_ble_eq_true rfl⟩ (x_recv (ci := 7) hkb hH 0 rfl rfl) rfl rfl hl.1 (Nat.le_of_ble_eq_true rfl) dX3_readUnit_46 ⟨Nat.le_of_ble_eq_true rfl, Nat.le_of_ble_eq_true rfl⟩) (fun v46 u H locs hz9 hH hS => ?_)
    obtain ⟨rfl, l_v46, u_v46, x_v460, x_v461⟩ := hz9
    have hH : HT D cs A T (tk :: y0 :: O) ((tk, .inr (7, [.ref y0, .int y1, .int y2, .int y3, .int y4, .int y5, .int y6, .int y7])) :: (y0, .inl (cs.1, 900, .inl ft)) :: X) H := hH
    refine W.widen (k := 0) (n := 0) (Nat.le_of_ble_eq_true rfl) (Nat.le_of_ble_eq_true rfl) ?_
    refine lv_if_eq (tgt := 88) hx hb dX3_readUnit_49 (by decide) (fun c49 => ?_) (fun c49 => ?_)
    · skip
      have tc49 := f_eq (k := 0) (by decide) c49
      clear x_v460
      replace x_v461 := x_v461.resolve_left (fun q9 => q9 tc49)
      have g88 : GL t tn [(5, 1)] [(3, 1), (21, 1)] y2 y2 := fun _ _ => st_uS (by omega) (by omega)
      refine lv_aload_n hx hb dX3_readUnit_88 rfl (lv_at hl 0 rfl) ?_
      refine lv_iload_n hx hb dX3_readUnit_89 rfl (lv_at hl 1 rfl) ?_
      refine tk_i hH hS hA (tr_V (n := 1) (As := [.int x1]) hx hb hml hown hts hkb hH (ox_map hOX rfl) hks hE hS hA (s_LR_readSum1 l D cs kf T O X a0 x1 y0 y1 y2 y3 y4 y5 y6 y7 ft t tn tk t_a0 (by omega) (by omega) t_y0 (by omega) (by omega) (by omega) (by omega) (by omega) (by omega) (by omega) htb hto t_tk hU7 (by omega) (hO.sub (by decide))) kw_648 kw_650 ks_10 kw_4 kw_651 (by decide +kernel) ⟨Nat.le_of_ble_eq_true rfl, Nat.le_of_ble_eq_true rfl⟩ (HT.recv (ci := 3) hkb hH t_a0 (hO.no t_a0 (by decide)) rfl) rfl rfl hl.1 (Nat.le_of_ble_eq_true rfl) dX3_readUnit_90 ⟨Nat.le_of_ble_eq_true rfl, Nat.le_of_ble_eq_true rfl⟩) (fun v90 u H locs hz9 hH hS => ?_)
      obtain ⟨n90_0_2, n90_0_3, n90_0_4, n90_0_5, n90_0_6, n90_0_7, rfl, l_v90, u_v90, x_v900, x_v901, x_v902⟩ := hz9
      have hH : HT D cs A T (tk :: y0 :: O) ((tk, .inr (7, [.ref y0, .int y1, .int n90_0_2, .int n90_0_3, .int n90_0_4, .int n90_0_5, .int n90_0_6, .int n90_0_7])) :: (y0, .inl (cs.1, 900, .inl ft)) :: X) H := hH
      refine W.widen (k := 0) (n := 0) (Nat.le_of_ble_eq_true rfl) (Nat.le_of_ble_eq_true rfl) ?_
      refine lv_if_ne (tgt := 98) hx hb dX3_readUnit_93 (by decide) (fun c93 => ?_) (fun c93 => ?_)
      · skip
        have tc93 := f_ne (k := 0) (by decide) c93
        replace x_v900 := x_v900.resolve_left tc93
        clear x_v901
        have g98 := g88.tr (GL.cons x_v900.2.2.2)
        have hc98 := x_v900.1.cs
        refine lv_aload_n hx hb dX3_readUnit_98 rfl (lv_at hl 0 rfl) ?_
        refine t_get (ci := 3) (lst := ft3 0 0) (C := RX3) (F := TX3) (N := 3) hx hb hts uX3 hown hkb hH t_a0 (hO.no t_a0 (by decide)) (fun _ h9 => h9) rfl rfl 0 (by decide) rfl kw_82 (fun _ h9 => h9) dX3_readUnit_99 (fun v9 h9 => ?_)
        obtain ⟨v99, rfl, t_v99⟩ := h9
        have e9 := (hU7 _ _ t_v99).symm
        subst e9
        refine lv_bipush (v := 61) hx hb dX3_readUnit_102 (by decide) ?_
        have z9_61 : (61 : Int32).toInt = 61 := by decide
        refine tk_i hH hS hA (tr_V (n := 1) (As := [.int 61]) hx hb hml hown hts hkb hH (ox_map hOX rfl) hks hE hS hA (s_Tok_isSign l D cs kf T O X tk (61) y0 y1 n90_0_2 n90_0_3 n90_0_4 n90_0_5 n90_0_6 n90_0_7 ft t tn 39 t_tk t_y0 (by omega) (by omega) (by omega) (by omega) (by omega) (by omega) (by omega) htb x_v900.1 (by decide) (by decide) (hO.sub (by decide))) kw_646 kw_615 kw_616 kw_3 kw_617 (by decide +kernel) ⟨Nat.le_of_ble_eq_true rfl, Nat.le_of_ble_eq_true rfl⟩ (x_recv (ci := 7) hkb hH 0 rfl rfl) rfl rfl hl.1 (Nat.le_of_ble_eq_true rfl) dX3_readUnit_104 ⟨Nat.le_of_ble_eq_true rfl, Nat.le_of_ble_eq_true rfl⟩) (fun v104 u H locs hz9 hH hS => ?_)
        obtain ⟨rfl, l_v104, u_v104, x_v1040, x_v1041⟩ := hz9
        have hH : HT D cs A T (tk :: y0 :: O) ((tk, .inr (7, [.ref y0, .int y1, .int n90_0_2, .int n90_0_3, .int n90_0_4, .int n90_0_5, .int n90_0_6, .int n90_0_7])) :: (y0, .inl (cs.1, 900, .inl ft)) :: X) H := hH
        refine W.widen (k := 0) (n := 0) (Nat.le_of_ble_eq_true rfl) (Nat.le_of_ble_eq_true rfl) ?_
        refine lv_if_eq (tgt := 115) hx hb dX3_readUnit_107 (by decide) (fun c107 => ?_) (fun c107 => ?_)
        · skip
          have tc107 := f_eq (k := 0) (by decide) c107
          clear x_v1040
          replace x_v1041 := x_v1041.resolve_left (fun q9 => q9 tc107)
          refine lv_aload_n hx hb dX3_readUnit_115 rfl (lv_at hl 0 rfl) ?_
          refine t_get (ci := 3) (lst := ft3 0 0) (C := RX3) (F := TX3) (N := 3) hx hb hts uX3 hown hkb hH t_a0 (hO.no t_a0 (by decide)) (fun _ h9 => h9) rfl rfl 0 (by decide) rfl kw_82 (fun _ h9 => h9) dX3_readUnit_116 (fun v9 h9 => ?_)
          obtain ⟨v116, rfl, t_v116⟩ := h9
          have e9 := (hU7 _ _ t_v116).symm
          subst e9
          refine lv_bipush (v := 60) hx hb dX3_readUnit_119 (by decide) ?_
          have z9_60 : (60 : Int32).toInt = 60 := by decide
          refine tk_i hH hS hA (tr_V (n := 1) (As := [.int 60]) hx hb hml hown hts hkb hH (ox_map hOX rfl) hks hE hS hA (s_Tok_isSign l D cs kf T O X tk (60) y0 y1 n90_0_2 n90_0_3 n90_0_4 n90_0_5 n90_0_6 n90_0_7 ft t tn 40 t_tk t_y0 (by omega) (by omega) (by omega) (by omega) (by omega) (by omega) (by omega) htb x_v900.1 (by decide) (by decide) (hO.sub (by decide))) kw_646 kw_615 kw_616 kw_3 kw_617 (by decide +kernel) ⟨Nat.le_of_ble_eq_true rfl, Nat.le_of_ble_eq_true rfl⟩ (x_recv (ci := 7) hkb hH 0 rfl rfl) rfl rfl hl.1 (Nat.le_of_ble_eq_true rfl) dX3_readUnit_121 ⟨Nat.le_of_ble_eq_true rfl, Nat.le_of_ble_eq_true rfl⟩) (fun v121 u H locs hz9 hH hS => ?_)
          obtain ⟨rfl, l_v121, u_v121, x_v1210, x_v1211⟩ := hz9
          have hH : HT D cs A T (tk :: y0 :: O) ((tk, .inr (7, [.ref y0, .int y1, .int n90_0_2, .int n90_0_3, .int n90_0_4, .int n90_0_5, .int n90_0_6, .int n90_0_7])) :: (y0, .inl (cs.1, 900, .inl ft)) :: X) H := hH
          refine W.widen (k := 0) (n := 0) (Nat.le_of_ble_eq_true rfl) (Nat.le_of_ble_eq_true rfl) ?_
          refine lv_if_eq (tgt := 132) hx hb dX3_readUnit_124 (by decide) (fun c124 => ?_) (fun c124 => ?_)
          · skip
            have tc124 := f_eq (k := 0) (by decide) c124
            clear x_v1210
            replace x_v1211 := x_v1211.resolve_left (fun q9 => q9 tc124)
            refine lv_bipush (v := 10) hx hb dX3_readUnit_132 (by decide) ?_
            refine lv_istore_n (lv' := [(2, .int 10), (0, .ref a0), (1, .int x1)]) hx hb dX3_readUnit_134 rfl hl (by decide) rfl (fun ls hl => ?_)
            refine lv_iload_n hx hb dX3_readUnit_135 rfl (lv_at hl 0 rfl) ?_
            refine lv_bipush (v := 10) hx hb dX3_readUnit_136 (by decide) ?_
            refine lv_icmp_ne (tgt := 162) hx hb dX3_readUnit_138 (by decide) (fun c138 => absurd c138 (by decide)) (fun _ => ?_)
            refine lv_aload_n hx hb dX3_readUnit_141 rfl (lv_at hl 1 rfl) ?_
            refine t_get (ci := 3) (lst := ft3 0 0) (C := RX3) (F := TX3) (N := 3) hx hb hts uX3 hown hkb hH t_a0 (hO.no t_a0 (by decide)) (fun _ h9 => h9) rfl rfl 0 (by decide) rfl kw_82 (fun _ h9 => h9) dX3_readUnit_142 (fun v9 h9 => ?_)
            obtain ⟨v142, rfl, t_v142⟩ := h9
            have e9 := (hU7 _ _ t_v142).symm
            subst e9
            refine lv_bipush (v := 62) hx hb dX3_readUnit_145 (by decide) ?_
            have z9_62 : (62 : Int32).toInt = 62 := by decide
            refine tk_i hH hS hA (tr_V (n := 1) (As := [.int 62]) hx hb hml hown hts hkb hH (ox_map hOX rfl) hks hE hS hA (s_Tok_isSign l D cs kf T O X tk (62) y0 y1 n90_0_2 n90_0_3 n90_0_4 n90_0_5 n90_0_6 n90_0_7 ft t tn 41 t_tk t_y0 (by omega) (by omega) (by omega) (by omega) (by omega) (by omega) (by omega) htb x_v900.1 (by decide) (by decide) (hO.sub (by decide))) kw_646 kw_615 kw_616 kw_3 kw_617 (by decide +kernel) ⟨Nat.le_of_ble_eq_true rfl, Nat.le_of_ble_eq_true rfl⟩ (x_recv (ci := 7) hkb hH 0 rfl rfl) rfl rfl hl.1 (Nat.le_of_ble_eq_true rfl) dX3_readUnit_147 ⟨Nat.le_of_ble_eq_true rfl, Nat.le_of_ble_eq_true rfl⟩) (fun v147 u H locs hz9 hH hS => ?_)
            obtain ⟨rfl, l_v147, u_v147, x_v1470, x_v1471⟩ := hz9
            have hH : HT D cs A T (tk :: y0 :: O) ((tk, .inr (7, [.ref y0, .int y1, .int n90_0_2, .int n90_0_3, .int n90_0_4, .int n90_0_5, .int n90_0_6, .int n90_0_7])) :: (y0, .inl (cs.1, 900, .inl ft)) :: X) H := hH
            refine W.widen (k := 0) (n := 0) (Nat.le_of_ble_eq_true rfl) (Nat.le_of_ble_eq_true rfl) ?_
            refine lv_if_ne (tgt := 162) hx hb dX3_readUnit_150 (by decide) (fun c150 => ?_) (fun c150 => ?_)
            · skip
              have tc150 := f_ne (k := 0) (by decide) c150
              replace x_v1470 := x_v1470.resolve_left tc150
              clear x_v1471
              refine lv_aload_n hx hb dX3_readUnit_162 rfl (lv_at hl 1 rfl) ?_
              refine t_get (ci := 3) (lst := ft3 0 0) (C := RX3) (F := TX3) (N := 3) hx hb hts uX3 hown hkb hH t_a0 (hO.no t_a0 (by decide)) (fun _ h9 => h9) rfl rfl 0 (by decide) rfl kw_82 (fun _ h9 => h9) dX3_readUnit_163 (fun v9 h9 => ?_)
              obtain ⟨v163, rfl, t_v163⟩ := h9
              have e9 := (hU7 _ _ t_v163).symm
              subst e9
              refine tk_v hH hS hA (tr_V (n := 0) (As := []) hx hb hml hown hts hkb hH (ox_map hOX rfl) hks hE hS hA (s_Tok_go l D cs kf T O X tk y0 y1 n90_0_2 n90_0_3 n90_0_4 n90_0_5 n90_0_6 n90_0_7 ft t tn t_tk t_y0 (by omega) (by omega) (by omega) (by omega) (by omega) (by omega) (by omega) htb (by have q9 := (x_v900.1).b; omega) (hO.sub (by decide))) kw_641 kw_453 kw_454 kw_3 kw_455 (by decide +kernel) ⟨Nat.le_of_ble_eq_true rfl, Nat.le_of_ble_eq_true rfl⟩ (x_recv (ci := 7) hkb hH 0 rfl rfl) rfl rfl hl.1 (Nat.le_of_ble_eq_true rfl) dX3_readUnit_166 ⟨Nat.le_of_ble_eq_true rfl, Nat.le_of_ble_eq_true rfl⟩) (fun u H locs hz9 hH hS => ?_)
              obtain ⟨n166_0_2, n166_0_3, n166_0_4, n166_0_5, rfl, x_v1660, x_v1661, x_v1662⟩ := hz9
              have px166 := TSS.nx x_v900.1 x_v1661
              have hH : HT D cs A T (tk :: y0 :: O) ((tk, .inr (7, [.ref y0, .int y1, .int n166_0_2, .int n166_0_3, .int n166_0_4, .int n166_0_5, .int n90_0_6, .int n90_0_7])) :: (y0, .inl (cs.1, 900, .inl ft)) :: X) H := hH
              refine W.widen (k := 0) (n := 0) (Nat.le_of_ble_eq_true rfl) (Nat.le_of_ble_eq_true rfl) ?_
              have g169 : GL t tn [(5, 1)] [(3, 1)] y2 n166_0_2 := g98.tr (GL_nx (fun _ _ => st_cY (by omega)) px166)
              refine lv_aload_n hx hb dX3_readUnit_169 rfl (lv_at hl 1 rfl) ?_
              refine lv_iload_n hx hb dX3_readUnit_170 rfl (lv_at hl 2 rfl) ?_
              refine tk_i hH hS hA (tr_V (n := 1) (As := [.int x1]) hx hb hml hown hts hkb hH (ox_map hOX rfl) hks hE hS hA (s_LR_readSum1 l D cs kf T O X a0 x1 y0 y1 n166_0_2 n166_0_3 n166_0_4 n166_0_5 n90_0_6 n90_0_7 ft t tn tk t_a0 (by omega) (by omega) t_y0 (by omega) (by omega) (by omega) (by omega) (by omega) (by omega) (by omega) htb x_v1660 t_tk hU7 (by omega) (hO.sub (by decide))) kw_648 kw_650 ks_10 kw_4 kw_651 (by decide +kernel) ⟨Nat.le_of_ble_eq_true rfl, Nat.le_of_ble_eq_true rfl⟩ (HT.recv (ci := 3) hkb hH t_a0 (hO.no t_a0 (by decide)) rfl) rfl rfl hl.1 (Nat.le_of_ble_eq_true rfl) dX3_readUnit_171 ⟨Nat.le_of_ble_eq_true rfl, Nat.le_of_ble_eq_true rfl⟩) (fun v171 u H locs hz9 hH hS => ?_)
              obtain ⟨n171_0_2, n171_0_3, n171_0_4, n171_0_5, n171_0_6, n171_0_7, rfl, l_v171, u_v171, x_v1710, x_v1711, x_v1712⟩ := hz9
              have hH : HT D cs A T (tk :: y0 :: O) ((tk, .inr (7, [.ref y0, .int y1, .int n171_0_2, .int n171_0_3, .int n171_0_4, .int n171_0_5, .int n171_0_6, .int n171_0_7])) :: (y0, .inl (cs.1, 900, .inl ft)) :: X) H := hH
              refine W.widen (k := 0) (n := 0) (Nat.le_of_ble_eq_true rfl) (Nat.le_of_ble_eq_true rfl) ?_
              refine lv_if_ne (tgt := 179) hx hb dX3_readUnit_174 (by decide) (fun c174 => ?_) (fun c174 => ?_)
              · skip
                have tc174 := f_ne (k := 0) (by decide) c174
                replace x_v1710 := x_v1710.resolve_left tc174
                clear x_v1711
                refine lv_aload_n hx hb dX3_readUnit_179 rfl (lv_at hl 1 rfl) ?_
                refine lv_iload_n hx hb dX3_readUnit_180 rfl (lv_at hl 0 rfl) ?_
                refine lv_iconst (v := 0) hx hb dX3_readUnit_181 (by decide) ?_
                refine tk_v hH hS hA (tr_V (n := 2) (As := [.int 10, .int 0]) hx hb hml hown hts hkb hH (ox_map hOX rfl) hks hE hS hA (s_LR_put l D cs kf T (tk :: y0 :: O) ((tk, .inr (7, [.ref y0, .int y1, .int n171_0_2, .int n171_0_3, .int n171_0_4, .int n171_0_5, .int n171_0_6, .int n171_0_7])) :: (y0, .inl (cs.1, 900, .inl ft)) :: X) a0 (10) (0) t_a0 (hO.sub (by decide))) kw_642 kw_644 ks_9 kw_4 kw_645 (by decide +kernel) ⟨Nat.le_of_ble_eq_true rfl, Nat.le_of_ble_eq_true rfl⟩ (HT.recv (ci := 3) hkb hH t_a0 (hO.no t_a0 (by decide)) rfl) rfl rfl hl.1 (Nat.le_of_ble_eq_true rfl) dX3_readUnit_182 ⟨Nat.le_of_ble_eq_true rfl, Nat.le_of_ble_eq_true rfl⟩) (fun u H locs hz9 hH hS => ?_)
                have hz9 : u = (T, tk :: y0 :: O, (tk, .inr (7, [.ref y0, .int y1, .int n171_0_2, .int n171_0_3, .int n171_0_4, .int n171_0_5, .int n171_0_6, .int n171_0_7])) :: (y0, .inl (cs.1, 900, .inl ft)) :: X) := hz9
                subst hz9
                have hH : HT D cs A T (tk :: y0 :: O) ((tk, .inr (7, [.ref y0, .int y1, .int n171_0_2, .int n171_0_3, .int n171_0_4, .int n171_0_5, .int n171_0_6, .int n171_0_7])) :: (y0, .inl (cs.1, 900, .inl ft)) :: X) H := hH
                refine W.widen (k := 0) (n := 0) (Nat.le_of_ble_eq_true rfl) (Nat.le_of_ble_eq_true rfl) ?_
                refine lv_iconst (v := 1) hx hb dX3_readUnit_185 (by decide) ?_
                have z9_1 : (1 : Int32).toInt = 1 := by decide
                exact te_z hx hb hr hlocks (by rfl) hH hS (⟨n171_0_2, n171_0_3, n171_0_4, n171_0_5, n171_0_6, n171_0_7, rfl, by decide, by decide, (Or.inr ⟨x_v1710.1, by omega, by omega, (by first | (refine g20.tr x_v240.2.2.2) | (refine g70.tr (GL_nx (fun _ _ => st_xY x_v760.2.2.1) x_v760.2.1)) | (refine g169.tr x_v1710.2.2.2))⟩), Or.inl (by decide), (by omega)⟩) dX3_readUnit_186
              · skip
                have tc174 := f_eq (k := 0) (by decide) c174
                clear x_v1710
                replace x_v1711 := x_v1711.resolve_left (fun q9 => q9 tc174)
                refine lv_iconst (v := 0) hx hb dX3_readUnit_177 (by decide) ?_
                have z9_0 : (0 : Int32).toInt = 0 := by decide
                exact te_z hx hb hr hlocks (by rfl) hH hS (⟨n171_0_2, n171_0_3, n171_0_4, n171_0_5, n171_0_6, n171_0_7, rfl, by decide, by decide, Or.inl (by decide), (Or.inr (by first | (refine BL_f (fun _ _ => st_uND ?_) x_v140 (by decide) x_v141 ?_ <;> omega) | (refine g20.bd x_v241) | (refine BL_f (fun _ _ => st_uBD ?_) x_v540 (by decide) x_v541 ?_ <;> omega) | (refine g60.bd (BL.cons x_v641)) | (refine g70.bd (BL_f (fun _ _ => st_xN x_v761.1) x_v761.2.1 (by decide) x_v761.2.2 ?_); omega) | (refine g88.bd (BL.cons x_v901)) | (refine g98.bd (BL_f (fun _ _ => st_cN ?_) x_v1580 (by decide) x_v1581 ?_) <;> omega) | (refine g169.bd x_v1711))), (by omega)⟩) dX3_readUnit_178
            · skip
              have tc150 := f_eq (k := 0) (by decide) c150
              clear x_v1470
              replace x_v1471 := x_v1471.resolve_left (fun q9 => q9 tc150)
              refine lv_aload_n hx hb dX3_readUnit_153 rfl (lv_at hl 1 rfl) ?_
              refine t_get (ci := 3) (lst := ft3 0 0) (C := RX3) (F := TX3) (N := 3) hx hb hts uX3 hown hkb hH t_a0 (hO.no t_a0 (by decide)) (fun _ h9 => h9) rfl rfl 0 (by decide) rfl kw_82 (fun _ h9 => h9) dX3_readUnit_154 (fun v9 h9 => ?_)
              obtain ⟨v154, rfl, t_v154⟩ := h9
              have e9 := (hU7 _ _ t_v154).symm
              subst e9
              refine lv_iconst (v := 2) hx hb dX3_readUnit_157 (by decide) ?_
              have z9_2 : (2 : Int32).toInt = 2 := by decide
              refine tk_i hH hS hA (tr_V (n := 1) (As := [.int 2]) hx hb hml hown hts hkb hH (ox_map hOX rfl) hks hE hS hA (s_Tok_refuse l D cs kf T O X tk (2) y0 y1 n90_0_2 n90_0_3 n90_0_4 n90_0_5 n90_0_6 n90_0_7 ft t tn t_tk t_y0 (by omega) (by omega) (by omega) (by omega) (by omega) (by omega) (by omega) htb x_v900.1 (hO.sub (by decide))) kw_640 kw_580 kw_581 kw_3 kw_582 (by decide +kernel) ⟨Nat.le_of_ble_eq_true rfl, Nat.le_of_ble_eq_true rfl⟩ (x_recv (ci := 7) hkb hH 0 rfl rfl) rfl rfl hl.1 (Nat.le_of_ble_eq_true rfl) dX3_readUnit_158 ⟨Nat.le_of_ble_eq_true rfl, Nat.le_of_ble_eq_true rfl⟩) (fun v158 u H locs hz9 hH hS => ?_)
              obtain ⟨n158_0_6, n158_0_7, rfl, l_v158, u_v158, x_v1580, x_v1581⟩ := hz9
              have hH : HT D cs A T (tk :: y0 :: O) ((tk, .inr (7, [.ref y0, .int y1, .int n90_0_2, .int n90_0_3, .int n90_0_4, .int n90_0_5, .int n158_0_6, .int n158_0_7])) :: (y0, .inl (cs.1, 900, .inl ft)) :: X) H := hH
              refine W.widen (k := 0) (n := 0) (Nat.le_of_ble_eq_true rfl) (Nat.le_of_ble_eq_true rfl) ?_
              exact te_z hx hb hr hlocks (nar01 (by omega) (by omega)) hH hS (⟨n90_0_2, n90_0_3, n90_0_4, n90_0_5, n158_0_6, n158_0_7, rfl, by omega, by omega, (Or.inl (by omega)), (Or.inr (by first | (refine BL_f (fun _ _ => st_uND ?_) x_v140 (by decide) x_v141 ?_ <;> omega) | (refine g20.bd x_v241) | (refine BL_f (fun _ _ => st_uBD ?_) x_v540 (by decide) x_v541 ?_ <;> omega) | (refine g60.bd (BL.cons x_v641)) | (refine g70.bd (BL_f (fun _ _ => st_xN x_v761.1) x_v761.2.1 (by decide) x_v761.2.2 ?_); omega) | (refine g88.bd (BL.cons x_v901)) | (refine g98.bd (BL_f (fun _ _ => st_cN ?_) x_v1580 (by decide) x_v1581 ?_) <;> omega) | (refine g169.bd x_v1711))), (by omega)⟩) dX3_readUnit_161
          · skip
            have tc124 := f_ne (k := 0) (by decide) c124
            replace x_v1210 := x_v1210.resolve_left tc124
            clear x_v1211
            refine lv_bipush (v := 9) hx hb dX3_readUnit_127 (by decide) ?_
            refine lv_goto (tgt := 134) hx hb dX3_readUnit_129 (by decide) ?_
            refine lv_istore_n (lv' := [(2, .int 9), (0, .ref a0), (1, .int x1)]) hx hb dX3_readUnit_134 rfl hl (by decide) rfl (fun ls hl => ?_)
            refine lv_iload_n hx hb dX3_readUnit_135 rfl (lv_at hl 0 rfl) ?_
            refine lv_bipush (v := 10) hx hb dX3_readUnit_136 (by decide) ?_
            refine lv_icmp_ne (tgt := 162) hx hb dX3_readUnit_138 (by decide) (fun _ => ?_) (fun c138 => absurd c138 (by decide))
            refine lv_aload_n hx hb dX3_readUnit_162 rfl (lv_at hl 1 rfl) ?_
            refine t_get (ci := 3) (lst := ft3 0 0) (C := RX3) (F := TX3) (N := 3) hx hb hts uX3 hown hkb hH t_a0 (hO.no t_a0 (by decide)) (fun _ h9 => h9) rfl rfl 0 (by decide) rfl kw_82 (fun _ h9 => h9) dX3_readUnit_163 (fun v9 h9 => ?_)
            obtain ⟨v163, rfl, t_v163⟩ := h9
            have e9 := (hU7 _ _ t_v163).symm
            subst e9
            refine tk_v hH hS hA (tr_V (n := 0) (As := []) hx hb hml hown hts hkb hH (ox_map hOX rfl) hks hE hS hA (s_Tok_go l D cs kf T O X tk y0 y1 n90_0_2 n90_0_3 n90_0_4 n90_0_5 n90_0_6 n90_0_7 ft t tn t_tk t_y0 (by omega) (by omega) (by omega) (by omega) (by omega) (by omega) (by omega) htb (by have q9 := (x_v900.1).b; omega) (hO.sub (by decide))) kw_641 kw_453 kw_454 kw_3 kw_455 (by decide +kernel) ⟨Nat.le_of_ble_eq_true rfl, Nat.le_of_ble_eq_true rfl⟩ (x_recv (ci := 7) hkb hH 0 rfl rfl) rfl rfl hl.1 (Nat.le_of_ble_eq_true rfl) dX3_readUnit_166 ⟨Nat.le_of_ble_eq_true rfl, Nat.le_of_ble_eq_true rfl⟩) (fun u H locs hz9 hH hS => ?_)
            obtain ⟨n166_0_2, n166_0_3, n166_0_4, n166_0_5, rfl, x_v1660, x_v1661, x_v1662⟩ := hz9
            have px166 := TSS.nx x_v900.1 x_v1661
            have hH : HT D cs A T (tk :: y0 :: O) ((tk, .inr (7, [.ref y0, .int y1, .int n166_0_2, .int n166_0_3, .int n166_0_4, .int n166_0_5, .int n90_0_6, .int n90_0_7])) :: (y0, .inl (cs.1, 900, .inl ft)) :: X) H := hH
            refine W.widen (k := 0) (n := 0) (Nat.le_of_ble_eq_true rfl) (Nat.le_of_ble_eq_true rfl) ?_
            have g169 : GL t tn [(5, 1)] [(3, 1)] y2 n166_0_2 := g98.tr (GL_nx (fun _ _ => st_cY (by omega)) px166)
            refine lv_aload_n hx hb dX3_readUnit_169 rfl (lv_at hl 1 rfl) ?_
            refine lv_iload_n hx hb dX3_readUnit_170 rfl (lv_at hl 2 rfl) ?_
            refine tk_i hH hS hA (tr_V (n := 1) (As := [.int x1]) hx hb hml hown hts hkb hH (ox_map hOX rfl) hks hE hS hA (s_LR_readSum1 l D cs kf T O X a0 x1 y0 y1 n166_0_2 n166_0_3 n166_0_4 n166_0_5 n90_0_6 n90_0_7 ft t tn tk t_a0 (by omega) (by omega) t_y0 (by omega) (by omega) (by omega) (by omega) (by omega) (by omega) (by omega) htb x_v1660 t_tk hU7 (by omega) (hO.sub (by decide))) kw_648 kw_650 ks_10 kw_4 kw_651 (by decide +kernel) ⟨Nat.le_of_ble_eq_true rfl, Nat.le_of_ble_eq_true rfl⟩ (HT.recv (ci := 3) hkb hH t_a0 (hO.no t_a0 (by decide)) rfl) rfl rfl hl.1 (Nat.le_of_ble_eq_true rfl) dX3_readUnit_171 ⟨Nat.le_of_ble_eq_true rfl, Nat.le_of_ble_eq_true rfl⟩) (fun v171 u H locs hz9 hH hS => ?_)
            obtain ⟨n171_0_2, n171_0_3, n171_0_4, n171_0_5, n171_0_6, n171_0_7, rfl, l_v171, u_v171, x_v1710, x_v1711, x_v1712⟩ := hz9
            have hH : HT D cs A T (tk :: y0 :: O) ((tk, .inr (7, [.ref y0, .int y1, .int n171_0_2, .int n171_0_3, .int n171_0_4, .int n171_0_5, .int n171_0_6, .int n171_0_7])) :: (y0, .inl (cs.1, 900, .inl ft)) :: X) H := hH
            refine W.widen (k := 0) (n := 0) (Nat.le_of_ble_eq_true rfl) (Nat.le_of_ble_eq_true rfl) ?_
            refine lv_if_ne (tgt := 179) hx hb dX3_readUnit_174 (by decide) (fun c174 => ?_) (fun c174 => ?_)
            · skip
              have tc174 := f_ne (k := 0) (by decide) c174
              replace x_v1710 := x_v1710.resolve_left tc174
              clear x_v1711
              refine lv_aload_n hx hb dX3_readUnit_179 rfl (lv_at hl 1 rfl) ?_
              refine lv_iload_n hx hb dX3_readUnit_180 rfl (lv_at hl 0 rfl) ?_
              refine lv_iconst (v := 0) hx hb dX3_readUnit_181 (by decide) ?_
              refine tk_v hH hS hA (tr_V (n := 2) (As := [.int 9, .int 0]) hx hb hml hown hts hkb hH (ox_map hOX rfl) hks hE hS hA (s_LR_put l D cs kf T (tk :: y0 :: O) ((tk, .inr (7, [.ref y0, .int y1, .int n171_0_2, .int n171_0_3, .int n171_0_4, .int n171_0_5, .int n171_0_6, .int n171_0_7])) :: (y0, .inl (cs.1, 900, .inl ft)) :: X) a0 (9) (0) t_a0 (hO.sub (by decide))) kw_642 kw_644 ks_9 kw_4 kw_645 (by decide +kernel) ⟨Nat.le_of_ble_eq_true rfl, Nat.le_of_ble_eq_true rfl⟩ (HT.recv (ci := 3) hkb hH t_a0 (hO.no t_a0 (by decide)) rfl) rfl rfl hl.1 (Nat.le_of_ble_eq_true rfl) dX3_readUnit_182 ⟨Nat.le_of_ble_eq_true rfl, Nat.le_of_ble_eq_true rfl⟩) (fun u H locs hz9 hH hS => ?_)
              have hz9 : u = (T, tk :: y0 :: O, (tk, .inr (7, [.ref y0, .int y1, .int n171_0_2, .int n171_0_3, .int n171_0_4, .int n171_0_5, .int n171_0_6, .int n171_0_7])) :: (y0, .inl (cs.1, 900, .inl ft)) :: X) := hz9
              subst hz9
              have hH : HT D cs A T (tk :: y0 :: O) ((tk, .inr (7, [.ref y0, .int y1, .int n171_0_2, .int n171_0_3, .int n171_0_4, .int n171_0_5, .int n171_0_6, .int n171_0_7])) :: (y0, .inl (cs.1, 900, .inl ft)) :: X) H := hH
              refine W.widen (k := 0) (n := 0) (Nat.le_of_ble_eq_true rfl) (Nat.le_of_ble_eq_true rfl) ?_
              refine lv_iconst (v := 1) hx hb dX3_readUnit_185 (by decide) ?_
              have z9_1 : (1 : Int32).toInt = 1 := by decide
              exact te_z hx hb hr hlocks (by rfl) hH hS (⟨n171_0_2, n171_0_3, n171_0_4, n171_0_5, n171_0_6, n171_0_7, rfl, by decide, by decide, (Or.inr ⟨x_v1710.1, by omega, by omega, (by first | (refine g20.tr x_v240.2.2.2) | (refine g70.tr (GL_nx (fun _ _ => st_xY x_v760.2.2.1) x_v760.2.1)) | (refine g169.tr x_v1710.2.2.2))⟩), Or.inl (by decide), (by omega)⟩) dX3_readUnit_186
            · skip
              have tc174 := f_eq (k := 0) (by decide) c174
              clear x_v1710
              replace x_v1711 := x_v1711.resolve_left (fun q9 => q9 tc174)
              refine lv_iconst (v := 0) hx hb dX3_readUnit_177 (by decide) ?_
              have z9_0 : (0 : Int32).toInt = 0 := by decide
              exact te_z hx hb hr hlocks (by rfl) hH hS (⟨n171_0_2, n171_0_3, n171_0_4, n171_0_5, n171_0_6, n171_0_7, rfl, by decide, by decide, Or.inl (by decide), (Or.inr (by first | (refine BL_f (fun _ _ => st_uND ?_) x_v140 (by decide) x_v141 ?_ <;> omega) | (refine g20.bd x_v241) | (refine BL_f (fun _ _ => st_uBD ?_) x_v540 (by decide) x_v541 ?_ <;> omega) | (refine g60.bd (BL.cons x_v641)) | (refine g70.bd (BL_f (fun _ _ => st_xN x_v761.1) x_v761.2.1 (by decide) x_v761.2.2 ?_); omega) | (refine g88.bd (BL.cons x_v901)) | (refine g98.bd (BL_f (fun _ _ => st_cN ?_) x_v1580 (by decide) x_v1581 ?_) <;> omega) | (refine g169.bd x_v1711))), (by omega)⟩) dX3_readUnit_178
        · skip
          have tc107 := f_ne (k := 0) (by decide) c107
          replace x_v1040 := x_v1040.resolve_left tc107
          clear x_v1041
          refine lv_bipush (v := 8) hx hb dX3_readUnit_110 (by decide) ?_
          refine lv_goto (tgt := 134) hx hb dX3_readUnit_112 (by decide) ?_
          refine lv_istore_n (lv' := [(2, .int 8), (0, .ref a0), (1, .int x1)]) hx hb dX3_readUnit_134 rfl hl (by decide) rfl (fun ls hl => ?_)
          refine lv_iload_n hx hb dX3_readUnit_135 rfl (lv_at hl 0 rfl) ?_
          refine lv_bipush (v := 10) hx hb dX3_readUnit_136 (by decide) ?_
          refine lv_icmp_ne (tgt := 162) hx hb dX3_readUnit_138 (by decide) (fun _ => ?_) (fun c138 => absurd c138 (by decide))
          refine lv_aload_n hx hb dX3_readUnit_162 rfl (lv_at hl 1 rfl) ?_
          refine t_get (ci := 3) (lst := ft3 0 0) (C := RX3) (F := TX3) (N := 3) hx hb hts uX3 hown hkb hH t_a0 (hO.no t_a0 (by decide)) (fun _ h9 => h9) rfl rfl 0 (by decide) rfl kw_82 (fun _ h9 => h9) dX3_readUnit_163 (fun v9 h9 => ?_)
          obtain ⟨v163, rfl, t_v163⟩ := h9
          have e9 := (hU7 _ _ t_v163).symm
          subst e9
          refine tk_v hH hS hA (tr_V (n := 0) (As := []) hx hb hml hown hts hkb hH (ox_map hOX rfl) hks hE hS hA (s_Tok_go l D cs kf T O X tk y0 y1 n90_0_2 n90_0_3 n90_0_4 n90_0_5 n90_0_6 n90_0_7 ft t tn t_tk t_y0 (by omega) (by omega) (by omega) (by omega) (by omega) (by omega) (by omega) htb (by have q9 := (x_v900.1).b; omega) (hO.sub (by decide))) kw_641 kw_453 kw_454 kw_3 kw_455 (by decide +kernel) ⟨Nat.le_of_ble_eq_true rfl, Nat.le_of_ble_eq_true rfl⟩ (x_recv (ci := 7) hkb hH 0 rfl rfl) rfl rfl hl.1 (Nat.le_of_ble_eq_true rfl) dX3_readUnit_166 ⟨Nat.le_of_ble_eq_true rfl, Nat.le_of_ble_eq_true rfl⟩) (fun u H locs hz9 hH hS => ?_)
          obtain ⟨n166_0_2, n166_0_3, n166_0_4, n166_0_5, rfl, x_v1660, x_v1661, x_v1662⟩ := hz9
          have px166 := TSS.nx x_v900.1 x_v1661
          have hH : HT D cs A T (tk :: y0 :: O) ((tk, .inr (7, [.ref y0, .int y1, .int n166_0_2, .int n166_0_3, .int n166_0_4, .int n166_0_5, .int n90_0_6, .int n90_0_7])) :: (y0, .inl (cs.1, 900, .inl ft)) :: X) H := hH
          refine W.widen (k := 0) (n := 0) (Nat.le_of_ble_eq_true rfl) (Nat.le_of_ble_eq_true rfl) ?_
          have g169 : GL t tn [(5, 1)] [(3, 1)] y2 n166_0_2 := g98.tr (GL_nx (fun _ _ => st_cY (by omega)) px166)
          refine lv_aload_n hx hb dX3_readUnit_169 rfl (lv_at hl 1 rfl) ?_
          refine lv_iload_n hx hb dX3_readUnit_170 rfl (lv_at hl 2 rfl) ?_
          refine tk_i hH hS hA (tr_V (n := 1) (As := [.int x1]) hx hb hml hown hts hkb hH (ox_map hOX rfl) hks hE hS hA (s_LR_readSum1 l D cs kf T O X a0 x1 y0 y1 n166_0_2 n166_0_3 n166_0_4 n166_0_5 n90_0_6 n90_0_7 ft t tn tk t_a0 (by omega) (by omega) t_y0 (by omega) (by omega) (by omega) (by omega) (by omega) (by omega) (by omega) htb x_v1660 t_tk hU7 (by omega) (hO.sub (by decide))) kw_648 kw_650 ks_10 kw_4 kw_651 (by decide +kernel) ⟨Nat.le_of_ble_eq_true rfl, Nat.le_of_ble_eq_true rfl⟩ (HT.recv (ci := 3) hkb hH t_a0 (hO.no t_a0 (by decide)) rfl) rfl rfl hl.1 (Nat.le_of_ble_eq_true rfl) dX3_readUnit_171 ⟨Nat.le_of_ble_eq_true rfl, Nat.le_of_ble_eq_true rfl⟩) (fun v171 u H locs hz9 hH hS => ?_)
          obtain ⟨n171_0_2, n171_0_3, n171_0_4, n171_0_5, n171_0_6, n171_0_7, rfl, l_v171, u_v171, x_v1710, x_v1711, x_v1712⟩ := hz9
          have hH : HT D cs A T (tk :: y0 :: O) ((tk, .inr (7, [.ref y0, .int y1, .int n171_0_2, .int n171_0_3, .int n171_0_4, .int n171_0_5, .int n171_0_6, .int n171_0_7])) :: (y0, .inl (cs.1, 900, .inl ft)) :: X) H := hH
          refine W.widen (k := 0) (n := 0) (Nat.le_of_ble_eq_true rfl) (Nat.le_of_ble_eq_true rfl) ?_
          refine lv_if_ne (tgt := 179) hx hb dX3_readUnit_174 (by decide) (fun c174 => ?_) (fun c174 => ?_)
          · skip
            have tc174 := f_ne (k := 0) (by decide) c174
            replace x_v1710 := x_v1710.resolve_left tc174
            clear x_v1711
            refine lv_aload_n hx hb dX3_readUnit_179 rfl (lv_at hl 1 rfl) ?_
            refine lv_iload_n hx hb dX3_readUnit_180 rfl (lv_at hl 0 rfl) ?_
            refine lv_iconst (v := 0) hx hb dX3_readUnit_181 (by decide) ?_
            refine tk_v hH hS hA (tr_V (n := 2) (As := [.int 8, .int 0]) hx hb hml hown hts hkb hH (ox_map hOX rfl) hks hE hS hA (s_LR_put l D cs kf T (tk :: y0 :: O) ((tk, .inr (7, [.ref y0, .int y1, .int n171_0_2, .int n171_0_3, .int n171_0_4, .int n171_0_5, .int n171_0_6, .int n171_0_7])) :: (y0, .inl (cs.1, 900, .inl ft)) :: X) a0 (8) (0) t_a0 (hO.sub (by decide))) kw_642 kw_644 ks_9 kw_4 kw_645 (by decide +kernel) ⟨Nat.le_of_ble_eq_true rfl, Nat.le_of_ble_eq_true rfl⟩ (HT.recv (ci := 3) hkb hH t_a0 (hO.no t_a0 (by decide)) rfl) rfl rfl hl.1 (Nat.le_of_ble_eq_true rfl) dX3_readUnit_182 ⟨Nat.le_of_ble_eq_true rfl, Nat.le_of_ble_eq_true rfl⟩) (fun u H locs hz9 hH hS => ?_)
            have hz9 : u = (T, tk :: y0 :: O, (tk, .inr (7, [.ref y0, .int y1, .int n171_0_2, .int n171_0_3, .int n171_0_4, .int n171_0_5, .int n171_0_6, .int n171_0_7])) :: (y0, .inl (cs.1, 900, .inl ft)) :: X) := hz9
            subst hz9
            have hH : HT D cs A T (tk :: y0 :: O) ((tk, .inr (7, [.ref y0, .int y1, .int n171_0_2, .int n171_0_3, .int n171_0_4, .int n171_0_5, .int n171_0_6, .int n171_0_7])) :: (y0, .inl (cs.1, 900, .inl ft)) :: X) H := hH
            refine W.widen (k := 0) (n := 0) (Nat.le_of_ble_eq_true rfl) (Nat.le_of_ble_eq_true rfl) ?_
            refine lv_iconst (v := 1) hx hb dX3_readUnit_185 (by decide) ?_
            have z9_1 : (1 : Int32).toInt = 1 := by decide
            exact te_z hx hb hr hlocks (by rfl) hH hS (⟨n171_0_2, n171_0_3, n171_0_4, n171_0_5, n171_0_6, n171_0_7, rfl, by decide, by decide, (Or.inr ⟨x_v1710.1, by omega, by omega, (by first | (refine g20.tr x_v240.2.2.2) | (refine g70.tr (GL_nx (fun _ _ => st_xY x_v760.2.2.1) x_v760.2.1)) | (refine g169.tr x_v1710.2.2.2))⟩), Or.inl (by decide), (by omega)⟩) dX3_readUnit_186
          · skip
            have tc174 := f_eq (k := 0) (by decide) c174
            clear x_v1710
            replace x_v1711 := x_v1711.resolve_left (fun q9 => q9 tc174)
            refine lv_iconst (v := 0) hx hb dX3_readUnit_177 (by decide) ?_
            have z9_0 : (0 : Int32).toInt = 0 := by decide
            exact te_z hx hb hr hlocks (by rfl) hH hS (⟨n171_0_2, n171_0_3, n171_0_4, n171_0_5, n171_0_6, n171_0_7, rfl, by decide, by decide, Or.inl (by decide), (Or.inr (by first | (refine BL_f (fun _ _ => st_uND ?_) x_v140 (by decide) x_v141 ?_ <;> omega) | (refine g20.bd x_v241) | (refine BL_f (fun _ _ => st_uBD ?_) x_v540 (by decide) x_v541 ?_ <;> omega) | (refine g60.bd (BL.cons x_v641)) | (refine g70.bd (BL_f (fun _ _ => st_xN x_v761.1) x_v761.2.1 (by decide) x_v761.2.2 ?_); omega) | (refine g88.bd (BL.cons x_v901)) | (refine g98.bd (BL_f (fun _ _ => st_cN ?_) x_v1580 (by decide) x_v1581 ?_) <;> omega) | (refine g169.bd x_v1711))), (by omega)⟩) dX3_readUnit_178
      · skip
        have tc93 := f_eq (k := 0) (by decide) c93
        clear x_v900
        replace x_v901 := x_v901.resolve_left (fun q9 => q9 tc93)
        refine lv_iconst (v := 0) hx hb dX3_readUnit_96 (by decide) ?_
        have z9_0 : (0 : Int32).toInt = 0 := by decide
        exact te_z hx hb hr hlocks (by rfl) hH hS (⟨n90_0_2, n90_0_3, n90_0_4, n90_0_5, n90_0_6, n90_0_7, rfl, by decide, by decide, Or.inl (by decide), (Or.inr (by first | (refine BL_f (fun _ _ => st_uND ?_) x_v140 (by decide) x_v141 ?_ <;> omega) | (refine g20.bd x_v241) | (refine BL_f (fun _ _ => st_uBD ?_) x_v540 (by decide) x_v541 ?_ <;> omega) | (refine g60.bd (BL.cons x_v641)) | (refine g70.bd (BL_f (fun _ _ => st_xN x_v761.1) x_v761.2.1 (by decide) x_v761.2.2 ?_); omega) | (refine g88.bd (BL.cons x_v901)) | (refine g98.bd (BL_f (fun _ _ => st_cN ?_) x_v1580 (by decide) x_v1581 ?_) <;> omega) | (refine g169.bd x_v1711))), (by omega)⟩) dX3_readUnit_97
    · skip
      have tc49 := f_ne (k := 0) (by decide) c49
      replace x_v460 := x_v460.resolve_left tc49
      clear x_v461
      refine lv_aload_n hx hb dX3_readUnit_52 rfl (lv_at hl 0 rfl) ?_
      refine lv_iload_n hx hb dX3_readUnit_53 rfl (lv_at hl 1 rfl) ?_
      refine tk_i hH hS hA (tr_V (n := 1) (As := [.int x1]) hx hb hml hown hts hkb hH (ox_map hOX rfl) hks hE hS hA (s_LR_enter1 l D cs kf T O X a0 x1 y0 y1 y2 y3 y4 y5 y6 y7 ft t tn tk t_a0 (by omega) (by omega) t_y0 (by omega) (by omega) (by omega) (by omega) (by omega) (by omega) (by omega) htb hto t_tk hU7 (hO.sub (by decide))) kw_636 kw_638 ks_8 kw_4 kw_639 (by decide +kernel) ⟨Nat.le_of_ble_eq_true rfl, Nat.le_of_ble_eq_true rfl⟩ (HT.recv (ci := 3) hkb hH t_a0 (hO.no t_a0 (by decide)) rfl) rfl rfl hl.1 (Nat.le_of_ble_eq_true rfl) dX3_readUnit_54 ⟨Nat.le_of_ble_eq_true rfl, Nat.le_of_ble_eq_true rfl⟩) (fun v54 u H locs hz9 hH hS => ?_)
      obtain ⟨n54_0_2, n54_0_3, n54_0_4, n54_0_5, rfl, l_v54, u_v54, x_v540, x_v541, x_v542⟩ := hz9
      have hH : HT D cs A T (tk :: y0 :: O) ((tk, .inr (7, [.ref y0, .int y1, .int n54_0_2, .int n54_0_3, .int n54_0_4, .int n54_0_5, .int y6, .int y7])) :: (y0, .inl (cs.1, 900, .inl ft)) :: X) H := hH
      refine W.widen (k := 0) (n := 0) (Nat.le_of_ble_eq_true rfl) (Nat.le_of_ble_eq_true rfl) ?_
      refine lv_if_eq (tgt := 86) hx hb dX3_readUnit_57 (by decide) (fun c57 => ?_) (fun c57 => ?_)
      · skip
        have tc57 := f_eq (k := 0) (by decide) c57
        exfalso; omega
      · skip
        have tc57 := f_ne (k := 0) (by decide) c57
        have g60 : GL t tn [(5, 1)] [(8, 2), (20, 38)] y2 n54_0_2 := GL_nx (fun _ _ => st_uB (by omega) (by decide)) x_v541
        refine lv_aload_n hx hb dX3_readUnit_60 rfl (lv_at hl 0 rfl) ?_
        refine lv_iload_n hx hb dX3_readUnit_61 rfl (lv_at hl 1 rfl) ?_
        refine lv_iconst (v := 1) hx hb dX3_readUnit_62 (by decide) ?_
        refine lv_iadd hx hb dX3_readUnit_63 ?_
        refine lv_topi (fun v63 ev63 => ?_)
        have tv63 : v63.toInt = x1.toInt + (1) := by rw [ev63]; exact add_i rfl (by decide : (1 : Int32).toInt = 1) (by omega) (by omega)
        refine tk_i hH hS hA (tr_V (n := 1) (As := [.int v63]) hx hb hml hown hts hkb hH (ox_map hOX rfl) hks hE hS hA (s_LR_readTruth2 l D cs kf T O X a0 v63 y0 y1 n54_0_2 n54_0_3 n54_0_4 n54_0_5 y6 y7 ft t tn tk t_a0 (by omega) (by omega) t_y0 (by omega) (by omega) (by omega) (by omega) (by omega) (by omega) (by omega) htb x_v540 t_tk hU7 (by omega) (hO.sub (by decide))) kw_622 kw_624 ks_5 kw_4 kw_625 (by decide +kernel) ⟨Nat.le_of_ble_eq_true rfl, Nat.le_of_ble_eq_true rfl⟩ (HT.recv (ci := 3) hkb hH t_a0 (hO.no t_a0 (by decide)) rfl) rfl rfl hl.1 (Nat.le_of_ble_eq_true rfl) dX3_readUnit_64 ⟨Nat.le_of_ble_eq_true rfl, Nat.le_of_ble_eq_true rfl⟩) (fun v64 u H locs hz9 hH hS => ?_)
        obtain ⟨n64_0_2, n64_0_3, n64_0_4, n64_0_5, n64_0_6, n64_0_7, rfl, l_v64, u_v64, x_v640, x_v641, x_v642⟩ := hz9
        have hH : HT D cs A T (tk :: y0 :: O) ((tk, .inr (7, [.ref y0, .int y1, .int n64_0_2, .int n64_0_3, .int n64_0_4, .int n64_0_5, .int n64_0_6, .int n64_0_7])) :: (y0, .inl (cs.1, 900, .inl ft)) :: X) H := hH
        refine W.widen (k := 0) (n := 0) (Nat.le_of_ble_eq_true rfl) (Nat.le_of_ble_eq_true rfl) ?_
        refine lv_if_eq (tgt := 86) hx hb dX3_readUnit_67 (by decide) (fun c67 => ?_) (fun c67 => ?_)
        · skip
          have tc67 := f_eq (k := 0) (by decide) c67
          clear x_v640
          replace x_v641 := x_v641.resolve_left (fun q9 => q9 tc67)
          refine lv_iconst (v := 0) hx hb dX3_readUnit_86 (by decide) ?_
          have z9_0 : (0 : Int32).toInt = 0 := by decide
          exact te_z hx hb hr hlocks (by rfl) hH hS (⟨n64_0_2, n64_0_3, n64_0_4, n64_0_5, n64_0_6, n64_0_7, rfl, by decide, by decide, Or.inl (by decide), (Or.inr (by first | (refine BL_f (fun _ _ => st_uND ?_) x_v140 (by decide) x_v141 ?_ <;> omega) | (refine g20.bd x_v241) | (refine BL_f (fun _ _ => st_uBD ?_) x_v540 (by decide) x_v541 ?_ <;> omega) | (refine g60.bd (BL.cons x_v641)) | (refine g70.bd (BL_f (fun _ _ => st_xN x_v761.1) x_v761.2.1 (by decide) x_v761.2.2 ?_); omega) | (refine g88.bd (BL.cons x_v901)) | (refine g98.bd (BL_f (fun _ _ => st_cN ?_) x_v1580 (by decide) x_v1581 ?_) <;> omega) | (refine g169.bd x_v1711))), (by omega)⟩) dX3_readUnit_87
        · skip
          have tc67 := f_ne (k := 0) (by decide) c67
          replace x_v640 := x_v640.resolve_left tc67
          clear x_v641
          have g70 := g60.tr (GL.cons x_v640.2.2.2)
          refine lv_aload_n hx hb dX3_readUnit_70 rfl (lv_at hl 0 rfl) ?_
          refine t_get (ci := 3) (lst := ft3 0 0) (C := RX3) (F := TX3) (N := 3) hx hb hts uX3 hown hkb hH t_a0 (hO.no t_a0 (by decide)) (fun _ h9 => h9) rfl rfl 0 (by decide) rfl kw_82 (fun _ h9 => h9) dX3_readUnit_71 (fun v9 h9 => ?_)
          obtain ⟨v71, rfl, t_v71⟩ := h9
          have e9 := (hU7 _ _ t_v71).symm
          subst e9
          refine lv_bipush (v := 93) hx hb dX3_readUnit_74 (by decide) ?_
          have z9_93 : (93 : Int32).toInt = 93 := by decide
          refine tk_i hH hS hA (tr_V (n := 1) (As := [.int 93]) hx hb hml hown hts hkb hH (ox_map hOX rfl) hks hE hS hA (s_Tok_takeSign l D cs kf T O X tk (93) y0 y1 n64_0_2 n64_0_3 n64_0_4 n64_0_5 n64_0_6 n64_0_7 ft t tn 38 t_tk t_y0 (by omega) (by omega) (by omega) (by omega) (by omega) (by omega) (by omega) htb x_v640.1 (by decide) (by decide) (hO.sub (by decide))) kw_647 kw_611 kw_612 kw_3 kw_613 (by decide +kernel) ⟨Nat.le_of_ble_eq_true rfl, Nat.le_of_ble_eq_true rfl⟩ (x_recv (ci := 7) hkb hH 0 rfl rfl) rfl rfl hl.1 (Nat.le_of_ble_eq_true rfl) dX3_readUnit_76 ⟨Nat.le_of_ble_eq_true rfl, Nat.le_of_ble_eq_true rfl⟩) (fun v76 u H locs hz9 hH hS => ?_)
          obtain ⟨n76_0_2, n76_0_3, n76_0_4, n76_0_5, n76_0_6, n76_0_7, rfl, l_v76, u_v76, x_v760, x_v761, x_v762⟩ := hz9
          have hH : HT D cs A T (tk :: y0 :: O) ((tk, .inr (7, [.ref y0, .int y1, .int n76_0_2, .int n76_0_3, .int n76_0_4, .int n76_0_5, .int n76_0_6, .int n76_0_7])) :: (y0, .inl (cs.1, 900, .inl ft)) :: X) H := hH
          refine W.widen (k := 0) (n := 0) (Nat.le_of_ble_eq_true rfl) (Nat.le_of_ble_eq_true rfl) ?_
          refine lv_if_eq (tgt := 86) hx hb dX3_readUnit_79 (by decide) (fun c79 => ?_) (fun c79 => ?_)
          · skip
            have tc79 := f_eq (k := 0) (by decide) c79
            clear x_v760
            replace x_v761 := x_v761.resolve_left (fun q9 => q9 tc79)
            refine lv_iconst (v := 0) hx hb dX3_readUnit_86 (by decide) ?_
            have z9_0 : (0 : Int32).toInt = 0 := by decide
            exact te_z hx hb hr hlocks (by rfl) hH hS (⟨n76_0_2, n76_0_3, n76_0_4, n76_0_5, n76_0_6, n76_0_7, rfl, by decide, by decide, Or.inl (by decide), (Or.inr (by first | (refine BL_f (fun _ _ => st_uND ?_) x_v140 (by decide) x_v141 ?_ <;> omega) | (refine g20.bd x_v241) | (refine BL_f (fun _ _ => st_uBD ?_) x_v540 (by decide) x_v541 ?_ <;> omega) | (refine g60.bd (BL.cons x_v641)) | (refine g70.bd (BL_f (fun _ _ => st_xN x_v761.1) x_v761.2.1 (by decide) x_v761.2.2 ?_); omega) | (refine g88.bd (BL.cons x_v901)) | (refine g98.bd (BL_f (fun _ _ => st_cN ?_) x_v1580 (by decide) x_v1581 ?_) <;> omega) | (refine g169.bd x_v1711))), (by omega)⟩) dX3_readUnit_87
          · skip
            have tc79 := f_ne (k := 0) (by decide) c79
            replace x_v760 := x_v760.resolve_left tc79
            clear x_v761
            refine lv_iconst (v := 1) hx hb dX3_readUnit_82 (by decide) ?_
            refine lv_goto (tgt := 87) hx hb dX3_readUnit_83 (by decide) ?_
            have z9_1 : (1 : Int32).toInt = 1 := by decide
            exact te_z hx hb hr hlocks (by rfl) hH hS (⟨n76_0_2, n76_0_3, n76_0_4, n76_0_5, n76_0_6, n76_0_7, rfl, by decide, by decide, (Or.inr ⟨x_v760.1, by omega, by omega, (by first | (refine g20.tr x_v240.2.2.2) | (refine g70.tr (GL_nx (fun _ _ => st_xY x_v760.2.2.1) x_v760.2.1)) | (refine g169.tr x_v1710.2.2.2))⟩), Or.inl (by decide), (by omega)⟩) dX3_readUnit_87
  · skip
    have tc9 := f_ne (k := 0) (by decide) c9
    replace x_v60 := x_v60.resolve_left tc9
    clear x_v61
    refine lv_aload_n hx hb dX3_readUnit_12 rfl (lv_at hl 0 rfl) ?_
    refine lv_iload_n hx hb dX3_readUnit_13 rfl (lv_at hl 1 rfl) ?_
    refine tk_i hH hS hA (tr_V (n := 1) (As := [.int x1]) hx hb hml hown hts hkb hH (ox_map hOX rfl) hks hE hS hA (s_LR_enter1 l D cs kf T O X a0 x1 y0 y1 y2 y3 y4 y5 y6 y7 ft t tn tk t_a0 (by omega) (by omega) t_y0 (by omega) (by omega) (by omega) (by omega) (by omega) (by omega) (by omega) htb hto t_tk hU7 (hO.sub (by decide))) kw_636 kw_638 ks_8 kw_4 kw_639 (by decide +kernel) ⟨Nat.le_of_ble_eq_true rfl, Nat.le_of_ble_eq_true rfl⟩ (HT.recv (ci := 3) hkb hH t_a0 (hO.no t_a0 (by decide)) rfl) rfl rfl hl.1 (Nat.le_of_ble_eq_true rfl) dX3_readUnit_14 ⟨Nat.le_of_ble_eq_true rfl, Nat.le_of_ble_eq_true rfl⟩) (fun v14 u H locs hz9 hH hS => ?_)
    obtain ⟨n14_0_2, n14_0_3, n14_0_4, n14_0_5, rfl, l_v14, u_v14, x_v140, x_v141, x_v142⟩ := hz9
    have hH : HT D cs A T (tk :: y0 :: O) ((tk, .inr (7, [.ref y0, .int y1, .int n14_0_2, .int n14_0_3, .int n14_0_4, .int n14_0_5, .int y6, .int y7])) :: (y0, .inl (cs.1, 900, .inl ft)) :: X) H := hH
    refine W.widen (k := 0) (n := 0) (Nat.le_of_ble_eq_true rfl) (Nat.le_of_ble_eq_true rfl) ?_
    refine lv_if_eq (tgt := 30) hx hb dX3_readUnit_17 (by decide) (fun c17 => ?_) (fun c17 => ?_)
    · skip
      have tc17 := f_eq (k := 0) (by decide) c17
      exfalso; omega
    · skip
      have tc17 := f_ne (k := 0) (by decide) c17
      have g20 : GL t tn [(5, 1)] [(5, 2)] y2 n14_0_2 := GL_nx (fun _ _ => st_uN (by omega) (by decide)) x_v141
      refine lv_aload_n hx hb dX3_readUnit_20 rfl (lv_at hl 0 rfl) ?_
      refine lv_iload_n hx hb dX3_readUnit_21 rfl (lv_at hl 1 rfl) ?_
      refine lv_iconst (v := 1) hx hb dX3_readUnit_22 (by decide) ?_
      refine lv_iadd hx hb dX3_readUnit_23 ?_
      refine lv_topi (fun v23 ev23 => ?_)
      have tv23 : v23.toInt = x1.toInt + (1) := by rw [ev23]; exact add_i rfl (by decide : (1 : Int32).toInt = 1) (by omega) (by omega)
      refine tk_i hH hS hA (tr_V (n := 1) (As := [.int v23]) hx hb hml hown hts hkb hH (ox_map hOX rfl) hks hE hS hA (s_LR_readUnit2 l D cs kf T O X a0 v23 y0 y1 n14_0_2 n14_0_3 n14_0_4 n14_0_5 y6 y7 ft t tn tk t_a0 (by omega) (by omega) t_y0 (by omega) (by omega) (by omega) (by omega) (by omega) (by omega) (by omega) htb x_v140 t_tk hU7 (by omega) (hO.sub (by decide))) kw_630 kw_632 ks_7 kw_4 kw_633 (by decide +kernel) ⟨Nat.le_of_ble_eq_true rfl, Nat.le_of_ble_eq_true rfl⟩ (HT.recv (ci := 3) hkb hH t_a0 (hO.no t_a0 (by decide)) rfl) rfl rfl hl.1 (Nat.le_of_ble_eq_true rfl) dX3_readUnit_24 ⟨Nat.le_of_ble_eq_true rfl, Nat.le_of_ble_eq_true rfl⟩) (fun v24 u H locs hz9 hH hS => ?_)
      obtain ⟨n24_0_2, n24_0_3, n24_0_4, n24_0_5, n24_0_6, n24_0_7, rfl, l_v24, u_v24, x_v240, x_v241, x_v242⟩ := hz9
      have hH : HT D cs A T (tk :: y0 :: O) ((tk, .inr (7, [.ref y0, .int y1, .int n24_0_2, .int n24_0_3, .int n24_0_4, .int n24_0_5, .int n24_0_6, .int n24_0_7])) :: (y0, .inl (cs.1, 900, .inl ft)) :: X) H := hH
      refine W.widen (k := 0) (n := 0) (Nat.le_of_ble_eq_true rfl) (Nat.le_of_ble_eq_true rfl) ?_
      refine lv_if_ne (tgt := 32) hx hb dX3_readUnit_27 (by decide) (fun c27 => ?_) (fun c27 => ?_)
      · skip
        have tc27 := f_ne (k := 0) (by decide) c27
        replace x_v240 := x_v240.resolve_left tc27
        clear x_v241
        refine lv_aload_n hx hb dX3_readUnit_32 rfl (lv_at hl 0 rfl) ?_
        refine lv_iconst (v := 2) hx hb dX3_readUnit_33 (by decide) ?_
        refine lv_iconst (v := 0) hx hb dX3_readUnit_34 (by decide) ?_
        refine tk_v hH hS hA (tr_V (n := 2) (As := [.int 2, .int 0]) hx hb hml hown hts hkb hH (ox_map hOX rfl) hks hE hS hA (s_LR_put l D cs kf T (tk :: y0 :: O) ((tk, .inr (7, [.ref y0, .int y1, .int n24_0_2, .int n24_0_3, .int n24_0_4, .int n24_0_5, .int n24_0_6, .int n24_0_7])) :: (y0, .inl (cs.1, 900, .inl ft)) :: X) a0 (2) (0) t_a0 (hO.sub (by decide))) kw_642 kw_644 ks_9 kw_4 kw_645 (by decide +kernel) ⟨Nat.le_of_ble_eq_true rfl, Nat.le_of_ble_eq_true rfl⟩ (HT.recv (ci := 3) hkb hH t_a0 (hO.no t_a0 (by decide)) rfl) rfl rfl hl.1 (Nat.le_of_ble_eq_true rfl) dX3_readUnit_35 ⟨Nat.le_of_ble_eq_true rfl, Nat.le_of_ble_eq_true rfl⟩) (fun u H locs hz9 hH hS => ?_)
        have hz9 : u = (T, tk :: y0 :: O, (tk, .inr (7, [.ref y0, .int y1, .int n24_0_2, .int n24_0_3, .int n24_0_4, .int n24_0_5, .int n24_0_6, .int n24_0_7])) :: (y0, .inl (cs.1, 900, .inl ft)) :: X) := hz9
        subst hz9
        have hH : HT D cs A T (tk :: y0 :: O) ((tk, .inr (7, [.ref y0, .int y1, .int n24_0_2, .int n24_0_3, .int n24_0_4, .int n24_0_5, .int n24_0_6, .int n24_0_7])) :: (y0, .inl (cs.1, 900, .inl ft)) :: X) H := hH
        refine W.widen (k := 0) (n := 0) (Nat.le_of_ble_eq_true rfl) (Nat.le_of_ble_eq_true rfl) ?_
        refine lv_iconst (v := 1) hx hb dX3_readUnit_38 (by decide) ?_
        have z9_1 : (1 : Int32).toInt = 1 := by decide
        exact te_z hx hb hr hlocks (by rfl) hH hS (⟨n24_0_2, n24_0_3, n24_0_4, n24_0_5, n24_0_6, n24_0_7, rfl, by decide, by decide, (Or.inr ⟨x_v240.1, by omega, by omega, (by first | (refine g20.tr x_v240.2.2.2) | (refine g70.tr (GL_nx (fun _ _ => st_xY x_v760.2.2.1) x_v760.2.1)) | (refine g169.tr x_v1710.2.2.2))⟩), Or.inl (by decide), (by omega)⟩) dX3_readUnit_39
      · skip
        have tc27 := f_eq (k := 0) (by decide) c27
        clear x_v240
        replace x_v241 := x_v241.resolve_left (fun q9 => q9 tc27)
        refine lv_iconst (v := 0) hx hb dX3_readUnit_30 (by decide) ?_
        have z9_0 : (0 : Int32).toInt = 0 := by decide
        exact te_z hx hb hr hlocks (by rfl) hH hS (⟨n24_0_2, n24_0_3, n24_0_4, n24_0_5, n24_0_6, n24_0_7, rfl, by decide, by decide, Or.inl (by decide), (Or.inr (by first | (refine BL_f (fun _ _ => st_uND ?_) x_v140 (by decide) x_v141 ?_ <;> omega) | (refine g20.bd x_v241) | (refine BL_f (fun _ _ => st_uBD ?_) x_v540 (by decide) x_v541 ?_ <;> omega) | (refine g60.bd (BL.cons x_v641)) | (refine g70.bd (BL_f (fun _ _ => st_xN x_v761.1) x_v761.2.1 (by decide) x_v761.2.2 ?_); omega) | (refine g88.bd (BL.cons x_v901)) | (refine g98.bd (BL_f (fun _ _ => st_cN ?_) x_v1580 (by decide) x_v1581 ?_) <;> omega) | (refine g169.bd x_v1711))), (by omega)⟩) dX3_readUnit_31
set_option maxHeartbeats 4000000 in
set_option maxRecDepth 100000 in
theorem s_LR_readBoth1 (l : Launch) (D : va_G) (cs : CS) (kf : KF) (T : TF) (O : List Nat) (X : va_W) (a0 : Nat) (x1 : Int32) (y0 : Nat) (y1 : Int32) (y2 : Int32) (y3 : Int32) (y4 : Int32) (y5 : Int32) (y6 : Int32) (y7 : Int32) (ft : Nat → Int32) (t : Tp) (tn : Nat) (tk : Nat) (t_a0 : T a0 = some (13, 0, 0)) (l_x1 : 1 ≤ x1.toInt) (u_x1 : x1.toInt ≤ 1) (t_y0 : T y0 = some (0, 900, 0)) (l_y1 : 0 ≤ y1.toInt) (u_y1 : y1.toInt ≤ 900) (l_y2 : 0 ≤ y2.toInt) (u_y2 : y2.toInt ≤ 900) (l_y3 : 0 ≤ y3.toInt) (u_y3 : y3.toInt ≤ 900) (hn : y1.toInt = (tn : Int)) (htb : TB ft t) (hto : TSS t tn y2 y3 y4 y5) (t_tk : T tk = some (17, 0, 0)) (hU7 : ∀ (b : Nat) (q : Nat), T b = some (17, 0, q) → b = tk) (hz : y6.toInt = 0) (hO : okO T (tk :: y0 :: O) [1, 13]) : TK l D cs kf yX3_readBoth cX3_readBoth 5 (some (.boolean)) { frames := 25, cells := 0, slots := 0, locals := 568 } [.ref a0, .int x1] T (tk :: y0 :: O) ((tk, .inr (7, [.ref y0, .int y1, .int y2, .int y3, .int y4, .int y5, .int y6, .int y7])) :: (y0, .inl (cs.1, 900, .inl ft)) :: X) (Ti D cs (fun r u => ∃ (n0_2 : Int32) (n0_3 : Int32) (n0_4 : Int32) (n0_5 : Int32) (n0_6 : Int32) (n0_7 : Int32), u = (T, tk :: y0 :: O, (tk, .inr (7, [.ref y0, .int y1, .int n0_2, .int n0_3, .int n0_4, .int n0_5, .int n0_6, .int n0_7])) :: (y0, .inl (cs.1, 900, .inl ft)) :: X) ∧ 0 ≤ r.toInt ∧ r.toInt ≤ 1 ∧ (r.toInt = 0 ∨ (TSS t tn n0_2 n0_3 n0_4 n0_5 ∧ n0_6.toInt = 0 ∧ n0_7.toInt = y7.toInt ∧ GL t tn [(6, 1)] [] y2 n0_2)) ∧ (r.toInt ≠ 0 ∨ BL t tn [(6, 1)] y2 n0_6 n0_7) ∧ (y2.toInt ≤ n0_2.toInt ∧ n0_2.toInt ≤ n0_3.toInt ∧ n0_3.toInt ≤ y1.toInt))) := by
  refine tk_of (by decide) (Nat.le_of_ble_eq_true rfl) (fun p e s m below meth c ls A H locs hx hb hr hml hown hts hlocks hnm hkb hH hS hA hOX hks hE hl => ?_)
  have hown : s.vm.findClass RX3 = some m.cls := hown
  have hl : lv_has ls 5 [(0, .ref a0), (1, .int x1)] := hl
  have hOXf := hOX
  have hb9 := hto.b
  have hc9 := hto.cs
  refine lv_aload_n hx hb dX3_readBoth_0 rfl (lv_at hl 0 rfl) ?_
  refine lv_iload_n hx hb dX3_readBoth_1 rfl (lv_at hl 1 rfl) ?_
  refine tk_i hH hS hA (tr_V (n := 1) (As := [.int x1]) hx hb hml hown hts hkb hH (ox_map hOX rfl) hks hE hS hA (s_LR_readUnit1 l D cs kf T O X a0 x1 y0 y1 y2 y3 y4 y5 y6 y7 ft t tn tk t_a0 (by omega) (by omega) t_y0 (by omega) (by omega) (by omega) (by omega) (by omega) (by omega) (by omega) htb hto t_tk hU7 (by omega) (hO.sub (by decide))) kw_630 kw_632 ks_7 kw_4 kw_633 (by decide +kernel) ⟨Nat.le_of_ble_eq_true rfl, Nat.le_of_ble_eq_true rfl⟩ (HT.recv (ci := 3) hkb hH t_a0 (hO.no t_a0 (by decide)) rfl) rfl rfl hl.1 (Nat.le_of_ble_eq_true rfl) dX3_readBoth_2 ⟨Nat.le_of_ble_eq_true rfl, Nat.le_of_ble_eq_true rfl⟩) (fun v2 u H locs hz9 hH hS => ?_)
  obtain ⟨n2_0_2, n2_0_3, n2_0_4, n2_0_5, n2_0_6, n2_0_7, rfl, l_v2, u_v2, x_v20, x_v21, x_v22⟩ := hz9
  have hH : HT D cs A T (tk :: y0 :: O) ((tk, .inr (7, [.ref y0, .int y1, .int n2_0_2, .int n2_0_3, .int n2_0_4, .int n2_0_5, .int n2_0_6, .int n2_0_7])) :: (y0, .inl (cs.1, 900, .inl ft)) :: X) H := hH
  refine W.widen (k := 0) (n := 0) (Nat.le_of_ble_eq_true rfl) (Nat.le_of_ble_eq_true rfl) ?_
  refine lv_istore_n (lv' := [(2, .int v2), (0, .ref a0), (1, .int x1)]) hx hb dX3_readBoth_5 rfl hl (by decide) rfl (fun ls hl => ?_)
  refine lv_iconst (v := 0) hx hb dX3_readBoth_6 (by decide) ?_
  have J8 : ∀ (n : Nat) (p8_3 : Int32) (p8_2 : Int32) (f8_102 : Int32) (f8_103 : Int32) (f8_104 : Int32) (f8_105 : Int32) (f8_106 : Int32) (f8_107 : Int32) (H : Heap) (locs : List Loc) (ls : Array Slot), (900 - p8_3.toInt).toNat = n → (0 ≤ p8_3.toInt) → (p8_3.toInt ≤ 900) → (0 ≤ p8_2.toInt) → (p8_2.toInt ≤ 1) → (0 ≤ f8_102.toInt) → (f8_102.toInt ≤ 900) → (0 ≤ f8_103.toInt) → (f8_103.toInt ≤ 900) → (LTI t tn [(6, 1)] [(7, 1)] y2 p8_2 f8_102 f8_103 f8_104 f8_105 f8_106 f8_107 y7) → (y2.toInt ≤ f8_102.toInt ∧ f8_102.toInt ≤ f8_103.toInt ∧ f8_103.toInt ≤ y1.toInt) → (p8_2.toInt = 0 ∨ p8_3.toInt ≤ f8_102.toInt) → HT D cs A T (tk :: y0 :: O) ((tk, .inr (7, [.ref y0, .int y1, .int f8_102, .int f8_103, .int f8_104, .int f8_105, .int f8_106, .int f8_107])) :: (y0, .inl (cs.1, 900, .inl ft)) :: X) H → va_S A s.heap H locs → lv_has ls 5 [(3, .int p8_3), (2, .int p8_2), (0, .ref a0), (1, .int x1)] → W p l e { frames := 25, cells := 0, slots := 0, locals := 568 } s m [.ref a0, .int x1].toArray below meth c H locs 0 0 (MQ below (Ti D cs (fun r u => ∃ (n0_2 : Int32) (n0_3 : Int32) (n0_4 : Int32) (n0_5 : Int32) (n0_6 : Int32) (n0_7 : Int32), u = (T, tk :: y0 :: O, (tk, .inr (7, [.ref y0, .int y1, .int n0_2, .int n0_3, .int n0_4, .int n0_5, .int n0_6, .int n0_7])) :: (y0, .inl (cs.1, 900, .inl ft)) :: X) ∧ 0 ≤ r.toInt ∧ r.toInt ≤ 1 ∧ (r.toInt = 0 ∨ (TSS t tn n0_2 n0_3 n0_4 n0_5 ∧ n0_6.toInt = 0 ∧ n0_7.toInt = y7.toInt ∧ GL t tn [(6, 1)] [] y2 n0_2)) ∧ (r.toInt ≠ 0 ∨ BL t tn [(6, 1)] y2 n0_6 n0_7) ∧ (y2.toInt ≤ n0_2.toInt ∧ n0_2.toInt ≤ n0_3.toInt ∧ n0_3.toInt ≤ y1.toInt)) A) [.ref a0, .int x1].toArray s 0 0 A) (F0 m 8 ls []) := by
    intro n
    induction n using Nat.strongRecOn with
    | _ n ih8 =>
      intro p8_3 p8_2 f8_102 f8_103 f8_104 f8_105 f8_106 f8_107 H locs ls hm8 l_p8_3 u_p8_3 l_p8_2 u_p8_2 l_f8_102 u_f8_102 l_f8_103 u_f8_103 i8t i8n i8c hH hS hl
      refine lv_iload_n hx hb dX3_readBoth_8 rfl (lv_at hl 0 rfl) ?_
      refine lv_sipush (v := 900) hx hb dX3_readBoth_9 (by decide) ?_
      refine lv_icmp_ge (tgt := 68) hx hb dX3_readBoth_12 (by decide) (fun c12 => ?_) (fun c12 => ?_)
      · skip
        have tc12 := f_ge (k := 900) (by decide) c12
        have hk9 : p8_2.toInt = 0 ∨ GL t tn [(7, 1)] [] f8_102 f8_102 := by first | (refine Or.inl ?_; omega) | exact Or.inr (fun _ _ => st_bN x_v251) | (by_cases q9 : p8_2.toInt = 0; exact Or.inl q9; refine Or.inr (fun _ _ => st_bN ?_); have q8 := LTI.ok i8t q9; have q7 := q8.1.b; rw [kd_end (by omega)]; decide)
        have hz9 := LTI.en i8t hk9
        refine lv_iload_n hx hb dX3_readBoth_68 rfl (lv_at hl 1 rfl) ?_
        exact te_z hx hb hr hlocks (nar01 (by omega) (by omega)) hH hS (⟨f8_102, f8_103, f8_104, f8_105, f8_106, f8_107, rfl, by omega, by omega, hz9.1, hz9.2, (by omega)⟩) dX3_readBoth_69
      · skip
        have tc12 := f_nge (k := 900) (by decide) c12
        refine lv_iload_n hx hb dX3_readBoth_15 rfl (lv_at hl 1 rfl) ?_
        refine lv_if_eq (tgt := 68) hx hb dX3_readBoth_16 (by decide) (fun c16 => ?_) (fun c16 => ?_)
        · skip
          have tc16 := f_eq (k := 0) (by decide) c16
          have hk9 : p8_2.toInt = 0 ∨ GL t tn [(7, 1)] [] f8_102 f8_102 := by first | (refine Or.inl ?_; omega) | exact Or.inr (fun _ _ => st_bN x_v251) | (by_cases q9 : p8_2.toInt = 0; exact Or.inl q9; refine Or.inr (fun _ _ => st_bN ?_); have q8 := LTI.ok i8t q9; have q7 := q8.1.b; rw [kd_end (by omega)]; decide)
          have hz9 := LTI.en i8t hk9
          refine lv_iload_n hx hb dX3_readBoth_68 rfl (lv_at hl 1 rfl) ?_
          exact te_z hx hb hr hlocks (nar01 (by omega) (by omega)) hH hS (⟨f8_102, f8_103, f8_104, f8_105, f8_106, f8_107, rfl, by omega, by omega, hz9.1, hz9.2, (by omega)⟩) dX3_readBoth_69
        · skip
          have tc16 := f_ne (k := 0) (by decide) c16
          have h19 := LTI.ok i8t (by omega)
          have hb19 := h19.1.b
          have hc19 := h19.1.cs
          refine lv_aload_n hx hb dX3_readBoth_19 rfl (lv_at hl 2 rfl) ?_
          refine t_get (ci := 3) (lst := ft3 0 0) (C := RX3) (F := TX3) (N := 3) hx hb hts uX3 hown hkb hH t_a0 (hO.no t_a0 (by decide)) (fun _ h9 => h9) rfl rfl 0 (by decide) rfl kw_82 (fun _ h9 => h9) dX3_readBoth_20 (fun v9 h9 => ?_)
          obtain ⟨v20, rfl, t_v20⟩ := h9
          have e9 := (hU7 _ _ t_v20).symm
          subst e9
          refine va_ldcS (q := kf.1 15) hx hb hown (hks ("FootholdWall$LawReader", 63, "and", 15) (by decide +kernel)) dX3_readBoth_23 ?_
          refine tk_i hH hS hA (tr_V (n := 1) (As := [.ref (kf.1 15)]) hx hb hml hown hts hkb hH (ox_map hOX rfl) hks hE hS hA (s_Tok_isWord l D cs kf T O X tk 15 y0 y1 f8_102 f8_103 f8_104 f8_105 f8_106 f8_107 ft t tn 14 t_tk (by decide) t_y0 (by omega) (by omega) (by omega) (by omega) (by omega) (by omega) (by omega) htb h19.1 (by decide) (by decide) (hO.sub (by decide))) kw_635 kw_551 kw_552 kw_3 kw_553 (by decide +kernel) ⟨Nat.le_of_ble_eq_true rfl, Nat.le_of_ble_eq_true rfl⟩ (x_recv (ci := 7) hkb hH 0 rfl rfl) rfl rfl hl.1 (Nat.le_of_ble_eq_true rfl) dX3_readBoth_25 ⟨Nat.le_of_ble_eq_true rfl, Nat.le_of_ble_eq_true rfl⟩) (fun v25 u H locs hz9 hH hS => ?_)
          obtain ⟨rfl, l_v25, u_v25, x_v250, x_v251⟩ := hz9
          have hH : HT D cs A T (tk :: y0 :: O) ((tk, .inr (7, [.ref y0, .int y1, .int f8_102, .int f8_103, .int f8_104, .int f8_105, .int f8_106, .int f8_107])) :: (y0, .inl (cs.1, 900, .inl ft)) :: X) H := hH
          refine W.widen (k := 0) (n := 0) (Nat.le_of_ble_eq_true rfl) (Nat.le_of_ble_eq_true rfl) ?_
          refine lv_if_eq (tgt := 68) hx hb dX3_readBoth_28 (by decide) (fun c28 => ?_) (fun c28 => ?_)
          · skip
            have tc28 := f_eq (k := 0) (by decide) c28
            clear x_v250
            replace x_v251 := x_v251.resolve_left (fun q9 => q9 tc28)
            have hk9 : p8_2.toInt = 0 ∨ GL t tn [(7, 1)] [] f8_102 f8_102 := by first | (refine Or.inl ?_; omega) | exact Or.inr (fun _ _ => st_bN x_v251) | (by_cases q9 : p8_2.toInt = 0; exact Or.inl q9; refine Or.inr (fun _ _ => st_bN ?_); have q8 := LTI.ok i8t q9; have q7 := q8.1.b; rw [kd_end (by omega)]; decide)
            have hz9 := LTI.en i8t hk9
            refine lv_iload_n hx hb dX3_readBoth_68 rfl (lv_at hl 1 rfl) ?_
            exact te_z hx hb hr hlocks (nar01 (by omega) (by omega)) hH hS (⟨f8_102, f8_103, f8_104, f8_105, f8_106, f8_107, rfl, by omega, by omega, hz9.1, hz9.2, (by omega)⟩) dX3_readBoth_69
          · skip
            have tc28 := f_ne (k := 0) (by decide) c28
            replace x_v250 := x_v250.resolve_left tc28
            clear x_v251
            refine lv_aload_n hx hb dX3_readBoth_31 rfl (lv_at hl 2 rfl) ?_
            refine t_get (ci := 3) (lst := ft3 0 0) (C := RX3) (F := TX3) (N := 3) hx hb hts uX3 hown hkb hH t_a0 (hO.no t_a0 (by decide)) (fun _ h9 => h9) rfl rfl 0 (by decide) rfl kw_82 (fun _ h9 => h9) dX3_readBoth_32 (fun v9 h9 => ?_)
            obtain ⟨v32, rfl, t_v32⟩ := h9
            have e9 := (hU7 _ _ t_v32).symm
            subst e9
            have hl9 := h19.1.lt (by omega)
            refine tk_v hH hS hA (tr_V (n := 0) (As := []) hx hb hml hown hts hkb hH (ox_map hOX rfl) hks hE hS hA (s_Tok_go l D cs kf T O X tk y0 y1 f8_102 f8_103 f8_104 f8_105 f8_106 f8_107 ft t tn t_tk t_y0 (by omega) (by omega) (by omega) (by omega) (by omega) (by omega) (by omega) htb (by have q9 := (h19.1).b; omega) (hO.sub (by decide))) kw_641 kw_453 kw_454 kw_3 kw_455 (by decide +kernel) ⟨Nat.le_of_ble_eq_true rfl, Nat.le_of_ble_eq_true rfl⟩ (x_recv (ci := 7) hkb hH 0 rfl rfl) rfl rfl hl.1 (Nat.le_of_ble_eq_true rfl) dX3_readBoth_35 ⟨Nat.le_of_ble_eq_true rfl, Nat.le_of_ble_eq_true rfl⟩) (fun u H locs hz9 hH hS => ?_)
            obtain ⟨n35_0_2, n35_0_3, n35_0_4, n35_0_5, rfl, x_v350, x_v351, x_v352⟩ := hz9
            have px35 := TSS.nx h19.1 x_v351
            have hH : HT D cs A T (tk :: y0 :: O) ((tk, .inr (7, [.ref y0, .int y1, .int n35_0_2, .int n35_0_3, .int n35_0_4, .int n35_0_5, .int f8_106, .int f8_107])) :: (y0, .inl (cs.1, 900, .inl ft)) :: X) H := hH
            refine W.widen (k := 0) (n := 0) (Nat.le_of_ble_eq_true rfl) (Nat.le_of_ble_eq_true rfl) ?_
            refine lv_aload_n hx hb dX3_readBoth_38 rfl (lv_at hl 2 rfl) ?_
            refine t_get (ci := 3) (lst := ft3 0 0) (C := RX3) (F := TX3) (N := 3) hx hb hts uX3 hown hkb hH t_a0 (hO.no t_a0 (by decide)) (fun _ h9 => h9) rfl rfl 2 (by decide) rfl kw_84 (fun _ h9 => h9) dX3_readBoth_39 (fun v9 h9 => ?_)
            obtain ⟨v39, rfl, l_v39, u_v39⟩ := h9
            refine lv_istore (lv' := [(4, .int v39), (3, .int p8_3), (2, .int p8_2), (0, .ref a0), (1, .int x1)]) hx hb dX3_readBoth_42 hl (by decide) rfl (fun ls hl => ?_)
            refine lv_aload_n hx hb dX3_readBoth_44 rfl (lv_at hl 3 rfl) ?_
            refine lv_iconst (v := 3) hx hb dX3_readBoth_45 (by decide) ?_
            refine lv_iconst (v := 0) hx hb dX3_readBoth_46 (by decide) ?_
            refine tk_v hH hS hA (tr_V (n := 2) (As := [.int 3, .int 0]) hx hb hml hown hts hkb hH (ox_map hOX rfl) hks hE hS hA (s_LR_put l D cs kf T (tk :: y0 :: O) ((tk, .inr (7, [.ref y0, .int y1, .int n35_0_2, .int n35_0_3, .int n35_0_4, .int n35_0_5, .int f8_106, .int f8_107])) :: (y0, .inl (cs.1, 900, .inl ft)) :: X) a0 (3) (0) t_a0 (hO.sub (by decide))) kw_642 kw_644 ks_9 kw_4 kw_645 (by decide +kernel) ⟨Nat.le_of_ble_eq_true rfl, Nat.le_of_ble_eq_true rfl⟩ (HT.recv (ci := 3) hkb hH t_a0 (hO.no t_a0 (by decide)) rfl) rfl rfl hl.1 (Nat.le_of_ble_eq_true rfl) dX3_readBoth_47 ⟨Nat.le_of_ble_eq_true rfl, Nat.le_of_ble_eq_true rfl⟩) (fun u H locs hz9 hH hS => ?_)
            have hz9 : u = (T, tk :: y0 :: O, (tk, .inr (7, [.ref y0, .int y1, .int n35_0_2, .int n35_0_3, .int n35_0_4, .int n35_0_5, .int f8_106, .int f8_107])) :: (y0, .inl (cs.1, 900, .inl ft)) :: X) := hz9
            subst hz9
            have hH : HT D cs A T (tk :: y0 :: O) ((tk, .inr (7, [.ref y0, .int y1, .int n35_0_2, .int n35_0_3, .int n35_0_4, .int n35_0_5, .int f8_106, .int f8_107])) :: (y0, .inl (cs.1, 900, .inl ft)) :: X) H := hH
            refine W.widen (k := 0) (n := 0) (Nat.le_of_ble_eq_true rfl) (Nat.le_of_ble_eq_true rfl) ?_
            refine lv_aload_n hx hb dX3_readBoth_50 rfl (lv_at hl 3 rfl) ?_
            refine lv_iload_n hx hb dX3_readBoth_51 rfl (lv_at hl 4 rfl) ?_
            refine tk_i hH hS hA (tr_V (n := 1) (As := [.int x1]) hx hb hml hown hts hkb hH (ox_map hOX rfl) hks hE hS hA (s_LR_readUnit1 l D cs kf T O X a0 x1 y0 y1 n35_0_2 n35_0_3 n35_0_4 n35_0_5 f8_106 f8_107 ft t tn tk t_a0 (by omega) (by omega) t_y0 (by omega) (by omega) (by omega) (by omega) (by omega) (by omega) (by omega) htb x_v350 t_tk hU7 (by omega) (hO.sub (by decide))) kw_630 kw_632 ks_7 kw_4 kw_633 (by decide +kernel) ⟨Nat.le_of_ble_eq_true rfl, Nat.le_of_ble_eq_true rfl⟩ (HT.recv (ci := 3) hkb hH t_a0 (hO.no t_a0 (by decide)) rfl) rfl rfl hl.1 (Nat.le_of_ble_eq_true rfl) dX3_readBoth_52 ⟨Nat.le_of_ble_eq_true rfl, Nat.le_of_ble_eq_true rfl⟩) (fun v52 u H locs hz9 hH hS => ?_)
            obtain ⟨n52_0_2, n52_0_3, n52_0_4, n52_0_5, n52_0_6, n52_0_7, rfl, l_v52, u_v52, x_v520, x_v521, x_v522⟩ := hz9
            have hH : HT D cs A T (tk :: y0 :: O) ((tk, .inr (7, [.ref y0, .int y1, .int n52_0_2, .int n52_0_3, .int n52_0_4, .int n52_0_5, .int n52_0_6, .int n52_0_7])) :: (y0, .inl (cs.1, 900, .inl ft)) :: X) H := hH
            refine W.widen (k := 0) (n := 0) (Nat.le_of_ble_eq_true rfl) (Nat.le_of_ble_eq_true rfl) ?_
            refine lv_istore_n (lv' := [(2, .int v52), (4, .int v39), (3, .int p8_3), (0, .ref a0), (1, .int x1)]) hx hb dX3_readBoth_55 rfl hl (by decide) rfl (fun ls hl => ?_)
            refine lv_aload_n hx hb dX3_readBoth_56 rfl (lv_at hl 3 rfl) ?_
            refine lv_iload hx hb dX3_readBoth_57 (lv_at hl 1 rfl) ?_
            refine tk_v hH hS hA (tr_V (n := 1) (As := [.int v39]) hx hb hml hown hts hkb hH (ox_map hOX rfl) hks hE hS hA (s_LR_aimSkip l D cs kf T (tk :: y0 :: O) ((tk, .inr (7, [.ref y0, .int y1, .int n52_0_2, .int n52_0_3, .int n52_0_4, .int n52_0_5, .int n52_0_6, .int n52_0_7])) :: (y0, .inl (cs.1, 900, .inl ft)) :: X) a0 v39 t_a0 (hO.sub (by decide))) kw_672 kw_674 ks_14 kw_4 kw_675 (by decide +kernel) ⟨Nat.le_of_ble_eq_true rfl, Nat.le_of_ble_eq_true rfl⟩ (HT.recv (ci := 3) hkb hH t_a0 (hO.no t_a0 (by decide)) rfl) rfl rfl hl.1 (Nat.le_of_ble_eq_true rfl) dX3_readBoth_59 ⟨Nat.le_of_ble_eq_true rfl, Nat.le_of_ble_eq_true rfl⟩) (fun u H locs hz9 hH hS => ?_)
            have hz9 : u = (T, tk :: y0 :: O, (tk, .inr (7, [.ref y0, .int y1, .int n52_0_2, .int n52_0_3, .int n52_0_4, .int n52_0_5, .int n52_0_6, .int n52_0_7])) :: (y0, .inl (cs.1, 900, .inl ft)) :: X) := hz9
            subst hz9
            have hH : HT D cs A T (tk :: y0 :: O) ((tk, .inr (7, [.ref y0, .int y1, .int n52_0_2, .int n52_0_3, .int n52_0_4, .int n52_0_5, .int n52_0_6, .int n52_0_7])) :: (y0, .inl (cs.1, 900, .inl ft)) :: X) H := hH
            refine W.widen (k := 0) (n := 0) (Nat.le_of_ble_eq_true rfl) (Nat.le_of_ble_eq_true rfl) ?_
            obtain ⟨v62, ev62⟩ : ∃ y : Int32, y = p8_3 + 1 := ⟨_, rfl⟩
            have tv62 : v62.toInt = p8_3.toInt + (1) := by rw [ev62]; exact add_i rfl (by decide) (by omega) (by omega)
            refine lv_iinc (v := v62) (lv' := [(3, .int v62), (2, .int v52), (4, .int v39), (0, .ref a0), (1, .int x1)]) hx hb dX3_readBoth_62 hl (k := 2) rfl (by rw [ev62]; rfl) (by decide) rfl (fun ls hl => ?_)
            refine lv_goto (tgt := 8) hx hb dX3_readBoth_65 (by decide) ?_
            exact ih8 _ (by omega) v62 v52 n52_0_2 n52_0_3 n52_0_4 n52_0_5 n52_0_6 n52_0_7 _ _ _ rfl (by omega) (by omega) (by omega) (by omega) (by omega) (by omega) (by omega) (by omega) (by first | (refine LTI.st (fun _ _ => st_b) x_v20 x_v21 l_v2 u_v2 rfl) | (refine LTI.st (h19.2.2.2.tr (GL_nx (fun _ _ => st_bY x_v250) px35)) x_v520 x_v521 l_v52 u_v52 ?_; omega)) (by omega) (by omega) hH hS (lv_sub hl [0, 1, 3, 4] rfl)
  refine lv_istore_n (lv' := [(3, .int 0), (2, .int v2), (0, .ref a0), (1, .int x1)]) hx hb dX3_readBoth_7 rfl hl (by decide) rfl (fun ls hl => ?_)
  have z_0 : (0 : Int32).toInt = 0 := by decide
  exact J8 _ 0 v2 n2_0_2 n2_0_3 n2_0_4 n2_0_5 n2_0_6 n2_0_7 _ _ _ rfl (by decide) (by decide) (by omega) (by omega) (by omega) (by omega) (by omega) (by omega) (by first | (refine LTI.st (fun _ _ => st_b) x_v20 x_v21 l_v2 u_v2 rfl) | (refine LTI.st (h19.2.2.2.tr (GL_nx (fun _ _ => st_bY x_v250) px35)) x_v520 x_v521 l_v52 u_v52 ?_; omega)) (by omega) (by omega) hH hS (lv_sub hl [0, 1, 2, 3] rfl)
set_option maxHeartbeats 4000000 in
set_option maxRecDepth 100000 in
theorem s_LR_readTruth1 (l : Launch) (D : va_G) (cs : CS) (kf : KF) (T : TF) (O : List Nat) (X : va_W) (a0 : Nat) (x1 : Int32) (y0 : Nat) (y1 : Int32) (y2 : Int32) (y3 : Int32) (y4 : Int32) (y5 : Int32) (y6 : Int32) (y7 : Int32) (ft : Nat → Int32) (t : Tp) (tn : Nat) (tk : Nat) (t_a0 : T a0 = some (13, 0, 0)) (l_x1 : 1 ≤ x1.toInt) (u_x1 : x1.toInt ≤ 1) (t_y0 : T y0 = some (0, 900, 0)) (l_y1 : 0 ≤ y1.toInt) (u_y1 : y1.toInt ≤ 900) (l_y2 : 0 ≤ y2.toInt) (u_y2 : y2.toInt ≤ 900) (l_y3 : 0 ≤ y3.toInt) (u_y3 : y3.toInt ≤ 900) (hn : y1.toInt = (tn : Int)) (htb : TB ft t) (hto : TSS t tn y2 y3 y4 y5) (t_tk : T tk = some (17, 0, 0)) (hU7 : ∀ (b : Nat) (q : Nat), T b = some (17, 0, q) → b = tk) (hz : y6.toInt = 0) (hO : okO T (tk :: y0 :: O) [1, 13]) : TK l D cs kf yX3_readTruth cX3_readTruth 5 (some (.boolean)) { frames := 26, cells := 0, slots := 0, locals := 592 } [.ref a0, .int x1] T (tk :: y0 :: O) ((tk, .inr (7, [.ref y0, .int y1, .int y2, .int y3, .int y4, .int y5, .int y6, .int y7])) :: (y0, .inl (cs.1, 900, .inl ft)) :: X) (Ti D cs (fun r u => ∃ (n0_2 : Int32) (n0_3 : Int32) (n0_4 : Int32) (n0_5 : Int32) (n0_6 : Int32) (n0_7 : Int32), u = (T, tk :: y0 :: O, (tk, .inr (7, [.ref y0, .int y1, .int n0_2, .int n0_3, .int n0_4, .int n0_5, .int n0_6, .int n0_7])) :: (y0, .inl (cs.1, 900, .inl ft)) :: X) ∧ 0 ≤ r.toInt ∧ r.toInt ≤ 1 ∧ (r.toInt = 0 ∨ (TSS t tn n0_2 n0_3 n0_4 n0_5 ∧ n0_6.toInt = 0 ∧ n0_7.toInt = y7.toInt ∧ GL t tn [(8, 1)] [] y2 n0_2)) ∧ (r.toInt ≠ 0 ∨ BL t tn [(8, 1)] y2 n0_6 n0_7) ∧ (y2.toInt ≤ n0_2.toInt ∧ n0_2.toInt ≤ n0_3.toInt ∧ n0_3.toInt ≤ y1.toInt))) := by
  refine tk_of (by decide) (Nat.le_of_ble_eq_true rfl) (fun p e s m below meth c ls A H locs hx hb hr hml hown hts hlocks hnm hkb hH hS hA hOX hks hE hl => ?_)
  have hown : s.vm.findClass RX3 = some m.cls := hown
  have hl : lv_has ls 5 [(0, .ref a0), (1, .int x1)] := hl
  have hOXf := hOX
  have hb9 := hto.b
  have hc9 := hto.cs
  refine lv_aload_n hx hb dX3_readTruth_0 rfl (lv_at hl 0 rfl) ?_
  refine lv_iload_n hx hb dX3_readTruth_1 rfl (lv_at hl 1 rfl) ?_
  refine tk_i hH hS hA (tr_V (n := 1) (As := [.int x1]) hx hb hml hown hts hkb hH (ox_map hOX rfl) hks hE hS hA (s_LR_readBoth1 l D cs kf T O X a0 x1 y0 y1 y2 y3 y4 y5 y6 y7 ft t tn tk t_a0 (by omega) (by omega) t_y0 (by omega) (by omega) (by omega) (by omega) (by omega) (by omega) (by omega) htb hto t_tk hU7 (by omega) (hO.sub (by decide))) kw_626 kw_628 ks_6 kw_4 kw_629 (by decide +kernel) ⟨Nat.le_of_ble_eq_true rfl, Nat.le_of_ble_eq_true rfl⟩ (HT.recv (ci := 3) hkb hH t_a0 (hO.no t_a0 (by decide)) rfl) rfl rfl hl.1 (Nat.le_of_ble_eq_true rfl) dX3_readTruth_2 ⟨Nat.le_of_ble_eq_true rfl, Nat.le_of_ble_eq_true rfl⟩) (fun v2 u H locs hz9 hH hS => ?_)
  obtain ⟨n2_0_2, n2_0_3, n2_0_4, n2_0_5, n2_0_6, n2_0_7, rfl, l_v2, u_v2, x_v20, x_v21, x_v22⟩ := hz9
  have hH : HT D cs A T (tk :: y0 :: O) ((tk, .inr (7, [.ref y0, .int y1, .int n2_0_2, .int n2_0_3, .int n2_0_4, .int n2_0_5, .int n2_0_6, .int n2_0_7])) :: (y0, .inl (cs.1, 900, .inl ft)) :: X) H := hH
  refine W.widen (k := 0) (n := 0) (Nat.le_of_ble_eq_true rfl) (Nat.le_of_ble_eq_true rfl) ?_
  refine lv_istore_n (lv' := [(2, .int v2), (0, .ref a0), (1, .int x1)]) hx hb dX3_readTruth_5 rfl hl (by decide) rfl (fun ls hl => ?_)
  refine lv_iconst (v := 0) hx hb dX3_readTruth_6 (by decide) ?_
  have J8 : ∀ (n : Nat) (p8_3 : Int32) (p8_2 : Int32) (f8_102 : Int32) (f8_103 : Int32) (f8_104 : Int32) (f8_105 : Int32) (f8_106 : Int32) (f8_107 : Int32) (H : Heap) (locs : List Loc) (ls : Array Slot), (900 - p8_3.toInt).toNat = n → (0 ≤ p8_3.toInt) → (p8_3.toInt ≤ 900) → (0 ≤ p8_2.toInt) → (p8_2.toInt ≤ 1) → (0 ≤ f8_102.toInt) → (f8_102.toInt ≤ 900) → (0 ≤ f8_103.toInt) → (f8_103.toInt ≤ 900) → (LTI t tn [(8, 1)] [(9, 1)] y2 p8_2 f8_102 f8_103 f8_104 f8_105 f8_106 f8_107 y7) → (y2.toInt ≤ f8_102.toInt ∧ f8_102.toInt ≤ f8_103.toInt ∧ f8_103.toInt ≤ y1.toInt) → (p8_2.toInt = 0 ∨ p8_3.toInt ≤ f8_102.toInt) → HT D cs A T (tk :: y0 :: O) ((tk, .inr (7, [.ref y0, .int y1, .int f8_102, .int f8_103, .int f8_104, .int f8_105, .int f8_106, .int f8_107])) :: (y0, .inl (cs.1, 900, .inl ft)) :: X) H → va_S A s.heap H locs → lv_has ls 5 [(3, .int p8_3), (2, .int p8_2), (0, .ref a0), (1, .int x1)] → W p l e { frames := 26, cells := 0, slots := 0, locals := 592 } s m [.ref a0, .int x1].toArray below meth c H locs 0 0 (MQ below (Ti D cs (fun r u => ∃ (n0_2 : Int32) (n0_3 : Int32) (n0_4 : Int32) (n0_5 : Int32) (n0_6 : Int32) (n0_7 : Int32), u = (T, tk :: y0 :: O, (tk, .inr (7, [.ref y0, .int y1, .int n0_2, .int n0_3, .int n0_4, .int n0_5, .int n0_6, .int n0_7])) :: (y0, .inl (cs.1, 900, .inl ft)) :: X) ∧ 0 ≤ r.toInt ∧ r.toInt ≤ 1 ∧ (r.toInt = 0 ∨ (TSS t tn n0_2 n0_3 n0_4 n0_5 ∧ n0_6.toInt = 0 ∧ n0_7.toInt = y7.toInt ∧ GL t tn [(8, 1)] [] y2 n0_2)) ∧ (r.toInt ≠ 0 ∨ BL t tn [(8, 1)] y2 n0_6 n0_7) ∧ (y2.toInt ≤ n0_2.toInt ∧ n0_2.toInt ≤ n0_3.toInt ∧ n0_3.toInt ≤ y1.toInt)) A) [.ref a0, .int x1].toArray s 0 0 A) (F0 m 8 ls []) := by
    intro n
    induction n using Nat.strongRecOn with
    | _ n ih8 =>
      intro p8_3 p8_2 f8_102 f8_103 f8_104 f8_105 f8_106 f8_107 H locs ls hm8 l_p8_3 u_p8_3 l_p8_2 u_p8_2 l_f8_102 u_f8_102 l_f8_103 u_f8_103 i8t i8n i8c hH hS hl
      refine lv_iload_n hx hb dX3_readTruth_8 rfl (lv_at hl 0 rfl) ?_
      refine lv_sipush (v := 900) hx hb dX3_readTruth_9 (by decide) ?_
      refine lv_icmp_ge (tgt := 68) hx hb dX3_readTruth_12 (by decide) (fun c12 => ?_) (fun c12 => ?_)
      · skip
        have tc12 := f_ge (k := 900) (by decide) c12
        have hk9 : p8_2.toInt = 0 ∨ GL t tn [(9, 1)] [] f8_102 f8_102 := by first | (refine Or.inl ?_; omega) | exact Or.inr (fun _ _ => st_rN x_v251) | (by_cases q9 : p8_2.toInt = 0; exact Or.inl q9; refine Or.inr (fun _ _ => st_rN ?_); have q8 := LTI.ok i8t q9; have q7 := q8.1.b; rw [kd_end (by omega)]; decide)
        have hz9 := LTI.en i8t hk9
        refine lv_iload_n hx hb dX3_readTruth_68 rfl (lv_at hl 1 rfl) ?_
        exact te_z hx hb hr hlocks (nar01 (by omega) (by omega)) hH hS (⟨f8_102, f8_103, f8_104, f8_105, f8_106, f8_107, rfl, by omega, by omega, hz9.1, hz9.2, (by omega)⟩) dX3_readTruth_69
      · skip
        have tc12 := f_nge (k := 900) (by decide) c12
        refine lv_iload_n hx hb dX3_readTruth_15 rfl (lv_at hl 1 rfl) ?_
        refine lv_if_eq (tgt := 68) hx hb dX3_readTruth_16 (by decide) (fun c16 => ?_) (fun c16 => ?_)
        · skip
          have tc16 := f_eq (k := 0) (by decide) c16
          have hk9 : p8_2.toInt = 0 ∨ GL t tn [(9, 1)] [] f8_102 f8_102 := by first | (refine Or.inl ?_; omega) | exact Or.inr (fun _ _ => st_rN x_v251) | (by_cases q9 : p8_2.toInt = 0; exact Or.inl q9; refine Or.inr (fun _ _ => st_rN ?_); have q8 := LTI.ok i8t q9; have q7 := q8.1.b; rw [kd_end (by omega)]; decide)
          have hz9 := LTI.en i8t hk9
          refine lv_iload_n hx hb dX3_readTruth_68 rfl (lv_at hl 1 rfl) ?_
          exact te_z hx hb hr hlocks (nar01 (by omega) (by omega)) hH hS (⟨f8_102, f8_103, f8_104, f8_105, f8_106, f8_107, rfl, by omega, by omega, hz9.1, hz9.2, (by omega)⟩) dX3_readTruth_69
        · skip
          have tc16 := f_ne (k := 0) (by decide) c16
          have h19 := LTI.ok i8t (by omega)
          have hb19 := h19.1.b
          have hc19 := h19.1.cs
          refine lv_aload_n hx hb dX3_readTruth_19 rfl (lv_at hl 2 rfl) ?_
          refine t_get (ci := 3) (lst := ft3 0 0) (C := RX3) (F := TX3) (N := 3) hx hb hts uX3 hown hkb hH t_a0 (hO.no t_a0 (by decide)) (fun _ h9 => h9) rfl rfl 0 (by decide) rfl kw_82 (fun _ h9 => h9) dX3_readTruth_20 (fun v9 h9 => ?_)
          obtain ⟨v20, rfl, t_v20⟩ := h9
          have e9 := (hU7 _ _ t_v20).symm
          subst e9
          refine va_ldcS (q := kf.1 16) hx hb hown (hks ("FootholdWall$LawReader", 41, "or", 16) (by decide +kernel)) dX3_readTruth_23 ?_
          refine tk_i hH hS hA (tr_V (n := 1) (As := [.ref (kf.1 16)]) hx hb hml hown hts hkb hH (ox_map hOX rfl) hks hE hS hA (s_Tok_isWord l D cs kf T O X tk 16 y0 y1 f8_102 f8_103 f8_104 f8_105 f8_106 f8_107 ft t tn 13 t_tk (by decide) t_y0 (by omega) (by omega) (by omega) (by omega) (by omega) (by omega) (by omega) htb h19.1 (by decide) (by decide) (hO.sub (by decide))) kw_635 kw_551 kw_552 kw_3 kw_553 (by decide +kernel) ⟨Nat.le_of_ble_eq_true rfl, Nat.le_of_ble_eq_true rfl⟩ (x_recv (ci := 7) hkb hH 0 rfl rfl) rfl rfl hl.1 (Nat.le_of_ble_eq_true rfl) dX3_readTruth_25 ⟨Nat.le_of_ble_eq_true rfl, Nat.le_of_ble_eq_true rfl⟩) (fun v25 u H locs hz9 hH hS => ?_)
          obtain ⟨rfl, l_v25, u_v25, x_v250, x_v251⟩ := hz9
          have hH : HT D cs A T (tk :: y0 :: O) ((tk, .inr (7, [.ref y0, .int y1, .int f8_102, .int f8_103, .int f8_104, .int f8_105, .int f8_106, .int f8_107])) :: (y0, .inl (cs.1, 900, .inl ft)) :: X) H := hH
          refine W.widen (k := 0) (n := 0) (Nat.le_of_ble_eq_true rfl) (Nat.le_of_ble_eq_true rfl) ?_
          refine lv_if_eq (tgt := 68) hx hb dX3_readTruth_28 (by decide) (fun c28 => ?_) (fun c28 => ?_)
          · skip
            have tc28 := f_eq (k := 0) (by decide) c28
            clear x_v250
            replace x_v251 := x_v251.resolve_left (fun q9 => q9 tc28)
            have hk9 : p8_2.toInt = 0 ∨ GL t tn [(9, 1)] [] f8_102 f8_102 := by first | (refine Or.inl ?_; omega) | exact Or.inr (fun _ _ => st_rN x_v251) | (by_cases q9 : p8_2.toInt = 0; exact Or.inl q9; refine Or.inr (fun _ _ => st_rN ?_); have q8 := LTI.ok i8t q9; have q7 := q8.1.b; rw [kd_end (by omega)]; decide)
            have hz9 := LTI.en i8t hk9
            refine lv_iload_n hx hb dX3_readTruth_68 rfl (lv_at hl 1 rfl) ?_
            exact te_z hx hb hr hlocks (nar01 (by omega) (by omega)) hH hS (⟨f8_102, f8_103, f8_104, f8_105, f8_106, f8_107, rfl, by omega, by omega, hz9.1, hz9.2, (by omega)⟩) dX3_readTruth_69
          · skip
            have tc28 := f_ne (k := 0) (by decide) c28
            replace x_v250 := x_v250.resolve_left tc28
            clear x_v251
            refine lv_aload_n hx hb dX3_readTruth_31 rfl (lv_at hl 2 rfl) ?_
            refine t_get (ci := 3) (lst := ft3 0 0) (C := RX3) (F := TX3) (N := 3) hx hb hts uX3 hown hkb hH t_a0 (hO.no t_a0 (by decide)) (fun _ h9 => h9) rfl rfl 0 (by decide) rfl kw_82 (fun _ h9 => h9) dX3_readTruth_32 (fun v9 h9 => ?_)
            obtain ⟨v32, rfl, t_v32⟩ := h9
            have e9 := (hU7 _ _ t_v32).symm
            subst e9
            have hl9 := h19.1.lt (by omega)
            refine tk_v hH hS hA (tr_V (n := 0) (As := []) hx hb hml hown hts hkb hH (ox_map hOX rfl) hks hE hS hA (s_Tok_go l D cs kf T O X tk y0 y1 f8_102 f8_103 f8_104 f8_105 f8_106 f8_107 ft t tn t_tk t_y0 (by omega) (by omega) (by omega) (by omega) (by omega) (by omega) (by omega) htb (by have q9 := (h19.1).b; omega) (hO.sub (by decide))) kw_641 kw_453 kw_454 kw_3 kw_455 (by decide +kernel) ⟨Nat.le_of_ble_eq_true rfl, Nat.le_of_ble_eq_true rfl⟩ (x_recv (ci := 7) hkb hH 0 rfl rfl) rfl rfl hl.1 (Nat.le_of_ble_eq_true rfl) dX3_readTruth_35 ⟨Nat.le_of_ble_eq_true rfl, Nat.le_of_ble_eq_true rfl⟩) (fun u H locs hz9 hH hS => ?_)
            obtain ⟨n35_0_2, n35_0_3, n35_0_4, n35_0_5, rfl, x_v350, x_v351, x_v352⟩ := hz9
            have px35 := TSS.nx h19.1 x_v351
            have hH : HT D cs A T (tk :: y0 :: O) ((tk, .inr (7, [.ref y0, .int y1, .int n35_0_2, .int n35_0_3, .int n35_0_4, .int n35_0_5, .int f8_106, .int f8_107])) :: (y0, .inl (cs.1, 900, .inl ft)) :: X) H := hH
            refine W.widen (k := 0) (n := 0) (Nat.le_of_ble_eq_true rfl) (Nat.le_of_ble_eq_true rfl) ?_
            refine lv_aload_n hx hb dX3_readTruth_38 rfl (lv_at hl 2 rfl) ?_
            refine t_get (ci := 3) (lst := ft3 0 0) (C := RX3) (F := TX3) (N := 3) hx hb hts uX3 hown hkb hH t_a0 (hO.no t_a0 (by decide)) (fun _ h9 => h9) rfl rfl 2 (by decide) rfl kw_84 (fun _ h9 => h9) dX3_readTruth_39 (fun v9 h9 => ?_)
            obtain ⟨v39, rfl, l_v39, u_v39⟩ := h9
            refine lv_istore (lv' := [(4, .int v39), (3, .int p8_3), (2, .int p8_2), (0, .ref a0), (1, .int x1)]) hx hb dX3_readTruth_42 hl (by decide) rfl (fun ls hl => ?_)
            refine lv_aload_n hx hb dX3_readTruth_44 rfl (lv_at hl 3 rfl) ?_
            refine lv_iconst (v := 4) hx hb dX3_readTruth_45 (by decide) ?_
            refine lv_iconst (v := 0) hx hb dX3_readTruth_46 (by decide) ?_
            refine tk_v hH hS hA (tr_V (n := 2) (As := [.int 4, .int 0]) hx hb hml hown hts hkb hH (ox_map hOX rfl) hks hE hS hA (s_LR_put l D cs kf T (tk :: y0 :: O) ((tk, .inr (7, [.ref y0, .int y1, .int n35_0_2, .int n35_0_3, .int n35_0_4, .int n35_0_5, .int f8_106, .int f8_107])) :: (y0, .inl (cs.1, 900, .inl ft)) :: X) a0 (4) (0) t_a0 (hO.sub (by decide))) kw_642 kw_644 ks_9 kw_4 kw_645 (by decide +kernel) ⟨Nat.le_of_ble_eq_true rfl, Nat.le_of_ble_eq_true rfl⟩ (HT.recv (ci := 3) hkb hH t_a0 (hO.no t_a0 (by decide)) rfl) rfl rfl hl.1 (Nat.le_of_ble_eq_true rfl) dX3_readTruth_47 ⟨Nat.le_of_ble_eq_true rfl, Nat.le_of_ble_eq_true rfl⟩) (fun u H locs hz9 hH hS => ?_)
            have hz9 : u = (T, tk :: y0 :: O, (tk, .inr (7, [.ref y0, .int y1, .int n35_0_2, .int n35_0_3, .int n35_0_4, .int n35_0_5, .int f8_106, .int f8_107])) :: (y0, .inl (cs.1, 900, .inl ft)) :: X) := hz9
            subst hz9
            have hH : HT D cs A T (tk :: y0 :: O) ((tk, .inr (7, [.ref y0, .int y1, .int n35_0_2, .int n35_0_3, .int n35_0_4, .int n35_0_5, .int f8_106, .int f8_107])) :: (y0, .inl (cs.1, 900, .inl ft)) :: X) H := hH
            refine W.widen (k := 0) (n := 0) (Nat.le_of_ble_eq_true rfl) (Nat.le_of_ble_eq_true rfl) ?_
            refine lv_aload_n hx hb dX3_readTruth_50 rfl (lv_at hl 3 rfl) ?_
            refine lv_iload_n hx hb dX3_readTruth_51 rfl (lv_at hl 4 rfl) ?_
            refine tk_i hH hS hA (tr_V (n := 1) (As := [.int x1]) hx hb hml hown hts hkb hH (ox_map hOX rfl) hks hE hS hA (s_LR_readBoth1 l D cs kf T O X a0 x1 y0 y1 n35_0_2 n35_0_3 n35_0_4 n35_0_5 f8_106 f8_107 ft t tn tk t_a0 (by omega) (by omega) t_y0 (by omega) (by omega) (by omega) (by omega) (by omega) (by omega) (by omega) htb x_v350 t_tk hU7 (by omega) (hO.sub (by decide))) kw_626 kw_628 ks_6 kw_4 kw_629 (by decide +kernel) ⟨Nat.le_of_ble_eq_true rfl, Nat.le_of_ble_eq_true rfl⟩ (HT.recv (ci := 3) hkb hH t_a0 (hO.no t_a0 (by decide)) rfl) rfl rfl hl.1 (Nat.le_of_ble_eq_true rfl) dX3_readTruth_52 ⟨Nat.le_of_ble_eq_true rfl, Nat.le_of_ble_eq_true rfl⟩) (fun v52 u H locs hz9 hH hS => ?_)
            obtain ⟨n52_0_2, n52_0_3, n52_0_4, n52_0_5, n52_0_6, n52_0_7, rfl, l_v52, u_v52, x_v520, x_v521, x_v522⟩ := hz9
            have hH : HT D cs A T (tk :: y0 :: O) ((tk, .inr (7, [.ref y0, .int y1, .int n52_0_2, .int n52_0_3, .int n52_0_4, .int n52_0_5, .int n52_0_6, .int n52_0_7])) :: (y0, .inl (cs.1, 900, .inl ft)) :: X) H := hH
            refine W.widen (k := 0) (n := 0) (Nat.le_of_ble_eq_true rfl) (Nat.le_of_ble_eq_true rfl) ?_
            refine lv_istore_n (lv' := [(2, .int v52), (4, .int v39), (3, .int p8_3), (0, .ref a0), (1, .int x1)]) hx hb dX3_readTruth_55 rfl hl (by decide) rfl (fun ls hl => ?_)
            refine lv_aload_n hx hb dX3_readTruth_56 rfl (lv_at hl 3 rfl) ?_
            refine lv_iload hx hb dX3_readTruth_57 (lv_at hl 1 rfl) ?_
            refine tk_v hH hS hA (tr_V (n := 1) (As := [.int v39]) hx hb hml hown hts hkb hH (ox_map hOX rfl) hks hE hS hA (s_LR_aimSkip l D cs kf T (tk :: y0 :: O) ((tk, .inr (7, [.ref y0, .int y1, .int n52_0_2, .int n52_0_3, .int n52_0_4, .int n52_0_5, .int n52_0_6, .int n52_0_7])) :: (y0, .inl (cs.1, 900, .inl ft)) :: X) a0 v39 t_a0 (hO.sub (by decide))) kw_672 kw_674 ks_14 kw_4 kw_675 (by decide +kernel) ⟨Nat.le_of_ble_eq_true rfl, Nat.le_of_ble_eq_true rfl⟩ (HT.recv (ci := 3) hkb hH t_a0 (hO.no t_a0 (by decide)) rfl) rfl rfl hl.1 (Nat.le_of_ble_eq_true rfl) dX3_readTruth_59 ⟨Nat.le_of_ble_eq_true rfl, Nat.le_of_ble_eq_true rfl⟩) (fun u H locs hz9 hH hS => ?_)
            have hz9 : u = (T, tk :: y0 :: O, (tk, .inr (7, [.ref y0, .int y1, .int n52_0_2, .int n52_0_3, .int n52_0_4, .int n52_0_5, .int n52_0_6, .int n52_0_7])) :: (y0, .inl (cs.1, 900, .inl ft)) :: X) := hz9
            subst hz9
            have hH : HT D cs A T (tk :: y0 :: O) ((tk, .inr (7, [.ref y0, .int y1, .int n52_0_2, .int n52_0_3, .int n52_0_4, .int n52_0_5, .int n52_0_6, .int n52_0_7])) :: (y0, .inl (cs.1, 900, .inl ft)) :: X) H := hH
            refine W.widen (k := 0) (n := 0) (Nat.le_of_ble_eq_true rfl) (Nat.le_of_ble_eq_true rfl) ?_
            obtain ⟨v62, ev62⟩ : ∃ y : Int32, y = p8_3 + 1 := ⟨_, rfl⟩
            have tv62 : v62.toInt = p8_3.toInt + (1) := by rw [ev62]; exact add_i rfl (by decide) (by omega) (by omega)
            refine lv_iinc (v := v62) (lv' := [(3, .int v62), (2, .int v52), (4, .int v39), (0, .ref a0), (1, .int x1)]) hx hb dX3_readTruth_62 hl (k := 2) rfl (by rw [ev62]; rfl) (by decide) rfl (fun ls hl => ?_)
            refine lv_goto (tgt := 8) hx hb dX3_readTruth_65 (by decide) ?_
            exact ih8 _ (by omega) v62 v52 n52_0_2 n52_0_3 n52_0_4 n52_0_5 n52_0_6 n52_0_7 _ _ _ rfl (by omega) (by omega) (by omega) (by omega) (by omega) (by omega) (by omega) (by omega) (by first | (refine LTI.st (fun _ _ => st_r) x_v20 x_v21 l_v2 u_v2 rfl) | (refine LTI.st (h19.2.2.2.tr (GL_nx (fun _ _ => st_rY x_v250) px35)) x_v520 x_v521 l_v52 u_v52 ?_; omega)) (by omega) (by omega) hH hS (lv_sub hl [0, 1, 3, 4] rfl)
  refine lv_istore_n (lv' := [(3, .int 0), (2, .int v2), (0, .ref a0), (1, .int x1)]) hx hb dX3_readTruth_7 rfl hl (by decide) rfl (fun ls hl => ?_)
  have z_0 : (0 : Int32).toInt = 0 := by decide
  exact J8 _ 0 v2 n2_0_2 n2_0_3 n2_0_4 n2_0_5 n2_0_6 n2_0_7 _ _ _ rfl (by decide) (by decide) (by omega) (by omega) (by omega) (by omega) (by omega) (by omega) (by first | (refine LTI.st (fun _ _ => st_r) x_v20 x_v21 l_v2 u_v2 rfl) | (refine LTI.st (h19.2.2.2.tr (GL_nx (fun _ _ => st_rY x_v250) px35)) x_v520 x_v521 l_v52 u_v52 ?_; omega)) (by omega) (by omega) hH hS (lv_sub hl [0, 1, 2, 3] rfl)
theorem dX3_read_0 : decode cX3_read 0 = .ok (.aload_n 0, 1) := by decide +kernel
theorem dX3_read_1 : decode cX3_read 1 = .ok (.iconst 0, 1) := by decide +kernel
theorem dX3_read_2 : decode cX3_read 2 = .ok (.putfield 15, 3) := by decide +kernel
theorem dX3_read_5 : decode cX3_read 5 = .ok (.aload_n 0, 1) := by decide +kernel
theorem dX3_read_6 : decode cX3_read 6 = .ok (.iconst 0, 1) := by decide +kernel
theorem dX3_read_7 : decode cX3_read 7 = .ok (.invokevirtual 23, 3) := by decide +kernel
theorem dX3_read_10 : decode cX3_read 10 = .ok (.ireturn, 1) := by decide +kernel
