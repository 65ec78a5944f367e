set_option maxHeartbeats 4000000 in
set_option maxRecDepth 100000 in
theorem s_FW_hold (l : Launch) (D : va_G) (cs : CS) (kf : KF) (T : TF) (O : List Nat) (X : va_W) (a0 w hw gw ch gq : Nat) (x1 : Int32) (x2 : Int32) (t_a0 : T a0 = some (21, w, ch)) (t_w : isW T w hw gw) (t_ch : T ch = some (10, gq, 0)) (hO : okO T O [1, 16, 19, 21]) : TK l D cs kf yX11_hold cX11_hold 3 (some (.int)) { frames := 3, cells := 0, slots := 0, locals := 65 } [.ref a0, .int x1, .int x2] T O X (Ti D cs (fun r u => u = (T, O, X))) := by
  refine tk_of (by decide) (Nat.le_of_ble_eq_true rfl) (fun p e s m below meth c ls A H locs hx hb hr hml hown hts hlocks hnm hkb hH hS hA hOX hks hE hl => ?_)
  have hown : s.vm.findClass RX11 = some m.cls := hown
  have hl : lv_has ls 3 [(0, .ref a0), (1, .int x1), (2, .int x2)] := hl
  have b1_w := t_w.2.1
  have b2_w := t_w.2.2
  refine lv_aload_n hx hb dX11_hold_0 rfl (lv_at hl 0 rfl) ?_
  refine lv_iload_n hx hb dX11_hold_1 rfl (lv_at hl 1 rfl) ?_
  refine tk_i hH hS hA (tr_V (n := 1) (As := [.int x1]) hx hb hml hown hts hkb hH hOX hks hE hS hA (s_FW_isHold l D cs kf T O X a0 w hw gw ch gq x1 t_a0 t_w t_ch (hO.sub (by decide))) kw_770 kw_772 ks_17 kw_1 kw_773 (by decide +kernel) ⟨Nat.le_of_ble_eq_true rfl, Nat.le_of_ble_eq_true rfl⟩ (HT.recv (ci := 11) hkb hH t_a0 (hO.no t_a0 (by decide)) rfl) rfl rfl hl.1 (Nat.le_of_ble_eq_true rfl) dX11_hold_2 ⟨Nat.le_of_ble_eq_true rfl, Nat.le_of_ble_eq_true rfl⟩) (fun v2 u H locs hz9 hH hS => ?_)
  obtain ⟨rfl, l_v2, u_v2, x_v20⟩ := hz9
  have hH : HT D cs A T O X H := hH
  refine W.widen (k := 0) (n := 0) (Nat.le_of_ble_eq_true rfl) (Nat.le_of_ble_eq_true rfl) ?_
  refine lv_if_ne (tgt := 11) hx hb dX11_hold_5 (by decide) (fun c5 => ?_) (fun c5 => ?_)
  · skip
    have tc5 := f_ne (k := 0) (by decide) c5
    refine lv_iload_n hx hb dX11_hold_11 rfl (lv_at hl 2 rfl) ?_
    by_cases c12_0 : x2 = 0
    · skip
      refine lv_topc c12_0 ?_
      have tc12_0 := f_eq (k := 0) (by decide) c12_0
      refine lv_tableIn (off := 56) (tgt := 68) hx hb dX11_hold_12 (by decide) (by decide) (by decide) (by decide) ?_
      refine lv_aload_n hx hb dX11_hold_68 rfl (lv_at hl 0 rfl) ?_
      refine t_get (ci := 11) (lst := ft11 w ch) (C := RX11) (F := TX11) (N := 20) hx hb hts uX11 hown hkb hH t_a0 (hO.no t_a0 (by decide)) (fun _ h9 => h9) rfl rfl 3 (by decide) rfl kw_363 (fun _ h9 => h9) dX11_hold_69 (fun v9 h9 => ?_)
      have h9 : v9 = .ref w := h9
      subst h9
      refine t_get (ci := 9) (lst := ft9w hw gw) (C := RX9) (F := TX9) (N := 14) hx hb hts uX9 hown hkb hH t_w.1 (hO.no t_w.1 (by decide)) (fun fs => (ob9w t_w fs).mp) rfl rfl 6 (by decide) rfl kw_134 (fun _ h9 => h9) dX11_hold_72 (fun v9 h9 => ?_)
      obtain ⟨v72, rfl, t_v72⟩ := h9
      refine lv_iload_n hx hb dX11_hold_75 rfl (lv_at hl 1 rfl) ?_
      refine t_ild hx hb hkb hH t_v72 (hO.no t_v72 (by decide)) (by omega) (by omega) dX11_hold_76 (fun v76 h9 => ?_)
      exact te_i hx hb hr hlocks hH hS (rfl) dX11_hold_77
    have tc12_0 := f_ne (k := 0) (by decide) c12_0
    by_cases c12_1 : x2 = 1
    · skip
      refine lv_topc c12_1 ?_
      have tc12_1 := f_eq (k := 1) (by decide) c12_1
      refine lv_tableIn (off := 66) (tgt := 78) hx hb dX11_hold_12 (by decide) (by decide) (by decide) (by decide) ?_
      refine lv_aload_n hx hb dX11_hold_78 rfl (lv_at hl 0 rfl) ?_
      refine t_get (ci := 11) (lst := ft11 w ch) (C := RX11) (F := TX11) (N := 20) hx hb hts uX11 hown hkb hH t_a0 (hO.no t_a0 (by decide)) (fun _ h9 => h9) rfl rfl 3 (by decide) rfl kw_363 (fun _ h9 => h9) dX11_hold_79 (fun v9 h9 => ?_)
      have h9 : v9 = .ref w := h9
      subst h9
      refine t_get (ci := 9) (lst := ft9w hw gw) (C := RX9) (F := TX9) (N := 14) hx hb hts uX9 hown hkb hH t_w.1 (hO.no t_w.1 (by decide)) (fun fs => (ob9w t_w fs).mp) rfl rfl 7 (by decide) rfl kw_137 (fun _ h9 => h9) dX11_hold_82 (fun v9 h9 => ?_)
      obtain ⟨v82, rfl, t_v82⟩ := h9
      refine lv_iload_n hx hb dX11_hold_85 rfl (lv_at hl 1 rfl) ?_
      refine t_ild hx hb hkb hH t_v82 (hO.no t_v82 (by decide)) (by omega) (by omega) dX11_hold_86 (fun v86 h9 => ?_)
      exact te_i hx hb hr hlocks hH hS (rfl) dX11_hold_87
    have tc12_1 := f_ne (k := 1) (by decide) c12_1
    by_cases c12_2 : x2 = 2
    · skip
      refine lv_topc c12_2 ?_
      have tc12_2 := f_eq (k := 2) (by decide) c12_2
      refine lv_tableIn (off := 76) (tgt := 88) hx hb dX11_hold_12 (by decide) (by decide) (by decide) (by decide) ?_
      refine lv_aload_n hx hb dX11_hold_88 rfl (lv_at hl 0 rfl) ?_
      refine t_get (ci := 11) (lst := ft11 w ch) (C := RX11) (F := TX11) (N := 20) hx hb hts uX11 hown hkb hH t_a0 (hO.no t_a0 (by decide)) (fun _ h9 => h9) rfl rfl 3 (by decide) rfl kw_363 (fun _ h9 => h9) dX11_hold_89 (fun v9 h9 => ?_)
      have h9 : v9 = .ref w := h9
      subst h9
      refine t_get (ci := 9) (lst := ft9w hw gw) (C := RX9) (F := TX9) (N := 14) hx hb hts uX9 hown hkb hH t_w.1 (hO.no t_w.1 (by decide)) (fun fs => (ob9w t_w fs).mp) rfl rfl 3 (by decide) rfl kw_122 (fun _ h9 => h9) dX11_hold_92 (fun v9 h9 => ?_)
      obtain ⟨v92, rfl, l_v92, u_v92⟩ := h9
      refine lv_iload_n hx hb dX11_hold_95 rfl (lv_at hl 1 rfl) ?_
      refine lv_ishr hx hb dX11_hold_96 ?_
      refine lv_topi (fun v96 ev96 => ?_)
      have tv96 : 0 ≤ v96.toInt ∧ v96.toInt ≤ v92.toInt := by rw [ev96]; exact shr_b (by omega)
      refine lv_iconst (v := 1) hx hb dX11_hold_97 (by decide) ?_
      refine lv_iand hx hb dX11_hold_98 ?_
      refine lv_topi (fun v98 ev98 => ?_)
      have tv98 : 0 ≤ v98.toInt ∧ v98.toInt ≤ 1 := by rw [ev98]; exact and_r (by decide)
      exact te_i hx hb hr hlocks hH hS (rfl) dX11_hold_99
    have tc12_2 := f_ne (k := 2) (by decide) c12_2
    by_cases c12_3 : x2 = 3
    · skip
      refine lv_topc c12_3 ?_
      have tc12_3 := f_eq (k := 3) (by decide) c12_3
      refine lv_tableIn (off := 88) (tgt := 100) hx hb dX11_hold_12 (by decide) (by decide) (by decide) (by decide) ?_
      refine lv_aload_n hx hb dX11_hold_100 rfl (lv_at hl 0 rfl) ?_
      refine t_get (ci := 11) (lst := ft11 w ch) (C := RX11) (F := TX11) (N := 20) hx hb hts uX11 hown hkb hH t_a0 (hO.no t_a0 (by decide)) (fun _ h9 => h9) rfl rfl 3 (by decide) rfl kw_363 (fun _ h9 => h9) dX11_hold_101 (fun v9 h9 => ?_)
      have h9 : v9 = .ref w := h9
      subst h9
      refine t_get (ci := 9) (lst := ft9w hw gw) (C := RX9) (F := TX9) (N := 14) hx hb hts uX9 hown hkb hH t_w.1 (hO.no t_w.1 (by decide)) (fun fs => (ob9w t_w fs).mp) rfl rfl 4 (by decide) rfl kw_128 (fun _ h9 => h9) dX11_hold_104 (fun v9 h9 => ?_)
      obtain ⟨v104, rfl, l_v104, u_v104⟩ := h9
      refine lv_iload_n hx hb dX11_hold_107 rfl (lv_at hl 1 rfl) ?_
      refine lv_ishr hx hb dX11_hold_108 ?_
      refine lv_topi (fun v108 ev108 => ?_)
      have tv108 : 0 ≤ v108.toInt ∧ v108.toInt ≤ v104.toInt := by rw [ev108]; exact shr_b (by omega)
      refine lv_iconst (v := 1) hx hb dX11_hold_109 (by decide) ?_
      refine lv_iand hx hb dX11_hold_110 ?_
      refine lv_topi (fun v110 ev110 => ?_)
      have tv110 : 0 ≤ v110.toInt ∧ v110.toInt ≤ 1 := by rw [ev110]; exact and_r (by decide)
      exact te_i hx hb hr hlocks hH hS (rfl) dX11_hold_111
    have tc12_3 := f_ne (k := 3) (by decide) c12_3
    by_cases c12_4 : x2 = 4
    · skip
      refine lv_topc c12_4 ?_
      have tc12_4 := f_eq (k := 4) (by decide) c12_4
      refine lv_tableIn (off := 100) (tgt := 112) hx hb dX11_hold_12 (by decide) (by decide) (by decide) (by decide) ?_
      refine lv_aload_n hx hb dX11_hold_112 rfl (lv_at hl 0 rfl) ?_
      refine lv_aload_n hx hb dX11_hold_113 rfl (lv_at hl 0 rfl) ?_
      refine t_get (ci := 11) (lst := ft11 w ch) (C := RX11) (F := TX11) (N := 20) hx hb hts uX11 hown hkb hH t_a0 (hO.no t_a0 (by decide)) (fun _ h9 => h9) rfl rfl 4 (by decide) rfl kw_364 (fun _ h9 => h9) dX11_hold_114 (fun v9 h9 => ?_)
      obtain ⟨v114, rfl, t_v114⟩ := h9
      refine t_get (ci := 6) (lst := ft6 0 0) (C := RX6) (F := TX6) (N := 6) hx hb hts uX6 hown hkb hH t_v114 (hO.no t_v114 (by decide)) (fun _ h9 => h9) rfl rfl 2 (by decide) rfl kw_191 (fun _ h9 => h9) dX11_hold_117 (fun v9 h9 => ?_)
      obtain ⟨v117, rfl⟩ := h9
      refine tk_i hH hS hA (tr_V (n := 1) (As := [.int v117]) hx hb hml hown hts hkb hH hOX hks hE hS hA (s_FW_thereOn l D cs kf T O X a0 w hw gw ch gq v117 t_a0 t_w t_ch (hO.sub (by decide))) kw_774 kw_776 ks_18 kw_1 kw_777 (by decide +kernel) ⟨Nat.le_of_ble_eq_true rfl, Nat.le_of_ble_eq_true rfl⟩ (HT.recv (ci := 11) hkb hH t_a0 (hO.no t_a0 (by decide)) rfl) rfl rfl hl.1 (Nat.le_of_ble_eq_true rfl) dX11_hold_120 ⟨Nat.le_of_ble_eq_true rfl, Nat.le_of_ble_eq_true rfl⟩) (fun v120 u H locs hz9 hH hS => ?_)
      obtain ⟨rfl, l_v120, u_v120⟩ := hz9
      have hH : HT D cs A T O X H := hH
      refine W.widen (k := 0) (n := 0) (Nat.le_of_ble_eq_true rfl) (Nat.le_of_ble_eq_true rfl) ?_
      refine lv_iload_n hx hb dX11_hold_123 rfl (lv_at hl 1 rfl) ?_
      refine lv_ishr hx hb dX11_hold_124 ?_
      refine lv_topi (fun v124 ev124 => ?_)
      have tv124 : 0 ≤ v124.toInt ∧ v124.toInt ≤ v120.toInt := by rw [ev124]; exact shr_b (by omega)
      refine lv_iconst (v := 1) hx hb dX11_hold_125 (by decide) ?_
      refine lv_iand hx hb dX11_hold_126 ?_
      refine lv_topi (fun v126 ev126 => ?_)
      have tv126 : 0 ≤ v126.toInt ∧ v126.toInt ≤ 1 := by rw [ev126]; exact and_r (by decide)
      exact te_i hx hb hr hlocks hH hS (rfl) dX11_hold_127
    have tc12_4 := f_ne (k := 4) (by decide) c12_4
    by_cases c12_5 : x2 = 5
    · skip
      refine lv_topc c12_5 ?_
      have tc12_5 := f_eq (k := 5) (by decide) c12_5
      refine lv_tableIn (off := 116) (tgt := 128) hx hb dX11_hold_12 (by decide) (by decide) (by decide) (by decide) ?_
      refine lv_aload_n hx hb dX11_hold_128 rfl (lv_at hl 0 rfl) ?_
      refine lv_aload_n hx hb dX11_hold_129 rfl (lv_at hl 0 rfl) ?_
      refine t_get (ci := 11) (lst := ft11 w ch) (C := RX11) (F := TX11) (N := 20) hx hb hts uX11 hown hkb hH t_a0 (hO.no t_a0 (by decide)) (fun _ h9 => h9) rfl rfl 4 (by decide) rfl kw_364 (fun _ h9 => h9) dX11_hold_130 (fun v9 h9 => ?_)
      obtain ⟨v130, rfl, t_v130⟩ := h9
      refine t_get (ci := 6) (lst := ft6 0 0) (C := RX6) (F := TX6) (N := 6) hx hb hts uX6 hown hkb hH t_v130 (hO.no t_v130 (by decide)) (fun _ h9 => h9) rfl rfl 2 (by decide) rfl kw_191 (fun _ h9 => h9) dX11_hold_133 (fun v9 h9 => ?_)
      obtain ⟨v133, rfl⟩ := h9
      refine tk_i hH hS hA (tr_V (n := 1) (As := [.int v133]) hx hb hml hown hts hkb hH hOX hks hE hS hA (s_FW_openOn l D cs kf T O X a0 w hw gw ch gq v133 t_a0 t_w t_ch (hO.sub (by decide))) kw_782 kw_784 ks_19 kw_1 kw_785 (by decide +kernel) ⟨Nat.le_of_ble_eq_true rfl, Nat.le_of_ble_eq_true rfl⟩ (HT.recv (ci := 11) hkb hH t_a0 (hO.no t_a0 (by decide)) rfl) rfl rfl hl.1 (Nat.le_of_ble_eq_true rfl) dX11_hold_136 ⟨Nat.le_of_ble_eq_true rfl, Nat.le_of_ble_eq_true rfl⟩) (fun v136 u H locs hz9 hH hS => ?_)
      obtain ⟨rfl, l_v136, u_v136⟩ := hz9
      have hH : HT D cs A T O X H := hH
      refine W.widen (k := 0) (n := 0) (Nat.le_of_ble_eq_true rfl) (Nat.le_of_ble_eq_true rfl) ?_
      refine lv_iload_n hx hb dX11_hold_139 rfl (lv_at hl 1 rfl) ?_
      refine lv_ishr hx hb dX11_hold_140 ?_
      refine lv_topi (fun v140 ev140 => ?_)
      have tv140 : 0 ≤ v140.toInt ∧ v140.toInt ≤ v136.toInt := by rw [ev140]; exact shr_b (by omega)
      refine lv_iconst (v := 1) hx hb dX11_hold_141 (by decide) ?_
      refine lv_iand hx hb dX11_hold_142 ?_
      refine lv_topi (fun v142 ev142 => ?_)
      have tv142 : 0 ≤ v142.toInt ∧ v142.toInt ≤ 1 := by rw [ev142]; exact and_r (by decide)
      exact te_i hx hb hr hlocks hH hS (rfl) dX11_hold_143
    have tc12_5 := f_ne (k := 5) (by decide) c12_5
    by_cases c12_6 : x2 = 6
    · skip
      refine lv_topc c12_6 ?_
      have tc12_6 := f_eq (k := 6) (by decide) c12_6
      refine lv_tableIn (off := 132) (tgt := 144) hx hb dX11_hold_12 (by decide) (by decide) (by decide) (by decide) ?_
      refine lv_aload_n hx hb dX11_hold_144 rfl (lv_at hl 0 rfl) ?_
      refine t_get (ci := 11) (lst := ft11 w ch) (C := RX11) (F := TX11) (N := 20) hx hb hts uX11 hown hkb hH t_a0 (hO.no t_a0 (by decide)) (fun _ h9 => h9) rfl rfl 4 (by decide) rfl kw_364 (fun _ h9 => h9) dX11_hold_145 (fun v9 h9 => ?_)
      obtain ⟨v145, rfl, t_v145⟩ := h9
      refine lv_iload_n hx hb dX11_hold_148 rfl (lv_at hl 1 rfl) ?_
      refine tk_i hH hS hA (tr_V (n := 1) (As := [.int x1]) hx hb hml hown hts hkb hH hOX hks hE hS hA (s_State_isUsed l D cs kf T O X v145 x1 t_v145 (hO.sub (by decide))) kw_786 kw_787 kw_788 kw_7 kw_789 (by decide +kernel) ⟨Nat.le_of_ble_eq_true rfl, Nat.le_of_ble_eq_true rfl⟩ (HT.recv (ci := 6) hkb hH t_v145 (hO.no t_v145 (by decide)) rfl) rfl rfl hl.1 (Nat.le_of_ble_eq_true rfl) dX11_hold_149 ⟨Nat.le_of_ble_eq_true rfl, Nat.le_of_ble_eq_true rfl⟩) (fun v149 u H locs hz9 hH hS => ?_)
      obtain ⟨rfl, l_v149, u_v149⟩ := hz9
      have hH : HT D cs A T O X H := hH
      refine W.widen (k := 0) (n := 0) (Nat.le_of_ble_eq_true rfl) (Nat.le_of_ble_eq_true rfl) ?_
      have J168 : ∀ (k168_0 : Int32) (H : Heap) (locs : List Loc) (ls : Array Slot), HT D cs A T O X H → va_S A s.heap H locs → lv_has ls 3 [] → W p l e { frames := 3, cells := 0, slots := 0, locals := 65 } s m [.ref a0, .int x1, .int x2].toArray below meth c H locs 0 0 (MQ below (Ti D cs (fun r u => u = (T, O, X)) A) [.ref a0, .int x1, .int x2].toArray s 0 0 A) (F0 m 168 ls [.int k168_0]) := by
        intro k168_0 H locs ls  hH hS hl
        exact te_i hx hb hr hlocks hH hS (rfl) dX11_hold_168
      refine lv_if_eq (tgt := 167) hx hb dX11_hold_152 (by decide) (fun c152 => ?_) (fun c152 => ?_)
      · skip
        have tc152 := f_eq (k := 0) (by decide) c152
        refine lv_iconst (v := (-1)) hx hb dX11_hold_167 (by decide) ?_
        exact J168 (-1) _ _ _  hH hS (lv_sub hl [] rfl)
      · skip
        have tc152 := f_ne (k := 0) (by decide) c152
        refine lv_aload_n hx hb dX11_hold_155 rfl (lv_at hl 0 rfl) ?_
        refine t_get (ci := 11) (lst := ft11 w ch) (C := RX11) (F := TX11) (N := 20) hx hb hts uX11 hown hkb hH t_a0 (hO.no t_a0 (by decide)) (fun _ h9 => h9) rfl rfl 4 (by decide) rfl kw_364 (fun _ h9 => h9) dX11_hold_156 (fun v9 h9 => ?_)
        obtain ⟨v156, rfl, t_v156⟩ := h9
        refine t_get (ci := 6) (lst := ft6 0 0) (C := RX6) (F := TX6) (N := 6) hx hb hts uX6 hown hkb hH t_v156 (hO.no t_v156 (by decide)) (fun _ h9 => h9) rfl rfl 4 (by decide) rfl kw_195 (fun _ h9 => h9) dX11_hold_159 (fun v9 h9 => ?_)
        obtain ⟨v159, rfl, t_v159⟩ := h9
        refine lv_iload_n hx hb dX11_hold_162 rfl (lv_at hl 1 rfl) ?_
        refine t_ild hx hb hkb hH t_v159 (hO.no t_v159 (by decide)) (by omega) (by omega) dX11_hold_163 (fun v163 h9 => ?_)
        refine lv_goto (tgt := 168) hx hb dX11_hold_164 (by decide) ?_
        exact J168 v163 _ _ _  hH hS (lv_sub hl [] rfl)
    have tc12_6 := f_ne (k := 6) (by decide) c12_6
    by_cases c12_7 : x2 = 7
    · skip
      refine lv_topc c12_7 ?_
      have tc12_7 := f_eq (k := 7) (by decide) c12_7
      refine lv_tableIn (off := 157) (tgt := 169) hx hb dX11_hold_12 (by decide) (by decide) (by decide) (by decide) ?_
      refine lv_aload_n hx hb dX11_hold_169 rfl (lv_at hl 0 rfl) ?_
      refine t_get (ci := 11) (lst := ft11 w ch) (C := RX11) (F := TX11) (N := 20) hx hb hts uX11 hown hkb hH t_a0 (hO.no t_a0 (by decide)) (fun _ h9 => h9) rfl rfl 4 (by decide) rfl kw_364 (fun _ h9 => h9) dX11_hold_170 (fun v9 h9 => ?_)
      obtain ⟨v170, rfl, t_v170⟩ := h9
      refine lv_iload_n hx hb dX11_hold_173 rfl (lv_at hl 1 rfl) ?_
      refine tk_i hH hS hA (tr_V (n := 1) (As := [.int x1]) hx hb hml hown hts hkb hH hOX hks hE hS hA (s_State_isUsed l D cs kf T O X v170 x1 t_v170 (hO.sub (by decide))) kw_786 kw_787 kw_788 kw_7 kw_789 (by decide +kernel) ⟨Nat.le_of_ble_eq_true rfl, Nat.le_of_ble_eq_true rfl⟩ (HT.recv (ci := 6) hkb hH t_v170 (hO.no t_v170 (by decide)) rfl) rfl rfl hl.1 (Nat.le_of_ble_eq_true rfl) dX11_hold_174 ⟨Nat.le_of_ble_eq_true rfl, Nat.le_of_ble_eq_true rfl⟩) (fun v174 u H locs hz9 hH hS => ?_)
      obtain ⟨rfl, l_v174, u_v174⟩ := hz9
      have hH : HT D cs A T O X H := hH
      refine W.widen (k := 0) (n := 0) (Nat.le_of_ble_eq_true rfl) (Nat.le_of_ble_eq_true rfl) ?_
      have J193 : ∀ (k193_0 : Int32) (H : Heap) (locs : List Loc) (ls : Array Slot), HT D cs A T O X H → va_S A s.heap H locs → lv_has ls 3 [] → W p l e { frames := 3, cells := 0, slots := 0, locals := 65 } s m [.ref a0, .int x1, .int x2].toArray below meth c H locs 0 0 (MQ below (Ti D cs (fun r u => u = (T, O, X)) A) [.ref a0, .int x1, .int x2].toArray s 0 0 A) (F0 m 193 ls [.int k193_0]) := by
        intro k193_0 H locs ls  hH hS hl
        exact te_i hx hb hr hlocks hH hS (rfl) dX11_hold_193
      refine lv_if_eq (tgt := 192) hx hb dX11_hold_177 (by decide) (fun c177 => ?_) (fun c177 => ?_)
      · skip
        have tc177 := f_eq (k := 0) (by decide) c177
        refine lv_iconst (v := (-1)) hx hb dX11_hold_192 (by decide) ?_
        exact J193 (-1) _ _ _  hH hS (lv_sub hl [] rfl)
      · skip
        have tc177 := f_ne (k := 0) (by decide) c177
        refine lv_aload_n hx hb dX11_hold_180 rfl (lv_at hl 0 rfl) ?_
        refine t_get (ci := 11) (lst := ft11 w ch) (C := RX11) (F := TX11) (N := 20) hx hb hts uX11 hown hkb hH t_a0 (hO.no t_a0 (by decide)) (fun _ h9 => h9) rfl rfl 4 (by decide) rfl kw_364 (fun _ h9 => h9) dX11_hold_181 (fun v9 h9 => ?_)
        obtain ⟨v181, rfl, t_v181⟩ := h9
        refine t_get (ci := 6) (lst := ft6 0 0) (C := RX6) (F := TX6) (N := 6) hx hb hts uX6 hown hkb hH t_v181 (hO.no t_v181 (by decide)) (fun _ h9 => h9) rfl rfl 5 (by decide) rfl kw_197 (fun _ h9 => h9) dX11_hold_184 (fun v9 h9 => ?_)
        obtain ⟨v184, rfl, t_v184⟩ := h9
        refine lv_iload_n hx hb dX11_hold_187 rfl (lv_at hl 1 rfl) ?_
        refine t_ild hx hb hkb hH t_v184 (hO.no t_v184 (by decide)) (by omega) (by omega) dX11_hold_188 (fun v188 h9 => ?_)
        refine lv_goto (tgt := 193) hx hb dX11_hold_189 (by decide) ?_
        exact J193 v188 _ _ _  hH hS (lv_sub hl [] rfl)
    have tc12_7 := f_ne (k := 7) (by decide) c12_7
    by_cases c12_8 : x2 = 8
    · skip
      refine lv_topc c12_8 ?_
      have tc12_8 := f_eq (k := 8) (by decide) c12_8
      refine lv_tableIn (off := 182) (tgt := 194) hx hb dX11_hold_12 (by decide) (by decide) (by decide) (by decide) ?_
      refine lv_aload_n hx hb dX11_hold_194 rfl (lv_at hl 0 rfl) ?_
      refine t_get (ci := 11) (lst := ft11 w ch) (C := RX11) (F := TX11) (N := 20) hx hb hts uX11 hown hkb hH t_a0 (hO.no t_a0 (by decide)) (fun _ h9 => h9) rfl rfl 4 (by decide) rfl kw_364 (fun _ h9 => h9) dX11_hold_195 (fun v9 h9 => ?_)
      obtain ⟨v195, rfl, t_v195⟩ := h9
      refine t_get (ci := 6) (lst := ft6 0 0) (C := RX6) (F := TX6) (N := 6) hx hb hts uX6 hown hkb hH t_v195 (hO.no t_v195 (by decide)) (fun _ h9 => h9) rfl rfl 1 (by decide) rfl kw_188 (fun _ h9 => h9) dX11_hold_198 (fun v9 h9 => ?_)
      obtain ⟨v198, rfl⟩ := h9
      refine lv_iload_n hx hb dX11_hold_201 rfl (lv_at hl 1 rfl) ?_
      refine lv_ishr hx hb dX11_hold_202 ?_
      refine lv_topi (fun v202 ev202 => ?_)
      refine lv_iconst (v := 1) hx hb dX11_hold_203 (by decide) ?_
      refine lv_iand hx hb dX11_hold_204 ?_
      refine lv_topi (fun v204 ev204 => ?_)
      have tv204 : 0 ≤ v204.toInt ∧ v204.toInt ≤ 1 := by rw [ev204]; exact and_r (by decide)
      exact te_i hx hb hr hlocks hH hS (rfl) dX11_hold_205
    have tc12_8 := f_ne (k := 8) (by decide) c12_8
    by_cases c12_9 : x2 = 9
    · skip
      refine lv_topc c12_9 ?_
      have tc12_9 := f_eq (k := 9) (by decide) c12_9
      refine lv_tableIn (off := 194) (tgt := 206) hx hb dX11_hold_12 (by decide) (by decide) (by decide) (by decide) ?_
      refine lv_aload_n hx hb dX11_hold_206 rfl (lv_at hl 0 rfl) ?_
      refine t_get (ci := 11) (lst := ft11 w ch) (C := RX11) (F := TX11) (N := 20) hx hb hts uX11 hown hkb hH t_a0 (hO.no t_a0 (by decide)) (fun _ h9 => h9) rfl rfl 3 (by decide) rfl kw_363 (fun _ h9 => h9) dX11_hold_207 (fun v9 h9 => ?_)
      have h9 : v9 = .ref w := h9
      subst h9
      refine t_get (ci := 9) (lst := ft9w hw gw) (C := RX9) (F := TX9) (N := 14) hx hb hts uX9 hown hkb hH t_w.1 (hO.no t_w.1 (by decide)) (fun fs => (ob9w t_w fs).mp) rfl rfl 8 (by decide) rfl kw_140 (fun _ h9 => h9) dX11_hold_210 (fun v9 h9 => ?_)
      obtain ⟨v210, rfl, t_v210⟩ := h9
      refine lv_iload_n hx hb dX11_hold_213 rfl (lv_at hl 1 rfl) ?_
      refine t_ild hx hb hkb hH t_v210 (hO.no t_v210 (by decide)) (by omega) (by omega) dX11_hold_214 (fun v214 h9 => ?_)
      exact te_i hx hb hr hlocks hH hS (rfl) dX11_hold_215
    have tc12_9 := f_ne (k := 9) (by decide) c12_9
    refine lv_tableOut (tgt := 216) hx hb dX11_hold_12 (by omega) (by decide) ?_
    refine lv_bipush (v := (-8)) hx hb dX11_hold_216 (by decide) ?_
    exact te_i hx hb hr hlocks hH hS (rfl) dX11_hold_218
  · skip
    have tc5 := f_eq (k := 0) (by decide) c5
    refine lv_bipush (v := (-8)) hx hb dX11_hold_8 (by decide) ?_
    exact te_i hx hb hr hlocks hH hS (rfl) dX11_hold_10
set_option maxHeartbeats 4000000 in
set_option maxRecDepth 100000 in
theorem s_FW_guide (l : Launch) (D : va_G) (cs : CS) (kf : KF) (T : TF) (O : List Nat) (X : va_W) (a0 w hw gw ch gq : Nat) (x1 : Int32) (x2 : Int32) (t_a0 : T a0 = some (21, w, ch)) (t_w : isW T w hw gw) (t_ch : T ch = some (10, gq, 0)) (hO : okO T O [1, 16, 19, 21]) : TK l D cs kf yX11_guide cX11_guide 3 (some (.int)) { frames := 2, cells := 0, slots := 0, locals := 44 } [.ref a0, .int x1, .int x2] T O X (Ti D cs (fun r u => u = (T, O, X))) := by
  refine tk_of (by decide) (Nat.le_of_ble_eq_true rfl) (fun p e s m below meth c ls A H locs hx hb hr hml hown hts hlocks hnm hkb hH hS hA hOX hks hE hl => ?_)
  have hown : s.vm.findClass RX11 = some m.cls := hown
  have hl : lv_has ls 3 [(0, .ref a0), (1, .int x1), (2, .int x2)] := hl
  have b1_w := t_w.2.1
  have b2_w := t_w.2.2
  refine lv_aload_n hx hb dX11_guide_0 rfl (lv_at hl 0 rfl) ?_
  refine lv_iload_n hx hb dX11_guide_1 rfl (lv_at hl 1 rfl) ?_
  refine tk_i hH hS hA (tr_V (n := 1) (As := [.int x1]) hx hb hml hown hts hkb hH hOX hks hE hS hA (s_FW_isGuide l D cs kf T O X a0 w hw gw ch gq x1 t_a0 t_w t_ch (hO.sub (by decide))) kw_794 kw_796 ks_20 kw_1 kw_797 (by decide +kernel) ⟨Nat.le_of_ble_eq_true rfl, Nat.le_of_ble_eq_true rfl⟩ (HT.recv (ci := 11) hkb hH t_a0 (hO.no t_a0 (by decide)) rfl) rfl rfl hl.1 (Nat.le_of_ble_eq_true rfl) dX11_guide_2 ⟨Nat.le_of_ble_eq_true rfl, Nat.le_of_ble_eq_true rfl⟩) (fun v2 u H locs hz9 hH hS => ?_)
  obtain ⟨rfl, l_v2, u_v2, x_v20⟩ := hz9
  have hH : HT D cs A T O X H := hH
  refine W.widen (k := 0) (n := 0) (Nat.le_of_ble_eq_true rfl) (Nat.le_of_ble_eq_true rfl) ?_
  refine lv_if_ne (tgt := 11) hx hb dX11_guide_5 (by decide) (fun c5 => ?_) (fun c5 => ?_)
  · skip
    have tc5 := f_ne (k := 0) (by decide) c5
    refine lv_iload_n hx hb dX11_guide_11 rfl (lv_at hl 2 rfl) ?_
    by_cases c12_0 : x2 = 0
    · skip
      refine lv_topc c12_0 ?_
      have tc12_0 := f_eq (k := 0) (by decide) c12_0
      refine lv_tableIn (off := 28) (tgt := 40) hx hb dX11_guide_12 (by decide) (by decide) (by decide) (by decide) ?_
      refine lv_aload_n hx hb dX11_guide_40 rfl (lv_at hl 0 rfl) ?_
      refine t_get (ci := 11) (lst := ft11 w ch) (C := RX11) (F := TX11) (N := 20) hx hb hts uX11 hown hkb hH t_a0 (hO.no t_a0 (by decide)) (fun _ h9 => h9) rfl rfl 3 (by decide) rfl kw_363 (fun _ h9 => h9) dX11_guide_41 (fun v9 h9 => ?_)
      have h9 : v9 = .ref w := h9
      subst h9
      refine t_get (ci := 9) (lst := ft9w hw gw) (C := RX9) (F := TX9) (N := 14) hx hb hts uX9 hown hkb hH t_w.1 (hO.no t_w.1 (by decide)) (fun fs => (ob9w t_w fs).mp) rfl rfl 9 (by decide) rfl kw_142 (fun _ h9 => h9) dX11_guide_44 (fun v9 h9 => ?_)
      obtain ⟨v44, rfl, t_v44⟩ := h9
      refine lv_iload_n hx hb dX11_guide_47 rfl (lv_at hl 1 rfl) ?_
      refine t_ild hx hb hkb hH t_v44 (hO.no t_v44 (by decide)) (by omega) (by omega) dX11_guide_48 (fun v48 h9 => ?_)
      exact te_i hx hb hr hlocks hH hS (rfl) dX11_guide_49
    have tc12_0 := f_ne (k := 0) (by decide) c12_0
    by_cases c12_1 : x2 = 1
    · skip
      refine lv_topc c12_1 ?_
      have tc12_1 := f_eq (k := 1) (by decide) c12_1
      refine lv_tableIn (off := 38) (tgt := 50) hx hb dX11_guide_12 (by decide) (by decide) (by decide) (by decide) ?_
      refine lv_aload_n hx hb dX11_guide_50 rfl (lv_at hl 0 rfl) ?_
      refine t_get (ci := 11) (lst := ft11 w ch) (C := RX11) (F := TX11) (N := 20) hx hb hts uX11 hown hkb hH t_a0 (hO.no t_a0 (by decide)) (fun _ h9 => h9) rfl rfl 3 (by decide) rfl kw_363 (fun _ h9 => h9) dX11_guide_51 (fun v9 h9 => ?_)
      have h9 : v9 = .ref w := h9
      subst h9
      refine t_get (ci := 9) (lst := ft9w hw gw) (C := RX9) (F := TX9) (N := 14) hx hb hts uX9 hown hkb hH t_w.1 (hO.no t_w.1 (by decide)) (fun fs => (ob9w t_w fs).mp) rfl rfl 10 (by decide) rfl kw_145 (fun _ h9 => h9) dX11_guide_54 (fun v9 h9 => ?_)
      obtain ⟨v54, rfl, t_v54⟩ := h9
      refine lv_iload_n hx hb dX11_guide_57 rfl (lv_at hl 1 rfl) ?_
      refine t_ild hx hb hkb hH t_v54 (hO.no t_v54 (by decide)) (by omega) (by omega) dX11_guide_58 (fun v58 h9 => ?_)
      exact te_i hx hb hr hlocks hH hS (rfl) dX11_guide_59
    have tc12_1 := f_ne (k := 1) (by decide) c12_1
    by_cases c12_2 : x2 = 2
    · skip
      refine lv_topc c12_2 ?_
      have tc12_2 := f_eq (k := 2) (by decide) c12_2
      refine lv_tableIn (off := 48) (tgt := 60) hx hb dX11_guide_12 (by decide) (by decide) (by decide) (by decide) ?_
      refine lv_aload_n hx hb dX11_guide_60 rfl (lv_at hl 0 rfl) ?_
      refine t_get (ci := 11) (lst := ft11 w ch) (C := RX11) (F := TX11) (N := 20) hx hb hts uX11 hown hkb hH t_a0 (hO.no t_a0 (by decide)) (fun _ h9 => h9) rfl rfl 4 (by decide) rfl kw_364 (fun _ h9 => h9) dX11_guide_61 (fun v9 h9 => ?_)
      obtain ⟨v61, rfl, t_v61⟩ := h9
      refine lv_iload_n hx hb dX11_guide_64 rfl (lv_at hl 1 rfl) ?_
      refine tk_i hH hS hA (tr_V (n := 1) (As := [.int x1]) hx hb hml hown hts hkb hH hOX hks hE hS hA (s_State_usedBy l D cs kf T O X v61 x1 t_v61 (hO.sub (by decide))) kw_798 kw_799 kw_800 kw_7 kw_801 (by decide +kernel) ⟨Nat.le_of_ble_eq_true rfl, Nat.le_of_ble_eq_true rfl⟩ (HT.recv (ci := 6) hkb hH t_v61 (hO.no t_v61 (by decide)) rfl) rfl rfl hl.1 (Nat.le_of_ble_eq_true rfl) dX11_guide_65 ⟨Nat.le_of_ble_eq_true rfl, Nat.le_of_ble_eq_true rfl⟩) (fun v65 u H locs hz9 hH hS => ?_)
      obtain ⟨rfl, l_v65, u_v65⟩ := hz9
      have hH : HT D cs A T O X H := hH
      refine W.widen (k := 0) (n := 0) (Nat.le_of_ble_eq_true rfl) (Nat.le_of_ble_eq_true rfl) ?_
      exact te_i hx hb hr hlocks hH hS (rfl) dX11_guide_68
    have tc12_2 := f_ne (k := 2) (by decide) c12_2
    refine lv_tableOut (tgt := 69) hx hb dX11_guide_12 (by omega) (by decide) ?_
    refine lv_bipush (v := (-2)) hx hb dX11_guide_69 (by decide) ?_
    exact te_i hx hb hr hlocks hH hS (rfl) dX11_guide_71
  · skip
    have tc5 := f_eq (k := 0) (by decide) c5
    refine lv_bipush (v := (-2)) hx hb dX11_guide_8 (by decide) ?_
    exact te_i hx hb hr hlocks hH hS (rfl) dX11_guide_10
set_option maxHeartbeats 4000000 in
set_option maxRecDepth 100000 in
theorem s_FW_steps (l : Launch) (D : va_G) (cs : CS) (kf : KF) (T : TF) (O : List Nat) (X : va_W) (a0 w hw gw ch gq : Nat) (x1 : Int32) (x2 : Int32) (x3 : Int32) (t_a0 : T a0 = some (21, w, ch)) (t_w : isW T w hw gw) (t_ch : T ch = some (10, gq, 0)) (hO : okO T O [1, 12, 16, 19, 21]) : TK l D cs kf yX11_steps cX11_steps 4 (some (.int)) { frames := 3, cells := 0, slots := 0, locals := 77 } [.ref a0, .int x1, .int x2, .int x3] T O X (Ti D cs (fun r u => u = (T, O, X) ∧ -2 ≤ r.toInt ∧ r.toInt ≤ 1)) := by
  refine tk_of (by decide) (Nat.le_of_ble_eq_true rfl) (fun p e s m below meth c ls A H locs hx hb hr hml hown hts hlocks hnm hkb hH hS hA hOX hks hE hl => ?_)
  have hown : s.vm.findClass RX11 = some m.cls := hown
  have hl : lv_has ls 4 [(0, .ref a0), (1, .int x1), (2, .int x2), (3, .int x3)] := hl
  have b1_w := t_w.2.1
  have b2_w := t_w.2.2
  refine lv_aload_n hx hb dX11_steps_0 rfl (lv_at hl 0 rfl) ?_
  refine lv_iload_n hx hb dX11_steps_1 rfl (lv_at hl 1 rfl) ?_
  refine tk_i hH hS hA (tr_V (n := 1) (As := [.int x1]) hx hb hml hown hts hkb hH hOX hks hE hS hA (s_FW_isGuide l D cs kf T O X a0 w hw gw ch gq x1 t_a0 t_w t_ch (hO.sub (by decide))) kw_794 kw_796 ks_20 kw_1 kw_797 (by decide +kernel) ⟨Nat.le_of_ble_eq_true rfl, Nat.le_of_ble_eq_true rfl⟩ (HT.recv (ci := 11) hkb hH t_a0 (hO.no t_a0 (by decide)) rfl) rfl rfl hl.1 (Nat.le_of_ble_eq_true rfl) dX11_steps_2 ⟨Nat.le_of_ble_eq_true rfl, Nat.le_of_ble_eq_true rfl⟩) (fun v2 u H locs hz9 hH hS => ?_)
  obtain ⟨rfl, l_v2, u_v2, x_v20⟩ := hz9
  have hH : HT D cs A T O X H := hH
  refine W.widen (k := 0) (n := 0) (Nat.le_of_ble_eq_true rfl) (Nat.le_of_ble_eq_true rfl) ?_
  have J29 : ∀  (H : Heap) (locs : List Loc) (ls : Array Slot), HT D cs A T O X H → va_S A s.heap H locs → lv_has ls 4 [] → W p l e { frames := 3, cells := 0, slots := 0, locals := 77 } s m [.ref a0, .int x1, .int x2, .int x3].toArray below meth c H locs 0 0 (MQ below (Ti D cs (fun r u => u = (T, O, X) ∧ -2 ≤ r.toInt ∧ r.toInt ≤ 1) A) [.ref a0, .int x1, .int x2, .int x3].toArray s 0 0 A) (F0 m 29 ls []) := by
    intro  H locs ls  hH hS hl
    refine lv_bipush (v := (-2)) hx hb dX11_steps_29 (by decide) ?_
    exact te_i hx hb hr hlocks hH hS (⟨rfl, by decide, by decide⟩) dX11_steps_31
  refine lv_if_eq (tgt := 29) hx hb dX11_steps_5 (by decide) (fun c5 => ?_) (fun c5 => ?_)
  · skip
    have tc5 := f_eq (k := 0) (by decide) c5
    exact J29  _ _ _  hH hS (lv_sub hl [] rfl)
  · skip
    have tc5 := f_ne (k := 0) (by decide) c5
    refine lv_aload_n hx hb dX11_steps_8 rfl (lv_at hl 0 rfl) ?_
    refine lv_iload_n hx hb dX11_steps_9 rfl (lv_at hl 2 rfl) ?_
    refine tk_i hH hS hA (tr_V (n := 1) (As := [.int x2]) hx hb hml hown hts hkb hH hOX hks hE hS hA (s_FW_isHold l D cs kf T O X a0 w hw gw ch gq x2 t_a0 t_w t_ch (hO.sub (by decide))) kw_770 kw_772 ks_17 kw_1 kw_773 (by decide +kernel) ⟨Nat.le_of_ble_eq_true rfl, Nat.le_of_ble_eq_true rfl⟩ (HT.recv (ci := 11) hkb hH t_a0 (hO.no t_a0 (by decide)) rfl) rfl rfl hl.1 (Nat.le_of_ble_eq_true rfl) dX11_steps_10 ⟨Nat.le_of_ble_eq_true rfl, Nat.le_of_ble_eq_true rfl⟩) (fun v10 u H locs hz9 hH hS => ?_)
    obtain ⟨rfl, l_v10, u_v10, x_v100⟩ := hz9
    have hH : HT D cs A T O X H := hH
    refine W.widen (k := 0) (n := 0) (Nat.le_of_ble_eq_true rfl) (Nat.le_of_ble_eq_true rfl) ?_
    refine lv_if_eq (tgt := 29) hx hb dX11_steps_13 (by decide) (fun c13 => ?_) (fun c13 => ?_)
    · skip
      have tc13 := f_eq (k := 0) (by decide) c13
      exact J29  _ _ _  hH hS (lv_sub hl [] rfl)
    · skip
      have tc13 := f_ne (k := 0) (by decide) c13
      refine lv_aload_n hx hb dX11_steps_16 rfl (lv_at hl 0 rfl) ?_
      refine lv_iload_n hx hb dX11_steps_17 rfl (lv_at hl 3 rfl) ?_
      refine tk_i hH hS hA (tr_V (n := 1) (As := [.int x3]) hx hb hml hown hts hkb hH hOX hks hE hS hA (s_FW_isHold l D cs kf T O X a0 w hw gw ch gq x3 t_a0 t_w t_ch (hO.sub (by decide))) kw_770 kw_772 ks_17 kw_1 kw_773 (by decide +kernel) ⟨Nat.le_of_ble_eq_true rfl, Nat.le_of_ble_eq_true rfl⟩ (HT.recv (ci := 11) hkb hH t_a0 (hO.no t_a0 (by decide)) rfl) rfl rfl hl.1 (Nat.le_of_ble_eq_true rfl) dX11_steps_18 ⟨Nat.le_of_ble_eq_true rfl, Nat.le_of_ble_eq_true rfl⟩) (fun v18 u H locs hz9 hH hS => ?_)
      obtain ⟨rfl, l_v18, u_v18, x_v180⟩ := hz9
      have hH : HT D cs A T O X H := hH
      refine W.widen (k := 0) (n := 0) (Nat.le_of_ble_eq_true rfl) (Nat.le_of_ble_eq_true rfl) ?_
      refine lv_if_eq (tgt := 29) hx hb dX11_steps_21 (by decide) (fun c21 => ?_) (fun c21 => ?_)
      · skip
        have tc21 := f_eq (k := 0) (by decide) c21
        exact J29  _ _ _  hH hS (lv_sub hl [] rfl)
      · skip
        have tc21 := f_ne (k := 0) (by decide) c21
        refine lv_iload_n hx hb dX11_steps_24 rfl (lv_at hl 2 rfl) ?_
        refine lv_iload_n hx hb dX11_steps_25 rfl (lv_at hl 3 rfl) ?_
        refine lv_icmp_ne (tgt := 32) hx hb dX11_steps_26 (by decide) (fun c26 => ?_) (fun c26 => ?_)
        · skip
          have fuc26 := full_i x2
          have fvc26 := full_i x3
          have tc26 := g_ne c26
          refine lv_aload_n hx hb dX11_steps_32 rfl (lv_at hl 0 rfl) ?_
          refine t_get (ci := 11) (lst := ft11 w ch) (C := RX11) (F := TX11) (N := 20) hx hb hts uX11 hown hkb hH t_a0 (hO.no t_a0 (by decide)) (fun _ h9 => h9) rfl rfl 3 (by decide) rfl kw_363 (fun _ h9 => h9) dX11_steps_33 (fun v9 h9 => ?_)
          have h9 : v9 = .ref w := h9
          subst h9
          refine lv_iload_n hx hb dX11_steps_36 rfl (lv_at hl 2 rfl) ?_
          refine lv_iload_n hx hb dX11_steps_37 rfl (lv_at hl 3 rfl) ?_
          refine lv_aload_n hx hb dX11_steps_38 rfl (lv_at hl 0 rfl) ?_
          refine t_get (ci := 11) (lst := ft11 w ch) (C := RX11) (F := TX11) (N := 20) hx hb hts uX11 hown hkb hH t_a0 (hO.no t_a0 (by decide)) (fun _ h9 => h9) rfl rfl 3 (by decide) rfl kw_363 (fun _ h9 => h9) dX11_steps_39 (fun v9 h9 => ?_)
          have h9 : v9 = .ref w := h9
          subst h9
          refine t_get (ci := 9) (lst := ft9w hw gw) (C := RX9) (F := TX9) (N := 14) hx hb hts uX9 hown hkb hH t_w.1 (hO.no t_w.1 (by decide)) (fun fs => (ob9w t_w fs).mp) rfl rfl 9 (by decide) rfl kw_142 (fun _ h9 => h9) dX11_steps_42 (fun v9 h9 => ?_)
          obtain ⟨v42, rfl, t_v42⟩ := h9
          refine lv_iload_n hx hb dX11_steps_45 rfl (lv_at hl 1 rfl) ?_
          refine t_ild hx hb hkb hH t_v42 (hO.no t_v42 (by decide)) (by omega) (by omega) dX11_steps_46 (fun v46 h9 => ?_)
          refine lv_aload_n hx hb dX11_steps_47 rfl (lv_at hl 0 rfl) ?_
          refine t_get (ci := 11) (lst := ft11 w ch) (C := RX11) (F := TX11) (N := 20) hx hb hts uX11 hown hkb hH t_a0 (hO.no t_a0 (by decide)) (fun _ h9 => h9) rfl rfl 3 (by decide) rfl kw_363 (fun _ h9 => h9) dX11_steps_48 (fun v9 h9 => ?_)
          have h9 : v9 = .ref w := h9
          subst h9
          refine t_get (ci := 9) (lst := ft9w hw gw) (C := RX9) (F := TX9) (N := 14) hx hb hts uX9 hown hkb hH t_w.1 (hO.no t_w.1 (by decide)) (fun fs => (ob9w t_w fs).mp) rfl rfl 10 (by decide) rfl kw_145 (fun _ h9 => h9) dX11_steps_51 (fun v9 h9 => ?_)
          obtain ⟨v51, rfl, t_v51⟩ := h9
          refine lv_iload_n hx hb dX11_steps_54 rfl (lv_at hl 1 rfl) ?_
          refine t_ild hx hb hkb hH t_v51 (hO.no t_v51 (by decide)) (by omega) (by omega) dX11_steps_55 (fun v55 h9 => ?_)
          refine lv_aload_n hx hb dX11_steps_56 rfl (lv_at hl 0 rfl) ?_
          refine t_get (ci := 11) (lst := ft11 w ch) (C := RX11) (F := TX11) (N := 20) hx hb hts uX11 hown hkb hH t_a0 (hO.no t_a0 (by decide)) (fun _ h9 => h9) rfl rfl 4 (by decide) rfl kw_364 (fun _ h9 => h9) dX11_steps_57 (fun v9 h9 => ?_)
          obtain ⟨v57, rfl, t_v57⟩ := h9
          refine t_get (ci := 6) (lst := ft6 0 0) (C := RX6) (F := TX6) (N := 6) hx hb hts uX6 hown hkb hH t_v57 (hO.no t_v57 (by decide)) (fun _ h9 => h9) rfl rfl 2 (by decide) rfl kw_191 (fun _ h9 => h9) dX11_steps_60 (fun v9 h9 => ?_)
          obtain ⟨v60, rfl⟩ := h9
          refine tk_i hH hS hA (tr_V (n := 5) (As := [.int x2, .int x3, .int v46, .int v55, .int v60]) hx hb hml hown hts hkb hH hOX hks hE hS hA (s_Wall_mayStep l D cs kf T O X w hw gw x2 x3 v46 v55 v60 t_w (by omega) (by omega) (by omega) (by omega) (hO.sub (by decide))) kw_807 kw_808 kw_809 kw_5 kw_810 (by decide +kernel) ⟨Nat.le_of_ble_eq_true rfl, Nat.le_of_ble_eq_true rfl⟩ (HT.recv (ci := 9) hkb hH t_w.1 (hO.no t_w.1 (by decide)) rfl) rfl rfl hl.1 (Nat.le_of_ble_eq_true rfl) dX11_steps_63 ⟨Nat.le_of_ble_eq_true rfl, Nat.le_of_ble_eq_true rfl⟩) (fun v63 u H locs hz9 hH hS => ?_)
          obtain ⟨rfl, l_v63, u_v63⟩ := hz9
          have hH : HT D cs A T O X H := hH
          refine W.widen (k := 0) (n := 0) (Nat.le_of_ble_eq_true rfl) (Nat.le_of_ble_eq_true rfl) ?_
          have J74 : ∀ (k74_0 : Int32) (H : Heap) (locs : List Loc) (ls : Array Slot), (0 ≤ k74_0.toInt) → (k74_0.toInt ≤ 1) → HT D cs A T O X H → va_S A s.heap H locs → lv_has ls 4 [] → W p l e { frames := 3, cells := 0, slots := 0, locals := 77 } s m [.ref a0, .int x1, .int x2, .int x3].toArray below meth c H locs 0 0 (MQ below (Ti D cs (fun r u => u = (T, O, X) ∧ -2 ≤ r.toInt ∧ r.toInt ≤ 1) A) [.ref a0, .int x1, .int x2, .int x3].toArray s 0 0 A) (F0 m 74 ls [.int k74_0]) := by
            intro k74_0 H locs ls l_k74_0 u_k74_0 hH hS hl
            exact te_i hx hb hr hlocks hH hS (⟨rfl, by omega, by omega⟩) dX11_steps_74
          refine lv_if_eq (tgt := 73) hx hb dX11_steps_66 (by decide) (fun c66 => ?_) (fun c66 => ?_)
          · skip
            have tc66 := f_eq (k := 0) (by decide) c66
            refine lv_iconst (v := 0) hx hb dX11_steps_73 (by decide) ?_
            exact J74 0 _ _ _ (by decide) (by decide) hH hS (lv_sub hl [] rfl)
          · skip
            have tc66 := f_ne (k := 0) (by decide) c66
            refine lv_iconst (v := 1) hx hb dX11_steps_69 (by decide) ?_
            refine lv_goto (tgt := 74) hx hb dX11_steps_70 (by decide) ?_
            exact J74 1 _ _ _ (by decide) (by decide) hH hS (lv_sub hl [] rfl)
        · skip
          have fuc26 := full_i x2
          have fvc26 := full_i x3
          have tc26 := g_eq c26
          exact J29  _ _ _  hH hS (lv_sub hl [] rfl)
set_option maxHeartbeats 4000000 in
set_option maxRecDepth 100000 in
theorem s_FW_reach (l : Launch) (D : va_G) (cs : CS) (kf : KF) (T : TF) (O : List Nat) (X : va_W) (a0 w hw gw ch gq : Nat) (x1 : Int32) (t_a0 : T a0 = some (21, w, ch)) (t_w : isW T w hw gw) (t_ch : T ch = some (10, gq, 0)) (hO : okO T O [1, 7, 12, 15, 16, 19, 21]) : TK l D cs kf yX11_reach cX11_reach 2 (some (.int)) { frames := 6, cells := 0, slots := 0, locals := 150 } [.ref a0, .int x1] T O X (Ti D cs (fun r u => u = (T, O, X) ∧ -2 ≤ r.toInt ∧ r.toInt ≤ 16383)) := by
  refine tk_of (by decide) (Nat.le_of_ble_eq_true rfl) (fun p e s m below meth c ls A H locs hx hb hr hml hown hts hlocks hnm hkb hH hS hA hOX hks hE hl => ?_)
  have hown : s.vm.findClass RX11 = some m.cls := hown
  have hl : lv_has ls 2 [(0, .ref a0), (1, .int x1)] := hl
  have b1_w := t_w.2.1
  have b2_w := t_w.2.2
  refine lv_aload_n hx hb dX11_reach_0 rfl (lv_at hl 0 rfl) ?_
  refine lv_iload_n hx hb dX11_reach_1 rfl (lv_at hl 1 rfl) ?_
  refine tk_i hH hS hA (tr_V (n := 1) (As := [.int x1]) hx hb hml hown hts hkb hH hOX hks hE hS hA (s_FW_isGuide l D cs kf T O X a0 w hw gw ch gq x1 t_a0 t_w t_ch (hO.sub (by decide))) kw_794 kw_796 ks_20 kw_1 kw_797 (by decide +kernel) ⟨Nat.le_of_ble_eq_true rfl, Nat.le_of_ble_eq_true rfl⟩ (HT.recv (ci := 11) hkb hH t_a0 (hO.no t_a0 (by decide)) rfl) rfl rfl hl.1 (Nat.le_of_ble_eq_true rfl) dX11_reach_2 ⟨Nat.le_of_ble_eq_true rfl, Nat.le_of_ble_eq_true rfl⟩) (fun v2 u H locs hz9 hH hS => ?_)
  obtain ⟨rfl, l_v2, u_v2, x_v20⟩ := hz9
  have hH : HT D cs A T O X H := hH
  refine W.widen (k := 0) (n := 0) (Nat.le_of_ble_eq_true rfl) (Nat.le_of_ble_eq_true rfl) ?_
  have J25 : ∀ (k25_0 : Int32) (H : Heap) (locs : List Loc) (ls : Array Slot), (-2 ≤ k25_0.toInt) → (k25_0.toInt ≤ 16383) → HT D cs A T O X H → va_S A s.heap H locs → lv_has ls 2 [] → W p l e { frames := 6, cells := 0, slots := 0, locals := 150 } s m [.ref a0, .int x1].toArray below meth c H locs 0 0 (MQ below (Ti D cs (fun r u => u = (T, O, X) ∧ -2 ≤ r.toInt ∧ r.toInt ≤ 16383) A) [.ref a0, .int x1].toArray s 0 0 A) (F0 m 25 ls [.int k25_0]) := by
    intro k25_0 H locs ls l_k25_0 u_k25_0 hH hS hl
    exact te_i hx hb hr hlocks hH hS (⟨rfl, by omega, by omega⟩) dX11_reach_25
  refine lv_if_eq (tgt := 23) hx hb dX11_reach_5 (by decide) (fun c5 => ?_) (fun c5 => ?_)
  · skip
    have tc5 := f_eq (k := 0) (by decide) c5
    refine lv_bipush (v := (-2)) hx hb dX11_reach_23 (by decide) ?_
    exact J25 (-2) _ _ _ (by decide) (by decide) hH hS (lv_sub hl [] rfl)
  · skip
    have tc5 := f_ne (k := 0) (by decide) c5
    refine lv_aload_n hx hb dX11_reach_8 rfl (lv_at hl 0 rfl) ?_
    refine lv_iload_n hx hb dX11_reach_9 rfl (lv_at hl 1 rfl) ?_
    refine tk_r hH hS hA (tr_V (n := 1) (As := [.int x1]) hx hb hml hown hts hkb hH hOX hks hE hS hA (s_FW_rowsOf l D cs kf T O X a0 w hw gw ch gq x1 t_a0 t_w t_ch (by omega) (by omega) (hO.sub (by decide))) kw_830 kw_832 ks_21 kw_1 kw_833 (by decide +kernel) ⟨Nat.le_of_ble_eq_true rfl, Nat.le_of_ble_eq_true rfl⟩ (HT.recv (ci := 11) hkb hH t_a0 (hO.no t_a0 (by decide)) rfl) rfl rfl hl.1 (Nat.le_of_ble_eq_true rfl) dX11_reach_10 ⟨Nat.le_of_ble_eq_true rfl, Nat.le_of_ble_eq_true rfl⟩) (fun v10 u H locs hz9 hH hS => ?_)
    obtain ⟨hu9, t_v10⟩ := hz9
    have hu9 : u = (T, O, X) := hu9
    subst hu9
    have hH : HT D cs A T O X H := hH
    refine W.widen (k := 0) (n := 0) (Nat.le_of_ble_eq_true rfl) (Nat.le_of_ble_eq_true rfl) ?_
    refine lv_aload_n hx hb dX11_reach_13 rfl (lv_at hl 0 rfl) ?_
    refine tk_i hH hS hA (tr_V (n := 0) (As := []) hx hb hml hown hts hkb hH hOX hks hE hS hA (s_FW_openNow l D cs kf T O X a0 w hw gw ch gq t_a0 t_w t_ch (hO.sub (by decide))) kw_846 kw_848 ks_22 kw_1 kw_849 (by decide +kernel) ⟨Nat.le_of_ble_eq_true rfl, Nat.le_of_ble_eq_true rfl⟩ (HT.recv (ci := 11) hkb hH t_a0 (hO.no t_a0 (by decide)) rfl) rfl rfl hl.1 (Nat.le_of_ble_eq_true rfl) dX11_reach_14 ⟨Nat.le_of_ble_eq_true rfl, Nat.le_of_ble_eq_true rfl⟩) (fun v14 u H locs hz9 hH hS => ?_)
    obtain ⟨rfl, l_v14, u_v14⟩ := hz9
    have hH : HT D cs A T O X H := hH
    refine W.widen (k := 0) (n := 0) (Nat.le_of_ble_eq_true rfl) (Nat.le_of_ble_eq_true rfl) ?_
    refine tk_i hH hS hA (tr_V (n := 1) (As := [.int v14]) hx hb hml hown hts hkb hH hOX hks hE hS hA (s_Rows_reached l D cs kf T O X v10 v14 t_v10 (hO.sub (by decide))) kw_850 kw_851 kw_852 kw_8 kw_853 (by decide +kernel) ⟨Nat.le_of_ble_eq_true rfl, Nat.le_of_ble_eq_true rfl⟩ (HT.recv (ci := 5) hkb hH t_v10 (hO.no t_v10 (by decide)) rfl) rfl rfl hl.1 (Nat.le_of_ble_eq_true rfl) dX11_reach_17 ⟨Nat.le_of_ble_eq_true rfl, Nat.le_of_ble_eq_true rfl⟩) (fun v17 u H locs hz9 hH hS => ?_)
    obtain ⟨rfl, l_v17, u_v17⟩ := hz9
    have hH : HT D cs A T O X H := hH
    refine W.widen (k := 0) (n := 0) (Nat.le_of_ble_eq_true rfl) (Nat.le_of_ble_eq_true rfl) ?_
    refine lv_goto (tgt := 25) hx hb dX11_reach_20 (by decide) ?_
    exact J25 v17 _ _ _ (by omega) (by omega) hH hS (lv_sub hl [] rfl)
