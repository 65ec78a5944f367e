set_option maxHeartbeats 4000000 in
set_option maxRecDepth 100000 in
theorem s_FW_hold (l : Launch) (D : va_G) (cs : CS) (kf : KF) (T : TF) (O : List Nat) (X : va_W) (a0 w hw gw ch gq : Nat) (x1 : Int32) (x2 : Int32) (t_a0 : T a0 = some (21, w, ch)) (t_w : isW T w hw gw) (t_ch : T ch = some (10, gq, 0)) (hO : okO T O [1, 16, 19, 21]) : TK l D cs kf yX11_hold cX11_hold 3 (some (.int)) { frames := 3, cells := 0, slots := 0, locals := 65 } [.ref a0, .int x1, .int x2] T O X (Ti D cs (fun r u => u = (T, O, X))) := by
  refine tk_of (by decide) (Nat.le_of_ble_eq_true rfl) (fun p e s m below meth c ls A H locs hx hb hr hml hown hts hlocks hnm hkb hH hS hA hOX hks hE hl => ?_)
  have hown : s.vm.findClass RX11 = some m.cls := hown
  have hl : lv_has ls 3 [(0, .ref a0), (1, .int x1), (2, .int x2)] := hl
  have b1_w := t_w.2.1
  have b2_w := t_w.2.2
  refine lv_aload_n hx hb dX11_hold_0 rfl (lv_at hl 0 rfl) ?_
  refine lv_iload_n hx hb dX11_hold_1 rfl (lv_at hl 1 rfl) ?_
  refine tk_i hH hS hA (tr_V (n := 1) (As := [.int x1]) hx hb hml hown hts hkb hH hOX hks hE hS hA (s_FW_isHold l D cs kf T O X a0 w hw gw ch gq x1 t_a0 t_w t_ch (hO.sub (by decide))) kw_770 kw_772 ks_17 kw_1 kw_773 (by decide +kernel) ⟨Nat.le_of_ble_eq_true rfl, Nat.le_of_ble_eq_true rfl⟩ (HT.recv (ci := 11) hkb hH t_a0 (hO.no t_a0 (by decide)) rfl) rfl rfl hl.1 (Nat.le_of_ble_eq_true rfl) dX11_hold_2 ⟨Nat.le_of_ble_eq_true rfl, Nat.le_of_ble_eq_true rfl⟩) (fun v2 u H locs hz9 hH hS => ?_)
  obtain ⟨rfl, l_v2, u_v2, x_v20⟩ := hz9
  have hH : HT D cs A T O X H := hH
  refine W.widen (k := 0) (n := 0) (Nat.le_of_ble_eq_true rfl) (Nat.le_of_ble_eq_true rfl) ?_
  refine lv_if_ne (tgt := 11) hx hb dX11_hold_5 (by decide) (fun c5 => ?_) (fun c5 => ?_)
  · skip
    have tc5 := f_ne (k := 0) (by decide) c5
    refine lv_iload_n hx hb dX11_hold_11 rfl (lv_at hl 2 rfl) ?_
    by_cases c12_0 : x2 = 0
    · skip
      refine lv_topc c12_0 ?_
      have tc12_0 := f_eq (k := 0) (by decide) c12_0
      refine lv_tableIn (off := 56) (tgt := 68) hx hb dX11_hold_12 (by decide) (by decide) (by decide) (by decide) ?_
      refine lv_aload_n hx hb dX11_hold_68 rfl (lv_at hl 0 rfl) ?_
      refine t_get (ci := 11) (lst := ft11 w ch) (C := RX11) (F := TX11) (N := 20) hx hb hts uX11 hown hkb hH t_a0 (hO.no t_a0 (by decide)) (fun _ h9 => h9) rfl rfl 3 (by decide) rfl kw_363 (fun _ h9 => h9) dX11_hold_69 (fun v9 h9 => ?_)
      have h9 : v9 = .ref w := h9
      subst h9
      refine t_get (ci := 9) (lst := ft9w hw gw) (C := RX9) (F := TX9) (N := 14) hx hb hts uX9 hown hkb hH t_w.1 (hO.no t_w.1 (by decide)) (fun fs => (ob9w t_w fs).mp) rfl rfl 6 (by decide) rfl kw_134 (fun _ h9 => h9) dX11_hold_72 (fun v9 h9 => ?_)
      obtain ⟨v72, rfl, t_v72⟩ := h9
      refine lv_iload_n hx hb dX11_hold_75 rfl (lv_at hl 1 rfl) ?_
      refine t_ild hx hb hkb hH t_v72 (hO.no t_v72 (by decide)) (by omega) (by omega) dX11_hold_76 (fun v76 h9 => ?_)
      exact te_i hx hb hr hlocks hH hS (rfl) dX11_hold_77
    have tc12_0 := f_ne (k := 0) (by decide) c12_0
    by_cases c12_1 : x2 = 1
    · skip
      refine lv_topc c12_1 ?_
      have tc12_1 := f_eq (k := 1) (by decide) c12_1
      refine lv_tableIn (off := 66) (tgt := 78) hx hb dX11_hold_12 (by decide) (by decide) (by decide) (by decide) ?_
      refine lv_aload_n hx hb dX11_hold_78 rfl (lv_at hl 0 rfl) ?_
      refine t_get (ci := 11) (lst := ft11 w ch) (C := RX11) (F := TX11) (N := 20) hx hb hts uX11 hown hkb hH t_a0 (hO.no t_a0 (by decide)) (fun _ h9 => h9) rfl rfl 3 (by decide) rfl kw_363 (fun _ h9 => h9) dX11_hold_79 (fun v9 h9 => ?_)
      have h9 : v9 = .ref w := h9
      subst h9
      refine t_get (ci := 9) (lst := ft9w hw gw) (C := RX9) (F := TX9) (N := 14) hx hb hts uX9 hown hkb hH t_w.1 (hO.no t_w.1 (by decide)) (fun fs => (ob9w t_w fs).mp) rfl rfl 7 (by decide) rfl kw_137 (fun _ h9 => h9) dX11_hold_82 (fun v9 h9 => ?_)
      obtain ⟨v82, rfl, t_v82⟩ := h9
      refine lv_iload_n hx hb dX11_hold_85 rfl (lv_at hl 1 rfl) ?_
      refine t_ild hx hb hkb hH t_v82 (hO.no t_v82 (by decide)) (by omega) (by omega) dX11_hold_86 (fun v86 h9 => ?_)
      exact te_i hx hb hr hlocks hH hS (rfl) dX11_hold_87
    have tc12_1 := f_ne (k := 1) (by decide) c12_1
    by_cases c12_2 : x2 = 2
    · skip
      refine lv_topc c12_2 ?_
      have tc12_2 := f_eq (k := 2) (by decide) c12_2
      refine lv_tableIn (off := 76) (tgt := 88) hx hb dX11_hold_12 (by decide) (by decide) (by decide) (by decide) ?_
      refine lv_aload_n hx hb dX11_hold_88 rfl (lv_at hl 0 rfl) ?_
      refine t_get (ci := 11) (lst := ft11 w ch) (C := RX11) (F := TX11) (N := 20) hx hb hts uX11 hown hkb hH t_a0 (hO.no t_a0 (by decide)) (fun _ h9 => h9) rfl rfl 3 (by decide) rfl kw_363 (fun _ h9 => h9) dX11_hold_89 (fun v9 h9 => ?_)
      have h9 : v9 = .ref w := h9
      subst h9
      refine t_get (ci := 9) (lst := ft9w hw gw) (C := RX9) (F := TX9) (N := 14) hx hb hts uX9 hown hkb hH t_w.1 (hO.no t_w.1 (by decide)) (fun fs => (ob9w t_w fs).mp) rfl rfl 3 (by decide) rfl kw_122 (fun _ h9 => h9) dX11_hold_92 (fun v9 h9 => ?_)
      obtain ⟨v92, rfl, l_v92, u_v92⟩ := h9
      refine lv_iload_n hx hb dX11_hold_95 rfl (lv_at hl 1 rfl) ?_
      refine lv_ishr hx hb dX11_hold_96 ?_
      refine lv_topi (fun v96 ev96 => ?_)
      have tv96 : 0 ≤ v96.toInt ∧ v96.toInt ≤ v92.toInt := by rw [ev96]; exact shr_b (by omega)
      refine lv_iconst (v := 1) hx hb dX11_hold_97 (by decide) ?_
      refine lv_iand hx hb dX11_hold_98 ?_
      refine lv_topi (fun v98 ev98 => ?_)
      have tv98 : 0 ≤ v98.toInt ∧ v98.toInt ≤ 1 := by rw [ev98]; exact and_r (by decide)
      exact te_i hx hb hr hlocks hH hS (rfl) dX11_hold_99
    have tc12_2 := f_ne (k := 2) (by decide) c12_2
    by_cases c12_3 : x2 = 3
    · skip
      refine lv_topc c12_3 ?_
      have tc12_3 := f_eq (k := 3) (by decide) c12_3
      refine lv_tableIn (off := 88) (tgt := 100) hx hb dX11_hold_12 (by decide) (by decide) (by decide) (by decide) ?_
      refine lv_aload_n hx hb dX11_hold_100 rfl (lv_at hl 0 rfl) ?_
      refine t_get (ci := 11) (lst := ft11 w ch) (C := RX11) (F := TX11) (N := 20) hx hb hts uX11 hown hkb hH t_a0 (hO.no t_a0 (by decide)) (fun _ h9 => h9) rfl rfl 3 (by decide) rfl kw_363 (fun _ h9 => h9) dX11_hold_101 (fun v9 h9 => ?_)
      have h9 : v9 = .ref w := h9
      subst h9
      refine t_get (ci := 9) (lst := ft9w hw gw) (C := RX9) (F := TX9) (N := 14) hx hb hts uX9 hown hkb hH t_w.1 (hO.no t_w.1 (by decide)) (fun fs => (ob9w t_w fs).mp) rfl rfl 4 (by decide) rfl kw_128 (fun _ h9 => h9) dX11_hold_104 (fun v9 h9 => ?_)
      obtain ⟨v104, rfl, l_v104, u_v104⟩ := h9
      refine lv_iload_n hx hb dX11_hold_107 rfl (lv_at hl 1 rfl) ?_
      refine lv_ishr hx hb dX11_hold_108 ?_
      refine lv_topi (fun v108 ev108 => ?_)
      have tv108 : 0 ≤ v108.toInt ∧ v108.toInt ≤ v104.toInt := by rw [ev108]; exact shr_b (by omega)
      refine lv_iconst (v := 1) hx hb dX11_hold_109 (by decide) ?_
      refine lv_iand hx hb dX11_hold_110 ?_
      refine lv_topi (fun v110 ev110 => ?_)
      have tv110 : 0 ≤ v110.toInt ∧ v110.toInt ≤ 1 := by rw [ev110]; exact and_r (by decide)
      exact te_i hx hb hr hlocks hH hS (rfl) dX11_hold_111
    have tc12_3 := f_ne (k := 3) (by decide) c12_3
    by_cases c12_4 : x2 = 4
    · skip
      refine lv_topc c12_4 ?_
      have tc12_4 := f_eq (k := 4) (by decide) c12_4
      refine lv_tableIn (off := 100) (tgt := 112) hx hb dX11_hold_12 (by decide) (by decide) (by decide) (by decide) ?_
      refine lv_aload_n hx hb dX11_hold_112 rfl (lv_at hl 0 rfl) ?_
      refine lv_aload_n hx hb dX11_hold_113 rfl (lv_at hl 0 rfl) ?_
      refine t_get (ci := 11) (lst := ft11 w ch) (C := RX11) (F := TX11) (N := 20) hx hb hts uX11 hown hkb hH t_a0 (hO.no t_a0 (by decide)) (fun _ h9 => h9) rfl rfl 4 (by decide) rfl kw_364 (fun _ h9 => h9) dX11_hold_114 (fun v9 h9 => ?_)
      obtain ⟨v114, rfl, t_v114⟩ := h9
      refine t_get (ci := 6) (lst := ft6 0 0) (C := RX6) (F := TX6) (N := 6) hx hb hts uX6 hown hkb hH t_v114 (hO.no t_v114 (by decide)) (fun _ h9 => h9) rfl rfl 2 (by decide) rfl kw_191 (fun _ h9 => h9) dX11_hold_117 (fun v9 h9 => ?_)
      obtain ⟨v117, rfl⟩ := h9
      refine tk_i hH hS hA (tr_V (n := 1) (As := [.int v117]) hx hb hml hown hts hkb hH hOX hks hE hS hA (s_FW_thereOn l D cs kf T O X a0 w hw gw ch gq v117 t_a0 t_w t_ch (hO.sub (by decide))) kw_774 kw_776 ks_18 kw_1 kw_777 (by decide +kernel) ⟨Nat.le_of_ble_eq_true rfl, Nat.le_of_ble_eq_true rfl⟩ (HT.recv (ci := 11) hkb hH t_a0 (hO.no t_a0 (by decide)) rfl) rfl rfl hl.1 (Nat.le_of_ble_eq_true rfl) dX11_hold_120 ⟨Nat.le_of_ble_eq_true rfl, Nat.le_of_ble_eq_true rfl⟩) (fun v120 u H locs hz9 hH hS => ?_)
      obtain ⟨rfl, l_v120, u_v120⟩ := hz9
      have hH : HT D cs A T O X H := hH
      refine W.widen (k := 0) (n := 0) (Nat.le_of_ble_eq_true rfl) (Nat.le_of_ble_eq_true rfl) ?_
      refine lv_iload_n hx hb dX11_hold_123 rfl (lv_at hl 1 rfl) ?_
      refine lv_ishr hx hb dX11_hold_124 ?_
      refine lv_topi (fun v124 ev124 => ?_)
      have tv124 : 0 ≤ v124.toInt ∧ v124.toInt ≤ v120.toInt := by rw [ev124]; exact shr_b (by omega)
      refine lv_iconst (v := 1) hx hb dX11_hold_125 (by decide) ?_
      refine lv_iand hx hb dX11_hold_126 ?_
      refine lv_topi (fun v126 ev126 => ?_)
      have tv126 : 0 ≤ v126.toInt ∧ v126.toInt ≤ 1 := by rw [ev126]; exact and_r (by decide)
      exact te_i hx hb hr hlocks hH hS (rfl) dX11_hold_127
    have tc12_4 := f_ne (k := 4) (by decide) c12_4
    by_cases c12_5 : x2 = 5
    · skip
      refine lv_topc c12_5 ?_
      have tc12_5 := f_eq (k := 5) (by decide) c12_5
      refine lv_tableIn (off := 116) (tgt := 128) hx hb dX11_hold_12 (by decide) (by decide) (by decide) (by decide) ?_
      refine lv_aload_n hx hb dX11_hold_128 rfl (lv_at hl 0 rfl) ?_
      refine lv_aload_n hx hb dX11_hold_129 rfl (lv_at hl 0 rfl) ?_
      refine t_get (ci := 11) (lst := ft11 w ch) (C := RX11) (F := TX11) (N := 20) hx hb hts uX11 hown hkb hH t_a0 (hO.no t_a0 (by decide)) (fun _ h9 => h9) rfl rfl 4 (by decide) rfl kw_364 (fun _ h9 => h9) dX11_hold_130 (fun v9 h9 => ?_)
      obtain ⟨v130, rfl, t_v130⟩ := h9
      refine t_get (ci := 6) (lst := ft6 0 0) (C := RX6) (F := TX6) (N := 6) hx hb hts uX6 hown hkb hH t_v130 (hO.no t_v130 (by decide)) (fun _ h9 => h9) rfl rfl 2 (by decide) rfl kw_191 (fun _ h9 => h9) dX11_hold_133 (fun v9 h9 => ?_)
      obtain ⟨v133, rfl⟩ := h9
      refine tk_i hH hS hA (tr_V (n := 1) (As := [.int v133]) hx hb hml hown hts hkb hH hOX hks hE hS hA (s_FW_openOn l D cs kf T O X a0 w hw gw ch gq v133 t_a0 t_w t_ch (hO.sub (by decide))) kw_782 kw_784 ks_19 kw_1 kw_785 (by decide +kernel) ⟨Nat.le_of_ble_eq_true rfl, Nat.le_of_ble_eq_true rfl⟩ (HT.recv (ci := 11) hkb hH t_a0 (hO.no t_a0 (by decide)) rfl) rfl rfl hl.1 (Nat.le_of_ble_eq_true rfl) dX11_hold_136 ⟨Nat.le_of_ble_eq_true rfl, Nat.le_of_ble_eq_true rfl⟩) (fun v136 u H locs hz9 hH hS => ?_)
      obtain ⟨rfl, l_v136, u_v136⟩ := hz9
      have hH : HT D cs A T O X H := hH
      refine W.widen (k := 0) (n := 0) (Nat.le_of_ble_eq_true rfl) (Nat.le_of_ble_eq_true rfl) ?_
      refine lv_iload_n hx hb dX11_hold_139 rfl (lv_at hl 1 rfl) ?_
      refine lv_ishr hx hb dX11_hold_140 ?_
      refine lv_topi (fun v140 ev140 => ?_)
      have tv140 : 0 ≤ v140.toInt ∧ v140.toInt ≤ v136.toInt := by rw [ev140]; exact shr_b (by omega)
      refine lv_iconst (v := 1) hx hb dX11_hold_141 (by decide) ?_
      refine lv_iand hx hb dX11_hold_142 ?_
      refine lv_topi (fun v142 ev142 => ?_)
      have tv142 : 0 ≤ v142.toInt ∧ v142.toInt ≤ 1 := by rw [ev142]; exact and_r (by decide)
      exact te_i hx hb hr hlocks hH hS (rfl) dX11_hold_143
    have tc12_5 := f_ne (k := 5) (by decide) c12_5
    by_cases c12_6 : x2 = 6
    · skip
      refine lv_topc c12_6 ?_
      have tc12_6 := f_eq (k := 6) (by decide) c12_6
      refine lv_tableIn (off := 132) (tgt := 144) hx hb dX11_hold_12 (by decide) (by decide) (by decide) (by decide) ?_
      refine lv_aload_n hx hb dX11_hold_144 rfl (lv_at hl 0 rfl) ?_
      refine t_get (ci := 11) (lst := ft11 w ch) (C := RX11) (F := TX11) (N := 20) hx hb hts uX11 hown hkb hH t_a0 (hO.no t_a0 (by decide)) (fun _ h9 => h9) rfl rfl 4 (by decide) rfl kw_364 (fun _ h9 => h9) dX11_hold_145 (fun v9 h9 => ?_)
      obtain ⟨v145, rfl, t_v145⟩ := h9
      refine lv_iload_n hx hb dX11_hold_148 rfl (lv_at hl 1 rfl) ?_
      refine tk_i hH hS hA (tr_V (n := 1) (As := [.int x1]) hx hb hml hown hts hkb hH hOX hks hE hS hA (s_State_isUsed l D cs kf T O X v145 x1 t_v145 (hO.sub (by decide))) kw_786 kw_787 kw_788 kw_7 kw_789 (by decide +kernel) ⟨Nat.le_of_ble_eq_true rfl, Nat.le_of_ble_eq_true rfl⟩ (HT.recv (ci := 6) hkb hH t_v145 (hO.no t_v145 (by decide)) rfl) rfl rfl hl.1 (Nat.le_of_ble_eq_true rfl) dX11_hold_149 ⟨Nat.le_of_ble_eq_true rfl, Nat.le_of_ble_eq_true rfl⟩) (fun v149 u H locs hz9 hH hS => ?_)
      obtain ⟨rfl, l_v149, u_v149⟩ := hz9
      have hH : HT D cs A T O X H := hH
      refine W.widen (k := 0) (n := 0) (Nat.le_of_ble_eq_true rfl) (Nat.le_of_ble_eq_true rfl) ?_
      have J168 : ∀ (k168_0 : Int32) (H : Heap) (locs : List Loc) (ls : Array Slot), HT D cs A T O X H → va_S A s.heap H locs → lv_has ls 3 [] → W p l e { frames := 3, cells := 0, slots := 0, locals := 65 } s m [.ref a0, .int x1, .int x2].toArray below meth c H locs 0 0 (MQ below (Ti D cs (fun r u => u = (T, O, X)) A) [.ref a0, .int x1, .int x2].toArray s 0 0 A) (F0 m 168 ls [.int k168_0]) := by
        intro k168_0 H locs ls  hH hS hl
        exact te_i hx hb hr hlocks hH hS (rfl) dX11_hold_168
      refine lv_if_eq (tgt := 167) hx hb dX11_hold_152 (by decide) (fun c152 => ?_) (fun c152 => ?_)
      · skip
        have tc152 := f_eq (k := 0) (by decide) c152
        refine lv_iconst (v := (-1)) hx hb dX11_hold_167 (by decide) ?_
        exact J168 (-1) _ _ _  hH hS (lv_sub hl [] rfl)
      · skip
        have tc152 := f_ne (k := 0) (by decide) c152
        refine lv_aload_n hx hb dX11_hold_155 rfl (lv_at hl 0 rfl) ?_
        refine t_get (ci := 11) (lst := ft11 w ch) (C := RX11) (F := TX11) (N := 20) hx hb hts uX11 hown hkb hH t_a0 (hO.no t_a0 (by decide)) (fun _ h9 => h9) rfl rfl 4 (by decide) rfl kw_364 (fun _ h9 => h9) dX11_hold_156 (fun v9 h9 => ?_)
        obtain ⟨v156, rfl, t_v156⟩ := h9
        refine t_get (ci := 6) (lst := ft6 0 0) (C := RX6) (F := TX6) (N := 6) hx hb hts uX6 hown hkb hH t_v156 (hO.no t_v156 (by decide)) (fun _ h9 => h9) rfl rfl 4 (by decide) rfl kw_195 (fun _ h9 => h9) dX11_hold_159 (fun v9 h9 => ?_)
        obtain ⟨v159, rfl, t_v159⟩ := h9
        refine lv_iload_n hx hb dX11_hold_162 rfl (lv_at hl 1 rfl) ?_
        refine t_ild hx hb hkb hH t_v159 (hO.no t_v159 (by decide)) (by omega) (by omega) dX11_hold_163 (fun v163 h9 => ?_)
        refine lv_goto (tgt := 168) hx hb dX11_hold_164 (by decide) ?_
        exact J168 v163 _ _ _  hH hS (lv_sub hl [] rfl)
    have tc12_6 := f_ne (k := 6) (by decide) c12_6
    by_cases c12_7 : x2 = 7
    · skip
      refine lv_topc c12_7 ?_
      have tc12_7 := f_eq (k := 7) (by decide) c12_7
      refine lv_tableIn (off := 157) (tgt := 169) hx hb dX11_hold_12 (by decide) (by decide) (by decide) (by decide) ?_
      refine lv_aload_n hx hb dX11_hold_169 rfl (lv_at hl 0 rfl) ?_
      refine t_get (ci := 11) (lst := ft11 w ch) (C := RX11) (F := TX11) (N := 20) hx hb hts uX11 hown hkb hH t_a0 (hO.no t_a0 (by decide)) (fun _ h9 => h9) rfl rfl 4 (by decide) rfl kw_364 (fun _ h9 => h9) dX11_hold_170 (fun v9 h9 => ?_)
      obtain ⟨v170, rfl, t_v170⟩ := h9
      refine lv_iload_n hx hb dX11_hold_173 rfl (lv_at hl 1 rfl) ?_
      refine tk_i hH hS hA (tr_V (n := 1) (As := [.int x1]) hx hb hml hown hts hkb hH hOX hks hE hS hA (s_State_isUsed l D cs kf T O X v170 x1 t_v170 (hO.sub (by decide))) kw_786 kw_787 kw_788 kw_7 kw_789 (by decide +kernel) ⟨Nat.le_of_ble_eq_true rfl, Nat.le_of_ble_eq_true rfl⟩ (HT.recv (ci := 6) hkb hH t_v170 (hO.no t_v170 (by decide)) rfl) rfl rfl hl.1 (Nat.le_of_ble_eq_true rfl) dX11_hold_174 ⟨Nat.le_of_ble_eq_true rfl, Nat.le_of_ble_eq_true rfl⟩) (fun v174 u H locs hz9 hH hS => ?_)
      obtain ⟨rfl, l_v174, u_v174⟩ := hz9
      have hH : HT D cs A T O X H := hH
      refine W.widen (k := 0) (n := 0) (Nat.le_of_ble_eq_true rfl) (Nat.le_of_ble_eq_true rfl) ?_
      have J193 : ∀ (k193_0 : Int32) (H : Heap) (locs : List Loc) (ls : Array Slot), HT D cs A T O X H → va_S A s.heap H locs → lv_has ls 3 [] → W p l e { frames := 3, cells := 0, slots := 0, locals := 65 } s m [.ref a0, .int x1, .int x2].toArray below meth c H locs 0 0 (MQ below (Ti D cs (fun r u => u = (T, O, X)) A) [.ref a0, .int x1, .int x2].toArray s 0 0 A) (F0 m 193 ls [.int k193_0]) := by
        intro k193_0 H locs ls  hH hS hl
        exact te_i hx hb hr hlocks hH hS (rfl) dX11_hold_193
      refine lv_if_eq (tgt := 192) hx hb dX11_hold_177 (by decide) (fun c177 => ?_) (fun c177 => ?_)
      · skip
        have tc177 := f_eq (k := 0) (by decide) c177
        refine lv_iconst (v := (-1)) hx hb dX11_hold_192 (by decide) ?_
        exact J193 (-1) _ _ _  hH hS (lv_sub hl [] rfl)
      · skip
        have tc177 := f_ne (k := 0) (by decide) c177
        refine lv_aload_n hx hb dX11_hold_180 rfl (lv_at hl 0 rfl) ?_
        refine t_get (ci := 11) (lst := ft11 w ch) (C := RX11) (F := TX11) (N := 20) hx hb hts uX11 hown hkb hH t_a0 (hO.no t_a0 (by decide)) (fun _ h9 => h9) rfl rfl 4 (by decide) rfl kw_364 (fun _ h9 => h9) dX11_hold_181 (fun v9 h9 => ?_)
        obtain ⟨v181, rfl, t_v181⟩ := h9
        refine t_get (ci := 6) (lst := ft6 0 0) (C := RX6) (F := TX6) (N := 6) hx hb hts uX6 hown hkb hH t_v181 (hO.no t_v181 (by decide)) (fun _ h9 => h9) rfl rfl 5 (by decide) rfl kw_197 (fun _ h9 => h9) dX11_hold_184 (fun v9 h9 => ?_)
        obtain ⟨v184, rfl, t_v184⟩ := h9
        refine lv_iload_n hx hb dX11_hold_187 rfl (lv_at hl 1 rfl) ?_
        refine t_ild hx hb hkb hH t_v184 (hO.no t_v184 (by decide)) (by omega) (by omega) dX11_hold_188 (fun v188 h9 => ?_)
        refine lv_goto (tgt := 193) hx hb dX11_hold_189 (by decide) ?_
        exact J193 v188 _ _ _  hH hS (lv_sub hl [] rfl)
    have tc12_7 := f_ne (k := 7) (by decide) c12_7
    by_cases c12_8 : x2 = 8
    · skip
      refine lv_topc c12_8 ?_
      have tc12_8 := f_eq (k := 8) (by decide) c12_8
      refine lv_tableIn (off := 182) (tgt := 194) hx hb dX11_hold_12 (by decide) (by decide) (by decide) (by decide) ?_
      refine lv_aload_n hx hb dX11_hold_194 rfl (lv_at hl 0 rfl) ?_
      refine t_get (ci := 11) (lst := ft11 w ch) (C := RX11) (F := TX11) (N := 20) hx hb hts uX11 hown hkb hH t_a0 (hO.no t_a0 (by decide)) (fun _ h9 => h9) rfl rfl 4 (by decide) rfl kw_364 (fun _ h9 => h9) dX11_hold_195 (fun v9 h9 => ?_)
      obtain ⟨v195, rfl, t_v195⟩ := h9
      refine t_get (ci := 6) (lst := ft6 0 0) (C := RX6) (F := TX6) (N := 6) hx hb hts uX6 hown hkb hH t_v195 (hO.no t_v195 (by decide)) (fun _ h9 => h9) rfl rfl 1 (by decide) rfl kw_188 (fun _ h9 => h9) dX11_hold_198 (fun v9 h9 => ?_)
      obtain ⟨v198, rfl⟩ := h9
      refine lv_iload_n hx hb dX11_hold_201 rfl (lv_at hl 1 rfl) ?_
      refine lv_ishr hx hb dX11_hold_202 ?_
      refine lv_topi (fun v202 ev202 => ?_)
      refine lv_iconst (v := 1) hx hb dX11_hold_203 (by decide) ?_
      refine lv_iand hx hb dX11_hold_204 ?_
      refine lv_topi (fun v204 ev204 => ?_)
      have tv204 : 0 ≤ v204.toInt ∧ v204.toInt ≤ 1 := by rw [ev204]; exact and_r (by decide)
      exact te_i hx hb hr hlocks hH hS (rfl) dX11_hold_205
    have tc12_8 := f_ne (k := 8) (by decide) c12_8
    by_cases c12_9 : x2 = 9
    · skip
      refine lv_topc c12_9 ?_
      have tc12_9 := f_eq (k := 9) (by decide) c12_9
      refine lv_tableIn (off := 194) (tgt := 206) hx hb dX11_hold_12 (by decide) (by decide) (by decide) (by decide) ?_
      refine lv_aload_n hx hb dX11_hold_206 rfl (lv_at hl 0 rfl) ?_
      refine t_get (ci := 11) (lst := ft11 w ch) (C := RX11) (F := TX11) (N := 20) hx hb hts uX11 hown hkb hH t_a0 (hO.no t_a0 (by decide)) (fun _ h9 => h9) rfl rfl 3 (by decide) rfl kw_363 (fun _ h9 => h9) dX11_hold_207 (fun v9 h9 => ?_)
      have h9 : v9 = .ref w := h9
      subst h9
      refine t_get (ci := 9) (lst := ft9w hw gw) (C := RX9) (F := TX9) (N := 14) hx hb hts uX9 hown hkb hH t_w.1 (hO.no t_w.1 (by decide)) (fun fs => (ob9w t_w fs).mp) rfl rfl 8 (by decide) rfl kw_140 (fun _ h9 => h9) dX11_hold_210 (fun v9 h9 => ?_)
      obtain ⟨v210, rfl, t_v210⟩ := h9
      refine lv_iload_n hx hb dX11_hold_213 rfl (lv_at hl 1 rfl) ?_
      refine t_ild hx hb hkb hH t_v210 (hO.no t_v210 (by decide)) (by omega) (by omega) dX11_hold_214 (fun v214 h9 => ?_)
      exact te_i hx hb hr hlocks hH hS (rfl) dX11_hold_215
    have tc12_9 := f_ne (k := 9) (by decide) c12_9
    refine lv_tableOut (tgt := 216) hx hb dX11_hold_12 (by omega) (by decide) ?_
    refine lv_bipush (v := (-8)) hx hb dX11_hold_216 (by decide) ?_
    exact te_i hx hb hr hlocks hH hS (rfl) dX11_hold_218
  · skip
    have tc5 := f_eq (k := 0) (by decide) c5
    refine lv_bipush (v := (-8)) hx hb dX11_hold_8 (by decide) ?_
    exact te_i hx hb hr hlocks hH hS (rfl) dX11_hold_10
set_option maxHeartbeats 4000000 in
set_option maxRecDepth 100000 in
theorem s_FW_guide (l : Launch) (D : va_G) (cs : CS) (kf : KF) (T : TF) (O : List Nat) (X : va_W) (a0 w hw gw ch gq : Nat) (x1 : Int32) (x2 : Int32) (t_a0 : T a0 = some (21, w, ch)) (t_w : isW T w hw gw) (t_ch : T ch = some (10, gq, 0)) (hO : okO T O [1, 16, 19, 21]) : TK l D cs kf yX11_guide cX11_guide 3 (some (.int)) { frames := 2, cells := 0, slots := 0, locals := 44 } [.ref a0, .int x1, .int x2] T O X (Ti D cs (fun r u => u = (T, O, X))) := by
  refine tk_of (by decide) (Nat.le_of_ble_eq_true rfl) (fun p e s m below meth c ls A H locs hx hb hr hml hown hts hlocks hnm hkb hH hS hA hOX hks hE hl => ?_)
  have hown : s.vm.findClass RX11 = some m.cls := hown
  have hl : lv_has ls 3 [(0, .ref a0), (1, .int x1), (2, .int x2)] := hl
  have b1_w := t_w.2.1
  have b2_w := t_w.2.2
  refine lv_aload_n hx hb dX11_guide_0 rfl (lv_at hl 0 rfl) ?_
  refine lv_iload_n hx hb dX11_guide_1 rfl (lv_at hl 1 rfl) ?_
  refine tk_i hH hS hA (tr_V (n := 1) (As := [.int x1]) hx hb hml hown hts hkb hH hOX hks hE hS hA (s_FW_isGuide l D cs kf T O X a0 w hw gw ch gq x1 t_a0 t_w t_ch (hO.sub (by decide))) kw_794 kw_796 ks_20 kw_1 kw_797 (by decide +kernel) ⟨Nat.le_of_ble_eq_true rfl, Nat.le_of_ble_eq_true rfl⟩ (HT.recv (ci := 11) hkb hH t_a0 (hO.no t_a0 (by decide)) rfl) rfl rfl hl.1 (Nat.le_of_ble_eq_true rfl) dX11_guide_2 ⟨Nat.le_of_ble_eq_true rfl, Nat.le_of_ble_eq_true rfl⟩) (fun v2 u H locs hz9 hH hS => ?_)
  obtain ⟨rfl, l_v2, u_v2, x_v20⟩ := hz9
  have hH : HT D cs A T O X H := hH
  refine W.widen (k := 0) (n := 0) (Nat.le_of_ble_eq_true rfl) (Nat.le_of_ble_eq_true rfl) ?_
  refine lv_if_ne (tgt := 11) hx hb dX11_guide_5 (by decide) (fun c5 => ?_) (fun c5 => ?_)
  · skip
    have tc5 := f_ne (k := 0) (by decide) c5
    refine lv_iload_n hx hb dX11_guide_11 rfl (lv_at hl 2 rfl) ?_
    by_cases c12_0 : x2 = 0
    · skip
      refine lv_topc c12_0 ?_
      have tc12_0 := f_eq (k := 0) (by decide) c12_0
      refine lv_tableIn (off := 28) (tgt := 40) hx hb dX11_guide_12 (by decide) (by decide) (by decide) (by decide) ?_
      refine lv_aload_n hx hb dX11_guide_40 rfl (lv_at hl 0 rfl) ?_
      refine t_get (ci := 11) (lst := ft11 w ch) (C := RX11) (F := TX11) (N := 20) hx hb hts uX11 hown hkb hH t_a0 (hO.no t_a0 (by decide)) (fun _ h9 => h9) rfl rfl 3 (by decide) rfl kw_363 (fun _ h9 => h9) dX11_guide_41 (fun v9 h9 => ?_)
      have h9 : v9 = .ref w := h9
      subst h9
      refine t_get (ci := 9) (lst := ft9w hw gw) (C := RX9) (F := TX9) (N := 14) hx hb hts uX9 hown hkb hH t_w.1 (hO.no t_w.1 (by decide)) (fun fs => (ob9w t_w fs).mp) rfl rfl 9 (by decide) rfl kw_142 (fun _ h9 => h9) dX11_guide_44 (fun v9 h9 => ?_)
      obtain ⟨v44, rfl, t_v44⟩ := h9
      refine lv_iload_n hx hb dX11_guide_47 rfl (lv_at hl 1 rfl) ?_
      refine t_ild hx hb hkb hH t_v44 (hO.no t_v44 (by decide)) (by omega) (by omega) dX11_guide_48 (fun v48 h9 => ?_)
      exact te_i hx hb hr hlocks hH hS (rfl) dX11_guide_49
    have tc12_0 := f_ne (k := 0) (by decide) c12_0
    by_cases c12_1 : x2 = 1
    · skip
      refine lv_topc c12_1 ?_
      have tc12_1 := f_eq (k := 1) (by decide) c12_1
      refine lv_tableIn (off := 38) (tgt := 50) hx hb dX11_guide_12 (by decide) (by decide) (by decide) (by decide) ?_
      refine lv_aload_n hx hb dX11_guide_50 rfl (lv_at hl 0 rfl) ?_
      refine t_get (ci := 11) (lst := ft11 w ch) (C := RX11) (F := TX11) (N := 20) hx hb hts uX11 hown hkb hH t_a0 (hO.no t_a0 (by decide)) (fun _ h9 => h9) rfl rfl 3 (by decide) rfl kw_363 (fun _ h9 => h9) dX11_guide_51 (fun v9 h9 => ?_)
      have h9 : v9 = .ref w := h9
      subst h9
      refine t_get (ci := 9) (lst := ft9w hw gw) (C := RX9) (F := TX9) (N := 14) hx hb hts uX9 hown hkb hH t_w.1 (hO.no t_w.1 (by decide)) (fun fs => (ob9w t_w fs).mp) rfl rfl 10 (by decide) rfl kw_145 (fun _ h9 => h9) dX11_guide_54 (fun v9 h9 => ?_)
      obtain ⟨v54, rfl, t_v54⟩ := h9
      refine lv_iload_n hx hb dX11_guide_57 rfl (lv_at hl 1 rfl) ?_
      refine t_ild hx hb hkb hH t_v54 (hO.no t_v54 (by decide)) (by omega) (by omega) dX11_guide_58 (fun v58 h9 => ?_)
      exact te_i hx hb hr hlocks hH hS (rfl) dX11_guide_59
    have tc12_1 := f_ne (k := 1) (by decide) c12_1
    by_cases c12_2 : x2 = 2
    · skip
      refine lv_topc c12_2 ?_
      have tc12_2 := f_eq (k := 2) (by decide) c12_2
      refine lv_tableIn (off := 48) (tgt := 60) hx hb dX11_guide_12 (by decide) (by decide) (by decide) (by decide) ?_
      refine lv_aload_n hx hb dX11_guide_60 rfl (lv_at hl 0 rfl) ?_
      refine t_get (ci := 11) (lst := ft11 w ch) (C := RX11) (F := TX11) (N := 20) hx hb hts uX11 hown hkb hH t_a0 (hO.no t_a0 (by decide)) (fun _ h9 => h9) rfl rfl 4 (by decide) rfl kw_364 (fun _ h9 => h9) dX11_guide_61 (fun v9 h9 => ?_)
      obtain ⟨v61, rfl, t_v61⟩ := h9
      refine lv_iload_n hx hb dX11_guide_64 rfl (lv_at hl 1 rfl) ?_
      refine tk_i hH hS hA (tr_V (n := 1) (As := [.int x1]) hx hb hml hown hts hkb hH hOX hks hE hS hA (s_State_usedBy l D cs kf T O X v61 x1 t_v61 (hO.sub (by decide))) kw_798 kw_799 kw_800 kw_7 kw_801 (by decide +kernel) ⟨Nat.le_of_ble_eq_true rfl, Nat.le_of_ble_eq_true rfl⟩ (HT.recv (ci := 6) hkb hH t_v61 (hO.no t_v61 (by decide)) rfl) rfl rfl hl.1 (Nat.le_of_ble_eq_true rfl) dX11_guide_65 ⟨Nat.le_of_ble_eq_true rfl, Nat.le_of_ble_eq_true rfl⟩) (fun v65 u H locs hz9 hH hS => ?_)
      obtain ⟨rfl, l_v65, u_v65⟩ := hz9
      have hH : HT D cs A T O X H := hH
      refine W.widen (k := 0) (n := 0) (Nat.le_of_ble_eq_true rfl) (Nat.le_of_ble_eq_true rfl) ?_
      exact te_i hx hb hr hlocks hH hS (rfl) dX11_guide_68
    have tc12_2 := f_ne (k := 2) (by decide) c12_2
    refine lv_tableOut (tgt := 69) hx hb dX11_guide_12 (by omega) (by decide) ?_
    refine lv_bipush (v := (-2)) hx hb dX11_guide_69 (by decide) ?_
    exact te_i hx hb hr hlocks hH hS (rfl) dX11_guide_71
  · skip
    have tc5 := f_eq (k := 0) (by decide) c5
    refine lv_bipush (v := (-2)) hx hb dX11_guide_8 (by decide) ?_
    exact te_i hx hb hr hlocks hH hS (rfl) dX11_guide_10
set_option maxHeartbeats 4000000 in
set_option maxRecDepth 100000 in
theorem s_FW_steps (l : Launch) (D : va_G) (cs : CS) (kf : KF) (T : TF) (O : List Nat) (X : va_W) (a0 w hw gw ch gq : Nat) (x1 : Int32) (x2 : Int32) (x3 : Int32) (t_a0 : T a0 = some (21, w, ch)) (t_w : isW T w hw gw) (t_ch : T ch = some (10, gq, 0)) (hO : okO T O [1, 12, 16, 19, 21]) : TK l D cs kf yX11_steps cX11_steps 4 (some (.int)) { frames := 3, cells := 0, slots := 0, locals := 77 } [.ref a0, .int x1, .int x2, .int x3] T O X (Ti D cs (fun r u => u = (T, O, X) ∧ -2 ≤ r.toInt ∧ r.toInt ≤ 1)) := by
  refine tk_of (by decide) (Nat.le_of_ble_eq_true rfl) (fun p e s m below meth c ls A H locs hx hb hr hml hown hts hlocks hnm hkb hH hS hA hOX hks hE hl => ?_)
  have hown : s.vm.findClass RX11 = some m.cls := hown
  have hl : lv_has ls 4 [(0, .ref a0), (1, .int x1), (2, .int x2), (3, .int x3)] := hl
  have b1_w := t_w.2.1
  have b2_w := t_w.2.2
  refine lv_aload_n hx hb dX11_steps_0 rfl (lv_at hl 0 rfl) ?_
  refine lv_iload_n hx hb dX11_steps_1 rfl (lv_at hl 1 rfl) ?_
  refine tk_i hH hS hA (tr_V (n := 1) (As := [.int x1]) hx hb hml hown hts hkb hH hOX hks hE hS hA (s_FW_isGuide l D cs kf T O X a0 w hw gw ch gq x1 t_a0 t_w t_ch (hO.sub (by decide))) kw_794 kw_796 ks_20 kw_1 kw_797 (by decide +kernel) ⟨Nat.le_of_ble_eq_true rfl, Nat.le_of_ble_eq_true rfl⟩ (HT.recv (ci := 11) hkb hH t_a0 (hO.no t_a0 (by decide)) rfl) rfl rfl hl.1 (Nat.le_of_ble_eq_true rfl) dX11_steps_2 ⟨Nat.le_of_ble_eq_true rfl, Nat.le_of_ble_eq_true rfl⟩) (fun v2 u H locs hz9 hH hS => ?_)
  obtain ⟨rfl, l_v2, u_v2, x_v20⟩ := hz9
  have hH : HT D cs A T O X H := hH
  refine W.widen (k := 0) (n := 0) (Nat.le_of_ble_eq_true rfl) (Nat.le_of_ble_eq_true rfl) ?_
  have J29 : ∀  (H : Heap) (locs : List Loc) (ls : Array Slot), HT D cs A T O X H → va_S A s.heap H locs → lv_has ls 4 [] → W p l e { frames := 3, cells := 0, slots := 0, locals := 77 } s m [.ref a0, .int x1, .int x2, .int x3].toArray below meth c H locs 0 0 (MQ below (Ti D cs (fun r u => u = (T, O, X) ∧ -2 ≤ r.toInt ∧ r.toInt ≤ 1) A) [.ref a0, .int x1, .int x2, .int x3].toArray s 0 0 A) (F0 m 29 ls []) := by
    intro  H locs ls  hH hS hl
    refine lv_bipush (v := (-2)) hx hb dX11_steps_29 (by decide) ?_
    exact te_i hx hb hr hlocks hH hS (⟨rfl, by decide, by decide⟩) dX11_steps_31
  refine lv_if_eq (tgt := 29) hx hb dX11_steps_5 (by decide) (fun c5 => ?_) (fun c5 => ?_)
  · skip
    have tc5 := f_eq (k := 0) (by decide) c5
    exact J29  _ _ _  hH hS (lv_sub hl [] rfl)
  · skip
    have tc5 := f_ne (k := 0) (by decide) c5
    refine lv_aload_n hx hb dX11_steps_8 rfl (lv_at hl 0 rfl) ?_
    refine lv_iload_n hx hb dX11_steps_9 rfl (lv_at hl 2 rfl) ?_
    refine tk_i hH hS hA (tr_V (n := 1) (As := [.int x2]) hx hb hml hown hts hkb hH hOX hks hE hS hA (s_FW_isHold l D cs kf T O X a0 w hw gw ch gq x2 t_a0 t_w t_ch (hO.sub (by decide))) kw_770 kw_772 ks_17 kw_1 kw_773 (by decide +kernel) ⟨Nat.le_of_ble_eq_true rfl, Nat.le_of_ble_eq_true rfl⟩ (HT.recv (ci := 11) hkb hH t_a0 (hO.no t_a0 (by decide)) rfl) rfl rfl hl.1 (Nat.le_of_ble_eq_true rfl) dX11_steps_10 ⟨Nat.le_of_ble_eq_true rfl, Nat.le_of_ble_eq_true rfl⟩) (fun v10 u H locs hz9 hH hS => ?_)
    obtain ⟨rfl, l_v10, u_v10, x_v100⟩ := hz9
    have hH : HT D cs A T O X H := hH
    refine W.widen (k := 0) (n := 0) (Nat.le_of_ble_eq_true rfl) (Nat.le_of_ble_eq_true rfl) ?_
    refine lv_if_eq (tgt := 29) hx hb dX11_steps_13 (by decide) (fun c13 => ?_) (fun c13 => ?_)
    · skip
      have tc13 := f_eq (k := 0) (by decide) c13
      exact J29  _ _ _  hH hS (lv_sub hl [] rfl)
    · skip
      have tc13 := f_ne (k := 0) (by decide) c13
      refine lv_aload_n hx hb dX11_steps_16 rfl (lv_at hl 0 rfl) ?_
      refine lv_iload_n hx hb dX11_steps_17 rfl (lv_at hl 3 rfl) ?_
      refine tk_i hH hS hA (tr_V (n := 1) (As := [.int x3]) hx hb hml hown hts hkb hH hOX hks hE hS hA (s_FW_isHold l D cs kf T O X a0 w hw gw ch gq x3 t_a0 t_w t_ch (hO.sub (by decide))) kw_770 kw_772 ks_17 kw_1 kw_773 (by decide +kernel) ⟨Nat.le_of_ble_eq_true rfl, Nat.le_of_ble_eq_true rfl⟩ (HT.recv (ci := 11) hkb hH t_a0 (hO.no t_a0 (by decide)) rfl) rfl rfl hl.1 (Nat.le_of_ble_eq_true rfl) dX11_steps_18 ⟨Nat.le_of_ble_eq_true rfl, Nat.le_of_ble_eq_true rfl⟩) (fun v18 u H locs hz9 hH hS => ?_)
      obtain ⟨rfl, l_v18, u_v18, x_v180⟩ := hz9
      have hH : HT D cs A T O X H := hH
      refine W.widen (k := 0) (n := 0) (Nat.le_of_ble_eq_true rfl) (Nat.le_of_ble_eq_true rfl) ?_
      refine lv_if_eq (tgt := 29) hx hb dX11_steps_21 (by decide) (fun c21 => ?_) (fun c21 => ?_)
      · skip
        have tc21 := f_eq (k := 0) (by decide) c21
        exact J29  _ _ _  hH hS (lv_sub hl [] rfl)
      · skip
        have tc21 := f_ne (k := 0) (by decide) c21
        refine lv_iload_n hx hb dX11_steps_24 rfl (lv_at hl 2 rfl) ?_
        refine lv_iload_n hx hb dX11_steps_25 rfl (lv_at hl 3 rfl) ?_
        refine lv_icmp_ne (tgt := 32) hx hb dX11_steps_26 (by decide) (fun c26 => ?_) (fun c26 => ?_)
        · skip
          have fuc26 := full_i x2
          have fvc26 := full_i x3
          have tc26 := g_ne c26
          refine lv_aload_n hx hb dX11_steps_32 rfl (lv_at hl 0 rfl) ?_
          refine t_get (ci := 11) (lst := ft11 w ch) (C := RX11) (F := TX11) (N := 20) hx hb hts uX11 hown hkb hH t_a0 (hO.no t_a0 (by decide)) (fun _ h9 => h9) rfl rfl 3 (by decide) rfl kw_363 (fun _ h9 => h9) dX11_steps_33 (fun v9 h9 => ?_)
          have h9 : v9 = .ref w := h9
          subst h9
          refine lv_iload_n hx hb dX11_steps_36 rfl (lv_at hl 2 rfl) ?_
          refine lv_iload_n hx hb dX11_steps_37 rfl (lv_at hl 3 rfl) ?_
          refine lv_aload_n hx hb dX11_steps_38 rfl (lv_at hl 0 rfl) ?_
          refine t_get (ci := 11) (lst := ft11 w ch) (C := RX11) (F := TX11) (N := 20) hx hb hts uX11 hown hkb hH t_a0 (hO.no t_a0 (by decide)) (fun _ h9 => h9) rfl rfl 3 (by decide) rfl kw_363 (fun _ h9 => h9) dX11_steps_39 (fun v9 h9 => ?_)
          have h9 : v9 = .ref w := h9
          subst h9
          refine t_get (ci := 9) (lst := ft9w hw gw) (C := RX9) (F := TX9) (N := 14) hx hb hts uX9 hown hkb hH t_w.1 (hO.no t_w.1 (by decide)) (fun fs => (ob9w t_w fs).mp) rfl rfl 9 (by decide) rfl kw_142 (fun _ h9 => h9) dX11_steps_42 (fun v9 h9 => ?_)
          obtain ⟨v42, rfl, t_v42⟩ := h9
          refine lv_iload_n hx hb dX11_steps_45 rfl (lv_at hl 1 rfl) ?_
          refine t_ild hx hb hkb hH t_v42 (hO.no t_v42 (by decide)) (by omega) (by omega) dX11_steps_46 (fun v46 h9 => ?_)
          refine lv_aload_n hx hb dX11_steps_47 rfl (lv_at hl 0 rfl) ?_
          refine t_get (ci := 11) (lst := ft11 w ch) (C := RX11) (F := TX11) (N := 20) hx hb hts uX11 hown hkb hH t_a0 (hO.no t_a0 (by decide)) (fun _ h9 => h9) rfl rfl 3 (by decide) rfl kw_363 (fun _ h9 => h9) dX11_steps_48 (fun v9 h9 => ?_)
          have h9 : v9 = .ref w := h9
          subst h9
          refine t_get (ci := 9) (lst := ft9w hw gw) (C := RX9) (F := TX9) (N := 14) hx hb hts uX9 hown hkb hH t_w.1 (hO.no t_w.1 (by decide)) (fun fs => (ob9w t_w fs).mp) rfl rfl 10 (by decide) rfl kw_145 (fun _ h9 => h9) dX11_steps_51 (fun v9 h9 => ?_)
          obtain ⟨v51, rfl, t_v51⟩ := h9
          refine lv_iload_n hx hb dX11_steps_54 rfl (lv_at hl 1 rfl) ?_
          refine t_ild hx hb hkb hH t_v51 (hO.no t_v51 (by decide)) (by omega) (by omega) dX11_steps_55 (fun v55 h9 => ?_)
          refine lv_aload_n hx hb dX11_steps_56 rfl (lv_at hl 0 rfl) ?_
          refine t_get (ci := 11) (lst := ft11 w ch) (C := RX11) (F := TX11) (N := 20) hx hb hts uX11 hown hkb hH t_a0 (hO.no t_a0 (by decide)) (fun _ h9 => h9) rfl rfl 4 (by decide) rfl kw_364 (fun _ h9 => h9) dX11_steps_57 (fun v9 h9 => ?_)
          obtain ⟨v57, rfl, t_v57⟩ := h9
          refine t_get (ci := 6) (lst := ft6 0 0) (C := RX6) (F := TX6) (N := 6) hx hb hts uX6 hown hkb hH t_v57 (hO.no t_v57 (by decide)) (fun _ h9 => h9) rfl rfl 2 (by decide) rfl kw_191 (fun _ h9 => h9) dX11_steps_60 (fun v9 h9 => ?_)
          obtain ⟨v60, rfl⟩ := h9
          refine tk_i hH hS hA (tr_V (n := 5) (As := [.int x2, .int x3, .int v46, .int v55, .int v60]) hx hb hml hown hts hkb hH hOX hks hE hS hA (s_Wall_mayStep l D cs kf T O X w hw gw x2 x3 v46 v55 v60 t_w (by omega) (by omega) (by omega) (by omega) (hO.sub (by decide))) kw_807 kw_808 kw_809 kw_5 kw_810 (by decide +kernel) ⟨Nat.le_of_ble_eq_true rfl, Nat.le_of_ble_eq_true rfl⟩ (HT.recv (ci := 9) hkb hH t_w.1 (hO.no t_w.1 (by decide)) rfl) rfl rfl hl.1 (Nat.le_of_ble_eq_true rfl) dX11_steps_63 ⟨Nat.le_of_ble_eq_true rfl, Nat.le_of_ble_eq_true rfl⟩) (fun v63 u H locs hz9 hH hS => ?_)
          obtain ⟨rfl, l_v63, u_v63⟩ := hz9
          have hH : HT D cs A T O X H := hH
          refine W.widen (k := 0) (n := 0) (Nat.le_of_ble_eq_true rfl) (Nat.le_of_ble_eq_true rfl) ?_
          have J74 : ∀ (k74_0 : Int32) (H : Heap) (locs : List Loc) (ls : Array Slot), (0 ≤ k74_0.toInt) → (k74_0.toInt ≤ 1) → HT D cs A T O X H → va_S A s.heap H locs → lv_has ls 4 [] → W p l e { frames := 3, cells := 0, slots := 0, locals := 77 } s m [.ref a0, .int x1, .int x2, .int x3].toArray below meth c H locs 0 0 (MQ below (Ti D cs (fun r u => u = (T, O, X) ∧ -2 ≤ r.toInt ∧ r.toInt ≤ 1) A) [.ref a0, .int x1, .int x2, .int x3].toArray s 0 0 A) (F0 m 74 ls [.int k74_0]) := by
            intro k74_0 H locs ls l_k74_0 u_k74_0 hH hS hl
            exact te_i hx hb hr hlocks hH hS (⟨rfl, by omega, by omega⟩) dX11_steps_74
          refine lv_if_eq (tgt := 73) hx hb dX11_steps_66 (by decide) (fun c66 => ?_) (fun c66 => ?_)
          · skip
            have tc66 := f_eq (k := 0) (by decide) c66
            refine lv_iconst (v := 0) hx hb dX11_steps_73 (by decide) ?_
            exact J74 0 _ _ _ (by decide) (by decide) hH hS (lv_sub hl [] rfl)
          · skip
            have tc66 := f_ne (k := 0) (by decide) c66
            refine lv_iconst (v := 1) hx hb dX11_steps_69 (by decide) ?_
            refine lv_goto (tgt := 74) hx hb dX11_steps_70 (by decide) ?_
            exact J74 1 _ _ _ (by decide) (by decide) hH hS (lv_sub hl [] rfl)
        · skip
          have fuc26 := full_i x2
          have fvc26 := full_i x3
          have tc26 := g_eq c26
          exact J29  _ _ _  hH hS (lv_sub hl [] rfl)
set_option maxHeartbeats 4000000 in
set_option maxRecDepth 100000 in
theorem s_FW_reach (l : Launch) (D : va_G) (cs : CS) (kf : KF) (T : TF) (O : List Nat) (X : va_W) (a0 w hw gw ch gq : Nat) (x1 : Int32) (t_a0 : T a0 = some (21, w, ch)) (t_w : isW T w hw gw) (t_ch : T ch = some (10, gq, 0)) (hO : okO T O [1, 7, 12, 15, 16, 19, 21]) : TK l D cs kf yX11_reach cX11_reach 2 (some (.int)) { frames := 6, cells := 0, slots := 0, locals := 150 } [.ref a0, .int x1] T O X (Ti D cs (fun r u => u = (T, O, X) ∧ -2 ≤ r.toInt ∧ r.toInt ≤ 16383)) := by
  refine tk_of (by decide) (Nat.le_of_ble_eq_true rfl) (fun p e s m below meth c ls A H locs hx hb hr hml hown hts hlocks hnm hkb hH hS hA hOX hks hE hl => ?_)
  have hown : s.vm.findClass RX11 = some m.cls := hown
  have hl : lv_has ls 2 [(0, .ref a0), (1, .int x1)] := hl
  have b1_w := t_w.2.1
  have b2_w := t_w.2.2
  refine lv_aload_n hx hb dX11_reach_0 rfl (lv_at hl 0 rfl) ?_
  refine lv_iload_n hx hb dX11_reach_1 rfl (lv_at hl 1 rfl) ?_
  refine tk_i hH hS hA (tr_V (n := 1) (As := [.int x1]) hx hb hml hown hts hkb hH hOX hks hE hS hA (s_FW_isGuide l D cs kf T O X a0 w hw gw ch gq x1 t_a0 t_w t_ch (hO.sub (by decide))) kw_794 kw_796 ks_20 kw_1 kw_797 (by decide +kernel) ⟨Nat.le_of_ble_eq_true rfl, Nat.le_of_ble_eq_true rfl⟩ (HT.recv (ci := 11) hkb hH t_a0 (hO.no t_a0 (by decide)) rfl) rfl rfl hl.1 (Nat.le_of_ble_eq_true rfl) dX11_reach_2 ⟨Nat.le_of_ble_eq_true rfl, Nat.le_of_ble_eq_true rfl⟩) (fun v2 u H locs hz9 hH hS => ?_)
  obtain ⟨rfl, l_v2, u_v2, x_v20⟩ := hz9
  have hH : HT D cs A T O X H := hH
  refine W.widen (k := 0) (n := 0) (Nat.le_of_ble_eq_true rfl) (Nat.le_of_ble_eq_true rfl) ?_
  have J25 : ∀ (k25_0 : Int32) (H : Heap) (locs : List Loc) (ls : Array Slot), (-2 ≤ k25_0.toInt) → (k25_0.toInt ≤ 16383) → HT D cs A T O X H → va_S A s.heap H locs → lv_has ls 2 [] → W p l e { frames := 6, cells := 0, slots := 0, locals := 150 } s m [.ref a0, .int x1].toArray below meth c H locs 0 0 (MQ below (Ti D cs (fun r u => u = (T, O, X) ∧ -2 ≤ r.toInt ∧ r.toInt ≤ 16383) A) [.ref a0, .int x1].toArray s 0 0 A) (F0 m 25 ls [.int k25_0]) := by
    intro k25_0 H locs ls l_k25_0 u_k25_0 hH hS hl
    exact te_i hx hb hr hlocks hH hS (⟨rfl, by omega, by omega⟩) dX11_reach_25
  refine lv_if_eq (tgt := 23) hx hb dX11_reach_5 (by decide) (fun c5 => ?_) (fun c5 => ?_)
  · skip
    have tc5 := f_eq (k := 0) (by decide) c5
    refine lv_bipush (v := (-2)) hx hb dX11_reach_23 (by decide) ?_
    exact J25 (-2) _ _ _ (by decide) (by decide) hH hS (lv_sub hl [] rfl)
  · skip
    have tc5 := f_ne (k := 0) (by decide) c5
    refine lv_aload_n hx hb dX11_reach_8 rfl (lv_at hl 0 rfl) ?_
    refine lv_iload_n hx hb dX11_reach_9 rfl (lv_at hl 1 rfl) ?_
    refine tk_r hH hS hA (tr_V (n := 1) (As := [.int x1]) hx hb hml hown hts hkb hH hOX hks hE hS hA (s_FW_rowsOf l D cs kf T O X a0 w hw gw ch gq x1 t_a0 t_w t_ch (by omega) (by omega) (hO.sub (by decide))) kw_830 kw_832 ks_21 kw_1 kw_833 (by decide +kernel) ⟨Nat.le_of_ble_eq_true rfl, Nat.le_of_ble_eq_true rfl⟩ (HT.recv (ci := 11) hkb hH t_a0 (hO.no t_a0 (by decide)) rfl) rfl rfl hl.1 (Nat.le_of_ble_eq_true rfl) dX11_reach_10 ⟨Nat.le_of_ble_eq_true rfl, Nat.le_of_ble_eq_true rfl⟩) (fun v10 u H locs hz9 hH hS => ?_)
    obtain ⟨hu9, t_v10⟩ := hz9
    have hu9 : u = (T, O, X) := hu9
    subst hu9
    have hH : HT D cs A T O X H := hH
    refine W.widen (k := 0) (n := 0) (Nat.le_of_ble_eq_true rfl) (Nat.le_of_ble_eq_true rfl) ?_
    refine lv_aload_n hx hb dX11_reach_13 rfl (lv_at hl 0 rfl) ?_
    refine tk_i hH hS hA (tr_V (n := 0) (As := []) hx hb hml hown hts hkb hH hOX hks hE hS hA (s_FW_openNow l D cs kf T O X a0 w hw gw ch gq t_a0 t_w t_ch (hO.sub (by decide))) kw_846 kw_848 ks_22 kw_1 kw_849 (by decide +kernel) ⟨Nat.le_of_ble_eq_true rfl, Nat.le_of_ble_eq_true rfl⟩ (HT.recv (ci := 11) hkb hH t_a0 (hO.no t_a0 (by decide)) rfl) rfl rfl hl.1 (Nat.le_of_ble_eq_true rfl) dX11_reach_14 ⟨Nat.le_of_ble_eq_true rfl, Nat.le_of_ble_eq_true rfl⟩) (fun v14 u H locs hz9 hH hS => ?_)
    obtain ⟨rfl, l_v14, u_v14⟩ := hz9
    have hH : HT D cs A T O X H := hH
    refine W.widen (k := 0) (n := 0) (Nat.le_of_ble_eq_true rfl) (Nat.le_of_ble_eq_true rfl) ?_
    refine tk_i hH hS hA (tr_V (n := 1) (As := [.int v14]) hx hb hml hown hts hkb hH hOX hks hE hS hA (s_Rows_reached l D cs kf T O X v10 v14 t_v10 (hO.sub (by decide))) kw_850 kw_851 kw_852 kw_8 kw_853 (by decide +kernel) ⟨Nat.le_of_ble_eq_true rfl, Nat.le_of_ble_eq_true rfl⟩ (HT.recv (ci := 5) hkb hH t_v10 (hO.no t_v10 (by decide)) rfl) rfl rfl hl.1 (Nat.le_of_ble_eq_true rfl) dX11_reach_17 ⟨Nat.le_of_ble_eq_true rfl, Nat.le_of_ble_eq_true rfl⟩) (fun v17 u H locs hz9 hH hS => ?_)
    obtain ⟨rfl, l_v17, u_v17⟩ := hz9
    have hH : HT D cs A T O X H := hH
    refine W.widen (k := 0) (n := 0) (Nat.le_of_ble_eq_true rfl) (Nat.le_of_ble_eq_true rfl) ?_
    refine lv_goto (tgt := 25) hx hb dX11_reach_20 (by decide) ?_
    exact J25 v17 _ _ _ (by omega) (by omega) hH hS (lv_sub hl [] rfl)
theorem dJ9_floorMod_7cf53_0 : decode cJ9_floorMod_7cf53 0 = .ok (.iload_n 0, 1) := by decide +kernel
theorem dJ9_floorMod_7cf53_1 : decode cJ9_floorMod_7cf53 1 = .ok (.iload_n 1, 1) := by decide +kernel
theorem dJ9_floorMod_7cf53_2 : decode cJ9_floorMod_7cf53 2 = .ok (.irem, 1) := by decide +kernel
theorem dJ9_floorMod_7cf53_3 : decode cJ9_floorMod_7cf53 3 = .ok (.istore_n 2, 1) := by decide +kernel
theorem dJ9_floorMod_7cf53_4 : decode cJ9_floorMod_7cf53 4 = .ok (.iload_n 0, 1) := by decide +kernel
theorem dJ9_floorMod_7cf53_5 : decode cJ9_floorMod_7cf53 5 = .ok (.iload_n 1, 1) := by decide +kernel
theorem dJ9_floorMod_7cf53_6 : decode cJ9_floorMod_7cf53 6 = .ok (.ixor, 1) := by decide +kernel
theorem dJ9_floorMod_7cf53_7 : decode cJ9_floorMod_7cf53 7 = .ok (.ifCond .ge 11, 3) := by decide +kernel
theorem dJ9_floorMod_7cf53_10 : decode cJ9_floorMod_7cf53 10 = .ok (.iload_n 2, 1) := by decide +kernel
theorem dJ9_floorMod_7cf53_11 : decode cJ9_floorMod_7cf53 11 = .ok (.ifCond .eq 7, 3) := by decide +kernel
theorem dJ9_floorMod_7cf53_14 : decode cJ9_floorMod_7cf53 14 = .ok (.iload_n 2, 1) := by decide +kernel
theorem dJ9_floorMod_7cf53_15 : decode cJ9_floorMod_7cf53 15 = .ok (.iload_n 1, 1) := by decide +kernel
theorem dJ9_floorMod_7cf53_16 : decode cJ9_floorMod_7cf53 16 = .ok (.iadd, 1) := by decide +kernel
theorem dJ9_floorMod_7cf53_17 : decode cJ9_floorMod_7cf53 17 = .ok (.ireturn, 1) := by decide +kernel
theorem dJ9_floorMod_7cf53_18 : decode cJ9_floorMod_7cf53 18 = .ok (.iload_n 2, 1) := by decide +kernel
theorem dJ9_floorMod_7cf53_19 : decode cJ9_floorMod_7cf53 19 = .ok (.ireturn, 1) := by decide +kernel
theorem dX11_breaks_0 : decode cX11_breaks 0 = .ok (.aload_n 0, 1) := by decide +kernel
theorem dX11_breaks_1 : decode cX11_breaks 1 = .ok (.iload_n 1, 1) := by decide +kernel
theorem dX11_breaks_2 : decode cX11_breaks 2 = .ok (.invokevirtual 145, 3) := by decide +kernel
theorem dX11_breaks_5 : decode cX11_breaks 5 = .ok (.ifCond .ne 6, 3) := by decide +kernel
theorem dX11_breaks_8 : decode cX11_breaks 8 = .ok (.bipush (-2), 2) := by decide +kernel
theorem dX11_breaks_10 : decode cX11_breaks 10 = .ok (.ireturn, 1) := by decide +kernel
theorem dX11_breaks_11 : decode cX11_breaks 11 = .ok (.aload_n 0, 1) := by decide +kernel
theorem dX11_breaks_12 : decode cX11_breaks 12 = .ok (.getfield 36, 3) := by decide +kernel
theorem dX11_breaks_15 : decode cX11_breaks 15 = .ok (.getfield 180, 3) := by decide +kernel
theorem dX11_breaks_18 : decode cX11_breaks 18 = .ok (.iload_n 1, 1) := by decide +kernel
theorem dX11_breaks_19 : decode cX11_breaks 19 = .ok (.ishr, 1) := by decide +kernel
theorem dX11_breaks_20 : decode cX11_breaks 20 = .ok (.iconst 1, 1) := by decide +kernel
theorem dX11_breaks_21 : decode cX11_breaks 21 = .ok (.iand, 1) := by decide +kernel
theorem dX11_breaks_22 : decode cX11_breaks 22 = .ok (.ifCond .eq 6, 3) := by decide +kernel
theorem dX11_breaks_25 : decode cX11_breaks 25 = .ok (.bipush (-5), 2) := by decide +kernel
theorem dX11_breaks_27 : decode cX11_breaks 27 = .ok (.ireturn, 1) := by decide +kernel
theorem dX11_breaks_28 : decode cX11_breaks 28 = .ok (.aload_n 0, 1) := by decide +kernel
theorem dX11_breaks_29 : decode cX11_breaks 29 = .ok (.getfield 40, 3) := by decide +kernel
theorem dX11_breaks_32 : decode cX11_breaks 32 = .ok (.aload_n 0, 1) := by decide +kernel
theorem dX11_breaks_33 : decode cX11_breaks 33 = .ok (.getfield 36, 3) := by decide +kernel
theorem dX11_breaks_36 : decode cX11_breaks 36 = .ok (.invokevirtual 135, 3) := by decide +kernel
theorem dX11_breaks_39 : decode cX11_breaks 39 = .ok (.aload_n 0, 1) := by decide +kernel
theorem dX11_breaks_40 : decode cX11_breaks 40 = .ok (.getfield 36, 3) := by decide +kernel
theorem dX11_breaks_43 : decode cX11_breaks 43 = .ok (.iload_n 1, 1) := by decide +kernel
theorem dX11_breaks_44 : decode cX11_breaks 44 = .ok (.invokevirtual 281, 3) := by decide +kernel
theorem dX11_breaks_47 : decode cX11_breaks 47 = .ok (.istore_n 2, 1) := by decide +kernel
theorem dX11_breaks_48 : decode cX11_breaks 48 = .ok (.aload_n 0, 1) := by decide +kernel
theorem dX11_breaks_49 : decode cX11_breaks 49 = .ok (.invokevirtual 256, 3) := by decide +kernel
theorem dX11_breaks_52 : decode cX11_breaks 52 = .ok (.iload_n 2, 1) := by decide +kernel
theorem dX11_breaks_53 : decode cX11_breaks 53 = .ok (.ireturn, 1) := by decide +kernel
theorem dX11_climb_0 : decode cX11_climb 0 = .ok (.iload_n 1, 1) := by decide +kernel
theorem dX11_climb_1 : decode cX11_climb 1 = .ok (.invokestatic 229, 3) := by decide +kernel
theorem dX11_climb_4 : decode cX11_climb 4 = .ok (.ifCond .ne 6, 3) := by decide +kernel
theorem dX11_climb_7 : decode cX11_climb 7 = .ok (.bipush (-2), 2) := by decide +kernel
theorem dX11_climb_9 : decode cX11_climb 9 = .ok (.ireturn, 1) := by decide +kernel
theorem dX11_climb_10 : decode cX11_climb 10 = .ok (.aload_n 0, 1) := by decide +kernel
theorem dX11_climb_11 : decode cX11_climb 11 = .ok (.getfield 62, 3) := by decide +kernel
theorem dX11_climb_14 : decode cX11_climb 14 = .ok (.iload_n 1, 1) := by decide +kernel
theorem dX11_climb_15 : decode cX11_climb 15 = .ok (.aaload, 1) := by decide +kernel
theorem dX11_climb_16 : decode cX11_climb 16 = .ok (.astore_n 2, 1) := by decide +kernel
theorem dX11_climb_17 : decode cX11_climb 17 = .ok (.aload_n 2, 1) := by decide +kernel
theorem dX11_climb_18 : decode cX11_climb 18 = .ok (.invokevirtual 232, 3) := by decide +kernel
theorem dX11_climb_21 : decode cX11_climb 21 = .ok (.ifCond .eq 6, 3) := by decide +kernel
theorem dX11_climb_24 : decode cX11_climb 24 = .ok (.bipush (-6), 2) := by decide +kernel
theorem dX11_climb_26 : decode cX11_climb 26 = .ok (.ireturn, 1) := by decide +kernel
theorem dX11_climb_27 : decode cX11_climb 27 = .ok (.aload_n 0, 1) := by decide +kernel
theorem dX11_climb_28 : decode cX11_climb 28 = .ok (.aload_n 2, 1) := by decide +kernel
theorem dX11_climb_29 : decode cX11_climb 29 = .ok (.invokevirtual 236, 3) := by decide +kernel
theorem dX11_climb_32 : decode cX11_climb 32 = .ok (.ifCond .eq 6, 3) := by decide +kernel
theorem dX11_climb_35 : decode cX11_climb 35 = .ok (.bipush (-5), 2) := by decide +kernel
theorem dX11_climb_37 : decode cX11_climb 37 = .ok (.ireturn, 1) := by decide +kernel
theorem dX11_climb_38 : decode cX11_climb 38 = .ok (.aload_n 0, 1) := by decide +kernel
theorem dX11_climb_39 : decode cX11_climb 39 = .ok (.getfield 40, 3) := by decide +kernel
theorem dX11_climb_42 : decode cX11_climb 42 = .ok (.aload_n 0, 1) := by decide +kernel
theorem dX11_climb_43 : decode cX11_climb 43 = .ok (.getfield 36, 3) := by decide +kernel
theorem dX11_climb_46 : decode cX11_climb 46 = .ok (.invokevirtual 135, 3) := by decide +kernel
theorem dX11_climb_49 : decode cX11_climb 49 = .ok (.aload_n 0, 1) := by decide +kernel
theorem dX11_climb_50 : decode cX11_climb 50 = .ok (.getfield 36, 3) := by decide +kernel
theorem dX11_climb_53 : decode cX11_climb 53 = .ok (.aload_n 0, 1) := by decide +kernel
theorem dX11_climb_54 : decode cX11_climb 54 = .ok (.aload_n 2, 1) := by decide +kernel
theorem dX11_climb_55 : decode cX11_climb 55 = .ok (.invokevirtual 240, 3) := by decide +kernel
theorem dX11_climb_58 : decode cX11_climb 58 = .ok (.aload_n 2, 1) := by decide +kernel
theorem dX11_climb_59 : decode cX11_climb 59 = .ok (.iconst 0, 1) := by decide +kernel
theorem dX11_climb_60 : decode cX11_climb 60 = .ok (.invokevirtual 248, 3) := by decide +kernel
theorem dX11_climb_63 : decode cX11_climb 63 = .ok (.l2i, 1) := by decide +kernel
theorem dX11_climb_64 : decode cX11_climb 64 = .ok (.invokevirtual 252, 3) := by decide +kernel
theorem dX11_climb_67 : decode cX11_climb 67 = .ok (.istore_n 3, 1) := by decide +kernel
theorem dX11_climb_68 : decode cX11_climb 68 = .ok (.aload_n 0, 1) := by decide +kernel
theorem dX11_climb_69 : decode cX11_climb 69 = .ok (.invokevirtual 256, 3) := by decide +kernel
theorem dX11_climb_72 : decode cX11_climb 72 = .ok (.iload_n 3, 1) := by decide +kernel
theorem dX11_climb_73 : decode cX11_climb 73 = .ok (.ireturn, 1) := by decide +kernel
theorem dX11_days_0 : decode cX11_days 0 = .ok (.iload_n 1, 1) := by decide +kernel
theorem dX11_days_1 : decode cX11_days 1 = .ok (.iconst 1, 1) := by decide +kernel
theorem dX11_days_2 : decode cX11_days 2 = .ok (.if_icmp .lt 9, 3) := by decide +kernel
theorem dX11_days_5 : decode cX11_days 5 = .ok (.iload_n 1, 1) := by decide +kernel
theorem dX11_days_6 : decode cX11_days 6 = .ok (.bipush 99, 2) := by decide +kernel
theorem dX11_days_8 : decode cX11_days 8 = .ok (.if_icmp .le 6, 3) := by decide +kernel
theorem dX11_days_11 : decode cX11_days 11 = .ok (.bipush (-3), 2) := by decide +kernel
theorem dX11_days_13 : decode cX11_days 13 = .ok (.ireturn, 1) := by decide +kernel
theorem dX11_days_14 : decode cX11_days 14 = .ok (.aload_n 0, 1) := by decide +kernel
theorem dX11_days_15 : decode cX11_days 15 = .ok (.getfield 40, 3) := by decide +kernel
theorem dX11_days_18 : decode cX11_days 18 = .ok (.aload_n 0, 1) := by decide +kernel
theorem dX11_days_19 : decode cX11_days 19 = .ok (.getfield 36, 3) := by decide +kernel
theorem dX11_days_22 : decode cX11_days 22 = .ok (.invokevirtual 135, 3) := by decide +kernel
theorem dX11_days_25 : decode cX11_days 25 = .ok (.aload_n 0, 1) := by decide +kernel
theorem dX11_days_26 : decode cX11_days 26 = .ok (.getfield 36, 3) := by decide +kernel
theorem dX11_days_29 : decode cX11_days 29 = .ok (.dup, 1) := by decide +kernel
theorem dX11_days_30 : decode cX11_days 30 = .ok (.getfield 161, 3) := by decide +kernel
theorem dX11_days_33 : decode cX11_days 33 = .ok (.iload_n 1, 1) := by decide +kernel
theorem dX11_days_34 : decode cX11_days 34 = .ok (.iadd, 1) := by decide +kernel
theorem dX11_days_35 : decode cX11_days 35 = .ok (.putfield 161, 3) := by decide +kernel
theorem dX11_days_38 : decode cX11_days 38 = .ok (.aload_n 0, 1) := by decide +kernel
theorem dX11_days_39 : decode cX11_days 39 = .ok (.invokevirtual 256, 3) := by decide +kernel
theorem dX11_days_42 : decode cX11_days 42 = .ok (.aload_n 0, 1) := by decide +kernel
theorem dX11_days_43 : decode cX11_days 43 = .ok (.getfield 36, 3) := by decide +kernel
theorem dX11_days_46 : decode cX11_days 46 = .ok (.getfield 161, 3) := by decide +kernel
theorem dX11_days_49 : decode cX11_days 49 = .ok (.ireturn, 1) := by decide +kernel
theorem dX11_goUp_0 : decode cX11_goUp 0 = .ok (.aload_n 0, 1) := by decide +kernel
theorem dX11_goUp_1 : decode cX11_goUp 1 = .ok (.getfield 82, 3) := by decide +kernel
theorem dX11_goUp_4 : decode cX11_goUp 4 = .ok (.aload_n 0, 1) := by decide +kernel
theorem dX11_goUp_5 : decode cX11_goUp 5 = .ok (.iload_n 1, 1) := by decide +kernel
theorem dX11_goUp_6 : decode cX11_goUp 6 = .ok (.invokevirtual 202, 3) := by decide +kernel
theorem dX11_goUp_9 : decode cX11_goUp 9 = .ok (.aload_n 0, 1) := by decide +kernel
theorem dX11_goUp_10 : decode cX11_goUp 10 = .ok (.invokevirtual 206, 3) := by decide +kernel
theorem dX11_goUp_13 : decode cX11_goUp 13 = .ok (.invokevirtual 271, 3) := by decide +kernel
theorem dX11_goUp_16 : decode cX11_goUp 16 = .ok (.ifCond .ne 5, 3) := by decide +kernel
theorem dX11_goUp_19 : decode cX11_goUp 19 = .ok (.iconst (-1), 1) := by decide +kernel
theorem dX11_goUp_20 : decode cX11_goUp 20 = .ok (.ireturn, 1) := by decide +kernel
theorem dX11_goUp_21 : decode cX11_goUp 21 = .ok (.aload_n 0, 1) := by decide +kernel
theorem dX11_goUp_22 : decode cX11_goUp 22 = .ok (.getfield 36, 3) := by decide +kernel
theorem dX11_goUp_25 : decode cX11_goUp 25 = .ok (.aload_n 0, 1) := by decide +kernel
theorem dX11_goUp_26 : decode cX11_goUp 26 = .ok (.getfield 82, 3) := by decide +kernel
theorem dX11_goUp_29 : decode cX11_goUp 29 = .ok (.invokevirtual 275, 3) := by decide +kernel
theorem dX11_goUp_32 : decode cX11_goUp 32 = .ok (.aload_n 0, 1) := by decide +kernel
theorem dX11_goUp_33 : decode cX11_goUp 33 = .ok (.getfield 29, 3) := by decide +kernel
theorem dX11_goUp_36 : decode cX11_goUp 36 = .ok (.invokevirtual 265, 3) := by decide +kernel
theorem dX11_goUp_39 : decode cX11_goUp 39 = .ok (.iand, 1) := by decide +kernel
theorem dX11_goUp_40 : decode cX11_goUp 40 = .ok (.iload_n 1, 1) := by decide +kernel
theorem dX11_goUp_41 : decode cX11_goUp 41 = .ok (.invokevirtual 252, 3) := by decide +kernel
theorem dX11_goUp_44 : decode cX11_goUp 44 = .ok (.ireturn, 1) := by decide +kernel
theorem dX11_goes_0 : decode cX11_goes 0 = .ok (.aload_n 0, 1) := by decide +kernel
theorem dX11_goes_1 : decode cX11_goes 1 = .ok (.iload_n 1, 1) := by decide +kernel
theorem dX11_goes_2 : decode cX11_goes 2 = .ok (.invokevirtual 186, 3) := by decide +kernel
theorem dX11_goes_5 : decode cX11_goes 5 = .ok (.ifCond .ne 6, 3) := by decide +kernel
theorem dX11_goes_8 : decode cX11_goes 8 = .ok (.bipush (-2), 2) := by decide +kernel
theorem dX11_goes_10 : decode cX11_goes 10 = .ok (.ireturn, 1) := by decide +kernel
theorem dX11_goes_11 : decode cX11_goes 11 = .ok (.aload_n 0, 1) := by decide +kernel
theorem dX11_goes_12 : decode cX11_goes 12 = .ok (.getfield 40, 3) := by decide +kernel
theorem dX11_goes_15 : decode cX11_goes 15 = .ok (.aload_n 0, 1) := by decide +kernel
theorem dX11_goes_16 : decode cX11_goes 16 = .ok (.getfield 36, 3) := by decide +kernel
theorem dX11_goes_19 : decode cX11_goes 19 = .ok (.invokevirtual 135, 3) := by decide +kernel
theorem dX11_goes_22 : decode cX11_goes 22 = .ok (.aload_n 0, 1) := by decide +kernel
theorem dX11_goes_23 : decode cX11_goes 23 = .ok (.iload_n 1, 1) := by decide +kernel
theorem dX11_goes_24 : decode cX11_goes 24 = .ok (.invokevirtual 268, 3) := by decide +kernel
theorem dX11_goes_27 : decode cX11_goes 27 = .ok (.istore_n 2, 1) := by decide +kernel
theorem dX11_goes_28 : decode cX11_goes 28 = .ok (.iload_n 2, 1) := by decide +kernel
theorem dX11_goes_29 : decode cX11_goes 29 = .ok (.iconst (-1), 1) := by decide +kernel
theorem dX11_goes_30 : decode cX11_goes 30 = .ok (.if_icmp .ne 6, 3) := by decide +kernel
theorem dX11_goes_33 : decode cX11_goes 33 = .ok (.bipush (-5), 2) := by decide +kernel
theorem dX11_goes_35 : decode cX11_goes 35 = .ok (.ireturn, 1) := by decide +kernel
theorem dX11_goes_36 : decode cX11_goes 36 = .ok (.aload_n 0, 1) := by decide +kernel
theorem dX11_goes_37 : decode cX11_goes 37 = .ok (.invokevirtual 256, 3) := by decide +kernel
theorem dX11_goes_40 : decode cX11_goes 40 = .ok (.iload_n 2, 1) := by decide +kernel
theorem dX11_goes_41 : decode cX11_goes 41 = .ok (.ireturn, 1) := by decide +kernel
theorem dX11_judge_0 : decode cX11_judge 0 = .ok (.iload_n 1, 1) := by decide +kernel
theorem dX11_judge_1 : decode cX11_judge 1 = .ok (.invokestatic 229, 3) := by decide +kernel
theorem dX11_judge_4 : decode cX11_judge 4 = .ok (.ifCond .eq 12, 3) := by decide +kernel
theorem dX11_judge_7 : decode cX11_judge 7 = .ok (.iload_n 2, 1) := by decide +kernel
theorem dX11_judge_8 : decode cX11_judge 8 = .ok (.ifCond .lt 8, 3) := by decide +kernel
theorem dX11_judge_11 : decode cX11_judge 11 = .ok (.iload_n 2, 1) := by decide +kernel
theorem dX11_judge_12 : decode cX11_judge 12 = .ok (.iconst 2, 1) := by decide +kernel
theorem dX11_judge_13 : decode cX11_judge 13 = .ok (.if_icmp .le 6, 3) := by decide +kernel
theorem dX11_judge_16 : decode cX11_judge 16 = .ok (.bipush (-2), 2) := by decide +kernel
theorem dX11_judge_18 : decode cX11_judge 18 = .ok (.ireturn, 1) := by decide +kernel
theorem dX11_judge_19 : decode cX11_judge 19 = .ok (.aload_n 0, 1) := by decide +kernel
theorem dX11_judge_20 : decode cX11_judge 20 = .ok (.getfield 62, 3) := by decide +kernel
theorem dX11_judge_23 : decode cX11_judge 23 = .ok (.iload_n 1, 1) := by decide +kernel
theorem dX11_judge_24 : decode cX11_judge 24 = .ok (.aaload, 1) := by decide +kernel
theorem dX11_judge_25 : decode cX11_judge 25 = .ok (.astore_n 3, 1) := by decide +kernel
theorem dX11_judge_26 : decode cX11_judge 26 = .ok (.aload_n 3, 1) := by decide +kernel
theorem dX11_judge_27 : decode cX11_judge 27 = .ok (.invokevirtual 232, 3) := by decide +kernel
theorem dX11_judge_30 : decode cX11_judge 30 = .ok (.ifCond .eq 6, 3) := by decide +kernel
theorem dX11_judge_33 : decode cX11_judge 33 = .ok (.bipush (-6), 2) := by decide +kernel
theorem dX11_judge_35 : decode cX11_judge 35 = .ok (.ireturn, 1) := by decide +kernel
theorem dX11_judge_36 : decode cX11_judge 36 = .ok (.aload_n 0, 1) := by decide +kernel
theorem dX11_judge_37 : decode cX11_judge 37 = .ok (.aload_n 3, 1) := by decide +kernel
theorem dX11_judge_38 : decode cX11_judge 38 = .ok (.invokevirtual 236, 3) := by decide +kernel
theorem dX11_judge_41 : decode cX11_judge 41 = .ok (.istore 4, 2) := by decide +kernel
theorem dX11_judge_43 : decode cX11_judge 43 = .ok (.iload_n 2, 1) := by decide +kernel
theorem dX11_judge_44 : decode cX11_judge 44 = .ok (.ifCond .ne 17, 3) := by decide +kernel
theorem dX11_judge_47 : decode cX11_judge 47 = .ok (.iload 4, 2) := by decide +kernel
theorem dX11_judge_49 : decode cX11_judge 49 = .ok (.ifCond .ne 7, 3) := by decide +kernel
theorem dX11_judge_52 : decode cX11_judge 52 = .ok (.iconst (-1), 1) := by decide +kernel
theorem dX11_judge_53 : decode cX11_judge 53 = .ok (.goto 7, 3) := by decide +kernel
theorem dX11_judge_56 : decode cX11_judge 56 = .ok (.iload 4, 2) := by decide +kernel
theorem dX11_judge_58 : decode cX11_judge 58 = .ok (.iconst 3, 1) := by decide +kernel
theorem dX11_judge_59 : decode cX11_judge 59 = .ok (.ishr, 1) := by decide +kernel
theorem dX11_judge_60 : decode cX11_judge 60 = .ok (.ireturn, 1) := by decide +kernel
theorem dX11_judge_61 : decode cX11_judge 61 = .ok (.iload_n 2, 1) := by decide +kernel
theorem dX11_judge_62 : decode cX11_judge 62 = .ok (.iconst 1, 1) := by decide +kernel
theorem dX11_judge_63 : decode cX11_judge 63 = .ok (.if_icmp .ne 9, 3) := by decide +kernel
theorem dX11_judge_66 : decode cX11_judge 66 = .ok (.iload 4, 2) := by decide +kernel
theorem dX11_judge_68 : decode cX11_judge 68 = .ok (.bipush 7, 2) := by decide +kernel
theorem dX11_judge_70 : decode cX11_judge 70 = .ok (.iand, 1) := by decide +kernel
theorem dX11_judge_71 : decode cX11_judge 71 = .ok (.ireturn, 1) := by decide +kernel
theorem dX11_judge_72 : decode cX11_judge 72 = .ok (.iload 4, 2) := by decide +kernel
theorem dX11_judge_74 : decode cX11_judge 74 = .ok (.ifCond .ne 14, 3) := by decide +kernel
theorem dX11_judge_77 : decode cX11_judge 77 = .ok (.aload_n 0, 1) := by decide +kernel
theorem dX11_judge_78 : decode cX11_judge 78 = .ok (.aload_n 3, 1) := by decide +kernel
theorem dX11_judge_79 : decode cX11_judge 79 = .ok (.invokevirtual 240, 3) := by decide +kernel
theorem dX11_judge_82 : decode cX11_judge 82 = .ok (.invokestatic 243, 3) := by decide +kernel
theorem dX11_judge_85 : decode cX11_judge 85 = .ok (.goto 4, 3) := by decide +kernel
theorem dX11_judge_88 : decode cX11_judge 88 = .ok (.iconst 0, 1) := by decide +kernel
theorem dX11_judge_89 : decode cX11_judge 89 = .ok (.ireturn, 1) := by decide +kernel
theorem dX11_newYear_0 : decode cX11_newYear 0 = .ok (.aload_n 0, 1) := by decide +kernel
theorem dX11_newYear_1 : decode cX11_newYear 1 = .ok (.getfield 40, 3) := by decide +kernel
theorem dX11_newYear_4 : decode cX11_newYear 4 = .ok (.aload_n 0, 1) := by decide +kernel
theorem dX11_newYear_5 : decode cX11_newYear 5 = .ok (.getfield 36, 3) := by decide +kernel
theorem dX11_newYear_8 : decode cX11_newYear 8 = .ok (.invokevirtual 135, 3) := by decide +kernel
theorem dX11_newYear_11 : decode cX11_newYear 11 = .ok (.aload_n 0, 1) := by decide +kernel
theorem dX11_newYear_12 : decode cX11_newYear 12 = .ok (.getfield 36, 3) := by decide +kernel
theorem dX11_newYear_15 : decode cX11_newYear 15 = .ok (.getfield 222, 3) := by decide +kernel
theorem dX11_newYear_18 : decode cX11_newYear 18 = .ok (.invokestatic 243, 3) := by decide +kernel
theorem dX11_newYear_21 : decode cX11_newYear 21 = .ok (.istore_n 1, 1) := by decide +kernel
theorem dX11_newYear_22 : decode cX11_newYear 22 = .ok (.aload_n 0, 1) := by decide +kernel
theorem dX11_newYear_23 : decode cX11_newYear 23 = .ok (.getfield 36, 3) := by decide +kernel
theorem dX11_newYear_26 : decode cX11_newYear 26 = .ok (.iconst 0, 1) := by decide +kernel
theorem dX11_newYear_27 : decode cX11_newYear 27 = .ok (.putfield 222, 3) := by decide +kernel
theorem dX11_newYear_30 : decode cX11_newYear 30 = .ok (.aload_n 0, 1) := by decide +kernel
theorem dX11_newYear_31 : decode cX11_newYear 31 = .ok (.getfield 36, 3) := by decide +kernel
theorem dX11_newYear_34 : decode cX11_newYear 34 = .ok (.iconst 0, 1) := by decide +kernel
theorem dX11_newYear_35 : decode cX11_newYear 35 = .ok (.putfield 161, 3) := by decide +kernel
theorem dX11_newYear_38 : decode cX11_newYear 38 = .ok (.aload_n 0, 1) := by decide +kernel
theorem dX11_newYear_39 : decode cX11_newYear 39 = .ok (.getfield 36, 3) := by decide +kernel
theorem dX11_newYear_42 : decode cX11_newYear 42 = .ok (.dup, 1) := by decide +kernel
theorem dX11_newYear_43 : decode cX11_newYear 43 = .ok (.getfield 284, 3) := by decide +kernel
theorem dX11_newYear_46 : decode cX11_newYear 46 = .ok (.iconst 1, 1) := by decide +kernel
theorem dX11_newYear_47 : decode cX11_newYear 47 = .ok (.iadd, 1) := by decide +kernel
theorem dX11_newYear_48 : decode cX11_newYear 48 = .ok (.putfield 284, 3) := by decide +kernel
theorem dX11_newYear_51 : decode cX11_newYear 51 = .ok (.aload_n 0, 1) := by decide +kernel
theorem dX11_newYear_52 : decode cX11_newYear 52 = .ok (.invokevirtual 256, 3) := by decide +kernel
theorem dX11_newYear_55 : decode cX11_newYear 55 = .ok (.iload_n 1, 1) := by decide +kernel
theorem dX11_newYear_56 : decode cX11_newYear 56 = .ok (.ireturn, 1) := by decide +kernel
theorem dX11_rain_0 : decode cX11_rain 0 = .ok (.iload_n 1, 1) := by decide +kernel
theorem dX11_rain_1 : decode cX11_rain 1 = .ok (.iconst 1, 1) := by decide +kernel
theorem dX11_rain_2 : decode cX11_rain 2 = .ok (.if_icmp .lt 9, 3) := by decide +kernel
theorem dX11_rain_5 : decode cX11_rain 5 = .ok (.iload_n 1, 1) := by decide +kernel
theorem dX11_rain_6 : decode cX11_rain 6 = .ok (.bipush 14, 2) := by decide +kernel
theorem dX11_rain_8 : decode cX11_rain 8 = .ok (.if_icmp .le 6, 3) := by decide +kernel
theorem dX11_rain_11 : decode cX11_rain 11 = .ok (.bipush (-3), 2) := by decide +kernel
theorem dX11_rain_13 : decode cX11_rain 13 = .ok (.ireturn, 1) := by decide +kernel
theorem dX11_rain_14 : decode cX11_rain 14 = .ok (.aload_n 0, 1) := by decide +kernel
theorem dX11_rain_15 : decode cX11_rain 15 = .ok (.getfield 40, 3) := by decide +kernel
theorem dX11_rain_18 : decode cX11_rain 18 = .ok (.aload_n 0, 1) := by decide +kernel
theorem dX11_rain_19 : decode cX11_rain 19 = .ok (.getfield 36, 3) := by decide +kernel
theorem dX11_rain_22 : decode cX11_rain 22 = .ok (.invokevirtual 135, 3) := by decide +kernel
theorem dX11_rain_25 : decode cX11_rain 25 = .ok (.aload_n 0, 1) := by decide +kernel
theorem dX11_rain_26 : decode cX11_rain 26 = .ok (.getfield 36, 3) := by decide +kernel
theorem dX11_rain_29 : decode cX11_rain 29 = .ok (.iload_n 1, 1) := by decide +kernel
theorem dX11_rain_30 : decode cX11_rain 30 = .ok (.invokevirtual 278, 3) := by decide +kernel
theorem dX11_rain_33 : decode cX11_rain 33 = .ok (.istore_n 2, 1) := by decide +kernel
theorem dX11_rain_34 : decode cX11_rain 34 = .ok (.iload_n 2, 1) := by decide +kernel
theorem dX11_rain_35 : decode cX11_rain 35 = .ok (.ifCond .le 7, 3) := by decide +kernel
theorem dX11_rain_38 : decode cX11_rain 38 = .ok (.aload_n 0, 1) := by decide +kernel
theorem dX11_rain_39 : decode cX11_rain 39 = .ok (.invokevirtual 256, 3) := by decide +kernel
theorem dX11_rain_42 : decode cX11_rain 42 = .ok (.iload_n 2, 1) := by decide +kernel
theorem dX11_rain_43 : decode cX11_rain 43 = .ok (.ireturn, 1) := by decide +kernel
theorem dX11_remember_0 : decode cX11_remember 0 = .ok (.aload_n 0, 1) := by decide +kernel
theorem dX11_remember_1 : decode cX11_remember 1 = .ok (.getfield 43, 3) := by decide +kernel
theorem dX11_remember_4 : decode cX11_remember 4 = .ok (.aload_n 0, 1) := by decide +kernel
theorem dX11_remember_5 : decode cX11_remember 5 = .ok (.getfield 50, 3) := by decide +kernel
theorem dX11_remember_8 : decode cX11_remember 8 = .ok (.aaload, 1) := by decide +kernel
theorem dX11_remember_9 : decode cX11_remember 9 = .ok (.astore_n 1, 1) := by decide +kernel
theorem dX11_remember_10 : decode cX11_remember 10 = .ok (.aload_n 0, 1) := by decide +kernel
theorem dX11_remember_11 : decode cX11_remember 11 = .ok (.getfield 43, 3) := by decide +kernel
theorem dX11_remember_14 : decode cX11_remember 14 = .ok (.aload_n 0, 1) := by decide +kernel
theorem dX11_remember_15 : decode cX11_remember 15 = .ok (.getfield 50, 3) := by decide +kernel
theorem dX11_remember_18 : decode cX11_remember 18 = .ok (.aload_n 0, 1) := by decide +kernel
theorem dX11_remember_19 : decode cX11_remember 19 = .ok (.getfield 40, 3) := by decide +kernel
theorem dX11_remember_22 : decode cX11_remember 22 = .ok (.aastore, 1) := by decide +kernel
theorem dX11_remember_23 : decode cX11_remember 23 = .ok (.aload_n 0, 1) := by decide +kernel
theorem dX11_remember_24 : decode cX11_remember 24 = .ok (.aload_n 1, 1) := by decide +kernel
theorem dX11_remember_25 : decode cX11_remember 25 = .ok (.putfield 40, 3) := by decide +kernel
theorem dX11_remember_28 : decode cX11_remember 28 = .ok (.aload_n 0, 1) := by decide +kernel
theorem dX11_remember_29 : decode cX11_remember 29 = .ok (.aload_n 0, 1) := by decide +kernel
theorem dX11_remember_30 : decode cX11_remember 30 = .ok (.getfield 50, 3) := by decide +kernel
theorem dX11_remember_33 : decode cX11_remember 33 = .ok (.iconst 1, 1) := by decide +kernel
theorem dX11_remember_34 : decode cX11_remember 34 = .ok (.iadd, 1) := by decide +kernel
theorem dX11_remember_35 : decode cX11_remember 35 = .ok (.bipush 10, 2) := by decide +kernel
theorem dX11_remember_37 : decode cX11_remember 37 = .ok (.irem, 1) := by decide +kernel
theorem dX11_remember_38 : decode cX11_remember 38 = .ok (.putfield 50, 3) := by decide +kernel
theorem dX11_remember_41 : decode cX11_remember 41 = .ok (.aload_n 0, 1) := by decide +kernel
theorem dX11_remember_42 : decode cX11_remember 42 = .ok (.aload_n 0, 1) := by decide +kernel
theorem dX11_remember_43 : decode cX11_remember 43 = .ok (.getfield 47, 3) := by decide +kernel
theorem dX11_remember_46 : decode cX11_remember 46 = .ok (.iconst 1, 1) := by decide +kernel
theorem dX11_remember_47 : decode cX11_remember 47 = .ok (.iadd, 1) := by decide +kernel
theorem dX11_remember_48 : decode cX11_remember 48 = .ok (.bipush 10, 2) := by decide +kernel
theorem dX11_remember_50 : decode cX11_remember 50 = .ok (.invokestatic 292, 3) := by decide +kernel
theorem dX11_remember_53 : decode cX11_remember 53 = .ok (.putfield 47, 3) := by decide +kernel
theorem dX11_remember_56 : decode cX11_remember 56 = .ok (.return_, 1) := by decide +kernel
theorem dX11_season_0 : decode cX11_season 0 = .ok (.iload_n 2, 1) := by decide +kernel
theorem dX11_season_1 : decode cX11_season 1 = .ok (.iconst 1, 1) := by decide +kernel
theorem dX11_season_2 : decode cX11_season 2 = .ok (.if_icmp .lt 9, 3) := by decide +kernel
theorem dX11_season_5 : decode cX11_season 5 = .ok (.iload_n 2, 1) := by decide +kernel
theorem dX11_season_6 : decode cX11_season 6 = .ok (.bipush 40, 2) := by decide +kernel
theorem dX11_season_8 : decode cX11_season 8 = .ok (.if_icmp .le 6, 3) := by decide +kernel
theorem dX11_season_11 : decode cX11_season 11 = .ok (.bipush (-3), 2) := by decide +kernel
theorem dX11_season_13 : decode cX11_season 13 = .ok (.ireturn, 1) := by decide +kernel
theorem dX11_season_14 : decode cX11_season 14 = .ok (.aload_n 0, 1) := by decide +kernel
theorem dX11_season_15 : decode cX11_season 15 = .ok (.getfield 29, 3) := by decide +kernel
theorem dX11_season_18 : decode cX11_season 18 = .ok (.getfield 216, 3) := by decide +kernel
theorem dX11_season_21 : decode cX11_season 21 = .ok (.ifCond .ne 6, 3) := by decide +kernel
theorem dX11_season_24 : decode cX11_season 24 = .ok (.bipush (-5), 2) := by decide +kernel
theorem dX11_season_26 : decode cX11_season 26 = .ok (.ireturn, 1) := by decide +kernel
theorem dX11_season_27 : decode cX11_season 27 = .ok (.aload_n 0, 1) := by decide +kernel
theorem dX11_season_28 : decode cX11_season 28 = .ok (.getfield 40, 3) := by decide +kernel
theorem dX11_season_31 : decode cX11_season 31 = .ok (.aload_n 0, 1) := by decide +kernel
theorem dX11_season_32 : decode cX11_season 32 = .ok (.getfield 36, 3) := by decide +kernel
theorem dX11_season_35 : decode cX11_season 35 = .ok (.invokevirtual 135, 3) := by decide +kernel
theorem dX11_season_38 : decode cX11_season 38 = .ok (.iload_n 1, 1) := by decide +kernel
theorem dX11_season_39 : decode cX11_season 39 = .ok (.istore_n 3, 1) := by decide +kernel
theorem dX11_season_40 : decode cX11_season 40 = .ok (.iconst 0, 1) := by decide +kernel
theorem dX11_season_41 : decode cX11_season 41 = .ok (.istore 4, 2) := by decide +kernel
theorem dX11_season_43 : decode cX11_season 43 = .ok (.iconst 0, 1) := by decide +kernel
theorem dX11_season_44 : decode cX11_season 44 = .ok (.istore 5, 2) := by decide +kernel
theorem dX11_season_46 : decode cX11_season 46 = .ok (.iconst 0, 1) := by decide +kernel
theorem dX11_season_47 : decode cX11_season 47 = .ok (.istore 6, 2) := by decide +kernel
theorem dX11_season_49 : decode cX11_season 49 = .ok (.iload 6, 2) := by decide +kernel
theorem dX11_season_51 : decode cX11_season 51 = .ok (.iload_n 2, 1) := by decide +kernel
theorem dX11_season_52 : decode cX11_season 52 = .ok (.if_icmp .ge 130, 3) := by decide +kernel
theorem dX11_season_55 : decode cX11_season 55 = .ok (.iload_n 3, 1) := by decide +kernel
theorem dX11_season_56 : decode cX11_season 56 = .ok (.invokestatic 295, 3) := by decide +kernel
theorem dX11_season_59 : decode cX11_season 59 = .ok (.istore_n 3, 1) := by decide +kernel
theorem dX11_season_60 : decode cX11_season 60 = .ok (.iload_n 3, 1) := by decide +kernel
theorem dX11_season_61 : decode cX11_season 61 = .ok (.bipush 16, 2) := by decide +kernel
theorem dX11_season_63 : decode cX11_season 63 = .ok (.iushr, 1) := by decide +kernel
theorem dX11_season_64 : decode cX11_season 64 = .ok (.iconst 4, 1) := by decide +kernel
theorem dX11_season_65 : decode cX11_season 65 = .ok (.irem, 1) := by decide +kernel
theorem dX11_season_66 : decode cX11_season 66 = .ok (.istore 7, 2) := by decide +kernel
theorem dX11_season_68 : decode cX11_season 68 = .ok (.iload 7, 2) := by decide +kernel
theorem dX11_season_70 : decode cX11_season 70 = .ok (.ifCond .ne 22, 3) := by decide +kernel
theorem dX11_season_73 : decode cX11_season 73 = .ok (.aload_n 0, 1) := by decide +kernel
theorem dX11_season_74 : decode cX11_season 74 = .ok (.getfield 36, 3) := by decide +kernel
theorem dX11_season_77 : decode cX11_season 77 = .ok (.dup, 1) := by decide +kernel
theorem dX11_season_78 : decode cX11_season 78 = .ok (.getfield 161, 3) := by decide +kernel
theorem dX11_season_81 : decode cX11_season 81 = .ok (.iconst 1, 1) := by decide +kernel
theorem dX11_season_82 : decode cX11_season 82 = .ok (.iadd, 1) := by decide +kernel
theorem dX11_season_83 : decode cX11_season 83 = .ok (.putfield 161, 3) := by decide +kernel
theorem dX11_season_86 : decode cX11_season 86 = .ok (.iconst 1, 1) := by decide +kernel
theorem dX11_season_87 : decode cX11_season 87 = .ok (.istore 5, 2) := by decide +kernel
theorem dX11_season_89 : decode cX11_season 89 = .ok (.goto 87, 3) := by decide +kernel
theorem dX11_season_92 : decode cX11_season 92 = .ok (.iload 7, 2) := by decide +kernel
theorem dX11_season_94 : decode cX11_season 94 = .ok (.iconst 3, 1) := by decide +kernel
theorem dX11_season_95 : decode cX11_season 95 = .ok (.if_icmp .ne 27, 3) := by decide +kernel
theorem dX11_season_98 : decode cX11_season 98 = .ok (.iload 5, 2) := by decide +kernel
theorem dX11_season_100 : decode cX11_season 100 = .ok (.aload_n 0, 1) := by decide +kernel
theorem dX11_season_101 : decode cX11_season 101 = .ok (.getfield 36, 3) := by decide +kernel
theorem dX11_season_104 : decode cX11_season 104 = .ok (.iconst 1, 1) := by decide +kernel
theorem dX11_season_105 : decode cX11_season 105 = .ok (.invokevirtual 278, 3) := by decide +kernel
theorem dX11_season_108 : decode cX11_season 108 = .ok (.ifCond .le 7, 3) := by decide +kernel
theorem dX11_season_111 : decode cX11_season 111 = .ok (.iconst 1, 1) := by decide +kernel
theorem dX11_season_112 : decode cX11_season 112 = .ok (.goto 4, 3) := by decide +kernel
theorem dX11_season_115 : decode cX11_season 115 = .ok (.iconst 0, 1) := by decide +kernel
theorem dX11_season_116 : decode cX11_season 116 = .ok (.ior, 1) := by decide +kernel
theorem dX11_season_117 : decode cX11_season 117 = .ok (.istore 5, 2) := by decide +kernel
theorem dX11_season_119 : decode cX11_season 119 = .ok (.goto 57, 3) := by decide +kernel
theorem dX11_season_122 : decode cX11_season 122 = .ok (.iload_n 3, 1) := by decide +kernel
theorem dX11_season_123 : decode cX11_season 123 = .ok (.invokestatic 295, 3) := by decide +kernel
theorem dX11_season_126 : decode cX11_season 126 = .ok (.istore_n 3, 1) := by decide +kernel
theorem dX11_season_127 : decode cX11_season 127 = .ok (.aload_n 0, 1) := by decide +kernel
theorem dX11_season_128 : decode cX11_season 128 = .ok (.iload_n 3, 1) := by decide +kernel
theorem dX11_season_129 : decode cX11_season 129 = .ok (.bipush 16, 2) := by decide +kernel
theorem dX11_season_131 : decode cX11_season 131 = .ok (.iushr, 1) := by decide +kernel
theorem dX11_season_132 : decode cX11_season 132 = .ok (.aload_n 0, 1) := by decide +kernel
theorem dX11_season_133 : decode cX11_season 133 = .ok (.getfield 29, 3) := by decide +kernel
theorem dX11_season_136 : decode cX11_season 136 = .ok (.getfield 216, 3) := by decide +kernel
theorem dX11_season_139 : decode cX11_season 139 = .ok (.irem, 1) := by decide +kernel
theorem dX11_season_140 : decode cX11_season 140 = .ok (.invokevirtual 268, 3) := by decide +kernel
theorem dX11_season_143 : decode cX11_season 143 = .ok (.iconst (-1), 1) := by decide +kernel
theorem dX11_season_144 : decode cX11_season 144 = .ok (.if_icmp .eq 7, 3) := by decide +kernel
theorem dX11_season_147 : decode cX11_season 147 = .ok (.iconst 1, 1) := by decide +kernel
theorem dX11_season_148 : decode cX11_season 148 = .ok (.goto 4, 3) := by decide +kernel
theorem dX11_season_151 : decode cX11_season 151 = .ok (.iconst 0, 1) := by decide +kernel
theorem dX11_season_152 : decode cX11_season 152 = .ok (.istore 8, 2) := by decide +kernel
theorem dX11_season_154 : decode cX11_season 154 = .ok (.iload 5, 2) := by decide +kernel
theorem dX11_season_156 : decode cX11_season 156 = .ok (.iload 8, 2) := by decide +kernel
theorem dX11_season_158 : decode cX11_season 158 = .ok (.ior, 1) := by decide +kernel
theorem dX11_season_159 : decode cX11_season 159 = .ok (.istore 5, 2) := by decide +kernel
theorem dX11_season_161 : decode cX11_season 161 = .ok (.iload 4, 2) := by decide +kernel
theorem dX11_season_163 : decode cX11_season 163 = .ok (.iload 8, 2) := by decide +kernel
theorem dX11_season_165 : decode cX11_season 165 = .ok (.ifCond .eq 7, 3) := by decide +kernel
theorem dX11_season_168 : decode cX11_season 168 = .ok (.iconst 1, 1) := by decide +kernel
theorem dX11_season_169 : decode cX11_season 169 = .ok (.goto 4, 3) := by decide +kernel
theorem dX11_season_172 : decode cX11_season 172 = .ok (.iconst 0, 1) := by decide +kernel
theorem dX11_season_173 : decode cX11_season 173 = .ok (.iadd, 1) := by decide +kernel
theorem dX11_season_174 : decode cX11_season 174 = .ok (.istore 4, 2) := by decide +kernel
theorem dX11_season_176 : decode cX11_season 176 = .ok (.iinc 6 1, 3) := by decide +kernel
theorem dX11_season_179 : decode cX11_season 179 = .ok (.goto (-130), 3) := by decide +kernel
theorem dX11_season_182 : decode cX11_season 182 = .ok (.iload 5, 2) := by decide +kernel
theorem dX11_season_184 : decode cX11_season 184 = .ok (.ifCond .eq 7, 3) := by decide +kernel
theorem dX11_season_187 : decode cX11_season 187 = .ok (.aload_n 0, 1) := by decide +kernel
theorem dX11_season_188 : decode cX11_season 188 = .ok (.invokevirtual 256, 3) := by decide +kernel
theorem dX11_season_191 : decode cX11_season 191 = .ok (.iload 4, 2) := by decide +kernel
theorem dX11_season_193 : decode cX11_season 193 = .ok (.ireturn, 1) := by decide +kernel
theorem dX11_toldSet_0 : decode cX11_toldSet 0 = .ok (.iconst 0, 1) := by decide +kernel
theorem dX11_toldSet_1 : decode cX11_toldSet 1 = .ok (.istore_n 2, 1) := by decide +kernel
theorem dX11_toldSet_2 : decode cX11_toldSet 2 = .ok (.iconst 1, 1) := by decide +kernel
theorem dX11_toldSet_3 : decode cX11_toldSet 3 = .ok (.istore_n 3, 1) := by decide +kernel
theorem dX11_toldSet_4 : decode cX11_toldSet 4 = .ok (.iload_n 3, 1) := by decide +kernel
theorem dX11_toldSet_5 : decode cX11_toldSet 5 = .ok (.aload_n 1, 1) := by decide +kernel
theorem dX11_toldSet_6 : decode cX11_toldSet 6 = .ok (.getfield 259, 3) := by decide +kernel
theorem dX11_toldSet_9 : decode cX11_toldSet 9 = .ok (.if_icmp .ge 20, 3) := by decide +kernel
theorem dX11_toldSet_12 : decode cX11_toldSet 12 = .ok (.iload_n 2, 1) := by decide +kernel
theorem dX11_toldSet_13 : decode cX11_toldSet 13 = .ok (.iconst 1, 1) := by decide +kernel
theorem dX11_toldSet_14 : decode cX11_toldSet 14 = .ok (.aload_n 1, 1) := by decide +kernel
theorem dX11_toldSet_15 : decode cX11_toldSet 15 = .ok (.iload_n 3, 1) := by decide +kernel
theorem dX11_toldSet_16 : decode cX11_toldSet 16 = .ok (.invokevirtual 248, 3) := by decide +kernel
theorem dX11_toldSet_19 : decode cX11_toldSet 19 = .ok (.l2i, 1) := by decide +kernel
theorem dX11_toldSet_20 : decode cX11_toldSet 20 = .ok (.ishl, 1) := by decide +kernel
theorem dX11_toldSet_21 : decode cX11_toldSet 21 = .ok (.ior, 1) := by decide +kernel
theorem dX11_toldSet_22 : decode cX11_toldSet 22 = .ok (.istore_n 2, 1) := by decide +kernel
theorem dX11_toldSet_23 : decode cX11_toldSet 23 = .ok (.iinc 3 1, 3) := by decide +kernel
theorem dX11_toldSet_26 : decode cX11_toldSet 26 = .ok (.goto (-22), 3) := by decide +kernel
theorem dX11_toldSet_29 : decode cX11_toldSet 29 = .ok (.iload_n 2, 1) := by decide +kernel
theorem dX11_toldSet_30 : decode cX11_toldSet 30 = .ok (.aload_n 0, 1) := by decide +kernel
theorem dX11_toldSet_31 : decode cX11_toldSet 31 = .ok (.getfield 29, 3) := by decide +kernel
theorem dX11_toldSet_34 : decode cX11_toldSet 34 = .ok (.invokevirtual 265, 3) := by decide +kernel
theorem dX11_toldSet_37 : decode cX11_toldSet 37 = .ok (.iand, 1) := by decide +kernel
theorem dX11_toldSet_38 : decode cX11_toldSet 38 = .ok (.ireturn, 1) := by decide +kernel
theorem dX11_undo_0 : decode cX11_undo 0 = .ok (.iload_n 1, 1) := by decide +kernel
theorem dX11_undo_1 : decode cX11_undo 1 = .ok (.iconst 1, 1) := by decide +kernel
theorem dX11_undo_2 : decode cX11_undo 2 = .ok (.if_icmp .lt 11, 3) := by decide +kernel
theorem dX11_undo_5 : decode cX11_undo 5 = .ok (.iload_n 1, 1) := by decide +kernel
theorem dX11_undo_6 : decode cX11_undo 6 = .ok (.aload_n 0, 1) := by decide +kernel
theorem dX11_undo_7 : decode cX11_undo 7 = .ok (.getfield 47, 3) := by decide +kernel
theorem dX11_undo_10 : decode cX11_undo 10 = .ok (.if_icmp .le 6, 3) := by decide +kernel
theorem dX11_undo_13 : decode cX11_undo 13 = .ok (.bipush (-3), 2) := by decide +kernel
theorem dX11_undo_15 : decode cX11_undo 15 = .ok (.ireturn, 1) := by decide +kernel
theorem dX11_undo_16 : decode cX11_undo 16 = .ok (.aload_n 0, 1) := by decide +kernel
theorem dX11_undo_17 : decode cX11_undo 17 = .ok (.aload_n 0, 1) := by decide +kernel
theorem dX11_undo_18 : decode cX11_undo 18 = .ok (.getfield 50, 3) := by decide +kernel
theorem dX11_undo_21 : decode cX11_undo 21 = .ok (.iload_n 1, 1) := by decide +kernel
theorem dX11_undo_22 : decode cX11_undo 22 = .ok (.isub, 1) := by decide +kernel
theorem dX11_undo_23 : decode cX11_undo 23 = .ok (.bipush 10, 2) := by decide +kernel
theorem dX11_undo_25 : decode cX11_undo 25 = .ok (.invokestatic 287, 3) := by decide +kernel
theorem dX11_undo_28 : decode cX11_undo 28 = .ok (.putfield 50, 3) := by decide +kernel
theorem dX11_undo_31 : decode cX11_undo 31 = .ok (.aload_n 0, 1) := by decide +kernel
theorem dX11_undo_32 : decode cX11_undo 32 = .ok (.dup, 1) := by decide +kernel
theorem dX11_undo_33 : decode cX11_undo 33 = .ok (.getfield 47, 3) := by decide +kernel
theorem dX11_undo_36 : decode cX11_undo 36 = .ok (.iload_n 1, 1) := by decide +kernel
theorem dX11_undo_37 : decode cX11_undo 37 = .ok (.isub, 1) := by decide +kernel
theorem dX11_undo_38 : decode cX11_undo 38 = .ok (.putfield 47, 3) := by decide +kernel
theorem dX11_undo_41 : decode cX11_undo 41 = .ok (.aload_n 0, 1) := by decide +kernel
theorem dX11_undo_42 : decode cX11_undo 42 = .ok (.getfield 36, 3) := by decide +kernel
theorem dX11_undo_45 : decode cX11_undo 45 = .ok (.aload_n 0, 1) := by decide +kernel
theorem dX11_undo_46 : decode cX11_undo 46 = .ok (.getfield 43, 3) := by decide +kernel
theorem dX11_undo_49 : decode cX11_undo 49 = .ok (.aload_n 0, 1) := by decide +kernel
theorem dX11_undo_50 : decode cX11_undo 50 = .ok (.getfield 50, 3) := by decide +kernel
theorem dX11_undo_53 : decode cX11_undo 53 = .ok (.aaload, 1) := by decide +kernel
theorem dX11_undo_54 : decode cX11_undo 54 = .ok (.invokevirtual 135, 3) := by decide +kernel
theorem dX11_undo_57 : decode cX11_undo 57 = .ok (.aload_n 0, 1) := by decide +kernel
theorem dX11_undo_58 : decode cX11_undo 58 = .ok (.getfield 47, 3) := by decide +kernel
theorem dX11_undo_61 : decode cX11_undo 61 = .ok (.ireturn, 1) := by decide +kernel
theorem dX11_verdictOn_0 : decode cX11_verdictOn 0 = .ok (.aload_n 1, 1) := by decide +kernel
theorem dX11_verdictOn_1 : decode cX11_verdictOn 1 = .ok (.iconst 0, 1) := by decide +kernel
theorem dX11_verdictOn_2 : decode cX11_verdictOn 2 = .ok (.invokevirtual 248, 3) := by decide +kernel
theorem dX11_verdictOn_5 : decode cX11_verdictOn 5 = .ok (.lstore_n 2, 1) := by decide +kernel
theorem dX11_verdictOn_6 : decode cX11_verdictOn 6 = .ok (.aload_n 1, 1) := by decide +kernel
theorem dX11_verdictOn_7 : decode cX11_verdictOn 7 = .ok (.getfield 259, 3) := by decide +kernel
theorem dX11_verdictOn_10 : decode cX11_verdictOn 10 = .ok (.ifCond .eq 22, 3) := by decide +kernel
theorem dX11_verdictOn_13 : decode cX11_verdictOn 13 = .ok (.lload_n 2, 1) := by decide +kernel
theorem dX11_verdictOn_14 : decode cX11_verdictOn 14 = .ok (.lconst 0, 1) := by decide +kernel
theorem dX11_verdictOn_15 : decode cX11_verdictOn 15 = .ok (.lcmp, 1) := by decide +kernel
theorem dX11_verdictOn_16 : decode cX11_verdictOn 16 = .ok (.ifCond .lt 16, 3) := by decide +kernel
theorem dX11_verdictOn_19 : decode cX11_verdictOn 19 = .ok (.lload_n 2, 1) := by decide +kernel
theorem dX11_verdictOn_20 : decode cX11_verdictOn 20 = .ok (.aload_n 0, 1) := by decide +kernel
theorem dX11_verdictOn_21 : decode cX11_verdictOn 21 = .ok (.getfield 29, 3) := by decide +kernel
theorem dX11_verdictOn_24 : decode cX11_verdictOn 24 = .ok (.getfield 216, 3) := by decide +kernel
theorem dX11_verdictOn_27 : decode cX11_verdictOn 27 = .ok (.i2l, 1) := by decide +kernel
theorem dX11_verdictOn_28 : decode cX11_verdictOn 28 = .ok (.lcmp, 1) := by decide +kernel
theorem dX11_verdictOn_29 : decode cX11_verdictOn 29 = .ok (.ifCond .lt 5, 3) := by decide +kernel
theorem dX11_verdictOn_32 : decode cX11_verdictOn 32 = .ok (.iconst 1, 1) := by decide +kernel
theorem dX11_verdictOn_33 : decode cX11_verdictOn 33 = .ok (.ireturn, 1) := by decide +kernel
theorem dX11_verdictOn_34 : decode cX11_verdictOn 34 = .ok (.aload_n 0, 1) := by decide +kernel
theorem dX11_verdictOn_35 : decode cX11_verdictOn 35 = .ok (.lload_n 2, 1) := by decide +kernel
theorem dX11_verdictOn_36 : decode cX11_verdictOn 36 = .ok (.l2i, 1) := by decide +kernel
theorem dX11_verdictOn_37 : decode cX11_verdictOn 37 = .ok (.invokevirtual 202, 3) := by decide +kernel
theorem dX11_verdictOn_40 : decode cX11_verdictOn 40 = .ok (.astore 4, 2) := by decide +kernel
theorem dX11_verdictOn_42 : decode cX11_verdictOn 42 = .ok (.aload_n 0, 1) := by decide +kernel
theorem dX11_verdictOn_43 : decode cX11_verdictOn 43 = .ok (.invokevirtual 206, 3) := by decide +kernel
theorem dX11_verdictOn_46 : decode cX11_verdictOn 46 = .ok (.istore 5, 2) := by decide +kernel
theorem dX11_verdictOn_48 : decode cX11_verdictOn 48 = .ok (.iconst 0, 1) := by decide +kernel
theorem dX11_verdictOn_49 : decode cX11_verdictOn 49 = .ok (.istore 6, 2) := by decide +kernel
theorem dX11_verdictOn_51 : decode cX11_verdictOn 51 = .ok (.iconst (-1), 1) := by decide +kernel
theorem dX11_verdictOn_52 : decode cX11_verdictOn 52 = .ok (.istore 7, 2) := by decide +kernel
theorem dX11_verdictOn_54 : decode cX11_verdictOn 54 = .ok (.iconst 1, 1) := by decide +kernel
theorem dX11_verdictOn_55 : decode cX11_verdictOn 55 = .ok (.istore 8, 2) := by decide +kernel
theorem dX11_verdictOn_57 : decode cX11_verdictOn 57 = .ok (.iload 8, 2) := by decide +kernel
theorem dX11_verdictOn_59 : decode cX11_verdictOn 59 = .ok (.aload_n 1, 1) := by decide +kernel
theorem dX11_verdictOn_60 : decode cX11_verdictOn 60 = .ok (.getfield 259, 3) := by decide +kernel
theorem dX11_verdictOn_63 : decode cX11_verdictOn 63 = .ok (.if_icmp .ge 153, 3) := by decide +kernel
theorem dX11_verdictOn_66 : decode cX11_verdictOn 66 = .ok (.aload_n 1, 1) := by decide +kernel
theorem dX11_verdictOn_67 : decode cX11_verdictOn 67 = .ok (.iload 8, 2) := by decide +kernel
theorem dX11_verdictOn_69 : decode cX11_verdictOn 69 = .ok (.invokevirtual 248, 3) := by decide +kernel
theorem dX11_verdictOn_72 : decode cX11_verdictOn 72 = .ok (.lstore 9, 2) := by decide +kernel
theorem dX11_verdictOn_74 : decode cX11_verdictOn 74 = .ok (.lload 9, 2) := by decide +kernel
theorem dX11_verdictOn_76 : decode cX11_verdictOn 76 = .ok (.lconst 0, 1) := by decide +kernel
theorem dX11_verdictOn_77 : decode cX11_verdictOn 77 = .ok (.lcmp, 1) := by decide +kernel
theorem dX11_verdictOn_78 : decode cX11_verdictOn 78 = .ok (.ifCond .lt 17, 3) := by decide +kernel
theorem dX11_verdictOn_81 : decode cX11_verdictOn 81 = .ok (.lload 9, 2) := by decide +kernel
theorem dX11_verdictOn_83 : decode cX11_verdictOn 83 = .ok (.aload_n 0, 1) := by decide +kernel
theorem dX11_verdictOn_84 : decode cX11_verdictOn 84 = .ok (.getfield 29, 3) := by decide +kernel
theorem dX11_verdictOn_87 : decode cX11_verdictOn 87 = .ok (.getfield 213, 3) := by decide +kernel
theorem dX11_verdictOn_90 : decode cX11_verdictOn 90 = .ok (.i2l, 1) := by decide +kernel
theorem dX11_verdictOn_91 : decode cX11_verdictOn 91 = .ok (.lcmp, 1) := by decide +kernel
theorem dX11_verdictOn_92 : decode cX11_verdictOn 92 = .ok (.ifCond .lt 11, 3) := by decide +kernel
theorem dX11_verdictOn_95 : decode cX11_verdictOn 95 = .ok (.iload 8, 2) := by decide +kernel
theorem dX11_verdictOn_97 : decode cX11_verdictOn 97 = .ok (.bipush 8, 2) := by decide +kernel
theorem dX11_verdictOn_99 : decode cX11_verdictOn 99 = .ok (.imul, 1) := by decide +kernel
theorem dX11_verdictOn_100 : decode cX11_verdictOn 100 = .ok (.iconst 1, 1) := by decide +kernel
theorem dX11_verdictOn_101 : decode cX11_verdictOn 101 = .ok (.iadd, 1) := by decide +kernel
theorem dX11_verdictOn_102 : decode cX11_verdictOn 102 = .ok (.ireturn, 1) := by decide +kernel
theorem dX11_verdictOn_103 : decode cX11_verdictOn 103 = .ok (.lload 9, 2) := by decide +kernel
theorem dX11_verdictOn_105 : decode cX11_verdictOn 105 = .ok (.l2i, 1) := by decide +kernel
theorem dX11_verdictOn_106 : decode cX11_verdictOn 106 = .ok (.istore 11, 2) := by decide +kernel
theorem dX11_verdictOn_108 : decode cX11_verdictOn 108 = .ok (.iload 5, 2) := by decide +kernel
theorem dX11_verdictOn_110 : decode cX11_verdictOn 110 = .ok (.iload 6, 2) := by decide +kernel
theorem dX11_verdictOn_112 : decode cX11_verdictOn 112 = .ok (.iconst (-1), 1) := by decide +kernel
theorem dX11_verdictOn_113 : decode cX11_verdictOn 113 = .ok (.ixor, 1) := by decide +kernel
theorem dX11_verdictOn_114 : decode cX11_verdictOn 114 = .ok (.iand, 1) := by decide +kernel
theorem dX11_verdictOn_115 : decode cX11_verdictOn 115 = .ok (.iload 11, 2) := by decide +kernel
theorem dX11_verdictOn_117 : decode cX11_verdictOn 117 = .ok (.ishr, 1) := by decide +kernel
theorem dX11_verdictOn_118 : decode cX11_verdictOn 118 = .ok (.iconst 1, 1) := by decide +kernel
theorem dX11_verdictOn_119 : decode cX11_verdictOn 119 = .ok (.iand, 1) := by decide +kernel
theorem dX11_verdictOn_120 : decode cX11_verdictOn 120 = .ok (.ifCond .ne 11, 3) := by decide +kernel
theorem dX11_verdictOn_123 : decode cX11_verdictOn 123 = .ok (.iload 8, 2) := by decide +kernel
theorem dX11_verdictOn_125 : decode cX11_verdictOn 125 = .ok (.bipush 8, 2) := by decide +kernel
theorem dX11_verdictOn_127 : decode cX11_verdictOn 127 = .ok (.imul, 1) := by decide +kernel
theorem dX11_verdictOn_128 : decode cX11_verdictOn 128 = .ok (.iconst 2, 1) := by decide +kernel
theorem dX11_verdictOn_129 : decode cX11_verdictOn 129 = .ok (.iadd, 1) := by decide +kernel
theorem dX11_verdictOn_130 : decode cX11_verdictOn 130 = .ok (.ireturn, 1) := by decide +kernel
theorem dX11_verdictOn_131 : decode cX11_verdictOn 131 = .ok (.iload 7, 2) := by decide +kernel
theorem dX11_verdictOn_133 : decode cX11_verdictOn 133 = .ok (.iconst (-1), 1) := by decide +kernel
theorem dX11_verdictOn_134 : decode cX11_verdictOn 134 = .ok (.if_icmp .ne 13, 3) := by decide +kernel
theorem dX11_verdictOn_137 : decode cX11_verdictOn 137 = .ok (.aload_n 0, 1) := by decide +kernel
theorem dX11_verdictOn_138 : decode cX11_verdictOn 138 = .ok (.getfield 29, 3) := by decide +kernel
theorem dX11_verdictOn_141 : decode cX11_verdictOn 141 = .ok (.getfield 155, 3) := by decide +kernel
theorem dX11_verdictOn_144 : decode cX11_verdictOn 144 = .ok (.goto 33, 3) := by decide +kernel
theorem dX11_verdictOn_147 : decode cX11_verdictOn 147 = .ok (.aload_n 0, 1) := by decide +kernel
theorem dX11_verdictOn_148 : decode cX11_verdictOn 148 = .ok (.getfield 29, 3) := by decide +kernel
theorem dX11_verdictOn_151 : decode cX11_verdictOn 151 = .ok (.getfield 158, 3) := by decide +kernel
theorem dX11_verdictOn_154 : decode cX11_verdictOn 154 = .ok (.iload 7, 2) := by decide +kernel
theorem dX11_verdictOn_156 : decode cX11_verdictOn 156 = .ok (.ishr, 1) := by decide +kernel
theorem dX11_verdictOn_157 : decode cX11_verdictOn 157 = .ok (.iconst 1, 1) := by decide +kernel
theorem dX11_verdictOn_158 : decode cX11_verdictOn 158 = .ok (.iand, 1) := by decide +kernel
theorem dX11_verdictOn_159 : decode cX11_verdictOn 159 = .ok (.ifCond .eq 7, 3) := by decide +kernel
theorem dX11_verdictOn_162 : decode cX11_verdictOn 162 = .ok (.iconst 0, 1) := by decide +kernel
theorem dX11_verdictOn_163 : decode cX11_verdictOn 163 = .ok (.goto 14, 3) := by decide +kernel
theorem dX11_verdictOn_166 : decode cX11_verdictOn 166 = .ok (.aload 4, 2) := by decide +kernel
theorem dX11_verdictOn_168 : decode cX11_verdictOn 168 = .ok (.iload 7, 2) := by decide +kernel
theorem dX11_verdictOn_170 : decode cX11_verdictOn 170 = .ok (.iconst 1, 1) := by decide +kernel
theorem dX11_verdictOn_171 : decode cX11_verdictOn 171 = .ok (.iload 11, 2) := by decide +kernel
theorem dX11_verdictOn_173 : decode cX11_verdictOn 173 = .ok (.ishl, 1) := by decide +kernel
theorem dX11_verdictOn_174 : decode cX11_verdictOn 174 = .ok (.invokevirtual 262, 3) := by decide +kernel
theorem dX11_verdictOn_177 : decode cX11_verdictOn 177 = .ok (.istore 12, 2) := by decide +kernel
theorem dX11_verdictOn_179 : decode cX11_verdictOn 179 = .ok (.iload 12, 2) := by decide +kernel
theorem dX11_verdictOn_181 : decode cX11_verdictOn 181 = .ok (.iload 11, 2) := by decide +kernel
theorem dX11_verdictOn_183 : decode cX11_verdictOn 183 = .ok (.ishr, 1) := by decide +kernel
theorem dX11_verdictOn_184 : decode cX11_verdictOn 184 = .ok (.iconst 1, 1) := by decide +kernel
theorem dX11_verdictOn_185 : decode cX11_verdictOn 185 = .ok (.iand, 1) := by decide +kernel
theorem dX11_verdictOn_186 : decode cX11_verdictOn 186 = .ok (.ifCond .ne 11, 3) := by decide +kernel
theorem dX11_verdictOn_189 : decode cX11_verdictOn 189 = .ok (.iload 8, 2) := by decide +kernel
theorem dX11_verdictOn_191 : decode cX11_verdictOn 191 = .ok (.bipush 8, 2) := by decide +kernel
theorem dX11_verdictOn_193 : decode cX11_verdictOn 193 = .ok (.imul, 1) := by decide +kernel
theorem dX11_verdictOn_194 : decode cX11_verdictOn 194 = .ok (.iconst 3, 1) := by decide +kernel
theorem dX11_verdictOn_195 : decode cX11_verdictOn 195 = .ok (.iadd, 1) := by decide +kernel
theorem dX11_verdictOn_196 : decode cX11_verdictOn 196 = .ok (.ireturn, 1) := by decide +kernel
theorem dX11_verdictOn_197 : decode cX11_verdictOn 197 = .ok (.iload 6, 2) := by decide +kernel
theorem dX11_verdictOn_199 : decode cX11_verdictOn 199 = .ok (.iconst 1, 1) := by decide +kernel
theorem dX11_verdictOn_200 : decode cX11_verdictOn 200 = .ok (.iload 11, 2) := by decide +kernel
theorem dX11_verdictOn_202 : decode cX11_verdictOn 202 = .ok (.ishl, 1) := by decide +kernel
theorem dX11_verdictOn_203 : decode cX11_verdictOn 203 = .ok (.ior, 1) := by decide +kernel
theorem dX11_verdictOn_204 : decode cX11_verdictOn 204 = .ok (.istore 6, 2) := by decide +kernel
theorem dX11_verdictOn_206 : decode cX11_verdictOn 206 = .ok (.iload 11, 2) := by decide +kernel
theorem dX11_verdictOn_208 : decode cX11_verdictOn 208 = .ok (.istore 7, 2) := by decide +kernel
theorem dX11_verdictOn_210 : decode cX11_verdictOn 210 = .ok (.iinc 8 1, 3) := by decide +kernel
theorem dX11_verdictOn_213 : decode cX11_verdictOn 213 = .ok (.goto (-156), 3) := by decide +kernel
theorem dX11_verdictOn_216 : decode cX11_verdictOn 216 = .ok (.iload 7, 2) := by decide +kernel
theorem dX11_verdictOn_218 : decode cX11_verdictOn 218 = .ok (.iconst (-1), 1) := by decide +kernel
theorem dX11_verdictOn_219 : decode cX11_verdictOn 219 = .ok (.if_icmp .eq 22, 3) := by decide +kernel
theorem dX11_verdictOn_222 : decode cX11_verdictOn 222 = .ok (.aload_n 0, 1) := by decide +kernel
theorem dX11_verdictOn_223 : decode cX11_verdictOn 223 = .ok (.getfield 29, 3) := by decide +kernel
theorem dX11_verdictOn_226 : decode cX11_verdictOn 226 = .ok (.getfield 158, 3) := by decide +kernel
theorem dX11_verdictOn_229 : decode cX11_verdictOn 229 = .ok (.iload 7, 2) := by decide +kernel
theorem dX11_verdictOn_231 : decode cX11_verdictOn 231 = .ok (.ishr, 1) := by decide +kernel
theorem dX11_verdictOn_232 : decode cX11_verdictOn 232 = .ok (.iconst 1, 1) := by decide +kernel
theorem dX11_verdictOn_233 : decode cX11_verdictOn 233 = .ok (.iand, 1) := by decide +kernel
theorem dX11_verdictOn_234 : decode cX11_verdictOn 234 = .ok (.ifCond .eq 7, 3) := by decide +kernel
theorem dX11_verdictOn_237 : decode cX11_verdictOn 237 = .ok (.iconst 1, 1) := by decide +kernel
theorem dX11_verdictOn_238 : decode cX11_verdictOn 238 = .ok (.goto 4, 3) := by decide +kernel
theorem dX11_verdictOn_241 : decode cX11_verdictOn 241 = .ok (.iconst 0, 1) := by decide +kernel
theorem dX11_verdictOn_242 : decode cX11_verdictOn 242 = .ok (.istore 8, 2) := by decide +kernel
theorem dX11_verdictOn_244 : decode cX11_verdictOn 244 = .ok (.iload 8, 2) := by decide +kernel
theorem dX11_verdictOn_246 : decode cX11_verdictOn 246 = .ok (.ifCond .eq 7, 3) := by decide +kernel
theorem dX11_verdictOn_249 : decode cX11_verdictOn 249 = .ok (.iconst 0, 1) := by decide +kernel
theorem dX11_verdictOn_250 : decode cX11_verdictOn 250 = .ok (.goto 12, 3) := by decide +kernel
theorem dX11_verdictOn_253 : decode cX11_verdictOn 253 = .ok (.aload_n 1, 1) := by decide +kernel
theorem dX11_verdictOn_254 : decode cX11_verdictOn 254 = .ok (.getfield 259, 3) := by decide +kernel
theorem dX11_verdictOn_257 : decode cX11_verdictOn 257 = .ok (.bipush 8, 2) := by decide +kernel
theorem dX11_verdictOn_259 : decode cX11_verdictOn 259 = .ok (.imul, 1) := by decide +kernel
theorem dX11_verdictOn_260 : decode cX11_verdictOn 260 = .ok (.iconst 4, 1) := by decide +kernel
theorem dX11_verdictOn_261 : decode cX11_verdictOn 261 = .ok (.iadd, 1) := by decide +kernel
theorem dX11_verdictOn_262 : decode cX11_verdictOn 262 = .ok (.ireturn, 1) := by decide +kernel
theorem kw_12 : Cond.initialized "FootholdWall$Tray" ∈ gw := gw_of (tb_of 12 (by decide +kernel)) (by decide +kernel)
theorem kw_193 : Cond.fieldLink "FootholdWall" 284 "FootholdWall$State" "years" "I" ∈ gw := gw_of (tb_of 193 (by decide +kernel)) (by decide +kernel)
theorem kw_352 : Cond.fieldLink "FootholdWall" 259 "FootholdWall$Tray" "size" "I" ∈ gw := gw_of (tb_of 352 (by decide +kernel)) (by decide +kernel)
theorem kw_365 : Cond.fieldLink "FootholdWall" 40 "FootholdWall" "before" "LFootholdWall$State;" ∈ gw := gw_of (tb_of 365 (by decide +kernel)) (by decide +kernel)
theorem kw_366 : Cond.fieldLink "FootholdWall" 43 "FootholdWall" "past" "[LFootholdWall$State;" ∈ gw := gw_of (tb_of 366 (by decide +kernel)) (by decide +kernel)
theorem kw_367 : Cond.fieldLink "FootholdWall" 47 "FootholdWall" "pastCount" "I" ∈ gw := gw_of (tb_of 367 (by decide +kernel)) (by decide +kernel)
theorem kw_368 : Cond.fieldLink "FootholdWall" 50 "FootholdWall" "pastNext" "I" ∈ gw := gw_of (tb_of 368 (by decide +kernel)) (by decide +kernel)
theorem kw_371 : Cond.fieldLink "FootholdWall" 62 "FootholdWall" "trays" "[LFootholdWall$Tray;" ∈ gw := gw_of (tb_of 371 (by decide +kernel)) (by decide +kernel)
theorem kw_374 : Cond.fieldLink "FootholdWall" 82 "FootholdWall" "ways" "LFootholdWall$Ways;" ∈ gw := gw_of (tb_of 374 (by decide +kernel)) (by decide +kernel)
theorem kw_688 : Cond.instanceMethod yX6_use ∈ gw := gw_of (tb_of 688 (by decide +kernel)) (by decide +kernel)
theorem kw_689 : Cond.selects "FootholdWall$State" yX6_use yX6_use ∈ gw := gw_of (tb_of 689 (by decide +kernel)) (by decide +kernel)
theorem kw_690 : Cond.code yX6_use cX6_use 4 (some (.int)) ∈ gw := gw_of (tb_of 690 (by decide +kernel)) (by decide +kernel)
theorem kw_703 : Cond.instanceMethod yX6_breakDown ∈ gw := gw_of (tb_of 703 (by decide +kernel)) (by decide +kernel)
theorem kw_704 : Cond.selects "FootholdWall$State" yX6_breakDown yX6_breakDown ∈ gw := gw_of (tb_of 704 (by decide +kernel)) (by decide +kernel)
theorem kw_705 : Cond.code yX6_breakDown cX6_breakDown 3 (some (.int)) ∈ gw := gw_of (tb_of 705 (by decide +kernel)) (by decide +kernel)
theorem kw_757 : Cond.methodLink "FootholdWall" 135 yX6_take ∈ gw := gw_of (tb_of 757 (by decide +kernel)) (by decide +kernel)
theorem kw_758 : Cond.instanceMethod yX6_take ∈ gw := gw_of (tb_of 758 (by decide +kernel)) (by decide +kernel)
theorem kw_759 : Cond.selects "FootholdWall$State" yX6_take yX6_take ∈ gw := gw_of (tb_of 759 (by decide +kernel)) (by decide +kernel)
theorem kw_760 : Cond.code yX6_take cX6_take 2 none ∈ gw := gw_of (tb_of 760 (by decide +kernel)) (by decide +kernel)
theorem kw_871 : Cond.methodLink "FootholdWall" 229 yX11_isTray ∈ gw := gw_of (tb_of 871 (by decide +kernel)) (by decide +kernel)
theorem kw_872 : Cond.static yX11_isTray ∈ gw := gw_of (tb_of 872 (by decide +kernel)) (by decide +kernel)
theorem kw_873 : Cond.code yX11_isTray cX11_isTray 1 (some (.boolean)) ∈ gw := gw_of (tb_of 873 (by decide +kernel)) (by decide +kernel)
theorem kw_874 : Cond.methodLink "FootholdWall" 232 yX8_isMissing ∈ gw := gw_of (tb_of 874 (by decide +kernel)) (by decide +kernel)
theorem kw_875 : Cond.instanceMethod yX8_isMissing ∈ gw := gw_of (tb_of 875 (by decide +kernel)) (by decide +kernel)
theorem kw_876 : Cond.selects "FootholdWall$Tray" yX8_isMissing yX8_isMissing ∈ gw := gw_of (tb_of 876 (by decide +kernel)) (by decide +kernel)
theorem kw_877 : Cond.code yX8_isMissing cX8_isMissing 1 (some (.boolean)) ∈ gw := gw_of (tb_of 877 (by decide +kernel)) (by decide +kernel)
theorem kw_878 : Cond.methodLink "FootholdWall" 236 yX11_verdictOn ∈ gw := gw_of (tb_of 878 (by decide +kernel)) (by decide +kernel)
theorem kw_880 : Cond.instanceMethod yX11_verdictOn ∈ gw := gw_of (tb_of 880 (by decide +kernel)) (by decide +kernel)
theorem kw_881 : Cond.code yX11_verdictOn cX11_verdictOn 13 (some (.int)) ∈ gw := gw_of (tb_of 881 (by decide +kernel)) (by decide +kernel)
theorem kw_882 : Cond.methodLink "FootholdWall" 248 yX8_at ∈ gw := gw_of (tb_of 882 (by decide +kernel)) (by decide +kernel)
theorem kw_883 : Cond.instanceMethod yX8_at ∈ gw := gw_of (tb_of 883 (by decide +kernel)) (by decide +kernel)
theorem kw_884 : Cond.selects "FootholdWall$Tray" yX8_at yX8_at ∈ gw := gw_of (tb_of 884 (by decide +kernel)) (by decide +kernel)
theorem kw_885 : Cond.code yX8_at cX8_at 2 (some (.long)) ∈ gw := gw_of (tb_of 885 (by decide +kernel)) (by decide +kernel)
theorem kw_887 : Cond.methodLink "FootholdWall" 262 yX5_stepped ∈ gw := gw_of (tb_of 887 (by decide +kernel)) (by decide +kernel)
theorem kw_888 : Cond.methodLink "FootholdWall" 240 yX11_toldSet ∈ gw := gw_of (tb_of 888 (by decide +kernel)) (by decide +kernel)
theorem kw_890 : Cond.instanceMethod yX11_toldSet ∈ gw := gw_of (tb_of 890 (by decide +kernel)) (by decide +kernel)
theorem kw_891 : Cond.code yX11_toldSet cX11_toldSet 4 (some (.int)) ∈ gw := gw_of (tb_of 891 (by decide +kernel)) (by decide +kernel)
theorem kw_892 : Cond.methodLink "FootholdWall" 265 yX9_middles ∈ gw := gw_of (tb_of 892 (by decide +kernel)) (by decide +kernel)
theorem kw_893 : Cond.methodLink "FootholdWall" 243 yJ6_bitCount_0f7a4 ∈ gw := gw_of (tb_of 893 (by decide +kernel)) (by decide +kernel)
theorem kw_898 : Cond.methodLink "FootholdWall" 252 yX6_use ∈ gw := gw_of (tb_of 898 (by decide +kernel)) (by decide +kernel)
theorem kw_899 : Cond.methodLink "FootholdWall" 256 yX11_remember ∈ gw := gw_of (tb_of 899 (by decide +kernel)) (by decide +kernel)
theorem kw_901 : Cond.instanceMethod yX11_remember ∈ gw := gw_of (tb_of 901 (by decide +kernel)) (by decide +kernel)
theorem kw_902 : Cond.code yX11_remember cX11_remember 2 none ∈ gw := gw_of (tb_of 902 (by decide +kernel)) (by decide +kernel)
theorem kw_903 : Cond.methodLink "FootholdWall" 292 Lib.Math.min.name ∈ gw := gw_of (tb_of 903 (by decide +kernel)) (by decide +kernel)
theorem kw_908 : Cond.methodLink "FootholdWall" 268 yX11_goUp ∈ gw := gw_of (tb_of 908 (by decide +kernel)) (by decide +kernel)
theorem kw_910 : Cond.instanceMethod yX11_goUp ∈ gw := gw_of (tb_of 910 (by decide +kernel)) (by decide +kernel)
theorem kw_911 : Cond.code yX11_goUp cX11_goUp 2 (some (.int)) ∈ gw := gw_of (tb_of 911 (by decide +kernel)) (by decide +kernel)
theorem kw_912 : Cond.methodLink "FootholdWall" 271 yX10_find ∈ gw := gw_of (tb_of 912 (by decide +kernel)) (by decide +kernel)
theorem kw_913 : Cond.instanceMethod yX10_find ∈ gw := gw_of (tb_of 913 (by decide +kernel)) (by decide +kernel)
theorem kw_914 : Cond.selects "FootholdWall$Ways" yX10_find yX10_find ∈ gw := gw_of (tb_of 914 (by decide +kernel)) (by decide +kernel)
theorem kw_915 : Cond.code yX10_find cX10_find 6 (some (.int)) ∈ gw := gw_of (tb_of 915 (by decide +kernel)) (by decide +kernel)
theorem kw_926 : Cond.methodLink "FootholdWall" 275 yX10_pathSet ∈ gw := gw_of (tb_of 926 (by decide +kernel)) (by decide +kernel)
theorem kw_927 : Cond.instanceMethod yX10_pathSet ∈ gw := gw_of (tb_of 927 (by decide +kernel)) (by decide +kernel)
theorem kw_928 : Cond.selects "FootholdWall$Ways" yX10_pathSet yX10_pathSet ∈ gw := gw_of (tb_of 928 (by decide +kernel)) (by decide +kernel)
theorem kw_929 : Cond.code yX10_pathSet cX10_pathSet 3 (some (.int)) ∈ gw := gw_of (tb_of 929 (by decide +kernel)) (by decide +kernel)
theorem kw_938 : Cond.methodLink "FootholdWall" 278 yX6_comeBack ∈ gw := gw_of (tb_of 938 (by decide +kernel)) (by decide +kernel)
theorem kw_939 : Cond.instanceMethod yX6_comeBack ∈ gw := gw_of (tb_of 939 (by decide +kernel)) (by decide +kernel)
theorem kw_940 : Cond.selects "FootholdWall$State" yX6_comeBack yX6_comeBack ∈ gw := gw_of (tb_of 940 (by decide +kernel)) (by decide +kernel)
theorem kw_941 : Cond.code yX6_comeBack cX6_comeBack 6 (some (.int)) ∈ gw := gw_of (tb_of 941 (by decide +kernel)) (by decide +kernel)
theorem kw_946 : Cond.methodLink "FootholdWall" 281 yX6_breakDown ∈ gw := gw_of (tb_of 946 (by decide +kernel)) (by decide +kernel)
theorem kw_955 : Cond.methodLink "FootholdWall" 287 yJ9_floorMod_7cf53 ∈ gw := gw_of (tb_of 955 (by decide +kernel)) (by decide +kernel)
theorem kw_956 : Cond.static yJ9_floorMod_7cf53 ∈ gw := gw_of (tb_of 956 (by decide +kernel)) (by decide +kernel)
theorem kw_957 : Cond.code yJ9_floorMod_7cf53 cJ9_floorMod_7cf53 3 (some (.int)) ∈ gw := gw_of (tb_of 957 (by decide +kernel)) (by decide +kernel)
theorem kw_962 : Cond.methodLink "FootholdWall" 295 yX11_drawn ∈ gw := gw_of (tb_of 962 (by decide +kernel)) (by decide +kernel)
theorem kw_963 : Cond.static yX11_drawn ∈ gw := gw_of (tb_of 963 (by decide +kernel)) (by decide +kernel)
theorem kw_964 : Cond.code yX11_drawn cX11_drawn 1 (some (.int)) ∈ gw := gw_of (tb_of 964 (by decide +kernel)) (by decide +kernel)
theorem ks_23 : Cond.selects RX11 yX11_verdictOn yX11_verdictOn ∈ gw := gw_of (pv_of 23 (by decide +kernel)) (by decide +kernel)
theorem ks_24 : Cond.selects RX11 yX11_toldSet yX11_toldSet ∈ gw := gw_of (pv_of 24 (by decide +kernel)) (by decide +kernel)
theorem ks_25 : Cond.selects RX11 yX11_remember yX11_remember ∈ gw := gw_of (pv_of 25 (by decide +kernel)) (by decide +kernel)
theorem ks_26 : Cond.selects RX11 yX11_goUp yX11_goUp ∈ gw := gw_of (pv_of 26 (by decide +kernel)) (by decide +kernel)
theorem tk_ofF {l : Launch} {D : va_G} {cs : CS} {kf : KF} {y : MethodName} {b : ByteArray} {n : Nat} {r : Option FieldType} {rm : Room} {as : List Value} {T : TF} {O : List Nat} {X : va_W} {Q : (Nat → Prop) → Array Value → State → Outcome → State → Prop} (hy : plainFor y = true) (hlen : (lg_sl as).length ≤ n)
    (body : ∀ (p : Program) (e : Env) (s : State) (m : MethodId) (below : List Frame) (meth : Method) (c : Code) (ls : Array Slot) (A : Nat → Prop) (H : Heap) (locs : List Loc), p.tables.exec = Jvm.exec → c.code = b → meth.sig.returnType = r → c.maxLocals = n → s.vm.findClass y.cls = some m.cls → (∀ w ∈ gw, w.before as.toArray s = true) → meth.locks = false → meth.name = y.name → kb D (tyc cs) s → HT D cs A T O X H → va_S A s.heap H locs → (∀ q : Nat, s.heap.size ≤ q → A q) → (∀ o ∈ O, ∃ (k : Nat) (e : va_E), X[k]? = some (o, e)) → kS kf s → kE kf A s s.heap → lv_has ls n (lv_args 0 as) →
      W p l e rm s m as.toArray below meth c H locs 0 0 (MQ below (Q A) as.toArray s rm.cells rm.slots A) (F0 m 0 ls [])) : TK l D cs kf y b n r rm as T O X Q := by
  intro sz
  refine MetFree.of_bodySF (code := b) (maxLocals := n) (ret := r) hy (fun args s m h hn => ?_) (fun p e s m args below meth c s₁ B hml hv _ => ?_)
  · obtain ⟨meth, c, h1, h2, h3, h4, h5, h6, -, -⟩ := Cond.code_spec hn (atoms_spec (ws := wl y b n r) h _ List.mem_cons_self)
    exact ⟨meth, c, h1, h2, h3, h4, h5, h6⟩
  · obtain ⟨rfl, hsz, hH, hK, hOX, hks, hE⟩ := hv
    have hts := atoms_spec (ws := wl y b n r) B.pre
    subst hsz
    have hh0 : s₁.heap = s.heap := by rw [B.state]; rfl
    have k := body p e s m below meth c _ _ _ [] B.exec B.bytes B.returns hml (findClass_of_methodNamed B.named) (fun w hw => hts w (List.mem_cons_of_mem _ hw)) B.notSynchronized (name_of_methodNamed B.named B.method).1 hK (hH.self hOX) va_S.rf (fun q h => Or.inr (Or.inr h)) hOX hks hE (lv_entry as hlen)
    rw [← lg_entry_eq] at k
    obtain ⟨t, a1, o, b1, b2, b3⟩ := k s₁ hh0 (Stand.of_body B)
    exact ⟨t, o, a1, b1, b2, ⟨b3.1, b3.2⟩⟩
theorem ne0_i {y : Int32} (h : y.toInt ≠ 0) : ¬ y = 0 := fun q => h (by rw [q]; decide)
set_option maxHeartbeats 4000000 in
set_option maxRecDepth 100000 in
theorem s_floorMod (l : Launch) (D : va_G) (cs : CS) (kf : KF) (T : TF) (O : List Nat) (X : va_W) (x0 : Int32) (x1 : Int32) (l_x1 : 10 ≤ x1.toInt) (u_x1 : x1.toInt ≤ 10) (hO : okO T O []) : TK l D cs kf yJ9_floorMod_7cf53 cJ9_floorMod_7cf53 3 (some (.int)) { frames := 0, cells := 0, slots := 0, locals := 0 } [.int x0, .int x1] T O X (Ti D cs (fun r u => u = (T, O, X) ∧ 0 ≤ r.toInt ∧ r.toInt ≤ 9)) := by
  refine tk_ofF (by decide +kernel) (Nat.le_of_ble_eq_true rfl) (fun p e s m below meth c ls A H locs hx hb hr hml hown hts hlocks hnm hkb hH hS hA hOX hks hE hl => ?_)
  have hown : s.vm.findClass RJ9 = some m.cls := hown
  have hl : lv_has ls 3 [(0, .int x0), (1, .int x1)] := hl
  refine lv_iload_n hx hb dJ9_floorMod_7cf53_0 rfl (lv_at hl 0 rfl) ?_
  refine lv_iload_n hx hb dJ9_floorMod_7cf53_1 rfl (lv_at hl 1 rfl) ?_
  refine lv_irem hx hb dJ9_floorMod_7cf53_2 (ne0_i (by omega)) ?_
  refine lv_topi (fun v2 ev2 => ?_)
  have tv2 : (0 ≤ x0.toInt → 0 ≤ v2.toInt) ∧ v2.toInt < x1.toInt ∧ -x1.toInt < v2.toInt ∧ (x0.toInt ≤ 0 → v2.toInt ≤ 0) := by rw [ev2]; exact irem_b rfl (by omega)
  refine lv_istore_n (lv' := [(2, .int v2), (0, .int x0), (1, .int x1)]) hx hb dJ9_floorMod_7cf53_3 rfl hl (by decide) rfl (fun ls hl => ?_)
  refine lv_iload_n hx hb dJ9_floorMod_7cf53_4 rfl (lv_at hl 1 rfl) ?_
  refine lv_iload_n hx hb dJ9_floorMod_7cf53_5 rfl (lv_at hl 2 rfl) ?_
  refine lv_ixor hx hb dJ9_floorMod_7cf53_6 ?_
  refine lv_topi (fun v6 ev6 => ?_)
  have tv6 : v6.toInt < 0 ↔ x0.toInt < 0 := by rw [ev6]; exact xor_s (by omega)
  have J18 : ∀  (H : Heap) (locs : List Loc) (ls : Array Slot), (0 ≤ v2.toInt) → HT D cs A T O X H → va_S A s.heap H locs → lv_has ls 3 [(2, .int v2)] → W p l e { frames := 0, cells := 0, slots := 0, locals := 0 } s m [.int x0, .int x1].toArray below meth c H locs 0 0 (MQ below (Ti D cs (fun r u => u = (T, O, X) ∧ 0 ≤ r.toInt ∧ r.toInt ≤ 9) A) [.int x0, .int x1].toArray s 0 0 A) (F0 m 18 ls []) := by
    intro  H locs ls i18 hH hS hl
    refine lv_iload_n hx hb dJ9_floorMod_7cf53_18 rfl (lv_at hl 0 rfl) ?_
    exact te_i hx hb hr hlocks hH hS (⟨rfl, by omega, by omega⟩) dJ9_floorMod_7cf53_19
  refine lv_if_ge (tgt := 18) hx hb dJ9_floorMod_7cf53_7 (by decide) (fun c7 => ?_) (fun c7 => ?_)
  · skip
    have tc7 := f_ge (k := 0) (by decide) c7
    exact J18  _ _ _ (by omega) hH hS (lv_sub hl [0] rfl)
  · skip
    have tc7 := f_nge (k := 0) (by decide) c7
    refine lv_iload_n hx hb dJ9_floorMod_7cf53_10 rfl (lv_at hl 0 rfl) ?_
    refine lv_if_eq (tgt := 18) hx hb dJ9_floorMod_7cf53_11 (by decide) (fun c11 => ?_) (fun c11 => ?_)
    · skip
      have tc11 := f_eq (k := 0) (by decide) c11
      exact J18  _ _ _ (by omega) hH hS (lv_sub hl [0] rfl)
    · skip
      have tc11 := f_ne (k := 0) (by decide) c11
      refine lv_iload_n hx hb dJ9_floorMod_7cf53_14 rfl (lv_at hl 0 rfl) ?_
      refine lv_iload_n hx hb dJ9_floorMod_7cf53_15 rfl (lv_at hl 2 rfl) ?_
      refine lv_iadd hx hb dJ9_floorMod_7cf53_16 ?_
      refine lv_topi (fun v16 ev16 => ?_)
      have tv16 : v16.toInt = v2.toInt + x1.toInt := by rw [ev16]; exact add_i rfl rfl (by omega) (by omega)
      exact te_i hx hb hr hlocks hH hS (⟨rfl, by omega, by omega⟩) dJ9_floorMod_7cf53_17
set_option maxHeartbeats 4000000 in
set_option maxRecDepth 100000 in
theorem s_FW_remember (l : Launch) (D : va_G) (cs : CS) (kf : KF) (T : TF) (O : List Nat) (X : va_W) (a0 w hw gw ch gq : Nat) (t_a0 : T a0 = some (21, w, ch)) (t_w : isW T w hw gw) (t_ch : T ch = some (10, gq, 0)) (hO : okO T O [4, 16, 21]) : TK l D cs kf yX11_remember cX11_remember 2 none { frames := 1, cells := 0, slots := 0, locals := 14 } [.ref a0] T O X (Tv D cs (fun u => u = (T, O, X))) := by
  refine tk_of (by decide) (Nat.le_of_ble_eq_true rfl) (fun p e s m below meth c ls A H locs hx hb hr hml hown hts hlocks hnm hkb hH hS hA hOX hks hE hl => ?_)
  have hown : s.vm.findClass RX11 = some m.cls := hown
  have hl : lv_has ls 2 [(0, .ref a0)] := hl
  have b1_w := t_w.2.1
  have b2_w := t_w.2.2
  refine lv_aload_n hx hb dX11_remember_0 rfl (lv_at hl 0 rfl) ?_
  refine t_get (ci := 11) (lst := ft11 w ch) (C := RX11) (F := TX11) (N := 20) hx hb hts uX11 hown hkb hH t_a0 (hO.no t_a0 (by decide)) (fun _ h9 => h9) rfl rfl 6 (by decide) rfl kw_366 (fun _ h9 => h9) dX11_remember_1 (fun v9 h9 => ?_)
  obtain ⟨v1, rfl, t_v1⟩ := h9
  refine lv_aload_n hx hb dX11_remember_4 rfl (lv_at hl 0 rfl) ?_
  refine t_get (ci := 11) (lst := ft11 w ch) (C := RX11) (F := TX11) (N := 20) hx hb hts uX11 hown hkb hH t_a0 (hO.no t_a0 (by decide)) (fun _ h9 => h9) rfl rfl 8 (by decide) rfl kw_368 (fun _ h9 => h9) dX11_remember_5 (fun v9 h9 => ?_)
  obtain ⟨v5, rfl, l_v5, u_v5⟩ := h9
  refine t_qld4 hx hb hkb hH t_v1 (hO.no t_v1 (by decide)) (by omega) (by omega) dX11_remember_8 (fun v8 t_v8 => ?_)
  refine lv_astore_n (lv' := [(1, .ref v8), (0, .ref a0)]) hx hb dX11_remember_9 rfl hl (by decide) rfl (fun ls hl => ?_)
  refine lv_aload_n hx hb dX11_remember_10 rfl (lv_at hl 1 rfl) ?_
  refine t_get (ci := 11) (lst := ft11 w ch) (C := RX11) (F := TX11) (N := 20) hx hb hts uX11 hown hkb hH t_a0 (hO.no t_a0 (by decide)) (fun _ h9 => h9) rfl rfl 6 (by decide) rfl kw_366 (fun _ h9 => h9) dX11_remember_11 (fun v9 h9 => ?_)
  obtain ⟨v11, rfl, t_v11⟩ := h9
  refine lv_aload_n hx hb dX11_remember_14 rfl (lv_at hl 1 rfl) ?_
  refine t_get (ci := 11) (lst := ft11 w ch) (C := RX11) (F := TX11) (N := 20) hx hb hts uX11 hown hkb hH t_a0 (hO.no t_a0 (by decide)) (fun _ h9 => h9) rfl rfl 8 (by decide) rfl kw_368 (fun _ h9 => h9) dX11_remember_15 (fun v9 h9 => ?_)
  obtain ⟨v15, rfl, l_v15, u_v15⟩ := h9
  refine lv_aload_n hx hb dX11_remember_18 rfl (lv_at hl 1 rfl) ?_
  refine t_get (ci := 11) (lst := ft11 w ch) (C := RX11) (F := TX11) (N := 20) hx hb hts uX11 hown hkb hH t_a0 (hO.no t_a0 (by decide)) (fun _ h9 => h9) rfl rfl 5 (by decide) rfl kw_365 (fun _ h9 => h9) dX11_remember_19 (fun v9 h9 => ?_)
  obtain ⟨v19, rfl, t_v19⟩ := h9
  refine t_qst4 hx hb hkb hH hS t_v11 (hO.no t_v11 (by decide)) t_v19 (hO.no t_v19 (by decide)) (by omega) (by omega) dX11_remember_22 (fun H locs hH hS => ?_)
  refine lv_aload_n hx hb dX11_remember_23 rfl (lv_at hl 1 rfl) ?_
  refine lv_aload_n hx hb dX11_remember_24 rfl (lv_at hl 0 rfl) ?_
  refine t_put (ci := 11) (lst := ft11 w ch) (v := .ref v8) (ty := tyX11 5) (C := RX11) (F := TX11) (N := 20) hx hb hts uX11 tyX11 tyX11_ok nmX11 hown hkb hH hS t_a0 (hO.no t_a0 (by decide)) (fun _ => Iff.rfl) rfl rfl 5 (by decide) rfl (⟨_, rfl, t_v8⟩) kw_365 (fun _ h9 => h9) rfl (tyX11_ok 5 (by decide)) rfl rfl dX11_remember_25 (fun H locs hH hS => ?_)
  refine lv_aload_n hx hb dX11_remember_28 rfl (lv_at hl 1 rfl) ?_
  refine lv_aload_n hx hb dX11_remember_29 rfl (lv_at hl 1 rfl) ?_
  refine t_get (ci := 11) (lst := ft11 w ch) (C := RX11) (F := TX11) (N := 20) hx hb hts uX11 hown hkb hH t_a0 (hO.no t_a0 (by decide)) (fun _ h9 => h9) rfl rfl 8 (by decide) rfl kw_368 (fun _ h9 => h9) dX11_remember_30 (fun v9 h9 => ?_)
  obtain ⟨v30, rfl, l_v30, u_v30⟩ := h9
  refine lv_iconst (v := 1) hx hb dX11_remember_33 (by decide) ?_
  refine lv_iadd hx hb dX11_remember_34 ?_
  refine lv_topi (fun v34 ev34 => ?_)
  have tv34 : v34.toInt = v30.toInt + (1) := by rw [ev34]; exact add_i rfl (by decide : (1 : Int32).toInt = 1) (by omega) (by omega)
  refine lv_bipush (v := 10) hx hb dX11_remember_35 (by decide) ?_
  refine lv_irem hx hb dX11_remember_37 (by decide) ?_
  refine lv_topi (fun v37 ev37 => ?_)
  have tv37 : (0 ≤ v34.toInt → 0 ≤ v37.toInt) ∧ v37.toInt < 10 ∧ -10 < v37.toInt ∧ (v34.toInt ≤ 0 → v37.toInt ≤ 0) := by rw [ev37]; exact irem_b (by decide) (by decide)
  refine t_put (ci := 11) (lst := ft11 w ch) (v := .int v37) (ty := tyX11 8) (C := RX11) (F := TX11) (N := 20) hx hb hts uX11 tyX11 tyX11_ok nmX11 hown hkb hH hS t_a0 (hO.no t_a0 (by decide)) (fun _ => Iff.rfl) rfl rfl 8 (by decide) rfl (⟨_, rfl, by omega, by omega⟩) kw_368 (fun _ h9 => h9) rfl (tyX11_ok 8 (by decide)) rfl rfl dX11_remember_38 (fun H locs hH hS => ?_)
  refine lv_aload_n hx hb dX11_remember_41 rfl (lv_at hl 1 rfl) ?_
  refine lv_aload_n hx hb dX11_remember_42 rfl (lv_at hl 1 rfl) ?_
  refine t_get (ci := 11) (lst := ft11 w ch) (C := RX11) (F := TX11) (N := 20) hx hb hts uX11 hown hkb hH t_a0 (hO.no t_a0 (by decide)) (fun _ h9 => h9) rfl rfl 7 (by decide) rfl kw_367 (fun _ h9 => h9) dX11_remember_43 (fun v9 h9 => ?_)
  obtain ⟨v43, rfl, l_v43, u_v43⟩ := h9
  refine lv_iconst (v := 1) hx hb dX11_remember_46 (by decide) ?_
  refine lv_iadd hx hb dX11_remember_47 ?_
  refine lv_topi (fun v47 ev47 => ?_)
  have tv47 : v47.toInt = v43.toInt + (1) := by rw [ev47]; exact add_i rfl (by decide : (1 : Int32).toInt = 1) (by omega) (by omega)
  refine lv_bipush (v := 10) hx hb dX11_remember_48 (by decide) ?_
  refine va_mmin hx hb (by rw [hml]; exact hl.1.symm) hown (hts _ kw_903) (hts _ kw_450) (hts _ kw_6) (hts _ kw_451) (Nat.le_of_ble_eq_true rfl) (Nat.le_of_ble_eq_true rfl) (Nat.le_of_ble_eq_true rfl) (Nat.le_of_ble_eq_true rfl) dX11_remember_50 ?_
  refine lv_topi (fun v50 ev50 => ?_)
  have tv50 : v50.toInt = min v47.toInt (10) := by rw [ev50]; exact min_i rfl (by decide : (10 : Int32).toInt = 10)
  refine t_put (ci := 11) (lst := ft11 w ch) (v := .int v50) (ty := tyX11 7) (C := RX11) (F := TX11) (N := 20) hx hb hts uX11 tyX11 tyX11_ok nmX11 hown hkb hH hS t_a0 (hO.no t_a0 (by decide)) (fun _ => Iff.rfl) rfl rfl 7 (by decide) rfl (⟨_, rfl, by omega, by omega⟩) kw_367 (fun _ h9 => h9) rfl (tyX11_ok 7 (by decide)) rfl rfl dX11_remember_53 (fun H locs hH hS => ?_)
  exact te_v hx hb hr hlocks hH hS rfl dX11_remember_56
set_option maxHeartbeats 4000000 in
set_option maxRecDepth 100000 in
theorem s_FW_verdictOn (l : Launch) (D : va_G) (cs : CS) (kf : KF) (T : TF) (O : List Nat) (X : va_W) (a0 w hw gw ch gq : Nat) (a1 : Nat) (t_a0 : T a0 = some (21, w, ch)) (t_w : isW T w hw gw) (t_ch : T ch = some (10, gq, 0)) (t_a1 : T a1 = some (18, 0, 0)) (hO : okO T O [1, 2, 7, 12, 15, 16, 18, 19, 21]) : TK l D cs kf yX11_verdictOn cX11_verdictOn 13 (some (.int)) { frames := 4, cells := 0, slots := 0, locals := 101 } [.ref a0, .ref a1] T O X (Ti D cs (fun r u => u = (T, O, X) ∧ -4 ≤ r.toInt ∧ r.toInt ≤ 324)) := by
  refine tk_of (by decide) (Nat.le_of_ble_eq_true rfl) (fun p e s m below meth c ls A H locs hx hb hr hml hown hts hlocks hnm hkb hH hS hA hOX hks hE hl => ?_)
  have hown : s.vm.findClass RX11 = some m.cls := hown
  have hl : lv_has ls 13 [(0, .ref a0), (1, .ref a1)] := hl
  have b1_w := t_w.2.1
  have b2_w := t_w.2.2
  refine lv_aload_n hx hb dX11_verdictOn_0 rfl (lv_at hl 1 rfl) ?_
  refine lv_iconst (v := 0) hx hb dX11_verdictOn_1 (by decide) ?_
  refine tk_l hH hS hA (tr_V (n := 1) (As := [.int 0]) hx hb hml hown hts hkb hH hOX hks hE hS hA (s_Tray_at l D cs kf T O X a1 (0) t_a1 (hO.sub (by decide))) kw_882 kw_883 kw_884 kw_12 kw_885 (by decide +kernel) ⟨Nat.le_of_ble_eq_true rfl, Nat.le_of_ble_eq_true rfl⟩ (HT.recv (ci := 8) hkb hH t_a1 (hO.no t_a1 (by decide)) rfl) rfl rfl hl.1 (Nat.le_of_ble_eq_true rfl) dX11_verdictOn_2 ⟨Nat.le_of_ble_eq_true rfl, Nat.le_of_ble_eq_true rfl⟩) (fun v2 u H locs hz9 hH hS => ?_)
  have hz9 : u = (T, O, X) := hz9
  subst hz9
  have hH : HT D cs A T O X H := hH
  refine W.widen (k := 0) (n := 0) (Nat.le_of_ble_eq_true rfl) (Nat.le_of_ble_eq_true rfl) ?_
  refine lv_lstore_n (lv' := [(2, .long v2), (0, .ref a0), (1, .ref a1)]) hx hb dX11_verdictOn_5 rfl hl (by decide) rfl (fun ls hl => ?_)
  refine lv_aload_n hx hb dX11_verdictOn_6 rfl (lv_at hl 2 rfl) ?_
  refine t_get (ci := 8) (lst := ft8 0 0) (C := RX8) (F := TX8) (N := 3) hx hb hts uX8 hown hkb hH t_a1 (hO.no t_a1 (by decide)) (fun _ h9 => h9) rfl rfl 2 (by decide) rfl kw_352 (fun _ h9 => h9) dX11_verdictOn_7 (fun v9 h9 => ?_)
  obtain ⟨v7, rfl, l_v7, u_v7⟩ := h9
  have J32 : ∀  (H : Heap) (locs : List Loc) (ls : Array Slot), HT D cs A T O X H → va_S A s.heap H locs → lv_has ls 13 [] → W p l e { frames := 4, cells := 0, slots := 0, locals := 101 } s m [.ref a0, .ref a1].toArray below meth c H locs 0 0 (MQ below (Ti D cs (fun r u => u = (T, O, X) ∧ -4 ≤ r.toInt ∧ r.toInt ≤ 324) A) [.ref a0, .ref a1].toArray s 0 0 A) (F0 m 32 ls []) := by
    intro  H locs ls  hH hS hl
    refine lv_iconst (v := 1) hx hb dX11_verdictOn_32 (by decide) ?_
    exact te_i hx hb hr hlocks hH hS (⟨rfl, by decide, by decide⟩) dX11_verdictOn_33
  refine lv_if_eq (tgt := 32) hx hb dX11_verdictOn_10 (by decide) (fun c10 => ?_) (fun c10 => ?_)
  · skip
    have tc10 := f_eq (k := 0) (by decide) c10
    exact J32  _ _ _  hH hS (lv_sub hl [] rfl)
  · skip
    have tc10 := f_ne (k := 0) (by decide) c10
    refine lv_lload_n hx hb dX11_verdictOn_13 rfl (lv_at hl 0 rfl) ?_
    refine lv_lconst (v := 0) hx hb dX11_verdictOn_14 (by decide) ?_
    refine W.lcmp hx hb dX11_verdictOn_15 ?_
    refine lv_if_lt (tgt := 32) hx hb dX11_verdictOn_16 (by decide) (fun c16 => ?_) (fun c16 => ?_)
    · skip
      have tc16 := lt_l c16
      have kc16_0 : (0 : Int64).toInt = 0 := by decide
      exact J32  _ _ _  hH hS (lv_sub hl [] rfl)
    · skip
      have tc16 := nlt_l c16
      have kc16_0 : (0 : Int64).toInt = 0 := by decide
      refine lv_lload_n hx hb dX11_verdictOn_19 rfl (lv_at hl 0 rfl) ?_
      refine lv_aload_n hx hb dX11_verdictOn_20 rfl (lv_at hl 1 rfl) ?_
      refine t_get (ci := 11) (lst := ft11 w ch) (C := RX11) (F := TX11) (N := 20) hx hb hts uX11 hown hkb hH t_a0 (hO.no t_a0 (by decide)) (fun _ h9 => h9) rfl rfl 3 (by decide) rfl kw_363 (fun _ h9 => h9) dX11_verdictOn_21 (fun v9 h9 => ?_)
      have h9 : v9 = .ref w := h9
      subst h9
      refine t_get (ci := 9) (lst := ft9w hw gw) (C := RX9) (F := TX9) (N := 14) hx hb hts uX9 hown hkb hH t_w.1 (hO.no t_w.1 (by decide)) (fun fs => (ob9w t_w fs).mp) rfl rfl 1 (by decide) rfl kw_112 (fun _ h9 => h9) dX11_verdictOn_24 (fun v9 h9 => ?_)
      have h9 : v9 = .int (nI gw) := h9
      subst h9
      have e_gw : (nI gw).toInt = gw := nI_toInt (by have := t_w.2.2; omega)
      have b_gw := t_w.2.2
      refine lv_i2l hx hb dX11_verdictOn_27 rfl ?_
      refine W.lcmp hx hb dX11_verdictOn_28 ?_
      refine lv_if_lt (tgt := 34) hx hb dX11_verdictOn_29 (by decide) (fun c29 => ?_) (fun c29 => ?_)
      · skip
        have tc29 := lt_l c29
        rw [Int32.toInt_toInt64] at tc29
        refine lv_aload_n hx hb dX11_verdictOn_34 rfl (lv_at hl 1 rfl) ?_
        refine lv_lload_n hx hb dX11_verdictOn_35 rfl (lv_at hl 0 rfl) ?_
        refine lv_l2i hx hb dX11_verdictOn_36 rfl ?_
        refine lv_topi (fun v36 ev36 => ?_)
        have tv36 : v36.toInt = v2.toInt := by rw [ev36]; exact l2i_b (by omega) (by omega)
        refine tk_r hH hS hA (tr_V (n := 1) (As := [.int v36]) hx hb hml hown hts hkb hH hOX hks hE hS hA (s_FW_rowsOf l D cs kf T O X a0 w hw gw ch gq v36 t_a0 t_w t_ch (by omega) (by omega) (hO.sub (by decide))) kw_830 kw_832 ks_21 kw_1 kw_833 (by decide +kernel) ⟨Nat.le_of_ble_eq_true rfl, Nat.le_of_ble_eq_true rfl⟩ (HT.recv (ci := 11) hkb hH t_a0 (hO.no t_a0 (by decide)) rfl) rfl rfl hl.1 (Nat.le_of_ble_eq_true rfl) dX11_verdictOn_37 ⟨Nat.le_of_ble_eq_true rfl, Nat.le_of_ble_eq_true rfl⟩) (fun v37 u H locs hz9 hH hS => ?_)
        obtain ⟨hu9, t_v37⟩ := hz9
        have hu9 : u = (T, O, X) := hu9
        subst hu9
        have hH : HT D cs A T O X H := hH
        refine W.widen (k := 0) (n := 0) (Nat.le_of_ble_eq_true rfl) (Nat.le_of_ble_eq_true rfl) ?_
        refine lv_astore (lv' := [(4, .ref v37), (2, .long v2), (0, .ref a0), (1, .ref a1)]) hx hb dX11_verdictOn_40 hl (by decide) rfl (fun ls hl => ?_)
        refine lv_aload_n hx hb dX11_verdictOn_42 rfl (lv_at hl 2 rfl) ?_
        refine tk_i hH hS hA (tr_V (n := 0) (As := []) hx hb hml hown hts hkb hH hOX hks hE hS hA (s_FW_openNow l D cs kf T O X a0 w hw gw ch gq t_a0 t_w t_ch (hO.sub (by decide))) kw_846 kw_848 ks_22 kw_1 kw_849 (by decide +kernel) ⟨Nat.le_of_ble_eq_true rfl, Nat.le_of_ble_eq_true rfl⟩ (HT.recv (ci := 11) hkb hH t_a0 (hO.no t_a0 (by decide)) rfl) rfl rfl hl.1 (Nat.le_of_ble_eq_true rfl) dX11_verdictOn_43 ⟨Nat.le_of_ble_eq_true rfl, Nat.le_of_ble_eq_true rfl⟩) (fun v43 u H locs hz9 hH hS => ?_)
        obtain ⟨rfl, l_v43, u_v43⟩ := hz9
        have hH : HT D cs A T O X H := hH
        refine W.widen (k := 0) (n := 0) (Nat.le_of_ble_eq_true rfl) (Nat.le_of_ble_eq_true rfl) ?_
        refine lv_istore (lv' := [(5, .int v43), (4, .ref v37), (2, .long v2), (0, .ref a0), (1, .ref a1)]) hx hb dX11_verdictOn_46 hl (by decide) rfl (fun ls hl => ?_)
        refine lv_iconst (v := 0) hx hb dX11_verdictOn_48 (by decide) ?_
        refine lv_istore (lv' := [(6, .int 0), (5, .int v43), (4, .ref v37), (2, .long v2), (0, .ref a0), (1, .ref a1)]) hx hb dX11_verdictOn_49 hl (by decide) rfl (fun ls hl => ?_)
        refine lv_iconst (v := (-1)) hx hb dX11_verdictOn_51 (by decide) ?_
        refine lv_istore (lv' := [(7, .int (-1)), (6, .int 0), (5, .int v43), (4, .ref v37), (2, .long v2), (0, .ref a0), (1, .ref a1)]) hx hb dX11_verdictOn_52 hl (by decide) rfl (fun ls hl => ?_)
        refine lv_iconst (v := 1) hx hb dX11_verdictOn_54 (by decide) ?_
        have J57 : ∀ (n : Nat) (p57_8 : Int32) (p57_7 : Int32) (p57_6 : Int32) (H : Heap) (locs : List Loc) (ls : Array Slot), (40 - p57_8.toInt).toNat = n → (1 ≤ p57_8.toInt) → (p57_8.toInt ≤ 40) → HT D cs A T O X H → va_S A s.heap H locs → lv_has ls 13 [(8, .int p57_8), (7, .int p57_7), (6, .int p57_6), (5, .int v43), (4, .ref v37), (0, .ref a0), (1, .ref a1)] → W p l e { frames := 4, cells := 0, slots := 0, locals := 101 } s m [.ref a0, .ref a1].toArray below meth c H locs 0 0 (MQ below (Ti D cs (fun r u => u = (T, O, X) ∧ -4 ≤ r.toInt ∧ r.toInt ≤ 324) A) [.ref a0, .ref a1].toArray s 0 0 A) (F0 m 57 ls []) := by
          intro n
          induction n using Nat.strongRecOn with
          | _ n ih57 =>
            intro p57_8 p57_7 p57_6 H locs ls hm57 l_p57_8 u_p57_8 hH hS hl
            refine lv_iload hx hb dX11_verdictOn_57 (lv_at hl 0 rfl) ?_
            refine lv_aload_n hx hb dX11_verdictOn_59 rfl (lv_at hl 6 rfl) ?_
            refine t_get (ci := 8) (lst := ft8 0 0) (C := RX8) (F := TX8) (N := 3) hx hb hts uX8 hown hkb hH t_a1 (hO.no t_a1 (by decide)) (fun _ h9 => h9) rfl rfl 2 (by decide) rfl kw_352 (fun _ h9 => h9) dX11_verdictOn_60 (fun v9 h9 => ?_)
            obtain ⟨v60, rfl, l_v60, u_v60⟩ := h9
            refine lv_icmp_ge (tgt := 216) hx hb dX11_verdictOn_63 (by decide) (fun c63 => ?_) (fun c63 => ?_)
            · skip
              have fuc63 := full_i p57_8
              have fvc63 := full_i v60
              have tc63 := g_le c63
              refine lv_iload hx hb dX11_verdictOn_216 (lv_at hl 1 rfl) ?_
              refine lv_iconst (v := (-1)) hx hb dX11_verdictOn_218 (by decide) ?_
              have J242 : ∀ (k242_0 : Int32) (H : Heap) (locs : List Loc) (ls : Array Slot), (0 ≤ k242_0.toInt) → (k242_0.toInt ≤ 1) → HT D cs A T O X H → va_S A s.heap H locs → lv_has ls 13 [(1, .ref a1)] → W p l e { frames := 4, cells := 0, slots := 0, locals := 101 } s m [.ref a0, .ref a1].toArray below meth c H locs 0 0 (MQ below (Ti D cs (fun r u => u = (T, O, X) ∧ -4 ≤ r.toInt ∧ r.toInt ≤ 324) A) [.ref a0, .ref a1].toArray s 0 0 A) (F0 m 242 ls [.int k242_0]) := by
                intro k242_0 H locs ls l_k242_0 u_k242_0 hH hS hl
                refine lv_istore (lv' := [(8, .int k242_0), (1, .ref a1)]) hx hb dX11_verdictOn_242 hl (by decide) rfl (fun ls hl => ?_)
                refine lv_iload hx hb dX11_verdictOn_244 (lv_at hl 0 rfl) ?_
                have J262 : ∀ (k262_0 : Int32) (H : Heap) (locs : List Loc) (ls : Array Slot), (-4 ≤ k262_0.toInt) → (k262_0.toInt ≤ 324) → HT D cs A T O X H → va_S A s.heap H locs → lv_has ls 13 [] → W p l e { frames := 4, cells := 0, slots := 0, locals := 101 } s m [.ref a0, .ref a1].toArray below meth c H locs 0 0 (MQ below (Ti D cs (fun r u => u = (T, O, X) ∧ -4 ≤ r.toInt ∧ r.toInt ≤ 324) A) [.ref a0, .ref a1].toArray s 0 0 A) (F0 m 262 ls [.int k262_0]) := by
                  intro k262_0 H locs ls l_k262_0 u_k262_0 hH hS hl
                  exact te_i hx hb hr hlocks hH hS (⟨rfl, by omega, by omega⟩) dX11_verdictOn_262
                refine lv_if_eq (tgt := 253) hx hb dX11_verdictOn_246 (by decide) (fun c246 => ?_) (fun c246 => ?_)
                · skip
                  have tc246 := f_eq (k := 0) (by decide) c246
                  refine lv_aload_n hx hb dX11_verdictOn_253 rfl (lv_at hl 1 rfl) ?_
                  refine t_get (ci := 8) (lst := ft8 0 0) (C := RX8) (F := TX8) (N := 3) hx hb hts uX8 hown hkb hH t_a1 (hO.no t_a1 (by decide)) (fun _ h9 => h9) rfl rfl 2 (by decide) rfl kw_352 (fun _ h9 => h9) dX11_verdictOn_254 (fun v9 h9 => ?_)
                  obtain ⟨v254, rfl, l_v254, u_v254⟩ := h9
                  refine lv_bipush (v := 8) hx hb dX11_verdictOn_257 (by decide) ?_
                  refine lv_imul hx hb dX11_verdictOn_259 ?_
                  refine lv_topi (fun v259 ev259 => ?_)
                  have tv259 : v259.toInt = v254.toInt * (8) := by rw [ev259]; exact mul_i rfl (by decide : (8 : Int32).toInt = 8) (by omega) (by omega)
                  refine lv_iconst (v := 4) hx hb dX11_verdictOn_260 (by decide) ?_
                  refine lv_iadd hx hb dX11_verdictOn_261 ?_
                  refine lv_topi (fun v261 ev261 => ?_)
                  have tv261 : v261.toInt = v259.toInt + (4) := by rw [ev261]; exact add_i rfl (by decide : (4 : Int32).toInt = 4) (by omega) (by omega)
                  exact J262 v261 _ _ _ (by omega) (by omega) hH hS (lv_sub hl [] rfl)
                · skip
                  have tc246 := f_ne (k := 0) (by decide) c246
                  refine lv_iconst (v := 0) hx hb dX11_verdictOn_249 (by decide) ?_
                  refine lv_goto (tgt := 262) hx hb dX11_verdictOn_250 (by decide) ?_
                  exact J262 0 _ _ _ (by decide) (by decide) hH hS (lv_sub hl [] rfl)
              have J241 : ∀  (H : Heap) (locs : List Loc) (ls : Array Slot), HT D cs A T O X H → va_S A s.heap H locs → lv_has ls 13 [(1, .ref a1)] → W p l e { frames := 4, cells := 0, slots := 0, locals := 101 } s m [.ref a0, .ref a1].toArray below meth c H locs 0 0 (MQ below (Ti D cs (fun r u => u = (T, O, X) ∧ -4 ≤ r.toInt ∧ r.toInt ≤ 324) A) [.ref a0, .ref a1].toArray s 0 0 A) (F0 m 241 ls []) := by
                intro  H locs ls  hH hS hl
                refine lv_iconst (v := 0) hx hb dX11_verdictOn_241 (by decide) ?_
                exact J242 0 _ _ _ (by decide) (by decide) hH hS (lv_sub hl [0] rfl)
              refine lv_icmp_eq (tgt := 241) hx hb dX11_verdictOn_219 (by decide) (fun c219 => ?_) (fun c219 => ?_)
              · skip
                have tc219 := f_eq (k := -1) (by decide) c219
                exact J241  _ _ _  hH hS (lv_sub hl [6] rfl)
              · skip
                have tc219 := f_ne (k := -1) (by decide) c219
                refine lv_aload_n hx hb dX11_verdictOn_222 rfl (lv_at hl 5 rfl) ?_
                refine t_get (ci := 11) (lst := ft11 w ch) (C := RX11) (F := TX11) (N := 20) hx hb hts uX11 hown hkb hH t_a0 (hO.no t_a0 (by decide)) (fun _ h9 => h9) rfl rfl 3 (by decide) rfl kw_363 (fun _ h9 => h9) dX11_verdictOn_223 (fun v9 h9 => ?_)
                have h9 : v9 = .ref w := h9
                subst h9
                refine t_get (ci := 9) (lst := ft9w hw gw) (C := RX9) (F := TX9) (N := 14) hx hb hts uX9 hown hkb hH t_w.1 (hO.no t_w.1 (by decide)) (fun fs => (ob9w t_w fs).mp) rfl rfl 4 (by decide) rfl kw_128 (fun _ h9 => h9) dX11_verdictOn_226 (fun v9 h9 => ?_)
                obtain ⟨v226, rfl, l_v226, u_v226⟩ := h9
                refine lv_iload hx hb dX11_verdictOn_229 (lv_at hl 1 rfl) ?_
                refine lv_ishr hx hb dX11_verdictOn_231 ?_
                refine lv_topi (fun v231 ev231 => ?_)
                have tv231 : 0 ≤ v231.toInt ∧ v231.toInt ≤ v226.toInt := by rw [ev231]; exact shr_b (by omega)
                refine lv_iconst (v := 1) hx hb dX11_verdictOn_232 (by decide) ?_
                refine lv_iand hx hb dX11_verdictOn_233 ?_
                refine lv_topi (fun v233 ev233 => ?_)
                have tv233 : 0 ≤ v233.toInt ∧ v233.toInt ≤ 1 := by rw [ev233]; exact and_r (by decide)
                refine lv_if_eq (tgt := 241) hx hb dX11_verdictOn_234 (by decide) (fun c234 => ?_) (fun c234 => ?_)
                · skip
                  have tc234 := f_eq (k := 0) (by decide) c234
                  exact J241  _ _ _  hH hS (lv_sub hl [6] rfl)
                · skip
                  have tc234 := f_ne (k := 0) (by decide) c234
                  refine lv_iconst (v := 1) hx hb dX11_verdictOn_237 (by decide) ?_
                  refine lv_goto (tgt := 242) hx hb dX11_verdictOn_238 (by decide) ?_
                  exact J242 1 _ _ _ (by decide) (by decide) hH hS (lv_sub hl [6] rfl)
            · skip
              have fuc63 := full_i p57_8
              have fvc63 := full_i v60
              have tc63 := g_nle c63
              refine lv_aload_n hx hb dX11_verdictOn_66 rfl (lv_at hl 6 rfl) ?_
              refine lv_iload hx hb dX11_verdictOn_67 (lv_at hl 0 rfl) ?_
              refine tk_l hH hS hA (tr_V (n := 1) (As := [.int p57_8]) hx hb hml hown hts hkb hH hOX hks hE hS hA (s_Tray_at l D cs kf T O X a1 p57_8 t_a1 (hO.sub (by decide))) kw_882 kw_883 kw_884 kw_12 kw_885 (by decide +kernel) ⟨Nat.le_of_ble_eq_true rfl, Nat.le_of_ble_eq_true rfl⟩ (HT.recv (ci := 8) hkb hH t_a1 (hO.no t_a1 (by decide)) rfl) rfl rfl hl.1 (Nat.le_of_ble_eq_true rfl) dX11_verdictOn_69 ⟨Nat.le_of_ble_eq_true rfl, Nat.le_of_ble_eq_true rfl⟩) (fun v69 u H locs hz9 hH hS => ?_)
              have hz9 : u = (T, O, X) := hz9
              subst hz9
              have hH : HT D cs A T O X H := hH
              refine W.widen (k := 0) (n := 0) (Nat.le_of_ble_eq_true rfl) (Nat.le_of_ble_eq_true rfl) ?_
              refine lv_lstore (lv' := [(9, .long v69), (8, .int p57_8), (7, .int p57_7), (6, .int p57_6), (5, .int v43), (4, .ref v37), (0, .ref a0), (1, .ref a1)]) hx hb dX11_verdictOn_72 hl (by decide) rfl (fun ls hl => ?_)
              refine lv_lload hx hb dX11_verdictOn_74 (lv_at hl 0 rfl) ?_
              refine lv_lconst (v := 0) hx hb dX11_verdictOn_76 (by decide) ?_
              refine W.lcmp hx hb dX11_verdictOn_77 ?_
              have J95 : ∀  (H : Heap) (locs : List Loc) (ls : Array Slot), HT D cs A T O X H → va_S A s.heap H locs → lv_has ls 13 [(8, .int p57_8)] → W p l e { frames := 4, cells := 0, slots := 0, locals := 101 } s m [.ref a0, .ref a1].toArray below meth c H locs 0 0 (MQ below (Ti D cs (fun r u => u = (T, O, X) ∧ -4 ≤ r.toInt ∧ r.toInt ≤ 324) A) [.ref a0, .ref a1].toArray s 0 0 A) (F0 m 95 ls []) := by
                intro  H locs ls  hH hS hl
                refine lv_iload hx hb dX11_verdictOn_95 (lv_at hl 0 rfl) ?_
                refine lv_bipush (v := 8) hx hb dX11_verdictOn_97 (by decide) ?_
                refine lv_imul hx hb dX11_verdictOn_99 ?_
                refine lv_topi (fun v99 ev99 => ?_)
                have tv99 : v99.toInt = p57_8.toInt * (8) := by rw [ev99]; exact mul_i rfl (by decide : (8 : Int32).toInt = 8) (by omega) (by omega)
                refine lv_iconst (v := 1) hx hb dX11_verdictOn_100 (by decide) ?_
                refine lv_iadd hx hb dX11_verdictOn_101 ?_
                refine lv_topi (fun v101 ev101 => ?_)
                have tv101 : v101.toInt = v99.toInt + (1) := by rw [ev101]; exact add_i rfl (by decide : (1 : Int32).toInt = 1) (by omega) (by omega)
                exact te_i hx hb hr hlocks hH hS (⟨rfl, by omega, by omega⟩) dX11_verdictOn_102
              refine lv_if_lt (tgt := 95) hx hb dX11_verdictOn_78 (by decide) (fun c78 => ?_) (fun c78 => ?_)
              · skip
                have tc78 := lt_l c78
                have kc78_0 : (0 : Int64).toInt = 0 := by decide
                exact J95  _ _ _  hH hS (lv_sub hl [1] rfl)
              · skip
                have tc78 := nlt_l c78
                have kc78_0 : (0 : Int64).toInt = 0 := by decide
                refine lv_lload hx hb dX11_verdictOn_81 (lv_at hl 0 rfl) ?_
                refine lv_aload_n hx hb dX11_verdictOn_83 rfl (lv_at hl 6 rfl) ?_
                refine t_get (ci := 11) (lst := ft11 w ch) (C := RX11) (F := TX11) (N := 20) hx hb hts uX11 hown hkb hH t_a0 (hO.no t_a0 (by decide)) (fun _ h9 => h9) rfl rfl 3 (by decide) rfl kw_363 (fun _ h9 => h9) dX11_verdictOn_84 (fun v9 h9 => ?_)
                have h9 : v9 = .ref w := h9
                subst h9
                refine t_get (ci := 9) (lst := ft9w hw gw) (C := RX9) (F := TX9) (N := 14) hx hb hts uX9 hown hkb hH t_w.1 (hO.no t_w.1 (by decide)) (fun fs => (ob9w t_w fs).mp) rfl rfl 0 (by decide) rfl kw_109 (fun _ h9 => h9) dX11_verdictOn_87 (fun v9 h9 => ?_)
                have h9 : v9 = .int (nI hw) := h9
                subst h9
                have e_hw : (nI hw).toInt = hw := nI_toInt (by have := t_w.2.1; omega)
                have b_hw := t_w.2.1
                refine lv_i2l hx hb dX11_verdictOn_90 rfl ?_
                refine W.lcmp hx hb dX11_verdictOn_91 ?_
                refine lv_if_lt (tgt := 103) hx hb dX11_verdictOn_92 (by decide) (fun c92 => ?_) (fun c92 => ?_)
                · skip
                  have tc92 := lt_l c92
                  rw [Int32.toInt_toInt64] at tc92
                  refine lv_lload hx hb dX11_verdictOn_103 (lv_at hl 0 rfl) ?_
                  refine lv_l2i hx hb dX11_verdictOn_105 rfl ?_
                  refine lv_topi (fun v105 ev105 => ?_)
                  have tv105 : v105.toInt = v69.toInt := by rw [ev105]; exact l2i_b (by omega) (by omega)
                  refine lv_istore (lv' := [(11, .int v105), (9, .long v69), (8, .int p57_8), (7, .int p57_7), (6, .int p57_6), (5, .int v43), (4, .ref v37), (0, .ref a0), (1, .ref a1)]) hx hb dX11_verdictOn_106 hl (by decide) rfl (fun ls hl => ?_)
                  refine lv_iload hx hb dX11_verdictOn_108 (lv_at hl 5 rfl) ?_
                  refine lv_iload hx hb dX11_verdictOn_110 (lv_at hl 4 rfl) ?_
                  refine lv_iconst (v := (-1)) hx hb dX11_verdictOn_112 (by decide) ?_
                  refine lv_ixor hx hb dX11_verdictOn_113 ?_
                  refine lv_topi (fun v113 ev113 => ?_)
                  refine lv_iand hx hb dX11_verdictOn_114 ?_
                  refine lv_topi (fun v114 ev114 => ?_)
                  have tv114 : 0 ≤ v114.toInt ∧ v114.toInt ≤ v43.toInt := by rw [ev114]; exact and_l (by omega)
                  refine lv_iload hx hb dX11_verdictOn_115 (lv_at hl 0 rfl) ?_
                  refine lv_ishr hx hb dX11_verdictOn_117 ?_
                  refine lv_topi (fun v117 ev117 => ?_)
                  have tv117 : 0 ≤ v117.toInt ∧ v117.toInt ≤ v114.toInt := by rw [ev117]; exact shr_b (by omega)
                  refine lv_iconst (v := 1) hx hb dX11_verdictOn_118 (by decide) ?_
                  refine lv_iand hx hb dX11_verdictOn_119 ?_
                  refine lv_topi (fun v119 ev119 => ?_)
                  have tv119 : 0 ≤ v119.toInt ∧ v119.toInt ≤ 1 := by rw [ev119]; exact and_r (by decide)
                  refine lv_if_ne (tgt := 131) hx hb dX11_verdictOn_120 (by decide) (fun c120 => ?_) (fun c120 => ?_)
                  · skip
                    have tc120 := f_ne (k := 0) (by decide) c120
                    refine lv_iload hx hb dX11_verdictOn_131 (lv_at hl 3 rfl) ?_
                    refine lv_iconst (v := (-1)) hx hb dX11_verdictOn_133 (by decide) ?_
                    have J177 : ∀ (k177_0 : Int32) (H : Heap) (locs : List Loc) (ls : Array Slot), (0 ≤ k177_0.toInt) → (k177_0.toInt ≤ 16383) → HT D cs A T O X H → va_S A s.heap H locs → lv_has ls 13 [(11, .int v105), (8, .int p57_8), (6, .int p57_6), (5, .int v43), (4, .ref v37), (0, .ref a0), (1, .ref a1)] → W p l e { frames := 4, cells := 0, slots := 0, locals := 101 } s m [.ref a0, .ref a1].toArray below meth c H locs 0 0 (MQ below (Ti D cs (fun r u => u = (T, O, X) ∧ -4 ≤ r.toInt ∧ r.toInt ≤ 324) A) [.ref a0, .ref a1].toArray s 0 0 A) (F0 m 177 ls [.int k177_0]) := by
                      intro k177_0 H locs ls l_k177_0 u_k177_0 hH hS hl
                      refine lv_istore (lv' := [(12, .int k177_0), (11, .int v105), (8, .int p57_8), (6, .int p57_6), (5, .int v43), (4, .ref v37), (0, .ref a0), (1, .ref a1)]) hx hb dX11_verdictOn_177 hl (by decide) rfl (fun ls hl => ?_)
                      refine lv_iload hx hb dX11_verdictOn_179 (lv_at hl 0 rfl) ?_
                      refine lv_iload hx hb dX11_verdictOn_181 (lv_at hl 1 rfl) ?_
                      refine lv_ishr hx hb dX11_verdictOn_183 ?_
                      refine lv_topi (fun v183 ev183 => ?_)
                      have tv183 : 0 ≤ v183.toInt ∧ v183.toInt ≤ k177_0.toInt := by rw [ev183]; exact shr_b (by omega)
                      refine lv_iconst (v := 1) hx hb dX11_verdictOn_184 (by decide) ?_
                      refine lv_iand hx hb dX11_verdictOn_185 ?_
                      refine lv_topi (fun v185 ev185 => ?_)
                      have tv185 : 0 ≤ v185.toInt ∧ v185.toInt ≤ 1 := by rw [ev185]; exact and_r (by decide)
                      refine lv_if_ne (tgt := 197) hx hb dX11_verdictOn_186 (by decide) (fun c186 => ?_) (fun c186 => ?_)
                      · skip
                        have tc186 := f_ne (k := 0) (by decide) c186
                        refine lv_iload hx hb dX11_verdictOn_197 (lv_at hl 3 rfl) ?_
                        refine lv_iconst (v := 1) hx hb dX11_verdictOn_199 (by decide) ?_
                        refine lv_iload hx hb dX11_verdictOn_200 (lv_at hl 1 rfl) ?_
                        refine lv_ishl hx hb dX11_verdictOn_202 ?_
                        refine lv_topi (fun v202 ev202 => ?_)
                        refine lv_ior hx hb dX11_verdictOn_203 ?_
                        refine lv_topi (fun v203 ev203 => ?_)
                        refine lv_istore (lv' := [(6, .int v203), (12, .int k177_0), (11, .int v105), (8, .int p57_8), (5, .int v43), (4, .ref v37), (0, .ref a0), (1, .ref a1)]) hx hb dX11_verdictOn_204 hl (by decide) rfl (fun ls hl => ?_)
                        refine lv_iload hx hb dX11_verdictOn_206 (lv_at hl 2 rfl) ?_
                        refine lv_istore (lv' := [(7, .int v105), (6, .int v203), (12, .int k177_0), (11, .int v105), (8, .int p57_8), (5, .int v43), (4, .ref v37), (0, .ref a0), (1, .ref a1)]) hx hb dX11_verdictOn_208 hl (by decide) rfl (fun ls hl => ?_)
                        obtain ⟨v210, ev210⟩ : ∃ y : Int32, y = p57_8 + 1 := ⟨_, rfl⟩
                        have tv210 : v210.toInt = p57_8.toInt + (1) := by rw [ev210]; exact add_i rfl (by decide) (by omega) (by omega)
                        refine lv_iinc (v := v210) (lv' := [(8, .int v210), (7, .int v105), (6, .int v203), (12, .int k177_0), (11, .int v105), (5, .int v43), (4, .ref v37), (0, .ref a0), (1, .ref a1)]) hx hb dX11_verdictOn_210 hl (k := 4) rfl (by rw [ev210]; rfl) (by decide) rfl (fun ls hl => ?_)
                        refine lv_goto (tgt := 57) hx hb dX11_verdictOn_213 (by decide) ?_
                        exact ih57 _ (by omega) v210 v105 v203 _ _ _ rfl (by omega) (by omega) hH hS (lv_sub hl [0, 1, 2, 5, 6, 7, 8] rfl)
                      · skip
                        have tc186 := f_eq (k := 0) (by decide) c186
                        refine lv_iload hx hb dX11_verdictOn_189 (lv_at hl 2 rfl) ?_
                        refine lv_bipush (v := 8) hx hb dX11_verdictOn_191 (by decide) ?_
                        refine lv_imul hx hb dX11_verdictOn_193 ?_
                        refine lv_topi (fun v193 ev193 => ?_)
                        have tv193 : v193.toInt = p57_8.toInt * (8) := by rw [ev193]; exact mul_i rfl (by decide : (8 : Int32).toInt = 8) (by omega) (by omega)
                        refine lv_iconst (v := 3) hx hb dX11_verdictOn_194 (by decide) ?_
                        refine lv_iadd hx hb dX11_verdictOn_195 ?_
                        refine lv_topi (fun v195 ev195 => ?_)
                        have tv195 : v195.toInt = v193.toInt + (3) := by rw [ev195]; exact add_i rfl (by decide : (3 : Int32).toInt = 3) (by omega) (by omega)
                        exact te_i hx hb hr hlocks hH hS (⟨rfl, by omega, by omega⟩) dX11_verdictOn_196
                    refine lv_icmp_ne (tgt := 147) hx hb dX11_verdictOn_134 (by decide) (fun c134 => ?_) (fun c134 => ?_)
                    · skip
                      have tc134 := f_ne (k := -1) (by decide) c134
                      refine lv_aload_n hx hb dX11_verdictOn_147 rfl (lv_at hl 7 rfl) ?_
                      refine t_get (ci := 11) (lst := ft11 w ch) (C := RX11) (F := TX11) (N := 20) hx hb hts uX11 hown hkb hH t_a0 (hO.no t_a0 (by decide)) (fun _ h9 => h9) rfl rfl 3 (by decide) rfl kw_363 (fun _ h9 => h9) dX11_verdictOn_148 (fun v9 h9 => ?_)
                      have h9 : v9 = .ref w := h9
                      subst h9
                      refine t_get (ci := 9) (lst := ft9w hw gw) (C := RX9) (F := TX9) (N := 14) hx hb hts uX9 hown hkb hH t_w.1 (hO.no t_w.1 (by decide)) (fun fs => (ob9w t_w fs).mp) rfl rfl 4 (by decide) rfl kw_128 (fun _ h9 => h9) dX11_verdictOn_151 (fun v9 h9 => ?_)
                      obtain ⟨v151, rfl, l_v151, u_v151⟩ := h9
                      refine lv_iload hx hb dX11_verdictOn_154 (lv_at hl 3 rfl) ?_
                      refine lv_ishr hx hb dX11_verdictOn_156 ?_
                      refine lv_topi (fun v156 ev156 => ?_)
                      have tv156 : 0 ≤ v156.toInt ∧ v156.toInt ≤ v151.toInt := by rw [ev156]; exact shr_b (by omega)
                      refine lv_iconst (v := 1) hx hb dX11_verdictOn_157 (by decide) ?_
                      refine lv_iand hx hb dX11_verdictOn_158 ?_
                      refine lv_topi (fun v158 ev158 => ?_)
                      have tv158 : 0 ≤ v158.toInt ∧ v158.toInt ≤ 1 := by rw [ev158]; exact and_r (by decide)
                      refine lv_if_eq (tgt := 166) hx hb dX11_verdictOn_159 (by decide) (fun c159 => ?_) (fun c159 => ?_)
                      · skip
                        have tc159 := f_eq (k := 0) (by decide) c159
                        refine lv_aload hx hb dX11_verdictOn_166 (lv_at hl 6 rfl) ?_
                        refine lv_iload hx hb dX11_verdictOn_168 (lv_at hl 3 rfl) ?_
                        refine lv_iconst (v := 1) hx hb dX11_verdictOn_170 (by decide) ?_
                        refine lv_iload hx hb dX11_verdictOn_171 (lv_at hl 0 rfl) ?_
                        refine lv_ishl hx hb dX11_verdictOn_173 ?_
                        refine lv_topi (fun v173 ev173 => ?_)
                        have tv173 : 1 ≤ v173.toInt ∧ v173.toInt ≤ 8192 := by rw [ev173]; exact shl_b 13 (by decide) (by omega) (by omega)
                        refine tk_i hH hS hA (tr_V (n := 2) (As := [.int p57_7, .int v173]) hx hb hml hown hts hkb hH hOX hks hE hS hA (s_Rows_stepped l D cs kf T O X v37 p57_7 v173 t_v37 (hO.sub (by decide))) kw_887 kw_863 kw_864 kw_8 kw_865 (by decide +kernel) ⟨Nat.le_of_ble_eq_true rfl, Nat.le_of_ble_eq_true rfl⟩ (HT.recv (ci := 5) hkb hH t_v37 (hO.no t_v37 (by decide)) rfl) rfl rfl hl.1 (Nat.le_of_ble_eq_true rfl) dX11_verdictOn_174 ⟨Nat.le_of_ble_eq_true rfl, Nat.le_of_ble_eq_true rfl⟩) (fun v174 u H locs hz9 hH hS => ?_)
                        obtain ⟨rfl, l_v174, u_v174⟩ := hz9
                        have hH : HT D cs A T O X H := hH
                        refine W.widen (k := 0) (n := 0) (Nat.le_of_ble_eq_true rfl) (Nat.le_of_ble_eq_true rfl) ?_
                        exact J177 v174 _ _ _ (by omega) (by omega) hH hS (lv_sub hl [0, 2, 4, 5, 6, 7, 8] rfl)
                      · skip
                        have tc159 := f_ne (k := 0) (by decide) c159
                        refine lv_iconst (v := 0) hx hb dX11_verdictOn_162 (by decide) ?_
                        refine lv_goto (tgt := 177) hx hb dX11_verdictOn_163 (by decide) ?_
                        exact J177 0 _ _ _ (by decide) (by decide) hH hS (lv_sub hl [0, 2, 4, 5, 6, 7, 8] rfl)
                    · skip
                      have tc134 := f_eq (k := -1) (by decide) c134
                      refine lv_aload_n hx hb dX11_verdictOn_137 rfl (lv_at hl 7 rfl) ?_
                      refine t_get (ci := 11) (lst := ft11 w ch) (C := RX11) (F := TX11) (N := 20) hx hb hts uX11 hown hkb hH t_a0 (hO.no t_a0 (by decide)) (fun _ h9 => h9) rfl rfl 3 (by decide) rfl kw_363 (fun _ h9 => h9) dX11_verdictOn_138 (fun v9 h9 => ?_)
                      have h9 : v9 = .ref w := h9
                      subst h9
                      refine t_get (ci := 9) (lst := ft9w hw gw) (C := RX9) (F := TX9) (N := 14) hx hb hts uX9 hown hkb hH t_w.1 (hO.no t_w.1 (by decide)) (fun fs => (ob9w t_w fs).mp) rfl rfl 3 (by decide) rfl kw_122 (fun _ h9 => h9) dX11_verdictOn_141 (fun v9 h9 => ?_)
                      obtain ⟨v141, rfl, l_v141, u_v141⟩ := h9
                      refine lv_goto (tgt := 177) hx hb dX11_verdictOn_144 (by decide) ?_
                      exact J177 v141 _ _ _ (by omega) (by omega) hH hS (lv_sub hl [0, 2, 4, 5, 6, 7, 8] rfl)
                  · skip
                    have tc120 := f_eq (k := 0) (by decide) c120
                    refine lv_iload hx hb dX11_verdictOn_123 (lv_at hl 2 rfl) ?_
                    refine lv_bipush (v := 8) hx hb dX11_verdictOn_125 (by decide) ?_
                    refine lv_imul hx hb dX11_verdictOn_127 ?_
                    refine lv_topi (fun v127 ev127 => ?_)
                    have tv127 : v127.toInt = p57_8.toInt * (8) := by rw [ev127]; exact mul_i rfl (by decide : (8 : Int32).toInt = 8) (by omega) (by omega)
                    refine lv_iconst (v := 2) hx hb dX11_verdictOn_128 (by decide) ?_
                    refine lv_iadd hx hb dX11_verdictOn_129 ?_
                    refine lv_topi (fun v129 ev129 => ?_)
                    have tv129 : v129.toInt = v127.toInt + (2) := by rw [ev129]; exact add_i rfl (by decide : (2 : Int32).toInt = 2) (by omega) (by omega)
                    exact te_i hx hb hr hlocks hH hS (⟨rfl, by omega, by omega⟩) dX11_verdictOn_130
                · skip
                  have tc92 := nlt_l c92
                  rw [Int32.toInt_toInt64] at tc92
                  exact J95  _ _ _  hH hS (lv_sub hl [1] rfl)
        refine lv_istore (lv' := [(8, .int 1), (7, .int (-1)), (6, .int 0), (5, .int v43), (4, .ref v37), (2, .long v2), (0, .ref a0), (1, .ref a1)]) hx hb dX11_verdictOn_55 hl (by decide) rfl (fun ls hl => ?_)
        exact J57 _ 1 (-1) 0 _ _ _ rfl (by decide) (by decide) hH hS (lv_sub hl [0, 1, 2, 3, 4, 6, 7] rfl)
      · skip
        have tc29 := nlt_l c29
        rw [Int32.toInt_toInt64] at tc29
        exact J32  _ _ _  hH hS (lv_sub hl [] rfl)
set_option maxHeartbeats 4000000 in
set_option maxRecDepth 100000 in
theorem s_FW_toldSet (l : Launch) (D : va_G) (cs : CS) (kf : KF) (T : TF) (O : List Nat) (X : va_W) (a0 w hw gw ch gq : Nat) (a1 : Nat) (t_a0 : T a0 = some (21, w, ch)) (t_w : isW T w hw gw) (t_ch : T ch = some (10, gq, 0)) (t_a1 : T a1 = some (18, 0, 0)) (hO : okO T O [2, 18, 19, 21]) : TK l D cs kf yX11_toldSet cX11_toldSet 4 (some (.int)) { frames := 1, cells := 0, slots := 0, locals := 21 } [.ref a0, .ref a1] T O X (Ti D cs (fun r u => u = (T, O, X) ∧ 0 ≤ r.toInt ∧ r.toInt ≤ 16383)) := by
  refine tk_of (by decide) (Nat.le_of_ble_eq_true rfl) (fun p e s m below meth c ls A H locs hx hb hr hml hown hts hlocks hnm hkb hH hS hA hOX hks hE hl => ?_)
  have hown : s.vm.findClass RX11 = some m.cls := hown
  have hl : lv_has ls 4 [(0, .ref a0), (1, .ref a1)] := hl
  have b1_w := t_w.2.1
  have b2_w := t_w.2.2
  refine lv_iconst (v := 0) hx hb dX11_toldSet_0 (by decide) ?_
  refine lv_istore_n (lv' := [(2, .int 0), (0, .ref a0), (1, .ref a1)]) hx hb dX11_toldSet_1 rfl hl (by decide) rfl (fun ls hl => ?_)
  refine lv_iconst (v := 1) hx hb dX11_toldSet_2 (by decide) ?_
  have J4 : ∀ (n : Nat) (p4_3 : Int32) (p4_2 : Int32) (H : Heap) (locs : List Loc) (ls : Array Slot), (40 - p4_3.toInt).toNat = n → (1 ≤ p4_3.toInt) → (p4_3.toInt ≤ 40) → HT D cs A T O X H → va_S A s.heap H locs → lv_has ls 4 [(3, .int p4_3), (2, .int p4_2), (0, .ref a0), (1, .ref a1)] → W p l e { frames := 1, cells := 0, slots := 0, locals := 21 } s m [.ref a0, .ref a1].toArray below meth c H locs 0 0 (MQ below (Ti D cs (fun r u => u = (T, O, X) ∧ 0 ≤ r.toInt ∧ r.toInt ≤ 16383) A) [.ref a0, .ref a1].toArray s 0 0 A) (F0 m 4 ls []) := by
    intro n
    induction n using Nat.strongRecOn with
    | _ n ih4 =>
      intro p4_3 p4_2 H locs ls hm4 l_p4_3 u_p4_3 hH hS hl
      refine lv_iload_n hx hb dX11_toldSet_4 rfl (lv_at hl 0 rfl) ?_
      refine lv_aload_n hx hb dX11_toldSet_5 rfl (lv_at hl 3 rfl) ?_
      refine t_get (ci := 8) (lst := ft8 0 0) (C := RX8) (F := TX8) (N := 3) hx hb hts uX8 hown hkb hH t_a1 (hO.no t_a1 (by decide)) (fun _ h9 => h9) rfl rfl 2 (by decide) rfl kw_352 (fun _ h9 => h9) dX11_toldSet_6 (fun v9 h9 => ?_)
      obtain ⟨v6, rfl, l_v6, u_v6⟩ := h9
      refine lv_icmp_ge (tgt := 29) hx hb dX11_toldSet_9 (by decide) (fun c9 => ?_) (fun c9 => ?_)
      · skip
        have fuc9 := full_i p4_3
        have fvc9 := full_i v6
        have tc9 := g_le c9
        refine lv_iload_n hx hb dX11_toldSet_29 rfl (lv_at hl 1 rfl) ?_
        refine lv_aload_n hx hb dX11_toldSet_30 rfl (lv_at hl 2 rfl) ?_
        refine t_get (ci := 11) (lst := ft11 w ch) (C := RX11) (F := TX11) (N := 20) hx hb hts uX11 hown hkb hH t_a0 (hO.no t_a0 (by decide)) (fun _ h9 => h9) rfl rfl 3 (by decide) rfl kw_363 (fun _ h9 => h9) dX11_toldSet_31 (fun v9 h9 => ?_)
        have h9 : v9 = .ref w := h9
        subst h9
        refine tk_i hH hS hA (tr_V (n := 0) (As := []) hx hb hml hown hts hkb hH hOX hks hE hS hA (s_Wall_middles l D cs kf T O X w hw gw t_w (hO.sub (by decide))) kw_892 kw_683 kw_684 kw_5 kw_685 (by decide +kernel) ⟨Nat.le_of_ble_eq_true rfl, Nat.le_of_ble_eq_true rfl⟩ (HT.recv (ci := 9) hkb hH t_w.1 (hO.no t_w.1 (by decide)) rfl) rfl rfl hl.1 (Nat.le_of_ble_eq_true rfl) dX11_toldSet_34 ⟨Nat.le_of_ble_eq_true rfl, Nat.le_of_ble_eq_true rfl⟩) (fun v34 u H locs hz9 hH hS => ?_)
        obtain ⟨rfl, l_v34, u_v34⟩ := hz9
        have hH : HT D cs A T O X H := hH
        refine W.widen (k := 0) (n := 0) (Nat.le_of_ble_eq_true rfl) (Nat.le_of_ble_eq_true rfl) ?_
        refine lv_iand hx hb dX11_toldSet_37 ?_
        refine lv_topi (fun v37 ev37 => ?_)
        have tv37 : 0 ≤ v37.toInt ∧ v37.toInt ≤ v34.toInt := by rw [ev37]; exact and_r (by omega)
        exact te_i hx hb hr hlocks hH hS (⟨rfl, by omega, by omega⟩) dX11_toldSet_38
      · skip
        have fuc9 := full_i p4_3
        have fvc9 := full_i v6
        have tc9 := g_nle c9
        refine lv_iload_n hx hb dX11_toldSet_12 rfl (lv_at hl 1 rfl) ?_
        refine lv_iconst (v := 1) hx hb dX11_toldSet_13 (by decide) ?_
        refine lv_aload_n hx hb dX11_toldSet_14 rfl (lv_at hl 3 rfl) ?_
        refine lv_iload_n hx hb dX11_toldSet_15 rfl (lv_at hl 0 rfl) ?_
        refine tk_l hH hS hA (tr_V (n := 1) (As := [.int p4_3]) hx hb hml hown hts hkb hH hOX hks hE hS hA (s_Tray_at l D cs kf T O X a1 p4_3 t_a1 (hO.sub (by decide))) kw_882 kw_883 kw_884 kw_12 kw_885 (by decide +kernel) ⟨Nat.le_of_ble_eq_true rfl, Nat.le_of_ble_eq_true rfl⟩ (HT.recv (ci := 8) hkb hH t_a1 (hO.no t_a1 (by decide)) rfl) rfl rfl hl.1 (Nat.le_of_ble_eq_true rfl) dX11_toldSet_16 ⟨Nat.le_of_ble_eq_true rfl, Nat.le_of_ble_eq_true rfl⟩) (fun v16 u H locs hz9 hH hS => ?_)
        have hz9 : u = (T, O, X) := hz9
        subst hz9
        have hH : HT D cs A T O X H := hH
        refine W.widen (k := 0) (n := 0) (Nat.le_of_ble_eq_true rfl) (Nat.le_of_ble_eq_true rfl) ?_
        refine lv_l2i hx hb dX11_toldSet_19 rfl ?_
        refine lv_topi (fun v19 ev19 => ?_)
        refine lv_ishl hx hb dX11_toldSet_20 ?_
        refine lv_topi (fun v20 ev20 => ?_)
        refine lv_ior hx hb dX11_toldSet_21 ?_
        refine lv_topi (fun v21 ev21 => ?_)
        refine lv_istore_n (lv' := [(2, .int v21), (3, .int p4_3), (0, .ref a0), (1, .ref a1)]) hx hb dX11_toldSet_22 rfl hl (by decide) rfl (fun ls hl => ?_)
        obtain ⟨v23, ev23⟩ : ∃ y : Int32, y = p4_3 + 1 := ⟨_, rfl⟩
        have tv23 : v23.toInt = p4_3.toInt + (1) := by rw [ev23]; exact add_i rfl (by decide) (by omega) (by omega)
        refine lv_iinc (v := v23) (lv' := [(3, .int v23), (2, .int v21), (0, .ref a0), (1, .ref a1)]) hx hb dX11_toldSet_23 hl (k := 1) rfl (by rw [ev23]; rfl) (by decide) rfl (fun ls hl => ?_)
        refine lv_goto (tgt := 4) hx hb dX11_toldSet_26 (by decide) ?_
        exact ih4 _ (by omega) v23 v21 _ _ _ rfl (by omega) (by omega) hH hS (lv_sub hl [0, 1, 2, 3] rfl)
  refine lv_istore_n (lv' := [(3, .int 1), (2, .int 0), (0, .ref a0), (1, .ref a1)]) hx hb dX11_toldSet_3 rfl hl (by decide) rfl (fun ls hl => ?_)
  exact J4 _ 1 0 _ _ _ rfl (by decide) (by decide) hH hS (lv_sub hl [0, 1, 2, 3] rfl)
set_option maxHeartbeats 4000000 in
set_option maxRecDepth 100000 in
theorem s_FW_judge (l : Launch) (D : va_G) (cs : CS) (kf : KF) (T : TF) (O : List Nat) (X : va_W) (a0 w hw gw ch gq : Nat) (x1 : Int32) (x2 : Int32) (t_a0 : T a0 = some (21, w, ch)) (t_w : isW T w hw gw) (t_ch : T ch = some (10, gq, 0)) (hO : okO T O [1, 2, 6, 7, 12, 15, 16, 18, 19, 21]) : TK l D cs kf yX11_judge cX11_judge 5 (some (.int)) { frames := 5, cells := 0, slots := 0, locals := 133 } [.ref a0, .int x1, .int x2] T O X (Ti D cs (fun r u => u = (T, O, X) ∧ -6 ≤ r.toInt ∧ r.toInt ≤ 63)) := by
  refine tk_of (by decide) (Nat.le_of_ble_eq_true rfl) (fun p e s m below meth c ls A H locs hx hb hr hml hown hts hlocks hnm hkb hH hS hA hOX hks hE hl => ?_)
  have hown : s.vm.findClass RX11 = some m.cls := hown
  have hl : lv_has ls 5 [(0, .ref a0), (1, .int x1), (2, .int x2)] := hl
  have b1_w := t_w.2.1
  have b2_w := t_w.2.2
  refine lv_iload_n hx hb dX11_judge_0 rfl (lv_at hl 1 rfl) ?_
  refine tk_i hH hS hA (tr_S (n := 1) (As := [.int x1]) hx hb hml hown hts hkb hH hOX hks hE hS hA (s_FW_isTray l D cs kf T O X x1  (hO.sub (by decide))) kw_871 kw_872 kw_1 kw_873 (by decide +kernel) ⟨Nat.le_of_ble_eq_true rfl, Nat.le_of_ble_eq_true rfl⟩ rfl rfl hl.1 (Nat.le_of_ble_eq_true rfl) dX11_judge_1 ⟨Nat.le_of_ble_eq_true rfl, Nat.le_of_ble_eq_true rfl⟩) (fun v1 u H locs hz9 hH hS => ?_)
  obtain ⟨rfl, l_v1, u_v1, x_v10⟩ := hz9
  have hH : HT D cs A T O X H := hH
  refine W.widen (k := 0) (n := 0) (Nat.le_of_ble_eq_true rfl) (Nat.le_of_ble_eq_true rfl) ?_
  have J16 : ∀  (H : Heap) (locs : List Loc) (ls : Array Slot), HT D cs A T O X H → va_S A s.heap H locs → lv_has ls 5 [] → W p l e { frames := 5, cells := 0, slots := 0, locals := 133 } s m [.ref a0, .int x1, .int x2].toArray below meth c H locs 0 0 (MQ below (Ti D cs (fun r u => u = (T, O, X) ∧ -6 ≤ r.toInt ∧ r.toInt ≤ 63) A) [.ref a0, .int x1, .int x2].toArray s 0 0 A) (F0 m 16 ls []) := by
    intro  H locs ls  hH hS hl
    refine lv_bipush (v := (-2)) hx hb dX11_judge_16 (by decide) ?_
    exact te_i hx hb hr hlocks hH hS (⟨rfl, by decide, by decide⟩) dX11_judge_18
  refine lv_if_eq (tgt := 16) hx hb dX11_judge_4 (by decide) (fun c4 => ?_) (fun c4 => ?_)
  · skip
    have tc4 := f_eq (k := 0) (by decide) c4
    exact J16  _ _ _  hH hS (lv_sub hl [] rfl)
  · skip
    have tc4 := f_ne (k := 0) (by decide) c4
    refine lv_iload_n hx hb dX11_judge_7 rfl (lv_at hl 2 rfl) ?_
    refine lv_if_lt (tgt := 16) hx hb dX11_judge_8 (by decide) (fun c8 => ?_) (fun c8 => ?_)
    · skip
      have tc8 := f_lt (k := 0) (by decide) c8
      exact J16  _ _ _  hH hS (lv_sub hl [] rfl)
    · skip
      have tc8 := f_nlt (k := 0) (by decide) c8
      refine lv_iload_n hx hb dX11_judge_11 rfl (lv_at hl 2 rfl) ?_
      refine lv_iconst (v := 2) hx hb dX11_judge_12 (by decide) ?_
      refine lv_icmp_le (tgt := 19) hx hb dX11_judge_13 (by decide) (fun c13 => ?_) (fun c13 => ?_)
      · skip
        have tc13 := f_le (k := 2) (by decide) c13
        refine lv_aload_n hx hb dX11_judge_19 rfl (lv_at hl 0 rfl) ?_
        refine t_get (ci := 11) (lst := ft11 w ch) (C := RX11) (F := TX11) (N := 20) hx hb hts uX11 hown hkb hH t_a0 (hO.no t_a0 (by decide)) (fun _ h9 => h9) rfl rfl 11 (by decide) rfl kw_371 (fun _ h9 => h9) dX11_judge_20 (fun v9 h9 => ?_)
        obtain ⟨v20, rfl, t_v20⟩ := h9
        refine lv_iload_n hx hb dX11_judge_23 rfl (lv_at hl 1 rfl) ?_
        refine t_qld6 hx hb hkb hH t_v20 (hO.no t_v20 (by decide)) (by omega) (by omega) dX11_judge_24 (fun v24 t_v24 => ?_)
        refine lv_astore_n (lv' := [(3, .ref v24), (0, .ref a0), (1, .int x1), (2, .int x2)]) hx hb dX11_judge_25 rfl hl (by decide) rfl (fun ls hl => ?_)
        refine lv_aload_n hx hb dX11_judge_26 rfl (lv_at hl 0 rfl) ?_
        refine tk_i hH hS hA (tr_V (n := 0) (As := []) hx hb hml hown hts hkb hH hOX hks hE hS hA (s_Tray_isMissing l D cs kf T O X v24 t_v24 (hO.sub (by decide))) kw_874 kw_875 kw_876 kw_12 kw_877 (by decide +kernel) ⟨Nat.le_of_ble_eq_true rfl, Nat.le_of_ble_eq_true rfl⟩ (HT.recv (ci := 8) hkb hH t_v24 (hO.no t_v24 (by decide)) rfl) rfl rfl hl.1 (Nat.le_of_ble_eq_true rfl) dX11_judge_27 ⟨Nat.le_of_ble_eq_true rfl, Nat.le_of_ble_eq_true rfl⟩) (fun v27 u H locs hz9 hH hS => ?_)
        obtain ⟨rfl, l_v27, u_v27⟩ := hz9
        have hH : HT D cs A T O X H := hH
        refine W.widen (k := 0) (n := 0) (Nat.le_of_ble_eq_true rfl) (Nat.le_of_ble_eq_true rfl) ?_
        refine lv_if_eq (tgt := 36) hx hb dX11_judge_30 (by decide) (fun c30 => ?_) (fun c30 => ?_)
        · skip
          have tc30 := f_eq (k := 0) (by decide) c30
          refine lv_aload_n hx hb dX11_judge_36 rfl (lv_at hl 1 rfl) ?_
          refine lv_aload_n hx hb dX11_judge_37 rfl (lv_at hl 0 rfl) ?_
          refine tk_i hH hS hA (tr_V (n := 1) (As := [.ref v24]) hx hb hml hown hts hkb hH hOX hks hE hS hA (s_FW_verdictOn l D cs kf T O X a0 w hw gw ch gq v24 t_a0 t_w t_ch t_v24 (hO.sub (by decide))) kw_878 kw_880 ks_23 kw_1 kw_881 (by decide +kernel) ⟨Nat.le_of_ble_eq_true rfl, Nat.le_of_ble_eq_true rfl⟩ (HT.recv (ci := 11) hkb hH t_a0 (hO.no t_a0 (by decide)) rfl) rfl rfl hl.1 (Nat.le_of_ble_eq_true rfl) dX11_judge_38 ⟨Nat.le_of_ble_eq_true rfl, Nat.le_of_ble_eq_true rfl⟩) (fun v38 u H locs hz9 hH hS => ?_)
          obtain ⟨rfl, l_v38, u_v38⟩ := hz9
          have hH : HT D cs A T O X H := hH
          refine W.widen (k := 0) (n := 0) (Nat.le_of_ble_eq_true rfl) (Nat.le_of_ble_eq_true rfl) ?_
          refine lv_istore (lv' := [(4, .int v38), (3, .ref v24), (0, .ref a0), (1, .int x1), (2, .int x2)]) hx hb dX11_judge_41 hl (by decide) rfl (fun ls hl => ?_)
          refine lv_iload_n hx hb dX11_judge_43 rfl (lv_at hl 4 rfl) ?_
          refine lv_if_ne (tgt := 61) hx hb dX11_judge_44 (by decide) (fun c44 => ?_) (fun c44 => ?_)
          · skip
            have tc44 := f_ne (k := 0) (by decide) c44
            refine lv_iload_n hx hb dX11_judge_61 rfl (lv_at hl 4 rfl) ?_
            refine lv_iconst (v := 1) hx hb dX11_judge_62 (by decide) ?_
            refine lv_icmp_ne (tgt := 72) hx hb dX11_judge_63 (by decide) (fun c63 => ?_) (fun c63 => ?_)
            · skip
              have tc63 := f_ne (k := 1) (by decide) c63
              refine lv_iload hx hb dX11_judge_72 (lv_at hl 0 rfl) ?_
              have J89 : ∀ (k89_0 : Int32) (H : Heap) (locs : List Loc) (ls : Array Slot), (0 ≤ k89_0.toInt) → (k89_0.toInt ≤ 63) → HT D cs A T O X H → va_S A s.heap H locs → lv_has ls 5 [] → W p l e { frames := 5, cells := 0, slots := 0, locals := 133 } s m [.ref a0, .int x1, .int x2].toArray below meth c H locs 0 0 (MQ below (Ti D cs (fun r u => u = (T, O, X) ∧ -6 ≤ r.toInt ∧ r.toInt ≤ 63) A) [.ref a0, .int x1, .int x2].toArray s 0 0 A) (F0 m 89 ls [.int k89_0]) := by
                intro k89_0 H locs ls l_k89_0 u_k89_0 hH hS hl
                exact te_i hx hb hr hlocks hH hS (⟨rfl, by omega, by omega⟩) dX11_judge_89
              refine lv_if_ne (tgt := 88) hx hb dX11_judge_74 (by decide) (fun c74 => ?_) (fun c74 => ?_)
              · skip
                have tc74 := f_ne (k := 0) (by decide) c74
                refine lv_iconst (v := 0) hx hb dX11_judge_88 (by decide) ?_
                exact J89 0 _ _ _ (by decide) (by decide) hH hS (lv_sub hl [] rfl)
              · skip
                have tc74 := f_eq (k := 0) (by decide) c74
                refine lv_aload_n hx hb dX11_judge_77 rfl (lv_at hl 2 rfl) ?_
                refine lv_aload_n hx hb dX11_judge_78 rfl (lv_at hl 1 rfl) ?_
                refine tk_i hH hS hA (tr_V (n := 1) (As := [.ref v24]) hx hb hml hown hts hkb hH hOX hks hE hS hA (s_FW_toldSet l D cs kf T O X a0 w hw gw ch gq v24 t_a0 t_w t_ch t_v24 (hO.sub (by decide))) kw_888 kw_890 ks_24 kw_1 kw_891 (by decide +kernel) ⟨Nat.le_of_ble_eq_true rfl, Nat.le_of_ble_eq_true rfl⟩ (HT.recv (ci := 11) hkb hH t_a0 (hO.no t_a0 (by decide)) rfl) rfl rfl hl.1 (Nat.le_of_ble_eq_true rfl) dX11_judge_79 ⟨Nat.le_of_ble_eq_true rfl, Nat.le_of_ble_eq_true rfl⟩) (fun v79 u H locs hz9 hH hS => ?_)
                obtain ⟨rfl, l_v79, u_v79⟩ := hz9
                have hH : HT D cs A T O X H := hH
                refine W.widen (k := 0) (n := 0) (Nat.le_of_ble_eq_true rfl) (Nat.le_of_ble_eq_true rfl) ?_
                refine tk_i hH hS hA (tr_S (n := 1) (As := [.int v79]) hx hb hml hown hts hkb hH hOX hks hE hS hA (s_bitCount l D cs kf T O X v79  (hO.sub (by decide))) kw_893 kw_692 kw_20 kw_693 (by decide +kernel) ⟨Nat.le_of_ble_eq_true rfl, Nat.le_of_ble_eq_true rfl⟩ rfl rfl hl.1 (Nat.le_of_ble_eq_true rfl) dX11_judge_82 ⟨Nat.le_of_ble_eq_true rfl, Nat.le_of_ble_eq_true rfl⟩) (fun v82 u H locs hz9 hH hS => ?_)
                obtain ⟨rfl, l_v82, u_v82⟩ := hz9
                have hH : HT D cs A T O X H := hH
                refine W.widen (k := 0) (n := 0) (Nat.le_of_ble_eq_true rfl) (Nat.le_of_ble_eq_true rfl) ?_
                refine lv_goto (tgt := 89) hx hb dX11_judge_85 (by decide) ?_
                exact J89 v82 _ _ _ (by omega) (by omega) hH hS (lv_sub hl [] rfl)
            · skip
              have tc63 := f_eq (k := 1) (by decide) c63
              refine lv_iload hx hb dX11_judge_66 (lv_at hl 0 rfl) ?_
              refine lv_bipush (v := 7) hx hb dX11_judge_68 (by decide) ?_
              refine lv_iand hx hb dX11_judge_70 ?_
              refine lv_topi (fun v70 ev70 => ?_)
              have tv70 : 0 ≤ v70.toInt ∧ v70.toInt ≤ 7 := by rw [ev70]; exact and_r (by decide)
              exact te_i hx hb hr hlocks hH hS (⟨rfl, by omega, by omega⟩) dX11_judge_71
          · skip
            have tc44 := f_eq (k := 0) (by decide) c44
            refine lv_iload hx hb dX11_judge_47 (lv_at hl 0 rfl) ?_
            have J60 : ∀ (k60_0 : Int32) (H : Heap) (locs : List Loc) (ls : Array Slot), (-1 ≤ k60_0.toInt) → (k60_0.toInt ≤ 40) → HT D cs A T O X H → va_S A s.heap H locs → lv_has ls 5 [] → W p l e { frames := 5, cells := 0, slots := 0, locals := 133 } s m [.ref a0, .int x1, .int x2].toArray below meth c H locs 0 0 (MQ below (Ti D cs (fun r u => u = (T, O, X) ∧ -6 ≤ r.toInt ∧ r.toInt ≤ 63) A) [.ref a0, .int x1, .int x2].toArray s 0 0 A) (F0 m 60 ls [.int k60_0]) := by
              intro k60_0 H locs ls l_k60_0 u_k60_0 hH hS hl
              exact te_i hx hb hr hlocks hH hS (⟨rfl, by omega, by omega⟩) dX11_judge_60
            refine lv_if_ne (tgt := 56) hx hb dX11_judge_49 (by decide) (fun c49 => ?_) (fun c49 => ?_)
            · skip
              have tc49 := f_ne (k := 0) (by decide) c49
              refine lv_iload hx hb dX11_judge_56 (lv_at hl 0 rfl) ?_
              refine lv_iconst (v := 3) hx hb dX11_judge_58 (by decide) ?_
              refine lv_ishr hx hb dX11_judge_59 ?_
              refine lv_topi (fun v59 ev59 => ?_)
              have tv59 : v59.toInt = v38.toInt / 8 := by rw [ev59]; exact shr_c 3 (by decide +kernel) (by decide)
              have fv59 := full_i v38
              exact J60 v59 _ _ _ (by omega) (by omega) hH hS (lv_sub hl [] rfl)
            · skip
              have tc49 := f_eq (k := 0) (by decide) c49
              refine lv_iconst (v := (-1)) hx hb dX11_judge_52 (by decide) ?_
              refine lv_goto (tgt := 60) hx hb dX11_judge_53 (by decide) ?_
              exact J60 (-1) _ _ _ (by decide) (by decide) hH hS (lv_sub hl [] rfl)
        · skip
          have tc30 := f_ne (k := 0) (by decide) c30
          refine lv_bipush (v := (-6)) hx hb dX11_judge_33 (by decide) ?_
          exact te_i hx hb hr hlocks hH hS (⟨rfl, by decide, by decide⟩) dX11_judge_35
      · skip
        have tc13 := f_nle (k := 2) (by decide) c13
        exact J16  _ _ _  hH hS (lv_sub hl [] rfl)
set_option maxHeartbeats 4000000 in
set_option maxRecDepth 100000 in
theorem s_FW_climb (l : Launch) (D : va_G) (cs : CS) (kf : KF) (T : TF) (O : List Nat) (X : va_W) (a0 w hw gw ch gq : Nat) (x1 : Int32) (t_a0 : T a0 = some (21, w, ch)) (t_w : isW T w hw gw) (t_ch : T ch = some (10, gq, 0)) (hO : okO T O [1, 2, 4, 6, 7, 12, 15, 16, 18, 19, 21]) : TK l D cs kf yX11_climb cX11_climb 4 (some (.int)) { frames := 5, cells := 0, slots := 0, locals := 133 } [.ref a0, .int x1] T O X (Ti D cs (fun r u => u = (T, O, X) ∧ -6 ≤ r.toInt ∧ r.toInt ≤ 63)) := by
  refine tk_of (by decide) (Nat.le_of_ble_eq_true rfl) (fun p e s m below meth c ls A H locs hx hb hr hml hown hts hlocks hnm hkb hH hS hA hOX hks hE hl => ?_)
  have hown : s.vm.findClass RX11 = some m.cls := hown
  have hl : lv_has ls 4 [(0, .ref a0), (1, .int x1)] := hl
  have b1_w := t_w.2.1
  have b2_w := t_w.2.2
  refine lv_iload_n hx hb dX11_climb_0 rfl (lv_at hl 1 rfl) ?_
  refine tk_i hH hS hA (tr_S (n := 1) (As := [.int x1]) hx hb hml hown hts hkb hH hOX hks hE hS hA (s_FW_isTray l D cs kf T O X x1  (hO.sub (by decide))) kw_871 kw_872 kw_1 kw_873 (by decide +kernel) ⟨Nat.le_of_ble_eq_true rfl, Nat.le_of_ble_eq_true rfl⟩ rfl rfl hl.1 (Nat.le_of_ble_eq_true rfl) dX11_climb_1 ⟨Nat.le_of_ble_eq_true rfl, Nat.le_of_ble_eq_true rfl⟩) (fun v1 u H locs hz9 hH hS => ?_)
  obtain ⟨rfl, l_v1, u_v1, x_v10⟩ := hz9
  have hH : HT D cs A T O X H := hH
  refine W.widen (k := 0) (n := 0) (Nat.le_of_ble_eq_true rfl) (Nat.le_of_ble_eq_true rfl) ?_
  refine lv_if_ne (tgt := 10) hx hb dX11_climb_4 (by decide) (fun c4 => ?_) (fun c4 => ?_)
  · skip
    have tc4 := f_ne (k := 0) (by decide) c4
    refine lv_aload_n hx hb dX11_climb_10 rfl (lv_at hl 0 rfl) ?_
    refine t_get (ci := 11) (lst := ft11 w ch) (C := RX11) (F := TX11) (N := 20) hx hb hts uX11 hown hkb hH t_a0 (hO.no t_a0 (by decide)) (fun _ h9 => h9) rfl rfl 11 (by decide) rfl kw_371 (fun _ h9 => h9) dX11_climb_11 (fun v9 h9 => ?_)
    obtain ⟨v11, rfl, t_v11⟩ := h9
    refine lv_iload_n hx hb dX11_climb_14 rfl (lv_at hl 1 rfl) ?_
    refine t_qld6 hx hb hkb hH t_v11 (hO.no t_v11 (by decide)) (by omega) (by omega) dX11_climb_15 (fun v15 t_v15 => ?_)
    refine lv_astore_n (lv' := [(2, .ref v15), (0, .ref a0), (1, .int x1)]) hx hb dX11_climb_16 rfl hl (by decide) rfl (fun ls hl => ?_)
    refine lv_aload_n hx hb dX11_climb_17 rfl (lv_at hl 0 rfl) ?_
    refine tk_i hH hS hA (tr_V (n := 0) (As := []) hx hb hml hown hts hkb hH hOX hks hE hS hA (s_Tray_isMissing l D cs kf T O X v15 t_v15 (hO.sub (by decide))) kw_874 kw_875 kw_876 kw_12 kw_877 (by decide +kernel) ⟨Nat.le_of_ble_eq_true rfl, Nat.le_of_ble_eq_true rfl⟩ (HT.recv (ci := 8) hkb hH t_v15 (hO.no t_v15 (by decide)) rfl) rfl rfl hl.1 (Nat.le_of_ble_eq_true rfl) dX11_climb_18 ⟨Nat.le_of_ble_eq_true rfl, Nat.le_of_ble_eq_true rfl⟩) (fun v18 u H locs hz9 hH hS => ?_)
    obtain ⟨rfl, l_v18, u_v18⟩ := hz9
    have hH : HT D cs A T O X H := hH
    refine W.widen (k := 0) (n := 0) (Nat.le_of_ble_eq_true rfl) (Nat.le_of_ble_eq_true rfl) ?_
    refine lv_if_eq (tgt := 27) hx hb dX11_climb_21 (by decide) (fun c21 => ?_) (fun c21 => ?_)
    · skip
      have tc21 := f_eq (k := 0) (by decide) c21
      refine lv_aload_n hx hb dX11_climb_27 rfl (lv_at hl 1 rfl) ?_
      refine lv_aload_n hx hb dX11_climb_28 rfl (lv_at hl 0 rfl) ?_
      refine tk_i hH hS hA (tr_V (n := 1) (As := [.ref v15]) hx hb hml hown hts hkb hH hOX hks hE hS hA (s_FW_verdictOn l D cs kf T O X a0 w hw gw ch gq v15 t_a0 t_w t_ch t_v15 (hO.sub (by decide))) kw_878 kw_880 ks_23 kw_1 kw_881 (by decide +kernel) ⟨Nat.le_of_ble_eq_true rfl, Nat.le_of_ble_eq_true rfl⟩ (HT.recv (ci := 11) hkb hH t_a0 (hO.no t_a0 (by decide)) rfl) rfl rfl hl.1 (Nat.le_of_ble_eq_true rfl) dX11_climb_29 ⟨Nat.le_of_ble_eq_true rfl, Nat.le_of_ble_eq_true rfl⟩) (fun v29 u H locs hz9 hH hS => ?_)
      obtain ⟨rfl, l_v29, u_v29⟩ := hz9
      have hH : HT D cs A T O X H := hH
      refine W.widen (k := 0) (n := 0) (Nat.le_of_ble_eq_true rfl) (Nat.le_of_ble_eq_true rfl) ?_
      refine lv_if_eq (tgt := 38) hx hb dX11_climb_32 (by decide) (fun c32 => ?_) (fun c32 => ?_)
      · skip
        have tc32 := f_eq (k := 0) (by decide) c32
        refine lv_aload_n hx hb dX11_climb_38 rfl (lv_at hl 1 rfl) ?_
        refine t_get (ci := 11) (lst := ft11 w ch) (C := RX11) (F := TX11) (N := 20) hx hb hts uX11 hown hkb hH t_a0 (hO.no t_a0 (by decide)) (fun _ h9 => h9) rfl rfl 5 (by decide) rfl kw_365 (fun _ h9 => h9) dX11_climb_39 (fun v9 h9 => ?_)
        obtain ⟨v39, rfl, t_v39⟩ := h9
        refine lv_aload_n hx hb dX11_climb_42 rfl (lv_at hl 1 rfl) ?_
        refine t_get (ci := 11) (lst := ft11 w ch) (C := RX11) (F := TX11) (N := 20) hx hb hts uX11 hown hkb hH t_a0 (hO.no t_a0 (by decide)) (fun _ h9 => h9) rfl rfl 4 (by decide) rfl kw_364 (fun _ h9 => h9) dX11_climb_43 (fun v9 h9 => ?_)
        obtain ⟨v43, rfl, t_v43⟩ := h9
        refine tk_v hH hS hA (tr_V (n := 1) (As := [.ref v43]) hx hb hml hown hts hkb hH hOX hks hE hS hA (s_State_take l D cs kf T O X v39 v43 t_v39 t_v43 (hO.sub (by decide))) kw_757 kw_758 kw_759 kw_7 kw_760 (by decide +kernel) ⟨Nat.le_of_ble_eq_true rfl, Nat.le_of_ble_eq_true rfl⟩ (HT.recv (ci := 6) hkb hH t_v39 (hO.no t_v39 (by decide)) rfl) rfl rfl hl.1 (Nat.le_of_ble_eq_true rfl) dX11_climb_46 ⟨Nat.le_of_ble_eq_true rfl, Nat.le_of_ble_eq_true rfl⟩) (fun u H locs hz9 hH hS => ?_)
        have hz9 : u = (T, O, X) := hz9
        subst hz9
        have hH : HT D cs A T O X H := hH
        refine W.widen (k := 0) (n := 0) (Nat.le_of_ble_eq_true rfl) (Nat.le_of_ble_eq_true rfl) ?_
        refine lv_aload_n hx hb dX11_climb_49 rfl (lv_at hl 1 rfl) ?_
        refine t_get (ci := 11) (lst := ft11 w ch) (C := RX11) (F := TX11) (N := 20) hx hb hts uX11 hown hkb hH t_a0 (hO.no t_a0 (by decide)) (fun _ h9 => h9) rfl rfl 4 (by decide) rfl kw_364 (fun _ h9 => h9) dX11_climb_50 (fun v9 h9 => ?_)
        obtain ⟨v50, rfl, t_v50⟩ := h9
        refine lv_aload_n hx hb dX11_climb_53 rfl (lv_at hl 1 rfl) ?_
        refine lv_aload_n hx hb dX11_climb_54 rfl (lv_at hl 0 rfl) ?_
        refine tk_i hH hS hA (tr_V (n := 1) (As := [.ref v15]) hx hb hml hown hts hkb hH hOX hks hE hS hA (s_FW_toldSet l D cs kf T O X a0 w hw gw ch gq v15 t_a0 t_w t_ch t_v15 (hO.sub (by decide))) kw_888 kw_890 ks_24 kw_1 kw_891 (by decide +kernel) ⟨Nat.le_of_ble_eq_true rfl, Nat.le_of_ble_eq_true rfl⟩ (HT.recv (ci := 11) hkb hH t_a0 (hO.no t_a0 (by decide)) rfl) rfl rfl hl.1 (Nat.le_of_ble_eq_true rfl) dX11_climb_55 ⟨Nat.le_of_ble_eq_true rfl, Nat.le_of_ble_eq_true rfl⟩) (fun v55 u H locs hz9 hH hS => ?_)
        obtain ⟨rfl, l_v55, u_v55⟩ := hz9
        have hH : HT D cs A T O X H := hH
        refine W.widen (k := 0) (n := 0) (Nat.le_of_ble_eq_true rfl) (Nat.le_of_ble_eq_true rfl) ?_
        refine lv_aload_n hx hb dX11_climb_58 rfl (lv_at hl 0 rfl) ?_
        refine lv_iconst (v := 0) hx hb dX11_climb_59 (by decide) ?_
        refine tk_l hH hS hA (tr_V (n := 1) (As := [.int 0]) hx hb hml hown hts hkb hH hOX hks hE hS hA (s_Tray_at l D cs kf T O X v15 (0) t_v15 (hO.sub (by decide))) kw_882 kw_883 kw_884 kw_12 kw_885 (by decide +kernel) ⟨Nat.le_of_ble_eq_true rfl, Nat.le_of_ble_eq_true rfl⟩ (HT.recv (ci := 8) hkb hH t_v15 (hO.no t_v15 (by decide)) rfl) rfl rfl hl.1 (Nat.le_of_ble_eq_true rfl) dX11_climb_60 ⟨Nat.le_of_ble_eq_true rfl, Nat.le_of_ble_eq_true rfl⟩) (fun v60 u H locs hz9 hH hS => ?_)
        have hz9 : u = (T, O, X) := hz9
        subst hz9
        have hH : HT D cs A T O X H := hH
        refine W.widen (k := 0) (n := 0) (Nat.le_of_ble_eq_true rfl) (Nat.le_of_ble_eq_true rfl) ?_
        refine lv_l2i hx hb dX11_climb_63 rfl ?_
        refine lv_topi (fun v63 ev63 => ?_)
        refine tk_i hH hS hA (tr_V (n := 2) (As := [.int v55, .int v63]) hx hb hml hown hts hkb hH hOX hks hE hS hA (s_State_use l D cs kf T O X v50 v55 v63 t_v50 (hO.sub (by decide))) kw_898 kw_688 kw_689 kw_7 kw_690 (by decide +kernel) ⟨Nat.le_of_ble_eq_true rfl, Nat.le_of_ble_eq_true rfl⟩ (HT.recv (ci := 6) hkb hH t_v50 (hO.no t_v50 (by decide)) rfl) rfl rfl hl.1 (Nat.le_of_ble_eq_true rfl) dX11_climb_64 ⟨Nat.le_of_ble_eq_true rfl, Nat.le_of_ble_eq_true rfl⟩) (fun v64 u H locs hz9 hH hS => ?_)
        obtain ⟨rfl, l_v64, u_v64⟩ := hz9
        have hH : HT D cs A T O X H := hH
        refine W.widen (k := 0) (n := 0) (Nat.le_of_ble_eq_true rfl) (Nat.le_of_ble_eq_true rfl) ?_
        refine lv_istore_n (lv' := [(3, .int v64), (2, .ref v15), (0, .ref a0), (1, .int x1)]) hx hb dX11_climb_67 rfl hl (by decide) rfl (fun ls hl => ?_)
        refine lv_aload_n hx hb dX11_climb_68 rfl (lv_at hl 2 rfl) ?_
        refine tk_v hH hS hA (tr_V (n := 0) (As := []) hx hb hml hown hts hkb hH hOX hks hE hS hA (s_FW_remember l D cs kf T O X a0 w hw gw ch gq t_a0 t_w t_ch (hO.sub (by decide))) kw_899 kw_901 ks_25 kw_1 kw_902 (by decide +kernel) ⟨Nat.le_of_ble_eq_true rfl, Nat.le_of_ble_eq_true rfl⟩ (HT.recv (ci := 11) hkb hH t_a0 (hO.no t_a0 (by decide)) rfl) rfl rfl hl.1 (Nat.le_of_ble_eq_true rfl) dX11_climb_69 ⟨Nat.le_of_ble_eq_true rfl, Nat.le_of_ble_eq_true rfl⟩) (fun u H locs hz9 hH hS => ?_)
        have hz9 : u = (T, O, X) := hz9
        subst hz9
        have hH : HT D cs A T O X H := hH
        refine W.widen (k := 0) (n := 0) (Nat.le_of_ble_eq_true rfl) (Nat.le_of_ble_eq_true rfl) ?_
        refine lv_iload_n hx hb dX11_climb_72 rfl (lv_at hl 0 rfl) ?_
        exact te_i hx hb hr hlocks hH hS (⟨rfl, by omega, by omega⟩) dX11_climb_73
      · skip
        have tc32 := f_ne (k := 0) (by decide) c32
        refine lv_bipush (v := (-5)) hx hb dX11_climb_35 (by decide) ?_
        exact te_i hx hb hr hlocks hH hS (⟨rfl, by decide, by decide⟩) dX11_climb_37
    · skip
      have tc21 := f_ne (k := 0) (by decide) c21
      refine lv_bipush (v := (-6)) hx hb dX11_climb_24 (by decide) ?_
      exact te_i hx hb hr hlocks hH hS (⟨rfl, by decide, by decide⟩) dX11_climb_26
  · skip
    have tc4 := f_eq (k := 0) (by decide) c4
    refine lv_bipush (v := (-2)) hx hb dX11_climb_7 (by decide) ?_
    exact te_i hx hb hr hlocks hH hS (⟨rfl, by decide, by decide⟩) dX11_climb_9
set_option maxHeartbeats 4000000 in
set_option maxRecDepth 100000 in
theorem s_FW_goUp (l : Launch) (D : va_G) (cs : CS) (kf : KF) (T : TF) (O : List Nat) (X : va_W) (a0 w hw gw ch gq : Nat) (x1 : Int32) (t_a0 : T a0 = some (21, w, ch)) (t_w : isW T w hw gw) (t_ch : T ch = some (10, gq, 0)) (l_x1 : 0 ≤ x1.toInt) (u_x1 : x1.toInt < gw) (hO : okO T O [1, 7, 12, 15, 16, 19, 20, 21]) : TK l D cs kf yX11_goUp cX11_goUp 2 (some (.int)) { frames := 6, cells := 0, slots := 0, locals := 152 } [.ref a0, .int x1] T O X (Ti D cs (fun r u => u = (T, O, X) ∧ -1 ≤ r.toInt ∧ r.toInt ≤ 63)) := by
  refine tk_of (by decide) (Nat.le_of_ble_eq_true rfl) (fun p e s m below meth c ls A H locs hx hb hr hml hown hts hlocks hnm hkb hH hS hA hOX hks hE hl => ?_)
  have hown : s.vm.findClass RX11 = some m.cls := hown
  have hl : lv_has ls 2 [(0, .ref a0), (1, .int x1)] := hl
  have b1_w := t_w.2.1
  have b2_w := t_w.2.2
  refine lv_aload_n hx hb dX11_goUp_0 rfl (lv_at hl 0 rfl) ?_
  refine t_get (ci := 11) (lst := ft11 w ch) (C := RX11) (F := TX11) (N := 20) hx hb hts uX11 hown hkb hH t_a0 (hO.no t_a0 (by decide)) (fun _ h9 => h9) rfl rfl 14 (by decide) rfl kw_374 (fun _ h9 => h9) dX11_goUp_1 (fun v9 h9 => ?_)
  obtain ⟨v1, rfl, t_v1⟩ := h9
  refine lv_aload_n hx hb dX11_goUp_4 rfl (lv_at hl 0 rfl) ?_
  refine lv_iload_n hx hb dX11_goUp_5 rfl (lv_at hl 1 rfl) ?_
  refine tk_r hH hS hA (tr_V (n := 1) (As := [.int x1]) hx hb hml hown hts hkb hH hOX hks hE hS hA (s_FW_rowsOf l D cs kf T O X a0 w hw gw ch gq x1 t_a0 t_w t_ch (by omega) (by omega) (hO.sub (by decide))) kw_830 kw_832 ks_21 kw_1 kw_833 (by decide +kernel) ⟨Nat.le_of_ble_eq_true rfl, Nat.le_of_ble_eq_true rfl⟩ (HT.recv (ci := 11) hkb hH t_a0 (hO.no t_a0 (by decide)) rfl) rfl rfl hl.1 (Nat.le_of_ble_eq_true rfl) dX11_goUp_6 ⟨Nat.le_of_ble_eq_true rfl, Nat.le_of_ble_eq_true rfl⟩) (fun v6 u H locs hz9 hH hS => ?_)
  obtain ⟨hu9, t_v6⟩ := hz9
  have hu9 : u = (T, O, X) := hu9
  subst hu9
  have hH : HT D cs A T O X H := hH
  refine W.widen (k := 0) (n := 0) (Nat.le_of_ble_eq_true rfl) (Nat.le_of_ble_eq_true rfl) ?_
  refine lv_aload_n hx hb dX11_goUp_9 rfl (lv_at hl 0 rfl) ?_
  refine tk_i hH hS hA (tr_V (n := 0) (As := []) hx hb hml hown hts hkb hH hOX hks hE hS hA (s_FW_openNow l D cs kf T O X a0 w hw gw ch gq t_a0 t_w t_ch (hO.sub (by decide))) kw_846 kw_848 ks_22 kw_1 kw_849 (by decide +kernel) ⟨Nat.le_of_ble_eq_true rfl, Nat.le_of_ble_eq_true rfl⟩ (HT.recv (ci := 11) hkb hH t_a0 (hO.no t_a0 (by decide)) rfl) rfl rfl hl.1 (Nat.le_of_ble_eq_true rfl) dX11_goUp_10 ⟨Nat.le_of_ble_eq_true rfl, Nat.le_of_ble_eq_true rfl⟩) (fun v10 u H locs hz9 hH hS => ?_)
  obtain ⟨rfl, l_v10, u_v10⟩ := hz9
  have hH : HT D cs A T O X H := hH
  refine W.widen (k := 0) (n := 0) (Nat.le_of_ble_eq_true rfl) (Nat.le_of_ble_eq_true rfl) ?_
  refine tk_i hH hS hA (tr_V (n := 2) (As := [.ref v6, .int v10]) hx hb hml hown hts hkb hH hOX hks hE hS hA (s_Ways_find l D cs kf T O X v1 v6 v10 t_v1 t_v6 (hO.sub (by decide))) kw_912 kw_913 kw_914 kw_9 kw_915 (by decide +kernel) ⟨Nat.le_of_ble_eq_true rfl, Nat.le_of_ble_eq_true rfl⟩ (HT.recv (ci := 10) hkb hH t_v1 (hO.no t_v1 (by decide)) rfl) rfl rfl hl.1 (Nat.le_of_ble_eq_true rfl) dX11_goUp_13 ⟨Nat.le_of_ble_eq_true rfl, Nat.le_of_ble_eq_true rfl⟩) (fun v13 u H locs hz9 hH hS => ?_)
  obtain ⟨rfl, l_v13, u_v13⟩ := hz9
  have hH : HT D cs A T O X H := hH
  refine W.widen (k := 0) (n := 0) (Nat.le_of_ble_eq_true rfl) (Nat.le_of_ble_eq_true rfl) ?_
  refine lv_if_ne (tgt := 21) hx hb dX11_goUp_16 (by decide) (fun c16 => ?_) (fun c16 => ?_)
  · skip
    have tc16 := f_ne (k := 0) (by decide) c16
    refine lv_aload_n hx hb dX11_goUp_21 rfl (lv_at hl 0 rfl) ?_
    refine t_get (ci := 11) (lst := ft11 w ch) (C := RX11) (F := TX11) (N := 20) hx hb hts uX11 hown hkb hH t_a0 (hO.no t_a0 (by decide)) (fun _ h9 => h9) rfl rfl 4 (by decide) rfl kw_364 (fun _ h9 => h9) dX11_goUp_22 (fun v9 h9 => ?_)
    obtain ⟨v22, rfl, t_v22⟩ := h9
    refine lv_aload_n hx hb dX11_goUp_25 rfl (lv_at hl 0 rfl) ?_
    refine t_get (ci := 11) (lst := ft11 w ch) (C := RX11) (F := TX11) (N := 20) hx hb hts uX11 hown hkb hH t_a0 (hO.no t_a0 (by decide)) (fun _ h9 => h9) rfl rfl 14 (by decide) rfl kw_374 (fun _ h9 => h9) dX11_goUp_26 (fun v9 h9 => ?_)
    obtain ⟨v26, rfl, t_v26⟩ := h9
    refine tk_i hH hS hA (tr_V (n := 0) (As := []) hx hb hml hown hts hkb hH hOX hks hE hS hA (s_Ways_pathSet l D cs kf T O X v26 t_v26 (hO.sub (by decide))) kw_926 kw_927 kw_928 kw_9 kw_929 (by decide +kernel) ⟨Nat.le_of_ble_eq_true rfl, Nat.le_of_ble_eq_true rfl⟩ (HT.recv (ci := 10) hkb hH t_v26 (hO.no t_v26 (by decide)) rfl) rfl rfl hl.1 (Nat.le_of_ble_eq_true rfl) dX11_goUp_29 ⟨Nat.le_of_ble_eq_true rfl, Nat.le_of_ble_eq_true rfl⟩) (fun v29 u H locs hz9 hH hS => ?_)
    have hz9 : u = (T, O, X) := hz9
    subst hz9
    have hH : HT D cs A T O X H := hH
    refine W.widen (k := 0) (n := 0) (Nat.le_of_ble_eq_true rfl) (Nat.le_of_ble_eq_true rfl) ?_
    refine lv_aload_n hx hb dX11_goUp_32 rfl (lv_at hl 0 rfl) ?_
    refine t_get (ci := 11) (lst := ft11 w ch) (C := RX11) (F := TX11) (N := 20) hx hb hts uX11 hown hkb hH t_a0 (hO.no t_a0 (by decide)) (fun _ h9 => h9) rfl rfl 3 (by decide) rfl kw_363 (fun _ h9 => h9) dX11_goUp_33 (fun v9 h9 => ?_)
    have h9 : v9 = .ref w := h9
    subst h9
    refine tk_i hH hS hA (tr_V (n := 0) (As := []) hx hb hml hown hts hkb hH hOX hks hE hS hA (s_Wall_middles l D cs kf T O X w hw gw t_w (hO.sub (by decide))) kw_892 kw_683 kw_684 kw_5 kw_685 (by decide +kernel) ⟨Nat.le_of_ble_eq_true rfl, Nat.le_of_ble_eq_true rfl⟩ (HT.recv (ci := 9) hkb hH t_w.1 (hO.no t_w.1 (by decide)) rfl) rfl rfl hl.1 (Nat.le_of_ble_eq_true rfl) dX11_goUp_36 ⟨Nat.le_of_ble_eq_true rfl, Nat.le_of_ble_eq_true rfl⟩) (fun v36 u H locs hz9 hH hS => ?_)
    obtain ⟨rfl, l_v36, u_v36⟩ := hz9
    have hH : HT D cs A T O X H := hH
    refine W.widen (k := 0) (n := 0) (Nat.le_of_ble_eq_true rfl) (Nat.le_of_ble_eq_true rfl) ?_
    refine lv_iand hx hb dX11_goUp_39 ?_
    refine lv_topi (fun v39 ev39 => ?_)
    have tv39 : 0 ≤ v39.toInt ∧ v39.toInt ≤ v36.toInt := by rw [ev39]; exact and_r (by omega)
    refine lv_iload_n hx hb dX11_goUp_40 rfl (lv_at hl 1 rfl) ?_
    refine tk_i hH hS hA (tr_V (n := 2) (As := [.int v39, .int x1]) hx hb hml hown hts hkb hH hOX hks hE hS hA (s_State_use l D cs kf T O X v22 v39 x1 t_v22 (hO.sub (by decide))) kw_898 kw_688 kw_689 kw_7 kw_690 (by decide +kernel) ⟨Nat.le_of_ble_eq_true rfl, Nat.le_of_ble_eq_true rfl⟩ (HT.recv (ci := 6) hkb hH t_v22 (hO.no t_v22 (by decide)) rfl) rfl rfl hl.1 (Nat.le_of_ble_eq_true rfl) dX11_goUp_41 ⟨Nat.le_of_ble_eq_true rfl, Nat.le_of_ble_eq_true rfl⟩) (fun v41 u H locs hz9 hH hS => ?_)
    obtain ⟨rfl, l_v41, u_v41⟩ := hz9
    have hH : HT D cs A T O X H := hH
    refine W.widen (k := 0) (n := 0) (Nat.le_of_ble_eq_true rfl) (Nat.le_of_ble_eq_true rfl) ?_
    exact te_i hx hb hr hlocks hH hS (⟨rfl, by omega, by omega⟩) dX11_goUp_44
  · skip
    have tc16 := f_eq (k := 0) (by decide) c16
    refine lv_iconst (v := (-1)) hx hb dX11_goUp_19 (by decide) ?_
    exact te_i hx hb hr hlocks hH hS (⟨rfl, by decide, by decide⟩) dX11_goUp_20
set_option maxHeartbeats 4000000 in
set_option maxRecDepth 100000 in
theorem s_FW_goes (l : Launch) (D : va_G) (cs : CS) (kf : KF) (T : TF) (O : List Nat) (X : va_W) (a0 w hw gw ch gq : Nat) (x1 : Int32) (t_a0 : T a0 = some (21, w, ch)) (t_w : isW T w hw gw) (t_ch : T ch = some (10, gq, 0)) (hO : okO T O [1, 4, 7, 12, 15, 16, 19, 20, 21]) : TK l D cs kf yX11_goes cX11_goes 3 (some (.int)) { frames := 7, cells := 0, slots := 0, locals := 173 } [.ref a0, .int x1] T O X (Ti D cs (fun r u => u = (T, O, X) ∧ -5 ≤ r.toInt ∧ r.toInt ≤ 63)) := by
  refine tk_of (by decide) (Nat.le_of_ble_eq_true rfl) (fun p e s m below meth c ls A H locs hx hb hr hml hown hts hlocks hnm hkb hH hS hA hOX hks hE hl => ?_)
  have hown : s.vm.findClass RX11 = some m.cls := hown
  have hl : lv_has ls 3 [(0, .ref a0), (1, .int x1)] := hl
  have b1_w := t_w.2.1
  have b2_w := t_w.2.2
  refine lv_aload_n hx hb dX11_goes_0 rfl (lv_at hl 0 rfl) ?_
  refine lv_iload_n hx hb dX11_goes_1 rfl (lv_at hl 1 rfl) ?_
  refine tk_i hH hS hA (tr_V (n := 1) (As := [.int x1]) hx hb hml hown hts hkb hH hOX hks hE hS hA (s_FW_isGuide l D cs kf T O X a0 w hw gw ch gq x1 t_a0 t_w t_ch (hO.sub (by decide))) kw_794 kw_796 ks_20 kw_1 kw_797 (by decide +kernel) ⟨Nat.le_of_ble_eq_true rfl, Nat.le_of_ble_eq_true rfl⟩ (HT.recv (ci := 11) hkb hH t_a0 (hO.no t_a0 (by decide)) rfl) rfl rfl hl.1 (Nat.le_of_ble_eq_true rfl) dX11_goes_2 ⟨Nat.le_of_ble_eq_true rfl, Nat.le_of_ble_eq_true rfl⟩) (fun v2 u H locs hz9 hH hS => ?_)
  obtain ⟨rfl, l_v2, u_v2, x_v20⟩ := hz9
  have hH : HT D cs A T O X H := hH
  refine W.widen (k := 0) (n := 0) (Nat.le_of_ble_eq_true rfl) (Nat.le_of_ble_eq_true rfl) ?_
  refine lv_if_ne (tgt := 11) hx hb dX11_goes_5 (by decide) (fun c5 => ?_) (fun c5 => ?_)
  · skip
    have tc5 := f_ne (k := 0) (by decide) c5
    refine lv_aload_n hx hb dX11_goes_11 rfl (lv_at hl 0 rfl) ?_
    refine t_get (ci := 11) (lst := ft11 w ch) (C := RX11) (F := TX11) (N := 20) hx hb hts uX11 hown hkb hH t_a0 (hO.no t_a0 (by decide)) (fun _ h9 => h9) rfl rfl 5 (by decide) rfl kw_365 (fun _ h9 => h9) dX11_goes_12 (fun v9 h9 => ?_)
    obtain ⟨v12, rfl, t_v12⟩ := h9
    refine lv_aload_n hx hb dX11_goes_15 rfl (lv_at hl 0 rfl) ?_
    refine t_get (ci := 11) (lst := ft11 w ch) (C := RX11) (F := TX11) (N := 20) hx hb hts uX11 hown hkb hH t_a0 (hO.no t_a0 (by decide)) (fun _ h9 => h9) rfl rfl 4 (by decide) rfl kw_364 (fun _ h9 => h9) dX11_goes_16 (fun v9 h9 => ?_)
    obtain ⟨v16, rfl, t_v16⟩ := h9
    refine tk_v hH hS hA (tr_V (n := 1) (As := [.ref v16]) hx hb hml hown hts hkb hH hOX hks hE hS hA (s_State_take l D cs kf T O X v12 v16 t_v12 t_v16 (hO.sub (by decide))) kw_757 kw_758 kw_759 kw_7 kw_760 (by decide +kernel) ⟨Nat.le_of_ble_eq_true rfl, Nat.le_of_ble_eq_true rfl⟩ (HT.recv (ci := 6) hkb hH t_v12 (hO.no t_v12 (by decide)) rfl) rfl rfl hl.1 (Nat.le_of_ble_eq_true rfl) dX11_goes_19 ⟨Nat.le_of_ble_eq_true rfl, Nat.le_of_ble_eq_true rfl⟩) (fun u H locs hz9 hH hS => ?_)
    have hz9 : u = (T, O, X) := hz9
    subst hz9
    have hH : HT D cs A T O X H := hH
    refine W.widen (k := 0) (n := 0) (Nat.le_of_ble_eq_true rfl) (Nat.le_of_ble_eq_true rfl) ?_
    refine lv_aload_n hx hb dX11_goes_22 rfl (lv_at hl 0 rfl) ?_
    refine lv_iload_n hx hb dX11_goes_23 rfl (lv_at hl 1 rfl) ?_
    refine tk_i hH hS hA (tr_V (n := 1) (As := [.int x1]) hx hb hml hown hts hkb hH hOX hks hE hS hA (s_FW_goUp l D cs kf T O X a0 w hw gw ch gq x1 t_a0 t_w t_ch (by omega) (by omega) (hO.sub (by decide))) kw_908 kw_910 ks_26 kw_1 kw_911 (by decide +kernel) ⟨Nat.le_of_ble_eq_true rfl, Nat.le_of_ble_eq_true rfl⟩ (HT.recv (ci := 11) hkb hH t_a0 (hO.no t_a0 (by decide)) rfl) rfl rfl hl.1 (Nat.le_of_ble_eq_true rfl) dX11_goes_24 ⟨Nat.le_of_ble_eq_true rfl, Nat.le_of_ble_eq_true rfl⟩) (fun v24 u H locs hz9 hH hS => ?_)
    obtain ⟨rfl, l_v24, u_v24⟩ := hz9
    have hH : HT D cs A T O X H := hH
    refine W.widen (k := 0) (n := 0) (Nat.le_of_ble_eq_true rfl) (Nat.le_of_ble_eq_true rfl) ?_
    refine lv_istore_n (lv' := [(2, .int v24), (0, .ref a0), (1, .int x1)]) hx hb dX11_goes_27 rfl hl (by decide) rfl (fun ls hl => ?_)
    refine lv_iload_n hx hb dX11_goes_28 rfl (lv_at hl 0 rfl) ?_
    refine lv_iconst (v := (-1)) hx hb dX11_goes_29 (by decide) ?_
    refine lv_icmp_ne (tgt := 36) hx hb dX11_goes_30 (by decide) (fun c30 => ?_) (fun c30 => ?_)
    · skip
      have tc30 := f_ne (k := -1) (by decide) c30
      refine lv_aload_n hx hb dX11_goes_36 rfl (lv_at hl 1 rfl) ?_
      refine tk_v hH hS hA (tr_V (n := 0) (As := []) hx hb hml hown hts hkb hH hOX hks hE hS hA (s_FW_remember l D cs kf T O X a0 w hw gw ch gq t_a0 t_w t_ch (hO.sub (by decide))) kw_899 kw_901 ks_25 kw_1 kw_902 (by decide +kernel) ⟨Nat.le_of_ble_eq_true rfl, Nat.le_of_ble_eq_true rfl⟩ (HT.recv (ci := 11) hkb hH t_a0 (hO.no t_a0 (by decide)) rfl) rfl rfl hl.1 (Nat.le_of_ble_eq_true rfl) dX11_goes_37 ⟨Nat.le_of_ble_eq_true rfl, Nat.le_of_ble_eq_true rfl⟩) (fun u H locs hz9 hH hS => ?_)
      have hz9 : u = (T, O, X) := hz9
      subst hz9
      have hH : HT D cs A T O X H := hH
      refine W.widen (k := 0) (n := 0) (Nat.le_of_ble_eq_true rfl) (Nat.le_of_ble_eq_true rfl) ?_
      refine lv_iload_n hx hb dX11_goes_40 rfl (lv_at hl 0 rfl) ?_
      exact te_i hx hb hr hlocks hH hS (⟨rfl, by omega, by omega⟩) dX11_goes_41
    · skip
      have tc30 := f_eq (k := -1) (by decide) c30
      refine lv_bipush (v := (-5)) hx hb dX11_goes_33 (by decide) ?_
      exact te_i hx hb hr hlocks hH hS (⟨rfl, by decide, by decide⟩) dX11_goes_35
  · skip
    have tc5 := f_eq (k := 0) (by decide) c5
    refine lv_bipush (v := (-2)) hx hb dX11_goes_8 (by decide) ?_
    exact te_i hx hb hr hlocks hH hS (⟨rfl, by decide, by decide⟩) dX11_goes_10
set_option maxHeartbeats 4000000 in
set_option maxRecDepth 100000 in
theorem s_FW_days (l : Launch) (D : va_G) (cs : CS) (kf : KF) (T : TF) (O : List Nat) (X : va_W) (a0 w hw gw ch gq : Nat) (x1 : Int32) (t_a0 : T a0 = some (21, w, ch)) (t_w : isW T w hw gw) (t_ch : T ch = some (10, gq, 0)) (hO : okO T O [1, 4, 16, 21]) : TK l D cs kf yX11_days cX11_days 2 (some (.int)) { frames := 2, cells := 0, slots := 0, locals := 81 } [.ref a0, .int x1] T O X (Ti D cs (fun r u => u = (T, O, X))) := by
  refine tk_of (by decide) (Nat.le_of_ble_eq_true rfl) (fun p e s m below meth c ls A H locs hx hb hr hml hown hts hlocks hnm hkb hH hS hA hOX hks hE hl => ?_)
  have hown : s.vm.findClass RX11 = some m.cls := hown
  have hl : lv_has ls 2 [(0, .ref a0), (1, .int x1)] := hl
  have b1_w := t_w.2.1
  have b2_w := t_w.2.2
  refine lv_iload_n hx hb dX11_days_0 rfl (lv_at hl 1 rfl) ?_
  refine lv_iconst (v := 1) hx hb dX11_days_1 (by decide) ?_
  have J11 : ∀  (H : Heap) (locs : List Loc) (ls : Array Slot), HT D cs A T O X H → va_S A s.heap H locs → lv_has ls 2 [] → W p l e { frames := 2, cells := 0, slots := 0, locals := 81 } s m [.ref a0, .int x1].toArray below meth c H locs 0 0 (MQ below (Ti D cs (fun r u => u = (T, O, X)) A) [.ref a0, .int x1].toArray s 0 0 A) (F0 m 11 ls []) := by
    intro  H locs ls  hH hS hl
    refine lv_bipush (v := (-3)) hx hb dX11_days_11 (by decide) ?_
    exact te_i hx hb hr hlocks hH hS (rfl) dX11_days_13
  refine lv_icmp_lt (tgt := 11) hx hb dX11_days_2 (by decide) (fun c2 => ?_) (fun c2 => ?_)
  · skip
    have tc2 := f_lt (k := 1) (by decide) c2
    exact J11  _ _ _  hH hS (lv_sub hl [] rfl)
  · skip
    have tc2 := f_nlt (k := 1) (by decide) c2
    refine lv_iload_n hx hb dX11_days_5 rfl (lv_at hl 1 rfl) ?_
    refine lv_bipush (v := 99) hx hb dX11_days_6 (by decide) ?_
    refine lv_icmp_le (tgt := 14) hx hb dX11_days_8 (by decide) (fun c8 => ?_) (fun c8 => ?_)
    · skip
      have tc8 := f_le (k := 99) (by decide) c8
      refine lv_aload_n hx hb dX11_days_14 rfl (lv_at hl 0 rfl) ?_
      refine t_get (ci := 11) (lst := ft11 w ch) (C := RX11) (F := TX11) (N := 20) hx hb hts uX11 hown hkb hH t_a0 (hO.no t_a0 (by decide)) (fun _ h9 => h9) rfl rfl 5 (by decide) rfl kw_365 (fun _ h9 => h9) dX11_days_15 (fun v9 h9 => ?_)
      obtain ⟨v15, rfl, t_v15⟩ := h9
      refine lv_aload_n hx hb dX11_days_18 rfl (lv_at hl 0 rfl) ?_
      refine t_get (ci := 11) (lst := ft11 w ch) (C := RX11) (F := TX11) (N := 20) hx hb hts uX11 hown hkb hH t_a0 (hO.no t_a0 (by decide)) (fun _ h9 => h9) rfl rfl 4 (by decide) rfl kw_364 (fun _ h9 => h9) dX11_days_19 (fun v9 h9 => ?_)
      obtain ⟨v19, rfl, t_v19⟩ := h9
      refine tk_v hH hS hA (tr_V (n := 1) (As := [.ref v19]) hx hb hml hown hts hkb hH hOX hks hE hS hA (s_State_take l D cs kf T O X v15 v19 t_v15 t_v19 (hO.sub (by decide))) kw_757 kw_758 kw_759 kw_7 kw_760 (by decide +kernel) ⟨Nat.le_of_ble_eq_true rfl, Nat.le_of_ble_eq_true rfl⟩ (HT.recv (ci := 6) hkb hH t_v15 (hO.no t_v15 (by decide)) rfl) rfl rfl hl.1 (Nat.le_of_ble_eq_true rfl) dX11_days_22 ⟨Nat.le_of_ble_eq_true rfl, Nat.le_of_ble_eq_true rfl⟩) (fun u H locs hz9 hH hS => ?_)
      have hz9 : u = (T, O, X) := hz9
      subst hz9
      have hH : HT D cs A T O X H := hH
      refine W.widen (k := 0) (n := 0) (Nat.le_of_ble_eq_true rfl) (Nat.le_of_ble_eq_true rfl) ?_
      refine lv_aload_n hx hb dX11_days_25 rfl (lv_at hl 0 rfl) ?_
      refine t_get (ci := 11) (lst := ft11 w ch) (C := RX11) (F := TX11) (N := 20) hx hb hts uX11 hown hkb hH t_a0 (hO.no t_a0 (by decide)) (fun _ h9 => h9) rfl rfl 4 (by decide) rfl kw_364 (fun _ h9 => h9) dX11_days_26 (fun v9 h9 => ?_)
      obtain ⟨v26, rfl, t_v26⟩ := h9
      refine lv_dup hx hb dX11_days_29 rfl ?_
      refine t_get (ci := 6) (lst := ft6 0 0) (C := RX6) (F := TX6) (N := 6) hx hb hts uX6 hown hkb hH t_v26 (hO.no t_v26 (by decide)) (fun _ h9 => h9) rfl rfl 2 (by decide) rfl kw_191 (fun _ h9 => h9) dX11_days_30 (fun v9 h9 => ?_)
      obtain ⟨v30, rfl⟩ := h9
      refine lv_iload_n hx hb dX11_days_33 rfl (lv_at hl 1 rfl) ?_
      refine lv_iadd hx hb dX11_days_34 ?_
      refine lv_topi (fun v34 ev34 => ?_)
      refine t_put (ci := 6) (lst := ft6 0 0) (v := .int v34) (ty := tyX6 2) (C := RX6) (F := TX6) (N := 6) hx hb hts uX6 tyX6 tyX6_ok nmX6 hown hkb hH hS t_v26 (hO.no t_v26 (by decide)) (fun _ => Iff.rfl) rfl rfl 2 (by decide) rfl (⟨_, rfl⟩) kw_191 (fun _ h9 => h9) rfl (tyX6_ok 2 (by decide)) rfl rfl dX11_days_35 (fun H locs hH hS => ?_)
      refine lv_aload_n hx hb dX11_days_38 rfl (lv_at hl 0 rfl) ?_
      refine tk_v hH hS hA (tr_V (n := 0) (As := []) hx hb hml hown hts hkb hH hOX hks hE hS hA (s_FW_remember l D cs kf T O X a0 w hw gw ch gq t_a0 t_w t_ch (hO.sub (by decide))) kw_899 kw_901 ks_25 kw_1 kw_902 (by decide +kernel) ⟨Nat.le_of_ble_eq_true rfl, Nat.le_of_ble_eq_true rfl⟩ (HT.recv (ci := 11) hkb hH t_a0 (hO.no t_a0 (by decide)) rfl) rfl rfl hl.1 (Nat.le_of_ble_eq_true rfl) dX11_days_39 ⟨Nat.le_of_ble_eq_true rfl, Nat.le_of_ble_eq_true rfl⟩) (fun u H locs hz9 hH hS => ?_)
      have hz9 : u = (T, O, X) := hz9
      subst hz9
      have hH : HT D cs A T O X H := hH
      refine W.widen (k := 0) (n := 0) (Nat.le_of_ble_eq_true rfl) (Nat.le_of_ble_eq_true rfl) ?_
      refine lv_aload_n hx hb dX11_days_42 rfl (lv_at hl 0 rfl) ?_
      refine t_get (ci := 11) (lst := ft11 w ch) (C := RX11) (F := TX11) (N := 20) hx hb hts uX11 hown hkb hH t_a0 (hO.no t_a0 (by decide)) (fun _ h9 => h9) rfl rfl 4 (by decide) rfl kw_364 (fun _ h9 => h9) dX11_days_43 (fun v9 h9 => ?_)
      obtain ⟨v43, rfl, t_v43⟩ := h9
      refine t_get (ci := 6) (lst := ft6 0 0) (C := RX6) (F := TX6) (N := 6) hx hb hts uX6 hown hkb hH t_v43 (hO.no t_v43 (by decide)) (fun _ h9 => h9) rfl rfl 2 (by decide) rfl kw_191 (fun _ h9 => h9) dX11_days_46 (fun v9 h9 => ?_)
      obtain ⟨v46, rfl⟩ := h9
      exact te_i hx hb hr hlocks hH hS (rfl) dX11_days_49
    · skip
      have tc8 := f_nle (k := 99) (by decide) c8
      exact J11  _ _ _  hH hS (lv_sub hl [] rfl)
set_option maxHeartbeats 4000000 in
set_option maxRecDepth 100000 in
theorem s_FW_rain (l : Launch) (D : va_G) (cs : CS) (kf : KF) (T : TF) (O : List Nat) (X : va_W) (a0 w hw gw ch gq : Nat) (x1 : Int32) (t_a0 : T a0 = some (21, w, ch)) (t_w : isW T w hw gw) (t_ch : T ch = some (10, gq, 0)) (hO : okO T O [1, 4, 16, 21]) : TK l D cs kf yX11_rain cX11_rain 3 (some (.int)) { frames := 2, cells := 0, slots := 0, locals := 81 } [.ref a0, .int x1] T O X (Ti D cs (fun r u => u = (T, O, X))) := by
  refine tk_of (by decide) (Nat.le_of_ble_eq_true rfl) (fun p e s m below meth c ls A H locs hx hb hr hml hown hts hlocks hnm hkb hH hS hA hOX hks hE hl => ?_)
  have hown : s.vm.findClass RX11 = some m.cls := hown
  have hl : lv_has ls 3 [(0, .ref a0), (1, .int x1)] := hl
  have b1_w := t_w.2.1
  have b2_w := t_w.2.2
  refine lv_iload_n hx hb dX11_rain_0 rfl (lv_at hl 1 rfl) ?_
  refine lv_iconst (v := 1) hx hb dX11_rain_1 (by decide) ?_
  have J11 : ∀  (H : Heap) (locs : List Loc) (ls : Array Slot), HT D cs A T O X H → va_S A s.heap H locs → lv_has ls 3 [] → W p l e { frames := 2, cells := 0, slots := 0, locals := 81 } s m [.ref a0, .int x1].toArray below meth c H locs 0 0 (MQ below (Ti D cs (fun r u => u = (T, O, X)) A) [.ref a0, .int x1].toArray s 0 0 A) (F0 m 11 ls []) := by
    intro  H locs ls  hH hS hl
    refine lv_bipush (v := (-3)) hx hb dX11_rain_11 (by decide) ?_
    exact te_i hx hb hr hlocks hH hS (rfl) dX11_rain_13
  refine lv_icmp_lt (tgt := 11) hx hb dX11_rain_2 (by decide) (fun c2 => ?_) (fun c2 => ?_)
  · skip
    have tc2 := f_lt (k := 1) (by decide) c2
    exact J11  _ _ _  hH hS (lv_sub hl [] rfl)
  · skip
    have tc2 := f_nlt (k := 1) (by decide) c2
    refine lv_iload_n hx hb dX11_rain_5 rfl (lv_at hl 1 rfl) ?_
    refine lv_bipush (v := 14) hx hb dX11_rain_6 (by decide) ?_
    refine lv_icmp_le (tgt := 14) hx hb dX11_rain_8 (by decide) (fun c8 => ?_) (fun c8 => ?_)
    · skip
      have tc8 := f_le (k := 14) (by decide) c8
      refine lv_aload_n hx hb dX11_rain_14 rfl (lv_at hl 0 rfl) ?_
      refine t_get (ci := 11) (lst := ft11 w ch) (C := RX11) (F := TX11) (N := 20) hx hb hts uX11 hown hkb hH t_a0 (hO.no t_a0 (by decide)) (fun _ h9 => h9) rfl rfl 5 (by decide) rfl kw_365 (fun _ h9 => h9) dX11_rain_15 (fun v9 h9 => ?_)
      obtain ⟨v15, rfl, t_v15⟩ := h9
      refine lv_aload_n hx hb dX11_rain_18 rfl (lv_at hl 0 rfl) ?_
      refine t_get (ci := 11) (lst := ft11 w ch) (C := RX11) (F := TX11) (N := 20) hx hb hts uX11 hown hkb hH t_a0 (hO.no t_a0 (by decide)) (fun _ h9 => h9) rfl rfl 4 (by decide) rfl kw_364 (fun _ h9 => h9) dX11_rain_19 (fun v9 h9 => ?_)
      obtain ⟨v19, rfl, t_v19⟩ := h9
      refine tk_v hH hS hA (tr_V (n := 1) (As := [.ref v19]) hx hb hml hown hts hkb hH hOX hks hE hS hA (s_State_take l D cs kf T O X v15 v19 t_v15 t_v19 (hO.sub (by decide))) kw_757 kw_758 kw_759 kw_7 kw_760 (by decide +kernel) ⟨Nat.le_of_ble_eq_true rfl, Nat.le_of_ble_eq_true rfl⟩ (HT.recv (ci := 6) hkb hH t_v15 (hO.no t_v15 (by decide)) rfl) rfl rfl hl.1 (Nat.le_of_ble_eq_true rfl) dX11_rain_22 ⟨Nat.le_of_ble_eq_true rfl, Nat.le_of_ble_eq_true rfl⟩) (fun u H locs hz9 hH hS => ?_)
      have hz9 : u = (T, O, X) := hz9
      subst hz9
      have hH : HT D cs A T O X H := hH
      refine W.widen (k := 0) (n := 0) (Nat.le_of_ble_eq_true rfl) (Nat.le_of_ble_eq_true rfl) ?_
      refine lv_aload_n hx hb dX11_rain_25 rfl (lv_at hl 0 rfl) ?_
      refine t_get (ci := 11) (lst := ft11 w ch) (C := RX11) (F := TX11) (N := 20) hx hb hts uX11 hown hkb hH t_a0 (hO.no t_a0 (by decide)) (fun _ h9 => h9) rfl rfl 4 (by decide) rfl kw_364 (fun _ h9 => h9) dX11_rain_26 (fun v9 h9 => ?_)
      obtain ⟨v26, rfl, t_v26⟩ := h9
      refine lv_iload_n hx hb dX11_rain_29 rfl (lv_at hl 1 rfl) ?_
      refine tk_i hH hS hA (tr_V (n := 1) (As := [.int x1]) hx hb hml hown hts hkb hH hOX hks hE hS hA (s_State_comeBack l D cs kf T O X v26 x1 t_v26 (hO.sub (by decide))) kw_938 kw_939 kw_940 kw_7 kw_941 (by decide +kernel) ⟨Nat.le_of_ble_eq_true rfl, Nat.le_of_ble_eq_true rfl⟩ (HT.recv (ci := 6) hkb hH t_v26 (hO.no t_v26 (by decide)) rfl) rfl rfl hl.1 (Nat.le_of_ble_eq_true rfl) dX11_rain_30 ⟨Nat.le_of_ble_eq_true rfl, Nat.le_of_ble_eq_true rfl⟩) (fun v30 u H locs hz9 hH hS => ?_)
      have hz9 : u = (T, O, X) := hz9
      subst hz9
      have hH : HT D cs A T O X H := hH
      refine W.widen (k := 0) (n := 0) (Nat.le_of_ble_eq_true rfl) (Nat.le_of_ble_eq_true rfl) ?_
      refine lv_istore_n (lv' := [(2, .int v30), (0, .ref a0), (1, .int x1)]) hx hb dX11_rain_33 rfl hl (by decide) rfl (fun ls hl => ?_)
      refine lv_iload_n hx hb dX11_rain_34 rfl (lv_at hl 0 rfl) ?_
      have J42 : ∀  (H : Heap) (locs : List Loc) (ls : Array Slot), HT D cs A T O X H → va_S A s.heap H locs → lv_has ls 3 [(2, .int v30)] → W p l e { frames := 2, cells := 0, slots := 0, locals := 81 } s m [.ref a0, .int x1].toArray below meth c H locs 0 0 (MQ below (Ti D cs (fun r u => u = (T, O, X)) A) [.ref a0, .int x1].toArray s 0 0 A) (F0 m 42 ls []) := by
        intro  H locs ls  hH hS hl
        refine lv_iload_n hx hb dX11_rain_42 rfl (lv_at hl 0 rfl) ?_
        exact te_i hx hb hr hlocks hH hS (rfl) dX11_rain_43
      refine lv_if_le (tgt := 42) hx hb dX11_rain_35 (by decide) (fun c35 => ?_) (fun c35 => ?_)
      · skip
        have tc35 := f_le (k := 0) (by decide) c35
        exact J42  _ _ _  hH hS (lv_sub hl [0] rfl)
      · skip
        have tc35 := f_nle (k := 0) (by decide) c35
        refine lv_aload_n hx hb dX11_rain_38 rfl (lv_at hl 1 rfl) ?_
        refine tk_v hH hS hA (tr_V (n := 0) (As := []) hx hb hml hown hts hkb hH hOX hks hE hS hA (s_FW_remember l D cs kf T O X a0 w hw gw ch gq t_a0 t_w t_ch (hO.sub (by decide))) kw_899 kw_901 ks_25 kw_1 kw_902 (by decide +kernel) ⟨Nat.le_of_ble_eq_true rfl, Nat.le_of_ble_eq_true rfl⟩ (HT.recv (ci := 11) hkb hH t_a0 (hO.no t_a0 (by decide)) rfl) rfl rfl hl.1 (Nat.le_of_ble_eq_true rfl) dX11_rain_39 ⟨Nat.le_of_ble_eq_true rfl, Nat.le_of_ble_eq_true rfl⟩) (fun u H locs hz9 hH hS => ?_)
        have hz9 : u = (T, O, X) := hz9
        subst hz9
        have hH : HT D cs A T O X H := hH
        refine W.widen (k := 0) (n := 0) (Nat.le_of_ble_eq_true rfl) (Nat.le_of_ble_eq_true rfl) ?_
        exact J42  _ _ _  hH hS (lv_sub hl [0] rfl)
    · skip
      have tc8 := f_nle (k := 14) (by decide) c8
      exact J11  _ _ _  hH hS (lv_sub hl [] rfl)
set_option maxHeartbeats 4000000 in
set_option maxRecDepth 100000 in
theorem s_FW_breaks (l : Launch) (D : va_G) (cs : CS) (kf : KF) (T : TF) (O : List Nat) (X : va_W) (a0 w hw gw ch gq : Nat) (x1 : Int32) (t_a0 : T a0 = some (21, w, ch)) (t_w : isW T w hw gw) (t_ch : T ch = some (10, gq, 0)) (hO : okO T O [1, 4, 16, 19, 21]) : TK l D cs kf yX11_breaks cX11_breaks 3 (some (.int)) { frames := 2, cells := 0, slots := 0, locals := 81 } [.ref a0, .int x1] T O X (Ti D cs (fun r u => u = (T, O, X) ∧ -5 ≤ r.toInt ∧ r.toInt ≤ 1)) := by
  refine tk_of (by decide) (Nat.le_of_ble_eq_true rfl) (fun p e s m below meth c ls A H locs hx hb hr hml hown hts hlocks hnm hkb hH hS hA hOX hks hE hl => ?_)
  have hown : s.vm.findClass RX11 = some m.cls := hown
  have hl : lv_has ls 3 [(0, .ref a0), (1, .int x1)] := hl
  have b1_w := t_w.2.1
  have b2_w := t_w.2.2
  refine lv_aload_n hx hb dX11_breaks_0 rfl (lv_at hl 0 rfl) ?_
  refine lv_iload_n hx hb dX11_breaks_1 rfl (lv_at hl 1 rfl) ?_
  refine tk_i hH hS hA (tr_V (n := 1) (As := [.int x1]) hx hb hml hown hts hkb hH hOX hks hE hS hA (s_FW_isHold l D cs kf T O X a0 w hw gw ch gq x1 t_a0 t_w t_ch (hO.sub (by decide))) kw_770 kw_772 ks_17 kw_1 kw_773 (by decide +kernel) ⟨Nat.le_of_ble_eq_true rfl, Nat.le_of_ble_eq_true rfl⟩ (HT.recv (ci := 11) hkb hH t_a0 (hO.no t_a0 (by decide)) rfl) rfl rfl hl.1 (Nat.le_of_ble_eq_true rfl) dX11_breaks_2 ⟨Nat.le_of_ble_eq_true rfl, Nat.le_of_ble_eq_true rfl⟩) (fun v2 u H locs hz9 hH hS => ?_)
  obtain ⟨rfl, l_v2, u_v2, x_v20⟩ := hz9
  have hH : HT D cs A T O X H := hH
  refine W.widen (k := 0) (n := 0) (Nat.le_of_ble_eq_true rfl) (Nat.le_of_ble_eq_true rfl) ?_
  refine lv_if_ne (tgt := 11) hx hb dX11_breaks_5 (by decide) (fun c5 => ?_) (fun c5 => ?_)
  · skip
    have tc5 := f_ne (k := 0) (by decide) c5
    refine lv_aload_n hx hb dX11_breaks_11 rfl (lv_at hl 0 rfl) ?_
    refine t_get (ci := 11) (lst := ft11 w ch) (C := RX11) (F := TX11) (N := 20) hx hb hts uX11 hown hkb hH t_a0 (hO.no t_a0 (by decide)) (fun _ h9 => h9) rfl rfl 4 (by decide) rfl kw_364 (fun _ h9 => h9) dX11_breaks_12 (fun v9 h9 => ?_)
    obtain ⟨v12, rfl, t_v12⟩ := h9
    refine t_get (ci := 6) (lst := ft6 0 0) (C := RX6) (F := TX6) (N := 6) hx hb hts uX6 hown hkb hH t_v12 (hO.no t_v12 (by decide)) (fun _ h9 => h9) rfl rfl 1 (by decide) rfl kw_188 (fun _ h9 => h9) dX11_breaks_15 (fun v9 h9 => ?_)
    obtain ⟨v15, rfl⟩ := h9
    refine lv_iload_n hx hb dX11_breaks_18 rfl (lv_at hl 1 rfl) ?_
    refine lv_ishr hx hb dX11_breaks_19 ?_
    refine lv_topi (fun v19 ev19 => ?_)
    refine lv_iconst (v := 1) hx hb dX11_breaks_20 (by decide) ?_
    refine lv_iand hx hb dX11_breaks_21 ?_
    refine lv_topi (fun v21 ev21 => ?_)
    have tv21 : 0 ≤ v21.toInt ∧ v21.toInt ≤ 1 := by rw [ev21]; exact and_r (by decide)
    refine lv_if_eq (tgt := 28) hx hb dX11_breaks_22 (by decide) (fun c22 => ?_) (fun c22 => ?_)
    · skip
      have tc22 := f_eq (k := 0) (by decide) c22
      refine lv_aload_n hx hb dX11_breaks_28 rfl (lv_at hl 0 rfl) ?_
      refine t_get (ci := 11) (lst := ft11 w ch) (C := RX11) (F := TX11) (N := 20) hx hb hts uX11 hown hkb hH t_a0 (hO.no t_a0 (by decide)) (fun _ h9 => h9) rfl rfl 5 (by decide) rfl kw_365 (fun _ h9 => h9) dX11_breaks_29 (fun v9 h9 => ?_)
      obtain ⟨v29, rfl, t_v29⟩ := h9
      refine lv_aload_n hx hb dX11_breaks_32 rfl (lv_at hl 0 rfl) ?_
      refine t_get (ci := 11) (lst := ft11 w ch) (C := RX11) (F := TX11) (N := 20) hx hb hts uX11 hown hkb hH t_a0 (hO.no t_a0 (by decide)) (fun _ h9 => h9) rfl rfl 4 (by decide) rfl kw_364 (fun _ h9 => h9) dX11_breaks_33 (fun v9 h9 => ?_)
      obtain ⟨v33, rfl, t_v33⟩ := h9
      refine tk_v hH hS hA (tr_V (n := 1) (As := [.ref v33]) hx hb hml hown hts hkb hH hOX hks hE hS hA (s_State_take l D cs kf T O X v29 v33 t_v29 t_v33 (hO.sub (by decide))) kw_757 kw_758 kw_759 kw_7 kw_760 (by decide +kernel) ⟨Nat.le_of_ble_eq_true rfl, Nat.le_of_ble_eq_true rfl⟩ (HT.recv (ci := 6) hkb hH t_v29 (hO.no t_v29 (by decide)) rfl) rfl rfl hl.1 (Nat.le_of_ble_eq_true rfl) dX11_breaks_36 ⟨Nat.le_of_ble_eq_true rfl, Nat.le_of_ble_eq_true rfl⟩) (fun u H locs hz9 hH hS => ?_)
      have hz9 : u = (T, O, X) := hz9
      subst hz9
      have hH : HT D cs A T O X H := hH
      refine W.widen (k := 0) (n := 0) (Nat.le_of_ble_eq_true rfl) (Nat.le_of_ble_eq_true rfl) ?_
      refine lv_aload_n hx hb dX11_breaks_39 rfl (lv_at hl 0 rfl) ?_
      refine t_get (ci := 11) (lst := ft11 w ch) (C := RX11) (F := TX11) (N := 20) hx hb hts uX11 hown hkb hH t_a0 (hO.no t_a0 (by decide)) (fun _ h9 => h9) rfl rfl 4 (by decide) rfl kw_364 (fun _ h9 => h9) dX11_breaks_40 (fun v9 h9 => ?_)
      obtain ⟨v40, rfl, t_v40⟩ := h9
      refine lv_iload_n hx hb dX11_breaks_43 rfl (lv_at hl 1 rfl) ?_
      refine tk_i hH hS hA (tr_V (n := 1) (As := [.int x1]) hx hb hml hown hts hkb hH hOX hks hE hS hA (s_State_breakDown l D cs kf T O X v40 x1 t_v40 (hO.sub (by decide))) kw_946 kw_703 kw_704 kw_7 kw_705 (by decide +kernel) ⟨Nat.le_of_ble_eq_true rfl, Nat.le_of_ble_eq_true rfl⟩ (HT.recv (ci := 6) hkb hH t_v40 (hO.no t_v40 (by decide)) rfl) rfl rfl hl.1 (Nat.le_of_ble_eq_true rfl) dX11_breaks_44 ⟨Nat.le_of_ble_eq_true rfl, Nat.le_of_ble_eq_true rfl⟩) (fun v44 u H locs hz9 hH hS => ?_)
      obtain ⟨rfl, l_v44, u_v44⟩ := hz9
      have hH : HT D cs A T O X H := hH
      refine W.widen (k := 0) (n := 0) (Nat.le_of_ble_eq_true rfl) (Nat.le_of_ble_eq_true rfl) ?_
      refine lv_istore_n (lv' := [(2, .int v44), (0, .ref a0), (1, .int x1)]) hx hb dX11_breaks_47 rfl hl (by decide) rfl (fun ls hl => ?_)
      refine lv_aload_n hx hb dX11_breaks_48 rfl (lv_at hl 1 rfl) ?_
      refine tk_v hH hS hA (tr_V (n := 0) (As := []) hx hb hml hown hts hkb hH hOX hks hE hS hA (s_FW_remember l D cs kf T O X a0 w hw gw ch gq t_a0 t_w t_ch (hO.sub (by decide))) kw_899 kw_901 ks_25 kw_1 kw_902 (by decide +kernel) ⟨Nat.le_of_ble_eq_true rfl, Nat.le_of_ble_eq_true rfl⟩ (HT.recv (ci := 11) hkb hH t_a0 (hO.no t_a0 (by decide)) rfl) rfl rfl hl.1 (Nat.le_of_ble_eq_true rfl) dX11_breaks_49 ⟨Nat.le_of_ble_eq_true rfl, Nat.le_of_ble_eq_true rfl⟩) (fun u H locs hz9 hH hS => ?_)
      have hz9 : u = (T, O, X) := hz9
      subst hz9
      have hH : HT D cs A T O X H := hH
      refine W.widen (k := 0) (n := 0) (Nat.le_of_ble_eq_true rfl) (Nat.le_of_ble_eq_true rfl) ?_
      refine lv_iload_n hx hb dX11_breaks_52 rfl (lv_at hl 0 rfl) ?_
      exact te_i hx hb hr hlocks hH hS (⟨rfl, by omega, by omega⟩) dX11_breaks_53
    · skip
      have tc22 := f_ne (k := 0) (by decide) c22
      refine lv_bipush (v := (-5)) hx hb dX11_breaks_25 (by decide) ?_
      exact te_i hx hb hr hlocks hH hS (⟨rfl, by decide, by decide⟩) dX11_breaks_27
  · skip
    have tc5 := f_eq (k := 0) (by decide) c5
    refine lv_bipush (v := (-2)) hx hb dX11_breaks_8 (by decide) ?_
    exact te_i hx hb hr hlocks hH hS (⟨rfl, by decide, by decide⟩) dX11_breaks_10
set_option maxHeartbeats 4000000 in
set_option maxRecDepth 100000 in
theorem s_FW_newYear (l : Launch) (D : va_G) (cs : CS) (kf : KF) (T : TF) (O : List Nat) (X : va_W) (a0 w hw gw ch gq : Nat) (t_a0 : T a0 = some (21, w, ch)) (t_w : isW T w hw gw) (t_ch : T ch = some (10, gq, 0)) (hO : okO T O [1, 4, 16, 21]) : TK l D cs kf yX11_newYear cX11_newYear 2 (some (.int)) { frames := 2, cells := 0, slots := 0, locals := 81 } [.ref a0] T O X (Ti D cs (fun r u => u = (T, O, X) ∧ 0 ≤ r.toInt ∧ r.toInt ≤ 63)) := by
  refine tk_of (by decide) (Nat.le_of_ble_eq_true rfl) (fun p e s m below meth c ls A H locs hx hb hr hml hown hts hlocks hnm hkb hH hS hA hOX hks hE hl => ?_)
  have hown : s.vm.findClass RX11 = some m.cls := hown
  have hl : lv_has ls 2 [(0, .ref a0)] := hl
  have b1_w := t_w.2.1
  have b2_w := t_w.2.2
  refine lv_aload_n hx hb dX11_newYear_0 rfl (lv_at hl 0 rfl) ?_
  refine t_get (ci := 11) (lst := ft11 w ch) (C := RX11) (F := TX11) (N := 20) hx hb hts uX11 hown hkb hH t_a0 (hO.no t_a0 (by decide)) (fun _ h9 => h9) rfl rfl 5 (by decide) rfl kw_365 (fun _ h9 => h9) dX11_newYear_1 (fun v9 h9 => ?_)
  obtain ⟨v1, rfl, t_v1⟩ := h9
  refine lv_aload_n hx hb dX11_newYear_4 rfl (lv_at hl 0 rfl) ?_
  refine t_get (ci := 11) (lst := ft11 w ch) (C := RX11) (F := TX11) (N := 20) hx hb hts uX11 hown hkb hH t_a0 (hO.no t_a0 (by decide)) (fun _ h9 => h9) rfl rfl 4 (by decide) rfl kw_364 (fun _ h9 => h9) dX11_newYear_5 (fun v9 h9 => ?_)
  obtain ⟨v5, rfl, t_v5⟩ := h9
  refine tk_v hH hS hA (tr_V (n := 1) (As := [.ref v5]) hx hb hml hown hts hkb hH hOX hks hE hS hA (s_State_take l D cs kf T O X v1 v5 t_v1 t_v5 (hO.sub (by decide))) kw_757 kw_758 kw_759 kw_7 kw_760 (by decide +kernel) ⟨Nat.le_of_ble_eq_true rfl, Nat.le_of_ble_eq_true rfl⟩ (HT.recv (ci := 6) hkb hH t_v1 (hO.no t_v1 (by decide)) rfl) rfl rfl hl.1 (Nat.le_of_ble_eq_true rfl) dX11_newYear_8 ⟨Nat.le_of_ble_eq_true rfl, Nat.le_of_ble_eq_true rfl⟩) (fun u H locs hz9 hH hS => ?_)
  have hz9 : u = (T, O, X) := hz9
  subst hz9
  have hH : HT D cs A T O X H := hH
  refine W.widen (k := 0) (n := 0) (Nat.le_of_ble_eq_true rfl) (Nat.le_of_ble_eq_true rfl) ?_
  refine lv_aload_n hx hb dX11_newYear_11 rfl (lv_at hl 0 rfl) ?_
  refine t_get (ci := 11) (lst := ft11 w ch) (C := RX11) (F := TX11) (N := 20) hx hb hts uX11 hown hkb hH t_a0 (hO.no t_a0 (by decide)) (fun _ h9 => h9) rfl rfl 4 (by decide) rfl kw_364 (fun _ h9 => h9) dX11_newYear_12 (fun v9 h9 => ?_)
  obtain ⟨v12, rfl, t_v12⟩ := h9
  refine t_get (ci := 6) (lst := ft6 0 0) (C := RX6) (F := TX6) (N := 6) hx hb hts uX6 hown hkb hH t_v12 (hO.no t_v12 (by decide)) (fun _ h9 => h9) rfl rfl 0 (by decide) rfl kw_186 (fun _ h9 => h9) dX11_newYear_15 (fun v9 h9 => ?_)
  obtain ⟨v15, rfl⟩ := h9
  refine tk_i hH hS hA (tr_S (n := 1) (As := [.int v15]) hx hb hml hown hts hkb hH hOX hks hE hS hA (s_bitCount l D cs kf T O X v15  (hO.sub (by decide))) kw_893 kw_692 kw_20 kw_693 (by decide +kernel) ⟨Nat.le_of_ble_eq_true rfl, Nat.le_of_ble_eq_true rfl⟩ rfl rfl hl.1 (Nat.le_of_ble_eq_true rfl) dX11_newYear_18 ⟨Nat.le_of_ble_eq_true rfl, Nat.le_of_ble_eq_true rfl⟩) (fun v18 u H locs hz9 hH hS => ?_)
  obtain ⟨rfl, l_v18, u_v18⟩ := hz9
  have hH : HT D cs A T O X H := hH
  refine W.widen (k := 0) (n := 0) (Nat.le_of_ble_eq_true rfl) (Nat.le_of_ble_eq_true rfl) ?_
  refine lv_istore_n (lv' := [(1, .int v18), (0, .ref a0)]) hx hb dX11_newYear_21 rfl hl (by decide) rfl (fun ls hl => ?_)
  refine lv_aload_n hx hb dX11_newYear_22 rfl (lv_at hl 1 rfl) ?_
  refine t_get (ci := 11) (lst := ft11 w ch) (C := RX11) (F := TX11) (N := 20) hx hb hts uX11 hown hkb hH t_a0 (hO.no t_a0 (by decide)) (fun _ h9 => h9) rfl rfl 4 (by decide) rfl kw_364 (fun _ h9 => h9) dX11_newYear_23 (fun v9 h9 => ?_)
  obtain ⟨v23, rfl, t_v23⟩ := h9
  refine lv_iconst (v := 0) hx hb dX11_newYear_26 (by decide) ?_
  refine t_put (ci := 6) (lst := ft6 0 0) (v := .int 0) (ty := tyX6 0) (C := RX6) (F := TX6) (N := 6) hx hb hts uX6 tyX6 tyX6_ok nmX6 hown hkb hH hS t_v23 (hO.no t_v23 (by decide)) (fun _ => Iff.rfl) rfl rfl 0 (by decide) rfl (⟨_, rfl⟩) kw_186 (fun _ h9 => h9) rfl (tyX6_ok 0 (by decide)) rfl rfl dX11_newYear_27 (fun H locs hH hS => ?_)
  refine lv_aload_n hx hb dX11_newYear_30 rfl (lv_at hl 1 rfl) ?_
  refine t_get (ci := 11) (lst := ft11 w ch) (C := RX11) (F := TX11) (N := 20) hx hb hts uX11 hown hkb hH t_a0 (hO.no t_a0 (by decide)) (fun _ h9 => h9) rfl rfl 4 (by decide) rfl kw_364 (fun _ h9 => h9) dX11_newYear_31 (fun v9 h9 => ?_)
  obtain ⟨v31, rfl, t_v31⟩ := h9
  refine lv_iconst (v := 0) hx hb dX11_newYear_34 (by decide) ?_
  refine t_put (ci := 6) (lst := ft6 0 0) (v := .int 0) (ty := tyX6 2) (C := RX6) (F := TX6) (N := 6) hx hb hts uX6 tyX6 tyX6_ok nmX6 hown hkb hH hS t_v31 (hO.no t_v31 (by decide)) (fun _ => Iff.rfl) rfl rfl 2 (by decide) rfl (⟨_, rfl⟩) kw_191 (fun _ h9 => h9) rfl (tyX6_ok 2 (by decide)) rfl rfl dX11_newYear_35 (fun H locs hH hS => ?_)
  refine lv_aload_n hx hb dX11_newYear_38 rfl (lv_at hl 1 rfl) ?_
  refine t_get (ci := 11) (lst := ft11 w ch) (C := RX11) (F := TX11) (N := 20) hx hb hts uX11 hown hkb hH t_a0 (hO.no t_a0 (by decide)) (fun _ h9 => h9) rfl rfl 4 (by decide) rfl kw_364 (fun _ h9 => h9) dX11_newYear_39 (fun v9 h9 => ?_)
  obtain ⟨v39, rfl, t_v39⟩ := h9
  refine lv_dup hx hb dX11_newYear_42 rfl ?_
  refine t_get (ci := 6) (lst := ft6 0 0) (C := RX6) (F := TX6) (N := 6) hx hb hts uX6 hown hkb hH t_v39 (hO.no t_v39 (by decide)) (fun _ h9 => h9) rfl rfl 3 (by decide) rfl kw_193 (fun _ h9 => h9) dX11_newYear_43 (fun v9 h9 => ?_)
  obtain ⟨v43, rfl⟩ := h9
  refine lv_iconst (v := 1) hx hb dX11_newYear_46 (by decide) ?_
  refine lv_iadd hx hb dX11_newYear_47 ?_
  refine lv_topi (fun v47 ev47 => ?_)
  refine t_put (ci := 6) (lst := ft6 0 0) (v := .int v47) (ty := tyX6 3) (C := RX6) (F := TX6) (N := 6) hx hb hts uX6 tyX6 tyX6_ok nmX6 hown hkb hH hS t_v39 (hO.no t_v39 (by decide)) (fun _ => Iff.rfl) rfl rfl 3 (by decide) rfl (⟨_, rfl⟩) kw_193 (fun _ h9 => h9) rfl (tyX6_ok 3 (by decide)) rfl rfl dX11_newYear_48 (fun H locs hH hS => ?_)
  refine lv_aload_n hx hb dX11_newYear_51 rfl (lv_at hl 1 rfl) ?_
  refine tk_v hH hS hA (tr_V (n := 0) (As := []) hx hb hml hown hts hkb hH hOX hks hE hS hA (s_FW_remember l D cs kf T O X a0 w hw gw ch gq t_a0 t_w t_ch (hO.sub (by decide))) kw_899 kw_901 ks_25 kw_1 kw_902 (by decide +kernel) ⟨Nat.le_of_ble_eq_true rfl, Nat.le_of_ble_eq_true rfl⟩ (HT.recv (ci := 11) hkb hH t_a0 (hO.no t_a0 (by decide)) rfl) rfl rfl hl.1 (Nat.le_of_ble_eq_true rfl) dX11_newYear_52 ⟨Nat.le_of_ble_eq_true rfl, Nat.le_of_ble_eq_true rfl⟩) (fun u H locs hz9 hH hS => ?_)
  have hz9 : u = (T, O, X) := hz9
  subst hz9
  have hH : HT D cs A T O X H := hH
  refine W.widen (k := 0) (n := 0) (Nat.le_of_ble_eq_true rfl) (Nat.le_of_ble_eq_true rfl) ?_
  refine lv_iload_n hx hb dX11_newYear_55 rfl (lv_at hl 0 rfl) ?_
  exact te_i hx hb hr hlocks hH hS (⟨rfl, by omega, by omega⟩) dX11_newYear_56
set_option maxHeartbeats 4000000 in
set_option maxRecDepth 100000 in
theorem s_FW_undo (l : Launch) (D : va_G) (cs : CS) (kf : KF) (T : TF) (O : List Nat) (X : va_W) (a0 w hw gw ch gq : Nat) (x1 : Int32) (t_a0 : T a0 = some (21, w, ch)) (t_w : isW T w hw gw) (t_ch : T ch = some (10, gq, 0)) (hO : okO T O [1, 4, 16, 21]) : TK l D cs kf yX11_undo cX11_undo 2 (some (.int)) { frames := 2, cells := 0, slots := 0, locals := 81 } [.ref a0, .int x1] T O X (Ti D cs (fun r u => u = (T, O, X) ∧ -9 ≤ r.toInt ∧ r.toInt ≤ 9)) := by
  refine tk_of (by decide) (Nat.le_of_ble_eq_true rfl) (fun p e s m below meth c ls A H locs hx hb hr hml hown hts hlocks hnm hkb hH hS hA hOX hks hE hl => ?_)
  have hown : s.vm.findClass RX11 = some m.cls := hown
  have hl : lv_has ls 2 [(0, .ref a0), (1, .int x1)] := hl
  have b1_w := t_w.2.1
  have b2_w := t_w.2.2
  have hO0 := hO
  obtain ⟨fs9, ho9, hH⟩ := hH.take t_a0 (hO0.no t_a0 (by decide))
  have hp0 : okL T (ft11 w ch) fs9 := ho9
  clear ho9
  obtain ⟨v9, fs9, rfl, h9, hp1⟩ := okL_i hp0
  obtain ⟨q0_0, rfl, t_q0_0⟩ := h9
  obtain ⟨v9, fs9, rfl, h9, hp2⟩ := okL_i hp1
  obtain ⟨q0_1, rfl, l_q0_1, u_q0_1, gt_q0_1⟩ := h9
  have eg_q0_1 : q0_1.toInt = (gq : Int) := by have q9 := tl_eq gt_q0_1 t_ch; omega
  obtain ⟨v9, fs9, rfl, h9, hp3⟩ := okL_i hp2
  obtain ⟨q0_2, dq0_2, rfl, t_q0_2, t_dq0_2⟩ := h9
  obtain ⟨v9, fs9, rfl, h9, hp4⟩ := okL_i hp3
  have h9 : v9 = .ref w := h9
  subst h9
  obtain ⟨v9, fs9, rfl, h9, hp5⟩ := okL_i hp4
  obtain ⟨q0_4, rfl, t_q0_4⟩ := h9
  obtain ⟨v9, fs9, rfl, h9, hp6⟩ := okL_i hp5
  obtain ⟨q0_5, rfl, t_q0_5⟩ := h9
  obtain ⟨v9, fs9, rfl, h9, hp7⟩ := okL_i hp6
  obtain ⟨q0_6, rfl, t_q0_6⟩ := h9
  obtain ⟨v9, fs9, rfl, h9, hp8⟩ := okL_i hp7
  obtain ⟨q0_7, rfl, l_q0_7, u_q0_7⟩ := h9
  obtain ⟨v9, fs9, rfl, h9, hp9⟩ := okL_i hp8
  obtain ⟨q0_8, rfl, l_q0_8, u_q0_8⟩ := h9
  obtain ⟨v9, fs9, rfl, h9, hp10⟩ := okL_i hp9
  obtain ⟨q0_9, rfl, t_q0_9⟩ := h9
  obtain ⟨v9, fs9, rfl, h9, hp11⟩ := okL_i hp10
  obtain ⟨q0_10, rfl, t_q0_10⟩ := h9
  obtain ⟨v9, fs9, rfl, h9, hp12⟩ := okL_i hp11
  obtain ⟨q0_11, rfl, t_q0_11⟩ := h9
  obtain ⟨v9, fs9, rfl, h9, hp13⟩ := okL_i hp12
  obtain ⟨q0_12, rfl, t_q0_12⟩ := h9
  obtain ⟨v9, fs9, rfl, h9, hp14⟩ := okL_i hp13
  obtain ⟨q0_13, rfl, t_q0_13⟩ := h9
  obtain ⟨v9, fs9, rfl, h9, hp15⟩ := okL_i hp14
  obtain ⟨q0_14, rfl, t_q0_14⟩ := h9
  obtain ⟨v9, fs9, rfl, h9, hp16⟩ := okL_i hp15
  obtain ⟨q0_15, rfl, t_q0_15⟩ := h9
  obtain ⟨v9, fs9, rfl, h9, hp17⟩ := okL_i hp16
  have h9 : v9 = .ref ch := h9
  subst h9
  obtain ⟨v9, fs9, rfl, h9, hp18⟩ := okL_i hp17
  obtain ⟨q0_17, rfl, t_q0_17⟩ := h9
  obtain ⟨v9, fs9, rfl, h9, hp19⟩ := okL_i hp18
  obtain ⟨q0_18, rfl, t_q0_18⟩ := h9
  obtain ⟨v9, fs9, rfl, h9, hp20⟩ := okL_i hp19
  obtain ⟨q0_19, rfl⟩ := h9
  have hpz := okL_z hp20
  subst hpz
  have hH : HT D cs A T (a0 :: O) ((a0, .inr (11, [.ref q0_0, .int q0_1, .ref q0_2, .ref w, .ref q0_4, .ref q0_5, .ref q0_6, .int q0_7, .int q0_8, .ref q0_9, .ref q0_10, .ref q0_11, .ref q0_12, .ref q0_13, .ref q0_14, .ref q0_15, .ref ch, .ref q0_17, .ref q0_18, .int q0_19])) :: X) H := hH
  have hO : okO T (a0 :: O) [1, 4, 16] := okO.cons (hO0.sub (by decide)) t_a0 (by decide)
  refine lv_iload_n hx hb dX11_undo_0 rfl (lv_at hl 1 rfl) ?_
  refine lv_iconst (v := 1) hx hb dX11_undo_1 (by decide) ?_
  have J13 : ∀  (H : Heap) (locs : List Loc) (ls : Array Slot), HT D cs A T (a0 :: O) ((a0, .inr (11, [.ref q0_0, .int q0_1, .ref q0_2, .ref w, .ref q0_4, .ref q0_5, .ref q0_6, .int q0_7, .int q0_8, .ref q0_9, .ref q0_10, .ref q0_11, .ref q0_12, .ref q0_13, .ref q0_14, .ref q0_15, .ref ch, .ref q0_17, .ref q0_18, .int q0_19])) :: X) H → va_S A s.heap H locs → lv_has ls 2 [] → W p l e { frames := 2, cells := 0, slots := 0, locals := 81 } s m [.ref a0, .int x1].toArray below meth c H locs 0 0 (MQ below (Ti D cs (fun r u => u = (T, O, X) ∧ -9 ≤ r.toInt ∧ r.toInt ≤ 9) A) [.ref a0, .int x1].toArray s 0 0 A) (F0 m 13 ls []) := by
    intro  H locs ls  hH hS hl
    refine lv_bipush (v := (-3)) hx hb dX11_undo_13 (by decide) ?_
    have hH : HT D cs A T O X H := HT.lay (ci := 11) hH t_a0 (okL_c (⟨_, rfl, t_q0_0⟩) (okL_c (⟨_, rfl, by omega, by omega, tl_of t_ch (by omega)⟩) (okL_c (⟨_, _, rfl, t_q0_2, t_dq0_2⟩) (okL_c (rfl) (okL_c (⟨_, rfl, t_q0_4⟩) (okL_c (⟨_, rfl, t_q0_5⟩) (okL_c (⟨_, rfl, t_q0_6⟩) (okL_c (⟨_, rfl, by omega, by omega⟩) (okL_c (⟨_, rfl, by omega, by omega⟩) (okL_c (⟨_, rfl, t_q0_9⟩) (okL_c (⟨_, rfl, t_q0_10⟩) (okL_c (⟨_, rfl, t_q0_11⟩) (okL_c (⟨_, rfl, t_q0_12⟩) (okL_c (⟨_, rfl, t_q0_13⟩) (okL_c (⟨_, rfl, t_q0_14⟩) (okL_c (⟨_, rfl, t_q0_15⟩) (okL_c (rfl) (okL_c (⟨_, rfl, t_q0_17⟩) (okL_c (⟨_, rfl, t_q0_18⟩) (okL_c (⟨_, rfl⟩) (okL_n)))))))))))))))))))))
    have hO := hO0
    exact te_i hx hb hr hlocks hH hS (⟨rfl, by decide, by decide⟩) dX11_undo_15
  refine lv_icmp_lt (tgt := 13) hx hb dX11_undo_2 (by decide) (fun c2 => ?_) (fun c2 => ?_)
  · skip
    have tc2 := f_lt (k := 1) (by decide) c2
    exact J13  _ _ _  hH hS (lv_sub hl [] rfl)
  · skip
    have tc2 := f_nlt (k := 1) (by decide) c2
    refine lv_iload_n hx hb dX11_undo_5 rfl (lv_at hl 1 rfl) ?_
    refine lv_aload_n hx hb dX11_undo_6 rfl (lv_at hl 0 rfl) ?_
    refine x_get (ci := 11) (C := RX11) (F := TX11) (N := 20) (v := .int q0_7) hx hb hts uX11 hown hkb hH rfl 7 (by decide) rfl kw_367 (fun _ h9 => h9) dX11_undo_7 ?_
    refine lv_icmp_le (tgt := 16) hx hb dX11_undo_10 (by decide) (fun c10 => ?_) (fun c10 => ?_)
    · skip
      have fuc10 := full_i x1
      have fvc10 := full_i q0_7
      have tc10 := g_le c10
      refine lv_aload_n hx hb dX11_undo_16 rfl (lv_at hl 0 rfl) ?_
      refine lv_aload_n hx hb dX11_undo_17 rfl (lv_at hl 0 rfl) ?_
      refine x_get (ci := 11) (C := RX11) (F := TX11) (N := 20) (v := .int q0_8) hx hb hts uX11 hown hkb hH rfl 8 (by decide) rfl kw_368 (fun _ h9 => h9) dX11_undo_18 ?_
      refine lv_iload_n hx hb dX11_undo_21 rfl (lv_at hl 1 rfl) ?_
      refine lv_isub hx hb dX11_undo_22 ?_
      refine lv_topi (fun v22 ev22 => ?_)
      have tv22 : v22.toInt = q0_8.toInt - x1.toInt := by rw [ev22]; exact sub_i rfl rfl (by omega) (by omega)
      refine lv_bipush (v := 10) hx hb dX11_undo_23 (by decide) ?_
      refine tk_i hH hS hA (tr_S (n := 2) (As := [.int v22, .int 10]) hx hb hml hown hts hkb hH (ox_c hOX) hks hE hS hA (s_floorMod l D cs kf T (a0 :: O) ((a0, .inr (11, [.ref q0_0, .int q0_1, .ref q0_2, .ref w, .ref q0_4, .ref q0_5, .ref q0_6, .int q0_7, .int q0_8, .ref q0_9, .ref q0_10, .ref q0_11, .ref q0_12, .ref q0_13, .ref q0_14, .ref q0_15, .ref ch, .ref q0_17, .ref q0_18, .int q0_19])) :: X) v22 (10) (by decide) (by decide) (hO.sub (by decide))) kw_955 kw_956 kw_6 kw_957 (by decide +kernel) ⟨Nat.le_of_ble_eq_true rfl, Nat.le_of_ble_eq_true rfl⟩ rfl rfl hl.1 (Nat.le_of_ble_eq_true rfl) dX11_undo_25 ⟨Nat.le_of_ble_eq_true rfl, Nat.le_of_ble_eq_true rfl⟩) (fun v25 u H locs hz9 hH hS => ?_)
      obtain ⟨rfl, l_v25, u_v25⟩ := hz9
      have hH : HT D cs A T (a0 :: O) ((a0, .inr (11, [.ref q0_0, .int q0_1, .ref q0_2, .ref w, .ref q0_4, .ref q0_5, .ref q0_6, .int q0_7, .int q0_8, .ref q0_9, .ref q0_10, .ref q0_11, .ref q0_12, .ref q0_13, .ref q0_14, .ref q0_15, .ref ch, .ref q0_17, .ref q0_18, .int q0_19])) :: X) H := hH
      refine W.widen (k := 0) (n := 0) (Nat.le_of_ble_eq_true rfl) (Nat.le_of_ble_eq_true rfl) ?_
      refine x_put (ci := 11) (v := .int v25) (ty := tyX11 8) (C := RX11) (F := TX11) (N := 20) hx hb hts uX11 tyX11 tyX11_ok nmX11 hown hkb hH hS rfl 8 (by decide) kw_368 (fun _ h9 => h9) rfl (tyX11_ok 8 (by decide)) rfl rfl (Nat.le_of_ble_eq_true rfl) dX11_undo_28 (fun H locs hH hS => ?_)
      have hH : HT D cs A T (a0 :: O) ((a0, .inr (11, [.ref q0_0, .int q0_1, .ref q0_2, .ref w, .ref q0_4, .ref q0_5, .ref q0_6, .int q0_7, .int v25, .ref q0_9, .ref q0_10, .ref q0_11, .ref q0_12, .ref q0_13, .ref q0_14, .ref q0_15, .ref ch, .ref q0_17, .ref q0_18, .int q0_19])) :: X) H := hH
      refine lv_aload_n hx hb dX11_undo_31 rfl (lv_at hl 0 rfl) ?_
      refine lv_dup hx hb dX11_undo_32 rfl ?_
      refine x_get (ci := 11) (C := RX11) (F := TX11) (N := 20) (v := .int q0_7) hx hb hts uX11 hown hkb hH rfl 7 (by decide) rfl kw_367 (fun _ h9 => h9) dX11_undo_33 ?_
      refine lv_iload_n hx hb dX11_undo_36 rfl (lv_at hl 1 rfl) ?_
      refine lv_isub hx hb dX11_undo_37 ?_
      refine lv_topi (fun v37 ev37 => ?_)
      have tv37 : v37.toInt = q0_7.toInt - x1.toInt := by rw [ev37]; exact sub_i rfl rfl (by omega) (by omega)
      refine x_put (ci := 11) (v := .int v37) (ty := tyX11 7) (C := RX11) (F := TX11) (N := 20) hx hb hts uX11 tyX11 tyX11_ok nmX11 hown hkb hH hS rfl 7 (by decide) kw_367 (fun _ h9 => h9) rfl (tyX11_ok 7 (by decide)) rfl rfl (Nat.le_of_ble_eq_true rfl) dX11_undo_38 (fun H locs hH hS => ?_)
      have hH : HT D cs A T (a0 :: O) ((a0, .inr (11, [.ref q0_0, .int q0_1, .ref q0_2, .ref w, .ref q0_4, .ref q0_5, .ref q0_6, .int v37, .int v25, .ref q0_9, .ref q0_10, .ref q0_11, .ref q0_12, .ref q0_13, .ref q0_14, .ref q0_15, .ref ch, .ref q0_17, .ref q0_18, .int q0_19])) :: X) H := hH
      refine lv_aload_n hx hb dX11_undo_41 rfl (lv_at hl 0 rfl) ?_
      refine x_get (ci := 11) (C := RX11) (F := TX11) (N := 20) (v := .ref q0_4) hx hb hts uX11 hown hkb hH rfl 4 (by decide) rfl kw_364 (fun _ h9 => h9) dX11_undo_42 ?_
      refine lv_aload_n hx hb dX11_undo_45 rfl (lv_at hl 0 rfl) ?_
      refine x_get (ci := 11) (C := RX11) (F := TX11) (N := 20) (v := .ref q0_6) hx hb hts uX11 hown hkb hH rfl 6 (by decide) rfl kw_366 (fun _ h9 => h9) dX11_undo_46 ?_
      refine lv_aload_n hx hb dX11_undo_49 rfl (lv_at hl 0 rfl) ?_
      refine x_get (ci := 11) (C := RX11) (F := TX11) (N := 20) (v := .int v25) hx hb hts uX11 hown hkb hH rfl 8 (by decide) rfl kw_368 (fun _ h9 => h9) dX11_undo_50 ?_
      refine t_qld4 hx hb hkb hH t_q0_6 (hO.no t_q0_6 (by decide)) (by omega) (by omega) dX11_undo_53 (fun v53 t_v53 => ?_)
      refine tk_v hH hS hA (tr_V (n := 1) (As := [.ref v53]) hx hb hml hown hts hkb hH (ox_c hOX) hks hE hS hA (s_State_take l D cs kf T (a0 :: O) ((a0, .inr (11, [.ref q0_0, .int q0_1, .ref q0_2, .ref w, .ref q0_4, .ref q0_5, .ref q0_6, .int v37, .int v25, .ref q0_9, .ref q0_10, .ref q0_11, .ref q0_12, .ref q0_13, .ref q0_14, .ref q0_15, .ref ch, .ref q0_17, .ref q0_18, .int q0_19])) :: X) q0_4 v53 t_q0_4 t_v53 (hO.sub (by decide))) kw_757 kw_758 kw_759 kw_7 kw_760 (by decide +kernel) ⟨Nat.le_of_ble_eq_true rfl, Nat.le_of_ble_eq_true rfl⟩ (HT.recv (ci := 6) hkb hH t_q0_4 (hO.no t_q0_4 (by decide)) rfl) rfl rfl hl.1 (Nat.le_of_ble_eq_true rfl) dX11_undo_54 ⟨Nat.le_of_ble_eq_true rfl, Nat.le_of_ble_eq_true rfl⟩) (fun u H locs hz9 hH hS => ?_)
      have hz9 : u = (T, a0 :: O, (a0, .inr (11, [.ref q0_0, .int q0_1, .ref q0_2, .ref w, .ref q0_4, .ref q0_5, .ref q0_6, .int v37, .int v25, .ref q0_9, .ref q0_10, .ref q0_11, .ref q0_12, .ref q0_13, .ref q0_14, .ref q0_15, .ref ch, .ref q0_17, .ref q0_18, .int q0_19])) :: X) := hz9
      subst hz9
      have hH : HT D cs A T (a0 :: O) ((a0, .inr (11, [.ref q0_0, .int q0_1, .ref q0_2, .ref w, .ref q0_4, .ref q0_5, .ref q0_6, .int v37, .int v25, .ref q0_9, .ref q0_10, .ref q0_11, .ref q0_12, .ref q0_13, .ref q0_14, .ref q0_15, .ref ch, .ref q0_17, .ref q0_18, .int q0_19])) :: X) H := hH
      refine W.widen (k := 0) (n := 0) (Nat.le_of_ble_eq_true rfl) (Nat.le_of_ble_eq_true rfl) ?_
      refine lv_aload_n hx hb dX11_undo_57 rfl (lv_at hl 0 rfl) ?_
      refine x_get (ci := 11) (C := RX11) (F := TX11) (N := 20) (v := .int v37) hx hb hts uX11 hown hkb hH rfl 7 (by decide) rfl kw_367 (fun _ h9 => h9) dX11_undo_58 ?_
      have hH : HT D cs A T O X H := HT.lay (ci := 11) hH t_a0 (okL_c (⟨_, rfl, t_q0_0⟩) (okL_c (⟨_, rfl, by omega, by omega, tl_of t_ch (by omega)⟩) (okL_c (⟨_, _, rfl, t_q0_2, t_dq0_2⟩) (okL_c (rfl) (okL_c (⟨_, rfl, t_q0_4⟩) (okL_c (⟨_, rfl, t_q0_5⟩) (okL_c (⟨_, rfl, t_q0_6⟩) (okL_c (⟨_, rfl, by omega, by omega⟩) (okL_c (⟨_, rfl, by omega, by omega⟩) (okL_c (⟨_, rfl, t_q0_9⟩) (okL_c (⟨_, rfl, t_q0_10⟩) (okL_c (⟨_, rfl, t_q0_11⟩) (okL_c (⟨_, rfl, t_q0_12⟩) (okL_c (⟨_, rfl, t_q0_13⟩) (okL_c (⟨_, rfl, t_q0_14⟩) (okL_c (⟨_, rfl, t_q0_15⟩) (okL_c (rfl) (okL_c (⟨_, rfl, t_q0_17⟩) (okL_c (⟨_, rfl, t_q0_18⟩) (okL_c (⟨_, rfl⟩) (okL_n)))))))))))))))))))))
      have hO := hO0
      exact te_i hx hb hr hlocks hH hS (⟨rfl, by omega, by omega⟩) dX11_undo_61
    · skip
      have fuc10 := full_i x1
      have fvc10 := full_i q0_7
      have tc10 := g_nle c10
      exact J13  _ _ _  hH hS (lv_sub hl [] rfl)
set_option maxHeartbeats 4000000 in
set_option maxRecDepth 100000 in
theorem s_FW_season (l : Launch) (D : va_G) (cs : CS) (kf : KF) (T : TF) (O : List Nat) (X : va_W) (a0 w hw gw ch gq : Nat) (x1 : Int32) (x2 : Int32) (t_a0 : T a0 = some (21, w, ch)) (t_w : isW T w hw gw) (t_ch : T ch = some (10, gq, 0)) (hO : okO T O [1, 4, 7, 12, 15, 16, 19, 20, 21]) : TK l D cs kf yX11_season cX11_season 9 (some (.int)) { frames := 7, cells := 0, slots := 0, locals := 173 } [.ref a0, .int x1, .int x2] T O X (Ti D cs (fun r u => u = (T, O, X))) := by
  refine tk_of (by decide) (Nat.le_of_ble_eq_true rfl) (fun p e s m below meth c ls A H locs hx hb hr hml hown hts hlocks hnm hkb hH hS hA hOX hks hE hl => ?_)
  have hown : s.vm.findClass RX11 = some m.cls := hown
  have hl : lv_has ls 9 [(0, .ref a0), (1, .int x1), (2, .int x2)] := hl
  have b1_w := t_w.2.1
  have b2_w := t_w.2.2
  refine lv_iload_n hx hb dX11_season_0 rfl (lv_at hl 2 rfl) ?_
  refine lv_iconst (v := 1) hx hb dX11_season_1 (by decide) ?_
  have J11 : ∀  (H : Heap) (locs : List Loc) (ls : Array Slot), HT D cs A T O X H → va_S A s.heap H locs → lv_has ls 9 [] → W p l e { frames := 7, cells := 0, slots := 0, locals := 173 } s m [.ref a0, .int x1, .int x2].toArray below meth c H locs 0 0 (MQ below (Ti D cs (fun r u => u = (T, O, X)) A) [.ref a0, .int x1, .int x2].toArray s 0 0 A) (F0 m 11 ls []) := by
    intro  H locs ls  hH hS hl
    refine lv_bipush (v := (-3)) hx hb dX11_season_11 (by decide) ?_
    exact te_i hx hb hr hlocks hH hS (rfl) dX11_season_13
  refine lv_icmp_lt (tgt := 11) hx hb dX11_season_2 (by decide) (fun c2 => ?_) (fun c2 => ?_)
  · skip
    have tc2 := f_lt (k := 1) (by decide) c2
    exact J11  _ _ _  hH hS (lv_sub hl [] rfl)
  · skip
    have tc2 := f_nlt (k := 1) (by decide) c2
    refine lv_iload_n hx hb dX11_season_5 rfl (lv_at hl 2 rfl) ?_
    refine lv_bipush (v := 40) hx hb dX11_season_6 (by decide) ?_
    refine lv_icmp_le (tgt := 14) hx hb dX11_season_8 (by decide) (fun c8 => ?_) (fun c8 => ?_)
    · skip
      have tc8 := f_le (k := 40) (by decide) c8
      refine lv_aload_n hx hb dX11_season_14 rfl (lv_at hl 0 rfl) ?_
      refine t_get (ci := 11) (lst := ft11 w ch) (C := RX11) (F := TX11) (N := 20) hx hb hts uX11 hown hkb hH t_a0 (hO.no t_a0 (by decide)) (fun _ h9 => h9) rfl rfl 3 (by decide) rfl kw_363 (fun _ h9 => h9) dX11_season_15 (fun v9 h9 => ?_)
      have h9 : v9 = .ref w := h9
      subst h9
      refine t_get (ci := 9) (lst := ft9w hw gw) (C := RX9) (F := TX9) (N := 14) hx hb hts uX9 hown hkb hH t_w.1 (hO.no t_w.1 (by decide)) (fun fs => (ob9w t_w fs).mp) rfl rfl 1 (by decide) rfl kw_112 (fun _ h9 => h9) dX11_season_18 (fun v9 h9 => ?_)
      have h9 : v9 = .int (nI gw) := h9
      subst h9
      have e_gw : (nI gw).toInt = gw := nI_toInt (by have := t_w.2.2; omega)
      have b_gw := t_w.2.2
      refine lv_if_ne (tgt := 27) hx hb dX11_season_21 (by decide) (fun c21 => ?_) (fun c21 => ?_)
      · skip
        have tc21 := f_ne (k := 0) (by decide) c21
        refine lv_aload_n hx hb dX11_season_27 rfl (lv_at hl 0 rfl) ?_
        refine t_get (ci := 11) (lst := ft11 w ch) (C := RX11) (F := TX11) (N := 20) hx hb hts uX11 hown hkb hH t_a0 (hO.no t_a0 (by decide)) (fun _ h9 => h9) rfl rfl 5 (by decide) rfl kw_365 (fun _ h9 => h9) dX11_season_28 (fun v9 h9 => ?_)
        obtain ⟨v28, rfl, t_v28⟩ := h9
        refine lv_aload_n hx hb dX11_season_31 rfl (lv_at hl 0 rfl) ?_
        refine t_get (ci := 11) (lst := ft11 w ch) (C := RX11) (F := TX11) (N := 20) hx hb hts uX11 hown hkb hH t_a0 (hO.no t_a0 (by decide)) (fun _ h9 => h9) rfl rfl 4 (by decide) rfl kw_364 (fun _ h9 => h9) dX11_season_32 (fun v9 h9 => ?_)
        obtain ⟨v32, rfl, t_v32⟩ := h9
        refine tk_v hH hS hA (tr_V (n := 1) (As := [.ref v32]) hx hb hml hown hts hkb hH hOX hks hE hS hA (s_State_take l D cs kf T O X v28 v32 t_v28 t_v32 (hO.sub (by decide))) kw_757 kw_758 kw_759 kw_7 kw_760 (by decide +kernel) ⟨Nat.le_of_ble_eq_true rfl, Nat.le_of_ble_eq_true rfl⟩ (HT.recv (ci := 6) hkb hH t_v28 (hO.no t_v28 (by decide)) rfl) rfl rfl hl.1 (Nat.le_of_ble_eq_true rfl) dX11_season_35 ⟨Nat.le_of_ble_eq_true rfl, Nat.le_of_ble_eq_true rfl⟩) (fun u H locs hz9 hH hS => ?_)
        have hz9 : u = (T, O, X) := hz9
        subst hz9
        have hH : HT D cs A T O X H := hH
        refine W.widen (k := 0) (n := 0) (Nat.le_of_ble_eq_true rfl) (Nat.le_of_ble_eq_true rfl) ?_
        refine lv_iload_n hx hb dX11_season_38 rfl (lv_at hl 1 rfl) ?_
        refine lv_istore_n (lv' := [(3, .int x1), (0, .ref a0), (1, .int x1), (2, .int x2)]) hx hb dX11_season_39 rfl hl (by decide) rfl (fun ls hl => ?_)
        refine lv_iconst (v := 0) hx hb dX11_season_40 (by decide) ?_
        refine lv_istore (lv' := [(4, .int 0), (3, .int x1), (0, .ref a0), (1, .int x1), (2, .int x2)]) hx hb dX11_season_41 hl (by decide) rfl (fun ls hl => ?_)
        refine lv_iconst (v := 0) hx hb dX11_season_43 (by decide) ?_
        refine lv_istore (lv' := [(5, .int 0), (4, .int 0), (3, .int x1), (0, .ref a0), (1, .int x1), (2, .int x2)]) hx hb dX11_season_44 hl (by decide) rfl (fun ls hl => ?_)
        refine lv_iconst (v := 0) hx hb dX11_season_46 (by decide) ?_
        have J49 : ∀ (n : Nat) (p49_6 : Int32) (p49_5 : Int32) (p49_4 : Int32) (p49_3 : Int32) (H : Heap) (locs : List Loc) (ls : Array Slot), (40 - p49_6.toInt).toNat = n → (0 ≤ p49_6.toInt) → (p49_6.toInt ≤ 40) → (0 ≤ p49_5.toInt) → (p49_5.toInt ≤ 1) → HT D cs A T O X H → va_S A s.heap H locs → lv_has ls 9 [(6, .int p49_6), (5, .int p49_5), (4, .int p49_4), (3, .int p49_3), (0, .ref a0), (2, .int x2)] → W p l e { frames := 7, cells := 0, slots := 0, locals := 173 } s m [.ref a0, .int x1, .int x2].toArray below meth c H locs 0 0 (MQ below (Ti D cs (fun r u => u = (T, O, X)) A) [.ref a0, .int x1, .int x2].toArray s 0 0 A) (F0 m 49 ls []) := by
          intro n
          induction n using Nat.strongRecOn with
          | _ n ih49 =>
            intro p49_6 p49_5 p49_4 p49_3 H locs ls hm49 l_p49_6 u_p49_6 l_p49_5 u_p49_5 hH hS hl
            refine lv_iload hx hb dX11_season_49 (lv_at hl 0 rfl) ?_
            refine lv_iload_n hx hb dX11_season_51 rfl (lv_at hl 5 rfl) ?_
            refine lv_icmp_ge (tgt := 182) hx hb dX11_season_52 (by decide) (fun c52 => ?_) (fun c52 => ?_)
            · skip
              have fuc52 := full_i p49_6
              have fvc52 := full_i x2
              have tc52 := g_le c52
              refine lv_iload hx hb dX11_season_182 (lv_at hl 1 rfl) ?_
              have J191 : ∀  (H : Heap) (locs : List Loc) (ls : Array Slot), HT D cs A T O X H → va_S A s.heap H locs → lv_has ls 9 [(4, .int p49_4)] → W p l e { frames := 7, cells := 0, slots := 0, locals := 173 } s m [.ref a0, .int x1, .int x2].toArray below meth c H locs 0 0 (MQ below (Ti D cs (fun r u => u = (T, O, X)) A) [.ref a0, .int x1, .int x2].toArray s 0 0 A) (F0 m 191 ls []) := by
                intro  H locs ls  hH hS hl
                refine lv_iload hx hb dX11_season_191 (lv_at hl 0 rfl) ?_
                exact te_i hx hb hr hlocks hH hS (rfl) dX11_season_193
              refine lv_if_eq (tgt := 191) hx hb dX11_season_184 (by decide) (fun c184 => ?_) (fun c184 => ?_)
              · skip
                have tc184 := f_eq (k := 0) (by decide) c184
                exact J191  _ _ _  hH hS (lv_sub hl [2] rfl)
              · skip
                have tc184 := f_ne (k := 0) (by decide) c184
                refine lv_aload_n hx hb dX11_season_187 rfl (lv_at hl 4 rfl) ?_
                refine tk_v hH hS hA (tr_V (n := 0) (As := []) hx hb hml hown hts hkb hH hOX hks hE hS hA (s_FW_remember l D cs kf T O X a0 w hw gw ch gq t_a0 t_w t_ch (hO.sub (by decide))) kw_899 kw_901 ks_25 kw_1 kw_902 (by decide +kernel) ⟨Nat.le_of_ble_eq_true rfl, Nat.le_of_ble_eq_true rfl⟩ (HT.recv (ci := 11) hkb hH t_a0 (hO.no t_a0 (by decide)) rfl) rfl rfl hl.1 (Nat.le_of_ble_eq_true rfl) dX11_season_188 ⟨Nat.le_of_ble_eq_true rfl, Nat.le_of_ble_eq_true rfl⟩) (fun u H locs hz9 hH hS => ?_)
                have hz9 : u = (T, O, X) := hz9
                subst hz9
                have hH : HT D cs A T O X H := hH
                refine W.widen (k := 0) (n := 0) (Nat.le_of_ble_eq_true rfl) (Nat.le_of_ble_eq_true rfl) ?_
                exact J191  _ _ _  hH hS (lv_sub hl [2] rfl)
            · skip
              have fuc52 := full_i p49_6
              have fvc52 := full_i x2
              have tc52 := g_nle c52
              refine lv_iload_n hx hb dX11_season_55 rfl (lv_at hl 3 rfl) ?_
              refine tk_i hH hS hA (tr_S (n := 1) (As := [.int p49_3]) hx hb hml hown hts hkb hH hOX hks hE hS hA (s_FW_drawn l D cs kf T O X p49_3  (hO.sub (by decide))) kw_962 kw_963 kw_1 kw_964 (by decide +kernel) ⟨Nat.le_of_ble_eq_true rfl, Nat.le_of_ble_eq_true rfl⟩ rfl rfl hl.1 (Nat.le_of_ble_eq_true rfl) dX11_season_56 ⟨Nat.le_of_ble_eq_true rfl, Nat.le_of_ble_eq_true rfl⟩) (fun v56 u H locs hz9 hH hS => ?_)
              have hz9 : u = (T, O, X) := hz9
              subst hz9
              have hH : HT D cs A T O X H := hH
              refine W.widen (k := 0) (n := 0) (Nat.le_of_ble_eq_true rfl) (Nat.le_of_ble_eq_true rfl) ?_
              refine lv_istore_n (lv' := [(3, .int v56), (6, .int p49_6), (5, .int p49_5), (4, .int p49_4), (0, .ref a0), (2, .int x2)]) hx hb dX11_season_59 rfl hl (by decide) rfl (fun ls hl => ?_)
              refine lv_iload_n hx hb dX11_season_60 rfl (lv_at hl 0 rfl) ?_
              refine lv_bipush (v := 16) hx hb dX11_season_61 (by decide) ?_
              refine lv_iushr hx hb dX11_season_63 rfl ?_
              refine lv_topi (fun v63 ev63 => ?_)
              have tv63 : 0 ≤ v63.toInt ∧ v63.toInt < 65536 := by rw [ev63]; exact ushr_c 16 (by decide +kernel) (by decide) (by decide)
              refine lv_iconst (v := 4) hx hb dX11_season_64 (by decide) ?_
              refine lv_irem hx hb dX11_season_65 (by decide) ?_
              refine lv_topi (fun v65 ev65 => ?_)
              have tv65 : (0 ≤ v63.toInt → 0 ≤ v65.toInt) ∧ v65.toInt < 4 ∧ -4 < v65.toInt ∧ (v63.toInt ≤ 0 → v65.toInt ≤ 0) := by rw [ev65]; exact irem_b (by decide) (by decide)
              refine lv_istore (lv' := [(7, .int v65), (3, .int v56), (6, .int p49_6), (5, .int p49_5), (4, .int p49_4), (0, .ref a0), (2, .int x2)]) hx hb dX11_season_66 hl (by decide) rfl (fun ls hl => ?_)
              refine lv_iload hx hb dX11_season_68 (lv_at hl 0 rfl) ?_
              have J176 : ∀ (p176_5 : Int32) (p176_3 : Int32) (p176_4 : Int32) (H : Heap) (locs : List Loc) (ls : Array Slot), (0 ≤ p176_5.toInt) → (p176_5.toInt ≤ 1) → HT D cs A T O X H → va_S A s.heap H locs → lv_has ls 9 [(5, .int p176_5), (3, .int p176_3), (6, .int p49_6), (4, .int p176_4), (0, .ref a0), (2, .int x2)] → W p l e { frames := 7, cells := 0, slots := 0, locals := 173 } s m [.ref a0, .int x1, .int x2].toArray below meth c H locs 0 0 (MQ below (Ti D cs (fun r u => u = (T, O, X)) A) [.ref a0, .int x1, .int x2].toArray s 0 0 A) (F0 m 176 ls []) := by
                intro p176_5 p176_3 p176_4 H locs ls l_p176_5 u_p176_5 hH hS hl
                obtain ⟨v176, ev176⟩ : ∃ y : Int32, y = p49_6 + 1 := ⟨_, rfl⟩
                have tv176 : v176.toInt = p49_6.toInt + (1) := by rw [ev176]; exact add_i rfl (by decide) (by omega) (by omega)
                refine lv_iinc (v := v176) (lv' := [(6, .int v176), (5, .int p176_5), (3, .int p176_3), (4, .int p176_4), (0, .ref a0), (2, .int x2)]) hx hb dX11_season_176 hl (k := 2) rfl (by rw [ev176]; rfl) (by decide) rfl (fun ls hl => ?_)
                refine lv_goto (tgt := 49) hx hb dX11_season_179 (by decide) ?_
                exact ih49 _ (by omega) v176 p176_5 p176_4 p176_3 _ _ _ rfl (by omega) (by omega) (by omega) (by omega) hH hS (lv_sub hl [0, 1, 3, 2, 4, 5] rfl)
              refine lv_if_ne (tgt := 92) hx hb dX11_season_70 (by decide) (fun c70 => ?_) (fun c70 => ?_)
              · skip
                have tc70 := f_ne (k := 0) (by decide) c70
                refine lv_iload hx hb dX11_season_92 (lv_at hl 0 rfl) ?_
                refine lv_iconst (v := 3) hx hb dX11_season_94 (by decide) ?_
                refine lv_icmp_ne (tgt := 122) hx hb dX11_season_95 (by decide) (fun c95 => ?_) (fun c95 => ?_)
                · skip
                  have tc95 := f_ne (k := 3) (by decide) c95
                  refine lv_iload_n hx hb dX11_season_122 rfl (lv_at hl 1 rfl) ?_
                  refine tk_i hH hS hA (tr_S (n := 1) (As := [.int v56]) hx hb hml hown hts hkb hH hOX hks hE hS hA (s_FW_drawn l D cs kf T O X v56  (hO.sub (by decide))) kw_962 kw_963 kw_1 kw_964 (by decide +kernel) ⟨Nat.le_of_ble_eq_true rfl, Nat.le_of_ble_eq_true rfl⟩ rfl rfl hl.1 (Nat.le_of_ble_eq_true rfl) dX11_season_123 ⟨Nat.le_of_ble_eq_true rfl, Nat.le_of_ble_eq_true rfl⟩) (fun v123 u H locs hz9 hH hS => ?_)
                  have hz9 : u = (T, O, X) := hz9
                  subst hz9
                  have hH : HT D cs A T O X H := hH
                  refine W.widen (k := 0) (n := 0) (Nat.le_of_ble_eq_true rfl) (Nat.le_of_ble_eq_true rfl) ?_
                  refine lv_istore_n (lv' := [(3, .int v123), (7, .int v65), (6, .int p49_6), (5, .int p49_5), (4, .int p49_4), (0, .ref a0), (2, .int x2)]) hx hb dX11_season_126 rfl hl (by decide) rfl (fun ls hl => ?_)
                  refine lv_aload_n hx hb dX11_season_127 rfl (lv_at hl 5 rfl) ?_
                  refine lv_iload_n hx hb dX11_season_128 rfl (lv_at hl 0 rfl) ?_
                  refine lv_bipush (v := 16) hx hb dX11_season_129 (by decide) ?_
                  refine lv_iushr hx hb dX11_season_131 rfl ?_
                  refine lv_topi (fun v131 ev131 => ?_)
                  have tv131 : 0 ≤ v131.toInt ∧ v131.toInt < 65536 := by rw [ev131]; exact ushr_c 16 (by decide +kernel) (by decide) (by decide)
                  refine lv_aload_n hx hb dX11_season_132 rfl (lv_at hl 5 rfl) ?_
                  refine t_get (ci := 11) (lst := ft11 w ch) (C := RX11) (F := TX11) (N := 20) hx hb hts uX11 hown hkb hH t_a0 (hO.no t_a0 (by decide)) (fun _ h9 => h9) rfl rfl 3 (by decide) rfl kw_363 (fun _ h9 => h9) dX11_season_133 (fun v9 h9 => ?_)
                  have h9 : v9 = .ref w := h9
                  subst h9
                  refine t_get (ci := 9) (lst := ft9w hw gw) (C := RX9) (F := TX9) (N := 14) hx hb hts uX9 hown hkb hH t_w.1 (hO.no t_w.1 (by decide)) (fun fs => (ob9w t_w fs).mp) rfl rfl 1 (by decide) rfl kw_112 (fun _ h9 => h9) dX11_season_136 (fun v9 h9 => ?_)
                  have h9 : v9 = .int (nI gw) := h9
                  subst h9
                  have e_gw : (nI gw).toInt = gw := nI_toInt (by have := t_w.2.2; omega)
                  have b_gw := t_w.2.2
                  refine lv_irem hx hb dX11_season_139 (ne0_i (by omega)) ?_
                  refine lv_topi (fun v139 ev139 => ?_)
                  have tv139 : (0 ≤ v131.toInt → 0 ≤ v139.toInt) ∧ v139.toInt < (nI gw).toInt ∧ -(nI gw).toInt < v139.toInt ∧ (v131.toInt ≤ 0 → v139.toInt ≤ 0) := by rw [ev139]; exact irem_b rfl (by omega)
                  refine tk_i hH hS hA (tr_V (n := 1) (As := [.int v139]) hx hb hml hown hts hkb hH hOX hks hE hS hA (s_FW_goUp l D cs kf T O X a0 w hw gw ch gq v139 t_a0 t_w t_ch (by omega) (by omega) (hO.sub (by decide))) kw_908 kw_910 ks_26 kw_1 kw_911 (by decide +kernel) ⟨Nat.le_of_ble_eq_true rfl, Nat.le_of_ble_eq_true rfl⟩ (HT.recv (ci := 11) hkb hH t_a0 (hO.no t_a0 (by decide)) rfl) rfl rfl hl.1 (Nat.le_of_ble_eq_true rfl) dX11_season_140 ⟨Nat.le_of_ble_eq_true rfl, Nat.le_of_ble_eq_true rfl⟩) (fun v140 u H locs hz9 hH hS => ?_)
                  obtain ⟨rfl, l_v140, u_v140⟩ := hz9
                  have hH : HT D cs A T O X H := hH
                  refine W.widen (k := 0) (n := 0) (Nat.le_of_ble_eq_true rfl) (Nat.le_of_ble_eq_true rfl) ?_
                  refine lv_iconst (v := (-1)) hx hb dX11_season_143 (by decide) ?_
                  have J152 : ∀ (k152_0 : Int32) (H : Heap) (locs : List Loc) (ls : Array Slot), (0 ≤ k152_0.toInt) → (k152_0.toInt ≤ 1) → HT D cs A T O X H → va_S A s.heap H locs → lv_has ls 9 [(3, .int v123), (6, .int p49_6), (5, .int p49_5), (4, .int p49_4), (0, .ref a0), (2, .int x2)] → W p l e { frames := 7, cells := 0, slots := 0, locals := 173 } s m [.ref a0, .int x1, .int x2].toArray below meth c H locs 0 0 (MQ below (Ti D cs (fun r u => u = (T, O, X)) A) [.ref a0, .int x1, .int x2].toArray s 0 0 A) (F0 m 152 ls [.int k152_0]) := by
                    intro k152_0 H locs ls l_k152_0 u_k152_0 hH hS hl
                    refine lv_istore (lv' := [(8, .int k152_0), (3, .int v123), (6, .int p49_6), (5, .int p49_5), (4, .int p49_4), (0, .ref a0), (2, .int x2)]) hx hb dX11_season_152 hl (by decide) rfl (fun ls hl => ?_)
                    refine lv_iload hx hb dX11_season_154 (lv_at hl 3 rfl) ?_
                    refine lv_iload hx hb dX11_season_156 (lv_at hl 0 rfl) ?_
                    refine lv_ior hx hb dX11_season_158 ?_
                    refine lv_topi (fun v158 ev158 => ?_)
                    have tv158 : 0 ≤ v158.toInt ∧ v158.toInt < 2 := by rw [ev158]; exact or_b 1 (by decide) (by omega) (by omega) (by omega) (by omega)
                    refine lv_istore (lv' := [(5, .int v158), (8, .int k152_0), (3, .int v123), (6, .int p49_6), (4, .int p49_4), (0, .ref a0), (2, .int x2)]) hx hb dX11_season_159 hl (by decide) rfl (fun ls hl => ?_)
                    refine lv_iload hx hb dX11_season_161 (lv_at hl 4 rfl) ?_
                    refine lv_iload hx hb dX11_season_163 (lv_at hl 1 rfl) ?_
                    have J173 : ∀ (k173_0 : Int32) (H : Heap) (locs : List Loc) (ls : Array Slot), (0 ≤ k173_0.toInt) → (k173_0.toInt ≤ 1) → HT D cs A T O X H → va_S A s.heap H locs → lv_has ls 9 [(5, .int v158), (3, .int v123), (6, .int p49_6), (0, .ref a0), (2, .int x2)] → W p l e { frames := 7, cells := 0, slots := 0, locals := 173 } s m [.ref a0, .int x1, .int x2].toArray below meth c H locs 0 0 (MQ below (Ti D cs (fun r u => u = (T, O, X)) A) [.ref a0, .int x1, .int x2].toArray s 0 0 A) (F0 m 173 ls [.int k173_0, .int p49_4]) := by
                      intro k173_0 H locs ls l_k173_0 u_k173_0 hH hS hl
                      refine lv_iadd hx hb dX11_season_173 ?_
                      refine lv_topi (fun v173 ev173 => ?_)
                      refine lv_istore (lv' := [(4, .int v173), (5, .int v158), (3, .int v123), (6, .int p49_6), (0, .ref a0), (2, .int x2)]) hx hb dX11_season_174 hl (by decide) rfl (fun ls hl => ?_)
                      exact J176 v158 v123 v173 _ _ _ (by omega) (by omega) hH hS (lv_sub hl [1, 2, 3, 0, 4, 5] rfl)
                    refine lv_if_eq (tgt := 172) hx hb dX11_season_165 (by decide) (fun c165 => ?_) (fun c165 => ?_)
                    · skip
                      have tc165 := f_eq (k := 0) (by decide) c165
                      refine lv_iconst (v := 0) hx hb dX11_season_172 (by decide) ?_
                      exact J173 0 _ _ _ (by decide) (by decide) hH hS (lv_sub hl [0, 2, 3, 5, 6] rfl)
                    · skip
                      have tc165 := f_ne (k := 0) (by decide) c165
                      refine lv_iconst (v := 1) hx hb dX11_season_168 (by decide) ?_
                      refine lv_goto (tgt := 173) hx hb dX11_season_169 (by decide) ?_
                      exact J173 1 _ _ _ (by decide) (by decide) hH hS (lv_sub hl [0, 2, 3, 5, 6] rfl)
                  refine lv_icmp_eq (tgt := 151) hx hb dX11_season_144 (by decide) (fun c144 => ?_) (fun c144 => ?_)
                  · skip
                    have tc144 := f_eq (k := -1) (by decide) c144
                    refine lv_iconst (v := 0) hx hb dX11_season_151 (by decide) ?_
                    exact J152 0 _ _ _ (by decide) (by decide) hH hS (lv_sub hl [0, 2, 3, 4, 5, 6] rfl)
                  · skip
                    have tc144 := f_ne (k := -1) (by decide) c144
                    refine lv_iconst (v := 1) hx hb dX11_season_147 (by decide) ?_
                    refine lv_goto (tgt := 152) hx hb dX11_season_148 (by decide) ?_
                    exact J152 1 _ _ _ (by decide) (by decide) hH hS (lv_sub hl [0, 2, 3, 4, 5, 6] rfl)
                · skip
                  have tc95 := f_eq (k := 3) (by decide) c95
                  refine lv_iload hx hb dX11_season_98 (lv_at hl 3 rfl) ?_
                  refine lv_aload_n hx hb dX11_season_100 rfl (lv_at hl 5 rfl) ?_
                  refine t_get (ci := 11) (lst := ft11 w ch) (C := RX11) (F := TX11) (N := 20) hx hb hts uX11 hown hkb hH t_a0 (hO.no t_a0 (by decide)) (fun _ h9 => h9) rfl rfl 4 (by decide) rfl kw_364 (fun _ h9 => h9) dX11_season_101 (fun v9 h9 => ?_)
                  obtain ⟨v101, rfl, t_v101⟩ := h9
                  refine lv_iconst (v := 1) hx hb dX11_season_104 (by decide) ?_
                  refine tk_i hH hS hA (tr_V (n := 1) (As := [.int 1]) hx hb hml hown hts hkb hH hOX hks hE hS hA (s_State_comeBack l D cs kf T O X v101 (1) t_v101 (hO.sub (by decide))) kw_938 kw_939 kw_940 kw_7 kw_941 (by decide +kernel) ⟨Nat.le_of_ble_eq_true rfl, Nat.le_of_ble_eq_true rfl⟩ (HT.recv (ci := 6) hkb hH t_v101 (hO.no t_v101 (by decide)) rfl) rfl rfl hl.1 (Nat.le_of_ble_eq_true rfl) dX11_season_105 ⟨Nat.le_of_ble_eq_true rfl, Nat.le_of_ble_eq_true rfl⟩) (fun v105 u H locs hz9 hH hS => ?_)
                  have hz9 : u = (T, O, X) := hz9
                  subst hz9
                  have hH : HT D cs A T O X H := hH
                  refine W.widen (k := 0) (n := 0) (Nat.le_of_ble_eq_true rfl) (Nat.le_of_ble_eq_true rfl) ?_
                  have J116 : ∀ (k116_0 : Int32) (H : Heap) (locs : List Loc) (ls : Array Slot), (0 ≤ k116_0.toInt) → (k116_0.toInt ≤ 1) → HT D cs A T O X H → va_S A s.heap H locs → lv_has ls 9 [(3, .int v56), (6, .int p49_6), (4, .int p49_4), (0, .ref a0), (2, .int x2)] → W p l e { frames := 7, cells := 0, slots := 0, locals := 173 } s m [.ref a0, .int x1, .int x2].toArray below meth c H locs 0 0 (MQ below (Ti D cs (fun r u => u = (T, O, X)) A) [.ref a0, .int x1, .int x2].toArray s 0 0 A) (F0 m 116 ls [.int k116_0, .int p49_5]) := by
                    intro k116_0 H locs ls l_k116_0 u_k116_0 hH hS hl
                    refine lv_ior hx hb dX11_season_116 ?_
                    refine lv_topi (fun v116 ev116 => ?_)
                    have tv116 : 0 ≤ v116.toInt ∧ v116.toInt < 2 := by rw [ev116]; exact or_b 1 (by decide) (by omega) (by omega) (by omega) (by omega)
                    refine lv_istore (lv' := [(5, .int v116), (3, .int v56), (6, .int p49_6), (4, .int p49_4), (0, .ref a0), (2, .int x2)]) hx hb dX11_season_117 hl (by decide) rfl (fun ls hl => ?_)
                    refine lv_goto (tgt := 176) hx hb dX11_season_119 (by decide) ?_
                    exact J176 v116 v56 p49_4 _ _ _ (by omega) (by omega) hH hS (lv_sub hl [0, 1, 2, 3, 4, 5] rfl)
                  refine lv_if_le (tgt := 115) hx hb dX11_season_108 (by decide) (fun c108 => ?_) (fun c108 => ?_)
                  · skip
                    have tc108 := f_le (k := 0) (by decide) c108
                    refine lv_iconst (v := 0) hx hb dX11_season_115 (by decide) ?_
                    exact J116 0 _ _ _ (by decide) (by decide) hH hS (lv_sub hl [1, 2, 4, 5, 6] rfl)
                  · skip
                    have tc108 := f_nle (k := 0) (by decide) c108
                    refine lv_iconst (v := 1) hx hb dX11_season_111 (by decide) ?_
                    refine lv_goto (tgt := 116) hx hb dX11_season_112 (by decide) ?_
                    exact J116 1 _ _ _ (by decide) (by decide) hH hS (lv_sub hl [1, 2, 4, 5, 6] rfl)
              · skip
                have tc70 := f_eq (k := 0) (by decide) c70
                refine lv_aload_n hx hb dX11_season_73 rfl (lv_at hl 5 rfl) ?_
                refine t_get (ci := 11) (lst := ft11 w ch) (C := RX11) (F := TX11) (N := 20) hx hb hts uX11 hown hkb hH t_a0 (hO.no t_a0 (by decide)) (fun _ h9 => h9) rfl rfl 4 (by decide) rfl kw_364 (fun _ h9 => h9) dX11_season_74 (fun v9 h9 => ?_)
                obtain ⟨v74, rfl, t_v74⟩ := h9
                refine lv_dup hx hb dX11_season_77 rfl ?_
                refine t_get (ci := 6) (lst := ft6 0 0) (C := RX6) (F := TX6) (N := 6) hx hb hts uX6 hown hkb hH t_v74 (hO.no t_v74 (by decide)) (fun _ h9 => h9) rfl rfl 2 (by decide) rfl kw_191 (fun _ h9 => h9) dX11_season_78 (fun v9 h9 => ?_)
                obtain ⟨v78, rfl⟩ := h9
                refine lv_iconst (v := 1) hx hb dX11_season_81 (by decide) ?_
                refine lv_iadd hx hb dX11_season_82 ?_
                refine lv_topi (fun v82 ev82 => ?_)
                refine t_put (ci := 6) (lst := ft6 0 0) (v := .int v82) (ty := tyX6 2) (C := RX6) (F := TX6) (N := 6) hx hb hts uX6 tyX6 tyX6_ok nmX6 hown hkb hH hS t_v74 (hO.no t_v74 (by decide)) (fun _ => Iff.rfl) rfl rfl 2 (by decide) rfl (⟨_, rfl⟩) kw_191 (fun _ h9 => h9) rfl (tyX6_ok 2 (by decide)) rfl rfl dX11_season_83 (fun H locs hH hS => ?_)
                refine lv_iconst (v := 1) hx hb dX11_season_86 (by decide) ?_
                refine lv_istore (lv' := [(5, .int 1), (7, .int v65), (3, .int v56), (6, .int p49_6), (4, .int p49_4), (0, .ref a0), (2, .int x2)]) hx hb dX11_season_87 hl (by decide) rfl (fun ls hl => ?_)
                refine lv_goto (tgt := 176) hx hb dX11_season_89 (by decide) ?_
                exact J176 1 v56 p49_4 _ _ _ (by decide) (by decide) hH hS (lv_sub hl [0, 2, 3, 4, 5, 6] rfl)
        refine lv_istore (lv' := [(6, .int 0), (5, .int 0), (4, .int 0), (3, .int x1), (0, .ref a0), (1, .int x1), (2, .int x2)]) hx hb dX11_season_47 hl (by decide) rfl (fun ls hl => ?_)
        exact J49 _ 0 0 0 x1 _ _ _ rfl (by decide) (by decide) (by decide) (by decide) hH hS (lv_sub hl [0, 1, 2, 3, 4, 6] rfl)
      · skip
        have tc21 := f_eq (k := 0) (by decide) c21
        refine lv_bipush (v := (-5)) hx hb dX11_season_24 (by decide) ?_
        exact te_i hx hb hr hlocks hH hS (rfl) dX11_season_26
    · skip
      have tc8 := f_nle (k := 40) (by decide) c8
      exact J11  _ _ _  hH hS (lv_sub hl [] rfl)
theorem dX11_able_0 : decode cX11_able 0 = .ok (.iconst 0, 1) := by decide +kernel
theorem dX11_able_1 : decode cX11_able 1 = .ok (.istore_n 1, 1) := by decide +kernel
theorem dX11_able_2 : decode cX11_able 2 = .ok (.iconst 0, 1) := by decide +kernel
theorem dX11_able_3 : decode cX11_able 3 = .ok (.istore_n 2, 1) := by decide +kernel
theorem dX11_able_4 : decode cX11_able 4 = .ok (.iload_n 2, 1) := by decide +kernel
theorem dX11_able_5 : decode cX11_able 5 = .ok (.aload_n 0, 1) := by decide +kernel
theorem dX11_able_6 : decode cX11_able 6 = .ok (.getfield 29, 3) := by decide +kernel
theorem dX11_able_9 : decode cX11_able 9 = .ok (.getfield 216, 3) := by decide +kernel
theorem dX11_able_12 : decode cX11_able 12 = .ok (.if_icmp .ge 30, 3) := by decide +kernel
theorem dX11_able_15 : decode cX11_able 15 = .ok (.aload_n 0, 1) := by decide +kernel
theorem dX11_able_16 : decode cX11_able 16 = .ok (.iload_n 2, 1) := by decide +kernel
theorem dX11_able_17 : decode cX11_able 17 = .ok (.invokevirtual 202, 3) := by decide +kernel
theorem dX11_able_20 : decode cX11_able 20 = .ok (.aload_n 0, 1) := by decide +kernel
theorem dX11_able_21 : decode cX11_able 21 = .ok (.invokevirtual 206, 3) := by decide +kernel
theorem dX11_able_24 : decode cX11_able 24 = .ok (.invokevirtual 332, 3) := by decide +kernel
theorem dX11_able_27 : decode cX11_able 27 = .ok (.ifCond .eq 9, 3) := by decide +kernel
theorem dX11_able_30 : decode cX11_able 30 = .ok (.iload_n 1, 1) := by decide +kernel
theorem dX11_able_31 : decode cX11_able 31 = .ok (.iconst 1, 1) := by decide +kernel
theorem dX11_able_32 : decode cX11_able 32 = .ok (.iload_n 2, 1) := by decide +kernel
theorem dX11_able_33 : decode cX11_able 33 = .ok (.ishl, 1) := by decide +kernel
theorem dX11_able_34 : decode cX11_able 34 = .ok (.ior, 1) := by decide +kernel
theorem dX11_able_35 : decode cX11_able 35 = .ok (.istore_n 1, 1) := by decide +kernel
theorem dX11_able_36 : decode cX11_able 36 = .ok (.iinc 2 1, 3) := by decide +kernel
theorem dX11_able_39 : decode cX11_able 39 = .ok (.goto (-35), 3) := by decide +kernel
theorem dX11_able_42 : decode cX11_able 42 = .ok (.iload_n 1, 1) := by decide +kernel
theorem dX11_able_43 : decode cX11_able 43 = .ok (.ireturn, 1) := by decide +kernel
theorem dX11_dearest_0 : decode cX11_dearest 0 = .ok (.aload_n 0, 1) := by decide +kernel
theorem dX11_dearest_1 : decode cX11_dearest 1 = .ok (.iload_n 1, 1) := by decide +kernel
theorem dX11_dearest_2 : decode cX11_dearest 2 = .ok (.invokevirtual 186, 3) := by decide +kernel
theorem dX11_dearest_5 : decode cX11_dearest 5 = .ok (.ifCond .ne 6, 3) := by decide +kernel
theorem dX11_dearest_8 : decode cX11_dearest 8 = .ok (.bipush (-2), 2) := by decide +kernel
theorem dX11_dearest_10 : decode cX11_dearest 10 = .ok (.ireturn, 1) := by decide +kernel
theorem dX11_dearest_11 : decode cX11_dearest 11 = .ok (.aload_n 0, 1) := by decide +kernel
theorem dX11_dearest_12 : decode cX11_dearest 12 = .ok (.iload_n 1, 1) := by decide +kernel
theorem dX11_dearest_13 : decode cX11_dearest 13 = .ok (.invokevirtual 202, 3) := by decide +kernel
theorem dX11_dearest_16 : decode cX11_dearest 16 = .ok (.astore_n 2, 1) := by decide +kernel
theorem dX11_dearest_17 : decode cX11_dearest 17 = .ok (.aload_n 0, 1) := by decide +kernel
theorem dX11_dearest_18 : decode cX11_dearest 18 = .ok (.invokevirtual 206, 3) := by decide +kernel
theorem dX11_dearest_21 : decode cX11_dearest 21 = .ok (.istore_n 3, 1) := by decide +kernel
theorem dX11_dearest_22 : decode cX11_dearest 22 = .ok (.iload_n 3, 1) := by decide +kernel
theorem dX11_dearest_23 : decode cX11_dearest 23 = .ok (.aload_n 0, 1) := by decide +kernel
theorem dX11_dearest_24 : decode cX11_dearest 24 = .ok (.getfield 29, 3) := by decide +kernel
theorem dX11_dearest_27 : decode cX11_dearest 27 = .ok (.invokevirtual 265, 3) := by decide +kernel
theorem dX11_dearest_30 : decode cX11_dearest 30 = .ok (.iand, 1) := by decide +kernel
theorem dX11_dearest_31 : decode cX11_dearest 31 = .ok (.istore 4, 2) := by decide +kernel
theorem dX11_dearest_33 : decode cX11_dearest 33 = .ok (.aload_n 0, 1) := by decide +kernel
theorem dX11_dearest_34 : decode cX11_dearest 34 = .ok (.getfield 89, 3) := by decide +kernel
theorem dX11_dearest_37 : decode cX11_dearest 37 = .ok (.aload_n 2, 1) := by decide +kernel
theorem dX11_dearest_38 : decode cX11_dearest 38 = .ok (.iload_n 3, 1) := by decide +kernel
theorem dX11_dearest_39 : decode cX11_dearest 39 = .ok (.iload 4, 2) := by decide +kernel
theorem dX11_dearest_41 : decode cX11_dearest 41 = .ok (.invokevirtual 322, 3) := by decide +kernel
theorem dX11_dearest_44 : decode cX11_dearest 44 = .ok (.istore 5, 2) := by decide +kernel
theorem dX11_dearest_46 : decode cX11_dearest 46 = .ok (.iload 5, 2) := by decide +kernel
theorem dX11_dearest_48 : decode cX11_dearest 48 = .ok (.ifCond .eq 10, 3) := by decide +kernel
theorem dX11_dearest_51 : decode cX11_dearest 51 = .ok (.iload 5, 2) := by decide +kernel
theorem dX11_dearest_53 : decode cX11_dearest 53 = .ok (.bipush 99, 2) := by decide +kernel
theorem dX11_dearest_55 : decode cX11_dearest 55 = .ok (.if_icmp .ne 5, 3) := by decide +kernel
theorem dX11_dearest_58 : decode cX11_dearest 58 = .ok (.iconst (-1), 1) := by decide +kernel
theorem dX11_dearest_59 : decode cX11_dearest 59 = .ok (.ireturn, 1) := by decide +kernel
theorem dX11_dearest_60 : decode cX11_dearest 60 = .ok (.iconst 0, 1) := by decide +kernel
theorem dX11_dearest_61 : decode cX11_dearest 61 = .ok (.istore 6, 2) := by decide +kernel
theorem dX11_dearest_63 : decode cX11_dearest 63 = .ok (.iload 6, 2) := by decide +kernel
theorem dX11_dearest_65 : decode cX11_dearest 65 = .ok (.aload_n 0, 1) := by decide +kernel
theorem dX11_dearest_66 : decode cX11_dearest 66 = .ok (.getfield 29, 3) := by decide +kernel
theorem dX11_dearest_69 : decode cX11_dearest 69 = .ok (.getfield 213, 3) := by decide +kernel
theorem dX11_dearest_72 : decode cX11_dearest 72 = .ok (.if_icmp .ge 45, 3) := by decide +kernel
theorem dX11_dearest_75 : decode cX11_dearest 75 = .ok (.iload 4, 2) := by decide +kernel
theorem dX11_dearest_77 : decode cX11_dearest 77 = .ok (.iload 6, 2) := by decide +kernel
theorem dX11_dearest_79 : decode cX11_dearest 79 = .ok (.ishr, 1) := by decide +kernel
theorem dX11_dearest_80 : decode cX11_dearest 80 = .ok (.iconst 1, 1) := by decide +kernel
theorem dX11_dearest_81 : decode cX11_dearest 81 = .ok (.iand, 1) := by decide +kernel
theorem dX11_dearest_82 : decode cX11_dearest 82 = .ok (.ifCond .eq 29, 3) := by decide +kernel
theorem dX11_dearest_85 : decode cX11_dearest 85 = .ok (.aload_n 0, 1) := by decide +kernel
theorem dX11_dearest_86 : decode cX11_dearest 86 = .ok (.getfield 89, 3) := by decide +kernel
theorem dX11_dearest_89 : decode cX11_dearest 89 = .ok (.aload_n 2, 1) := by decide +kernel
theorem dX11_dearest_90 : decode cX11_dearest 90 = .ok (.iload_n 3, 1) := by decide +kernel
theorem dX11_dearest_91 : decode cX11_dearest 91 = .ok (.iconst 1, 1) := by decide +kernel
theorem dX11_dearest_92 : decode cX11_dearest 92 = .ok (.iload 6, 2) := by decide +kernel
theorem dX11_dearest_94 : decode cX11_dearest 94 = .ok (.ishl, 1) := by decide +kernel
theorem dX11_dearest_95 : decode cX11_dearest 95 = .ok (.iconst (-1), 1) := by decide +kernel
theorem dX11_dearest_96 : decode cX11_dearest 96 = .ok (.ixor, 1) := by decide +kernel
theorem dX11_dearest_97 : decode cX11_dearest 97 = .ok (.iand, 1) := by decide +kernel
theorem dX11_dearest_98 : decode cX11_dearest 98 = .ok (.iload 4, 2) := by decide +kernel
theorem dX11_dearest_100 : decode cX11_dearest 100 = .ok (.invokevirtual 322, 3) := by decide +kernel
theorem dX11_dearest_103 : decode cX11_dearest 103 = .ok (.iload 5, 2) := by decide +kernel
theorem dX11_dearest_105 : decode cX11_dearest 105 = .ok (.if_icmp .ge 6, 3) := by decide +kernel
theorem dX11_dearest_108 : decode cX11_dearest 108 = .ok (.iload 6, 2) := by decide +kernel
theorem dX11_dearest_110 : decode cX11_dearest 110 = .ok (.ireturn, 1) := by decide +kernel
theorem dX11_dearest_111 : decode cX11_dearest 111 = .ok (.iinc 6 1, 3) := by decide +kernel
theorem dX11_dearest_114 : decode cX11_dearest 114 = .ok (.goto (-51), 3) := by decide +kernel
theorem dX11_dearest_117 : decode cX11_dearest 117 = .ok (.iconst (-1), 1) := by decide +kernel
theorem dX11_dearest_118 : decode cX11_dearest 118 = .ok (.ireturn, 1) := by decide +kernel
theorem dX11_highest_0 : decode cX11_highest 0 = .ok (.aload_n 0, 1) := by decide +kernel
theorem dX11_highest_1 : decode cX11_highest 1 = .ok (.iload_n 1, 1) := by decide +kernel
theorem dX11_highest_2 : decode cX11_highest 2 = .ok (.invokevirtual 186, 3) := by decide +kernel
theorem dX11_highest_5 : decode cX11_highest 5 = .ok (.ifCond .ne 6, 3) := by decide +kernel
theorem dX11_highest_8 : decode cX11_highest 8 = .ok (.bipush (-2), 2) := by decide +kernel
theorem dX11_highest_10 : decode cX11_highest 10 = .ok (.ireturn, 1) := by decide +kernel
theorem dX11_highest_11 : decode cX11_highest 11 = .ok (.aload_n 0, 1) := by decide +kernel
theorem dX11_highest_12 : decode cX11_highest 12 = .ok (.iload_n 1, 1) := by decide +kernel
theorem dX11_highest_13 : decode cX11_highest 13 = .ok (.invokevirtual 202, 3) := by decide +kernel
theorem dX11_highest_16 : decode cX11_highest 16 = .ok (.aload_n 0, 1) := by decide +kernel
theorem dX11_highest_17 : decode cX11_highest 17 = .ok (.invokevirtual 206, 3) := by decide +kernel
theorem dX11_highest_20 : decode cX11_highest 20 = .ok (.invokevirtual 210, 3) := by decide +kernel
theorem dX11_highest_23 : decode cX11_highest 23 = .ok (.istore_n 2, 1) := by decide +kernel
theorem dX11_highest_24 : decode cX11_highest 24 = .ok (.iconst (-1), 1) := by decide +kernel
theorem dX11_highest_25 : decode cX11_highest 25 = .ok (.istore_n 3, 1) := by decide +kernel
theorem dX11_highest_26 : decode cX11_highest 26 = .ok (.iconst 0, 1) := by decide +kernel
theorem dX11_highest_27 : decode cX11_highest 27 = .ok (.istore 4, 2) := by decide +kernel
theorem dX11_highest_29 : decode cX11_highest 29 = .ok (.iload 4, 2) := by decide +kernel
theorem dX11_highest_31 : decode cX11_highest 31 = .ok (.aload_n 0, 1) := by decide +kernel
theorem dX11_highest_32 : decode cX11_highest 32 = .ok (.getfield 29, 3) := by decide +kernel
theorem dX11_highest_35 : decode cX11_highest 35 = .ok (.getfield 213, 3) := by decide +kernel
theorem dX11_highest_38 : decode cX11_highest 38 = .ok (.if_icmp .ge 33, 3) := by decide +kernel
theorem dX11_highest_41 : decode cX11_highest 41 = .ok (.iload_n 2, 1) := by decide +kernel
theorem dX11_highest_42 : decode cX11_highest 42 = .ok (.iload 4, 2) := by decide +kernel
theorem dX11_highest_44 : decode cX11_highest 44 = .ok (.ishr, 1) := by decide +kernel
theorem dX11_highest_45 : decode cX11_highest 45 = .ok (.iconst 1, 1) := by decide +kernel
theorem dX11_highest_46 : decode cX11_highest 46 = .ok (.iand, 1) := by decide +kernel
theorem dX11_highest_47 : decode cX11_highest 47 = .ok (.ifCond .eq 18, 3) := by decide +kernel
theorem dX11_highest_50 : decode cX11_highest 50 = .ok (.iload_n 3, 1) := by decide +kernel
theorem dX11_highest_51 : decode cX11_highest 51 = .ok (.aload_n 0, 1) := by decide +kernel
theorem dX11_highest_52 : decode cX11_highest 52 = .ok (.getfield 29, 3) := by decide +kernel
theorem dX11_highest_55 : decode cX11_highest 55 = .ok (.getfield 152, 3) := by decide +kernel
theorem dX11_highest_58 : decode cX11_highest 58 = .ok (.iload 4, 2) := by decide +kernel
theorem dX11_highest_60 : decode cX11_highest 60 = .ok (.iaload, 1) := by decide +kernel
theorem dX11_highest_61 : decode cX11_highest 61 = .ok (.invokestatic 338, 3) := by decide +kernel
theorem dX11_highest_64 : decode cX11_highest 64 = .ok (.istore_n 3, 1) := by decide +kernel
theorem dX11_highest_65 : decode cX11_highest 65 = .ok (.iinc 4 1, 3) := by decide +kernel
theorem dX11_highest_68 : decode cX11_highest 68 = .ok (.goto (-39), 3) := by decide +kernel
theorem dX11_highest_71 : decode cX11_highest 71 = .ok (.iload_n 3, 1) := by decide +kernel
theorem dX11_highest_72 : decode cX11_highest 72 = .ok (.ireturn, 1) := by decide +kernel
theorem dX11_leastLeg_0 : decode cX11_leastLeg 0 = .ok (.aload_n 0, 1) := by decide +kernel
theorem dX11_leastLeg_1 : decode cX11_leastLeg 1 = .ok (.iload_n 1, 1) := by decide +kernel
theorem dX11_leastLeg_2 : decode cX11_leastLeg 2 = .ok (.invokevirtual 186, 3) := by decide +kernel
theorem dX11_leastLeg_5 : decode cX11_leastLeg 5 = .ok (.ifCond .ne 6, 3) := by decide +kernel
theorem dX11_leastLeg_8 : decode cX11_leastLeg 8 = .ok (.bipush (-2), 2) := by decide +kernel
theorem dX11_leastLeg_10 : decode cX11_leastLeg 10 = .ok (.ireturn, 1) := by decide +kernel
theorem dX11_leastLeg_11 : decode cX11_leastLeg 11 = .ok (.aload_n 0, 1) := by decide +kernel
theorem dX11_leastLeg_12 : decode cX11_leastLeg 12 = .ok (.invokevirtual 206, 3) := by decide +kernel
theorem dX11_leastLeg_15 : decode cX11_leastLeg 15 = .ok (.istore_n 2, 1) := by decide +kernel
theorem dX11_leastLeg_16 : decode cX11_leastLeg 16 = .ok (.iconst 0, 1) := by decide +kernel
theorem dX11_leastLeg_17 : decode cX11_leastLeg 17 = .ok (.istore_n 3, 1) := by decide +kernel
theorem dX11_leastLeg_18 : decode cX11_leastLeg 18 = .ok (.iload_n 3, 1) := by decide +kernel
theorem dX11_leastLeg_19 : decode cX11_leastLeg 19 = .ok (.bipush 100, 2) := by decide +kernel
theorem dX11_leastLeg_21 : decode cX11_leastLeg 21 = .ok (.if_icmp .ge 50, 3) := by decide +kernel
theorem dX11_leastLeg_24 : decode cX11_leastLeg 24 = .ok (.aload_n 0, 1) := by decide +kernel
theorem dX11_leastLeg_25 : decode cX11_leastLeg 25 = .ok (.getfield 75, 3) := by decide +kernel
theorem dX11_leastLeg_28 : decode cX11_leastLeg 28 = .ok (.aload_n 0, 1) := by decide +kernel
theorem dX11_leastLeg_29 : decode cX11_leastLeg 29 = .ok (.getfield 29, 3) := by decide +kernel
theorem dX11_leastLeg_32 : decode cX11_leastLeg 32 = .ok (.iload_n 3, 1) := by decide +kernel
theorem dX11_leastLeg_33 : decode cX11_leastLeg 33 = .ok (.aload_n 0, 1) := by decide +kernel
theorem dX11_leastLeg_34 : decode cX11_leastLeg 34 = .ok (.getfield 29, 3) := by decide +kernel
theorem dX11_leastLeg_37 : decode cX11_leastLeg 37 = .ok (.getfield 192, 3) := by decide +kernel
theorem dX11_leastLeg_40 : decode cX11_leastLeg 40 = .ok (.iload_n 1, 1) := by decide +kernel
theorem dX11_leastLeg_41 : decode cX11_leastLeg 41 = .ok (.iaload, 1) := by decide +kernel
theorem dX11_leastLeg_42 : decode cX11_leastLeg 42 = .ok (.aload_n 0, 1) := by decide +kernel
theorem dX11_leastLeg_43 : decode cX11_leastLeg 43 = .ok (.getfield 36, 3) := by decide +kernel
theorem dX11_leastLeg_46 : decode cX11_leastLeg 46 = .ok (.getfield 161, 3) := by decide +kernel
theorem dX11_leastLeg_49 : decode cX11_leastLeg 49 = .ok (.invokevirtual 225, 3) := by decide +kernel
theorem dX11_leastLeg_52 : decode cX11_leastLeg 52 = .ok (.aload_n 0, 1) := by decide +kernel
theorem dX11_leastLeg_53 : decode cX11_leastLeg 53 = .ok (.getfield 75, 3) := by decide +kernel
theorem dX11_leastLeg_56 : decode cX11_leastLeg 56 = .ok (.iload_n 2, 1) := by decide +kernel
theorem dX11_leastLeg_57 : decode cX11_leastLeg 57 = .ok (.invokevirtual 332, 3) := by decide +kernel
theorem dX11_leastLeg_60 : decode cX11_leastLeg 60 = .ok (.ifCond .eq 5, 3) := by decide +kernel
theorem dX11_leastLeg_63 : decode cX11_leastLeg 63 = .ok (.iload_n 3, 1) := by decide +kernel
theorem dX11_leastLeg_64 : decode cX11_leastLeg 64 = .ok (.ireturn, 1) := by decide +kernel
theorem dX11_leastLeg_65 : decode cX11_leastLeg 65 = .ok (.iinc 3 1, 3) := by decide +kernel
theorem dX11_leastLeg_68 : decode cX11_leastLeg 68 = .ok (.goto (-50), 3) := by decide +kernel
theorem dX11_leastLeg_71 : decode cX11_leastLeg 71 = .ok (.iconst (-1), 1) := by decide +kernel
theorem dX11_leastLeg_72 : decode cX11_leastLeg 72 = .ok (.ireturn, 1) := by decide +kernel
theorem dX11_leaves_0 : decode cX11_leaves 0 = .ok (.aload_n 0, 1) := by decide +kernel
theorem dX11_leaves_1 : decode cX11_leaves 1 = .ok (.iload_n 1, 1) := by decide +kernel
theorem dX11_leaves_2 : decode cX11_leaves 2 = .ok (.invokevirtual 186, 3) := by decide +kernel
theorem dX11_leaves_5 : decode cX11_leaves 5 = .ok (.ifCond .eq 11, 3) := by decide +kernel
theorem dX11_leaves_8 : decode cX11_leaves 8 = .ok (.aload_n 0, 1) := by decide +kernel
theorem dX11_leaves_9 : decode cX11_leaves 9 = .ok (.iload_n 2, 1) := by decide +kernel
theorem dX11_leaves_10 : decode cX11_leaves 10 = .ok (.invokevirtual 186, 3) := by decide +kernel
theorem dX11_leaves_13 : decode cX11_leaves 13 = .ok (.ifCond .ne 6, 3) := by decide +kernel
theorem dX11_leaves_16 : decode cX11_leaves 16 = .ok (.bipush (-2), 2) := by decide +kernel
theorem dX11_leaves_18 : decode cX11_leaves 18 = .ok (.ireturn, 1) := by decide +kernel
theorem dX11_leaves_19 : decode cX11_leaves 19 = .ok (.aload_n 0, 1) := by decide +kernel
theorem dX11_leaves_20 : decode cX11_leaves 20 = .ok (.invokevirtual 206, 3) := by decide +kernel
theorem dX11_leaves_23 : decode cX11_leaves 23 = .ok (.istore_n 3, 1) := by decide +kernel
theorem dX11_leaves_24 : decode cX11_leaves 24 = .ok (.aload_n 0, 1) := by decide +kernel
theorem dX11_leaves_25 : decode cX11_leaves 25 = .ok (.getfield 82, 3) := by decide +kernel
theorem dX11_leaves_28 : decode cX11_leaves 28 = .ok (.aload_n 0, 1) := by decide +kernel
theorem dX11_leaves_29 : decode cX11_leaves 29 = .ok (.iload_n 2, 1) := by decide +kernel
theorem dX11_leaves_30 : decode cX11_leaves 30 = .ok (.invokevirtual 202, 3) := by decide +kernel
theorem dX11_leaves_33 : decode cX11_leaves 33 = .ok (.iload_n 3, 1) := by decide +kernel
theorem dX11_leaves_34 : decode cX11_leaves 34 = .ok (.invokevirtual 271, 3) := by decide +kernel
theorem dX11_leaves_37 : decode cX11_leaves 37 = .ok (.ifCond .ne 6, 3) := by decide +kernel
theorem dX11_leaves_40 : decode cX11_leaves 40 = .ok (.bipush (-5), 2) := by decide +kernel
theorem dX11_leaves_42 : decode cX11_leaves 42 = .ok (.ireturn, 1) := by decide +kernel
theorem dX11_leaves_43 : decode cX11_leaves 43 = .ok (.iload_n 3, 1) := by decide +kernel
theorem dX11_leaves_44 : decode cX11_leaves 44 = .ok (.aload_n 0, 1) := by decide +kernel
theorem dX11_leaves_45 : decode cX11_leaves 45 = .ok (.getfield 82, 3) := by decide +kernel
theorem dX11_leaves_48 : decode cX11_leaves 48 = .ok (.invokevirtual 275, 3) := by decide +kernel
theorem dX11_leaves_51 : decode cX11_leaves 51 = .ok (.aload_n 0, 1) := by decide +kernel
theorem dX11_leaves_52 : decode cX11_leaves 52 = .ok (.getfield 29, 3) := by decide +kernel
theorem dX11_leaves_55 : decode cX11_leaves 55 = .ok (.invokevirtual 265, 3) := by decide +kernel
theorem dX11_leaves_58 : decode cX11_leaves 58 = .ok (.iand, 1) := by decide +kernel
theorem dX11_leaves_59 : decode cX11_leaves 59 = .ok (.iconst (-1), 1) := by decide +kernel
theorem dX11_leaves_60 : decode cX11_leaves 60 = .ok (.ixor, 1) := by decide +kernel
theorem dX11_leaves_61 : decode cX11_leaves 61 = .ok (.iand, 1) := by decide +kernel
theorem dX11_leaves_62 : decode cX11_leaves 62 = .ok (.istore 4, 2) := by decide +kernel
theorem dX11_leaves_64 : decode cX11_leaves 64 = .ok (.aload_n 0, 1) := by decide +kernel
theorem dX11_leaves_65 : decode cX11_leaves 65 = .ok (.iload_n 1, 1) := by decide +kernel
theorem dX11_leaves_66 : decode cX11_leaves 66 = .ok (.invokevirtual 202, 3) := by decide +kernel
theorem dX11_leaves_69 : decode cX11_leaves 69 = .ok (.iload 4, 2) := by decide +kernel
theorem dX11_leaves_71 : decode cX11_leaves 71 = .ok (.invokevirtual 332, 3) := by decide +kernel
theorem dX11_leaves_74 : decode cX11_leaves 74 = .ok (.ifCond .eq 7, 3) := by decide +kernel
theorem dX11_leaves_77 : decode cX11_leaves 77 = .ok (.iconst 1, 1) := by decide +kernel
theorem dX11_leaves_78 : decode cX11_leaves 78 = .ok (.goto 4, 3) := by decide +kernel
theorem dX11_leaves_81 : decode cX11_leaves 81 = .ok (.iconst 0, 1) := by decide +kernel
theorem dX11_leaves_82 : decode cX11_leaves 82 = .ok (.ireturn, 1) := by decide +kernel
theorem dX11_needed_0 : decode cX11_needed 0 = .ok (.aload_n 0, 1) := by decide +kernel
theorem dX11_needed_1 : decode cX11_needed 1 = .ok (.iload_n 1, 1) := by decide +kernel
theorem dX11_needed_2 : decode cX11_needed 2 = .ok (.invokevirtual 186, 3) := by decide +kernel
theorem dX11_needed_5 : decode cX11_needed 5 = .ok (.ifCond .ne 6, 3) := by decide +kernel
theorem dX11_needed_8 : decode cX11_needed 8 = .ok (.bipush (-2), 2) := by decide +kernel
theorem dX11_needed_10 : decode cX11_needed 10 = .ok (.ireturn, 1) := by decide +kernel
theorem dX11_needed_11 : decode cX11_needed 11 = .ok (.iconst 0, 1) := by decide +kernel
theorem dX11_needed_12 : decode cX11_needed 12 = .ok (.istore_n 2, 1) := by decide +kernel
theorem dX11_needed_13 : decode cX11_needed 13 = .ok (.iconst 0, 1) := by decide +kernel
theorem dX11_needed_14 : decode cX11_needed 14 = .ok (.istore_n 3, 1) := by decide +kernel
theorem dX11_needed_15 : decode cX11_needed 15 = .ok (.iload_n 3, 1) := by decide +kernel
theorem dX11_needed_16 : decode cX11_needed 16 = .ok (.aload_n 0, 1) := by decide +kernel
theorem dX11_needed_17 : decode cX11_needed 17 = .ok (.getfield 29, 3) := by decide +kernel
theorem dX11_needed_20 : decode cX11_needed 20 = .ok (.getfield 213, 3) := by decide +kernel
theorem dX11_needed_23 : decode cX11_needed 23 = .ok (.if_icmp .ge 24, 3) := by decide +kernel
theorem dX11_needed_26 : decode cX11_needed 26 = .ok (.aload_n 0, 1) := by decide +kernel
theorem dX11_needed_27 : decode cX11_needed 27 = .ok (.iload_n 1, 1) := by decide +kernel
theorem dX11_needed_28 : decode cX11_needed 28 = .ok (.iload_n 3, 1) := by decide +kernel
theorem dX11_needed_29 : decode cX11_needed 29 = .ok (.invokevirtual 329, 3) := by decide +kernel
theorem dX11_needed_32 : decode cX11_needed 32 = .ok (.ifCond .eq 9, 3) := by decide +kernel
theorem dX11_needed_35 : decode cX11_needed 35 = .ok (.iload_n 2, 1) := by decide +kernel
theorem dX11_needed_36 : decode cX11_needed 36 = .ok (.iconst 1, 1) := by decide +kernel
theorem dX11_needed_37 : decode cX11_needed 37 = .ok (.iload_n 3, 1) := by decide +kernel
theorem dX11_needed_38 : decode cX11_needed 38 = .ok (.ishl, 1) := by decide +kernel
theorem dX11_needed_39 : decode cX11_needed 39 = .ok (.ior, 1) := by decide +kernel
theorem dX11_needed_40 : decode cX11_needed 40 = .ok (.istore_n 2, 1) := by decide +kernel
theorem dX11_needed_41 : decode cX11_needed 41 = .ok (.iinc 3 1, 3) := by decide +kernel
theorem dX11_needed_44 : decode cX11_needed 44 = .ok (.goto (-29), 3) := by decide +kernel
theorem dX11_needed_47 : decode cX11_needed 47 = .ok (.iload_n 2, 1) := by decide +kernel
theorem dX11_needed_48 : decode cX11_needed 48 = .ok (.ireturn, 1) := by decide +kernel
theorem dX11_needers_0 : decode cX11_needers 0 = .ok (.aload_n 0, 1) := by decide +kernel
theorem dX11_needers_1 : decode cX11_needers 1 = .ok (.iload_n 1, 1) := by decide +kernel
theorem dX11_needers_2 : decode cX11_needers 2 = .ok (.invokevirtual 145, 3) := by decide +kernel
theorem dX11_needers_5 : decode cX11_needers 5 = .ok (.ifCond .ne 6, 3) := by decide +kernel
theorem dX11_needers_8 : decode cX11_needers 8 = .ok (.bipush (-2), 2) := by decide +kernel
theorem dX11_needers_10 : decode cX11_needers 10 = .ok (.ireturn, 1) := by decide +kernel
theorem dX11_needers_11 : decode cX11_needers 11 = .ok (.iconst 0, 1) := by decide +kernel
theorem dX11_needers_12 : decode cX11_needers 12 = .ok (.istore_n 2, 1) := by decide +kernel
theorem dX11_needers_13 : decode cX11_needers 13 = .ok (.iconst 0, 1) := by decide +kernel
theorem dX11_needers_14 : decode cX11_needers 14 = .ok (.istore_n 3, 1) := by decide +kernel
theorem dX11_needers_15 : decode cX11_needers 15 = .ok (.iload_n 3, 1) := by decide +kernel
theorem dX11_needers_16 : decode cX11_needers 16 = .ok (.aload_n 0, 1) := by decide +kernel
theorem dX11_needers_17 : decode cX11_needers 17 = .ok (.getfield 29, 3) := by decide +kernel
theorem dX11_needers_20 : decode cX11_needers 20 = .ok (.getfield 216, 3) := by decide +kernel
theorem dX11_needers_23 : decode cX11_needers 23 = .ok (.if_icmp .ge 24, 3) := by decide +kernel
theorem dX11_needers_26 : decode cX11_needers 26 = .ok (.aload_n 0, 1) := by decide +kernel
theorem dX11_needers_27 : decode cX11_needers 27 = .ok (.iload_n 3, 1) := by decide +kernel
theorem dX11_needers_28 : decode cX11_needers 28 = .ok (.iload_n 1, 1) := by decide +kernel
theorem dX11_needers_29 : decode cX11_needers 29 = .ok (.invokevirtual 329, 3) := by decide +kernel
theorem dX11_needers_32 : decode cX11_needers 32 = .ok (.ifCond .eq 9, 3) := by decide +kernel
theorem dX11_needers_35 : decode cX11_needers 35 = .ok (.iload_n 2, 1) := by decide +kernel
theorem dX11_needers_36 : decode cX11_needers 36 = .ok (.iconst 1, 1) := by decide +kernel
theorem dX11_needers_37 : decode cX11_needers 37 = .ok (.iload_n 3, 1) := by decide +kernel
theorem dX11_needers_38 : decode cX11_needers 38 = .ok (.ishl, 1) := by decide +kernel
theorem dX11_needers_39 : decode cX11_needers 39 = .ok (.ior, 1) := by decide +kernel
theorem dX11_needers_40 : decode cX11_needers 40 = .ok (.istore_n 2, 1) := by decide +kernel
theorem dX11_needers_41 : decode cX11_needers 41 = .ok (.iinc 3 1, 3) := by decide +kernel
theorem dX11_needers_44 : decode cX11_needers 44 = .ok (.goto (-29), 3) := by decide +kernel
theorem dX11_needers_47 : decode cX11_needers 47 = .ok (.iload_n 2, 1) := by decide +kernel
theorem dX11_needers_48 : decode cX11_needers 48 = .ok (.ireturn, 1) := by decide +kernel
theorem dX11_needs_0 : decode cX11_needs 0 = .ok (.aload_n 0, 1) := by decide +kernel
theorem dX11_needs_1 : decode cX11_needs 1 = .ok (.invokevirtual 206, 3) := by decide +kernel
theorem dX11_needs_4 : decode cX11_needs 4 = .ok (.istore_n 3, 1) := by decide +kernel
theorem dX11_needs_5 : decode cX11_needs 5 = .ok (.iload_n 3, 1) := by decide +kernel
theorem dX11_needs_6 : decode cX11_needs 6 = .ok (.aload_n 0, 1) := by decide +kernel
theorem dX11_needs_7 : decode cX11_needs 7 = .ok (.getfield 29, 3) := by decide +kernel
theorem dX11_needs_10 : decode cX11_needs 10 = .ok (.invokevirtual 265, 3) := by decide +kernel
theorem dX11_needs_13 : decode cX11_needs 13 = .ok (.iand, 1) := by decide +kernel
theorem dX11_needs_14 : decode cX11_needs 14 = .ok (.iload_n 2, 1) := by decide +kernel
theorem dX11_needs_15 : decode cX11_needs 15 = .ok (.ishr, 1) := by decide +kernel
theorem dX11_needs_16 : decode cX11_needs 16 = .ok (.iconst 1, 1) := by decide +kernel
theorem dX11_needs_17 : decode cX11_needs 17 = .ok (.iand, 1) := by decide +kernel
theorem dX11_needs_18 : decode cX11_needs 18 = .ok (.ifCond .ne 5, 3) := by decide +kernel
theorem dX11_needs_21 : decode cX11_needs 21 = .ok (.iconst 0, 1) := by decide +kernel
theorem dX11_needs_22 : decode cX11_needs 22 = .ok (.ireturn, 1) := by decide +kernel
theorem dX11_needs_23 : decode cX11_needs 23 = .ok (.aload_n 0, 1) := by decide +kernel
theorem dX11_needs_24 : decode cX11_needs 24 = .ok (.iload_n 1, 1) := by decide +kernel
theorem dX11_needs_25 : decode cX11_needs 25 = .ok (.invokevirtual 202, 3) := by decide +kernel
theorem dX11_needs_28 : decode cX11_needs 28 = .ok (.astore 4, 2) := by decide +kernel
theorem dX11_needs_30 : decode cX11_needs 30 = .ok (.aload 4, 2) := by decide +kernel
theorem dX11_needs_32 : decode cX11_needs 32 = .ok (.iload_n 3, 1) := by decide +kernel
theorem dX11_needs_33 : decode cX11_needs 33 = .ok (.invokevirtual 332, 3) := by decide +kernel
theorem dX11_needs_36 : decode cX11_needs 36 = .ok (.ifCond .eq 22, 3) := by decide +kernel
theorem dX11_needs_39 : decode cX11_needs 39 = .ok (.aload 4, 2) := by decide +kernel
theorem dX11_needs_41 : decode cX11_needs 41 = .ok (.iload_n 3, 1) := by decide +kernel
theorem dX11_needs_42 : decode cX11_needs 42 = .ok (.iconst 1, 1) := by decide +kernel
theorem dX11_needs_43 : decode cX11_needs 43 = .ok (.iload_n 2, 1) := by decide +kernel
theorem dX11_needs_44 : decode cX11_needs 44 = .ok (.ishl, 1) := by decide +kernel
theorem dX11_needs_45 : decode cX11_needs 45 = .ok (.iconst (-1), 1) := by decide +kernel
theorem dX11_needs_46 : decode cX11_needs 46 = .ok (.ixor, 1) := by decide +kernel
theorem dX11_needs_47 : decode cX11_needs 47 = .ok (.iand, 1) := by decide +kernel
theorem dX11_needs_48 : decode cX11_needs 48 = .ok (.invokevirtual 332, 3) := by decide +kernel
theorem dX11_needs_51 : decode cX11_needs 51 = .ok (.ifCond .ne 7, 3) := by decide +kernel
theorem dX11_needs_54 : decode cX11_needs 54 = .ok (.iconst 1, 1) := by decide +kernel
theorem dX11_needs_55 : decode cX11_needs 55 = .ok (.goto 4, 3) := by decide +kernel
theorem dX11_needs_58 : decode cX11_needs 58 = .ok (.iconst 0, 1) := by decide +kernel
theorem dX11_needs_59 : decode cX11_needs 59 = .ok (.ireturn, 1) := by decide +kernel
theorem dX11_opens_0 : decode cX11_opens 0 = .ok (.aload_n 0, 1) := by decide +kernel
theorem dX11_opens_1 : decode cX11_opens 1 = .ok (.iload_n 1, 1) := by decide +kernel
theorem dX11_opens_2 : decode cX11_opens 2 = .ok (.invokevirtual 186, 3) := by decide +kernel
theorem dX11_opens_5 : decode cX11_opens 5 = .ok (.ifCond .ne 6, 3) := by decide +kernel
theorem dX11_opens_8 : decode cX11_opens 8 = .ok (.bipush (-2), 2) := by decide +kernel
theorem dX11_opens_10 : decode cX11_opens 10 = .ok (.ireturn, 1) := by decide +kernel
theorem dX11_opens_11 : decode cX11_opens 11 = .ok (.iconst 0, 1) := by decide +kernel
theorem dX11_opens_12 : decode cX11_opens 12 = .ok (.istore_n 2, 1) := by decide +kernel
theorem dX11_opens_13 : decode cX11_opens 13 = .ok (.iconst 0, 1) := by decide +kernel
theorem dX11_opens_14 : decode cX11_opens 14 = .ok (.istore_n 3, 1) := by decide +kernel
theorem dX11_opens_15 : decode cX11_opens 15 = .ok (.iload_n 3, 1) := by decide +kernel
theorem dX11_opens_16 : decode cX11_opens 16 = .ok (.sipush 200, 3) := by decide +kernel
theorem dX11_opens_19 : decode cX11_opens 19 = .ok (.if_icmp .ge 97, 3) := by decide +kernel
theorem dX11_opens_22 : decode cX11_opens 22 = .ok (.aload_n 0, 1) := by decide +kernel
theorem dX11_opens_23 : decode cX11_opens 23 = .ok (.getfield 36, 3) := by decide +kernel
theorem dX11_opens_26 : decode cX11_opens 26 = .ok (.getfield 161, 3) := by decide +kernel
theorem dX11_opens_29 : decode cX11_opens 29 = .ok (.iload_n 3, 1) := by decide +kernel
theorem dX11_opens_30 : decode cX11_opens 30 = .ok (.iadd, 1) := by decide +kernel
theorem dX11_opens_31 : decode cX11_opens 31 = .ok (.istore 4, 2) := by decide +kernel
theorem dX11_opens_33 : decode cX11_opens 33 = .ok (.aload_n 0, 1) := by decide +kernel
theorem dX11_opens_34 : decode cX11_opens 34 = .ok (.iload 4, 2) := by decide +kernel
theorem dX11_opens_36 : decode cX11_opens 36 = .ok (.invokevirtual 168, 3) := by decide +kernel
theorem dX11_opens_39 : decode cX11_opens 39 = .ok (.istore 5, 2) := by decide +kernel
theorem dX11_opens_41 : decode cX11_opens 41 = .ok (.iload_n 3, 1) := by decide +kernel
theorem dX11_opens_42 : decode cX11_opens 42 = .ok (.ifCond .eq 19, 3) := by decide +kernel
theorem dX11_opens_45 : decode cX11_opens 45 = .ok (.iload 5, 2) := by decide +kernel
theorem dX11_opens_47 : decode cX11_opens 47 = .ok (.iload_n 2, 1) := by decide +kernel
theorem dX11_opens_48 : decode cX11_opens 48 = .ok (.if_icmp .ne 13, 3) := by decide +kernel
theorem dX11_opens_51 : decode cX11_opens 51 = .ok (.aload_n 0, 1) := by decide +kernel
theorem dX11_opens_52 : decode cX11_opens 52 = .ok (.getfield 29, 3) := by decide +kernel
theorem dX11_opens_55 : decode cX11_opens 55 = .ok (.invokevirtual 341, 3) := by decide +kernel
theorem dX11_opens_58 : decode cX11_opens 58 = .ok (.ifCond .eq 49, 3) := by decide +kernel
theorem dX11_opens_61 : decode cX11_opens 61 = .ok (.aload_n 0, 1) := by decide +kernel
theorem dX11_opens_62 : decode cX11_opens 62 = .ok (.getfield 75, 3) := by decide +kernel
theorem dX11_opens_65 : decode cX11_opens 65 = .ok (.aload_n 0, 1) := by decide +kernel
theorem dX11_opens_66 : decode cX11_opens 66 = .ok (.getfield 29, 3) := by decide +kernel
theorem dX11_opens_69 : decode cX11_opens 69 = .ok (.aload_n 0, 1) := by decide +kernel
theorem dX11_opens_70 : decode cX11_opens 70 = .ok (.getfield 29, 3) := by decide +kernel
theorem dX11_opens_73 : decode cX11_opens 73 = .ok (.getfield 189, 3) := by decide +kernel
theorem dX11_opens_76 : decode cX11_opens 76 = .ok (.iload_n 1, 1) := by decide +kernel
theorem dX11_opens_77 : decode cX11_opens 77 = .ok (.iaload, 1) := by decide +kernel
theorem dX11_opens_78 : decode cX11_opens 78 = .ok (.aload_n 0, 1) := by decide +kernel
theorem dX11_opens_79 : decode cX11_opens 79 = .ok (.getfield 29, 3) := by decide +kernel
theorem dX11_opens_82 : decode cX11_opens 82 = .ok (.getfield 192, 3) := by decide +kernel
theorem dX11_opens_85 : decode cX11_opens 85 = .ok (.iload_n 1, 1) := by decide +kernel
theorem dX11_opens_86 : decode cX11_opens 86 = .ok (.iaload, 1) := by decide +kernel
theorem dX11_opens_87 : decode cX11_opens 87 = .ok (.iload 4, 2) := by decide +kernel
theorem dX11_opens_89 : decode cX11_opens 89 = .ok (.invokevirtual 225, 3) := by decide +kernel
theorem dX11_opens_92 : decode cX11_opens 92 = .ok (.aload_n 0, 1) := by decide +kernel
theorem dX11_opens_93 : decode cX11_opens 93 = .ok (.getfield 75, 3) := by decide +kernel
theorem dX11_opens_96 : decode cX11_opens 96 = .ok (.iload 5, 2) := by decide +kernel
theorem dX11_opens_98 : decode cX11_opens 98 = .ok (.invokevirtual 332, 3) := by decide +kernel
theorem dX11_opens_101 : decode cX11_opens 101 = .ok (.ifCond .eq 6, 3) := by decide +kernel
theorem dX11_opens_104 : decode cX11_opens 104 = .ok (.iload 4, 2) := by decide +kernel
theorem dX11_opens_106 : decode cX11_opens 106 = .ok (.ireturn, 1) := by decide +kernel
theorem dX11_opens_107 : decode cX11_opens 107 = .ok (.iload 5, 2) := by decide +kernel
theorem dX11_opens_109 : decode cX11_opens 109 = .ok (.istore_n 2, 1) := by decide +kernel
theorem dX11_opens_110 : decode cX11_opens 110 = .ok (.iinc 3 1, 3) := by decide +kernel
theorem dX11_opens_113 : decode cX11_opens 113 = .ok (.goto (-98), 3) := by decide +kernel
theorem dX11_opens_116 : decode cX11_opens 116 = .ok (.iconst (-1), 1) := by decide +kernel
theorem dX11_opens_117 : decode cX11_opens 117 = .ok (.ireturn, 1) := by decide +kernel
theorem dX11_parties_0 : decode cX11_parties 0 = .ok (.aload_n 0, 1) := by decide +kernel
theorem dX11_parties_1 : decode cX11_parties 1 = .ok (.iload_n 1, 1) := by decide +kernel
theorem dX11_parties_2 : decode cX11_parties 2 = .ok (.invokevirtual 186, 3) := by decide +kernel
theorem dX11_parties_5 : decode cX11_parties 5 = .ok (.ifCond .eq 29, 3) := by decide +kernel
theorem dX11_parties_8 : decode cX11_parties 8 = .ok (.aload_n 0, 1) := by decide +kernel
theorem dX11_parties_9 : decode cX11_parties 9 = .ok (.getfield 89, 3) := by decide +kernel
theorem dX11_parties_12 : decode cX11_parties 12 = .ok (.aload_n 0, 1) := by decide +kernel
theorem dX11_parties_13 : decode cX11_parties 13 = .ok (.iload_n 1, 1) := by decide +kernel
theorem dX11_parties_14 : decode cX11_parties 14 = .ok (.invokevirtual 202, 3) := by decide +kernel
theorem dX11_parties_17 : decode cX11_parties 17 = .ok (.aload_n 0, 1) := by decide +kernel
theorem dX11_parties_18 : decode cX11_parties 18 = .ok (.invokevirtual 206, 3) := by decide +kernel
theorem dX11_parties_21 : decode cX11_parties 21 = .ok (.aload_n 0, 1) := by decide +kernel
theorem dX11_parties_22 : decode cX11_parties 22 = .ok (.getfield 29, 3) := by decide +kernel
theorem dX11_parties_25 : decode cX11_parties 25 = .ok (.invokevirtual 265, 3) := by decide +kernel
theorem dX11_parties_28 : decode cX11_parties 28 = .ok (.invokevirtual 322, 3) := by decide +kernel
theorem dX11_parties_31 : decode cX11_parties 31 = .ok (.goto 5, 3) := by decide +kernel
theorem dX11_parties_34 : decode cX11_parties 34 = .ok (.bipush (-2), 2) := by decide +kernel
theorem dX11_parties_36 : decode cX11_parties 36 = .ok (.ireturn, 1) := by decide +kernel
theorem dX11_saved_0 : decode cX11_saved 0 = .ok (.aload_n 0, 1) := by decide +kernel
theorem dX11_saved_1 : decode cX11_saved 1 = .ok (.iload_n 1, 1) := by decide +kernel
theorem dX11_saved_2 : decode cX11_saved 2 = .ok (.invokevirtual 186, 3) := by decide +kernel
theorem dX11_saved_5 : decode cX11_saved 5 = .ok (.ifCond .eq 22, 3) := by decide +kernel
theorem dX11_saved_8 : decode cX11_saved 8 = .ok (.aload_n 0, 1) := by decide +kernel
theorem dX11_saved_9 : decode cX11_saved 9 = .ok (.getfield 82, 3) := by decide +kernel
theorem dX11_saved_12 : decode cX11_saved 12 = .ok (.aload_n 0, 1) := by decide +kernel
theorem dX11_saved_13 : decode cX11_saved 13 = .ok (.iload_n 1, 1) := by decide +kernel
theorem dX11_saved_14 : decode cX11_saved 14 = .ok (.invokevirtual 202, 3) := by decide +kernel
theorem dX11_saved_17 : decode cX11_saved 17 = .ok (.aload_n 0, 1) := by decide +kernel
theorem dX11_saved_18 : decode cX11_saved 18 = .ok (.invokevirtual 206, 3) := by decide +kernel
theorem dX11_saved_21 : decode cX11_saved 21 = .ok (.invokevirtual 349, 3) := by decide +kernel
theorem dX11_saved_24 : decode cX11_saved 24 = .ok (.goto 5, 3) := by decide +kernel
theorem dX11_saved_27 : decode cX11_saved 27 = .ok (.bipush (-2), 2) := by decide +kernel
theorem dX11_saved_29 : decode cX11_saved 29 = .ok (.ireturn, 1) := by decide +kernel
theorem dX11_shut_0 : decode cX11_shut 0 = .ok (.aload_n 0, 1) := by decide +kernel
theorem dX11_shut_1 : decode cX11_shut 1 = .ok (.iload_n 1, 1) := by decide +kernel
theorem dX11_shut_2 : decode cX11_shut 2 = .ok (.invokevirtual 186, 3) := by decide +kernel
theorem dX11_shut_5 : decode cX11_shut 5 = .ok (.ifCond .eq 12, 3) := by decide +kernel
theorem dX11_shut_8 : decode cX11_shut 8 = .ok (.iload_n 2, 1) := by decide +kernel
theorem dX11_shut_9 : decode cX11_shut 9 = .ok (.ifCond .lt 8, 3) := by decide +kernel
theorem dX11_shut_12 : decode cX11_shut 12 = .ok (.iload_n 2, 1) := by decide +kernel
theorem dX11_shut_13 : decode cX11_shut 13 = .ok (.iconst 1, 1) := by decide +kernel
theorem dX11_shut_14 : decode cX11_shut 14 = .ok (.if_icmp .le 6, 3) := by decide +kernel
theorem dX11_shut_17 : decode cX11_shut 17 = .ok (.bipush (-2), 2) := by decide +kernel
theorem dX11_shut_19 : decode cX11_shut 19 = .ok (.ireturn, 1) := by decide +kernel
theorem dX11_shut_20 : decode cX11_shut 20 = .ok (.aload_n 0, 1) := by decide +kernel
theorem dX11_shut_21 : decode cX11_shut 21 = .ok (.getfield 89, 3) := by decide +kernel
theorem dX11_shut_24 : decode cX11_shut 24 = .ok (.aload_n 0, 1) := by decide +kernel
theorem dX11_shut_25 : decode cX11_shut 25 = .ok (.iload_n 1, 1) := by decide +kernel
theorem dX11_shut_26 : decode cX11_shut 26 = .ok (.invokevirtual 202, 3) := by decide +kernel
theorem dX11_shut_29 : decode cX11_shut 29 = .ok (.aload_n 0, 1) := by decide +kernel
theorem dX11_shut_30 : decode cX11_shut 30 = .ok (.invokevirtual 206, 3) := by decide +kernel
theorem dX11_shut_33 : decode cX11_shut 33 = .ok (.invokevirtual 326, 3) := by decide +kernel
theorem dX11_shut_36 : decode cX11_shut 36 = .ok (.istore_n 3, 1) := by decide +kernel
theorem dX11_shut_37 : decode cX11_shut 37 = .ok (.iload_n 3, 1) := by decide +kernel
theorem dX11_shut_38 : decode cX11_shut 38 = .ok (.iconst (-1), 1) := by decide +kernel
theorem dX11_shut_39 : decode cX11_shut 39 = .ok (.if_icmp .eq 8, 3) := by decide +kernel
theorem dX11_shut_42 : decode cX11_shut 42 = .ok (.iload_n 2, 1) := by decide +kernel
theorem dX11_shut_43 : decode cX11_shut 43 = .ok (.iconst 1, 1) := by decide +kernel
theorem dX11_shut_44 : decode cX11_shut 44 = .ok (.if_icmp .ne 7, 3) := by decide +kernel
theorem dX11_shut_47 : decode cX11_shut 47 = .ok (.iload_n 3, 1) := by decide +kernel
theorem dX11_shut_48 : decode cX11_shut 48 = .ok (.goto 7, 3) := by decide +kernel
theorem dX11_shut_51 : decode cX11_shut 51 = .ok (.iload_n 3, 1) := by decide +kernel
theorem dX11_shut_52 : decode cX11_shut 52 = .ok (.invokestatic 243, 3) := by decide +kernel
theorem dX11_shut_55 : decode cX11_shut 55 = .ok (.ireturn, 1) := by decide +kernel
theorem dX11_together_0 : decode cX11_together 0 = .ok (.aload_n 0, 1) := by decide +kernel
theorem dX11_together_1 : decode cX11_together 1 = .ok (.iload_n 1, 1) := by decide +kernel
theorem dX11_together_2 : decode cX11_together 2 = .ok (.invokevirtual 186, 3) := by decide +kernel
theorem dX11_together_5 : decode cX11_together 5 = .ok (.ifCond .eq 11, 3) := by decide +kernel
theorem dX11_together_8 : decode cX11_together 8 = .ok (.aload_n 0, 1) := by decide +kernel
theorem dX11_together_9 : decode cX11_together 9 = .ok (.iload_n 2, 1) := by decide +kernel
theorem dX11_together_10 : decode cX11_together 10 = .ok (.invokevirtual 186, 3) := by decide +kernel
theorem dX11_together_13 : decode cX11_together 13 = .ok (.ifCond .ne 6, 3) := by decide +kernel
theorem dX11_together_16 : decode cX11_together 16 = .ok (.bipush (-2), 2) := by decide +kernel
theorem dX11_together_18 : decode cX11_together 18 = .ok (.ireturn, 1) := by decide +kernel
theorem dX11_together_19 : decode cX11_together 19 = .ok (.aload_n 0, 1) := by decide +kernel
theorem dX11_together_20 : decode cX11_together 20 = .ok (.iload_n 1, 1) := by decide +kernel
theorem dX11_together_21 : decode cX11_together 21 = .ok (.invokevirtual 202, 3) := by decide +kernel
theorem dX11_together_24 : decode cX11_together 24 = .ok (.astore_n 3, 1) := by decide +kernel
theorem dX11_together_25 : decode cX11_together 25 = .ok (.aload_n 0, 1) := by decide +kernel
theorem dX11_together_26 : decode cX11_together 26 = .ok (.iload_n 2, 1) := by decide +kernel
theorem dX11_together_27 : decode cX11_together 27 = .ok (.invokevirtual 202, 3) := by decide +kernel
theorem dX11_together_30 : decode cX11_together 30 = .ok (.astore 4, 2) := by decide +kernel
theorem dX11_together_32 : decode cX11_together 32 = .ok (.aload_n 0, 1) := by decide +kernel
theorem dX11_together_33 : decode cX11_together 33 = .ok (.invokevirtual 206, 3) := by decide +kernel
theorem dX11_together_36 : decode cX11_together 36 = .ok (.istore 5, 2) := by decide +kernel
theorem dX11_together_38 : decode cX11_together 38 = .ok (.iload 5, 2) := by decide +kernel
theorem dX11_together_40 : decode cX11_together 40 = .ok (.aload_n 0, 1) := by decide +kernel
theorem dX11_together_41 : decode cX11_together 41 = .ok (.getfield 29, 3) := by decide +kernel
theorem dX11_together_44 : decode cX11_together 44 = .ok (.invokevirtual 265, 3) := by decide +kernel
theorem dX11_together_47 : decode cX11_together 47 = .ok (.iand, 1) := by decide +kernel
theorem dX11_together_48 : decode cX11_together 48 = .ok (.istore 6, 2) := by decide +kernel
theorem dX11_together_50 : decode cX11_together 50 = .ok (.iload 5, 2) := by decide +kernel
theorem dX11_together_52 : decode cX11_together 52 = .ok (.iload 6, 2) := by decide +kernel
theorem dX11_together_54 : decode cX11_together 54 = .ok (.iconst (-1), 1) := by decide +kernel
theorem dX11_together_55 : decode cX11_together 55 = .ok (.ixor, 1) := by decide +kernel
theorem dX11_together_56 : decode cX11_together 56 = .ok (.iand, 1) := by decide +kernel
theorem dX11_together_57 : decode cX11_together 57 = .ok (.istore 7, 2) := by decide +kernel
theorem dX11_together_59 : decode cX11_together 59 = .ok (.aload_n 3, 1) := by decide +kernel
theorem dX11_together_60 : decode cX11_together 60 = .ok (.iload 5, 2) := by decide +kernel
theorem dX11_together_62 : decode cX11_together 62 = .ok (.invokevirtual 332, 3) := by decide +kernel
theorem dX11_together_65 : decode cX11_together 65 = .ok (.ifCond .eq 13, 3) := by decide +kernel
theorem dX11_together_68 : decode cX11_together 68 = .ok (.aload 4, 2) := by decide +kernel
theorem dX11_together_70 : decode cX11_together 70 = .ok (.iload 5, 2) := by decide +kernel
theorem dX11_together_72 : decode cX11_together 72 = .ok (.invokevirtual 332, 3) := by decide +kernel
theorem dX11_together_75 : decode cX11_together 75 = .ok (.ifCond .ne 5, 3) := by decide +kernel
theorem dX11_together_78 : decode cX11_together 78 = .ok (.iconst 0, 1) := by decide +kernel
theorem dX11_together_79 : decode cX11_together 79 = .ok (.ireturn, 1) := by decide +kernel
theorem dX11_together_80 : decode cX11_together 80 = .ok (.iconst 1, 1) := by decide +kernel
theorem dX11_together_81 : decode cX11_together 81 = .ok (.iload 6, 2) := by decide +kernel
theorem dX11_together_83 : decode cX11_together 83 = .ok (.invokestatic 243, 3) := by decide +kernel
theorem dX11_together_86 : decode cX11_together 86 = .ok (.ishl, 1) := by decide +kernel
theorem dX11_together_87 : decode cX11_together 87 = .ok (.istore 8, 2) := by decide +kernel
theorem dX11_together_89 : decode cX11_together 89 = .ok (.iconst 0, 1) := by decide +kernel
theorem dX11_together_90 : decode cX11_together 90 = .ok (.istore 9, 2) := by decide +kernel
theorem dX11_together_92 : decode cX11_together 92 = .ok (.iconst 0, 1) := by decide +kernel
theorem dX11_together_93 : decode cX11_together 93 = .ok (.istore 10, 2) := by decide +kernel
theorem dX11_together_95 : decode cX11_together 95 = .ok (.iload 10, 2) := by decide +kernel
theorem dX11_together_97 : decode cX11_together 97 = .ok (.iload 8, 2) := by decide +kernel
theorem dX11_together_99 : decode cX11_together 99 = .ok (.if_icmp .ge 51, 3) := by decide +kernel
theorem dX11_together_102 : decode cX11_together 102 = .ok (.aload_n 3, 1) := by decide +kernel
theorem dX11_together_103 : decode cX11_together 103 = .ok (.iload 7, 2) := by decide +kernel
theorem dX11_together_105 : decode cX11_together 105 = .ok (.iload 9, 2) := by decide +kernel
theorem dX11_together_107 : decode cX11_together 107 = .ok (.ior, 1) := by decide +kernel
theorem dX11_together_108 : decode cX11_together 108 = .ok (.invokevirtual 332, 3) := by decide +kernel
theorem dX11_together_111 : decode cX11_together 111 = .ok (.ifCond .eq 23, 3) := by decide +kernel
theorem dX11_together_114 : decode cX11_together 114 = .ok (.aload 4, 2) := by decide +kernel
theorem dX11_together_116 : decode cX11_together 116 = .ok (.iload 7, 2) := by decide +kernel
theorem dX11_together_118 : decode cX11_together 118 = .ok (.iload 6, 2) := by decide +kernel
theorem dX11_together_120 : decode cX11_together 120 = .ok (.iload 9, 2) := by decide +kernel
theorem dX11_together_122 : decode cX11_together 122 = .ok (.iconst (-1), 1) := by decide +kernel
theorem dX11_together_123 : decode cX11_together 123 = .ok (.ixor, 1) := by decide +kernel
theorem dX11_together_124 : decode cX11_together 124 = .ok (.iand, 1) := by decide +kernel
theorem dX11_together_125 : decode cX11_together 125 = .ok (.ior, 1) := by decide +kernel
theorem dX11_together_126 : decode cX11_together 126 = .ok (.invokevirtual 332, 3) := by decide +kernel
theorem dX11_together_129 : decode cX11_together 129 = .ok (.ifCond .eq 5, 3) := by decide +kernel
theorem dX11_together_132 : decode cX11_together 132 = .ok (.iconst 1, 1) := by decide +kernel
theorem dX11_together_133 : decode cX11_together 133 = .ok (.ireturn, 1) := by decide +kernel
theorem dX11_together_134 : decode cX11_together 134 = .ok (.iload 9, 2) := by decide +kernel
theorem dX11_together_136 : decode cX11_together 136 = .ok (.iload 6, 2) := by decide +kernel
theorem dX11_together_138 : decode cX11_together 138 = .ok (.isub, 1) := by decide +kernel
theorem dX11_together_139 : decode cX11_together 139 = .ok (.iload 6, 2) := by decide +kernel
theorem dX11_together_141 : decode cX11_together 141 = .ok (.iand, 1) := by decide +kernel
theorem dX11_together_142 : decode cX11_together 142 = .ok (.istore 9, 2) := by decide +kernel
theorem dX11_together_144 : decode cX11_together 144 = .ok (.iinc 10 1, 3) := by decide +kernel
theorem dX11_together_147 : decode cX11_together 147 = .ok (.goto (-52), 3) := by decide +kernel
theorem dX11_together_150 : decode cX11_together 150 = .ok (.iconst 0, 1) := by decide +kernel
theorem dX11_together_151 : decode cX11_together 151 = .ok (.ireturn, 1) := by decide +kernel
theorem dX11_way_0 : decode cX11_way 0 = .ok (.aload_n 0, 1) := by decide +kernel
theorem dX11_way_1 : decode cX11_way 1 = .ok (.iload_n 1, 1) := by decide +kernel
theorem dX11_way_2 : decode cX11_way 2 = .ok (.invokevirtual 186, 3) := by decide +kernel
theorem dX11_way_5 : decode cX11_way 5 = .ok (.ifCond .eq 12, 3) := by decide +kernel
theorem dX11_way_8 : decode cX11_way 8 = .ok (.iload_n 2, 1) := by decide +kernel
theorem dX11_way_9 : decode cX11_way 9 = .ok (.bipush 14, 2) := by decide +kernel
theorem dX11_way_11 : decode cX11_way 11 = .ok (.invokestatic 299, 3) := by decide +kernel
theorem dX11_way_14 : decode cX11_way 14 = .ok (.ifCond .ne 6, 3) := by decide +kernel
theorem dX11_way_17 : decode cX11_way 17 = .ok (.bipush (-2), 2) := by decide +kernel
theorem dX11_way_19 : decode cX11_way 19 = .ok (.ireturn, 1) := by decide +kernel
theorem dX11_way_20 : decode cX11_way 20 = .ok (.aload_n 0, 1) := by decide +kernel
theorem dX11_way_21 : decode cX11_way 21 = .ok (.getfield 82, 3) := by decide +kernel
theorem dX11_way_24 : decode cX11_way 24 = .ok (.getfield 303, 3) := by decide +kernel
theorem dX11_way_27 : decode cX11_way 27 = .ok (.aload_n 0, 1) := by decide +kernel
theorem dX11_way_28 : decode cX11_way 28 = .ok (.getfield 82, 3) := by decide +kernel
theorem dX11_way_31 : decode cX11_way 31 = .ok (.aload_n 0, 1) := by decide +kernel
theorem dX11_way_32 : decode cX11_way 32 = .ok (.iload_n 1, 1) := by decide +kernel
theorem dX11_way_33 : decode cX11_way 33 = .ok (.invokevirtual 202, 3) := by decide +kernel
theorem dX11_way_36 : decode cX11_way 36 = .ok (.aload_n 0, 1) := by decide +kernel
theorem dX11_way_37 : decode cX11_way 37 = .ok (.invokevirtual 206, 3) := by decide +kernel
theorem dX11_way_40 : decode cX11_way 40 = .ok (.invokevirtual 271, 3) := by decide +kernel
theorem dX11_way_43 : decode cX11_way 43 = .ok (.iload_n 2, 1) := by decide +kernel
theorem dX11_way_44 : decode cX11_way 44 = .ok (.invokestatic 306, 3) := by decide +kernel
theorem dX11_way_47 : decode cX11_way 47 = .ok (.ireturn, 1) := by decide +kernel
theorem dX11_ways_0 : decode cX11_ways 0 = .ok (.aload_n 0, 1) := by decide +kernel
theorem dX11_ways_1 : decode cX11_ways 1 = .ok (.iload_n 1, 1) := by decide +kernel
theorem dX11_ways_2 : decode cX11_ways 2 = .ok (.invokevirtual 186, 3) := by decide +kernel
theorem dX11_ways_5 : decode cX11_ways 5 = .ok (.ifCond .eq 22, 3) := by decide +kernel
theorem dX11_ways_8 : decode cX11_ways 8 = .ok (.aload_n 0, 1) := by decide +kernel
theorem dX11_ways_9 : decode cX11_ways 9 = .ok (.getfield 82, 3) := by decide +kernel
theorem dX11_ways_12 : decode cX11_ways 12 = .ok (.aload_n 0, 1) := by decide +kernel
theorem dX11_ways_13 : decode cX11_ways 13 = .ok (.iload_n 1, 1) := by decide +kernel
theorem dX11_ways_14 : decode cX11_ways 14 = .ok (.invokevirtual 202, 3) := by decide +kernel
theorem dX11_ways_17 : decode cX11_ways 17 = .ok (.aload_n 0, 1) := by decide +kernel
theorem dX11_ways_18 : decode cX11_ways 18 = .ok (.invokevirtual 206, 3) := by decide +kernel
theorem dX11_ways_21 : decode cX11_ways 21 = .ok (.invokevirtual 310, 3) := by decide +kernel
theorem dX11_ways_24 : decode cX11_ways 24 = .ok (.goto 6, 3) := by decide +kernel
theorem dX11_ways_27 : decode cX11_ways 27 = .ok (.ldc2_w 314, 3) := by decide +kernel
theorem dX11_ways_30 : decode cX11_ways 30 = .ok (.lreturn, 1) := by decide +kernel
theorem kw_274 : Cond.fieldLink "FootholdWall" 303 "FootholdWall$Ways" "path" "[I" ∈ gw := gw_of (tb_of 274 (by decide +kernel)) (by decide +kernel)
theorem kw_373 : Cond.fieldLink "FootholdWall" 75 "FootholdWall" "otherRows" "LFootholdWall$Rows;" ∈ gw := gw_of (tb_of 373 (by decide +kernel)) (by decide +kernel)
theorem kw_375 : Cond.fieldLink "FootholdWall" 89 "FootholdWall" "cut" "LFootholdWall$Cut;" ∈ gw := gw_of (tb_of 375 (by decide +kernel)) (by decide +kernel)
theorem kw_970 : Cond.methodLink "FootholdWall" 299 yX11_asksRow ∈ gw := gw_of (tb_of 970 (by decide +kernel)) (by decide +kernel)
theorem kw_971 : Cond.static yX11_asksRow ∈ gw := gw_of (tb_of 971 (by decide +kernel)) (by decide +kernel)
theorem kw_972 : Cond.code yX11_asksRow cX11_asksRow 2 (some (.boolean)) ∈ gw := gw_of (tb_of 972 (by decide +kernel)) (by decide +kernel)
theorem kw_973 : Cond.methodLink "FootholdWall" 306 yX11_ofRow ∈ gw := gw_of (tb_of 973 (by decide +kernel)) (by decide +kernel)
theorem kw_974 : Cond.static yX11_ofRow ∈ gw := gw_of (tb_of 974 (by decide +kernel)) (by decide +kernel)
theorem kw_975 : Cond.code yX11_ofRow cX11_ofRow 4 (some (.int)) ∈ gw := gw_of (tb_of 975 (by decide +kernel)) (by decide +kernel)
theorem kw_980 : Cond.methodLink "FootholdWall" 310 yX10_howMany ∈ gw := gw_of (tb_of 980 (by decide +kernel)) (by decide +kernel)
theorem kw_981 : Cond.instanceMethod yX10_howMany ∈ gw := gw_of (tb_of 981 (by decide +kernel)) (by decide +kernel)
theorem kw_982 : Cond.selects "FootholdWall$Ways" yX10_howMany yX10_howMany ∈ gw := gw_of (tb_of 982 (by decide +kernel)) (by decide +kernel)
theorem kw_983 : Cond.code yX10_howMany cX10_howMany 6 (some (.long)) ∈ gw := gw_of (tb_of 983 (by decide +kernel)) (by decide +kernel)
theorem kw_988 : Cond.constantLong "FootholdWall" 314 (-2) ∈ gw := gw_of (tb_of 988 (by decide +kernel)) (by decide +kernel)
theorem kw_1014 : Cond.methodLink "FootholdWall" 322 yX1_fewest ∈ gw := gw_of (tb_of 1014 (by decide +kernel)) (by decide +kernel)
theorem kw_1044 : Cond.methodLink "FootholdWall" 326 yX1_leastSet ∈ gw := gw_of (tb_of 1044 (by decide +kernel)) (by decide +kernel)
theorem kw_1045 : Cond.instanceMethod yX1_leastSet ∈ gw := gw_of (tb_of 1045 (by decide +kernel)) (by decide +kernel)
theorem kw_1046 : Cond.selects "FootholdWall$Cut" yX1_leastSet yX1_leastSet ∈ gw := gw_of (tb_of 1046 (by decide +kernel)) (by decide +kernel)
theorem kw_1047 : Cond.code yX1_leastSet cX1_leastSet 7 (some (.int)) ∈ gw := gw_of (tb_of 1047 (by decide +kernel)) (by decide +kernel)
theorem kw_1055 : Cond.methodLink "FootholdWall" 329 yX11_needs ∈ gw := gw_of (tb_of 1055 (by decide +kernel)) (by decide +kernel)
theorem kw_1057 : Cond.instanceMethod yX11_needs ∈ gw := gw_of (tb_of 1057 (by decide +kernel)) (by decide +kernel)
theorem kw_1058 : Cond.code yX11_needs cX11_needs 5 (some (.boolean)) ∈ gw := gw_of (tb_of 1058 (by decide +kernel)) (by decide +kernel)
theorem kw_1059 : Cond.methodLink "FootholdWall" 332 yX5_getsUp ∈ gw := gw_of (tb_of 1059 (by decide +kernel)) (by decide +kernel)
theorem kw_1060 : Cond.instanceMethod yX5_getsUp ∈ gw := gw_of (tb_of 1060 (by decide +kernel)) (by decide +kernel)
theorem kw_1061 : Cond.selects "FootholdWall$Rows" yX5_getsUp yX5_getsUp ∈ gw := gw_of (tb_of 1061 (by decide +kernel)) (by decide +kernel)
theorem kw_1062 : Cond.code yX5_getsUp cX5_getsUp 2 (some (.boolean)) ∈ gw := gw_of (tb_of 1062 (by decide +kernel)) (by decide +kernel)
theorem kw_1105 : Cond.methodLink "FootholdWall" 338 Lib.Math.max.name ∈ gw := gw_of (tb_of 1105 (by decide +kernel)) (by decide +kernel)
theorem kw_1118 : Cond.methodLink "FootholdWall" 341 yX9_asksDay ∈ gw := gw_of (tb_of 1118 (by decide +kernel)) (by decide +kernel)
theorem kw_1150 : Cond.methodLink "FootholdWall" 349 yX10_leastUsed ∈ gw := gw_of (tb_of 1150 (by decide +kernel)) (by decide +kernel)
theorem kw_1151 : Cond.instanceMethod yX10_leastUsed ∈ gw := gw_of (tb_of 1151 (by decide +kernel)) (by decide +kernel)
theorem kw_1152 : Cond.selects "FootholdWall$Ways" yX10_leastUsed yX10_leastUsed ∈ gw := gw_of (tb_of 1152 (by decide +kernel)) (by decide +kernel)
theorem kw_1153 : Cond.code yX10_leastUsed cX10_leastUsed 8 (some (.int)) ∈ gw := gw_of (tb_of 1153 (by decide +kernel)) (by decide +kernel)
theorem ks_37 : Cond.selects RX11 yX11_needs yX11_needs ∈ gw := gw_of (pv_of 37 (by decide +kernel)) (by decide +kernel)
set_option maxHeartbeats 4000000 in
set_option maxRecDepth 100000 in
theorem s_FW_way (l : Launch) (D : va_G) (cs : CS) (kf : KF) (T : TF) (O : List Nat) (X : va_W) (a0 w hw gw ch gq : Nat) (x1 : Int32) (x2 : Int32) (t_a0 : T a0 = some (21, w, ch)) (t_w : isW T w hw gw) (t_ch : T ch = some (10, gq, 0)) (hO : okO T O [1, 7, 12, 15, 16, 19, 20, 21]) : TK l D cs kf yX11_way cX11_way 3 (some (.int)) { frames := 6, cells := 0, slots := 0, locals := 152 } [.ref a0, .int x1, .int x2] T O X (Ti D cs (fun r u => u = (T, O, X))) := by
  refine tk_of (by decide) (Nat.le_of_ble_eq_true rfl) (fun p e s m below meth c ls A H locs hx hb hr hml hown hts hlocks hnm hkb hH hS hA hOX hks hE hl => ?_)
  have hown : s.vm.findClass RX11 = some m.cls := hown
  have hl : lv_has ls 3 [(0, .ref a0), (1, .int x1), (2, .int x2)] := hl
  have b1_w := t_w.2.1
  have b2_w := t_w.2.2
  refine lv_aload_n hx hb dX11_way_0 rfl (lv_at hl 0 rfl) ?_
  refine lv_iload_n hx hb dX11_way_1 rfl (lv_at hl 1 rfl) ?_
  refine tk_i hH hS hA (tr_V (n := 1) (As := [.int x1]) hx hb hml hown hts hkb hH hOX hks hE hS hA (s_FW_isGuide l D cs kf T O X a0 w hw gw ch gq x1 t_a0 t_w t_ch (hO.sub (by decide))) kw_794 kw_796 ks_20 kw_1 kw_797 (by decide +kernel) ⟨Nat.le_of_ble_eq_true rfl, Nat.le_of_ble_eq_true rfl⟩ (HT.recv (ci := 11) hkb hH t_a0 (hO.no t_a0 (by decide)) rfl) rfl rfl hl.1 (Nat.le_of_ble_eq_true rfl) dX11_way_2 ⟨Nat.le_of_ble_eq_true rfl, Nat.le_of_ble_eq_true rfl⟩) (fun v2 u H locs hz9 hH hS => ?_)
  obtain ⟨rfl, l_v2, u_v2, x_v20⟩ := hz9
  have hH : HT D cs A T O X H := hH
  refine W.widen (k := 0) (n := 0) (Nat.le_of_ble_eq_true rfl) (Nat.le_of_ble_eq_true rfl) ?_
  have J17 : ∀  (H : Heap) (locs : List Loc) (ls : Array Slot), HT D cs A T O X H → va_S A s.heap H locs → lv_has ls 3 [] → W p l e { frames := 6, cells := 0, slots := 0, locals := 152 } s m [.ref a0, .int x1, .int x2].toArray below meth c H locs 0 0 (MQ below (Ti D cs (fun r u => u = (T, O, X)) A) [.ref a0, .int x1, .int x2].toArray s 0 0 A) (F0 m 17 ls []) := by
    intro  H locs ls  hH hS hl
    refine lv_bipush (v := (-2)) hx hb dX11_way_17 (by decide) ?_
    exact te_i hx hb hr hlocks hH hS (rfl) dX11_way_19
  refine lv_if_eq (tgt := 17) hx hb dX11_way_5 (by decide) (fun c5 => ?_) (fun c5 => ?_)
  · skip
    have tc5 := f_eq (k := 0) (by decide) c5
    exact J17  _ _ _  hH hS (lv_sub hl [] rfl)
  · skip
    have tc5 := f_ne (k := 0) (by decide) c5
    refine lv_iload_n hx hb dX11_way_8 rfl (lv_at hl 2 rfl) ?_
    refine lv_bipush (v := 14) hx hb dX11_way_9 (by decide) ?_
    refine tk_i hH hS hA (tr_S (n := 2) (As := [.int x2, .int 14]) hx hb hml hown hts hkb hH hOX hks hE hS hA (s_FW_asksRow l D cs kf T O X x2 (14) (by decide) (by decide) (hO.sub (by decide))) kw_970 kw_971 kw_1 kw_972 (by decide +kernel) ⟨Nat.le_of_ble_eq_true rfl, Nat.le_of_ble_eq_true rfl⟩ rfl rfl hl.1 (Nat.le_of_ble_eq_true rfl) dX11_way_11 ⟨Nat.le_of_ble_eq_true rfl, Nat.le_of_ble_eq_true rfl⟩) (fun v11 u H locs hz9 hH hS => ?_)
    obtain ⟨rfl, l_v11, u_v11⟩ := hz9
    have hH : HT D cs A T O X H := hH
    refine W.widen (k := 0) (n := 0) (Nat.le_of_ble_eq_true rfl) (Nat.le_of_ble_eq_true rfl) ?_
    refine lv_if_ne (tgt := 20) hx hb dX11_way_14 (by decide) (fun c14 => ?_) (fun c14 => ?_)
    · skip
      have tc14 := f_ne (k := 0) (by decide) c14
      refine lv_aload_n hx hb dX11_way_20 rfl (lv_at hl 0 rfl) ?_
      refine t_get (ci := 11) (lst := ft11 w ch) (C := RX11) (F := TX11) (N := 20) hx hb hts uX11 hown hkb hH t_a0 (hO.no t_a0 (by decide)) (fun _ h9 => h9) rfl rfl 14 (by decide) rfl kw_374 (fun _ h9 => h9) dX11_way_21 (fun v9 h9 => ?_)
      obtain ⟨v21, rfl, t_v21⟩ := h9
      refine t_get (ci := 10) (lst := ft10 0 0) (C := RX10) (F := TX10) (N := 7) hx hb hts uX10 hown hkb hH t_v21 (hO.no t_v21 (by decide)) (fun _ h9 => h9) rfl rfl 1 (by decide) rfl kw_274 (fun _ h9 => h9) dX11_way_24 (fun v9 h9 => ?_)
      obtain ⟨v24, rfl, t_v24⟩ := h9
      refine lv_aload_n hx hb dX11_way_27 rfl (lv_at hl 0 rfl) ?_
      refine t_get (ci := 11) (lst := ft11 w ch) (C := RX11) (F := TX11) (N := 20) hx hb hts uX11 hown hkb hH t_a0 (hO.no t_a0 (by decide)) (fun _ h9 => h9) rfl rfl 14 (by decide) rfl kw_374 (fun _ h9 => h9) dX11_way_28 (fun v9 h9 => ?_)
      obtain ⟨v28, rfl, t_v28⟩ := h9
      refine lv_aload_n hx hb dX11_way_31 rfl (lv_at hl 0 rfl) ?_
      refine lv_iload_n hx hb dX11_way_32 rfl (lv_at hl 1 rfl) ?_
      refine tk_r hH hS hA (tr_V (n := 1) (As := [.int x1]) hx hb hml hown hts hkb hH hOX hks hE hS hA (s_FW_rowsOf l D cs kf T O X a0 w hw gw ch gq x1 t_a0 t_w t_ch (by omega) (by omega) (hO.sub (by decide))) kw_830 kw_832 ks_21 kw_1 kw_833 (by decide +kernel) ⟨Nat.le_of_ble_eq_true rfl, Nat.le_of_ble_eq_true rfl⟩ (HT.recv (ci := 11) hkb hH t_a0 (hO.no t_a0 (by decide)) rfl) rfl rfl hl.1 (Nat.le_of_ble_eq_true rfl) dX11_way_33 ⟨Nat.le_of_ble_eq_true rfl, Nat.le_of_ble_eq_true rfl⟩) (fun v33 u H locs hz9 hH hS => ?_)
      obtain ⟨hu9, t_v33⟩ := hz9
      have hu9 : u = (T, O, X) := hu9
      subst hu9
      have hH : HT D cs A T O X H := hH
      refine W.widen (k := 0) (n := 0) (Nat.le_of_ble_eq_true rfl) (Nat.le_of_ble_eq_true rfl) ?_
      refine lv_aload_n hx hb dX11_way_36 rfl (lv_at hl 0 rfl) ?_
      refine tk_i hH hS hA (tr_V (n := 0) (As := []) hx hb hml hown hts hkb hH hOX hks hE hS hA (s_FW_openNow l D cs kf T O X a0 w hw gw ch gq t_a0 t_w t_ch (hO.sub (by decide))) kw_846 kw_848 ks_22 kw_1 kw_849 (by decide +kernel) ⟨Nat.le_of_ble_eq_true rfl, Nat.le_of_ble_eq_true rfl⟩ (HT.recv (ci := 11) hkb hH t_a0 (hO.no t_a0 (by decide)) rfl) rfl rfl hl.1 (Nat.le_of_ble_eq_true rfl) dX11_way_37 ⟨Nat.le_of_ble_eq_true rfl, Nat.le_of_ble_eq_true rfl⟩) (fun v37 u H locs hz9 hH hS => ?_)
      obtain ⟨rfl, l_v37, u_v37⟩ := hz9
      have hH : HT D cs A T O X H := hH
      refine W.widen (k := 0) (n := 0) (Nat.le_of_ble_eq_true rfl) (Nat.le_of_ble_eq_true rfl) ?_
      refine tk_i hH hS hA (tr_V (n := 2) (As := [.ref v33, .int v37]) hx hb hml hown hts hkb hH hOX hks hE hS hA (s_Ways_find l D cs kf T O X v28 v33 v37 t_v28 t_v33 (hO.sub (by decide))) kw_912 kw_913 kw_914 kw_9 kw_915 (by decide +kernel) ⟨Nat.le_of_ble_eq_true rfl, Nat.le_of_ble_eq_true rfl⟩ (HT.recv (ci := 10) hkb hH t_v28 (hO.no t_v28 (by decide)) rfl) rfl rfl hl.1 (Nat.le_of_ble_eq_true rfl) dX11_way_40 ⟨Nat.le_of_ble_eq_true rfl, Nat.le_of_ble_eq_true rfl⟩) (fun v40 u H locs hz9 hH hS => ?_)
      obtain ⟨rfl, l_v40, u_v40⟩ := hz9
      have hH : HT D cs A T O X H := hH
      refine W.widen (k := 0) (n := 0) (Nat.le_of_ble_eq_true rfl) (Nat.le_of_ble_eq_true rfl) ?_
      refine lv_iload_n hx hb dX11_way_43 rfl (lv_at hl 2 rfl) ?_
      refine tk_i hH hS hA (tr_S (n := 3) (As := [.ref v24, .int v40, .int x2]) hx hb hml hown hts hkb hH hOX hks hE hS hA (s_FW_ofRow14 l D cs kf T O X v24 v40 x2 t_v24 (by omega) (by omega) (hO.sub (by decide))) kw_973 kw_974 kw_1 kw_975 (by decide +kernel) ⟨Nat.le_of_ble_eq_true rfl, Nat.le_of_ble_eq_true rfl⟩ rfl rfl hl.1 (Nat.le_of_ble_eq_true rfl) dX11_way_44 ⟨Nat.le_of_ble_eq_true rfl, Nat.le_of_ble_eq_true rfl⟩) (fun v44 u H locs hz9 hH hS => ?_)
      have hz9 : u = (T, O, X) := hz9
      subst hz9
      have hH : HT D cs A T O X H := hH
      refine W.widen (k := 0) (n := 0) (Nat.le_of_ble_eq_true rfl) (Nat.le_of_ble_eq_true rfl) ?_
      exact te_i hx hb hr hlocks hH hS (rfl) dX11_way_47
    · skip
      have tc14 := f_eq (k := 0) (by decide) c14
      exact J17  _ _ _  hH hS (lv_sub hl [] rfl)
set_option maxHeartbeats 4000000 in
set_option maxRecDepth 100000 in
theorem s_FW_ways (l : Launch) (D : va_G) (cs : CS) (kf : KF) (T : TF) (O : List Nat) (X : va_W) (a0 w hw gw ch gq : Nat) (x1 : Int32) (t_a0 : T a0 = some (21, w, ch)) (t_w : isW T w hw gw) (t_ch : T ch = some (10, gq, 0)) (hO : okO T O [1, 2, 7, 12, 15, 16, 19, 20, 21]) : TK l D cs kf yX11_ways cX11_ways 2 (some (.long)) { frames := 6, cells := 0, slots := 0, locals := 152 } [.ref a0, .int x1] T O X (Tl D cs (fun _ u => u = (T, O, X))) := by
  refine tk_of (by decide) (Nat.le_of_ble_eq_true rfl) (fun p e s m below meth c ls A H locs hx hb hr hml hown hts hlocks hnm hkb hH hS hA hOX hks hE hl => ?_)
  have hown : s.vm.findClass RX11 = some m.cls := hown
  have hl : lv_has ls 2 [(0, .ref a0), (1, .int x1)] := hl
  have b1_w := t_w.2.1
  have b2_w := t_w.2.2
  refine lv_aload_n hx hb dX11_ways_0 rfl (lv_at hl 0 rfl) ?_
  refine lv_iload_n hx hb dX11_ways_1 rfl (lv_at hl 1 rfl) ?_
  refine tk_i hH hS hA (tr_V (n := 1) (As := [.int x1]) hx hb hml hown hts hkb hH hOX hks hE hS hA (s_FW_isGuide l D cs kf T O X a0 w hw gw ch gq x1 t_a0 t_w t_ch (hO.sub (by decide))) kw_794 kw_796 ks_20 kw_1 kw_797 (by decide +kernel) ⟨Nat.le_of_ble_eq_true rfl, Nat.le_of_ble_eq_true rfl⟩ (HT.recv (ci := 11) hkb hH t_a0 (hO.no t_a0 (by decide)) rfl) rfl rfl hl.1 (Nat.le_of_ble_eq_true rfl) dX11_ways_2 ⟨Nat.le_of_ble_eq_true rfl, Nat.le_of_ble_eq_true rfl⟩) (fun v2 u H locs hz9 hH hS => ?_)
  obtain ⟨rfl, l_v2, u_v2, x_v20⟩ := hz9
  have hH : HT D cs A T O X H := hH
  refine W.widen (k := 0) (n := 0) (Nat.le_of_ble_eq_true rfl) (Nat.le_of_ble_eq_true rfl) ?_
  have J30 : ∀ (k30_0 : Int64) (H : Heap) (locs : List Loc) (ls : Array Slot), HT D cs A T O X H → va_S A s.heap H locs → lv_has ls 2 [] → W p l e { frames := 6, cells := 0, slots := 0, locals := 152 } s m [.ref a0, .int x1].toArray below meth c H locs 0 0 (MQ below (Tl D cs (fun _ u => u = (T, O, X)) A) [.ref a0, .int x1].toArray s 0 0 A) (F0 m 30 ls [.long k30_0]) := by
    intro k30_0 H locs ls  hH hS hl
    exact te_l hx hb hr hlocks hH hS rfl dX11_ways_30
  refine lv_if_eq (tgt := 27) hx hb dX11_ways_5 (by decide) (fun c5 => ?_) (fun c5 => ?_)
  · skip
    have tc5 := f_eq (k := 0) (by decide) c5
    refine lv_ldc2 hx hb hown (hts _ kw_988) dX11_ways_27 ?_
    exact J30 (-2) _ _ _  hH hS (lv_sub hl [] rfl)
  · skip
    have tc5 := f_ne (k := 0) (by decide) c5
    refine lv_aload_n hx hb dX11_ways_8 rfl (lv_at hl 0 rfl) ?_
    refine t_get (ci := 11) (lst := ft11 w ch) (C := RX11) (F := TX11) (N := 20) hx hb hts uX11 hown hkb hH t_a0 (hO.no t_a0 (by decide)) (fun _ h9 => h9) rfl rfl 14 (by decide) rfl kw_374 (fun _ h9 => h9) dX11_ways_9 (fun v9 h9 => ?_)
    obtain ⟨v9, rfl, t_v9⟩ := h9
    refine lv_aload_n hx hb dX11_ways_12 rfl (lv_at hl 0 rfl) ?_
    refine lv_iload_n hx hb dX11_ways_13 rfl (lv_at hl 1 rfl) ?_
    refine tk_r hH hS hA (tr_V (n := 1) (As := [.int x1]) hx hb hml hown hts hkb hH hOX hks hE hS hA (s_FW_rowsOf l D cs kf T O X a0 w hw gw ch gq x1 t_a0 t_w t_ch (by omega) (by omega) (hO.sub (by decide))) kw_830 kw_832 ks_21 kw_1 kw_833 (by decide +kernel) ⟨Nat.le_of_ble_eq_true rfl, Nat.le_of_ble_eq_true rfl⟩ (HT.recv (ci := 11) hkb hH t_a0 (hO.no t_a0 (by decide)) rfl) rfl rfl hl.1 (Nat.le_of_ble_eq_true rfl) dX11_ways_14 ⟨Nat.le_of_ble_eq_true rfl, Nat.le_of_ble_eq_true rfl⟩) (fun v14 u H locs hz9 hH hS => ?_)
    obtain ⟨hu9, t_v14⟩ := hz9
    have hu9 : u = (T, O, X) := hu9
    subst hu9
    have hH : HT D cs A T O X H := hH
    refine W.widen (k := 0) (n := 0) (Nat.le_of_ble_eq_true rfl) (Nat.le_of_ble_eq_true rfl) ?_
    refine lv_aload_n hx hb dX11_ways_17 rfl (lv_at hl 0 rfl) ?_
    refine tk_i hH hS hA (tr_V (n := 0) (As := []) hx hb hml hown hts hkb hH hOX hks hE hS hA (s_FW_openNow l D cs kf T O X a0 w hw gw ch gq t_a0 t_w t_ch (hO.sub (by decide))) kw_846 kw_848 ks_22 kw_1 kw_849 (by decide +kernel) ⟨Nat.le_of_ble_eq_true rfl, Nat.le_of_ble_eq_true rfl⟩ (HT.recv (ci := 11) hkb hH t_a0 (hO.no t_a0 (by decide)) rfl) rfl rfl hl.1 (Nat.le_of_ble_eq_true rfl) dX11_ways_18 ⟨Nat.le_of_ble_eq_true rfl, Nat.le_of_ble_eq_true rfl⟩) (fun v18 u H locs hz9 hH hS => ?_)
    obtain ⟨rfl, l_v18, u_v18⟩ := hz9
    have hH : HT D cs A T O X H := hH
    refine W.widen (k := 0) (n := 0) (Nat.le_of_ble_eq_true rfl) (Nat.le_of_ble_eq_true rfl) ?_
    refine tk_l hH hS hA (tr_V (n := 2) (As := [.ref v14, .int v18]) hx hb hml hown hts hkb hH hOX hks hE hS hA (s_Ways_howMany l D cs kf T O X v9 v14 v18 t_v9 t_v14 (hO.sub (by decide))) kw_980 kw_981 kw_982 kw_9 kw_983 (by decide +kernel) ⟨Nat.le_of_ble_eq_true rfl, Nat.le_of_ble_eq_true rfl⟩ (HT.recv (ci := 10) hkb hH t_v9 (hO.no t_v9 (by decide)) rfl) rfl rfl hl.1 (Nat.le_of_ble_eq_true rfl) dX11_ways_21 ⟨Nat.le_of_ble_eq_true rfl, Nat.le_of_ble_eq_true rfl⟩) (fun v21 u H locs hz9 hH hS => ?_)
    have hz9 : u = (T, O, X) := hz9
    subst hz9
    have hH : HT D cs A T O X H := hH
    refine W.widen (k := 0) (n := 0) (Nat.le_of_ble_eq_true rfl) (Nat.le_of_ble_eq_true rfl) ?_
    refine lv_goto (tgt := 30) hx hb dX11_ways_24 (by decide) ?_
    exact J30 v21 _ _ _  hH hS (lv_sub hl [] rfl)
set_option maxHeartbeats 4000000 in
set_option maxRecDepth 100000 in
theorem s_FW_parties (l : Launch) (D : va_G) (cs : CS) (kf : KF) (T : TF) (O : List Nat) (X : va_W) (a0 w hw gw ch gq : Nat) (x1 : Int32) (t_a0 : T a0 = some (21, w, ch)) (t_w : isW T w hw gw) (t_ch : T ch = some (10, gq, 0)) (hO : okO T O [1, 7, 11, 12, 15, 16, 19, 21]) : TK l D cs kf yX11_parties cX11_parties 2 (some (.int)) { frames := 6, cells := 0, slots := 0, locals := 156 } [.ref a0, .int x1] T O X (Ti D cs (fun r u => u = (T, O, X) ∧ -2 ≤ r.toInt ∧ r.toInt ≤ 99)) := by
  refine tk_of (by decide) (Nat.le_of_ble_eq_true rfl) (fun p e s m below meth c ls A H locs hx hb hr hml hown hts hlocks hnm hkb hH hS hA hOX hks hE hl => ?_)
  have hown : s.vm.findClass RX11 = some m.cls := hown
  have hl : lv_has ls 2 [(0, .ref a0), (1, .int x1)] := hl
  have b1_w := t_w.2.1
  have b2_w := t_w.2.2
  refine lv_aload_n hx hb dX11_parties_0 rfl (lv_at hl 0 rfl) ?_
  refine lv_iload_n hx hb dX11_parties_1 rfl (lv_at hl 1 rfl) ?_
  refine tk_i hH hS hA (tr_V (n := 1) (As := [.int x1]) hx hb hml hown hts hkb hH hOX hks hE hS hA (s_FW_isGuide l D cs kf T O X a0 w hw gw ch gq x1 t_a0 t_w t_ch (hO.sub (by decide))) kw_794 kw_796 ks_20 kw_1 kw_797 (by decide +kernel) ⟨Nat.le_of_ble_eq_true rfl, Nat.le_of_ble_eq_true rfl⟩ (HT.recv (ci := 11) hkb hH t_a0 (hO.no t_a0 (by decide)) rfl) rfl rfl hl.1 (Nat.le_of_ble_eq_true rfl) dX11_parties_2 ⟨Nat.le_of_ble_eq_true rfl, Nat.le_of_ble_eq_true rfl⟩) (fun v2 u H locs hz9 hH hS => ?_)
  obtain ⟨rfl, l_v2, u_v2, x_v20⟩ := hz9
  have hH : HT D cs A T O X H := hH
  refine W.widen (k := 0) (n := 0) (Nat.le_of_ble_eq_true rfl) (Nat.le_of_ble_eq_true rfl) ?_
  have J36 : ∀ (k36_0 : Int32) (H : Heap) (locs : List Loc) (ls : Array Slot), (-2 ≤ k36_0.toInt) → (k36_0.toInt ≤ 99) → HT D cs A T O X H → va_S A s.heap H locs → lv_has ls 2 [] → W p l e { frames := 6, cells := 0, slots := 0, locals := 156 } s m [.ref a0, .int x1].toArray below meth c H locs 0 0 (MQ below (Ti D cs (fun r u => u = (T, O, X) ∧ -2 ≤ r.toInt ∧ r.toInt ≤ 99) A) [.ref a0, .int x1].toArray s 0 0 A) (F0 m 36 ls [.int k36_0]) := by
    intro k36_0 H locs ls l_k36_0 u_k36_0 hH hS hl
    exact te_i hx hb hr hlocks hH hS (⟨rfl, by omega, by omega⟩) dX11_parties_36
  refine lv_if_eq (tgt := 34) hx hb dX11_parties_5 (by decide) (fun c5 => ?_) (fun c5 => ?_)
  · skip
    have tc5 := f_eq (k := 0) (by decide) c5
    refine lv_bipush (v := (-2)) hx hb dX11_parties_34 (by decide) ?_
    exact J36 (-2) _ _ _ (by decide) (by decide) hH hS (lv_sub hl [] rfl)
  · skip
    have tc5 := f_ne (k := 0) (by decide) c5
    refine lv_aload_n hx hb dX11_parties_8 rfl (lv_at hl 0 rfl) ?_
    refine t_get (ci := 11) (lst := ft11 w ch) (C := RX11) (F := TX11) (N := 20) hx hb hts uX11 hown hkb hH t_a0 (hO.no t_a0 (by decide)) (fun _ h9 => h9) rfl rfl 15 (by decide) rfl kw_375 (fun _ h9 => h9) dX11_parties_9 (fun v9 h9 => ?_)
    obtain ⟨v9, rfl, t_v9⟩ := h9
    refine lv_aload_n hx hb dX11_parties_12 rfl (lv_at hl 0 rfl) ?_
    refine lv_iload_n hx hb dX11_parties_13 rfl (lv_at hl 1 rfl) ?_
    refine tk_r hH hS hA (tr_V (n := 1) (As := [.int x1]) hx hb hml hown hts hkb hH hOX hks hE hS hA (s_FW_rowsOf l D cs kf T O X a0 w hw gw ch gq x1 t_a0 t_w t_ch (by omega) (by omega) (hO.sub (by decide))) kw_830 kw_832 ks_21 kw_1 kw_833 (by decide +kernel) ⟨Nat.le_of_ble_eq_true rfl, Nat.le_of_ble_eq_true rfl⟩ (HT.recv (ci := 11) hkb hH t_a0 (hO.no t_a0 (by decide)) rfl) rfl rfl hl.1 (Nat.le_of_ble_eq_true rfl) dX11_parties_14 ⟨Nat.le_of_ble_eq_true rfl, Nat.le_of_ble_eq_true rfl⟩) (fun v14 u H locs hz9 hH hS => ?_)
    obtain ⟨hu9, t_v14⟩ := hz9
    have hu9 : u = (T, O, X) := hu9
    subst hu9
    have hH : HT D cs A T O X H := hH
    refine W.widen (k := 0) (n := 0) (Nat.le_of_ble_eq_true rfl) (Nat.le_of_ble_eq_true rfl) ?_
    refine lv_aload_n hx hb dX11_parties_17 rfl (lv_at hl 0 rfl) ?_
    refine tk_i hH hS hA (tr_V (n := 0) (As := []) hx hb hml hown hts hkb hH hOX hks hE hS hA (s_FW_openNow l D cs kf T O X a0 w hw gw ch gq t_a0 t_w t_ch (hO.sub (by decide))) kw_846 kw_848 ks_22 kw_1 kw_849 (by decide +kernel) ⟨Nat.le_of_ble_eq_true rfl, Nat.le_of_ble_eq_true rfl⟩ (HT.recv (ci := 11) hkb hH t_a0 (hO.no t_a0 (by decide)) rfl) rfl rfl hl.1 (Nat.le_of_ble_eq_true rfl) dX11_parties_18 ⟨Nat.le_of_ble_eq_true rfl, Nat.le_of_ble_eq_true rfl⟩) (fun v18 u H locs hz9 hH hS => ?_)
    obtain ⟨rfl, l_v18, u_v18⟩ := hz9
    have hH : HT D cs A T O X H := hH
    refine W.widen (k := 0) (n := 0) (Nat.le_of_ble_eq_true rfl) (Nat.le_of_ble_eq_true rfl) ?_
    refine lv_aload_n hx hb dX11_parties_21 rfl (lv_at hl 0 rfl) ?_
    refine t_get (ci := 11) (lst := ft11 w ch) (C := RX11) (F := TX11) (N := 20) hx hb hts uX11 hown hkb hH t_a0 (hO.no t_a0 (by decide)) (fun _ h9 => h9) rfl rfl 3 (by decide) rfl kw_363 (fun _ h9 => h9) dX11_parties_22 (fun v9 h9 => ?_)
    have h9 : v9 = .ref w := h9
    subst h9
    refine tk_i hH hS hA (tr_V (n := 0) (As := []) hx hb hml hown hts hkb hH hOX hks hE hS hA (s_Wall_middles l D cs kf T O X w hw gw t_w (hO.sub (by decide))) kw_892 kw_683 kw_684 kw_5 kw_685 (by decide +kernel) ⟨Nat.le_of_ble_eq_true rfl, Nat.le_of_ble_eq_true rfl⟩ (HT.recv (ci := 9) hkb hH t_w.1 (hO.no t_w.1 (by decide)) rfl) rfl rfl hl.1 (Nat.le_of_ble_eq_true rfl) dX11_parties_25 ⟨Nat.le_of_ble_eq_true rfl, Nat.le_of_ble_eq_true rfl⟩) (fun v25 u H locs hz9 hH hS => ?_)
    obtain ⟨rfl, l_v25, u_v25⟩ := hz9
    have hH : HT D cs A T O X H := hH
    refine W.widen (k := 0) (n := 0) (Nat.le_of_ble_eq_true rfl) (Nat.le_of_ble_eq_true rfl) ?_
    refine tk_i hH hS hA (tr_V (n := 3) (As := [.ref v14, .int v18, .int v25]) hx hb hml hown hts hkb hH hOX hks hE hS hA (s_Cut_fewest l D cs kf T O X v9 v14 v18 v25 t_v9 t_v14 (hO.sub (by decide))) kw_1014 kw_1015 kw_1016 kw_10 kw_1017 (by decide +kernel) ⟨Nat.le_of_ble_eq_true rfl, Nat.le_of_ble_eq_true rfl⟩ (HT.recv (ci := 1) hkb hH t_v9 (hO.no t_v9 (by decide)) rfl) rfl rfl hl.1 (Nat.le_of_ble_eq_true rfl) dX11_parties_28 ⟨Nat.le_of_ble_eq_true rfl, Nat.le_of_ble_eq_true rfl⟩) (fun v28 u H locs hz9 hH hS => ?_)
    obtain ⟨rfl, l_v28, u_v28⟩ := hz9
    have hH : HT D cs A T O X H := hH
    refine W.widen (k := 0) (n := 0) (Nat.le_of_ble_eq_true rfl) (Nat.le_of_ble_eq_true rfl) ?_
    refine lv_goto (tgt := 36) hx hb dX11_parties_31 (by decide) ?_
    exact J36 v28 _ _ _ (by omega) (by omega) hH hS (lv_sub hl [] rfl)
set_option maxHeartbeats 4000000 in
set_option maxRecDepth 100000 in
theorem s_FW_shut (l : Launch) (D : va_G) (cs : CS) (kf : KF) (T : TF) (O : List Nat) (X : va_W) (a0 w hw gw ch gq : Nat) (x1 : Int32) (x2 : Int32) (t_a0 : T a0 = some (21, w, ch)) (t_w : isW T w hw gw) (t_ch : T ch = some (10, gq, 0)) (hO : okO T O [1, 7, 11, 12, 15, 16, 19, 21]) : TK l D cs kf yX11_shut cX11_shut 4 (some (.int)) { frames := 7, cells := 0, slots := 0, locals := 182 } [.ref a0, .int x1, .int x2] T O X (Ti D cs (fun r u => u = (T, O, X) ∧ -2 ≤ r.toInt ∧ r.toInt ≤ 16383)) := by
  refine tk_of (by decide) (Nat.le_of_ble_eq_true rfl) (fun p e s m below meth c ls A H locs hx hb hr hml hown hts hlocks hnm hkb hH hS hA hOX hks hE hl => ?_)
  have hown : s.vm.findClass RX11 = some m.cls := hown
  have hl : lv_has ls 4 [(0, .ref a0), (1, .int x1), (2, .int x2)] := hl
  have b1_w := t_w.2.1
  have b2_w := t_w.2.2
  refine lv_aload_n hx hb dX11_shut_0 rfl (lv_at hl 0 rfl) ?_
  refine lv_iload_n hx hb dX11_shut_1 rfl (lv_at hl 1 rfl) ?_
  refine tk_i hH hS hA (tr_V (n := 1) (As := [.int x1]) hx hb hml hown hts hkb hH hOX hks hE hS hA (s_FW_isGuide l D cs kf T O X a0 w hw gw ch gq x1 t_a0 t_w t_ch (hO.sub (by decide))) kw_794 kw_796 ks_20 kw_1 kw_797 (by decide +kernel) ⟨Nat.le_of_ble_eq_true rfl, Nat.le_of_ble_eq_true rfl⟩ (HT.recv (ci := 11) hkb hH t_a0 (hO.no t_a0 (by decide)) rfl) rfl rfl hl.1 (Nat.le_of_ble_eq_true rfl) dX11_shut_2 ⟨Nat.le_of_ble_eq_true rfl, Nat.le_of_ble_eq_true rfl⟩) (fun v2 u H locs hz9 hH hS => ?_)
  obtain ⟨rfl, l_v2, u_v2, x_v20⟩ := hz9
  have hH : HT D cs A T O X H := hH
  refine W.widen (k := 0) (n := 0) (Nat.le_of_ble_eq_true rfl) (Nat.le_of_ble_eq_true rfl) ?_
  have J17 : ∀  (H : Heap) (locs : List Loc) (ls : Array Slot), HT D cs A T O X H → va_S A s.heap H locs → lv_has ls 4 [] → W p l e { frames := 7, cells := 0, slots := 0, locals := 182 } s m [.ref a0, .int x1, .int x2].toArray below meth c H locs 0 0 (MQ below (Ti D cs (fun r u => u = (T, O, X) ∧ -2 ≤ r.toInt ∧ r.toInt ≤ 16383) A) [.ref a0, .int x1, .int x2].toArray s 0 0 A) (F0 m 17 ls []) := by
    intro  H locs ls  hH hS hl
    refine lv_bipush (v := (-2)) hx hb dX11_shut_17 (by decide) ?_
    exact te_i hx hb hr hlocks hH hS (⟨rfl, by decide, by decide⟩) dX11_shut_19
  refine lv_if_eq (tgt := 17) hx hb dX11_shut_5 (by decide) (fun c5 => ?_) (fun c5 => ?_)
  · skip
    have tc5 := f_eq (k := 0) (by decide) c5
    exact J17  _ _ _  hH hS (lv_sub hl [] rfl)
  · skip
    have tc5 := f_ne (k := 0) (by decide) c5
    refine lv_iload_n hx hb dX11_shut_8 rfl (lv_at hl 2 rfl) ?_
    refine lv_if_lt (tgt := 17) hx hb dX11_shut_9 (by decide) (fun c9 => ?_) (fun c9 => ?_)
    · skip
      have tc9 := f_lt (k := 0) (by decide) c9
      exact J17  _ _ _  hH hS (lv_sub hl [] rfl)
    · skip
      have tc9 := f_nlt (k := 0) (by decide) c9
      refine lv_iload_n hx hb dX11_shut_12 rfl (lv_at hl 2 rfl) ?_
      refine lv_iconst (v := 1) hx hb dX11_shut_13 (by decide) ?_
      refine lv_icmp_le (tgt := 20) hx hb dX11_shut_14 (by decide) (fun c14 => ?_) (fun c14 => ?_)
      · skip
        have tc14 := f_le (k := 1) (by decide) c14
        refine lv_aload_n hx hb dX11_shut_20 rfl (lv_at hl 0 rfl) ?_
        refine t_get (ci := 11) (lst := ft11 w ch) (C := RX11) (F := TX11) (N := 20) hx hb hts uX11 hown hkb hH t_a0 (hO.no t_a0 (by decide)) (fun _ h9 => h9) rfl rfl 15 (by decide) rfl kw_375 (fun _ h9 => h9) dX11_shut_21 (fun v9 h9 => ?_)
        obtain ⟨v21, rfl, t_v21⟩ := h9
        refine lv_aload_n hx hb dX11_shut_24 rfl (lv_at hl 0 rfl) ?_
        refine lv_iload_n hx hb dX11_shut_25 rfl (lv_at hl 1 rfl) ?_
        refine tk_r hH hS hA (tr_V (n := 1) (As := [.int x1]) hx hb hml hown hts hkb hH hOX hks hE hS hA (s_FW_rowsOf l D cs kf T O X a0 w hw gw ch gq x1 t_a0 t_w t_ch (by omega) (by omega) (hO.sub (by decide))) kw_830 kw_832 ks_21 kw_1 kw_833 (by decide +kernel) ⟨Nat.le_of_ble_eq_true rfl, Nat.le_of_ble_eq_true rfl⟩ (HT.recv (ci := 11) hkb hH t_a0 (hO.no t_a0 (by decide)) rfl) rfl rfl hl.1 (Nat.le_of_ble_eq_true rfl) dX11_shut_26 ⟨Nat.le_of_ble_eq_true rfl, Nat.le_of_ble_eq_true rfl⟩) (fun v26 u H locs hz9 hH hS => ?_)
        obtain ⟨hu9, t_v26⟩ := hz9
        have hu9 : u = (T, O, X) := hu9
        subst hu9
        have hH : HT D cs A T O X H := hH
        refine W.widen (k := 0) (n := 0) (Nat.le_of_ble_eq_true rfl) (Nat.le_of_ble_eq_true rfl) ?_
        refine lv_aload_n hx hb dX11_shut_29 rfl (lv_at hl 0 rfl) ?_
        refine tk_i hH hS hA (tr_V (n := 0) (As := []) hx hb hml hown hts hkb hH hOX hks hE hS hA (s_FW_openNow l D cs kf T O X a0 w hw gw ch gq t_a0 t_w t_ch (hO.sub (by decide))) kw_846 kw_848 ks_22 kw_1 kw_849 (by decide +kernel) ⟨Nat.le_of_ble_eq_true rfl, Nat.le_of_ble_eq_true rfl⟩ (HT.recv (ci := 11) hkb hH t_a0 (hO.no t_a0 (by decide)) rfl) rfl rfl hl.1 (Nat.le_of_ble_eq_true rfl) dX11_shut_30 ⟨Nat.le_of_ble_eq_true rfl, Nat.le_of_ble_eq_true rfl⟩) (fun v30 u H locs hz9 hH hS => ?_)
        obtain ⟨rfl, l_v30, u_v30⟩ := hz9
        have hH : HT D cs A T O X H := hH
        refine W.widen (k := 0) (n := 0) (Nat.le_of_ble_eq_true rfl) (Nat.le_of_ble_eq_true rfl) ?_
        refine tk_i hH hS hA (tr_V (n := 2) (As := [.ref v26, .int v30]) hx hb hml hown hts hkb hH hOX hks hE hS hA (s_Cut_leastSet l D cs kf T O X v21 v26 v30 t_v21 t_v26 (hO.sub (by decide))) kw_1044 kw_1045 kw_1046 kw_10 kw_1047 (by decide +kernel) ⟨Nat.le_of_ble_eq_true rfl, Nat.le_of_ble_eq_true rfl⟩ (HT.recv (ci := 1) hkb hH t_v21 (hO.no t_v21 (by decide)) rfl) rfl rfl hl.1 (Nat.le_of_ble_eq_true rfl) dX11_shut_33 ⟨Nat.le_of_ble_eq_true rfl, Nat.le_of_ble_eq_true rfl⟩) (fun v33 u H locs hz9 hH hS => ?_)
        obtain ⟨rfl, l_v33, u_v33⟩ := hz9
        have hH : HT D cs A T O X H := hH
        refine W.widen (k := 0) (n := 0) (Nat.le_of_ble_eq_true rfl) (Nat.le_of_ble_eq_true rfl) ?_
        refine lv_istore_n (lv' := [(3, .int v33), (0, .ref a0), (1, .int x1), (2, .int x2)]) hx hb dX11_shut_36 rfl hl (by decide) rfl (fun ls hl => ?_)
        refine lv_iload_n hx hb dX11_shut_37 rfl (lv_at hl 0 rfl) ?_
        refine lv_iconst (v := (-1)) hx hb dX11_shut_38 (by decide) ?_
        have J55 : ∀ (k55_0 : Int32) (H : Heap) (locs : List Loc) (ls : Array Slot), (-1 ≤ k55_0.toInt) → (k55_0.toInt ≤ 16383) → HT D cs A T O X H → va_S A s.heap H locs → lv_has ls 4 [] → W p l e { frames := 7, cells := 0, slots := 0, locals := 182 } s m [.ref a0, .int x1, .int x2].toArray below meth c H locs 0 0 (MQ below (Ti D cs (fun r u => u = (T, O, X) ∧ -2 ≤ r.toInt ∧ r.toInt ≤ 16383) A) [.ref a0, .int x1, .int x2].toArray s 0 0 A) (F0 m 55 ls [.int k55_0]) := by
          intro k55_0 H locs ls l_k55_0 u_k55_0 hH hS hl
          exact te_i hx hb hr hlocks hH hS (⟨rfl, by omega, by omega⟩) dX11_shut_55
        have J47 : ∀  (H : Heap) (locs : List Loc) (ls : Array Slot), HT D cs A T O X H → va_S A s.heap H locs → lv_has ls 4 [(3, .int v33)] → W p l e { frames := 7, cells := 0, slots := 0, locals := 182 } s m [.ref a0, .int x1, .int x2].toArray below meth c H locs 0 0 (MQ below (Ti D cs (fun r u => u = (T, O, X) ∧ -2 ≤ r.toInt ∧ r.toInt ≤ 16383) A) [.ref a0, .int x1, .int x2].toArray s 0 0 A) (F0 m 47 ls []) := by
          intro  H locs ls  hH hS hl
          refine lv_iload_n hx hb dX11_shut_47 rfl (lv_at hl 0 rfl) ?_
          refine lv_goto (tgt := 55) hx hb dX11_shut_48 (by decide) ?_
          exact J55 v33 _ _ _ (by omega) (by omega) hH hS (lv_sub hl [] rfl)
        refine lv_icmp_eq (tgt := 47) hx hb dX11_shut_39 (by decide) (fun c39 => ?_) (fun c39 => ?_)
        · skip
          have tc39 := f_eq (k := -1) (by decide) c39
          exact J47  _ _ _  hH hS (lv_sub hl [0] rfl)
        · skip
          have tc39 := f_ne (k := -1) (by decide) c39
          refine lv_iload_n hx hb dX11_shut_42 rfl (lv_at hl 3 rfl) ?_
          refine lv_iconst (v := 1) hx hb dX11_shut_43 (by decide) ?_
          refine lv_icmp_ne (tgt := 51) hx hb dX11_shut_44 (by decide) (fun c44 => ?_) (fun c44 => ?_)
          · skip
            have tc44 := f_ne (k := 1) (by decide) c44
            refine lv_iload_n hx hb dX11_shut_51 rfl (lv_at hl 0 rfl) ?_
            refine tk_i hH hS hA (tr_S (n := 1) (As := [.int v33]) hx hb hml hown hts hkb hH hOX hks hE hS hA (s_bitCount l D cs kf T O X v33  (hO.sub (by decide))) kw_893 kw_692 kw_20 kw_693 (by decide +kernel) ⟨Nat.le_of_ble_eq_true rfl, Nat.le_of_ble_eq_true rfl⟩ rfl rfl hl.1 (Nat.le_of_ble_eq_true rfl) dX11_shut_52 ⟨Nat.le_of_ble_eq_true rfl, Nat.le_of_ble_eq_true rfl⟩) (fun v52 u H locs hz9 hH hS => ?_)
            obtain ⟨rfl, l_v52, u_v52⟩ := hz9
            have hH : HT D cs A T O X H := hH
            refine W.widen (k := 0) (n := 0) (Nat.le_of_ble_eq_true rfl) (Nat.le_of_ble_eq_true rfl) ?_
            exact J55 v52 _ _ _ (by omega) (by omega) hH hS (lv_sub hl [] rfl)
          · skip
            have tc44 := f_eq (k := 1) (by decide) c44
            exact J47  _ _ _  hH hS (lv_sub hl [0] rfl)
      · skip
        have tc14 := f_nle (k := 1) (by decide) c14
        exact J17  _ _ _  hH hS (lv_sub hl [] rfl)
set_option maxHeartbeats 4000000 in
set_option maxRecDepth 100000 in
theorem s_FW_needs (l : Launch) (D : va_G) (cs : CS) (kf : KF) (T : TF) (O : List Nat) (X : va_W) (a0 w hw gw ch gq : Nat) (x1 : Int32) (x2 : Int32) (t_a0 : T a0 = some (21, w, ch)) (t_w : isW T w hw gw) (t_ch : T ch = some (10, gq, 0)) (l_x1 : 0 ≤ x1.toInt) (u_x1 : x1.toInt < gw) (hO : okO T O [1, 7, 12, 15, 16, 19, 21]) : TK l D cs kf yX11_needs cX11_needs 5 (some (.boolean)) { frames := 6, cells := 0, slots := 0, locals := 150 } [.ref a0, .int x1, .int x2] T O X (Ti D cs (fun r u => u = (T, O, X) ∧ 0 ≤ r.toInt ∧ r.toInt ≤ 1)) := by
  refine tk_of (by decide) (Nat.le_of_ble_eq_true rfl) (fun p e s m below meth c ls A H locs hx hb hr hml hown hts hlocks hnm hkb hH hS hA hOX hks hE hl => ?_)
  have hown : s.vm.findClass RX11 = some m.cls := hown
  have hl : lv_has ls 5 [(0, .ref a0), (1, .int x1), (2, .int x2)] := hl
  have b1_w := t_w.2.1
  have b2_w := t_w.2.2
  refine lv_aload_n hx hb dX11_needs_0 rfl (lv_at hl 0 rfl) ?_
  refine tk_i hH hS hA (tr_V (n := 0) (As := []) hx hb hml hown hts hkb hH hOX hks hE hS hA (s_FW_openNow l D cs kf T O X a0 w hw gw ch gq t_a0 t_w t_ch (hO.sub (by decide))) kw_846 kw_848 ks_22 kw_1 kw_849 (by decide +kernel) ⟨Nat.le_of_ble_eq_true rfl, Nat.le_of_ble_eq_true rfl⟩ (HT.recv (ci := 11) hkb hH t_a0 (hO.no t_a0 (by decide)) rfl) rfl rfl hl.1 (Nat.le_of_ble_eq_true rfl) dX11_needs_1 ⟨Nat.le_of_ble_eq_true rfl, Nat.le_of_ble_eq_true rfl⟩) (fun v1 u H locs hz9 hH hS => ?_)
  obtain ⟨rfl, l_v1, u_v1⟩ := hz9
  have hH : HT D cs A T O X H := hH
  refine W.widen (k := 0) (n := 0) (Nat.le_of_ble_eq_true rfl) (Nat.le_of_ble_eq_true rfl) ?_
  refine lv_istore_n (lv' := [(3, .int v1), (0, .ref a0), (1, .int x1), (2, .int x2)]) hx hb dX11_needs_4 rfl hl (by decide) rfl (fun ls hl => ?_)
  refine lv_iload_n hx hb dX11_needs_5 rfl (lv_at hl 0 rfl) ?_
  refine lv_aload_n hx hb dX11_needs_6 rfl (lv_at hl 1 rfl) ?_
  refine t_get (ci := 11) (lst := ft11 w ch) (C := RX11) (F := TX11) (N := 20) hx hb hts uX11 hown hkb hH t_a0 (hO.no t_a0 (by decide)) (fun _ h9 => h9) rfl rfl 3 (by decide) rfl kw_363 (fun _ h9 => h9) dX11_needs_7 (fun v9 h9 => ?_)
  have h9 : v9 = .ref w := h9
  subst h9
  refine tk_i hH hS hA (tr_V (n := 0) (As := []) hx hb hml hown hts hkb hH hOX hks hE hS hA (s_Wall_middles l D cs kf T O X w hw gw t_w (hO.sub (by decide))) kw_892 kw_683 kw_684 kw_5 kw_685 (by decide +kernel) ⟨Nat.le_of_ble_eq_true rfl, Nat.le_of_ble_eq_true rfl⟩ (HT.recv (ci := 9) hkb hH t_w.1 (hO.no t_w.1 (by decide)) rfl) rfl rfl hl.1 (Nat.le_of_ble_eq_true rfl) dX11_needs_10 ⟨Nat.le_of_ble_eq_true rfl, Nat.le_of_ble_eq_true rfl⟩) (fun v10 u H locs hz9 hH hS => ?_)
  obtain ⟨rfl, l_v10, u_v10⟩ := hz9
  have hH : HT D cs A T O X H := hH
  refine W.widen (k := 0) (n := 0) (Nat.le_of_ble_eq_true rfl) (Nat.le_of_ble_eq_true rfl) ?_
  refine lv_iand hx hb dX11_needs_13 ?_
  refine lv_topi (fun v13 ev13 => ?_)
  have tv13 : 0 ≤ v13.toInt ∧ v13.toInt ≤ v1.toInt := by rw [ev13]; exact and_l (by omega)
  have ttv13 : 0 ≤ v13.toInt ∧ v13.toInt ≤ v10.toInt := by rw [ev13]; exact and_r (by omega)
  refine lv_iload_n hx hb dX11_needs_14 rfl (lv_at hl 3 rfl) ?_
  refine lv_ishr hx hb dX11_needs_15 ?_
  refine lv_topi (fun v15 ev15 => ?_)
  have tv15 : 0 ≤ v15.toInt ∧ v15.toInt ≤ v13.toInt := by rw [ev15]; exact shr_b (by omega)
  refine lv_iconst (v := 1) hx hb dX11_needs_16 (by decide) ?_
  refine lv_iand hx hb dX11_needs_17 ?_
  refine lv_topi (fun v17 ev17 => ?_)
  have tv17 : 0 ≤ v17.toInt ∧ v17.toInt ≤ 1 := by rw [ev17]; exact and_r (by decide)
  refine lv_if_ne (tgt := 23) hx hb dX11_needs_18 (by decide) (fun c18 => ?_) (fun c18 => ?_)
  · skip
    have tc18 := f_ne (k := 0) (by decide) c18
    refine lv_aload_n hx hb dX11_needs_23 rfl (lv_at hl 1 rfl) ?_
    refine lv_iload_n hx hb dX11_needs_24 rfl (lv_at hl 2 rfl) ?_
    refine tk_r hH hS hA (tr_V (n := 1) (As := [.int x1]) hx hb hml hown hts hkb hH hOX hks hE hS hA (s_FW_rowsOf l D cs kf T O X a0 w hw gw ch gq x1 t_a0 t_w t_ch (by omega) (by omega) (hO.sub (by decide))) kw_830 kw_832 ks_21 kw_1 kw_833 (by decide +kernel) ⟨Nat.le_of_ble_eq_true rfl, Nat.le_of_ble_eq_true rfl⟩ (HT.recv (ci := 11) hkb hH t_a0 (hO.no t_a0 (by decide)) rfl) rfl rfl hl.1 (Nat.le_of_ble_eq_true rfl) dX11_needs_25 ⟨Nat.le_of_ble_eq_true rfl, Nat.le_of_ble_eq_true rfl⟩) (fun v25 u H locs hz9 hH hS => ?_)
    obtain ⟨hu9, t_v25⟩ := hz9
    have hu9 : u = (T, O, X) := hu9
    subst hu9
    have hH : HT D cs A T O X H := hH
    refine W.widen (k := 0) (n := 0) (Nat.le_of_ble_eq_true rfl) (Nat.le_of_ble_eq_true rfl) ?_
    refine lv_astore (lv' := [(4, .ref v25), (3, .int v1), (0, .ref a0), (1, .int x1), (2, .int x2)]) hx hb dX11_needs_28 hl (by decide) rfl (fun ls hl => ?_)
    refine lv_aload hx hb dX11_needs_30 (lv_at hl 0 rfl) ?_
    refine lv_iload_n hx hb dX11_needs_32 rfl (lv_at hl 1 rfl) ?_
    refine tk_i hH hS hA (tr_V (n := 1) (As := [.int v1]) hx hb hml hown hts hkb hH hOX hks hE hS hA (s_Rows_getsUp l D cs kf T O X v25 v1 t_v25 (hO.sub (by decide))) kw_1059 kw_1060 kw_1061 kw_8 kw_1062 (by decide +kernel) ⟨Nat.le_of_ble_eq_true rfl, Nat.le_of_ble_eq_true rfl⟩ (HT.recv (ci := 5) hkb hH t_v25 (hO.no t_v25 (by decide)) rfl) rfl rfl hl.1 (Nat.le_of_ble_eq_true rfl) dX11_needs_33 ⟨Nat.le_of_ble_eq_true rfl, Nat.le_of_ble_eq_true rfl⟩) (fun v33 u H locs hz9 hH hS => ?_)
    obtain ⟨rfl, l_v33, u_v33⟩ := hz9
    have hH : HT D cs A T O X H := hH
    refine W.widen (k := 0) (n := 0) (Nat.le_of_ble_eq_true rfl) (Nat.le_of_ble_eq_true rfl) ?_
    have J59 : ∀ (k59_0 : Int32) (H : Heap) (locs : List Loc) (ls : Array Slot), (0 ≤ k59_0.toInt) → (k59_0.toInt ≤ 1) → HT D cs A T O X H → va_S A s.heap H locs → lv_has ls 5 [] → W p l e { frames := 6, cells := 0, slots := 0, locals := 150 } s m [.ref a0, .int x1, .int x2].toArray below meth c H locs 0 0 (MQ below (Ti D cs (fun r u => u = (T, O, X) ∧ 0 ≤ r.toInt ∧ r.toInt ≤ 1) A) [.ref a0, .int x1, .int x2].toArray s 0 0 A) (F0 m 59 ls [.int k59_0]) := by
      intro k59_0 H locs ls l_k59_0 u_k59_0 hH hS hl
      exact te_z hx hb hr hlocks (nar01 (by omega) (by omega)) hH hS (⟨rfl, by omega, by omega⟩) dX11_needs_59
    have J58 : ∀  (H : Heap) (locs : List Loc) (ls : Array Slot), HT D cs A T O X H → va_S A s.heap H locs → lv_has ls 5 [] → W p l e { frames := 6, cells := 0, slots := 0, locals := 150 } s m [.ref a0, .int x1, .int x2].toArray below meth c H locs 0 0 (MQ below (Ti D cs (fun r u => u = (T, O, X) ∧ 0 ≤ r.toInt ∧ r.toInt ≤ 1) A) [.ref a0, .int x1, .int x2].toArray s 0 0 A) (F0 m 58 ls []) := by
      intro  H locs ls  hH hS hl
      refine lv_iconst (v := 0) hx hb dX11_needs_58 (by decide) ?_
      exact J59 0 _ _ _ (by decide) (by decide) hH hS (lv_sub hl [] rfl)
    refine lv_if_eq (tgt := 58) hx hb dX11_needs_36 (by decide) (fun c36 => ?_) (fun c36 => ?_)
    · skip
      have tc36 := f_eq (k := 0) (by decide) c36
      exact J58  _ _ _  hH hS (lv_sub hl [] rfl)
    · skip
      have tc36 := f_ne (k := 0) (by decide) c36
      refine lv_aload hx hb dX11_needs_39 (lv_at hl 0 rfl) ?_
      refine lv_iload_n hx hb dX11_needs_41 rfl (lv_at hl 1 rfl) ?_
      refine lv_iconst (v := 1) hx hb dX11_needs_42 (by decide) ?_
      refine lv_iload_n hx hb dX11_needs_43 rfl (lv_at hl 4 rfl) ?_
      refine lv_ishl hx hb dX11_needs_44 ?_
      refine lv_topi (fun v44 ev44 => ?_)
      refine lv_iconst (v := (-1)) hx hb dX11_needs_45 (by decide) ?_
      refine lv_ixor hx hb dX11_needs_46 ?_
      refine lv_topi (fun v46 ev46 => ?_)
      refine lv_iand hx hb dX11_needs_47 ?_
      refine lv_topi (fun v47 ev47 => ?_)
      have tv47 : 0 ≤ v47.toInt ∧ v47.toInt ≤ v1.toInt := by rw [ev47]; exact and_l (by omega)
      refine tk_i hH hS hA (tr_V (n := 1) (As := [.int v47]) hx hb hml hown hts hkb hH hOX hks hE hS hA (s_Rows_getsUp l D cs kf T O X v25 v47 t_v25 (hO.sub (by decide))) kw_1059 kw_1060 kw_1061 kw_8 kw_1062 (by decide +kernel) ⟨Nat.le_of_ble_eq_true rfl, Nat.le_of_ble_eq_true rfl⟩ (HT.recv (ci := 5) hkb hH t_v25 (hO.no t_v25 (by decide)) rfl) rfl rfl hl.1 (Nat.le_of_ble_eq_true rfl) dX11_needs_48 ⟨Nat.le_of_ble_eq_true rfl, Nat.le_of_ble_eq_true rfl⟩) (fun v48 u H locs hz9 hH hS => ?_)
      obtain ⟨rfl, l_v48, u_v48⟩ := hz9
      have hH : HT D cs A T O X H := hH
      refine W.widen (k := 0) (n := 0) (Nat.le_of_ble_eq_true rfl) (Nat.le_of_ble_eq_true rfl) ?_
      refine lv_if_ne (tgt := 58) hx hb dX11_needs_51 (by decide) (fun c51 => ?_) (fun c51 => ?_)
      · skip
        have tc51 := f_ne (k := 0) (by decide) c51
        exact J58  _ _ _  hH hS (lv_sub hl [] rfl)
      · skip
        have tc51 := f_eq (k := 0) (by decide) c51
        refine lv_iconst (v := 1) hx hb dX11_needs_54 (by decide) ?_
        refine lv_goto (tgt := 59) hx hb dX11_needs_55 (by decide) ?_
        exact J59 1 _ _ _ (by decide) (by decide) hH hS (lv_sub hl [] rfl)
  · skip
    have tc18 := f_eq (k := 0) (by decide) c18
    refine lv_iconst (v := 0) hx hb dX11_needs_21 (by decide) ?_
    exact te_z hx hb hr hlocks (by rfl) hH hS (⟨rfl, by decide, by decide⟩) dX11_needs_22
set_option maxHeartbeats 4000000 in
set_option maxRecDepth 100000 in
theorem s_FW_needed (l : Launch) (D : va_G) (cs : CS) (kf : KF) (T : TF) (O : List Nat) (X : va_W) (a0 w hw gw ch gq : Nat) (x1 : Int32) (t_a0 : T a0 = some (21, w, ch)) (t_w : isW T w hw gw) (t_ch : T ch = some (10, gq, 0)) (hO : okO T O [1, 7, 12, 15, 16, 19, 21]) : TK l D cs kf yX11_needed cX11_needed 4 (some (.int)) { frames := 7, cells := 0, slots := 0, locals := 174 } [.ref a0, .int x1] T O X (Ti D cs (fun r u => u = (T, O, X) ∧ -2 ≤ r.toInt ∧ r.toInt ≤ 16383)) := by
  refine tk_of (by decide) (Nat.le_of_ble_eq_true rfl) (fun p e s m below meth c ls A H locs hx hb hr hml hown hts hlocks hnm hkb hH hS hA hOX hks hE hl => ?_)
  have hown : s.vm.findClass RX11 = some m.cls := hown
  have hl : lv_has ls 4 [(0, .ref a0), (1, .int x1)] := hl
  have b1_w := t_w.2.1
  have b2_w := t_w.2.2
  refine lv_aload_n hx hb dX11_needed_0 rfl (lv_at hl 0 rfl) ?_
  refine lv_iload_n hx hb dX11_needed_1 rfl (lv_at hl 1 rfl) ?_
  refine tk_i hH hS hA (tr_V (n := 1) (As := [.int x1]) hx hb hml hown hts hkb hH hOX hks hE hS hA (s_FW_isGuide l D cs kf T O X a0 w hw gw ch gq x1 t_a0 t_w t_ch (hO.sub (by decide))) kw_794 kw_796 ks_20 kw_1 kw_797 (by decide +kernel) ⟨Nat.le_of_ble_eq_true rfl, Nat.le_of_ble_eq_true rfl⟩ (HT.recv (ci := 11) hkb hH t_a0 (hO.no t_a0 (by decide)) rfl) rfl rfl hl.1 (Nat.le_of_ble_eq_true rfl) dX11_needed_2 ⟨Nat.le_of_ble_eq_true rfl, Nat.le_of_ble_eq_true rfl⟩) (fun v2 u H locs hz9 hH hS => ?_)
  obtain ⟨rfl, l_v2, u_v2, x_v20⟩ := hz9
  have hH : HT D cs A T O X H := hH
  refine W.widen (k := 0) (n := 0) (Nat.le_of_ble_eq_true rfl) (Nat.le_of_ble_eq_true rfl) ?_
  refine lv_if_ne (tgt := 11) hx hb dX11_needed_5 (by decide) (fun c5 => ?_) (fun c5 => ?_)
  · skip
    have tc5 := f_ne (k := 0) (by decide) c5
    refine lv_iconst (v := 0) hx hb dX11_needed_11 (by decide) ?_
    refine lv_istore_n (lv' := [(2, .int 0), (0, .ref a0), (1, .int x1)]) hx hb dX11_needed_12 rfl hl (by decide) rfl (fun ls hl => ?_)
    refine lv_iconst (v := 0) hx hb dX11_needed_13 (by decide) ?_
    have J15 : ∀ (n : Nat) (p15_3 : Int32) (p15_2 : Int32) (H : Heap) (locs : List Loc) (ls : Array Slot), (14 - p15_3.toInt).toNat = n → (0 ≤ p15_3.toInt) → (p15_3.toInt ≤ 14) → (0 ≤ p15_2.toInt) → (p15_2.toInt ≤ 16383) → HT D cs A T O X H → va_S A s.heap H locs → lv_has ls 4 [(3, .int p15_3), (2, .int p15_2), (0, .ref a0), (1, .int x1)] → W p l e { frames := 7, cells := 0, slots := 0, locals := 174 } s m [.ref a0, .int x1].toArray below meth c H locs 0 0 (MQ below (Ti D cs (fun r u => u = (T, O, X) ∧ -2 ≤ r.toInt ∧ r.toInt ≤ 16383) A) [.ref a0, .int x1].toArray s 0 0 A) (F0 m 15 ls []) := by
      intro n
      induction n using Nat.strongRecOn with
      | _ n ih15 =>
        intro p15_3 p15_2 H locs ls hm15 l_p15_3 u_p15_3 l_p15_2 u_p15_2 hH hS hl
        refine lv_iload_n hx hb dX11_needed_15 rfl (lv_at hl 0 rfl) ?_
        refine lv_aload_n hx hb dX11_needed_16 rfl (lv_at hl 2 rfl) ?_
        refine t_get (ci := 11) (lst := ft11 w ch) (C := RX11) (F := TX11) (N := 20) hx hb hts uX11 hown hkb hH t_a0 (hO.no t_a0 (by decide)) (fun _ h9 => h9) rfl rfl 3 (by decide) rfl kw_363 (fun _ h9 => h9) dX11_needed_17 (fun v9 h9 => ?_)
        have h9 : v9 = .ref w := h9
        subst h9
        refine t_get (ci := 9) (lst := ft9w hw gw) (C := RX9) (F := TX9) (N := 14) hx hb hts uX9 hown hkb hH t_w.1 (hO.no t_w.1 (by decide)) (fun fs => (ob9w t_w fs).mp) rfl rfl 0 (by decide) rfl kw_109 (fun _ h9 => h9) dX11_needed_20 (fun v9 h9 => ?_)
        have h9 : v9 = .int (nI hw) := h9
        subst h9
        have e_hw : (nI hw).toInt = hw := nI_toInt (by have := t_w.2.1; omega)
        have b_hw := t_w.2.1
        refine lv_icmp_ge (tgt := 47) hx hb dX11_needed_23 (by decide) (fun c23 => ?_) (fun c23 => ?_)
        · skip
          have fuc23 := full_i p15_3
          have fvc23 := full_i (nI hw)
          have tc23 := g_le c23
          refine lv_iload_n hx hb dX11_needed_47 rfl (lv_at hl 1 rfl) ?_
          exact te_i hx hb hr hlocks hH hS (⟨rfl, by omega, by omega⟩) dX11_needed_48
        · skip
          have fuc23 := full_i p15_3
          have fvc23 := full_i (nI hw)
          have tc23 := g_nle c23
          refine lv_aload_n hx hb dX11_needed_26 rfl (lv_at hl 2 rfl) ?_
          refine lv_iload_n hx hb dX11_needed_27 rfl (lv_at hl 3 rfl) ?_
          refine lv_iload_n hx hb dX11_needed_28 rfl (lv_at hl 0 rfl) ?_
          refine tk_i hH hS hA (tr_V (n := 2) (As := [.int x1, .int p15_3]) hx hb hml hown hts hkb hH hOX hks hE hS hA (s_FW_needs l D cs kf T O X a0 w hw gw ch gq x1 p15_3 t_a0 t_w t_ch (by omega) (by omega) (hO.sub (by decide))) kw_1055 kw_1057 ks_37 kw_1 kw_1058 (by decide +kernel) ⟨Nat.le_of_ble_eq_true rfl, Nat.le_of_ble_eq_true rfl⟩ (HT.recv (ci := 11) hkb hH t_a0 (hO.no t_a0 (by decide)) rfl) rfl rfl hl.1 (Nat.le_of_ble_eq_true rfl) dX11_needed_29 ⟨Nat.le_of_ble_eq_true rfl, Nat.le_of_ble_eq_true rfl⟩) (fun v29 u H locs hz9 hH hS => ?_)
          obtain ⟨rfl, l_v29, u_v29⟩ := hz9
          have hH : HT D cs A T O X H := hH
          refine W.widen (k := 0) (n := 0) (Nat.le_of_ble_eq_true rfl) (Nat.le_of_ble_eq_true rfl) ?_
          have J41 : ∀ (p41_2 : Int32) (H : Heap) (locs : List Loc) (ls : Array Slot), (0 ≤ p41_2.toInt) → (p41_2.toInt ≤ 16383) → HT D cs A T O X H → va_S A s.heap H locs → lv_has ls 4 [(3, .int p15_3), (2, .int p41_2), (0, .ref a0), (1, .int x1)] → W p l e { frames := 7, cells := 0, slots := 0, locals := 174 } s m [.ref a0, .int x1].toArray below meth c H locs 0 0 (MQ below (Ti D cs (fun r u => u = (T, O, X) ∧ -2 ≤ r.toInt ∧ r.toInt ≤ 16383) A) [.ref a0, .int x1].toArray s 0 0 A) (F0 m 41 ls []) := by
            intro p41_2 H locs ls l_p41_2 u_p41_2 hH hS hl
            obtain ⟨v41, ev41⟩ : ∃ y : Int32, y = p15_3 + 1 := ⟨_, rfl⟩
            have tv41 : v41.toInt = p15_3.toInt + (1) := by rw [ev41]; exact add_i rfl (by decide) (by omega) (by omega)
            refine lv_iinc (v := v41) (lv' := [(3, .int v41), (2, .int p41_2), (0, .ref a0), (1, .int x1)]) hx hb dX11_needed_41 hl (k := 0) rfl (by rw [ev41]; rfl) (by decide) rfl (fun ls hl => ?_)
            refine lv_goto (tgt := 15) hx hb dX11_needed_44 (by decide) ?_
            exact ih15 _ (by omega) v41 p41_2 _ _ _ rfl (by omega) (by omega) (by omega) (by omega) hH hS (lv_sub hl [0, 1, 2, 3] rfl)
          refine lv_if_eq (tgt := 41) hx hb dX11_needed_32 (by decide) (fun c32 => ?_) (fun c32 => ?_)
          · skip
            have tc32 := f_eq (k := 0) (by decide) c32
            exact J41 p15_2 _ _ _ (by omega) (by omega) hH hS (lv_sub hl [0, 1, 2, 3] rfl)
          · skip
            have tc32 := f_ne (k := 0) (by decide) c32
            refine lv_iload_n hx hb dX11_needed_35 rfl (lv_at hl 1 rfl) ?_
            refine lv_iconst (v := 1) hx hb dX11_needed_36 (by decide) ?_
            refine lv_iload_n hx hb dX11_needed_37 rfl (lv_at hl 0 rfl) ?_
            refine lv_ishl hx hb dX11_needed_38 ?_
            refine lv_topi (fun v38 ev38 => ?_)
            have tv38 : 1 ≤ v38.toInt ∧ v38.toInt ≤ 8192 := by rw [ev38]; exact shl_b 13 (by decide) (by omega) (by omega)
            refine lv_ior hx hb dX11_needed_39 ?_
            refine lv_topi (fun v39 ev39 => ?_)
            have tv39 : 0 ≤ v39.toInt ∧ v39.toInt < 16384 := by rw [ev39]; exact or_b 14 (by decide) (by omega) (by omega) (by omega) (by omega)
            refine lv_istore_n (lv' := [(2, .int v39), (3, .int p15_3), (0, .ref a0), (1, .int x1)]) hx hb dX11_needed_40 rfl hl (by decide) rfl (fun ls hl => ?_)
            exact J41 v39 _ _ _ (by omega) (by omega) hH hS (lv_sub hl [1, 0, 2, 3] rfl)
    refine lv_istore_n (lv' := [(3, .int 0), (2, .int 0), (0, .ref a0), (1, .int x1)]) hx hb dX11_needed_14 rfl hl (by decide) rfl (fun ls hl => ?_)
    exact J15 _ 0 0 _ _ _ rfl (by decide) (by decide) (by decide) (by decide) hH hS (lv_sub hl [0, 1, 2, 3] rfl)
  · skip
    have tc5 := f_eq (k := 0) (by decide) c5
    refine lv_bipush (v := (-2)) hx hb dX11_needed_8 (by decide) ?_
    exact te_i hx hb hr hlocks hH hS (⟨rfl, by decide, by decide⟩) dX11_needed_10
set_option maxHeartbeats 4000000 in
set_option maxRecDepth 100000 in
theorem s_FW_able (l : Launch) (D : va_G) (cs : CS) (kf : KF) (T : TF) (O : List Nat) (X : va_W) (a0 w hw gw ch gq : Nat) (t_a0 : T a0 = some (21, w, ch)) (t_w : isW T w hw gw) (t_ch : T ch = some (10, gq, 0)) (hO : okO T O [1, 7, 12, 15, 16, 19, 21]) : TK l D cs kf yX11_able cX11_able 3 (some (.int)) { frames := 6, cells := 0, slots := 0, locals := 150 } [.ref a0] T O X (Ti D cs (fun r u => u = (T, O, X) ∧ 0 ≤ r.toInt ∧ r.toInt ≤ 16383)) := by
  refine tk_of (by decide) (Nat.le_of_ble_eq_true rfl) (fun p e s m below meth c ls A H locs hx hb hr hml hown hts hlocks hnm hkb hH hS hA hOX hks hE hl => ?_)
  have hown : s.vm.findClass RX11 = some m.cls := hown
  have hl : lv_has ls 3 [(0, .ref a0)] := hl
  have b1_w := t_w.2.1
  have b2_w := t_w.2.2
  refine lv_iconst (v := 0) hx hb dX11_able_0 (by decide) ?_
  refine lv_istore_n (lv' := [(1, .int 0), (0, .ref a0)]) hx hb dX11_able_1 rfl hl (by decide) rfl (fun ls hl => ?_)
  refine lv_iconst (v := 0) hx hb dX11_able_2 (by decide) ?_
  have J4 : ∀ (n : Nat) (p4_2 : Int32) (p4_1 : Int32) (H : Heap) (locs : List Loc) (ls : Array Slot), (5 - p4_2.toInt).toNat = n → (0 ≤ p4_2.toInt) → (p4_2.toInt ≤ 5) → (0 ≤ p4_1.toInt) → (p4_1.toInt ≤ 16383) → HT D cs A T O X H → va_S A s.heap H locs → lv_has ls 3 [(2, .int p4_2), (1, .int p4_1), (0, .ref a0)] → W p l e { frames := 6, cells := 0, slots := 0, locals := 150 } s m [.ref a0].toArray below meth c H locs 0 0 (MQ below (Ti D cs (fun r u => u = (T, O, X) ∧ 0 ≤ r.toInt ∧ r.toInt ≤ 16383) A) [.ref a0].toArray s 0 0 A) (F0 m 4 ls []) := by
    intro n
    induction n using Nat.strongRecOn with
    | _ n ih4 =>
      intro p4_2 p4_1 H locs ls hm4 l_p4_2 u_p4_2 l_p4_1 u_p4_1 hH hS hl
      refine lv_iload_n hx hb dX11_able_4 rfl (lv_at hl 0 rfl) ?_
      refine lv_aload_n hx hb dX11_able_5 rfl (lv_at hl 2 rfl) ?_
      refine t_get (ci := 11) (lst := ft11 w ch) (C := RX11) (F := TX11) (N := 20) hx hb hts uX11 hown hkb hH t_a0 (hO.no t_a0 (by decide)) (fun _ h9 => h9) rfl rfl 3 (by decide) rfl kw_363 (fun _ h9 => h9) dX11_able_6 (fun v9 h9 => ?_)
      have h9 : v9 = .ref w := h9
      subst h9
      refine t_get (ci := 9) (lst := ft9w hw gw) (C := RX9) (F := TX9) (N := 14) hx hb hts uX9 hown hkb hH t_w.1 (hO.no t_w.1 (by decide)) (fun fs => (ob9w t_w fs).mp) rfl rfl 1 (by decide) rfl kw_112 (fun _ h9 => h9) dX11_able_9 (fun v9 h9 => ?_)
      have h9 : v9 = .int (nI gw) := h9
      subst h9
      have e_gw : (nI gw).toInt = gw := nI_toInt (by have := t_w.2.2; omega)
      have b_gw := t_w.2.2
      refine lv_icmp_ge (tgt := 42) hx hb dX11_able_12 (by decide) (fun c12 => ?_) (fun c12 => ?_)
      · skip
        have fuc12 := full_i p4_2
        have fvc12 := full_i (nI gw)
        have tc12 := g_le c12
        refine lv_iload_n hx hb dX11_able_42 rfl (lv_at hl 1 rfl) ?_
        exact te_i hx hb hr hlocks hH hS (⟨rfl, by omega, by omega⟩) dX11_able_43
      · skip
        have fuc12 := full_i p4_2
        have fvc12 := full_i (nI gw)
        have tc12 := g_nle c12
        refine lv_aload_n hx hb dX11_able_15 rfl (lv_at hl 2 rfl) ?_
        refine lv_iload_n hx hb dX11_able_16 rfl (lv_at hl 0 rfl) ?_
        refine tk_r hH hS hA (tr_V (n := 1) (As := [.int p4_2]) hx hb hml hown hts hkb hH hOX hks hE hS hA (s_FW_rowsOf l D cs kf T O X a0 w hw gw ch gq p4_2 t_a0 t_w t_ch (by omega) (by omega) (hO.sub (by decide))) kw_830 kw_832 ks_21 kw_1 kw_833 (by decide +kernel) ⟨Nat.le_of_ble_eq_true rfl, Nat.le_of_ble_eq_true rfl⟩ (HT.recv (ci := 11) hkb hH t_a0 (hO.no t_a0 (by decide)) rfl) rfl rfl hl.1 (Nat.le_of_ble_eq_true rfl) dX11_able_17 ⟨Nat.le_of_ble_eq_true rfl, Nat.le_of_ble_eq_true rfl⟩) (fun v17 u H locs hz9 hH hS => ?_)
        obtain ⟨hu9, t_v17⟩ := hz9
        have hu9 : u = (T, O, X) := hu9
        subst hu9
        have hH : HT D cs A T O X H := hH
        refine W.widen (k := 0) (n := 0) (Nat.le_of_ble_eq_true rfl) (Nat.le_of_ble_eq_true rfl) ?_
        refine lv_aload_n hx hb dX11_able_20 rfl (lv_at hl 2 rfl) ?_
        refine tk_i hH hS hA (tr_V (n := 0) (As := []) hx hb hml hown hts hkb hH hOX hks hE hS hA (s_FW_openNow l D cs kf T O X a0 w hw gw ch gq t_a0 t_w t_ch (hO.sub (by decide))) kw_846 kw_848 ks_22 kw_1 kw_849 (by decide +kernel) ⟨Nat.le_of_ble_eq_true rfl, Nat.le_of_ble_eq_true rfl⟩ (HT.recv (ci := 11) hkb hH t_a0 (hO.no t_a0 (by decide)) rfl) rfl rfl hl.1 (Nat.le_of_ble_eq_true rfl) dX11_able_21 ⟨Nat.le_of_ble_eq_true rfl, Nat.le_of_ble_eq_true rfl⟩) (fun v21 u H locs hz9 hH hS => ?_)
        obtain ⟨rfl, l_v21, u_v21⟩ := hz9
        have hH : HT D cs A T O X H := hH
        refine W.widen (k := 0) (n := 0) (Nat.le_of_ble_eq_true rfl) (Nat.le_of_ble_eq_true rfl) ?_
        refine tk_i hH hS hA (tr_V (n := 1) (As := [.int v21]) hx hb hml hown hts hkb hH hOX hks hE hS hA (s_Rows_getsUp l D cs kf T O X v17 v21 t_v17 (hO.sub (by decide))) kw_1059 kw_1060 kw_1061 kw_8 kw_1062 (by decide +kernel) ⟨Nat.le_of_ble_eq_true rfl, Nat.le_of_ble_eq_true rfl⟩ (HT.recv (ci := 5) hkb hH t_v17 (hO.no t_v17 (by decide)) rfl) rfl rfl hl.1 (Nat.le_of_ble_eq_true rfl) dX11_able_24 ⟨Nat.le_of_ble_eq_true rfl, Nat.le_of_ble_eq_true rfl⟩) (fun v24 u H locs hz9 hH hS => ?_)
        obtain ⟨rfl, l_v24, u_v24⟩ := hz9
        have hH : HT D cs A T O X H := hH
        refine W.widen (k := 0) (n := 0) (Nat.le_of_ble_eq_true rfl) (Nat.le_of_ble_eq_true rfl) ?_
        have J36 : ∀ (p36_1 : Int32) (H : Heap) (locs : List Loc) (ls : Array Slot), (0 ≤ p36_1.toInt) → (p36_1.toInt ≤ 16383) → HT D cs A T O X H → va_S A s.heap H locs → lv_has ls 3 [(2, .int p4_2), (1, .int p36_1), (0, .ref a0)] → W p l e { frames := 6, cells := 0, slots := 0, locals := 150 } s m [.ref a0].toArray below meth c H locs 0 0 (MQ below (Ti D cs (fun r u => u = (T, O, X) ∧ 0 ≤ r.toInt ∧ r.toInt ≤ 16383) A) [.ref a0].toArray s 0 0 A) (F0 m 36 ls []) := by
          intro p36_1 H locs ls l_p36_1 u_p36_1 hH hS hl
          obtain ⟨v36, ev36⟩ : ∃ y : Int32, y = p4_2 + 1 := ⟨_, rfl⟩
          have tv36 : v36.toInt = p4_2.toInt + (1) := by rw [ev36]; exact add_i rfl (by decide) (by omega) (by omega)
          refine lv_iinc (v := v36) (lv' := [(2, .int v36), (1, .int p36_1), (0, .ref a0)]) hx hb dX11_able_36 hl (k := 0) rfl (by rw [ev36]; rfl) (by decide) rfl (fun ls hl => ?_)
          refine lv_goto (tgt := 4) hx hb dX11_able_39 (by decide) ?_
          exact ih4 _ (by omega) v36 p36_1 _ _ _ rfl (by omega) (by omega) (by omega) (by omega) hH hS (lv_sub hl [0, 1, 2] rfl)
        refine lv_if_eq (tgt := 36) hx hb dX11_able_27 (by decide) (fun c27 => ?_) (fun c27 => ?_)
        · skip
          have tc27 := f_eq (k := 0) (by decide) c27
          exact J36 p4_1 _ _ _ (by omega) (by omega) hH hS (lv_sub hl [0, 1, 2] rfl)
        · skip
          have tc27 := f_ne (k := 0) (by decide) c27
          refine lv_iload_n hx hb dX11_able_30 rfl (lv_at hl 1 rfl) ?_
          refine lv_iconst (v := 1) hx hb dX11_able_31 (by decide) ?_
          refine lv_iload_n hx hb dX11_able_32 rfl (lv_at hl 0 rfl) ?_
          refine lv_ishl hx hb dX11_able_33 ?_
          refine lv_topi (fun v33 ev33 => ?_)
          have tv33 : 1 ≤ v33.toInt ∧ v33.toInt ≤ 16 := by rw [ev33]; exact shl_b 4 (by decide) (by omega) (by omega)
          refine lv_ior hx hb dX11_able_34 ?_
          refine lv_topi (fun v34 ev34 => ?_)
          have tv34 : 0 ≤ v34.toInt ∧ v34.toInt < 16384 := by rw [ev34]; exact or_b 14 (by decide) (by omega) (by omega) (by omega) (by omega)
          refine lv_istore_n (lv' := [(1, .int v34), (2, .int p4_2), (0, .ref a0)]) hx hb dX11_able_35 rfl hl (by decide) rfl (fun ls hl => ?_)
          exact J36 v34 _ _ _ (by omega) (by omega) hH hS (lv_sub hl [1, 0, 2] rfl)
  refine lv_istore_n (lv' := [(2, .int 0), (1, .int 0), (0, .ref a0)]) hx hb dX11_able_3 rfl hl (by decide) rfl (fun ls hl => ?_)
  exact J4 _ 0 0 _ _ _ rfl (by decide) (by decide) (by decide) (by decide) hH hS (lv_sub hl [0, 1, 2] rfl)
set_option maxHeartbeats 4000000 in
set_option maxRecDepth 100000 in
theorem s_FW_needers (l : Launch) (D : va_G) (cs : CS) (kf : KF) (T : TF) (O : List Nat) (X : va_W) (a0 w hw gw ch gq : Nat) (x1 : Int32) (t_a0 : T a0 = some (21, w, ch)) (t_w : isW T w hw gw) (t_ch : T ch = some (10, gq, 0)) (hO : okO T O [1, 7, 12, 15, 16, 19, 21]) : TK l D cs kf yX11_needers cX11_needers 4 (some (.int)) { frames := 7, cells := 0, slots := 0, locals := 174 } [.ref a0, .int x1] T O X (Ti D cs (fun r u => u = (T, O, X) ∧ -2 ≤ r.toInt ∧ r.toInt ≤ 16383)) := by
  refine tk_of (by decide) (Nat.le_of_ble_eq_true rfl) (fun p e s m below meth c ls A H locs hx hb hr hml hown hts hlocks hnm hkb hH hS hA hOX hks hE hl => ?_)
  have hown : s.vm.findClass RX11 = some m.cls := hown
  have hl : lv_has ls 4 [(0, .ref a0), (1, .int x1)] := hl
  have b1_w := t_w.2.1
  have b2_w := t_w.2.2
  refine lv_aload_n hx hb dX11_needers_0 rfl (lv_at hl 0 rfl) ?_
  refine lv_iload_n hx hb dX11_needers_1 rfl (lv_at hl 1 rfl) ?_
  refine tk_i hH hS hA (tr_V (n := 1) (As := [.int x1]) hx hb hml hown hts hkb hH hOX hks hE hS hA (s_FW_isHold l D cs kf T O X a0 w hw gw ch gq x1 t_a0 t_w t_ch (hO.sub (by decide))) kw_770 kw_772 ks_17 kw_1 kw_773 (by decide +kernel) ⟨Nat.le_of_ble_eq_true rfl, Nat.le_of_ble_eq_true rfl⟩ (HT.recv (ci := 11) hkb hH t_a0 (hO.no t_a0 (by decide)) rfl) rfl rfl hl.1 (Nat.le_of_ble_eq_true rfl) dX11_needers_2 ⟨Nat.le_of_ble_eq_true rfl, Nat.le_of_ble_eq_true rfl⟩) (fun v2 u H locs hz9 hH hS => ?_)
  obtain ⟨rfl, l_v2, u_v2, x_v20⟩ := hz9
  have hH : HT D cs A T O X H := hH
  refine W.widen (k := 0) (n := 0) (Nat.le_of_ble_eq_true rfl) (Nat.le_of_ble_eq_true rfl) ?_
  refine lv_if_ne (tgt := 11) hx hb dX11_needers_5 (by decide) (fun c5 => ?_) (fun c5 => ?_)
  · skip
    have tc5 := f_ne (k := 0) (by decide) c5
    refine lv_iconst (v := 0) hx hb dX11_needers_11 (by decide) ?_
    refine lv_istore_n (lv' := [(2, .int 0), (0, .ref a0), (1, .int x1)]) hx hb dX11_needers_12 rfl hl (by decide) rfl (fun ls hl => ?_)
    refine lv_iconst (v := 0) hx hb dX11_needers_13 (by decide) ?_
    have J15 : ∀ (n : Nat) (p15_3 : Int32) (p15_2 : Int32) (H : Heap) (locs : List Loc) (ls : Array Slot), (5 - p15_3.toInt).toNat = n → (0 ≤ p15_3.toInt) → (p15_3.toInt ≤ 5) → (0 ≤ p15_2.toInt) → (p15_2.toInt ≤ 16383) → HT D cs A T O X H → va_S A s.heap H locs → lv_has ls 4 [(3, .int p15_3), (2, .int p15_2), (0, .ref a0), (1, .int x1)] → W p l e { frames := 7, cells := 0, slots := 0, locals := 174 } s m [.ref a0, .int x1].toArray below meth c H locs 0 0 (MQ below (Ti D cs (fun r u => u = (T, O, X) ∧ -2 ≤ r.toInt ∧ r.toInt ≤ 16383) A) [.ref a0, .int x1].toArray s 0 0 A) (F0 m 15 ls []) := by
      intro n
      induction n using Nat.strongRecOn with
      | _ n ih15 =>
        intro p15_3 p15_2 H locs ls hm15 l_p15_3 u_p15_3 l_p15_2 u_p15_2 hH hS hl
        refine lv_iload_n hx hb dX11_needers_15 rfl (lv_at hl 0 rfl) ?_
        refine lv_aload_n hx hb dX11_needers_16 rfl (lv_at hl 2 rfl) ?_
        refine t_get (ci := 11) (lst := ft11 w ch) (C := RX11) (F := TX11) (N := 20) hx hb hts uX11 hown hkb hH t_a0 (hO.no t_a0 (by decide)) (fun _ h9 => h9) rfl rfl 3 (by decide) rfl kw_363 (fun _ h9 => h9) dX11_needers_17 (fun v9 h9 => ?_)
        have h9 : v9 = .ref w := h9
        subst h9
        refine t_get (ci := 9) (lst := ft9w hw gw) (C := RX9) (F := TX9) (N := 14) hx hb hts uX9 hown hkb hH t_w.1 (hO.no t_w.1 (by decide)) (fun fs => (ob9w t_w fs).mp) rfl rfl 1 (by decide) rfl kw_112 (fun _ h9 => h9) dX11_needers_20 (fun v9 h9 => ?_)
        have h9 : v9 = .int (nI gw) := h9
        subst h9
        have e_gw : (nI gw).toInt = gw := nI_toInt (by have := t_w.2.2; omega)
        have b_gw := t_w.2.2
        refine lv_icmp_ge (tgt := 47) hx hb dX11_needers_23 (by decide) (fun c23 => ?_) (fun c23 => ?_)
        · skip
          have fuc23 := full_i p15_3
          have fvc23 := full_i (nI gw)
          have tc23 := g_le c23
          refine lv_iload_n hx hb dX11_needers_47 rfl (lv_at hl 1 rfl) ?_
          exact te_i hx hb hr hlocks hH hS (⟨rfl, by omega, by omega⟩) dX11_needers_48
        · skip
          have fuc23 := full_i p15_3
          have fvc23 := full_i (nI gw)
          have tc23 := g_nle c23
          refine lv_aload_n hx hb dX11_needers_26 rfl (lv_at hl 2 rfl) ?_
          refine lv_iload_n hx hb dX11_needers_27 rfl (lv_at hl 0 rfl) ?_
          refine lv_iload_n hx hb dX11_needers_28 rfl (lv_at hl 3 rfl) ?_
          refine tk_i hH hS hA (tr_V (n := 2) (As := [.int p15_3, .int x1]) hx hb hml hown hts hkb hH hOX hks hE hS hA (s_FW_needs l D cs kf T O X a0 w hw gw ch gq p15_3 x1 t_a0 t_w t_ch (by omega) (by omega) (hO.sub (by decide))) kw_1055 kw_1057 ks_37 kw_1 kw_1058 (by decide +kernel) ⟨Nat.le_of_ble_eq_true rfl, Nat.le_of_ble_eq_true rfl⟩ (HT.recv (ci := 11) hkb hH t_a0 (hO.no t_a0 (by decide)) rfl) rfl rfl hl.1 (Nat.le_of_ble_eq_true rfl) dX11_needers_29 ⟨Nat.le_of_ble_eq_true rfl, Nat.le_of_ble_eq_true rfl⟩) (fun v29 u H locs hz9 hH hS => ?_)
          obtain ⟨rfl, l_v29, u_v29⟩ := hz9
          have hH : HT D cs A T O X H := hH
          refine W.widen (k := 0) (n := 0) (Nat.le_of_ble_eq_true rfl) (Nat.le_of_ble_eq_true rfl) ?_
          have J41 : ∀ (p41_2 : Int32) (H : Heap) (locs : List Loc) (ls : Array Slot), (0 ≤ p41_2.toInt) → (p41_2.toInt ≤ 16383) → HT D cs A T O X H → va_S A s.heap H locs → lv_has ls 4 [(3, .int p15_3), (2, .int p41_2), (0, .ref a0), (1, .int x1)] → W p l e { frames := 7, cells := 0, slots := 0, locals := 174 } s m [.ref a0, .int x1].toArray below meth c H locs 0 0 (MQ below (Ti D cs (fun r u => u = (T, O, X) ∧ -2 ≤ r.toInt ∧ r.toInt ≤ 16383) A) [.ref a0, .int x1].toArray s 0 0 A) (F0 m 41 ls []) := by
            intro p41_2 H locs ls l_p41_2 u_p41_2 hH hS hl
            obtain ⟨v41, ev41⟩ : ∃ y : Int32, y = p15_3 + 1 := ⟨_, rfl⟩
            have tv41 : v41.toInt = p15_3.toInt + (1) := by rw [ev41]; exact add_i rfl (by decide) (by omega) (by omega)
            refine lv_iinc (v := v41) (lv' := [(3, .int v41), (2, .int p41_2), (0, .ref a0), (1, .int x1)]) hx hb dX11_needers_41 hl (k := 0) rfl (by rw [ev41]; rfl) (by decide) rfl (fun ls hl => ?_)
            refine lv_goto (tgt := 15) hx hb dX11_needers_44 (by decide) ?_
            exact ih15 _ (by omega) v41 p41_2 _ _ _ rfl (by omega) (by omega) (by omega) (by omega) hH hS (lv_sub hl [0, 1, 2, 3] rfl)
          refine lv_if_eq (tgt := 41) hx hb dX11_needers_32 (by decide) (fun c32 => ?_) (fun c32 => ?_)
          · skip
            have tc32 := f_eq (k := 0) (by decide) c32
            exact J41 p15_2 _ _ _ (by omega) (by omega) hH hS (lv_sub hl [0, 1, 2, 3] rfl)
          · skip
            have tc32 := f_ne (k := 0) (by decide) c32
            refine lv_iload_n hx hb dX11_needers_35 rfl (lv_at hl 1 rfl) ?_
            refine lv_iconst (v := 1) hx hb dX11_needers_36 (by decide) ?_
            refine lv_iload_n hx hb dX11_needers_37 rfl (lv_at hl 0 rfl) ?_
            refine lv_ishl hx hb dX11_needers_38 ?_
            refine lv_topi (fun v38 ev38 => ?_)
            have tv38 : 1 ≤ v38.toInt ∧ v38.toInt ≤ 16 := by rw [ev38]; exact shl_b 4 (by decide) (by omega) (by omega)
            refine lv_ior hx hb dX11_needers_39 ?_
            refine lv_topi (fun v39 ev39 => ?_)
            have tv39 : 0 ≤ v39.toInt ∧ v39.toInt < 16384 := by rw [ev39]; exact or_b 14 (by decide) (by omega) (by omega) (by omega) (by omega)
            refine lv_istore_n (lv' := [(2, .int v39), (3, .int p15_3), (0, .ref a0), (1, .int x1)]) hx hb dX11_needers_40 rfl hl (by decide) rfl (fun ls hl => ?_)
            exact J41 v39 _ _ _ (by omega) (by omega) hH hS (lv_sub hl [1, 0, 2, 3] rfl)
    refine lv_istore_n (lv' := [(3, .int 0), (2, .int 0), (0, .ref a0), (1, .int x1)]) hx hb dX11_needers_14 rfl hl (by decide) rfl (fun ls hl => ?_)
    exact J15 _ 0 0 _ _ _ rfl (by decide) (by decide) (by decide) (by decide) hH hS (lv_sub hl [0, 1, 2, 3] rfl)
  · skip
    have tc5 := f_eq (k := 0) (by decide) c5
    refine lv_bipush (v := (-2)) hx hb dX11_needers_8 (by decide) ?_
    exact te_i hx hb hr hlocks hH hS (⟨rfl, by decide, by decide⟩) dX11_needers_10
set_option maxHeartbeats 4000000 in
set_option maxRecDepth 100000 in
theorem s_FW_highest (l : Launch) (D : va_G) (cs : CS) (kf : KF) (T : TF) (O : List Nat) (X : va_W) (a0 w hw gw ch gq : Nat) (x1 : Int32) (t_a0 : T a0 = some (21, w, ch)) (t_w : isW T w hw gw) (t_ch : T ch = some (10, gq, 0)) (hO : okO T O [1, 7, 12, 15, 16, 19, 21]) : TK l D cs kf yX11_highest cX11_highest 5 (some (.int)) { frames := 6, cells := 0, slots := 0, locals := 150 } [.ref a0, .int x1] T O X (Ti D cs (fun r u => u = (T, O, X) ∧ -2 ≤ r.toInt)) := by
  refine tk_of (by decide) (Nat.le_of_ble_eq_true rfl) (fun p e s m below meth c ls A H locs hx hb hr hml hown hts hlocks hnm hkb hH hS hA hOX hks hE hl => ?_)
  have hown : s.vm.findClass RX11 = some m.cls := hown
  have hl : lv_has ls 5 [(0, .ref a0), (1, .int x1)] := hl
  have b1_w := t_w.2.1
  have b2_w := t_w.2.2
  refine lv_aload_n hx hb dX11_highest_0 rfl (lv_at hl 0 rfl) ?_
  refine lv_iload_n hx hb dX11_highest_1 rfl (lv_at hl 1 rfl) ?_
  refine tk_i hH hS hA (tr_V (n := 1) (As := [.int x1]) hx hb hml hown hts hkb hH hOX hks hE hS hA (s_FW_isGuide l D cs kf T O X a0 w hw gw ch gq x1 t_a0 t_w t_ch (hO.sub (by decide))) kw_794 kw_796 ks_20 kw_1 kw_797 (by decide +kernel) ⟨Nat.le_of_ble_eq_true rfl, Nat.le_of_ble_eq_true rfl⟩ (HT.recv (ci := 11) hkb hH t_a0 (hO.no t_a0 (by decide)) rfl) rfl rfl hl.1 (Nat.le_of_ble_eq_true rfl) dX11_highest_2 ⟨Nat.le_of_ble_eq_true rfl, Nat.le_of_ble_eq_true rfl⟩) (fun v2 u H locs hz9 hH hS => ?_)
  obtain ⟨rfl, l_v2, u_v2, x_v20⟩ := hz9
  have hH : HT D cs A T O X H := hH
  refine W.widen (k := 0) (n := 0) (Nat.le_of_ble_eq_true rfl) (Nat.le_of_ble_eq_true rfl) ?_
  refine lv_if_ne (tgt := 11) hx hb dX11_highest_5 (by decide) (fun c5 => ?_) (fun c5 => ?_)
  · skip
    have tc5 := f_ne (k := 0) (by decide) c5
    refine lv_aload_n hx hb dX11_highest_11 rfl (lv_at hl 0 rfl) ?_
    refine lv_iload_n hx hb dX11_highest_12 rfl (lv_at hl 1 rfl) ?_
    refine tk_r hH hS hA (tr_V (n := 1) (As := [.int x1]) hx hb hml hown hts hkb hH hOX hks hE hS hA (s_FW_rowsOf l D cs kf T O X a0 w hw gw ch gq x1 t_a0 t_w t_ch (by omega) (by omega) (hO.sub (by decide))) kw_830 kw_832 ks_21 kw_1 kw_833 (by decide +kernel) ⟨Nat.le_of_ble_eq_true rfl, Nat.le_of_ble_eq_true rfl⟩ (HT.recv (ci := 11) hkb hH t_a0 (hO.no t_a0 (by decide)) rfl) rfl rfl hl.1 (Nat.le_of_ble_eq_true rfl) dX11_highest_13 ⟨Nat.le_of_ble_eq_true rfl, Nat.le_of_ble_eq_true rfl⟩) (fun v13 u H locs hz9 hH hS => ?_)
    obtain ⟨hu9, t_v13⟩ := hz9
    have hu9 : u = (T, O, X) := hu9
    subst hu9
    have hH : HT D cs A T O X H := hH
    refine W.widen (k := 0) (n := 0) (Nat.le_of_ble_eq_true rfl) (Nat.le_of_ble_eq_true rfl) ?_
    refine lv_aload_n hx hb dX11_highest_16 rfl (lv_at hl 0 rfl) ?_
    refine tk_i hH hS hA (tr_V (n := 0) (As := []) hx hb hml hown hts hkb hH hOX hks hE hS hA (s_FW_openNow l D cs kf T O X a0 w hw gw ch gq t_a0 t_w t_ch (hO.sub (by decide))) kw_846 kw_848 ks_22 kw_1 kw_849 (by decide +kernel) ⟨Nat.le_of_ble_eq_true rfl, Nat.le_of_ble_eq_true rfl⟩ (HT.recv (ci := 11) hkb hH t_a0 (hO.no t_a0 (by decide)) rfl) rfl rfl hl.1 (Nat.le_of_ble_eq_true rfl) dX11_highest_17 ⟨Nat.le_of_ble_eq_true rfl, Nat.le_of_ble_eq_true rfl⟩) (fun v17 u H locs hz9 hH hS => ?_)
    obtain ⟨rfl, l_v17, u_v17⟩ := hz9
    have hH : HT D cs A T O X H := hH
    refine W.widen (k := 0) (n := 0) (Nat.le_of_ble_eq_true rfl) (Nat.le_of_ble_eq_true rfl) ?_
    refine tk_i hH hS hA (tr_V (n := 1) (As := [.int v17]) hx hb hml hown hts hkb hH hOX hks hE hS hA (s_Rows_reached l D cs kf T O X v13 v17 t_v13 (hO.sub (by decide))) kw_850 kw_851 kw_852 kw_8 kw_853 (by decide +kernel) ⟨Nat.le_of_ble_eq_true rfl, Nat.le_of_ble_eq_true rfl⟩ (HT.recv (ci := 5) hkb hH t_v13 (hO.no t_v13 (by decide)) rfl) rfl rfl hl.1 (Nat.le_of_ble_eq_true rfl) dX11_highest_20 ⟨Nat.le_of_ble_eq_true rfl, Nat.le_of_ble_eq_true rfl⟩) (fun v20 u H locs hz9 hH hS => ?_)
    obtain ⟨rfl, l_v20, u_v20⟩ := hz9
    have hH : HT D cs A T O X H := hH
    refine W.widen (k := 0) (n := 0) (Nat.le_of_ble_eq_true rfl) (Nat.le_of_ble_eq_true rfl) ?_
    refine lv_istore_n (lv' := [(2, .int v20), (0, .ref a0), (1, .int x1)]) hx hb dX11_highest_23 rfl hl (by decide) rfl (fun ls hl => ?_)
    refine lv_iconst (v := (-1)) hx hb dX11_highest_24 (by decide) ?_
    refine lv_istore_n (lv' := [(3, .int (-1)), (2, .int v20), (0, .ref a0), (1, .int x1)]) hx hb dX11_highest_25 rfl hl (by decide) rfl (fun ls hl => ?_)
    refine lv_iconst (v := 0) hx hb dX11_highest_26 (by decide) ?_
    have J29 : ∀ (n : Nat) (p29_4 : Int32) (p29_3 : Int32) (H : Heap) (locs : List Loc) (ls : Array Slot), (14 - p29_4.toInt).toNat = n → (0 ≤ p29_4.toInt) → (p29_4.toInt ≤ 14) → (-1 ≤ p29_3.toInt) → HT D cs A T O X H → va_S A s.heap H locs → lv_has ls 5 [(4, .int p29_4), (3, .int p29_3), (2, .int v20), (0, .ref a0)] → W p l e { frames := 6, cells := 0, slots := 0, locals := 150 } s m [.ref a0, .int x1].toArray below meth c H locs 0 0 (MQ below (Ti D cs (fun r u => u = (T, O, X) ∧ -2 ≤ r.toInt) A) [.ref a0, .int x1].toArray s 0 0 A) (F0 m 29 ls []) := by
      intro n
      induction n using Nat.strongRecOn with
      | _ n ih29 =>
        intro p29_4 p29_3 H locs ls hm29 l_p29_4 u_p29_4 l_p29_3 hH hS hl
        refine lv_iload hx hb dX11_highest_29 (lv_at hl 0 rfl) ?_
        refine lv_aload_n hx hb dX11_highest_31 rfl (lv_at hl 3 rfl) ?_
        refine t_get (ci := 11) (lst := ft11 w ch) (C := RX11) (F := TX11) (N := 20) hx hb hts uX11 hown hkb hH t_a0 (hO.no t_a0 (by decide)) (fun _ h9 => h9) rfl rfl 3 (by decide) rfl kw_363 (fun _ h9 => h9) dX11_highest_32 (fun v9 h9 => ?_)
        have h9 : v9 = .ref w := h9
        subst h9
        refine t_get (ci := 9) (lst := ft9w hw gw) (C := RX9) (F := TX9) (N := 14) hx hb hts uX9 hown hkb hH t_w.1 (hO.no t_w.1 (by decide)) (fun fs => (ob9w t_w fs).mp) rfl rfl 0 (by decide) rfl kw_109 (fun _ h9 => h9) dX11_highest_35 (fun v9 h9 => ?_)
        have h9 : v9 = .int (nI hw) := h9
        subst h9
        have e_hw : (nI hw).toInt = hw := nI_toInt (by have := t_w.2.1; omega)
        have b_hw := t_w.2.1
        refine lv_icmp_ge (tgt := 71) hx hb dX11_highest_38 (by decide) (fun c38 => ?_) (fun c38 => ?_)
        · skip
          have fuc38 := full_i p29_4
          have fvc38 := full_i (nI hw)
          have tc38 := g_le c38
          refine lv_iload_n hx hb dX11_highest_71 rfl (lv_at hl 1 rfl) ?_
          exact te_i hx hb hr hlocks hH hS (⟨rfl, by omega⟩) dX11_highest_72
        · skip
          have fuc38 := full_i p29_4
          have fvc38 := full_i (nI hw)
          have tc38 := g_nle c38
          refine lv_iload_n hx hb dX11_highest_41 rfl (lv_at hl 2 rfl) ?_
          refine lv_iload hx hb dX11_highest_42 (lv_at hl 0 rfl) ?_
          refine lv_ishr hx hb dX11_highest_44 ?_
          refine lv_topi (fun v44 ev44 => ?_)
          have tv44 : 0 ≤ v44.toInt ∧ v44.toInt ≤ v20.toInt := by rw [ev44]; exact shr_b (by omega)
          refine lv_iconst (v := 1) hx hb dX11_highest_45 (by decide) ?_
          refine lv_iand hx hb dX11_highest_46 ?_
          refine lv_topi (fun v46 ev46 => ?_)
          have tv46 : 0 ≤ v46.toInt ∧ v46.toInt ≤ 1 := by rw [ev46]; exact and_r (by decide)
          have J65 : ∀ (p65_3 : Int32) (H : Heap) (locs : List Loc) (ls : Array Slot), (-1 ≤ p65_3.toInt) → HT D cs A T O X H → va_S A s.heap H locs → lv_has ls 5 [(4, .int p29_4), (3, .int p65_3), (2, .int v20), (0, .ref a0)] → W p l e { frames := 6, cells := 0, slots := 0, locals := 150 } s m [.ref a0, .int x1].toArray below meth c H locs 0 0 (MQ below (Ti D cs (fun r u => u = (T, O, X) ∧ -2 ≤ r.toInt) A) [.ref a0, .int x1].toArray s 0 0 A) (F0 m 65 ls []) := by
            intro p65_3 H locs ls l_p65_3 hH hS hl
            obtain ⟨v65, ev65⟩ : ∃ y : Int32, y = p29_4 + 1 := ⟨_, rfl⟩
            have tv65 : v65.toInt = p29_4.toInt + (1) := by rw [ev65]; exact add_i rfl (by decide) (by omega) (by omega)
            refine lv_iinc (v := v65) (lv' := [(4, .int v65), (3, .int p65_3), (2, .int v20), (0, .ref a0)]) hx hb dX11_highest_65 hl (k := 0) rfl (by rw [ev65]; rfl) (by decide) rfl (fun ls hl => ?_)
            refine lv_goto (tgt := 29) hx hb dX11_highest_68 (by decide) ?_
            exact ih29 _ (by omega) v65 p65_3 _ _ _ rfl (by omega) (by omega) (by omega) hH hS (lv_sub hl [0, 1, 2, 3] rfl)
          refine lv_if_eq (tgt := 65) hx hb dX11_highest_47 (by decide) (fun c47 => ?_) (fun c47 => ?_)
          · skip
            have tc47 := f_eq (k := 0) (by decide) c47
            exact J65 p29_3 _ _ _ (by omega) hH hS (lv_sub hl [0, 1, 2, 3] rfl)
          · skip
            have tc47 := f_ne (k := 0) (by decide) c47
            refine lv_iload_n hx hb dX11_highest_50 rfl (lv_at hl 1 rfl) ?_
            refine lv_aload_n hx hb dX11_highest_51 rfl (lv_at hl 3 rfl) ?_
            refine t_get (ci := 11) (lst := ft11 w ch) (C := RX11) (F := TX11) (N := 20) hx hb hts uX11 hown hkb hH t_a0 (hO.no t_a0 (by decide)) (fun _ h9 => h9) rfl rfl 3 (by decide) rfl kw_363 (fun _ h9 => h9) dX11_highest_52 (fun v9 h9 => ?_)
            have h9 : v9 = .ref w := h9
            subst h9
            refine t_get (ci := 9) (lst := ft9w hw gw) (C := RX9) (F := TX9) (N := 14) hx hb hts uX9 hown hkb hH t_w.1 (hO.no t_w.1 (by decide)) (fun fs => (ob9w t_w fs).mp) rfl rfl 7 (by decide) rfl kw_137 (fun _ h9 => h9) dX11_highest_55 (fun v9 h9 => ?_)
            obtain ⟨v55, rfl, t_v55⟩ := h9
            refine lv_iload hx hb dX11_highest_58 (lv_at hl 0 rfl) ?_
            refine t_ild hx hb hkb hH t_v55 (hO.no t_v55 (by decide)) (by omega) (by omega) dX11_highest_60 (fun v60 h9 => ?_)
            refine va_mmax hx hb (by rw [hml]; exact hl.1.symm) hown (hts _ kw_1105) (hts _ kw_100) (hts _ kw_6) (hts _ kw_101) (Nat.le_of_ble_eq_true rfl) (Nat.le_of_ble_eq_true rfl) (Nat.le_of_ble_eq_true rfl) (Nat.le_of_ble_eq_true rfl) dX11_highest_61 ?_
            refine lv_topi (fun v61 ev61 => ?_)
            have tv61 : v61.toInt = max p29_3.toInt v60.toInt := by rw [ev61]; exact max_i rfl rfl
            refine lv_istore_n (lv' := [(3, .int v61), (4, .int p29_4), (2, .int v20), (0, .ref a0)]) hx hb dX11_highest_64 rfl hl (by decide) rfl (fun ls hl => ?_)
            exact J65 v61 _ _ _ (by omega) hH hS (lv_sub hl [1, 0, 2, 3] rfl)
    refine lv_istore (lv' := [(4, .int 0), (3, .int (-1)), (2, .int v20), (0, .ref a0), (1, .int x1)]) hx hb dX11_highest_27 hl (by decide) rfl (fun ls hl => ?_)
    exact J29 _ 0 (-1) _ _ _ rfl (by decide) (by decide) (by decide) hH hS (lv_sub hl [0, 1, 2, 3] rfl)
  · skip
    have tc5 := f_eq (k := 0) (by decide) c5
    refine lv_bipush (v := (-2)) hx hb dX11_highest_8 (by decide) ?_
    exact te_i hx hb hr hlocks hH hS (⟨rfl, by decide⟩) dX11_highest_10
set_option maxHeartbeats 4000000 in
set_option maxRecDepth 100000 in
theorem s_FW_together (l : Launch) (D : va_G) (cs : CS) (kf : KF) (T : TF) (O : List Nat) (X : va_W) (a0 w hw gw ch gq : Nat) (x1 : Int32) (x2 : Int32) (t_a0 : T a0 = some (21, w, ch)) (t_w : isW T w hw gw) (t_ch : T ch = some (10, gq, 0)) (hO : okO T O [1, 7, 12, 15, 16, 19, 21]) : TK l D cs kf yX11_together cX11_together 11 (some (.int)) { frames := 6, cells := 0, slots := 0, locals := 150 } [.ref a0, .int x1, .int x2] T O X (Ti D cs (fun r u => u = (T, O, X) ∧ -2 ≤ r.toInt ∧ r.toInt ≤ 1)) := by
  refine tk_of (by decide) (Nat.le_of_ble_eq_true rfl) (fun p e s m below meth c ls A H locs hx hb hr hml hown hts hlocks hnm hkb hH hS hA hOX hks hE hl => ?_)
  have hown : s.vm.findClass RX11 = some m.cls := hown
  have hl : lv_has ls 11 [(0, .ref a0), (1, .int x1), (2, .int x2)] := hl
  have b1_w := t_w.2.1
  have b2_w := t_w.2.2
  refine lv_aload_n hx hb dX11_together_0 rfl (lv_at hl 0 rfl) ?_
  refine lv_iload_n hx hb dX11_together_1 rfl (lv_at hl 1 rfl) ?_
  refine tk_i hH hS hA (tr_V (n := 1) (As := [.int x1]) hx hb hml hown hts hkb hH hOX hks hE hS hA (s_FW_isGuide l D cs kf T O X a0 w hw gw ch gq x1 t_a0 t_w t_ch (hO.sub (by decide))) kw_794 kw_796 ks_20 kw_1 kw_797 (by decide +kernel) ⟨Nat.le_of_ble_eq_true rfl, Nat.le_of_ble_eq_true rfl⟩ (HT.recv (ci := 11) hkb hH t_a0 (hO.no t_a0 (by decide)) rfl) rfl rfl hl.1 (Nat.le_of_ble_eq_true rfl) dX11_together_2 ⟨Nat.le_of_ble_eq_true rfl, Nat.le_of_ble_eq_true rfl⟩) (fun v2 u H locs hz9 hH hS => ?_)
  obtain ⟨rfl, l_v2, u_v2, x_v20⟩ := hz9
  have hH : HT D cs A T O X H := hH
  refine W.widen (k := 0) (n := 0) (Nat.le_of_ble_eq_true rfl) (Nat.le_of_ble_eq_true rfl) ?_
  have J16 : ∀  (H : Heap) (locs : List Loc) (ls : Array Slot), HT D cs A T O X H → va_S A s.heap H locs → lv_has ls 11 [] → W p l e { frames := 6, cells := 0, slots := 0, locals := 150 } s m [.ref a0, .int x1, .int x2].toArray below meth c H locs 0 0 (MQ below (Ti D cs (fun r u => u = (T, O, X) ∧ -2 ≤ r.toInt ∧ r.toInt ≤ 1) A) [.ref a0, .int x1, .int x2].toArray s 0 0 A) (F0 m 16 ls []) := by
    intro  H locs ls  hH hS hl
    refine lv_bipush (v := (-2)) hx hb dX11_together_16 (by decide) ?_
    exact te_i hx hb hr hlocks hH hS (⟨rfl, by decide, by decide⟩) dX11_together_18
  refine lv_if_eq (tgt := 16) hx hb dX11_together_5 (by decide) (fun c5 => ?_) (fun c5 => ?_)
  · skip
    have tc5 := f_eq (k := 0) (by decide) c5
    exact J16  _ _ _  hH hS (lv_sub hl [] rfl)
  · skip
    have tc5 := f_ne (k := 0) (by decide) c5
    refine lv_aload_n hx hb dX11_together_8 rfl (lv_at hl 0 rfl) ?_
    refine lv_iload_n hx hb dX11_together_9 rfl (lv_at hl 2 rfl) ?_
    refine tk_i hH hS hA (tr_V (n := 1) (As := [.int x2]) hx hb hml hown hts hkb hH hOX hks hE hS hA (s_FW_isGuide l D cs kf T O X a0 w hw gw ch gq x2 t_a0 t_w t_ch (hO.sub (by decide))) kw_794 kw_796 ks_20 kw_1 kw_797 (by decide +kernel) ⟨Nat.le_of_ble_eq_true rfl, Nat.le_of_ble_eq_true rfl⟩ (HT.recv (ci := 11) hkb hH t_a0 (hO.no t_a0 (by decide)) rfl) rfl rfl hl.1 (Nat.le_of_ble_eq_true rfl) dX11_together_10 ⟨Nat.le_of_ble_eq_true rfl, Nat.le_of_ble_eq_true rfl⟩) (fun v10 u H locs hz9 hH hS => ?_)
    obtain ⟨rfl, l_v10, u_v10, x_v100⟩ := hz9
    have hH : HT D cs A T O X H := hH
    refine W.widen (k := 0) (n := 0) (Nat.le_of_ble_eq_true rfl) (Nat.le_of_ble_eq_true rfl) ?_
    refine lv_if_ne (tgt := 19) hx hb dX11_together_13 (by decide) (fun c13 => ?_) (fun c13 => ?_)
    · skip
      have tc13 := f_ne (k := 0) (by decide) c13
      refine lv_aload_n hx hb dX11_together_19 rfl (lv_at hl 0 rfl) ?_
      refine lv_iload_n hx hb dX11_together_20 rfl (lv_at hl 1 rfl) ?_
      refine tk_r hH hS hA (tr_V (n := 1) (As := [.int x1]) hx hb hml hown hts hkb hH hOX hks hE hS hA (s_FW_rowsOf l D cs kf T O X a0 w hw gw ch gq x1 t_a0 t_w t_ch (by omega) (by omega) (hO.sub (by decide))) kw_830 kw_832 ks_21 kw_1 kw_833 (by decide +kernel) ⟨Nat.le_of_ble_eq_true rfl, Nat.le_of_ble_eq_true rfl⟩ (HT.recv (ci := 11) hkb hH t_a0 (hO.no t_a0 (by decide)) rfl) rfl rfl hl.1 (Nat.le_of_ble_eq_true rfl) dX11_together_21 ⟨Nat.le_of_ble_eq_true rfl, Nat.le_of_ble_eq_true rfl⟩) (fun v21 u H locs hz9 hH hS => ?_)
      obtain ⟨hu9, t_v21⟩ := hz9
      have hu9 : u = (T, O, X) := hu9
      subst hu9
      have hH : HT D cs A T O X H := hH
      refine W.widen (k := 0) (n := 0) (Nat.le_of_ble_eq_true rfl) (Nat.le_of_ble_eq_true rfl) ?_
      refine lv_astore_n (lv' := [(3, .ref v21), (0, .ref a0), (1, .int x1), (2, .int x2)]) hx hb dX11_together_24 rfl hl (by decide) rfl (fun ls hl => ?_)
      refine lv_aload_n hx hb dX11_together_25 rfl (lv_at hl 1 rfl) ?_
      refine lv_iload_n hx hb dX11_together_26 rfl (lv_at hl 3 rfl) ?_
      refine tk_r hH hS hA (tr_V (n := 1) (As := [.int x2]) hx hb hml hown hts hkb hH hOX hks hE hS hA (s_FW_rowsOf l D cs kf T O X a0 w hw gw ch gq x2 t_a0 t_w t_ch (by omega) (by omega) (hO.sub (by decide))) kw_830 kw_832 ks_21 kw_1 kw_833 (by decide +kernel) ⟨Nat.le_of_ble_eq_true rfl, Nat.le_of_ble_eq_true rfl⟩ (HT.recv (ci := 11) hkb hH t_a0 (hO.no t_a0 (by decide)) rfl) rfl rfl hl.1 (Nat.le_of_ble_eq_true rfl) dX11_together_27 ⟨Nat.le_of_ble_eq_true rfl, Nat.le_of_ble_eq_true rfl⟩) (fun v27 u H locs hz9 hH hS => ?_)
      obtain ⟨hu9, t_v27⟩ := hz9
      have hu9 : u = (T, O, X) := hu9
      subst hu9
      have hH : HT D cs A T O X H := hH
      refine W.widen (k := 0) (n := 0) (Nat.le_of_ble_eq_true rfl) (Nat.le_of_ble_eq_true rfl) ?_
      refine lv_astore (lv' := [(4, .ref v27), (3, .ref v21), (0, .ref a0), (1, .int x1), (2, .int x2)]) hx hb dX11_together_30 hl (by decide) rfl (fun ls hl => ?_)
      refine lv_aload_n hx hb dX11_together_32 rfl (lv_at hl 2 rfl) ?_
      refine tk_i hH hS hA (tr_V (n := 0) (As := []) hx hb hml hown hts hkb hH hOX hks hE hS hA (s_FW_openNow l D cs kf T O X a0 w hw gw ch gq t_a0 t_w t_ch (hO.sub (by decide))) kw_846 kw_848 ks_22 kw_1 kw_849 (by decide +kernel) ⟨Nat.le_of_ble_eq_true rfl, Nat.le_of_ble_eq_true rfl⟩ (HT.recv (ci := 11) hkb hH t_a0 (hO.no t_a0 (by decide)) rfl) rfl rfl hl.1 (Nat.le_of_ble_eq_true rfl) dX11_together_33 ⟨Nat.le_of_ble_eq_true rfl, Nat.le_of_ble_eq_true rfl⟩) (fun v33 u H locs hz9 hH hS => ?_)
      obtain ⟨rfl, l_v33, u_v33⟩ := hz9
      have hH : HT D cs A T O X H := hH
      refine W.widen (k := 0) (n := 0) (Nat.le_of_ble_eq_true rfl) (Nat.le_of_ble_eq_true rfl) ?_
      refine lv_istore (lv' := [(5, .int v33), (4, .ref v27), (3, .ref v21), (0, .ref a0), (1, .int x1), (2, .int x2)]) hx hb dX11_together_36 hl (by decide) rfl (fun ls hl => ?_)
      refine lv_iload hx hb dX11_together_38 (lv_at hl 0 rfl) ?_
      refine lv_aload_n hx hb dX11_together_40 rfl (lv_at hl 3 rfl) ?_
      refine t_get (ci := 11) (lst := ft11 w ch) (C := RX11) (F := TX11) (N := 20) hx hb hts uX11 hown hkb hH t_a0 (hO.no t_a0 (by decide)) (fun _ h9 => h9) rfl rfl 3 (by decide) rfl kw_363 (fun _ h9 => h9) dX11_together_41 (fun v9 h9 => ?_)
      have h9 : v9 = .ref w := h9
      subst h9
      refine tk_i hH hS hA (tr_V (n := 0) (As := []) hx hb hml hown hts hkb hH hOX hks hE hS hA (s_Wall_middles l D cs kf T O X w hw gw t_w (hO.sub (by decide))) kw_892 kw_683 kw_684 kw_5 kw_685 (by decide +kernel) ⟨Nat.le_of_ble_eq_true rfl, Nat.le_of_ble_eq_true rfl⟩ (HT.recv (ci := 9) hkb hH t_w.1 (hO.no t_w.1 (by decide)) rfl) rfl rfl hl.1 (Nat.le_of_ble_eq_true rfl) dX11_together_44 ⟨Nat.le_of_ble_eq_true rfl, Nat.le_of_ble_eq_true rfl⟩) (fun v44 u H locs hz9 hH hS => ?_)
      obtain ⟨rfl, l_v44, u_v44⟩ := hz9
      have hH : HT D cs A T O X H := hH
      refine W.widen (k := 0) (n := 0) (Nat.le_of_ble_eq_true rfl) (Nat.le_of_ble_eq_true rfl) ?_
      refine lv_iand hx hb dX11_together_47 ?_
      refine lv_topi (fun v47 ev47 => ?_)
      have tv47 : 0 ≤ v47.toInt ∧ v47.toInt ≤ v33.toInt := by rw [ev47]; exact and_l (by omega)
      have ttv47 : 0 ≤ v47.toInt ∧ v47.toInt ≤ v44.toInt := by rw [ev47]; exact and_r (by omega)
      refine lv_istore (lv' := [(6, .int v47), (5, .int v33), (4, .ref v27), (3, .ref v21), (0, .ref a0), (1, .int x1), (2, .int x2)]) hx hb dX11_together_48 hl (by decide) rfl (fun ls hl => ?_)
      refine lv_iload hx hb dX11_together_50 (lv_at hl 1 rfl) ?_
      refine lv_iload hx hb dX11_together_52 (lv_at hl 0 rfl) ?_
      refine lv_iconst (v := (-1)) hx hb dX11_together_54 (by decide) ?_
      refine lv_ixor hx hb dX11_together_55 ?_
      refine lv_topi (fun v55 ev55 => ?_)
      refine lv_iand hx hb dX11_together_56 ?_
      refine lv_topi (fun v56 ev56 => ?_)
      have tv56 : 0 ≤ v56.toInt ∧ v56.toInt ≤ v33.toInt := by rw [ev56]; exact and_l (by omega)
      refine lv_istore (lv' := [(7, .int v56), (6, .int v47), (5, .int v33), (4, .ref v27), (3, .ref v21), (0, .ref a0), (1, .int x1), (2, .int x2)]) hx hb dX11_together_57 hl (by decide) rfl (fun ls hl => ?_)
      refine lv_aload_n hx hb dX11_together_59 rfl (lv_at hl 4 rfl) ?_
      refine lv_iload hx hb dX11_together_60 (lv_at hl 2 rfl) ?_
      refine tk_i hH hS hA (tr_V (n := 1) (As := [.int v33]) hx hb hml hown hts hkb hH hOX hks hE hS hA (s_Rows_getsUp l D cs kf T O X v21 v33 t_v21 (hO.sub (by decide))) kw_1059 kw_1060 kw_1061 kw_8 kw_1062 (by decide +kernel) ⟨Nat.le_of_ble_eq_true rfl, Nat.le_of_ble_eq_true rfl⟩ (HT.recv (ci := 5) hkb hH t_v21 (hO.no t_v21 (by decide)) rfl) rfl rfl hl.1 (Nat.le_of_ble_eq_true rfl) dX11_together_62 ⟨Nat.le_of_ble_eq_true rfl, Nat.le_of_ble_eq_true rfl⟩) (fun v62 u H locs hz9 hH hS => ?_)
      obtain ⟨rfl, l_v62, u_v62⟩ := hz9
      have hH : HT D cs A T O X H := hH
      refine W.widen (k := 0) (n := 0) (Nat.le_of_ble_eq_true rfl) (Nat.le_of_ble_eq_true rfl) ?_
      have J78 : ∀  (H : Heap) (locs : List Loc) (ls : Array Slot), HT D cs A T O X H → va_S A s.heap H locs → lv_has ls 11 [] → W p l e { frames := 6, cells := 0, slots := 0, locals := 150 } s m [.ref a0, .int x1, .int x2].toArray below meth c H locs 0 0 (MQ below (Ti D cs (fun r u => u = (T, O, X) ∧ -2 ≤ r.toInt ∧ r.toInt ≤ 1) A) [.ref a0, .int x1, .int x2].toArray s 0 0 A) (F0 m 78 ls []) := by
        intro  H locs ls  hH hS hl
        refine lv_iconst (v := 0) hx hb dX11_together_78 (by decide) ?_
        exact te_i hx hb hr hlocks hH hS (⟨rfl, by decide, by decide⟩) dX11_together_79
      refine lv_if_eq (tgt := 78) hx hb dX11_together_65 (by decide) (fun c65 => ?_) (fun c65 => ?_)
      · skip
        have tc65 := f_eq (k := 0) (by decide) c65
        exact J78  _ _ _  hH hS (lv_sub hl [] rfl)
      · skip
        have tc65 := f_ne (k := 0) (by decide) c65
        refine lv_aload hx hb dX11_together_68 (lv_at hl 3 rfl) ?_
        refine lv_iload hx hb dX11_together_70 (lv_at hl 2 rfl) ?_
        refine tk_i hH hS hA (tr_V (n := 1) (As := [.int v33]) hx hb hml hown hts hkb hH hOX hks hE hS hA (s_Rows_getsUp l D cs kf T O X v27 v33 t_v27 (hO.sub (by decide))) kw_1059 kw_1060 kw_1061 kw_8 kw_1062 (by decide +kernel) ⟨Nat.le_of_ble_eq_true rfl, Nat.le_of_ble_eq_true rfl⟩ (HT.recv (ci := 5) hkb hH t_v27 (hO.no t_v27 (by decide)) rfl) rfl rfl hl.1 (Nat.le_of_ble_eq_true rfl) dX11_together_72 ⟨Nat.le_of_ble_eq_true rfl, Nat.le_of_ble_eq_true rfl⟩) (fun v72 u H locs hz9 hH hS => ?_)
        obtain ⟨rfl, l_v72, u_v72⟩ := hz9
        have hH : HT D cs A T O X H := hH
        refine W.widen (k := 0) (n := 0) (Nat.le_of_ble_eq_true rfl) (Nat.le_of_ble_eq_true rfl) ?_
        refine lv_if_ne (tgt := 80) hx hb dX11_together_75 (by decide) (fun c75 => ?_) (fun c75 => ?_)
        · skip
          have tc75 := f_ne (k := 0) (by decide) c75
          refine lv_iconst (v := 1) hx hb dX11_together_80 (by decide) ?_
          refine lv_iload hx hb dX11_together_81 (lv_at hl 1 rfl) ?_
          refine tk_i hH hS hA (tr_S (n := 1) (As := [.int v47]) hx hb hml hown hts hkb hH hOX hks hE hS hA (s_bitCount l D cs kf T O X v47  (hO.sub (by decide))) kw_893 kw_692 kw_20 kw_693 (by decide +kernel) ⟨Nat.le_of_ble_eq_true rfl, Nat.le_of_ble_eq_true rfl⟩ rfl rfl hl.1 (Nat.le_of_ble_eq_true rfl) dX11_together_83 ⟨Nat.le_of_ble_eq_true rfl, Nat.le_of_ble_eq_true rfl⟩) (fun v83 u H locs hz9 hH hS => ?_)
          obtain ⟨rfl, l_v83, u_v83⟩ := hz9
          have hH : HT D cs A T O X H := hH
          refine W.widen (k := 0) (n := 0) (Nat.le_of_ble_eq_true rfl) (Nat.le_of_ble_eq_true rfl) ?_
          refine lv_ishl hx hb dX11_together_86 ?_
          refine lv_topi (fun v86 ev86 => ?_)
          refine lv_istore (lv' := [(8, .int v86), (7, .int v56), (6, .int v47), (5, .int v33), (4, .ref v27), (3, .ref v21), (0, .ref a0), (1, .int x1), (2, .int x2)]) hx hb dX11_together_87 hl (by decide) rfl (fun ls hl => ?_)
          refine lv_iconst (v := 0) hx hb dX11_together_89 (by decide) ?_
          refine lv_istore (lv' := [(9, .int 0), (8, .int v86), (7, .int v56), (6, .int v47), (5, .int v33), (4, .ref v27), (3, .ref v21), (0, .ref a0), (1, .int x1), (2, .int x2)]) hx hb dX11_together_90 hl (by decide) rfl (fun ls hl => ?_)
          refine lv_iconst (v := 0) hx hb dX11_together_92 (by decide) ?_
          have J95 : ∀ (n : Nat) (p95_10 : Int32) (p95_9 : Int32) (H : Heap) (locs : List Loc) (ls : Array Slot), (2147483647 - p95_10.toInt).toNat = n → (0 ≤ p95_10.toInt) → (0 ≤ p95_9.toInt) → (p95_9.toInt ≤ 16383) → HT D cs A T O X H → va_S A s.heap H locs → lv_has ls 11 [(10, .int p95_10), (9, .int p95_9), (8, .int v86), (7, .int v56), (6, .int v47), (4, .ref v27), (3, .ref v21)] → W p l e { frames := 6, cells := 0, slots := 0, locals := 150 } s m [.ref a0, .int x1, .int x2].toArray below meth c H locs 0 0 (MQ below (Ti D cs (fun r u => u = (T, O, X) ∧ -2 ≤ r.toInt ∧ r.toInt ≤ 1) A) [.ref a0, .int x1, .int x2].toArray s 0 0 A) (F0 m 95 ls []) := by
            intro n
            induction n using Nat.strongRecOn with
            | _ n ih95 =>
              intro p95_10 p95_9 H locs ls hm95 l_p95_10 l_p95_9 u_p95_9 hH hS hl
              refine lv_iload hx hb dX11_together_95 (lv_at hl 0 rfl) ?_
              refine lv_iload hx hb dX11_together_97 (lv_at hl 2 rfl) ?_
              refine lv_icmp_ge (tgt := 150) hx hb dX11_together_99 (by decide) (fun c99 => ?_) (fun c99 => ?_)
              · skip
                have fuc99 := full_i p95_10
                have fvc99 := full_i v86
                have tc99 := g_le c99
                refine lv_iconst (v := 0) hx hb dX11_together_150 (by decide) ?_
                exact te_i hx hb hr hlocks hH hS (⟨rfl, by decide, by decide⟩) dX11_together_151
              · skip
                have fuc99 := full_i p95_10
                have fvc99 := full_i v86
                have tc99 := g_nle c99
                refine lv_aload_n hx hb dX11_together_102 rfl (lv_at hl 6 rfl) ?_
                refine lv_iload hx hb dX11_together_103 (lv_at hl 3 rfl) ?_
                refine lv_iload hx hb dX11_together_105 (lv_at hl 1 rfl) ?_
                refine lv_ior hx hb dX11_together_107 ?_
                refine lv_topi (fun v107 ev107 => ?_)
                have tv107 : 0 ≤ v107.toInt ∧ v107.toInt < 16384 := by rw [ev107]; exact or_b 14 (by decide) (by omega) (by omega) (by omega) (by omega)
                refine tk_i hH hS hA (tr_V (n := 1) (As := [.int v107]) hx hb hml hown hts hkb hH hOX hks hE hS hA (s_Rows_getsUp l D cs kf T O X v21 v107 t_v21 (hO.sub (by decide))) kw_1059 kw_1060 kw_1061 kw_8 kw_1062 (by decide +kernel) ⟨Nat.le_of_ble_eq_true rfl, Nat.le_of_ble_eq_true rfl⟩ (HT.recv (ci := 5) hkb hH t_v21 (hO.no t_v21 (by decide)) rfl) rfl rfl hl.1 (Nat.le_of_ble_eq_true rfl) dX11_together_108 ⟨Nat.le_of_ble_eq_true rfl, Nat.le_of_ble_eq_true rfl⟩) (fun v108 u H locs hz9 hH hS => ?_)
                obtain ⟨rfl, l_v108, u_v108⟩ := hz9
                have hH : HT D cs A T O X H := hH
                refine W.widen (k := 0) (n := 0) (Nat.le_of_ble_eq_true rfl) (Nat.le_of_ble_eq_true rfl) ?_
                have J134 : ∀  (H : Heap) (locs : List Loc) (ls : Array Slot), HT D cs A T O X H → va_S A s.heap H locs → lv_has ls 11 [(10, .int p95_10), (9, .int p95_9), (8, .int v86), (7, .int v56), (6, .int v47), (4, .ref v27), (3, .ref v21)] → W p l e { frames := 6, cells := 0, slots := 0, locals := 150 } s m [.ref a0, .int x1, .int x2].toArray below meth c H locs 0 0 (MQ below (Ti D cs (fun r u => u = (T, O, X) ∧ -2 ≤ r.toInt ∧ r.toInt ≤ 1) A) [.ref a0, .int x1, .int x2].toArray s 0 0 A) (F0 m 134 ls []) := by
                  intro  H locs ls  hH hS hl
                  refine lv_iload hx hb dX11_together_134 (lv_at hl 1 rfl) ?_
                  refine lv_iload hx hb dX11_together_136 (lv_at hl 4 rfl) ?_
                  refine lv_isub hx hb dX11_together_138 ?_
                  refine lv_topi (fun v138 ev138 => ?_)
                  have tv138 : v138.toInt = p95_9.toInt - v47.toInt := by rw [ev138]; exact sub_i rfl rfl (by omega) (by omega)
                  refine lv_iload hx hb dX11_together_139 (lv_at hl 4 rfl) ?_
                  refine lv_iand hx hb dX11_together_141 ?_
                  refine lv_topi (fun v141 ev141 => ?_)
                  have tv141 : 0 ≤ v141.toInt ∧ v141.toInt ≤ v47.toInt := by rw [ev141]; exact and_r (by omega)
                  refine lv_istore (lv' := [(9, .int v141), (10, .int p95_10), (8, .int v86), (7, .int v56), (6, .int v47), (4, .ref v27), (3, .ref v21)]) hx hb dX11_together_142 hl (by decide) rfl (fun ls hl => ?_)
                  obtain ⟨v144, ev144⟩ : ∃ y : Int32, y = p95_10 + 1 := ⟨_, rfl⟩
                  have tv144 : v144.toInt = p95_10.toInt + (1) := by rw [ev144]; exact add_i rfl (by decide) (by omega) (by omega)
                  refine lv_iinc (v := v144) (lv' := [(10, .int v144), (9, .int v141), (8, .int v86), (7, .int v56), (6, .int v47), (4, .ref v27), (3, .ref v21)]) hx hb dX11_together_144 hl (k := 1) rfl (by rw [ev144]; rfl) (by decide) rfl (fun ls hl => ?_)
                  refine lv_goto (tgt := 95) hx hb dX11_together_147 (by decide) ?_
                  exact ih95 _ (by omega) v144 v141 _ _ _ rfl (by omega) (by omega) (by omega) hH hS (lv_sub hl [0, 1, 2, 3, 4, 5, 6] rfl)
                refine lv_if_eq (tgt := 134) hx hb dX11_together_111 (by decide) (fun c111 => ?_) (fun c111 => ?_)
                · skip
                  have tc111 := f_eq (k := 0) (by decide) c111
                  exact J134  _ _ _  hH hS (lv_sub hl [0, 1, 2, 3, 4, 5, 6] rfl)
                · skip
                  have tc111 := f_ne (k := 0) (by decide) c111
                  refine lv_aload hx hb dX11_together_114 (lv_at hl 5 rfl) ?_
                  refine lv_iload hx hb dX11_together_116 (lv_at hl 3 rfl) ?_
                  refine lv_iload hx hb dX11_together_118 (lv_at hl 4 rfl) ?_
                  refine lv_iload hx hb dX11_together_120 (lv_at hl 1 rfl) ?_
                  refine lv_iconst (v := (-1)) hx hb dX11_together_122 (by decide) ?_
                  refine lv_ixor hx hb dX11_together_123 ?_
                  refine lv_topi (fun v123 ev123 => ?_)
                  refine lv_iand hx hb dX11_together_124 ?_
                  refine lv_topi (fun v124 ev124 => ?_)
                  have tv124 : 0 ≤ v124.toInt ∧ v124.toInt ≤ v47.toInt := by rw [ev124]; exact and_l (by omega)
                  refine lv_ior hx hb dX11_together_125 ?_
                  refine lv_topi (fun v125 ev125 => ?_)
                  have tv125 : 0 ≤ v125.toInt ∧ v125.toInt < 16384 := by rw [ev125]; exact or_b 14 (by decide) (by omega) (by omega) (by omega) (by omega)
                  refine tk_i hH hS hA (tr_V (n := 1) (As := [.int v125]) hx hb hml hown hts hkb hH hOX hks hE hS hA (s_Rows_getsUp l D cs kf T O X v27 v125 t_v27 (hO.sub (by decide))) kw_1059 kw_1060 kw_1061 kw_8 kw_1062 (by decide +kernel) ⟨Nat.le_of_ble_eq_true rfl, Nat.le_of_ble_eq_true rfl⟩ (HT.recv (ci := 5) hkb hH t_v27 (hO.no t_v27 (by decide)) rfl) rfl rfl hl.1 (Nat.le_of_ble_eq_true rfl) dX11_together_126 ⟨Nat.le_of_ble_eq_true rfl, Nat.le_of_ble_eq_true rfl⟩) (fun v126 u H locs hz9 hH hS => ?_)
                  obtain ⟨rfl, l_v126, u_v126⟩ := hz9
                  have hH : HT D cs A T O X H := hH
                  refine W.widen (k := 0) (n := 0) (Nat.le_of_ble_eq_true rfl) (Nat.le_of_ble_eq_true rfl) ?_
                  refine lv_if_eq (tgt := 134) hx hb dX11_together_129 (by decide) (fun c129 => ?_) (fun c129 => ?_)
                  · skip
                    have tc129 := f_eq (k := 0) (by decide) c129
                    exact J134  _ _ _  hH hS (lv_sub hl [0, 1, 2, 3, 4, 5, 6] rfl)
                  · skip
                    have tc129 := f_ne (k := 0) (by decide) c129
                    refine lv_iconst (v := 1) hx hb dX11_together_132 (by decide) ?_
                    exact te_i hx hb hr hlocks hH hS (⟨rfl, by decide, by decide⟩) dX11_together_133
          refine lv_istore (lv' := [(10, .int 0), (9, .int 0), (8, .int v86), (7, .int v56), (6, .int v47), (5, .int v33), (4, .ref v27), (3, .ref v21), (0, .ref a0), (1, .int x1), (2, .int x2)]) hx hb dX11_together_93 hl (by decide) rfl (fun ls hl => ?_)
          exact J95 _ 0 0 _ _ _ rfl (by decide) (by decide) (by decide) hH hS (lv_sub hl [0, 1, 2, 3, 4, 6, 7] rfl)
        · skip
          have tc75 := f_eq (k := 0) (by decide) c75
          exact J78  _ _ _  hH hS (lv_sub hl [] rfl)
    · skip
      have tc13 := f_eq (k := 0) (by decide) c13
      exact J16  _ _ _  hH hS (lv_sub hl [] rfl)
set_option maxHeartbeats 4000000 in
set_option maxRecDepth 100000 in
theorem s_FW_leastLeg (l : Launch) (D : va_G) (cs : CS) (kf : KF) (T : TF) (O : List Nat) (X : va_W) (a0 w hw gw ch gq : Nat) (x1 : Int32) (t_a0 : T a0 = some (21, w, ch)) (t_w : isW T w hw gw) (t_ch : T ch = some (10, gq, 0)) (hO : okO T O [1, 12, 15, 16, 19, 21]) : TK l D cs kf yX11_leastLeg cX11_leastLeg 4 (some (.int)) { frames := 6, cells := 0, slots := 0, locals := 150 } [.ref a0, .int x1] T O X (Ti D cs (fun r u => u = (T, O, X) ∧ -2 ≤ r.toInt ∧ r.toInt ≤ 99)) := by
  refine tk_of (by decide) (Nat.le_of_ble_eq_true rfl) (fun p e s m below meth c ls A H locs hx hb hr hml hown hts hlocks hnm hkb hH hS hA hOX hks hE hl => ?_)
  have hown : s.vm.findClass RX11 = some m.cls := hown
  have hl : lv_has ls 4 [(0, .ref a0), (1, .int x1)] := hl
  have b1_w := t_w.2.1
  have b2_w := t_w.2.2
  refine lv_aload_n hx hb dX11_leastLeg_0 rfl (lv_at hl 0 rfl) ?_
  refine lv_iload_n hx hb dX11_leastLeg_1 rfl (lv_at hl 1 rfl) ?_
  refine tk_i hH hS hA (tr_V (n := 1) (As := [.int x1]) hx hb hml hown hts hkb hH hOX hks hE hS hA (s_FW_isGuide l D cs kf T O X a0 w hw gw ch gq x1 t_a0 t_w t_ch (hO.sub (by decide))) kw_794 kw_796 ks_20 kw_1 kw_797 (by decide +kernel) ⟨Nat.le_of_ble_eq_true rfl, Nat.le_of_ble_eq_true rfl⟩ (HT.recv (ci := 11) hkb hH t_a0 (hO.no t_a0 (by decide)) rfl) rfl rfl hl.1 (Nat.le_of_ble_eq_true rfl) dX11_leastLeg_2 ⟨Nat.le_of_ble_eq_true rfl, Nat.le_of_ble_eq_true rfl⟩) (fun v2 u H locs hz9 hH hS => ?_)
  obtain ⟨rfl, l_v2, u_v2, x_v20⟩ := hz9
  have hH : HT D cs A T O X H := hH
  refine W.widen (k := 0) (n := 0) (Nat.le_of_ble_eq_true rfl) (Nat.le_of_ble_eq_true rfl) ?_
  refine lv_if_ne (tgt := 11) hx hb dX11_leastLeg_5 (by decide) (fun c5 => ?_) (fun c5 => ?_)
  · skip
    have tc5 := f_ne (k := 0) (by decide) c5
    refine lv_aload_n hx hb dX11_leastLeg_11 rfl (lv_at hl 0 rfl) ?_
    refine tk_i hH hS hA (tr_V (n := 0) (As := []) hx hb hml hown hts hkb hH hOX hks hE hS hA (s_FW_openNow l D cs kf T O X a0 w hw gw ch gq t_a0 t_w t_ch (hO.sub (by decide))) kw_846 kw_848 ks_22 kw_1 kw_849 (by decide +kernel) ⟨Nat.le_of_ble_eq_true rfl, Nat.le_of_ble_eq_true rfl⟩ (HT.recv (ci := 11) hkb hH t_a0 (hO.no t_a0 (by decide)) rfl) rfl rfl hl.1 (Nat.le_of_ble_eq_true rfl) dX11_leastLeg_12 ⟨Nat.le_of_ble_eq_true rfl, Nat.le_of_ble_eq_true rfl⟩) (fun v12 u H locs hz9 hH hS => ?_)
    obtain ⟨rfl, l_v12, u_v12⟩ := hz9
    have hH : HT D cs A T O X H := hH
    refine W.widen (k := 0) (n := 0) (Nat.le_of_ble_eq_true rfl) (Nat.le_of_ble_eq_true rfl) ?_
    refine lv_istore_n (lv' := [(2, .int v12), (0, .ref a0), (1, .int x1)]) hx hb dX11_leastLeg_15 rfl hl (by decide) rfl (fun ls hl => ?_)
    refine lv_iconst (v := 0) hx hb dX11_leastLeg_16 (by decide) ?_
    have J18 : ∀ (n : Nat) (p18_3 : Int32) (H : Heap) (locs : List Loc) (ls : Array Slot), (100 - p18_3.toInt).toNat = n → (0 ≤ p18_3.toInt) → (p18_3.toInt ≤ 100) → HT D cs A T O X H → va_S A s.heap H locs → lv_has ls 4 [(3, .int p18_3), (2, .int v12), (0, .ref a0), (1, .int x1)] → W p l e { frames := 6, cells := 0, slots := 0, locals := 150 } s m [.ref a0, .int x1].toArray below meth c H locs 0 0 (MQ below (Ti D cs (fun r u => u = (T, O, X) ∧ -2 ≤ r.toInt ∧ r.toInt ≤ 99) A) [.ref a0, .int x1].toArray s 0 0 A) (F0 m 18 ls []) := by
      intro n
      induction n using Nat.strongRecOn with
      | _ n ih18 =>
        intro p18_3 H locs ls hm18 l_p18_3 u_p18_3 hH hS hl
        refine lv_iload_n hx hb dX11_leastLeg_18 rfl (lv_at hl 0 rfl) ?_
        refine lv_bipush (v := 100) hx hb dX11_leastLeg_19 (by decide) ?_
        refine lv_icmp_ge (tgt := 71) hx hb dX11_leastLeg_21 (by decide) (fun c21 => ?_) (fun c21 => ?_)
        · skip
          have tc21 := f_ge (k := 100) (by decide) c21
          refine lv_iconst (v := (-1)) hx hb dX11_leastLeg_71 (by decide) ?_
          exact te_i hx hb hr hlocks hH hS (⟨rfl, by decide, by decide⟩) dX11_leastLeg_72
        · skip
          have tc21 := f_nge (k := 100) (by decide) c21
          refine lv_aload_n hx hb dX11_leastLeg_24 rfl (lv_at hl 2 rfl) ?_
          refine t_get (ci := 11) (lst := ft11 w ch) (C := RX11) (F := TX11) (N := 20) hx hb hts uX11 hown hkb hH t_a0 (hO.no t_a0 (by decide)) (fun _ h9 => h9) rfl rfl 13 (by decide) rfl kw_373 (fun _ h9 => h9) dX11_leastLeg_25 (fun v9 h9 => ?_)
          obtain ⟨v25, rfl, t_v25⟩ := h9
          refine lv_aload_n hx hb dX11_leastLeg_28 rfl (lv_at hl 2 rfl) ?_
          refine t_get (ci := 11) (lst := ft11 w ch) (C := RX11) (F := TX11) (N := 20) hx hb hts uX11 hown hkb hH t_a0 (hO.no t_a0 (by decide)) (fun _ h9 => h9) rfl rfl 3 (by decide) rfl kw_363 (fun _ h9 => h9) dX11_leastLeg_29 (fun v9 h9 => ?_)
          have h9 : v9 = .ref w := h9
          subst h9
          refine lv_iload_n hx hb dX11_leastLeg_32 rfl (lv_at hl 0 rfl) ?_
          refine lv_aload_n hx hb dX11_leastLeg_33 rfl (lv_at hl 2 rfl) ?_
          refine t_get (ci := 11) (lst := ft11 w ch) (C := RX11) (F := TX11) (N := 20) hx hb hts uX11 hown hkb hH t_a0 (hO.no t_a0 (by decide)) (fun _ h9 => h9) rfl rfl 3 (by decide) rfl kw_363 (fun _ h9 => h9) dX11_leastLeg_34 (fun v9 h9 => ?_)
          have h9 : v9 = .ref w := h9
          subst h9
          refine t_get (ci := 9) (lst := ft9w hw gw) (C := RX9) (F := TX9) (N := 14) hx hb hts uX9 hown hkb hH t_w.1 (hO.no t_w.1 (by decide)) (fun fs => (ob9w t_w fs).mp) rfl rfl 10 (by decide) rfl kw_145 (fun _ h9 => h9) dX11_leastLeg_37 (fun v9 h9 => ?_)
          obtain ⟨v37, rfl, t_v37⟩ := h9
          refine lv_iload_n hx hb dX11_leastLeg_40 rfl (lv_at hl 3 rfl) ?_
          refine t_ild hx hb hkb hH t_v37 (hO.no t_v37 (by decide)) (by omega) (by omega) dX11_leastLeg_41 (fun v41 h9 => ?_)
          refine lv_aload_n hx hb dX11_leastLeg_42 rfl (lv_at hl 2 rfl) ?_
          refine t_get (ci := 11) (lst := ft11 w ch) (C := RX11) (F := TX11) (N := 20) hx hb hts uX11 hown hkb hH t_a0 (hO.no t_a0 (by decide)) (fun _ h9 => h9) rfl rfl 4 (by decide) rfl kw_364 (fun _ h9 => h9) dX11_leastLeg_43 (fun v9 h9 => ?_)
          obtain ⟨v43, rfl, t_v43⟩ := h9
          refine t_get (ci := 6) (lst := ft6 0 0) (C := RX6) (F := TX6) (N := 6) hx hb hts uX6 hown hkb hH t_v43 (hO.no t_v43 (by decide)) (fun _ h9 => h9) rfl rfl 2 (by decide) rfl kw_191 (fun _ h9 => h9) dX11_leastLeg_46 (fun v9 h9 => ?_)
          obtain ⟨v46, rfl⟩ := h9
          refine tk_v hH hS hA (tr_V (n := 4) (As := [.ref w, .int p18_3, .int v41, .int v46]) hx hb hml hown hts hkb hH hOX hks hE hS hA (s_Rows_aim l D cs kf T O X v25 w hw gw p18_3 v41 v46 t_v25 t_w (hO.sub (by decide))) kw_834 kw_835 kw_836 kw_8 kw_837 (by decide +kernel) ⟨Nat.le_of_ble_eq_true rfl, Nat.le_of_ble_eq_true rfl⟩ (HT.recv (ci := 5) hkb hH t_v25 (hO.no t_v25 (by decide)) rfl) rfl rfl hl.1 (Nat.le_of_ble_eq_true rfl) dX11_leastLeg_49 ⟨Nat.le_of_ble_eq_true rfl, Nat.le_of_ble_eq_true rfl⟩) (fun u H locs hz9 hH hS => ?_)
          have hz9 : u = (T, O, X) := hz9
          subst hz9
          have hH : HT D cs A T O X H := hH
          refine W.widen (k := 0) (n := 0) (Nat.le_of_ble_eq_true rfl) (Nat.le_of_ble_eq_true rfl) ?_
          refine lv_aload_n hx hb dX11_leastLeg_52 rfl (lv_at hl 2 rfl) ?_
          refine t_get (ci := 11) (lst := ft11 w ch) (C := RX11) (F := TX11) (N := 20) hx hb hts uX11 hown hkb hH t_a0 (hO.no t_a0 (by decide)) (fun _ h9 => h9) rfl rfl 13 (by decide) rfl kw_373 (fun _ h9 => h9) dX11_leastLeg_53 (fun v9 h9 => ?_)
          obtain ⟨v53, rfl, t_v53⟩ := h9
          refine lv_iload_n hx hb dX11_leastLeg_56 rfl (lv_at hl 1 rfl) ?_
          refine tk_i hH hS hA (tr_V (n := 1) (As := [.int v12]) hx hb hml hown hts hkb hH hOX hks hE hS hA (s_Rows_getsUp l D cs kf T O X v53 v12 t_v53 (hO.sub (by decide))) kw_1059 kw_1060 kw_1061 kw_8 kw_1062 (by decide +kernel) ⟨Nat.le_of_ble_eq_true rfl, Nat.le_of_ble_eq_true rfl⟩ (HT.recv (ci := 5) hkb hH t_v53 (hO.no t_v53 (by decide)) rfl) rfl rfl hl.1 (Nat.le_of_ble_eq_true rfl) dX11_leastLeg_57 ⟨Nat.le_of_ble_eq_true rfl, Nat.le_of_ble_eq_true rfl⟩) (fun v57 u H locs hz9 hH hS => ?_)
          obtain ⟨rfl, l_v57, u_v57⟩ := hz9
          have hH : HT D cs A T O X H := hH
          refine W.widen (k := 0) (n := 0) (Nat.le_of_ble_eq_true rfl) (Nat.le_of_ble_eq_true rfl) ?_
          refine lv_if_eq (tgt := 65) hx hb dX11_leastLeg_60 (by decide) (fun c60 => ?_) (fun c60 => ?_)
          · skip
            have tc60 := f_eq (k := 0) (by decide) c60
            obtain ⟨v65, ev65⟩ : ∃ y : Int32, y = p18_3 + 1 := ⟨_, rfl⟩
            have tv65 : v65.toInt = p18_3.toInt + (1) := by rw [ev65]; exact add_i rfl (by decide) (by omega) (by omega)
            refine lv_iinc (v := v65) (lv' := [(3, .int v65), (2, .int v12), (0, .ref a0), (1, .int x1)]) hx hb dX11_leastLeg_65 hl (k := 0) rfl (by rw [ev65]; rfl) (by decide) rfl (fun ls hl => ?_)
            refine lv_goto (tgt := 18) hx hb dX11_leastLeg_68 (by decide) ?_
            exact ih18 _ (by omega) v65 _ _ _ rfl (by omega) (by omega) hH hS (lv_sub hl [0, 1, 2, 3] rfl)
          · skip
            have tc60 := f_ne (k := 0) (by decide) c60
            refine lv_iload_n hx hb dX11_leastLeg_63 rfl (lv_at hl 0 rfl) ?_
            exact te_i hx hb hr hlocks hH hS (⟨rfl, by omega, by omega⟩) dX11_leastLeg_64
    refine lv_istore_n (lv' := [(3, .int 0), (2, .int v12), (0, .ref a0), (1, .int x1)]) hx hb dX11_leastLeg_17 rfl hl (by decide) rfl (fun ls hl => ?_)
    exact J18 _ 0 _ _ _ rfl (by decide) (by decide) hH hS (lv_sub hl [0, 1, 2, 3] rfl)
  · skip
    have tc5 := f_eq (k := 0) (by decide) c5
    refine lv_bipush (v := (-2)) hx hb dX11_leastLeg_8 (by decide) ?_
    exact te_i hx hb hr hlocks hH hS (⟨rfl, by decide, by decide⟩) dX11_leastLeg_10
set_option maxHeartbeats 4000000 in
set_option maxRecDepth 100000 in
theorem s_FW_opens (l : Launch) (D : va_G) (cs : CS) (kf : KF) (T : TF) (O : List Nat) (X : va_W) (a0 w hw gw ch gq : Nat) (x1 : Int32) (t_a0 : T a0 = some (21, w, ch)) (t_w : isW T w hw gw) (t_ch : T ch = some (10, gq, 0)) (hO : okO T O [1, 12, 15, 16, 19, 21]) : TK l D cs kf yX11_opens cX11_opens 6 (some (.int)) { frames := 6, cells := 0, slots := 0, locals := 150 } [.ref a0, .int x1] T O X (Ti D cs (fun r u => u = (T, O, X))) := by
  refine tk_of (by decide) (Nat.le_of_ble_eq_true rfl) (fun p e s m below meth c ls A H locs hx hb hr hml hown hts hlocks hnm hkb hH hS hA hOX hks hE hl => ?_)
  have hown : s.vm.findClass RX11 = some m.cls := hown
  have hl : lv_has ls 6 [(0, .ref a0), (1, .int x1)] := hl
  have b1_w := t_w.2.1
  have b2_w := t_w.2.2
  refine lv_aload_n hx hb dX11_opens_0 rfl (lv_at hl 0 rfl) ?_
  refine lv_iload_n hx hb dX11_opens_1 rfl (lv_at hl 1 rfl) ?_
  refine tk_i hH hS hA (tr_V (n := 1) (As := [.int x1]) hx hb hml hown hts hkb hH hOX hks hE hS hA (s_FW_isGuide l D cs kf T O X a0 w hw gw ch gq x1 t_a0 t_w t_ch (hO.sub (by decide))) kw_794 kw_796 ks_20 kw_1 kw_797 (by decide +kernel) ⟨Nat.le_of_ble_eq_true rfl, Nat.le_of_ble_eq_true rfl⟩ (HT.recv (ci := 11) hkb hH t_a0 (hO.no t_a0 (by decide)) rfl) rfl rfl hl.1 (Nat.le_of_ble_eq_true rfl) dX11_opens_2 ⟨Nat.le_of_ble_eq_true rfl, Nat.le_of_ble_eq_true rfl⟩) (fun v2 u H locs hz9 hH hS => ?_)
  obtain ⟨rfl, l_v2, u_v2, x_v20⟩ := hz9
  have hH : HT D cs A T O X H := hH
  refine W.widen (k := 0) (n := 0) (Nat.le_of_ble_eq_true rfl) (Nat.le_of_ble_eq_true rfl) ?_
  refine lv_if_ne (tgt := 11) hx hb dX11_opens_5 (by decide) (fun c5 => ?_) (fun c5 => ?_)
  · skip
    have tc5 := f_ne (k := 0) (by decide) c5
    refine lv_iconst (v := 0) hx hb dX11_opens_11 (by decide) ?_
    refine lv_istore_n (lv' := [(2, .int 0), (0, .ref a0), (1, .int x1)]) hx hb dX11_opens_12 rfl hl (by decide) rfl (fun ls hl => ?_)
    refine lv_iconst (v := 0) hx hb dX11_opens_13 (by decide) ?_
    have J15 : ∀ (n : Nat) (p15_3 : Int32) (p15_2 : Int32) (H : Heap) (locs : List Loc) (ls : Array Slot), (200 - p15_3.toInt).toNat = n → (0 ≤ p15_3.toInt) → (p15_3.toInt ≤ 200) → (0 ≤ p15_2.toInt) → (p15_2.toInt ≤ 16383) → HT D cs A T O X H → va_S A s.heap H locs → lv_has ls 6 [(3, .int p15_3), (2, .int p15_2), (0, .ref a0), (1, .int x1)] → W p l e { frames := 6, cells := 0, slots := 0, locals := 150 } s m [.ref a0, .int x1].toArray below meth c H locs 0 0 (MQ below (Ti D cs (fun r u => u = (T, O, X)) A) [.ref a0, .int x1].toArray s 0 0 A) (F0 m 15 ls []) := by
      intro n
      induction n using Nat.strongRecOn with
      | _ n ih15 =>
        intro p15_3 p15_2 H locs ls hm15 l_p15_3 u_p15_3 l_p15_2 u_p15_2 hH hS hl
        refine lv_iload_n hx hb dX11_opens_15 rfl (lv_at hl 0 rfl) ?_
        refine lv_sipush (v := 200) hx hb dX11_opens_16 (by decide) ?_
        refine lv_icmp_ge (tgt := 116) hx hb dX11_opens_19 (by decide) (fun c19 => ?_) (fun c19 => ?_)
        · skip
          have tc19 := f_ge (k := 200) (by decide) c19
          refine lv_iconst (v := (-1)) hx hb dX11_opens_116 (by decide) ?_
          exact te_i hx hb hr hlocks hH hS (rfl) dX11_opens_117
        · skip
          have tc19 := f_nge (k := 200) (by decide) c19
          refine lv_aload_n hx hb dX11_opens_22 rfl (lv_at hl 2 rfl) ?_
          refine t_get (ci := 11) (lst := ft11 w ch) (C := RX11) (F := TX11) (N := 20) hx hb hts uX11 hown hkb hH t_a0 (hO.no t_a0 (by decide)) (fun _ h9 => h9) rfl rfl 4 (by decide) rfl kw_364 (fun _ h9 => h9) dX11_opens_23 (fun v9 h9 => ?_)
          obtain ⟨v23, rfl, t_v23⟩ := h9
          refine t_get (ci := 6) (lst := ft6 0 0) (C := RX6) (F := TX6) (N := 6) hx hb hts uX6 hown hkb hH t_v23 (hO.no t_v23 (by decide)) (fun _ h9 => h9) rfl rfl 2 (by decide) rfl kw_191 (fun _ h9 => h9) dX11_opens_26 (fun v9 h9 => ?_)
          obtain ⟨v26, rfl⟩ := h9
          refine lv_iload_n hx hb dX11_opens_29 rfl (lv_at hl 0 rfl) ?_
          refine lv_iadd hx hb dX11_opens_30 ?_
          refine lv_topi (fun v30 ev30 => ?_)
          refine lv_istore (lv' := [(4, .int v30), (3, .int p15_3), (2, .int p15_2), (0, .ref a0), (1, .int x1)]) hx hb dX11_opens_31 hl (by decide) rfl (fun ls hl => ?_)
          refine lv_aload_n hx hb dX11_opens_33 rfl (lv_at hl 3 rfl) ?_
          refine lv_iload hx hb dX11_opens_34 (lv_at hl 0 rfl) ?_
          refine tk_i hH hS hA (tr_V (n := 1) (As := [.int v30]) hx hb hml hown hts hkb hH hOX hks hE hS hA (s_FW_openOn l D cs kf T O X a0 w hw gw ch gq v30 t_a0 t_w t_ch (hO.sub (by decide))) kw_782 kw_784 ks_19 kw_1 kw_785 (by decide +kernel) ⟨Nat.le_of_ble_eq_true rfl, Nat.le_of_ble_eq_true rfl⟩ (HT.recv (ci := 11) hkb hH t_a0 (hO.no t_a0 (by decide)) rfl) rfl rfl hl.1 (Nat.le_of_ble_eq_true rfl) dX11_opens_36 ⟨Nat.le_of_ble_eq_true rfl, Nat.le_of_ble_eq_true rfl⟩) (fun v36 u H locs hz9 hH hS => ?_)
          obtain ⟨rfl, l_v36, u_v36⟩ := hz9
          have hH : HT D cs A T O X H := hH
          refine W.widen (k := 0) (n := 0) (Nat.le_of_ble_eq_true rfl) (Nat.le_of_ble_eq_true rfl) ?_
          refine lv_istore (lv' := [(5, .int v36), (4, .int v30), (3, .int p15_3), (2, .int p15_2), (0, .ref a0), (1, .int x1)]) hx hb dX11_opens_39 hl (by decide) rfl (fun ls hl => ?_)
          refine lv_iload_n hx hb dX11_opens_41 rfl (lv_at hl 2 rfl) ?_
          have J107 : ∀  (H : Heap) (locs : List Loc) (ls : Array Slot), HT D cs A T O X H → va_S A s.heap H locs → lv_has ls 6 [(5, .int v36), (3, .int p15_3), (0, .ref a0), (1, .int x1)] → W p l e { frames := 6, cells := 0, slots := 0, locals := 150 } s m [.ref a0, .int x1].toArray below meth c H locs 0 0 (MQ below (Ti D cs (fun r u => u = (T, O, X)) A) [.ref a0, .int x1].toArray s 0 0 A) (F0 m 107 ls []) := by
            intro  H locs ls  hH hS hl
            refine lv_iload hx hb dX11_opens_107 (lv_at hl 0 rfl) ?_
            refine lv_istore_n (lv' := [(2, .int v36), (5, .int v36), (3, .int p15_3), (0, .ref a0), (1, .int x1)]) hx hb dX11_opens_109 rfl hl (by decide) rfl (fun ls hl => ?_)
            obtain ⟨v110, ev110⟩ : ∃ y : Int32, y = p15_3 + 1 := ⟨_, rfl⟩
            have tv110 : v110.toInt = p15_3.toInt + (1) := by rw [ev110]; exact add_i rfl (by decide) (by omega) (by omega)
            refine lv_iinc (v := v110) (lv' := [(3, .int v110), (2, .int v36), (5, .int v36), (0, .ref a0), (1, .int x1)]) hx hb dX11_opens_110 hl (k := 2) rfl (by rw [ev110]; rfl) (by decide) rfl (fun ls hl => ?_)
            refine lv_goto (tgt := 15) hx hb dX11_opens_113 (by decide) ?_
            exact ih15 _ (by omega) v110 v36 _ _ _ rfl (by omega) (by omega) (by omega) (by omega) hH hS (lv_sub hl [0, 1, 3, 4] rfl)
          have J61 : ∀  (H : Heap) (locs : List Loc) (ls : Array Slot), HT D cs A T O X H → va_S A s.heap H locs → lv_has ls 6 [(5, .int v36), (4, .int v30), (3, .int p15_3), (0, .ref a0), (1, .int x1)] → W p l e { frames := 6, cells := 0, slots := 0, locals := 150 } s m [.ref a0, .int x1].toArray below meth c H locs 0 0 (MQ below (Ti D cs (fun r u => u = (T, O, X)) A) [.ref a0, .int x1].toArray s 0 0 A) (F0 m 61 ls []) := by
            intro  H locs ls  hH hS hl
            refine lv_aload_n hx hb dX11_opens_61 rfl (lv_at hl 3 rfl) ?_
            refine t_get (ci := 11) (lst := ft11 w ch) (C := RX11) (F := TX11) (N := 20) hx hb hts uX11 hown hkb hH t_a0 (hO.no t_a0 (by decide)) (fun _ h9 => h9) rfl rfl 13 (by decide) rfl kw_373 (fun _ h9 => h9) dX11_opens_62 (fun v9 h9 => ?_)
            obtain ⟨v62, rfl, t_v62⟩ := h9
            refine lv_aload_n hx hb dX11_opens_65 rfl (lv_at hl 3 rfl) ?_
            refine t_get (ci := 11) (lst := ft11 w ch) (C := RX11) (F := TX11) (N := 20) hx hb hts uX11 hown hkb hH t_a0 (hO.no t_a0 (by decide)) (fun _ h9 => h9) rfl rfl 3 (by decide) rfl kw_363 (fun _ h9 => h9) dX11_opens_66 (fun v9 h9 => ?_)
            have h9 : v9 = .ref w := h9
            subst h9
            refine lv_aload_n hx hb dX11_opens_69 rfl (lv_at hl 3 rfl) ?_
            refine t_get (ci := 11) (lst := ft11 w ch) (C := RX11) (F := TX11) (N := 20) hx hb hts uX11 hown hkb hH t_a0 (hO.no t_a0 (by decide)) (fun _ h9 => h9) rfl rfl 3 (by decide) rfl kw_363 (fun _ h9 => h9) dX11_opens_70 (fun v9 h9 => ?_)
            have h9 : v9 = .ref w := h9
            subst h9
            refine t_get (ci := 9) (lst := ft9w hw gw) (C := RX9) (F := TX9) (N := 14) hx hb hts uX9 hown hkb hH t_w.1 (hO.no t_w.1 (by decide)) (fun fs => (ob9w t_w fs).mp) rfl rfl 9 (by decide) rfl kw_142 (fun _ h9 => h9) dX11_opens_73 (fun v9 h9 => ?_)
            obtain ⟨v73, rfl, t_v73⟩ := h9
            refine lv_iload_n hx hb dX11_opens_76 rfl (lv_at hl 4 rfl) ?_
            refine t_ild hx hb hkb hH t_v73 (hO.no t_v73 (by decide)) (by omega) (by omega) dX11_opens_77 (fun v77 h9 => ?_)
            refine lv_aload_n hx hb dX11_opens_78 rfl (lv_at hl 3 rfl) ?_
            refine t_get (ci := 11) (lst := ft11 w ch) (C := RX11) (F := TX11) (N := 20) hx hb hts uX11 hown hkb hH t_a0 (hO.no t_a0 (by decide)) (fun _ h9 => h9) rfl rfl 3 (by decide) rfl kw_363 (fun _ h9 => h9) dX11_opens_79 (fun v9 h9 => ?_)
            have h9 : v9 = .ref w := h9
            subst h9
            refine t_get (ci := 9) (lst := ft9w hw gw) (C := RX9) (F := TX9) (N := 14) hx hb hts uX9 hown hkb hH t_w.1 (hO.no t_w.1 (by decide)) (fun fs => (ob9w t_w fs).mp) rfl rfl 10 (by decide) rfl kw_145 (fun _ h9 => h9) dX11_opens_82 (fun v9 h9 => ?_)
            obtain ⟨v82, rfl, t_v82⟩ := h9
            refine lv_iload_n hx hb dX11_opens_85 rfl (lv_at hl 4 rfl) ?_
            refine t_ild hx hb hkb hH t_v82 (hO.no t_v82 (by decide)) (by omega) (by omega) dX11_opens_86 (fun v86 h9 => ?_)
            refine lv_iload hx hb dX11_opens_87 (lv_at hl 1 rfl) ?_
            refine tk_v hH hS hA (tr_V (n := 4) (As := [.ref w, .int v77, .int v86, .int v30]) hx hb hml hown hts hkb hH hOX hks hE hS hA (s_Rows_aim l D cs kf T O X v62 w hw gw v77 v86 v30 t_v62 t_w (hO.sub (by decide))) kw_834 kw_835 kw_836 kw_8 kw_837 (by decide +kernel) ⟨Nat.le_of_ble_eq_true rfl, Nat.le_of_ble_eq_true rfl⟩ (HT.recv (ci := 5) hkb hH t_v62 (hO.no t_v62 (by decide)) rfl) rfl rfl hl.1 (Nat.le_of_ble_eq_true rfl) dX11_opens_89 ⟨Nat.le_of_ble_eq_true rfl, Nat.le_of_ble_eq_true rfl⟩) (fun u H locs hz9 hH hS => ?_)
            have hz9 : u = (T, O, X) := hz9
            subst hz9
            have hH : HT D cs A T O X H := hH
            refine W.widen (k := 0) (n := 0) (Nat.le_of_ble_eq_true rfl) (Nat.le_of_ble_eq_true rfl) ?_
            refine lv_aload_n hx hb dX11_opens_92 rfl (lv_at hl 3 rfl) ?_
            refine t_get (ci := 11) (lst := ft11 w ch) (C := RX11) (F := TX11) (N := 20) hx hb hts uX11 hown hkb hH t_a0 (hO.no t_a0 (by decide)) (fun _ h9 => h9) rfl rfl 13 (by decide) rfl kw_373 (fun _ h9 => h9) dX11_opens_93 (fun v9 h9 => ?_)
            obtain ⟨v93, rfl, t_v93⟩ := h9
            refine lv_iload hx hb dX11_opens_96 (lv_at hl 0 rfl) ?_
            refine tk_i hH hS hA (tr_V (n := 1) (As := [.int v36]) hx hb hml hown hts hkb hH hOX hks hE hS hA (s_Rows_getsUp l D cs kf T O X v93 v36 t_v93 (hO.sub (by decide))) kw_1059 kw_1060 kw_1061 kw_8 kw_1062 (by decide +kernel) ⟨Nat.le_of_ble_eq_true rfl, Nat.le_of_ble_eq_true rfl⟩ (HT.recv (ci := 5) hkb hH t_v93 (hO.no t_v93 (by decide)) rfl) rfl rfl hl.1 (Nat.le_of_ble_eq_true rfl) dX11_opens_98 ⟨Nat.le_of_ble_eq_true rfl, Nat.le_of_ble_eq_true rfl⟩) (fun v98 u H locs hz9 hH hS => ?_)
            obtain ⟨rfl, l_v98, u_v98⟩ := hz9
            have hH : HT D cs A T O X H := hH
            refine W.widen (k := 0) (n := 0) (Nat.le_of_ble_eq_true rfl) (Nat.le_of_ble_eq_true rfl) ?_
            refine lv_if_eq (tgt := 107) hx hb dX11_opens_101 (by decide) (fun c101 => ?_) (fun c101 => ?_)
            · skip
              have tc101 := f_eq (k := 0) (by decide) c101
              exact J107  _ _ _  hH hS (lv_sub hl [0, 2, 3, 4] rfl)
            · skip
              have tc101 := f_ne (k := 0) (by decide) c101
              refine lv_iload hx hb dX11_opens_104 (lv_at hl 1 rfl) ?_
              exact te_i hx hb hr hlocks hH hS (rfl) dX11_opens_106
          refine lv_if_eq (tgt := 61) hx hb dX11_opens_42 (by decide) (fun c42 => ?_) (fun c42 => ?_)
          · skip
            have tc42 := f_eq (k := 0) (by decide) c42
            exact J61  _ _ _  hH hS (lv_sub hl [0, 1, 2, 4, 5] rfl)
          · skip
            have tc42 := f_ne (k := 0) (by decide) c42
            refine lv_iload hx hb dX11_opens_45 (lv_at hl 0 rfl) ?_
            refine lv_iload_n hx hb dX11_opens_47 rfl (lv_at hl 3 rfl) ?_
            refine lv_icmp_ne (tgt := 61) hx hb dX11_opens_48 (by decide) (fun c48 => ?_) (fun c48 => ?_)
            · skip
              have fuc48 := full_i v36
              have fvc48 := full_i p15_2
              have tc48 := g_ne c48
              exact J61  _ _ _  hH hS (lv_sub hl [0, 1, 2, 4, 5] rfl)
            · skip
              have fuc48 := full_i v36
              have fvc48 := full_i p15_2
              have tc48 := g_eq c48
              refine lv_aload_n hx hb dX11_opens_51 rfl (lv_at hl 4 rfl) ?_
              refine t_get (ci := 11) (lst := ft11 w ch) (C := RX11) (F := TX11) (N := 20) hx hb hts uX11 hown hkb hH t_a0 (hO.no t_a0 (by decide)) (fun _ h9 => h9) rfl rfl 3 (by decide) rfl kw_363 (fun _ h9 => h9) dX11_opens_52 (fun v9 h9 => ?_)
              have h9 : v9 = .ref w := h9
              subst h9
              refine tk_i hH hS hA (tr_V (n := 0) (As := []) hx hb hml hown hts hkb hH hOX hks hE hS hA (s_Wall_asksDay l D cs kf T O X w hw gw t_w (hO.sub (by decide))) kw_1118 kw_843 kw_844 kw_5 kw_845 (by decide +kernel) ⟨Nat.le_of_ble_eq_true rfl, Nat.le_of_ble_eq_true rfl⟩ (HT.recv (ci := 9) hkb hH t_w.1 (hO.no t_w.1 (by decide)) rfl) rfl rfl hl.1 (Nat.le_of_ble_eq_true rfl) dX11_opens_55 ⟨Nat.le_of_ble_eq_true rfl, Nat.le_of_ble_eq_true rfl⟩) (fun v55 u H locs hz9 hH hS => ?_)
              obtain ⟨rfl, l_v55, u_v55⟩ := hz9
              have hH : HT D cs A T O X H := hH
              refine W.widen (k := 0) (n := 0) (Nat.le_of_ble_eq_true rfl) (Nat.le_of_ble_eq_true rfl) ?_
              refine lv_if_eq (tgt := 107) hx hb dX11_opens_58 (by decide) (fun c58 => ?_) (fun c58 => ?_)
              · skip
                have tc58 := f_eq (k := 0) (by decide) c58
                exact J107  _ _ _  hH hS (lv_sub hl [0, 2, 4, 5] rfl)
              · skip
                have tc58 := f_ne (k := 0) (by decide) c58
                exact J61  _ _ _  hH hS (lv_sub hl [0, 1, 2, 4, 5] rfl)
    refine lv_istore_n (lv' := [(3, .int 0), (2, .int 0), (0, .ref a0), (1, .int x1)]) hx hb dX11_opens_14 rfl hl (by decide) rfl (fun ls hl => ?_)
    exact J15 _ 0 0 _ _ _ rfl (by decide) (by decide) (by decide) (by decide) hH hS (lv_sub hl [0, 1, 2, 3] rfl)
  · skip
    have tc5 := f_eq (k := 0) (by decide) c5
    refine lv_bipush (v := (-2)) hx hb dX11_opens_8 (by decide) ?_
    exact te_i hx hb hr hlocks hH hS (rfl) dX11_opens_10
set_option maxHeartbeats 4000000 in
set_option maxRecDepth 100000 in
theorem s_FW_dearest (l : Launch) (D : va_G) (cs : CS) (kf : KF) (T : TF) (O : List Nat) (X : va_W) (a0 w hw gw ch gq : Nat) (x1 : Int32) (t_a0 : T a0 = some (21, w, ch)) (t_w : isW T w hw gw) (t_ch : T ch = some (10, gq, 0)) (hO : okO T O [1, 7, 11, 12, 15, 16, 19, 21]) : TK l D cs kf yX11_dearest cX11_dearest 7 (some (.int)) { frames := 6, cells := 0, slots := 0, locals := 156 } [.ref a0, .int x1] T O X (Ti D cs (fun r u => u = (T, O, X) ∧ -2 ≤ r.toInt ∧ r.toInt ≤ 13)) := by
  refine tk_of (by decide) (Nat.le_of_ble_eq_true rfl) (fun p e s m below meth c ls A H locs hx hb hr hml hown hts hlocks hnm hkb hH hS hA hOX hks hE hl => ?_)
  have hown : s.vm.findClass RX11 = some m.cls := hown
  have hl : lv_has ls 7 [(0, .ref a0), (1, .int x1)] := hl
  have b1_w := t_w.2.1
  have b2_w := t_w.2.2
  refine lv_aload_n hx hb dX11_dearest_0 rfl (lv_at hl 0 rfl) ?_
  refine lv_iload_n hx hb dX11_dearest_1 rfl (lv_at hl 1 rfl) ?_
  refine tk_i hH hS hA (tr_V (n := 1) (As := [.int x1]) hx hb hml hown hts hkb hH hOX hks hE hS hA (s_FW_isGuide l D cs kf T O X a0 w hw gw ch gq x1 t_a0 t_w t_ch (hO.sub (by decide))) kw_794 kw_796 ks_20 kw_1 kw_797 (by decide +kernel) ⟨Nat.le_of_ble_eq_true rfl, Nat.le_of_ble_eq_true rfl⟩ (HT.recv (ci := 11) hkb hH t_a0 (hO.no t_a0 (by decide)) rfl) rfl rfl hl.1 (Nat.le_of_ble_eq_true rfl) dX11_dearest_2 ⟨Nat.le_of_ble_eq_true rfl, Nat.le_of_ble_eq_true rfl⟩) (fun v2 u H locs hz9 hH hS => ?_)
  obtain ⟨rfl, l_v2, u_v2, x_v20⟩ := hz9
  have hH : HT D cs A T O X H := hH
  refine W.widen (k := 0) (n := 0) (Nat.le_of_ble_eq_true rfl) (Nat.le_of_ble_eq_true rfl) ?_
  refine lv_if_ne (tgt := 11) hx hb dX11_dearest_5 (by decide) (fun c5 => ?_) (fun c5 => ?_)
  · skip
    have tc5 := f_ne (k := 0) (by decide) c5
    refine lv_aload_n hx hb dX11_dearest_11 rfl (lv_at hl 0 rfl) ?_
    refine lv_iload_n hx hb dX11_dearest_12 rfl (lv_at hl 1 rfl) ?_
    refine tk_r hH hS hA (tr_V (n := 1) (As := [.int x1]) hx hb hml hown hts hkb hH hOX hks hE hS hA (s_FW_rowsOf l D cs kf T O X a0 w hw gw ch gq x1 t_a0 t_w t_ch (by omega) (by omega) (hO.sub (by decide))) kw_830 kw_832 ks_21 kw_1 kw_833 (by decide +kernel) ⟨Nat.le_of_ble_eq_true rfl, Nat.le_of_ble_eq_true rfl⟩ (HT.recv (ci := 11) hkb hH t_a0 (hO.no t_a0 (by decide)) rfl) rfl rfl hl.1 (Nat.le_of_ble_eq_true rfl) dX11_dearest_13 ⟨Nat.le_of_ble_eq_true rfl, Nat.le_of_ble_eq_true rfl⟩) (fun v13 u H locs hz9 hH hS => ?_)
    obtain ⟨hu9, t_v13⟩ := hz9
    have hu9 : u = (T, O, X) := hu9
    subst hu9
    have hH : HT D cs A T O X H := hH
    refine W.widen (k := 0) (n := 0) (Nat.le_of_ble_eq_true rfl) (Nat.le_of_ble_eq_true rfl) ?_
    refine lv_astore_n (lv' := [(2, .ref v13), (0, .ref a0), (1, .int x1)]) hx hb dX11_dearest_16 rfl hl (by decide) rfl (fun ls hl => ?_)
    refine lv_aload_n hx hb dX11_dearest_17 rfl (lv_at hl 1 rfl) ?_
    refine tk_i hH hS hA (tr_V (n := 0) (As := []) hx hb hml hown hts hkb hH hOX hks hE hS hA (s_FW_openNow l D cs kf T O X a0 w hw gw ch gq t_a0 t_w t_ch (hO.sub (by decide))) kw_846 kw_848 ks_22 kw_1 kw_849 (by decide +kernel) ⟨Nat.le_of_ble_eq_true rfl, Nat.le_of_ble_eq_true rfl⟩ (HT.recv (ci := 11) hkb hH t_a0 (hO.no t_a0 (by decide)) rfl) rfl rfl hl.1 (Nat.le_of_ble_eq_true rfl) dX11_dearest_18 ⟨Nat.le_of_ble_eq_true rfl, Nat.le_of_ble_eq_true rfl⟩) (fun v18 u H locs hz9 hH hS => ?_)
    obtain ⟨rfl, l_v18, u_v18⟩ := hz9
    have hH : HT D cs A T O X H := hH
    refine W.widen (k := 0) (n := 0) (Nat.le_of_ble_eq_true rfl) (Nat.le_of_ble_eq_true rfl) ?_
    refine lv_istore_n (lv' := [(3, .int v18), (2, .ref v13), (0, .ref a0), (1, .int x1)]) hx hb dX11_dearest_21 rfl hl (by decide) rfl (fun ls hl => ?_)
    refine lv_iload_n hx hb dX11_dearest_22 rfl (lv_at hl 0 rfl) ?_
    refine lv_aload_n hx hb dX11_dearest_23 rfl (lv_at hl 2 rfl) ?_
    refine t_get (ci := 11) (lst := ft11 w ch) (C := RX11) (F := TX11) (N := 20) hx hb hts uX11 hown hkb hH t_a0 (hO.no t_a0 (by decide)) (fun _ h9 => h9) rfl rfl 3 (by decide) rfl kw_363 (fun _ h9 => h9) dX11_dearest_24 (fun v9 h9 => ?_)
    have h9 : v9 = .ref w := h9
    subst h9
    refine tk_i hH hS hA (tr_V (n := 0) (As := []) hx hb hml hown hts hkb hH hOX hks hE hS hA (s_Wall_middles l D cs kf T O X w hw gw t_w (hO.sub (by decide))) kw_892 kw_683 kw_684 kw_5 kw_685 (by decide +kernel) ⟨Nat.le_of_ble_eq_true rfl, Nat.le_of_ble_eq_true rfl⟩ (HT.recv (ci := 9) hkb hH t_w.1 (hO.no t_w.1 (by decide)) rfl) rfl rfl hl.1 (Nat.le_of_ble_eq_true rfl) dX11_dearest_27 ⟨Nat.le_of_ble_eq_true rfl, Nat.le_of_ble_eq_true rfl⟩) (fun v27 u H locs hz9 hH hS => ?_)
    obtain ⟨rfl, l_v27, u_v27⟩ := hz9
    have hH : HT D cs A T O X H := hH
    refine W.widen (k := 0) (n := 0) (Nat.le_of_ble_eq_true rfl) (Nat.le_of_ble_eq_true rfl) ?_
    refine lv_iand hx hb dX11_dearest_30 ?_
    refine lv_topi (fun v30 ev30 => ?_)
    have tv30 : 0 ≤ v30.toInt ∧ v30.toInt ≤ v18.toInt := by rw [ev30]; exact and_l (by omega)
    have ttv30 : 0 ≤ v30.toInt ∧ v30.toInt ≤ v27.toInt := by rw [ev30]; exact and_r (by omega)
    refine lv_istore (lv' := [(4, .int v30), (3, .int v18), (2, .ref v13), (0, .ref a0), (1, .int x1)]) hx hb dX11_dearest_31 hl (by decide) rfl (fun ls hl => ?_)
    refine lv_aload_n hx hb dX11_dearest_33 rfl (lv_at hl 3 rfl) ?_
    refine t_get (ci := 11) (lst := ft11 w ch) (C := RX11) (F := TX11) (N := 20) hx hb hts uX11 hown hkb hH t_a0 (hO.no t_a0 (by decide)) (fun _ h9 => h9) rfl rfl 15 (by decide) rfl kw_375 (fun _ h9 => h9) dX11_dearest_34 (fun v9 h9 => ?_)
    obtain ⟨v34, rfl, t_v34⟩ := h9
    refine lv_aload_n hx hb dX11_dearest_37 rfl (lv_at hl 2 rfl) ?_
    refine lv_iload_n hx hb dX11_dearest_38 rfl (lv_at hl 1 rfl) ?_
    refine lv_iload hx hb dX11_dearest_39 (lv_at hl 0 rfl) ?_
    refine tk_i hH hS hA (tr_V (n := 3) (As := [.ref v13, .int v18, .int v30]) hx hb hml hown hts hkb hH hOX hks hE hS hA (s_Cut_fewest l D cs kf T O X v34 v13 v18 v30 t_v34 t_v13 (hO.sub (by decide))) kw_1014 kw_1015 kw_1016 kw_10 kw_1017 (by decide +kernel) ⟨Nat.le_of_ble_eq_true rfl, Nat.le_of_ble_eq_true rfl⟩ (HT.recv (ci := 1) hkb hH t_v34 (hO.no t_v34 (by decide)) rfl) rfl rfl hl.1 (Nat.le_of_ble_eq_true rfl) dX11_dearest_41 ⟨Nat.le_of_ble_eq_true rfl, Nat.le_of_ble_eq_true rfl⟩) (fun v41 u H locs hz9 hH hS => ?_)
    obtain ⟨rfl, l_v41, u_v41⟩ := hz9
    have hH : HT D cs A T O X H := hH
    refine W.widen (k := 0) (n := 0) (Nat.le_of_ble_eq_true rfl) (Nat.le_of_ble_eq_true rfl) ?_
    refine lv_istore (lv' := [(5, .int v41), (4, .int v30), (3, .int v18), (2, .ref v13), (0, .ref a0), (1, .int x1)]) hx hb dX11_dearest_44 hl (by decide) rfl (fun ls hl => ?_)
    refine lv_iload hx hb dX11_dearest_46 (lv_at hl 0 rfl) ?_
    have J58 : ∀  (H : Heap) (locs : List Loc) (ls : Array Slot), HT D cs A T O X H → va_S A s.heap H locs → lv_has ls 7 [] → W p l e { frames := 6, cells := 0, slots := 0, locals := 156 } s m [.ref a0, .int x1].toArray below meth c H locs 0 0 (MQ below (Ti D cs (fun r u => u = (T, O, X) ∧ -2 ≤ r.toInt ∧ r.toInt ≤ 13) A) [.ref a0, .int x1].toArray s 0 0 A) (F0 m 58 ls []) := by
      intro  H locs ls  hH hS hl
      refine lv_iconst (v := (-1)) hx hb dX11_dearest_58 (by decide) ?_
      exact te_i hx hb hr hlocks hH hS (⟨rfl, by decide, by decide⟩) dX11_dearest_59
    refine lv_if_eq (tgt := 58) hx hb dX11_dearest_48 (by decide) (fun c48 => ?_) (fun c48 => ?_)
    · skip
      have tc48 := f_eq (k := 0) (by decide) c48
      exact J58  _ _ _  hH hS (lv_sub hl [] rfl)
    · skip
      have tc48 := f_ne (k := 0) (by decide) c48
      refine lv_iload hx hb dX11_dearest_51 (lv_at hl 0 rfl) ?_
      refine lv_bipush (v := 99) hx hb dX11_dearest_53 (by decide) ?_
      refine lv_icmp_ne (tgt := 60) hx hb dX11_dearest_55 (by decide) (fun c55 => ?_) (fun c55 => ?_)
      · skip
        have tc55 := f_ne (k := 99) (by decide) c55
        refine lv_iconst (v := 0) hx hb dX11_dearest_60 (by decide) ?_
        have J63 : ∀ (n : Nat) (p63_6 : Int32) (H : Heap) (locs : List Loc) (ls : Array Slot), (14 - p63_6.toInt).toNat = n → (0 ≤ p63_6.toInt) → (p63_6.toInt ≤ 14) → HT D cs A T O X H → va_S A s.heap H locs → lv_has ls 7 [(6, .int p63_6), (5, .int v41), (4, .int v30), (3, .int v18), (2, .ref v13), (0, .ref a0)] → W p l e { frames := 6, cells := 0, slots := 0, locals := 156 } s m [.ref a0, .int x1].toArray below meth c H locs 0 0 (MQ below (Ti D cs (fun r u => u = (T, O, X) ∧ -2 ≤ r.toInt ∧ r.toInt ≤ 13) A) [.ref a0, .int x1].toArray s 0 0 A) (F0 m 63 ls []) := by
          intro n
          induction n using Nat.strongRecOn with
          | _ n ih63 =>
            intro p63_6 H locs ls hm63 l_p63_6 u_p63_6 hH hS hl
            refine lv_iload hx hb dX11_dearest_63 (lv_at hl 0 rfl) ?_
            refine lv_aload_n hx hb dX11_dearest_65 rfl (lv_at hl 5 rfl) ?_
            refine t_get (ci := 11) (lst := ft11 w ch) (C := RX11) (F := TX11) (N := 20) hx hb hts uX11 hown hkb hH t_a0 (hO.no t_a0 (by decide)) (fun _ h9 => h9) rfl rfl 3 (by decide) rfl kw_363 (fun _ h9 => h9) dX11_dearest_66 (fun v9 h9 => ?_)
            have h9 : v9 = .ref w := h9
            subst h9
            refine t_get (ci := 9) (lst := ft9w hw gw) (C := RX9) (F := TX9) (N := 14) hx hb hts uX9 hown hkb hH t_w.1 (hO.no t_w.1 (by decide)) (fun fs => (ob9w t_w fs).mp) rfl rfl 0 (by decide) rfl kw_109 (fun _ h9 => h9) dX11_dearest_69 (fun v9 h9 => ?_)
            have h9 : v9 = .int (nI hw) := h9
            subst h9
            have e_hw : (nI hw).toInt = hw := nI_toInt (by have := t_w.2.1; omega)
            have b_hw := t_w.2.1
            refine lv_icmp_ge (tgt := 117) hx hb dX11_dearest_72 (by decide) (fun c72 => ?_) (fun c72 => ?_)
            · skip
              have fuc72 := full_i p63_6
              have fvc72 := full_i (nI hw)
              have tc72 := g_le c72
              refine lv_iconst (v := (-1)) hx hb dX11_dearest_117 (by decide) ?_
              exact te_i hx hb hr hlocks hH hS (⟨rfl, by decide, by decide⟩) dX11_dearest_118
            · skip
              have fuc72 := full_i p63_6
              have fvc72 := full_i (nI hw)
              have tc72 := g_nle c72
              refine lv_iload hx hb dX11_dearest_75 (lv_at hl 2 rfl) ?_
              refine lv_iload hx hb dX11_dearest_77 (lv_at hl 0 rfl) ?_
              refine lv_ishr hx hb dX11_dearest_79 ?_
              refine lv_topi (fun v79 ev79 => ?_)
              have tv79 : 0 ≤ v79.toInt ∧ v79.toInt ≤ v30.toInt := by rw [ev79]; exact shr_b (by omega)
              refine lv_iconst (v := 1) hx hb dX11_dearest_80 (by decide) ?_
              refine lv_iand hx hb dX11_dearest_81 ?_
              refine lv_topi (fun v81 ev81 => ?_)
              have tv81 : 0 ≤ v81.toInt ∧ v81.toInt ≤ 1 := by rw [ev81]; exact and_r (by decide)
              have J111 : ∀  (H : Heap) (locs : List Loc) (ls : Array Slot), HT D cs A T O X H → va_S A s.heap H locs → lv_has ls 7 [(6, .int p63_6), (5, .int v41), (4, .int v30), (3, .int v18), (2, .ref v13), (0, .ref a0)] → W p l e { frames := 6, cells := 0, slots := 0, locals := 156 } s m [.ref a0, .int x1].toArray below meth c H locs 0 0 (MQ below (Ti D cs (fun r u => u = (T, O, X) ∧ -2 ≤ r.toInt ∧ r.toInt ≤ 13) A) [.ref a0, .int x1].toArray s 0 0 A) (F0 m 111 ls []) := by
                intro  H locs ls  hH hS hl
                obtain ⟨v111, ev111⟩ : ∃ y : Int32, y = p63_6 + 1 := ⟨_, rfl⟩
                have tv111 : v111.toInt = p63_6.toInt + (1) := by rw [ev111]; exact add_i rfl (by decide) (by omega) (by omega)
                refine lv_iinc (v := v111) (lv' := [(6, .int v111), (5, .int v41), (4, .int v30), (3, .int v18), (2, .ref v13), (0, .ref a0)]) hx hb dX11_dearest_111 hl (k := 0) rfl (by rw [ev111]; rfl) (by decide) rfl (fun ls hl => ?_)
                refine lv_goto (tgt := 63) hx hb dX11_dearest_114 (by decide) ?_
                exact ih63 _ (by omega) v111 _ _ _ rfl (by omega) (by omega) hH hS (lv_sub hl [0, 1, 2, 3, 4, 5] rfl)
              refine lv_if_eq (tgt := 111) hx hb dX11_dearest_82 (by decide) (fun c82 => ?_) (fun c82 => ?_)
              · skip
                have tc82 := f_eq (k := 0) (by decide) c82
                exact J111  _ _ _  hH hS (lv_sub hl [0, 1, 2, 3, 4, 5] rfl)
              · skip
                have tc82 := f_ne (k := 0) (by decide) c82
                refine lv_aload_n hx hb dX11_dearest_85 rfl (lv_at hl 5 rfl) ?_
                refine t_get (ci := 11) (lst := ft11 w ch) (C := RX11) (F := TX11) (N := 20) hx hb hts uX11 hown hkb hH t_a0 (hO.no t_a0 (by decide)) (fun _ h9 => h9) rfl rfl 15 (by decide) rfl kw_375 (fun _ h9 => h9) dX11_dearest_86 (fun v9 h9 => ?_)
                obtain ⟨v86, rfl, t_v86⟩ := h9
                refine lv_aload_n hx hb dX11_dearest_89 rfl (lv_at hl 4 rfl) ?_
                refine lv_iload_n hx hb dX11_dearest_90 rfl (lv_at hl 3 rfl) ?_
                refine lv_iconst (v := 1) hx hb dX11_dearest_91 (by decide) ?_
                refine lv_iload hx hb dX11_dearest_92 (lv_at hl 0 rfl) ?_
                refine lv_ishl hx hb dX11_dearest_94 ?_
                refine lv_topi (fun v94 ev94 => ?_)
                have tv94 : 1 ≤ v94.toInt ∧ v94.toInt ≤ 8192 := by rw [ev94]; exact shl_b 13 (by decide) (by omega) (by omega)
                refine lv_iconst (v := (-1)) hx hb dX11_dearest_95 (by decide) ?_
                refine lv_ixor hx hb dX11_dearest_96 ?_
                refine lv_topi (fun v96 ev96 => ?_)
                refine lv_iand hx hb dX11_dearest_97 ?_
                refine lv_topi (fun v97 ev97 => ?_)
                have tv97 : 0 ≤ v97.toInt ∧ v97.toInt ≤ v18.toInt := by rw [ev97]; exact and_l (by omega)
                refine lv_iload hx hb dX11_dearest_98 (lv_at hl 2 rfl) ?_
                refine tk_i hH hS hA (tr_V (n := 3) (As := [.ref v13, .int v97, .int v30]) hx hb hml hown hts hkb hH hOX hks hE hS hA (s_Cut_fewest l D cs kf T O X v86 v13 v97 v30 t_v86 t_v13 (hO.sub (by decide))) kw_1014 kw_1015 kw_1016 kw_10 kw_1017 (by decide +kernel) ⟨Nat.le_of_ble_eq_true rfl, Nat.le_of_ble_eq_true rfl⟩ (HT.recv (ci := 1) hkb hH t_v86 (hO.no t_v86 (by decide)) rfl) rfl rfl hl.1 (Nat.le_of_ble_eq_true rfl) dX11_dearest_100 ⟨Nat.le_of_ble_eq_true rfl, Nat.le_of_ble_eq_true rfl⟩) (fun v100 u H locs hz9 hH hS => ?_)
                obtain ⟨rfl, l_v100, u_v100⟩ := hz9
                have hH : HT D cs A T O X H := hH
                refine W.widen (k := 0) (n := 0) (Nat.le_of_ble_eq_true rfl) (Nat.le_of_ble_eq_true rfl) ?_
                refine lv_iload hx hb dX11_dearest_103 (lv_at hl 1 rfl) ?_
                refine lv_icmp_ge (tgt := 111) hx hb dX11_dearest_105 (by decide) (fun c105 => ?_) (fun c105 => ?_)
                · skip
                  have fuc105 := full_i v100
                  have fvc105 := full_i v41
                  have tc105 := g_le c105
                  exact J111  _ _ _  hH hS (lv_sub hl [0, 1, 2, 3, 4, 5] rfl)
                · skip
                  have fuc105 := full_i v100
                  have fvc105 := full_i v41
                  have tc105 := g_nle c105
                  refine lv_iload hx hb dX11_dearest_108 (lv_at hl 0 rfl) ?_
                  exact te_i hx hb hr hlocks hH hS (⟨rfl, by omega, by omega⟩) dX11_dearest_110
        refine lv_istore (lv' := [(6, .int 0), (5, .int v41), (4, .int v30), (3, .int v18), (2, .ref v13), (0, .ref a0), (1, .int x1)]) hx hb dX11_dearest_61 hl (by decide) rfl (fun ls hl => ?_)
        exact J63 _ 0 _ _ _ rfl (by decide) (by decide) hH hS (lv_sub hl [0, 1, 2, 3, 4, 5] rfl)
      · skip
        have tc55 := f_eq (k := 99) (by decide) c55
        exact J58  _ _ _  hH hS (lv_sub hl [] rfl)
  · skip
    have tc5 := f_eq (k := 0) (by decide) c5
    refine lv_bipush (v := (-2)) hx hb dX11_dearest_8 (by decide) ?_
    exact te_i hx hb hr hlocks hH hS (⟨rfl, by decide, by decide⟩) dX11_dearest_10
set_option maxHeartbeats 4000000 in
set_option maxRecDepth 100000 in
theorem s_FW_saved (l : Launch) (D : va_G) (cs : CS) (kf : KF) (T : TF) (O : List Nat) (X : va_W) (a0 w hw gw ch gq : Nat) (x1 : Int32) (t_a0 : T a0 = some (21, w, ch)) (t_w : isW T w hw gw) (t_ch : T ch = some (10, gq, 0)) (hO : okO T O [1, 7, 12, 15, 16, 19, 20, 21]) : TK l D cs kf yX11_saved cX11_saved 2 (some (.int)) { frames := 6, cells := 0, slots := 0, locals := 154 } [.ref a0, .int x1] T O X (Ti D cs (fun r u => u = (T, O, X) ∧ r.toInt ≤ 16384)) := by
  refine tk_of (by decide) (Nat.le_of_ble_eq_true rfl) (fun p e s m below meth c ls A H locs hx hb hr hml hown hts hlocks hnm hkb hH hS hA hOX hks hE hl => ?_)
  have hown : s.vm.findClass RX11 = some m.cls := hown
  have hl : lv_has ls 2 [(0, .ref a0), (1, .int x1)] := hl
  have b1_w := t_w.2.1
  have b2_w := t_w.2.2
  refine lv_aload_n hx hb dX11_saved_0 rfl (lv_at hl 0 rfl) ?_
  refine lv_iload_n hx hb dX11_saved_1 rfl (lv_at hl 1 rfl) ?_
  refine tk_i hH hS hA (tr_V (n := 1) (As := [.int x1]) hx hb hml hown hts hkb hH hOX hks hE hS hA (s_FW_isGuide l D cs kf T O X a0 w hw gw ch gq x1 t_a0 t_w t_ch (hO.sub (by decide))) kw_794 kw_796 ks_20 kw_1 kw_797 (by decide +kernel) ⟨Nat.le_of_ble_eq_true rfl, Nat.le_of_ble_eq_true rfl⟩ (HT.recv (ci := 11) hkb hH t_a0 (hO.no t_a0 (by decide)) rfl) rfl rfl hl.1 (Nat.le_of_ble_eq_true rfl) dX11_saved_2 ⟨Nat.le_of_ble_eq_true rfl, Nat.le_of_ble_eq_true rfl⟩) (fun v2 u H locs hz9 hH hS => ?_)
  obtain ⟨rfl, l_v2, u_v2, x_v20⟩ := hz9
  have hH : HT D cs A T O X H := hH
  refine W.widen (k := 0) (n := 0) (Nat.le_of_ble_eq_true rfl) (Nat.le_of_ble_eq_true rfl) ?_
  have J29 : ∀ (k29_0 : Int32) (H : Heap) (locs : List Loc) (ls : Array Slot), (k29_0.toInt ≤ 16384) → HT D cs A T O X H → va_S A s.heap H locs → lv_has ls 2 [] → W p l e { frames := 6, cells := 0, slots := 0, locals := 154 } s m [.ref a0, .int x1].toArray below meth c H locs 0 0 (MQ below (Ti D cs (fun r u => u = (T, O, X) ∧ r.toInt ≤ 16384) A) [.ref a0, .int x1].toArray s 0 0 A) (F0 m 29 ls [.int k29_0]) := by
    intro k29_0 H locs ls u_k29_0 hH hS hl
    exact te_i hx hb hr hlocks hH hS (⟨rfl, by omega⟩) dX11_saved_29
  refine lv_if_eq (tgt := 27) hx hb dX11_saved_5 (by decide) (fun c5 => ?_) (fun c5 => ?_)
  · skip
    have tc5 := f_eq (k := 0) (by decide) c5
    refine lv_bipush (v := (-2)) hx hb dX11_saved_27 (by decide) ?_
    exact J29 (-2) _ _ _ (by decide) hH hS (lv_sub hl [] rfl)
  · skip
    have tc5 := f_ne (k := 0) (by decide) c5
    refine lv_aload_n hx hb dX11_saved_8 rfl (lv_at hl 0 rfl) ?_
    refine t_get (ci := 11) (lst := ft11 w ch) (C := RX11) (F := TX11) (N := 20) hx hb hts uX11 hown hkb hH t_a0 (hO.no t_a0 (by decide)) (fun _ h9 => h9) rfl rfl 14 (by decide) rfl kw_374 (fun _ h9 => h9) dX11_saved_9 (fun v9 h9 => ?_)
    obtain ⟨v9, rfl, t_v9⟩ := h9
    refine lv_aload_n hx hb dX11_saved_12 rfl (lv_at hl 0 rfl) ?_
    refine lv_iload_n hx hb dX11_saved_13 rfl (lv_at hl 1 rfl) ?_
    refine tk_r hH hS hA (tr_V (n := 1) (As := [.int x1]) hx hb hml hown hts hkb hH hOX hks hE hS hA (s_FW_rowsOf l D cs kf T O X a0 w hw gw ch gq x1 t_a0 t_w t_ch (by omega) (by omega) (hO.sub (by decide))) kw_830 kw_832 ks_21 kw_1 kw_833 (by decide +kernel) ⟨Nat.le_of_ble_eq_true rfl, Nat.le_of_ble_eq_true rfl⟩ (HT.recv (ci := 11) hkb hH t_a0 (hO.no t_a0 (by decide)) rfl) rfl rfl hl.1 (Nat.le_of_ble_eq_true rfl) dX11_saved_14 ⟨Nat.le_of_ble_eq_true rfl, Nat.le_of_ble_eq_true rfl⟩) (fun v14 u H locs hz9 hH hS => ?_)
    obtain ⟨hu9, t_v14⟩ := hz9
    have hu9 : u = (T, O, X) := hu9
    subst hu9
    have hH : HT D cs A T O X H := hH
    refine W.widen (k := 0) (n := 0) (Nat.le_of_ble_eq_true rfl) (Nat.le_of_ble_eq_true rfl) ?_
    refine lv_aload_n hx hb dX11_saved_17 rfl (lv_at hl 0 rfl) ?_
    refine tk_i hH hS hA (tr_V (n := 0) (As := []) hx hb hml hown hts hkb hH hOX hks hE hS hA (s_FW_openNow l D cs kf T O X a0 w hw gw ch gq t_a0 t_w t_ch (hO.sub (by decide))) kw_846 kw_848 ks_22 kw_1 kw_849 (by decide +kernel) ⟨Nat.le_of_ble_eq_true rfl, Nat.le_of_ble_eq_true rfl⟩ (HT.recv (ci := 11) hkb hH t_a0 (hO.no t_a0 (by decide)) rfl) rfl rfl hl.1 (Nat.le_of_ble_eq_true rfl) dX11_saved_18 ⟨Nat.le_of_ble_eq_true rfl, Nat.le_of_ble_eq_true rfl⟩) (fun v18 u H locs hz9 hH hS => ?_)
    obtain ⟨rfl, l_v18, u_v18⟩ := hz9
    have hH : HT D cs A T O X H := hH
    refine W.widen (k := 0) (n := 0) (Nat.le_of_ble_eq_true rfl) (Nat.le_of_ble_eq_true rfl) ?_
    refine tk_i hH hS hA (tr_V (n := 2) (As := [.ref v14, .int v18]) hx hb hml hown hts hkb hH hOX hks hE hS hA (s_Ways_leastUsed l D cs kf T O X v9 v14 v18 t_v9 t_v14 (hO.sub (by decide))) kw_1150 kw_1151 kw_1152 kw_9 kw_1153 (by decide +kernel) ⟨Nat.le_of_ble_eq_true rfl, Nat.le_of_ble_eq_true rfl⟩ (HT.recv (ci := 10) hkb hH t_v9 (hO.no t_v9 (by decide)) rfl) rfl rfl hl.1 (Nat.le_of_ble_eq_true rfl) dX11_saved_21 ⟨Nat.le_of_ble_eq_true rfl, Nat.le_of_ble_eq_true rfl⟩) (fun v21 u H locs hz9 hH hS => ?_)
    obtain ⟨rfl, u_v21⟩ := hz9
    have hH : HT D cs A T O X H := hH
    refine W.widen (k := 0) (n := 0) (Nat.le_of_ble_eq_true rfl) (Nat.le_of_ble_eq_true rfl) ?_
    refine lv_goto (tgt := 29) hx hb dX11_saved_24 (by decide) ?_
    exact J29 v21 _ _ _ (by omega) hH hS (lv_sub hl [] rfl)
set_option maxHeartbeats 4000000 in
set_option maxRecDepth 100000 in
theorem s_FW_leaves (l : Launch) (D : va_G) (cs : CS) (kf : KF) (T : TF) (O : List Nat) (X : va_W) (a0 w hw gw ch gq : Nat) (x1 : Int32) (x2 : Int32) (t_a0 : T a0 = some (21, w, ch)) (t_w : isW T w hw gw) (t_ch : T ch = some (10, gq, 0)) (hO : okO T O [1, 7, 12, 15, 16, 19, 20, 21]) : TK l D cs kf yX11_leaves cX11_leaves 5 (some (.int)) { frames := 6, cells := 0, slots := 0, locals := 152 } [.ref a0, .int x1, .int x2] T O X (Ti D cs (fun r u => u = (T, O, X) ∧ -5 ≤ r.toInt ∧ r.toInt ≤ 1)) := by
  refine tk_of (by decide) (Nat.le_of_ble_eq_true rfl) (fun p e s m below meth c ls A H locs hx hb hr hml hown hts hlocks hnm hkb hH hS hA hOX hks hE hl => ?_)
  have hown : s.vm.findClass RX11 = some m.cls := hown
  have hl : lv_has ls 5 [(0, .ref a0), (1, .int x1), (2, .int x2)] := hl
  have b1_w := t_w.2.1
  have b2_w := t_w.2.2
  refine lv_aload_n hx hb dX11_leaves_0 rfl (lv_at hl 0 rfl) ?_
  refine lv_iload_n hx hb dX11_leaves_1 rfl (lv_at hl 1 rfl) ?_
  refine tk_i hH hS hA (tr_V (n := 1) (As := [.int x1]) hx hb hml hown hts hkb hH hOX hks hE hS hA (s_FW_isGuide l D cs kf T O X a0 w hw gw ch gq x1 t_a0 t_w t_ch (hO.sub (by decide))) kw_794 kw_796 ks_20 kw_1 kw_797 (by decide +kernel) ⟨Nat.le_of_ble_eq_true rfl, Nat.le_of_ble_eq_true rfl⟩ (HT.recv (ci := 11) hkb hH t_a0 (hO.no t_a0 (by decide)) rfl) rfl rfl hl.1 (Nat.le_of_ble_eq_true rfl) dX11_leaves_2 ⟨Nat.le_of_ble_eq_true rfl, Nat.le_of_ble_eq_true rfl⟩) (fun v2 u H locs hz9 hH hS => ?_)
  obtain ⟨rfl, l_v2, u_v2, x_v20⟩ := hz9
  have hH : HT D cs A T O X H := hH
  refine W.widen (k := 0) (n := 0) (Nat.le_of_ble_eq_true rfl) (Nat.le_of_ble_eq_true rfl) ?_
  have J16 : ∀  (H : Heap) (locs : List Loc) (ls : Array Slot), HT D cs A T O X H → va_S A s.heap H locs → lv_has ls 5 [] → W p l e { frames := 6, cells := 0, slots := 0, locals := 152 } s m [.ref a0, .int x1, .int x2].toArray below meth c H locs 0 0 (MQ below (Ti D cs (fun r u => u = (T, O, X) ∧ -5 ≤ r.toInt ∧ r.toInt ≤ 1) A) [.ref a0, .int x1, .int x2].toArray s 0 0 A) (F0 m 16 ls []) := by
    intro  H locs ls  hH hS hl
    refine lv_bipush (v := (-2)) hx hb dX11_leaves_16 (by decide) ?_
    exact te_i hx hb hr hlocks hH hS (⟨rfl, by decide, by decide⟩) dX11_leaves_18
  refine lv_if_eq (tgt := 16) hx hb dX11_leaves_5 (by decide) (fun c5 => ?_) (fun c5 => ?_)
  · skip
    have tc5 := f_eq (k := 0) (by decide) c5
    exact J16  _ _ _  hH hS (lv_sub hl [] rfl)
  · skip
    have tc5 := f_ne (k := 0) (by decide) c5
    refine lv_aload_n hx hb dX11_leaves_8 rfl (lv_at hl 0 rfl) ?_
    refine lv_iload_n hx hb dX11_leaves_9 rfl (lv_at hl 2 rfl) ?_
    refine tk_i hH hS hA (tr_V (n := 1) (As := [.int x2]) hx hb hml hown hts hkb hH hOX hks hE hS hA (s_FW_isGuide l D cs kf T O X a0 w hw gw ch gq x2 t_a0 t_w t_ch (hO.sub (by decide))) kw_794 kw_796 ks_20 kw_1 kw_797 (by decide +kernel) ⟨Nat.le_of_ble_eq_true rfl, Nat.le_of_ble_eq_true rfl⟩ (HT.recv (ci := 11) hkb hH t_a0 (hO.no t_a0 (by decide)) rfl) rfl rfl hl.1 (Nat.le_of_ble_eq_true rfl) dX11_leaves_10 ⟨Nat.le_of_ble_eq_true rfl, Nat.le_of_ble_eq_true rfl⟩) (fun v10 u H locs hz9 hH hS => ?_)
    obtain ⟨rfl, l_v10, u_v10, x_v100⟩ := hz9
    have hH : HT D cs A T O X H := hH
    refine W.widen (k := 0) (n := 0) (Nat.le_of_ble_eq_true rfl) (Nat.le_of_ble_eq_true rfl) ?_
    refine lv_if_ne (tgt := 19) hx hb dX11_leaves_13 (by decide) (fun c13 => ?_) (fun c13 => ?_)
    · skip
      have tc13 := f_ne (k := 0) (by decide) c13
      refine lv_aload_n hx hb dX11_leaves_19 rfl (lv_at hl 0 rfl) ?_
      refine tk_i hH hS hA (tr_V (n := 0) (As := []) hx hb hml hown hts hkb hH hOX hks hE hS hA (s_FW_openNow l D cs kf T O X a0 w hw gw ch gq t_a0 t_w t_ch (hO.sub (by decide))) kw_846 kw_848 ks_22 kw_1 kw_849 (by decide +kernel) ⟨Nat.le_of_ble_eq_true rfl, Nat.le_of_ble_eq_true rfl⟩ (HT.recv (ci := 11) hkb hH t_a0 (hO.no t_a0 (by decide)) rfl) rfl rfl hl.1 (Nat.le_of_ble_eq_true rfl) dX11_leaves_20 ⟨Nat.le_of_ble_eq_true rfl, Nat.le_of_ble_eq_true rfl⟩) (fun v20 u H locs hz9 hH hS => ?_)
      obtain ⟨rfl, l_v20, u_v20⟩ := hz9
      have hH : HT D cs A T O X H := hH
      refine W.widen (k := 0) (n := 0) (Nat.le_of_ble_eq_true rfl) (Nat.le_of_ble_eq_true rfl) ?_
      refine lv_istore_n (lv' := [(3, .int v20), (0, .ref a0), (1, .int x1), (2, .int x2)]) hx hb dX11_leaves_23 rfl hl (by decide) rfl (fun ls hl => ?_)
      refine lv_aload_n hx hb dX11_leaves_24 rfl (lv_at hl 1 rfl) ?_
      refine t_get (ci := 11) (lst := ft11 w ch) (C := RX11) (F := TX11) (N := 20) hx hb hts uX11 hown hkb hH t_a0 (hO.no t_a0 (by decide)) (fun _ h9 => h9) rfl rfl 14 (by decide) rfl kw_374 (fun _ h9 => h9) dX11_leaves_25 (fun v9 h9 => ?_)
      obtain ⟨v25, rfl, t_v25⟩ := h9
      refine lv_aload_n hx hb dX11_leaves_28 rfl (lv_at hl 1 rfl) ?_
      refine lv_iload_n hx hb dX11_leaves_29 rfl (lv_at hl 3 rfl) ?_
      refine tk_r hH hS hA (tr_V (n := 1) (As := [.int x2]) hx hb hml hown hts hkb hH hOX hks hE hS hA (s_FW_rowsOf l D cs kf T O X a0 w hw gw ch gq x2 t_a0 t_w t_ch (by omega) (by omega) (hO.sub (by decide))) kw_830 kw_832 ks_21 kw_1 kw_833 (by decide +kernel) ⟨Nat.le_of_ble_eq_true rfl, Nat.le_of_ble_eq_true rfl⟩ (HT.recv (ci := 11) hkb hH t_a0 (hO.no t_a0 (by decide)) rfl) rfl rfl hl.1 (Nat.le_of_ble_eq_true rfl) dX11_leaves_30 ⟨Nat.le_of_ble_eq_true rfl, Nat.le_of_ble_eq_true rfl⟩) (fun v30 u H locs hz9 hH hS => ?_)
      obtain ⟨hu9, t_v30⟩ := hz9
      have hu9 : u = (T, O, X) := hu9
      subst hu9
      have hH : HT D cs A T O X H := hH
      refine W.widen (k := 0) (n := 0) (Nat.le_of_ble_eq_true rfl) (Nat.le_of_ble_eq_true rfl) ?_
      refine lv_iload_n hx hb dX11_leaves_33 rfl (lv_at hl 0 rfl) ?_
      refine tk_i hH hS hA (tr_V (n := 2) (As := [.ref v30, .int v20]) hx hb hml hown hts hkb hH hOX hks hE hS hA (s_Ways_find l D cs kf T O X v25 v30 v20 t_v25 t_v30 (hO.sub (by decide))) kw_912 kw_913 kw_914 kw_9 kw_915 (by decide +kernel) ⟨Nat.le_of_ble_eq_true rfl, Nat.le_of_ble_eq_true rfl⟩ (HT.recv (ci := 10) hkb hH t_v25 (hO.no t_v25 (by decide)) rfl) rfl rfl hl.1 (Nat.le_of_ble_eq_true rfl) dX11_leaves_34 ⟨Nat.le_of_ble_eq_true rfl, Nat.le_of_ble_eq_true rfl⟩) (fun v34 u H locs hz9 hH hS => ?_)
      obtain ⟨rfl, l_v34, u_v34⟩ := hz9
      have hH : HT D cs A T O X H := hH
      refine W.widen (k := 0) (n := 0) (Nat.le_of_ble_eq_true rfl) (Nat.le_of_ble_eq_true rfl) ?_
      refine lv_if_ne (tgt := 43) hx hb dX11_leaves_37 (by decide) (fun c37 => ?_) (fun c37 => ?_)
      · skip
        have tc37 := f_ne (k := 0) (by decide) c37
        refine lv_iload_n hx hb dX11_leaves_43 rfl (lv_at hl 0 rfl) ?_
        refine lv_aload_n hx hb dX11_leaves_44 rfl (lv_at hl 1 rfl) ?_
        refine t_get (ci := 11) (lst := ft11 w ch) (C := RX11) (F := TX11) (N := 20) hx hb hts uX11 hown hkb hH t_a0 (hO.no t_a0 (by decide)) (fun _ h9 => h9) rfl rfl 14 (by decide) rfl kw_374 (fun _ h9 => h9) dX11_leaves_45 (fun v9 h9 => ?_)
        obtain ⟨v45, rfl, t_v45⟩ := h9
        refine tk_i hH hS hA (tr_V (n := 0) (As := []) hx hb hml hown hts hkb hH hOX hks hE hS hA (s_Ways_pathSet l D cs kf T O X v45 t_v45 (hO.sub (by decide))) kw_926 kw_927 kw_928 kw_9 kw_929 (by decide +kernel) ⟨Nat.le_of_ble_eq_true rfl, Nat.le_of_ble_eq_true rfl⟩ (HT.recv (ci := 10) hkb hH t_v45 (hO.no t_v45 (by decide)) rfl) rfl rfl hl.1 (Nat.le_of_ble_eq_true rfl) dX11_leaves_48 ⟨Nat.le_of_ble_eq_true rfl, Nat.le_of_ble_eq_true rfl⟩) (fun v48 u H locs hz9 hH hS => ?_)
        have hz9 : u = (T, O, X) := hz9
        subst hz9
        have hH : HT D cs A T O X H := hH
        refine W.widen (k := 0) (n := 0) (Nat.le_of_ble_eq_true rfl) (Nat.le_of_ble_eq_true rfl) ?_
        refine lv_aload_n hx hb dX11_leaves_51 rfl (lv_at hl 1 rfl) ?_
        refine t_get (ci := 11) (lst := ft11 w ch) (C := RX11) (F := TX11) (N := 20) hx hb hts uX11 hown hkb hH t_a0 (hO.no t_a0 (by decide)) (fun _ h9 => h9) rfl rfl 3 (by decide) rfl kw_363 (fun _ h9 => h9) dX11_leaves_52 (fun v9 h9 => ?_)
        have h9 : v9 = .ref w := h9
        subst h9
        refine tk_i hH hS hA (tr_V (n := 0) (As := []) hx hb hml hown hts hkb hH hOX hks hE hS hA (s_Wall_middles l D cs kf T O X w hw gw t_w (hO.sub (by decide))) kw_892 kw_683 kw_684 kw_5 kw_685 (by decide +kernel) ⟨Nat.le_of_ble_eq_true rfl, Nat.le_of_ble_eq_true rfl⟩ (HT.recv (ci := 9) hkb hH t_w.1 (hO.no t_w.1 (by decide)) rfl) rfl rfl hl.1 (Nat.le_of_ble_eq_true rfl) dX11_leaves_55 ⟨Nat.le_of_ble_eq_true rfl, Nat.le_of_ble_eq_true rfl⟩) (fun v55 u H locs hz9 hH hS => ?_)
        obtain ⟨rfl, l_v55, u_v55⟩ := hz9
        have hH : HT D cs A T O X H := hH
        refine W.widen (k := 0) (n := 0) (Nat.le_of_ble_eq_true rfl) (Nat.le_of_ble_eq_true rfl) ?_
        refine lv_iand hx hb dX11_leaves_58 ?_
        refine lv_topi (fun v58 ev58 => ?_)
        have tv58 : 0 ≤ v58.toInt ∧ v58.toInt ≤ v55.toInt := by rw [ev58]; exact and_r (by omega)
        refine lv_iconst (v := (-1)) hx hb dX11_leaves_59 (by decide) ?_
        refine lv_ixor hx hb dX11_leaves_60 ?_
        refine lv_topi (fun v60 ev60 => ?_)
        refine lv_iand hx hb dX11_leaves_61 ?_
        refine lv_topi (fun v61 ev61 => ?_)
        have tv61 : 0 ≤ v61.toInt ∧ v61.toInt ≤ v20.toInt := by rw [ev61]; exact and_l (by omega)
        refine lv_istore (lv' := [(4, .int v61), (3, .int v20), (0, .ref a0), (1, .int x1), (2, .int x2)]) hx hb dX11_leaves_62 hl (by decide) rfl (fun ls hl => ?_)
        refine lv_aload_n hx hb dX11_leaves_64 rfl (lv_at hl 2 rfl) ?_
        refine lv_iload_n hx hb dX11_leaves_65 rfl (lv_at hl 3 rfl) ?_
        refine tk_r hH hS hA (tr_V (n := 1) (As := [.int x1]) hx hb hml hown hts hkb hH hOX hks hE hS hA (s_FW_rowsOf l D cs kf T O X a0 w hw gw ch gq x1 t_a0 t_w t_ch (by omega) (by omega) (hO.sub (by decide))) kw_830 kw_832 ks_21 kw_1 kw_833 (by decide +kernel) ⟨Nat.le_of_ble_eq_true rfl, Nat.le_of_ble_eq_true rfl⟩ (HT.recv (ci := 11) hkb hH t_a0 (hO.no t_a0 (by decide)) rfl) rfl rfl hl.1 (Nat.le_of_ble_eq_true rfl) dX11_leaves_66 ⟨Nat.le_of_ble_eq_true rfl, Nat.le_of_ble_eq_true rfl⟩) (fun v66 u H locs hz9 hH hS => ?_)
        obtain ⟨hu9, t_v66⟩ := hz9
        have hu9 : u = (T, O, X) := hu9
        subst hu9
        have hH : HT D cs A T O X H := hH
        refine W.widen (k := 0) (n := 0) (Nat.le_of_ble_eq_true rfl) (Nat.le_of_ble_eq_true rfl) ?_
        refine lv_iload hx hb dX11_leaves_69 (lv_at hl 0 rfl) ?_
        refine tk_i hH hS hA (tr_V (n := 1) (As := [.int v61]) hx hb hml hown hts hkb hH hOX hks hE hS hA (s_Rows_getsUp l D cs kf T O X v66 v61 t_v66 (hO.sub (by decide))) kw_1059 kw_1060 kw_1061 kw_8 kw_1062 (by decide +kernel) ⟨Nat.le_of_ble_eq_true rfl, Nat.le_of_ble_eq_true rfl⟩ (HT.recv (ci := 5) hkb hH t_v66 (hO.no t_v66 (by decide)) rfl) rfl rfl hl.1 (Nat.le_of_ble_eq_true rfl) dX11_leaves_71 ⟨Nat.le_of_ble_eq_true rfl, Nat.le_of_ble_eq_true rfl⟩) (fun v71 u H locs hz9 hH hS => ?_)
        obtain ⟨rfl, l_v71, u_v71⟩ := hz9
        have hH : HT D cs A T O X H := hH
        refine W.widen (k := 0) (n := 0) (Nat.le_of_ble_eq_true rfl) (Nat.le_of_ble_eq_true rfl) ?_
        have J82 : ∀ (k82_0 : Int32) (H : Heap) (locs : List Loc) (ls : Array Slot), (0 ≤ k82_0.toInt) → (k82_0.toInt ≤ 1) → HT D cs A T O X H → va_S A s.heap H locs → lv_has ls 5 [] → W p l e { frames := 6, cells := 0, slots := 0, locals := 152 } s m [.ref a0, .int x1, .int x2].toArray below meth c H locs 0 0 (MQ below (Ti D cs (fun r u => u = (T, O, X) ∧ -5 ≤ r.toInt ∧ r.toInt ≤ 1) A) [.ref a0, .int x1, .int x2].toArray s 0 0 A) (F0 m 82 ls [.int k82_0]) := by
          intro k82_0 H locs ls l_k82_0 u_k82_0 hH hS hl
          exact te_i hx hb hr hlocks hH hS (⟨rfl, by omega, by omega⟩) dX11_leaves_82
        refine lv_if_eq (tgt := 81) hx hb dX11_leaves_74 (by decide) (fun c74 => ?_) (fun c74 => ?_)
        · skip
          have tc74 := f_eq (k := 0) (by decide) c74
          refine lv_iconst (v := 0) hx hb dX11_leaves_81 (by decide) ?_
          exact J82 0 _ _ _ (by decide) (by decide) hH hS (lv_sub hl [] rfl)
        · skip
          have tc74 := f_ne (k := 0) (by decide) c74
          refine lv_iconst (v := 1) hx hb dX11_leaves_77 (by decide) ?_
          refine lv_goto (tgt := 82) hx hb dX11_leaves_78 (by decide) ?_
          exact J82 1 _ _ _ (by decide) (by decide) hH hS (lv_sub hl [] rfl)
      · skip
        have tc37 := f_eq (k := 0) (by decide) c37
        refine lv_bipush (v := (-5)) hx hb dX11_leaves_40 (by decide) ?_
        exact te_i hx hb hr hlocks hH hS (⟨rfl, by decide, by decide⟩) dX11_leaves_42
    · skip
      have tc13 := f_eq (k := 0) (by decide) c13
      exact J16  _ _ _  hH hS (lv_sub hl [] rfl)
theorem dX11_inTurn_0 : decode cX11_inTurn 0 = .ok (.iload_n 1, 1) := by decide +kernel
theorem dX11_inTurn_1 : decode cX11_inTurn 1 = .ok (.aload_n 0, 1) := by decide +kernel
theorem dX11_inTurn_2 : decode cX11_inTurn 2 = .ok (.getfield 29, 3) := by decide +kernel
theorem dX11_inTurn_5 : decode cX11_inTurn 5 = .ok (.getfield 216, 3) := by decide +kernel
theorem dX11_inTurn_8 : decode cX11_inTurn 8 = .ok (.iushr, 1) := by decide +kernel
theorem dX11_inTurn_9 : decode cX11_inTurn 9 = .ok (.ifCond .eq 6, 3) := by decide +kernel
theorem dX11_inTurn_12 : decode cX11_inTurn 12 = .ok (.bipush (-3), 2) := by decide +kernel
theorem dX11_inTurn_14 : decode cX11_inTurn 14 = .ok (.ireturn, 1) := by decide +kernel
theorem dX11_inTurn_15 : decode cX11_inTurn 15 = .ok (.iload_n 2, 1) := by decide +kernel
theorem dX11_inTurn_16 : decode cX11_inTurn 16 = .ok (.iconst 5, 1) := by decide +kernel
theorem dX11_inTurn_17 : decode cX11_inTurn 17 = .ok (.invokestatic 299, 3) := by decide +kernel
theorem dX11_inTurn_20 : decode cX11_inTurn 20 = .ok (.ifCond .ne 6, 3) := by decide +kernel
theorem dX11_inTurn_23 : decode cX11_inTurn 23 = .ok (.bipush (-2), 2) := by decide +kernel
theorem dX11_inTurn_25 : decode cX11_inTurn 25 = .ok (.ireturn, 1) := by decide +kernel
theorem dX11_inTurn_26 : decode cX11_inTurn 26 = .ok (.aload_n 0, 1) := by decide +kernel
theorem dX11_inTurn_27 : decode cX11_inTurn 27 = .ok (.iconst (-1), 1) := by decide +kernel
theorem dX11_inTurn_28 : decode cX11_inTurn 28 = .ok (.putfield 107, 3) := by decide +kernel
theorem dX11_inTurn_31 : decode cX11_inTurn 31 = .ok (.aload_n 0, 1) := by decide +kernel
theorem dX11_inTurn_32 : decode cX11_inTurn 32 = .ok (.iconst 0, 1) := by decide +kernel
theorem dX11_inTurn_33 : decode cX11_inTurn 33 = .ok (.iload_n 1, 1) := by decide +kernel
theorem dX11_inTurn_34 : decode cX11_inTurn 34 = .ok (.aload_n 0, 1) := by decide +kernel
theorem dX11_inTurn_35 : decode cX11_inTurn 35 = .ok (.invokevirtual 206, 3) := by decide +kernel
theorem dX11_inTurn_38 : decode cX11_inTurn 38 = .ok (.iconst 0, 1) := by decide +kernel
theorem dX11_inTurn_39 : decode cX11_inTurn 39 = .ok (.invokevirtual 352, 3) := by decide +kernel
theorem dX11_inTurn_42 : decode cX11_inTurn 42 = .ok (.iload_n 2, 1) := by decide +kernel
theorem dX11_inTurn_43 : decode cX11_inTurn 43 = .ok (.ifCond .ne 8, 3) := by decide +kernel
theorem dX11_inTurn_46 : decode cX11_inTurn 46 = .ok (.aload_n 0, 1) := by decide +kernel
theorem dX11_inTurn_47 : decode cX11_inTurn 47 = .ok (.getfield 107, 3) := by decide +kernel
theorem dX11_inTurn_50 : decode cX11_inTurn 50 = .ok (.ireturn, 1) := by decide +kernel
theorem dX11_inTurn_51 : decode cX11_inTurn 51 = .ok (.aload_n 0, 1) := by decide +kernel
theorem dX11_inTurn_52 : decode cX11_inTurn 52 = .ok (.getfield 104, 3) := by decide +kernel
theorem dX11_inTurn_55 : decode cX11_inTurn 55 = .ok (.iload_n 1, 1) := by decide +kernel
theorem dX11_inTurn_56 : decode cX11_inTurn 56 = .ok (.invokestatic 243, 3) := by decide +kernel
theorem dX11_inTurn_59 : decode cX11_inTurn 59 = .ok (.iload_n 2, 1) := by decide +kernel
theorem dX11_inTurn_60 : decode cX11_inTurn 60 = .ok (.invokestatic 306, 3) := by decide +kernel
theorem dX11_inTurn_63 : decode cX11_inTurn 63 = .ok (.ireturn, 1) := by decide +kernel
theorem dX11_takeTurns_0 : decode cX11_takeTurns 0 = .ok (.iload 4, 2) := by decide +kernel
theorem dX11_takeTurns_2 : decode cX11_takeTurns 2 = .ok (.iload_n 2, 1) := by decide +kernel
theorem dX11_takeTurns_3 : decode cX11_takeTurns 3 = .ok (.invokestatic 243, 3) := by decide +kernel
theorem dX11_takeTurns_6 : decode cX11_takeTurns 6 = .ok (.iadd, 1) := by decide +kernel
theorem dX11_takeTurns_7 : decode cX11_takeTurns 7 = .ok (.aload_n 0, 1) := by decide +kernel
theorem dX11_takeTurns_8 : decode cX11_takeTurns 8 = .ok (.getfield 107, 3) := by decide +kernel
theorem dX11_takeTurns_11 : decode cX11_takeTurns 11 = .ok (.if_icmp .gt 4, 3) := by decide +kernel
theorem dX11_takeTurns_14 : decode cX11_takeTurns 14 = .ok (.return_, 1) := by decide +kernel
theorem dX11_takeTurns_15 : decode cX11_takeTurns 15 = .ok (.iload_n 2, 1) := by decide +kernel
theorem dX11_takeTurns_16 : decode cX11_takeTurns 16 = .ok (.ifCond .eq 8, 3) := by decide +kernel
theorem dX11_takeTurns_19 : decode cX11_takeTurns 19 = .ok (.iload_n 1, 1) := by decide +kernel
theorem dX11_takeTurns_20 : decode cX11_takeTurns 20 = .ok (.iconst 5, 1) := by decide +kernel
theorem dX11_takeTurns_21 : decode cX11_takeTurns 21 = .ok (.if_icmp .lt 24, 3) := by decide +kernel
theorem dX11_takeTurns_24 : decode cX11_takeTurns 24 = .ok (.aload_n 0, 1) := by decide +kernel
theorem dX11_takeTurns_25 : decode cX11_takeTurns 25 = .ok (.iload 4, 2) := by decide +kernel
theorem dX11_takeTurns_27 : decode cX11_takeTurns 27 = .ok (.putfield 107, 3) := by decide +kernel
theorem dX11_takeTurns_30 : decode cX11_takeTurns 30 = .ok (.aload_n 0, 1) := by decide +kernel
theorem dX11_takeTurns_31 : decode cX11_takeTurns 31 = .ok (.getfield 100, 3) := by decide +kernel
theorem dX11_takeTurns_34 : decode cX11_takeTurns 34 = .ok (.iconst 0, 1) := by decide +kernel
theorem dX11_takeTurns_35 : decode cX11_takeTurns 35 = .ok (.aload_n 0, 1) := by decide +kernel
theorem dX11_takeTurns_36 : decode cX11_takeTurns 36 = .ok (.getfield 104, 3) := by decide +kernel
theorem dX11_takeTurns_39 : decode cX11_takeTurns 39 = .ok (.iconst 0, 1) := by decide +kernel
theorem dX11_takeTurns_40 : decode cX11_takeTurns 40 = .ok (.iconst 5, 1) := by decide +kernel
theorem dX11_takeTurns_41 : decode cX11_takeTurns 41 = .ok (.invokestatic 356, 3) := by decide +kernel
theorem dX11_takeTurns_44 : decode cX11_takeTurns 44 = .ok (.return_, 1) := by decide +kernel
theorem dX11_takeTurns_45 : decode cX11_takeTurns 45 = .ok (.iconst 0, 1) := by decide +kernel
theorem dX11_takeTurns_46 : decode cX11_takeTurns 46 = .ok (.istore 5, 2) := by decide +kernel
theorem dX11_takeTurns_48 : decode cX11_takeTurns 48 = .ok (.iload 5, 2) := by decide +kernel
theorem dX11_takeTurns_50 : decode cX11_takeTurns 50 = .ok (.aload_n 0, 1) := by decide +kernel
theorem dX11_takeTurns_51 : decode cX11_takeTurns 51 = .ok (.getfield 29, 3) := by decide +kernel
theorem dX11_takeTurns_54 : decode cX11_takeTurns 54 = .ok (.getfield 216, 3) := by decide +kernel
theorem dX11_takeTurns_57 : decode cX11_takeTurns 57 = .ok (.if_icmp .ge 110, 3) := by decide +kernel
theorem dX11_takeTurns_60 : decode cX11_takeTurns 60 = .ok (.iload_n 2, 1) := by decide +kernel
theorem dX11_takeTurns_61 : decode cX11_takeTurns 61 = .ok (.iload 5, 2) := by decide +kernel
theorem dX11_takeTurns_63 : decode cX11_takeTurns 63 = .ok (.ishr, 1) := by decide +kernel
theorem dX11_takeTurns_64 : decode cX11_takeTurns 64 = .ok (.iconst 1, 1) := by decide +kernel
theorem dX11_takeTurns_65 : decode cX11_takeTurns 65 = .ok (.iand, 1) := by decide +kernel
theorem dX11_takeTurns_66 : decode cX11_takeTurns 66 = .ok (.ifCond .eq 95, 3) := by decide +kernel
theorem dX11_takeTurns_69 : decode cX11_takeTurns 69 = .ok (.aload_n 0, 1) := by decide +kernel
theorem dX11_takeTurns_70 : decode cX11_takeTurns 70 = .ok (.getfield 100, 3) := by decide +kernel
theorem dX11_takeTurns_73 : decode cX11_takeTurns 73 = .ok (.iload_n 1, 1) := by decide +kernel
theorem dX11_takeTurns_74 : decode cX11_takeTurns 74 = .ok (.iload 5, 2) := by decide +kernel
theorem dX11_takeTurns_76 : decode cX11_takeTurns 76 = .ok (.iastore, 1) := by decide +kernel
theorem dX11_takeTurns_77 : decode cX11_takeTurns 77 = .ok (.aload_n 0, 1) := by decide +kernel
theorem dX11_takeTurns_78 : decode cX11_takeTurns 78 = .ok (.getfield 82, 3) := by decide +kernel
theorem dX11_takeTurns_81 : decode cX11_takeTurns 81 = .ok (.aload_n 0, 1) := by decide +kernel
theorem dX11_takeTurns_82 : decode cX11_takeTurns 82 = .ok (.iload 5, 2) := by decide +kernel
theorem dX11_takeTurns_84 : decode cX11_takeTurns 84 = .ok (.invokevirtual 202, 3) := by decide +kernel
theorem dX11_takeTurns_87 : decode cX11_takeTurns 87 = .ok (.iload_n 3, 1) := by decide +kernel
theorem dX11_takeTurns_88 : decode cX11_takeTurns 88 = .ok (.invokevirtual 271, 3) := by decide +kernel
theorem dX11_takeTurns_91 : decode cX11_takeTurns 91 = .ok (.ifCond .le 7, 3) := by decide +kernel
theorem dX11_takeTurns_94 : decode cX11_takeTurns 94 = .ok (.iconst 1, 1) := by decide +kernel
theorem dX11_takeTurns_95 : decode cX11_takeTurns 95 = .ok (.goto 4, 3) := by decide +kernel
theorem dX11_takeTurns_98 : decode cX11_takeTurns 98 = .ok (.iconst 0, 1) := by decide +kernel
theorem dX11_takeTurns_99 : decode cX11_takeTurns 99 = .ok (.istore 6, 2) := by decide +kernel
theorem dX11_takeTurns_101 : decode cX11_takeTurns 101 = .ok (.iload 6, 2) := by decide +kernel
theorem dX11_takeTurns_103 : decode cX11_takeTurns 103 = .ok (.ifCond .eq 25, 3) := by decide +kernel
theorem dX11_takeTurns_106 : decode cX11_takeTurns 106 = .ok (.iload_n 3, 1) := by decide +kernel
theorem dX11_takeTurns_107 : decode cX11_takeTurns 107 = .ok (.aload_n 0, 1) := by decide +kernel
theorem dX11_takeTurns_108 : decode cX11_takeTurns 108 = .ok (.getfield 82, 3) := by decide +kernel
theorem dX11_takeTurns_111 : decode cX11_takeTurns 111 = .ok (.invokevirtual 275, 3) := by decide +kernel
theorem dX11_takeTurns_114 : decode cX11_takeTurns 114 = .ok (.aload_n 0, 1) := by decide +kernel
theorem dX11_takeTurns_115 : decode cX11_takeTurns 115 = .ok (.getfield 29, 3) := by decide +kernel
theorem dX11_takeTurns_118 : decode cX11_takeTurns 118 = .ok (.invokevirtual 265, 3) := by decide +kernel
theorem dX11_takeTurns_121 : decode cX11_takeTurns 121 = .ok (.iand, 1) := by decide +kernel
theorem dX11_takeTurns_122 : decode cX11_takeTurns 122 = .ok (.iconst (-1), 1) := by decide +kernel
theorem dX11_takeTurns_123 : decode cX11_takeTurns 123 = .ok (.ixor, 1) := by decide +kernel
theorem dX11_takeTurns_124 : decode cX11_takeTurns 124 = .ok (.iand, 1) := by decide +kernel
theorem dX11_takeTurns_125 : decode cX11_takeTurns 125 = .ok (.goto 4, 3) := by decide +kernel
theorem dX11_takeTurns_128 : decode cX11_takeTurns 128 = .ok (.iload_n 3, 1) := by decide +kernel
theorem dX11_takeTurns_129 : decode cX11_takeTurns 129 = .ok (.istore 7, 2) := by decide +kernel
theorem dX11_takeTurns_131 : decode cX11_takeTurns 131 = .ok (.aload_n 0, 1) := by decide +kernel
theorem dX11_takeTurns_132 : decode cX11_takeTurns 132 = .ok (.iload_n 1, 1) := by decide +kernel
theorem dX11_takeTurns_133 : decode cX11_takeTurns 133 = .ok (.iconst 1, 1) := by decide +kernel
theorem dX11_takeTurns_134 : decode cX11_takeTurns 134 = .ok (.iadd, 1) := by decide +kernel
theorem dX11_takeTurns_135 : decode cX11_takeTurns 135 = .ok (.iload_n 2, 1) := by decide +kernel
theorem dX11_takeTurns_136 : decode cX11_takeTurns 136 = .ok (.iconst 1, 1) := by decide +kernel
theorem dX11_takeTurns_137 : decode cX11_takeTurns 137 = .ok (.iload 5, 2) := by decide +kernel
theorem dX11_takeTurns_139 : decode cX11_takeTurns 139 = .ok (.ishl, 1) := by decide +kernel
theorem dX11_takeTurns_140 : decode cX11_takeTurns 140 = .ok (.iconst (-1), 1) := by decide +kernel
theorem dX11_takeTurns_141 : decode cX11_takeTurns 141 = .ok (.ixor, 1) := by decide +kernel
theorem dX11_takeTurns_142 : decode cX11_takeTurns 142 = .ok (.iand, 1) := by decide +kernel
theorem dX11_takeTurns_143 : decode cX11_takeTurns 143 = .ok (.iload 7, 2) := by decide +kernel
theorem dX11_takeTurns_145 : decode cX11_takeTurns 145 = .ok (.iload 4, 2) := by decide +kernel
theorem dX11_takeTurns_147 : decode cX11_takeTurns 147 = .ok (.iload 6, 2) := by decide +kernel
theorem dX11_takeTurns_149 : decode cX11_takeTurns 149 = .ok (.ifCond .eq 7, 3) := by decide +kernel
theorem dX11_takeTurns_152 : decode cX11_takeTurns 152 = .ok (.iconst 1, 1) := by decide +kernel
theorem dX11_takeTurns_153 : decode cX11_takeTurns 153 = .ok (.goto 4, 3) := by decide +kernel
theorem dX11_takeTurns_156 : decode cX11_takeTurns 156 = .ok (.iconst 0, 1) := by decide +kernel
theorem dX11_takeTurns_157 : decode cX11_takeTurns 157 = .ok (.iadd, 1) := by decide +kernel
theorem dX11_takeTurns_158 : decode cX11_takeTurns 158 = .ok (.invokevirtual 352, 3) := by decide +kernel
theorem dX11_takeTurns_161 : decode cX11_takeTurns 161 = .ok (.iinc 5 1, 3) := by decide +kernel
theorem dX11_takeTurns_164 : decode cX11_takeTurns 164 = .ok (.goto (-116), 3) := by decide +kernel
theorem dX11_takeTurns_167 : decode cX11_takeTurns 167 = .ok (.return_, 1) := by decide +kernel
theorem kw_377 : Cond.fieldLink "FootholdWall" 100 "FootholdWall" "turn" "[I" ∈ gw := gw_of (tb_of 377 (by decide +kernel)) (by decide +kernel)
theorem kw_378 : Cond.fieldLink "FootholdWall" 104 "FootholdWall" "bestTurn" "[I" ∈ gw := gw_of (tb_of 378 (by decide +kernel)) (by decide +kernel)
theorem kw_379 : Cond.fieldLink "FootholdWall" 107 "FootholdWall" "bestUp" "I" ∈ gw := gw_of (tb_of 379 (by decide +kernel)) (by decide +kernel)
theorem kw_1168 : Cond.methodLink "FootholdWall" 352 yX11_takeTurns ∈ gw := gw_of (tb_of 1168 (by decide +kernel)) (by decide +kernel)
theorem kw_1170 : Cond.instanceMethod yX11_takeTurns ∈ gw := gw_of (tb_of 1170 (by decide +kernel)) (by decide +kernel)
theorem kw_1171 : Cond.code yX11_takeTurns cX11_takeTurns 8 none ∈ gw := gw_of (tb_of 1171 (by decide +kernel)) (by decide +kernel)
theorem kw_1172 : Cond.methodLink "FootholdWall" 356 arraycopyName ∈ gw := gw_of (tb_of 1172 (by decide +kernel)) (by decide +kernel)
theorem ks_42 : Cond.selects RX11 yX11_takeTurns yX11_takeTurns ∈ gw := gw_of (pv_of 42 (by decide +kernel)) (by decide +kernel)
