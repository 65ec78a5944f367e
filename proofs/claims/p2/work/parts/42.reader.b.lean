set_option maxHeartbeats 4000000 in
set_option maxRecDepth 100000 in
theorem s_RD_readBroken (l : Launch) (D : va_G) (cs : CS) (kf : KF) (T : TF) (O : List Nat) (X : va_W) (a0 d : Nat) (t_a0 : T a0 = some (14, d, 0)) (t_d : T d = some (19, 100, 0)) (hO : okO T O [0, 14, 16, 17, 19]) : TK l D cs kf yX4_readBroken cX4_readBroken 2 (some (.boolean)) { frames := 6, cells := 0, slots := 0, locals := 133 } [.ref a0] T O X (Ti D cs (fun r u => u = (T, O, X) ∧ 0 ≤ r.toInt ∧ r.toInt ≤ 1)) := by
  refine tk_of (by decide) (Nat.le_of_ble_eq_true rfl) (fun p e s m below meth c ls A H locs hx hb hr hml hown hts hlocks hnm hkb hH hS hA hOX hks hE hl => ?_)
  have hown : s.vm.findClass RX4 = some m.cls := hown
  have hl : lv_has ls 2 [(0, .ref a0)] := hl
  refine lv_aload_n hx hb dX4_readBroken_0 rfl (lv_at hl 0 rfl) ?_
  refine t_get (ci := 4) (lst := ft4 d 0) (C := RX4) (F := TX4) (N := 5) hx hb hts uX4 hown hkb hH t_a0 (hO.no t_a0 (by decide)) (fun _ h9 => h9) rfl rfl 0 (by decide) rfl kw_211 (fun _ h9 => h9) dX4_readBroken_1 (fun v9 h9 => ?_)
  obtain ⟨v1, rfl, t_v1⟩ := h9
  refine tk_v hH hS hA (tr_V (n := 0) (As := []) hx hb hml hown hts hkb hH hOX hks hE hS hA (s_Tok_go l D cs kf T O X v1 t_v1 (hO.sub (by decide))) kw_583 kw_453 kw_454 kw_3 kw_455 (by decide +kernel) ⟨Nat.le_of_ble_eq_true rfl, Nat.le_of_ble_eq_true rfl⟩ (HT.recv (ci := 7) hkb hH t_v1 (hO.no t_v1 (by decide)) rfl) rfl rfl hl.1 (Nat.le_of_ble_eq_true rfl) dX4_readBroken_4 ⟨Nat.le_of_ble_eq_true rfl, Nat.le_of_ble_eq_true rfl⟩) (fun u H locs hz9 hH hS => ?_)
  have hz9 : u = (T, O, X) := hz9
  subst hz9
  have hH : HT D cs A T O X H := hH
  refine W.widen (k := 0) (n := 0) (Nat.le_of_ble_eq_true rfl) (Nat.le_of_ble_eq_true rfl) ?_
  refine lv_aload_n hx hb dX4_readBroken_7 rfl (lv_at hl 0 rfl) ?_
  refine t_get (ci := 4) (lst := ft4 d 0) (C := RX4) (F := TX4) (N := 5) hx hb hts uX4 hown hkb hH t_a0 (hO.no t_a0 (by decide)) (fun _ h9 => h9) rfl rfl 0 (by decide) rfl kw_211 (fun _ h9 => h9) dX4_readBroken_8 (fun v9 h9 => ?_)
  obtain ⟨v8, rfl, t_v8⟩ := h9
  refine lv_aload_n hx hb dX4_readBroken_11 rfl (lv_at hl 0 rfl) ?_
  refine t_get (ci := 4) (lst := ft4 d 0) (C := RX4) (F := TX4) (N := 5) hx hb hts uX4 hown hkb hH t_a0 (hO.no t_a0 (by decide)) (fun _ h9 => h9) rfl rfl 2 (by decide) rfl kw_214 (fun _ h9 => h9) dX4_readBroken_12 (fun v9 h9 => ?_)
  have h9 : v9 = .ref d := h9
  subst h9
  refine t_get (ci := 9) (lst := ft9d 100 0) (C := RX9) (F := TX9) (N := 14) hx hb hts uX9 hown hkb hH t_d (hO.no t_d (by decide)) (fun fs => (ob9d fs).mp) rfl rfl 0 (by decide) rfl kw_108 (fun _ h9 => h9) dX4_readBroken_15 (fun v9 h9 => ?_)
  obtain ⟨v15, rfl, l_v15, u_v15⟩ := h9
  refine lv_iconst (v := 1) hx hb dX4_readBroken_18 (by decide) ?_
  refine lv_isub hx hb dX4_readBroken_19 ?_
  refine lv_topi (fun v19 ev19 => ?_)
  have tv19 : v19.toInt = v15.toInt - (1) := by rw [ev19]; exact sub_i rfl (by decide : (1 : Int32).toInt = 1) (by omega) (by omega)
  refine tk_i hH hS hA (tr_V (n := 1) (As := [.int v19]) hx hb hml hown hts hkb hH hOX hks hE hS hA (s_Tok_takeNumber l D cs kf T O X v8 v19 t_v8 (hO.sub (by decide))) kw_584 kw_585 kw_586 kw_3 kw_587 (by decide +kernel) ⟨Nat.le_of_ble_eq_true rfl, Nat.le_of_ble_eq_true rfl⟩ (HT.recv (ci := 7) hkb hH t_v8 (hO.no t_v8 (by decide)) rfl) rfl rfl hl.1 (Nat.le_of_ble_eq_true rfl) dX4_readBroken_20 ⟨Nat.le_of_ble_eq_true rfl, Nat.le_of_ble_eq_true rfl⟩) (fun v20 u H locs hz9 hH hS => ?_)
  have hz9 : u = (T, O, X) := hz9
  subst hz9
  have hH : HT D cs A T O X H := hH
  refine W.widen (k := 0) (n := 0) (Nat.le_of_ble_eq_true rfl) (Nat.le_of_ble_eq_true rfl) ?_
  refine lv_istore_n (lv' := [(1, .int v20), (0, .ref a0)]) hx hb dX4_readBroken_23 rfl hl (by decide) rfl (fun ls hl => ?_)
  refine lv_iload_n hx hb dX4_readBroken_24 rfl (lv_at hl 0 rfl) ?_
  refine lv_iconst (v := (-1)) hx hb dX4_readBroken_25 (by decide) ?_
  refine lv_icmp_ne (tgt := 31) hx hb dX4_readBroken_26 (by decide) (fun c26 => ?_) (fun c26 => ?_)
  · skip
    have tc26 := f_ne (k := -1) (by decide) c26
    refine lv_aload_n hx hb dX4_readBroken_31 rfl (lv_at hl 1 rfl) ?_
    refine t_get (ci := 4) (lst := ft4 d 0) (C := RX4) (F := TX4) (N := 5) hx hb hts uX4 hown hkb hH t_a0 (hO.no t_a0 (by decide)) (fun _ h9 => h9) rfl rfl 4 (by decide) rfl kw_216 (fun _ h9 => h9) dX4_readBroken_32 (fun v9 h9 => ?_)
    obtain ⟨v32, rfl, t_v32⟩ := h9
    refine lv_iload_n hx hb dX4_readBroken_35 rfl (lv_at hl 0 rfl) ?_
    refine tk_i hH hS hA (tr_V (n := 1) (As := [.int v20]) hx hb hml hown hts hkb hH hOX hks hE hS hA (s_State_breakDown l D cs kf T O X v32 v20 t_v32 (hO.sub (by decide))) kw_702 kw_703 kw_704 kw_7 kw_705 (by decide +kernel) ⟨Nat.le_of_ble_eq_true rfl, Nat.le_of_ble_eq_true rfl⟩ (HT.recv (ci := 6) hkb hH t_v32 (hO.no t_v32 (by decide)) rfl) rfl rfl hl.1 (Nat.le_of_ble_eq_true rfl) dX4_readBroken_36 ⟨Nat.le_of_ble_eq_true rfl, Nat.le_of_ble_eq_true rfl⟩) (fun v36 u H locs hz9 hH hS => ?_)
    obtain ⟨rfl, l_v36, u_v36⟩ := hz9
    have hH : HT D cs A T O X H := hH
    refine W.widen (k := 0) (n := 0) (Nat.le_of_ble_eq_true rfl) (Nat.le_of_ble_eq_true rfl) ?_
    refine lv_pop hx hb dX4_readBroken_39 rfl ?_
    refine lv_iconst (v := 1) hx hb dX4_readBroken_40 (by decide) ?_
    exact te_z hx hb hr hlocks (by rfl) hH hS (⟨rfl, by decide, by decide⟩) dX4_readBroken_41
  · skip
    have tc26 := f_eq (k := -1) (by decide) c26
    refine lv_iconst (v := 0) hx hb dX4_readBroken_29 (by decide) ?_
    exact te_z hx hb hr hlocks (by rfl) hH hS (⟨rfl, by decide, by decide⟩) dX4_readBroken_30
set_option maxHeartbeats 4000000 in
set_option maxRecDepth 100000 in
theorem s_RD_readUsed (l : Launch) (D : va_G) (cs : CS) (kf : KF) (T : TF) (O : List Nat) (X : va_W) (a0 d : Nat) (t_a0 : T a0 = some (14, d, 0)) (t_d : T d = some (19, 100, 0)) (hO : okO T O [0, 1, 14, 16, 17, 19]) : TK l D cs kf yX4_readUsed cX4_readUsed 3 (some (.boolean)) { frames := 6, cells := 0, slots := 0, locals := 133 } [.ref a0] T O X (Ti D cs (fun r u => u = (T, O, X) ∧ 0 ≤ r.toInt ∧ r.toInt ≤ 1)) := by
  refine tk_of (by decide) (Nat.le_of_ble_eq_true rfl) (fun p e s m below meth c ls A H locs hx hb hr hml hown hts hlocks hnm hkb hH hS hA hOX hks hE hl => ?_)
  have hown : s.vm.findClass RX4 = some m.cls := hown
  have hl : lv_has ls 3 [(0, .ref a0)] := hl
  refine lv_aload_n hx hb dX4_readUsed_0 rfl (lv_at hl 0 rfl) ?_
  refine t_get (ci := 4) (lst := ft4 d 0) (C := RX4) (F := TX4) (N := 5) hx hb hts uX4 hown hkb hH t_a0 (hO.no t_a0 (by decide)) (fun _ h9 => h9) rfl rfl 0 (by decide) rfl kw_211 (fun _ h9 => h9) dX4_readUsed_1 (fun v9 h9 => ?_)
  obtain ⟨v1, rfl, t_v1⟩ := h9
  refine tk_v hH hS hA (tr_V (n := 0) (As := []) hx hb hml hown hts hkb hH hOX hks hE hS hA (s_Tok_go l D cs kf T O X v1 t_v1 (hO.sub (by decide))) kw_583 kw_453 kw_454 kw_3 kw_455 (by decide +kernel) ⟨Nat.le_of_ble_eq_true rfl, Nat.le_of_ble_eq_true rfl⟩ (HT.recv (ci := 7) hkb hH t_v1 (hO.no t_v1 (by decide)) rfl) rfl rfl hl.1 (Nat.le_of_ble_eq_true rfl) dX4_readUsed_4 ⟨Nat.le_of_ble_eq_true rfl, Nat.le_of_ble_eq_true rfl⟩) (fun u H locs hz9 hH hS => ?_)
  have hz9 : u = (T, O, X) := hz9
  subst hz9
  have hH : HT D cs A T O X H := hH
  refine W.widen (k := 0) (n := 0) (Nat.le_of_ble_eq_true rfl) (Nat.le_of_ble_eq_true rfl) ?_
  refine lv_aload_n hx hb dX4_readUsed_7 rfl (lv_at hl 0 rfl) ?_
  refine t_get (ci := 4) (lst := ft4 d 0) (C := RX4) (F := TX4) (N := 5) hx hb hts uX4 hown hkb hH t_a0 (hO.no t_a0 (by decide)) (fun _ h9 => h9) rfl rfl 0 (by decide) rfl kw_211 (fun _ h9 => h9) dX4_readUsed_8 (fun v9 h9 => ?_)
  obtain ⟨v8, rfl, t_v8⟩ := h9
  refine t_get (ci := 7) (lst := ft7 0 0) (C := RX7) (F := TX7) (N := 8) hx hb hts uX7 hown hkb hH t_v8 (hO.no t_v8 (by decide)) (fun _ h9 => ob7_ok h9) rfl rfl 4 (by decide) rfl kw_49 (fun _ h9 => h9) dX4_readUsed_11 (fun v9 h9 => ?_)
  obtain ⟨v11, rfl⟩ := h9
  refine lv_iconst (v := 2) hx hb dX4_readUsed_14 (by decide) ?_
  have J64 : ∀  (H : Heap) (locs : List Loc) (ls : Array Slot), HT D cs A T O X H → va_S A s.heap H locs → lv_has ls 3 [(0, .ref a0)] → W p l e { frames := 6, cells := 0, slots := 0, locals := 133 } s m [.ref a0].toArray below meth c H locs 0 0 (MQ below (Ti D cs (fun r u => u = (T, O, X) ∧ 0 ≤ r.toInt ∧ r.toInt ≤ 1) A) [.ref a0].toArray s 0 0 A) (F0 m 64 ls []) := by
    intro  H locs ls  hH hS hl
    refine lv_aload_n hx hb dX4_readUsed_64 rfl (lv_at hl 0 rfl) ?_
    refine t_get (ci := 4) (lst := ft4 d 0) (C := RX4) (F := TX4) (N := 5) hx hb hts uX4 hown hkb hH t_a0 (hO.no t_a0 (by decide)) (fun _ h9 => h9) rfl rfl 0 (by decide) rfl kw_211 (fun _ h9 => h9) dX4_readUsed_65 (fun v9 h9 => ?_)
    obtain ⟨v65, rfl, t_v65⟩ := h9
    refine lv_aload_n hx hb dX4_readUsed_68 rfl (lv_at hl 0 rfl) ?_
    refine t_get (ci := 4) (lst := ft4 d 0) (C := RX4) (F := TX4) (N := 5) hx hb hts uX4 hown hkb hH t_a0 (hO.no t_a0 (by decide)) (fun _ h9 => h9) rfl rfl 2 (by decide) rfl kw_214 (fun _ h9 => h9) dX4_readUsed_69 (fun v9 h9 => ?_)
    have h9 : v9 = .ref d := h9
    subst h9
    refine t_get (ci := 9) (lst := ft9d 100 0) (C := RX9) (F := TX9) (N := 14) hx hb hts uX9 hown hkb hH t_d (hO.no t_d (by decide)) (fun fs => (ob9d fs).mp) rfl rfl 0 (by decide) rfl kw_108 (fun _ h9 => h9) dX4_readUsed_72 (fun v9 h9 => ?_)
    obtain ⟨v72, rfl, l_v72, u_v72⟩ := h9
    refine lv_iconst (v := 1) hx hb dX4_readUsed_75 (by decide) ?_
    refine lv_isub hx hb dX4_readUsed_76 ?_
    refine lv_topi (fun v76 ev76 => ?_)
    have tv76 : v76.toInt = v72.toInt - (1) := by rw [ev76]; exact sub_i rfl (by decide : (1 : Int32).toInt = 1) (by omega) (by omega)
    refine tk_i hH hS hA (tr_V (n := 1) (As := [.int v76]) hx hb hml hown hts hkb hH hOX hks hE hS hA (s_Tok_takeNumber l D cs kf T O X v65 v76 t_v65 (hO.sub (by decide))) kw_584 kw_585 kw_586 kw_3 kw_587 (by decide +kernel) ⟨Nat.le_of_ble_eq_true rfl, Nat.le_of_ble_eq_true rfl⟩ (HT.recv (ci := 7) hkb hH t_v65 (hO.no t_v65 (by decide)) rfl) rfl rfl hl.1 (Nat.le_of_ble_eq_true rfl) dX4_readUsed_77 ⟨Nat.le_of_ble_eq_true rfl, Nat.le_of_ble_eq_true rfl⟩) (fun v77 u H locs hz9 hH hS => ?_)
    have hz9 : u = (T, O, X) := hz9
    subst hz9
    have hH : HT D cs A T O X H := hH
    refine W.widen (k := 0) (n := 0) (Nat.le_of_ble_eq_true rfl) (Nat.le_of_ble_eq_true rfl) ?_
    refine lv_istore_n (lv' := [(1, .int v77), (0, .ref a0)]) hx hb dX4_readUsed_80 rfl hl (by decide) rfl (fun ls hl => ?_)
    refine lv_iload_n hx hb dX4_readUsed_81 rfl (lv_at hl 0 rfl) ?_
    refine lv_iconst (v := (-1)) hx hb dX4_readUsed_82 (by decide) ?_
    have J98 : ∀  (H : Heap) (locs : List Loc) (ls : Array Slot), HT D cs A T O X H → va_S A s.heap H locs → lv_has ls 3 [] → W p l e { frames := 6, cells := 0, slots := 0, locals := 133 } s m [.ref a0].toArray below meth c H locs 0 0 (MQ below (Ti D cs (fun r u => u = (T, O, X) ∧ 0 ≤ r.toInt ∧ r.toInt ≤ 1) A) [.ref a0].toArray s 0 0 A) (F0 m 98 ls []) := by
      intro  H locs ls  hH hS hl
      refine lv_iconst (v := 0) hx hb dX4_readUsed_98 (by decide) ?_
      exact te_z hx hb hr hlocks (by rfl) hH hS (⟨rfl, by decide, by decide⟩) dX4_readUsed_99
    refine lv_icmp_eq (tgt := 98) hx hb dX4_readUsed_83 (by decide) (fun c83 => ?_) (fun c83 => ?_)
    · skip
      have tc83 := f_eq (k := -1) (by decide) c83
      exact J98  _ _ _  hH hS (lv_sub hl [] rfl)
    · skip
      have tc83 := f_ne (k := -1) (by decide) c83
      refine lv_aload_n hx hb dX4_readUsed_86 rfl (lv_at hl 1 rfl) ?_
      refine t_get (ci := 4) (lst := ft4 d 0) (C := RX4) (F := TX4) (N := 5) hx hb hts uX4 hown hkb hH t_a0 (hO.no t_a0 (by decide)) (fun _ h9 => h9) rfl rfl 0 (by decide) rfl kw_211 (fun _ h9 => h9) dX4_readUsed_87 (fun v9 h9 => ?_)
      obtain ⟨v87, rfl, t_v87⟩ := h9
      refine va_ldcS (q := kf.1 18) hx hb hown (hks ("FootholdWall$Reader", 178, "by", 18) (by decide +kernel)) dX4_readUsed_90 ?_
      refine tk_i hH hS hA (tr_V (n := 1) (As := [.ref (kf.1 18)]) hx hb hml hown hts hkb hH hOX hks hE hS hA (s_Tok_takeWord l D cs kf T O X v87 18 t_v87 (by decide) (hO.sub (by decide))) kw_603 kw_604 kw_605 kw_3 kw_606 (by decide +kernel) ⟨Nat.le_of_ble_eq_true rfl, Nat.le_of_ble_eq_true rfl⟩ (HT.recv (ci := 7) hkb hH t_v87 (hO.no t_v87 (by decide)) rfl) rfl rfl hl.1 (Nat.le_of_ble_eq_true rfl) dX4_readUsed_92 ⟨Nat.le_of_ble_eq_true rfl, Nat.le_of_ble_eq_true rfl⟩) (fun v92 u H locs hz9 hH hS => ?_)
      obtain ⟨rfl, l_v92, u_v92⟩ := hz9
      have hH : HT D cs A T O X H := hH
      refine W.widen (k := 0) (n := 0) (Nat.le_of_ble_eq_true rfl) (Nat.le_of_ble_eq_true rfl) ?_
      refine lv_if_ne (tgt := 100) hx hb dX4_readUsed_95 (by decide) (fun c95 => ?_) (fun c95 => ?_)
      · skip
        have tc95 := f_ne (k := 0) (by decide) c95
        refine lv_aload_n hx hb dX4_readUsed_100 rfl (lv_at hl 1 rfl) ?_
        refine t_get (ci := 4) (lst := ft4 d 0) (C := RX4) (F := TX4) (N := 5) hx hb hts uX4 hown hkb hH t_a0 (hO.no t_a0 (by decide)) (fun _ h9 => h9) rfl rfl 0 (by decide) rfl kw_211 (fun _ h9 => h9) dX4_readUsed_101 (fun v9 h9 => ?_)
        obtain ⟨v101, rfl, t_v101⟩ := h9
        refine lv_aload_n hx hb dX4_readUsed_104 rfl (lv_at hl 1 rfl) ?_
        refine t_get (ci := 4) (lst := ft4 d 0) (C := RX4) (F := TX4) (N := 5) hx hb hts uX4 hown hkb hH t_a0 (hO.no t_a0 (by decide)) (fun _ h9 => h9) rfl rfl 2 (by decide) rfl kw_214 (fun _ h9 => h9) dX4_readUsed_105 (fun v9 h9 => ?_)
        have h9 : v9 = .ref d := h9
        subst h9
        refine t_get (ci := 9) (lst := ft9d 100 0) (C := RX9) (F := TX9) (N := 14) hx hb hts uX9 hown hkb hH t_d (hO.no t_d (by decide)) (fun fs => (ob9d fs).mp) rfl rfl 1 (by decide) rfl kw_111 (fun _ h9 => h9) dX4_readUsed_108 (fun v9 h9 => ?_)
        obtain ⟨v108, rfl, l_v108, u_v108⟩ := h9
        refine lv_iconst (v := 1) hx hb dX4_readUsed_111 (by decide) ?_
        refine lv_isub hx hb dX4_readUsed_112 ?_
        refine lv_topi (fun v112 ev112 => ?_)
        have tv112 : v112.toInt = v108.toInt - (1) := by rw [ev112]; exact sub_i rfl (by decide : (1 : Int32).toInt = 1) (by omega) (by omega)
        refine tk_i hH hS hA (tr_V (n := 1) (As := [.int v112]) hx hb hml hown hts hkb hH hOX hks hE hS hA (s_Tok_takeNumber l D cs kf T O X v101 v112 t_v101 (hO.sub (by decide))) kw_584 kw_585 kw_586 kw_3 kw_587 (by decide +kernel) ⟨Nat.le_of_ble_eq_true rfl, Nat.le_of_ble_eq_true rfl⟩ (HT.recv (ci := 7) hkb hH t_v101 (hO.no t_v101 (by decide)) rfl) rfl rfl hl.1 (Nat.le_of_ble_eq_true rfl) dX4_readUsed_113 ⟨Nat.le_of_ble_eq_true rfl, Nat.le_of_ble_eq_true rfl⟩) (fun v113 u H locs hz9 hH hS => ?_)
        have hz9 : u = (T, O, X) := hz9
        subst hz9
        have hH : HT D cs A T O X H := hH
        refine W.widen (k := 0) (n := 0) (Nat.le_of_ble_eq_true rfl) (Nat.le_of_ble_eq_true rfl) ?_
        refine lv_istore_n (lv' := [(2, .int v113), (1, .int v77), (0, .ref a0)]) hx hb dX4_readUsed_116 rfl hl (by decide) rfl (fun ls hl => ?_)
        refine lv_iload_n hx hb dX4_readUsed_117 rfl (lv_at hl 0 rfl) ?_
        refine lv_iconst (v := (-1)) hx hb dX4_readUsed_118 (by decide) ?_
        refine lv_icmp_ne (tgt := 124) hx hb dX4_readUsed_119 (by decide) (fun c119 => ?_) (fun c119 => ?_)
        · skip
          have tc119 := f_ne (k := -1) (by decide) c119
          refine lv_aload_n hx hb dX4_readUsed_124 rfl (lv_at hl 2 rfl) ?_
          refine t_get (ci := 4) (lst := ft4 d 0) (C := RX4) (F := TX4) (N := 5) hx hb hts uX4 hown hkb hH t_a0 (hO.no t_a0 (by decide)) (fun _ h9 => h9) rfl rfl 4 (by decide) rfl kw_216 (fun _ h9 => h9) dX4_readUsed_125 (fun v9 h9 => ?_)
          obtain ⟨v125, rfl, t_v125⟩ := h9
          refine lv_iconst (v := 1) hx hb dX4_readUsed_128 (by decide) ?_
          refine lv_iload_n hx hb dX4_readUsed_129 rfl (lv_at hl 1 rfl) ?_
          refine lv_ishl hx hb dX4_readUsed_130 ?_
          refine lv_topi (fun v130 ev130 => ?_)
          refine lv_iload_n hx hb dX4_readUsed_131 rfl (lv_at hl 0 rfl) ?_
          refine tk_i hH hS hA (tr_V (n := 2) (As := [.int v130, .int v113]) hx hb hml hown hts hkb hH hOX hks hE hS hA (s_State_use l D cs kf T O X v125 v130 v113 t_v125 (hO.sub (by decide))) kw_687 kw_688 kw_689 kw_7 kw_690 (by decide +kernel) ⟨Nat.le_of_ble_eq_true rfl, Nat.le_of_ble_eq_true rfl⟩ (HT.recv (ci := 6) hkb hH t_v125 (hO.no t_v125 (by decide)) rfl) rfl rfl hl.1 (Nat.le_of_ble_eq_true rfl) dX4_readUsed_132 ⟨Nat.le_of_ble_eq_true rfl, Nat.le_of_ble_eq_true rfl⟩) (fun v132 u H locs hz9 hH hS => ?_)
          obtain ⟨rfl, l_v132, u_v132⟩ := hz9
          have hH : HT D cs A T O X H := hH
          refine W.widen (k := 0) (n := 0) (Nat.le_of_ble_eq_true rfl) (Nat.le_of_ble_eq_true rfl) ?_
          refine lv_pop hx hb dX4_readUsed_135 rfl ?_
          refine lv_iconst (v := 1) hx hb dX4_readUsed_136 (by decide) ?_
          exact te_z hx hb hr hlocks (by rfl) hH hS (⟨rfl, by decide, by decide⟩) dX4_readUsed_137
        · skip
          have tc119 := f_eq (k := -1) (by decide) c119
          refine lv_iconst (v := 0) hx hb dX4_readUsed_122 (by decide) ?_
          exact te_z hx hb hr hlocks (by rfl) hH hS (⟨rfl, by decide, by decide⟩) dX4_readUsed_123
      · skip
        have tc95 := f_eq (k := 0) (by decide) c95
        exact J98  _ _ _  hH hS (lv_sub hl [] rfl)
  refine lv_icmp_ne (tgt := 64) hx hb dX4_readUsed_15 (by decide) (fun c15 => ?_) (fun c15 => ?_)
  · skip
    have tc15 := f_ne (k := 2) (by decide) c15
    exact J64  _ _ _  hH hS (lv_sub hl [0] rfl)
  · skip
    have tc15 := f_eq (k := 2) (by decide) c15
    refine lv_aload_n hx hb dX4_readUsed_18 rfl (lv_at hl 0 rfl) ?_
    refine t_get (ci := 4) (lst := ft4 d 0) (C := RX4) (F := TX4) (N := 5) hx hb hts uX4 hown hkb hH t_a0 (hO.no t_a0 (by decide)) (fun _ h9 => h9) rfl rfl 0 (by decide) rfl kw_211 (fun _ h9 => h9) dX4_readUsed_19 (fun v9 h9 => ?_)
    obtain ⟨v19, rfl, t_v19⟩ := h9
    refine t_get (ci := 7) (lst := ft7 0 0) (C := RX7) (F := TX7) (N := 8) hx hb hts uX7 hown hkb hH t_v19 (hO.no t_v19 (by decide)) (fun _ h9 => ob7_ok h9) rfl rfl 5 (by decide) rfl kw_52 (fun _ h9 => h9) dX4_readUsed_22 (fun v9 h9 => ?_)
    obtain ⟨v22, rfl⟩ := h9
    refine lv_aload_n hx hb dX4_readUsed_25 rfl (lv_at hl 0 rfl) ?_
    refine t_get (ci := 4) (lst := ft4 d 0) (C := RX4) (F := TX4) (N := 5) hx hb hts uX4 hown hkb hH t_a0 (hO.no t_a0 (by decide)) (fun _ h9 => h9) rfl rfl 2 (by decide) rfl kw_214 (fun _ h9 => h9) dX4_readUsed_26 (fun v9 h9 => ?_)
    have h9 : v9 = .ref d := h9
    subst h9
    refine t_get (ci := 9) (lst := ft9d 100 0) (C := RX9) (F := TX9) (N := 14) hx hb hts uX9 hown hkb hH t_d (hO.no t_d (by decide)) (fun fs => (ob9d fs).mp) rfl rfl 0 (by decide) rfl kw_108 (fun _ h9 => h9) dX4_readUsed_29 (fun v9 h9 => ?_)
    obtain ⟨v29, rfl, l_v29, u_v29⟩ := h9
    refine lv_icmp_ge (tgt := 64) hx hb dX4_readUsed_32 (by decide) (fun c32 => ?_) (fun c32 => ?_)
    · skip
      have fuc32 := full_i v22
      have fvc32 := full_i v29
      have tc32 := g_le c32
      exact J64  _ _ _  hH hS (lv_sub hl [0] rfl)
    · skip
      have fuc32 := full_i v22
      have fvc32 := full_i v29
      have tc32 := g_nle c32
      refine lv_aload_n hx hb dX4_readUsed_35 rfl (lv_at hl 0 rfl) ?_
      refine t_get (ci := 4) (lst := ft4 d 0) (C := RX4) (F := TX4) (N := 5) hx hb hts uX4 hown hkb hH t_a0 (hO.no t_a0 (by decide)) (fun _ h9 => h9) rfl rfl 2 (by decide) rfl kw_214 (fun _ h9 => h9) dX4_readUsed_36 (fun v9 h9 => ?_)
      have h9 : v9 = .ref d := h9
      subst h9
      refine tk_i hH hS hA (tr_V (n := 0) (As := []) hx hb hml hown hts hkb hH hOX hks hE hS hA (s_Wall_middlesD l D cs kf T O X d t_d (hO.sub (by decide))) kw_682 kw_683 kw_684 kw_5 kw_685 (by decide +kernel) ⟨Nat.le_of_ble_eq_true rfl, Nat.le_of_ble_eq_true rfl⟩ (HT.recv (ci := 9) hkb hH t_d (hO.no t_d (by decide)) rfl) rfl rfl hl.1 (Nat.le_of_ble_eq_true rfl) dX4_readUsed_39 ⟨Nat.le_of_ble_eq_true rfl, Nat.le_of_ble_eq_true rfl⟩) (fun v39 u H locs hz9 hH hS => ?_)
      obtain ⟨rfl, l_v39, u_v39⟩ := hz9
      have hH : HT D cs A T O X H := hH
      refine W.widen (k := 0) (n := 0) (Nat.le_of_ble_eq_true rfl) (Nat.le_of_ble_eq_true rfl) ?_
      refine lv_aload_n hx hb dX4_readUsed_42 rfl (lv_at hl 0 rfl) ?_
      refine t_get (ci := 4) (lst := ft4 d 0) (C := RX4) (F := TX4) (N := 5) hx hb hts uX4 hown hkb hH t_a0 (hO.no t_a0 (by decide)) (fun _ h9 => h9) rfl rfl 0 (by decide) rfl kw_211 (fun _ h9 => h9) dX4_readUsed_43 (fun v9 h9 => ?_)
      obtain ⟨v43, rfl, t_v43⟩ := h9
      refine t_get (ci := 7) (lst := ft7 0 0) (C := RX7) (F := TX7) (N := 8) hx hb hts uX7 hown hkb hH t_v43 (hO.no t_v43 (by decide)) (fun _ h9 => ob7_ok h9) rfl rfl 5 (by decide) rfl kw_52 (fun _ h9 => h9) dX4_readUsed_46 (fun v9 h9 => ?_)
      obtain ⟨v46, rfl⟩ := h9
      refine lv_ishr hx hb dX4_readUsed_49 ?_
      refine lv_topi (fun v49 ev49 => ?_)
      have tv49 : 0 ≤ v49.toInt ∧ v49.toInt ≤ v39.toInt := by rw [ev49]; exact shr_b (by omega)
      refine lv_iconst (v := 1) hx hb dX4_readUsed_50 (by decide) ?_
      refine lv_iand hx hb dX4_readUsed_51 ?_
      refine lv_topi (fun v51 ev51 => ?_)
      have tv51 : 0 ≤ v51.toInt ∧ v51.toInt ≤ 1 := by rw [ev51]; exact and_r (by decide)
      refine lv_if_ne (tgt := 64) hx hb dX4_readUsed_52 (by decide) (fun c52 => ?_) (fun c52 => ?_)
      · skip
        have tc52 := f_ne (k := 0) (by decide) c52
        exact J64  _ _ _  hH hS (lv_sub hl [0] rfl)
      · skip
        have tc52 := f_eq (k := 0) (by decide) c52
        refine lv_aload_n hx hb dX4_readUsed_55 rfl (lv_at hl 0 rfl) ?_
        refine t_get (ci := 4) (lst := ft4 d 0) (C := RX4) (F := TX4) (N := 5) hx hb hts uX4 hown hkb hH t_a0 (hO.no t_a0 (by decide)) (fun _ h9 => h9) rfl rfl 0 (by decide) rfl kw_211 (fun _ h9 => h9) dX4_readUsed_56 (fun v9 h9 => ?_)
        obtain ⟨v56, rfl, t_v56⟩ := h9
        refine lv_iconst (v := 3) hx hb dX4_readUsed_59 (by decide) ?_
        refine tk_i hH hS hA (tr_V (n := 1) (As := [.int 3]) hx hb hml hown hts hkb hH hOX hks hE hS hA (s_Tok_refuse l D cs kf T O X v56 (3) t_v56 (hO.sub (by decide))) kw_579 kw_580 kw_581 kw_3 kw_582 (by decide +kernel) ⟨Nat.le_of_ble_eq_true rfl, Nat.le_of_ble_eq_true rfl⟩ (HT.recv (ci := 7) hkb hH t_v56 (hO.no t_v56 (by decide)) rfl) rfl rfl hl.1 (Nat.le_of_ble_eq_true rfl) dX4_readUsed_60 ⟨Nat.le_of_ble_eq_true rfl, Nat.le_of_ble_eq_true rfl⟩) (fun v60 u H locs hz9 hH hS => ?_)
        obtain ⟨rfl, l_v60, u_v60⟩ := hz9
        have hH : HT D cs A T O X H := hH
        refine W.widen (k := 0) (n := 0) (Nat.le_of_ble_eq_true rfl) (Nat.le_of_ble_eq_true rfl) ?_
        exact te_z hx hb hr hlocks (nar01 (by omega) (by omega)) hH hS (⟨rfl, by omega, by omega⟩) dX4_readUsed_63
set_option maxHeartbeats 4000000 in
set_option maxRecDepth 100000 in
theorem s_RD_readFlag (l : Launch) (D : va_G) (cs : CS) (kf : KF) (T : TF) (O : List Nat) (X : va_W) (a0 d : Nat) (x1 : Int32) (t_a0 : T a0 = some (14, d, 0)) (t_d : T d = some (19, 100, 0)) (l_x1 : 0 ≤ x1.toInt) (u_x1 : x1.toInt ≤ 13) (hO : okO T O [0, 1, 14, 17, 19]) : TK l D cs kf yX4_readFlag cX4_readFlag 3 (some (.boolean)) { frames := 6, cells := 0, slots := 0, locals := 133 } [.ref a0, .int x1] T O X (Ti D cs (fun r u => u = (T, O, X) ∧ 0 ≤ r.toInt ∧ r.toInt ≤ 1)) := by
  refine tk_of (by decide) (Nat.le_of_ble_eq_true rfl) (fun p e s m below meth c ls A H locs hx hb hr hml hown hts hlocks hnm hkb hH hS hA hOX hks hE hl => ?_)
  have hown : s.vm.findClass RX4 = some m.cls := hown
  have hl : lv_has ls 3 [(0, .ref a0), (1, .int x1)] := hl
  refine lv_iconst (v := 1) hx hb dX4_readFlag_0 (by decide) ?_
  refine lv_iload_n hx hb dX4_readFlag_1 rfl (lv_at hl 1 rfl) ?_
  refine lv_ishl hx hb dX4_readFlag_2 ?_
  refine lv_topi (fun v2 ev2 => ?_)
  have tv2 : 1 ≤ v2.toInt ∧ v2.toInt ≤ 8192 := by rw [ev2]; exact shl_b 13 (by decide) (by omega) (by omega)
  refine lv_istore_n (lv' := [(2, .int v2), (0, .ref a0), (1, .int x1)]) hx hb dX4_readFlag_3 rfl hl (by decide) rfl (fun ls hl => ?_)
  refine lv_aload_n hx hb dX4_readFlag_4 rfl (lv_at hl 1 rfl) ?_
  refine t_get (ci := 4) (lst := ft4 d 0) (C := RX4) (F := TX4) (N := 5) hx hb hts uX4 hown hkb hH t_a0 (hO.no t_a0 (by decide)) (fun _ h9 => h9) rfl rfl 0 (by decide) rfl kw_211 (fun _ h9 => h9) dX4_readFlag_5 (fun v9 h9 => ?_)
  obtain ⟨v5, rfl, t_v5⟩ := h9
  refine va_ldcS (q := kf.1 2) hx hb hown (hks ("FootholdWall$Reader", 141, "ice", 2) (by decide +kernel)) dX4_readFlag_8 ?_
  refine tk_i hH hS hA (tr_V (n := 1) (As := [.ref (kf.1 2)]) hx hb hml hown hts hkb hH hOX hks hE hS hA (s_Tok_isWord l D cs kf T O X v5 2 t_v5 (by decide) (hO.sub (by decide))) kw_550 kw_551 kw_552 kw_3 kw_553 (by decide +kernel) ⟨Nat.le_of_ble_eq_true rfl, Nat.le_of_ble_eq_true rfl⟩ (HT.recv (ci := 7) hkb hH t_v5 (hO.no t_v5 (by decide)) rfl) rfl rfl hl.1 (Nat.le_of_ble_eq_true rfl) dX4_readFlag_10 ⟨Nat.le_of_ble_eq_true rfl, Nat.le_of_ble_eq_true rfl⟩) (fun v10 u H locs hz9 hH hS => ?_)
  obtain ⟨rfl, l_v10, u_v10⟩ := hz9
  have hH : HT D cs A T O X H := hH
  refine W.widen (k := 0) (n := 0) (Nat.le_of_ble_eq_true rfl) (Nat.le_of_ble_eq_true rfl) ?_
  refine lv_if_eq (tgt := 61) hx hb dX4_readFlag_13 (by decide) (fun c13 => ?_) (fun c13 => ?_)
  · skip
    have tc13 := f_eq (k := 0) (by decide) c13
    refine lv_aload_n hx hb dX4_readFlag_61 rfl (lv_at hl 1 rfl) ?_
    refine t_get (ci := 4) (lst := ft4 d 0) (C := RX4) (F := TX4) (N := 5) hx hb hts uX4 hown hkb hH t_a0 (hO.no t_a0 (by decide)) (fun _ h9 => h9) rfl rfl 0 (by decide) rfl kw_211 (fun _ h9 => h9) dX4_readFlag_62 (fun v9 h9 => ?_)
    obtain ⟨v62, rfl, t_v62⟩ := h9
    refine va_ldcS (q := kf.1 3) hx hb hown (hks ("FootholdWall$Reader", 142, "start", 3) (by decide +kernel)) dX4_readFlag_65 ?_
    refine tk_i hH hS hA (tr_V (n := 1) (As := [.ref (kf.1 3)]) hx hb hml hown hts hkb hH hOX hks hE hS hA (s_Tok_isWord l D cs kf T O X v62 3 t_v62 (by decide) (hO.sub (by decide))) kw_550 kw_551 kw_552 kw_3 kw_553 (by decide +kernel) ⟨Nat.le_of_ble_eq_true rfl, Nat.le_of_ble_eq_true rfl⟩ (HT.recv (ci := 7) hkb hH t_v62 (hO.no t_v62 (by decide)) rfl) rfl rfl hl.1 (Nat.le_of_ble_eq_true rfl) dX4_readFlag_67 ⟨Nat.le_of_ble_eq_true rfl, Nat.le_of_ble_eq_true rfl⟩) (fun v67 u H locs hz9 hH hS => ?_)
    obtain ⟨rfl, l_v67, u_v67⟩ := hz9
    have hH : HT D cs A T O X H := hH
    refine W.widen (k := 0) (n := 0) (Nat.le_of_ble_eq_true rfl) (Nat.le_of_ble_eq_true rfl) ?_
    have J154 : ∀  (H : Heap) (locs : List Loc) (ls : Array Slot), HT D cs A T O X H → va_S A s.heap H locs → lv_has ls 3 [(0, .ref a0)] → W p l e { frames := 6, cells := 0, slots := 0, locals := 133 } s m [.ref a0, .int x1].toArray below meth c H locs 0 0 (MQ below (Ti D cs (fun r u => u = (T, O, X) ∧ 0 ≤ r.toInt ∧ r.toInt ≤ 1) A) [.ref a0, .int x1].toArray s 0 0 A) (F0 m 154 ls []) := by
      intro  H locs ls  hH hS hl
      refine lv_aload_n hx hb dX4_readFlag_154 rfl (lv_at hl 0 rfl) ?_
      refine t_get (ci := 4) (lst := ft4 d 0) (C := RX4) (F := TX4) (N := 5) hx hb hts uX4 hown hkb hH t_a0 (hO.no t_a0 (by decide)) (fun _ h9 => h9) rfl rfl 0 (by decide) rfl kw_211 (fun _ h9 => h9) dX4_readFlag_155 (fun v9 h9 => ?_)
      obtain ⟨v155, rfl, t_v155⟩ := h9
      refine tk_v hH hS hA (tr_V (n := 0) (As := []) hx hb hml hown hts hkb hH hOX hks hE hS hA (s_Tok_go l D cs kf T O X v155 t_v155 (hO.sub (by decide))) kw_583 kw_453 kw_454 kw_3 kw_455 (by decide +kernel) ⟨Nat.le_of_ble_eq_true rfl, Nat.le_of_ble_eq_true rfl⟩ (HT.recv (ci := 7) hkb hH t_v155 (hO.no t_v155 (by decide)) rfl) rfl rfl hl.1 (Nat.le_of_ble_eq_true rfl) dX4_readFlag_158 ⟨Nat.le_of_ble_eq_true rfl, Nat.le_of_ble_eq_true rfl⟩) (fun u H locs hz9 hH hS => ?_)
      have hz9 : u = (T, O, X) := hz9
      subst hz9
      have hH : HT D cs A T O X H := hH
      refine W.widen (k := 0) (n := 0) (Nat.le_of_ble_eq_true rfl) (Nat.le_of_ble_eq_true rfl) ?_
      refine lv_iconst (v := 1) hx hb dX4_readFlag_161 (by decide) ?_
      exact te_z hx hb hr hlocks (by rfl) hH hS (⟨rfl, by decide, by decide⟩) dX4_readFlag_162
    refine lv_if_eq (tgt := 89) hx hb dX4_readFlag_70 (by decide) (fun c70 => ?_) (fun c70 => ?_)
    · skip
      have tc70 := f_eq (k := 0) (by decide) c70
      refine lv_aload_n hx hb dX4_readFlag_89 rfl (lv_at hl 1 rfl) ?_
      refine t_get (ci := 4) (lst := ft4 d 0) (C := RX4) (F := TX4) (N := 5) hx hb hts uX4 hown hkb hH t_a0 (hO.no t_a0 (by decide)) (fun _ h9 => h9) rfl rfl 0 (by decide) rfl kw_211 (fun _ h9 => h9) dX4_readFlag_90 (fun v9 h9 => ?_)
      obtain ⟨v90, rfl, t_v90⟩ := h9
      refine va_ldcS (q := kf.1 4) hx hb hown (hks ("FootholdWall$Reader", 147, "top", 4) (by decide +kernel)) dX4_readFlag_93 ?_
      refine tk_i hH hS hA (tr_V (n := 1) (As := [.ref (kf.1 4)]) hx hb hml hown hts hkb hH hOX hks hE hS hA (s_Tok_isWord l D cs kf T O X v90 4 t_v90 (by decide) (hO.sub (by decide))) kw_550 kw_551 kw_552 kw_3 kw_553 (by decide +kernel) ⟨Nat.le_of_ble_eq_true rfl, Nat.le_of_ble_eq_true rfl⟩ (HT.recv (ci := 7) hkb hH t_v90 (hO.no t_v90 (by decide)) rfl) rfl rfl hl.1 (Nat.le_of_ble_eq_true rfl) dX4_readFlag_95 ⟨Nat.le_of_ble_eq_true rfl, Nat.le_of_ble_eq_true rfl⟩) (fun v95 u H locs hz9 hH hS => ?_)
      obtain ⟨rfl, l_v95, u_v95⟩ := hz9
      have hH : HT D cs A T O X H := hH
      refine W.widen (k := 0) (n := 0) (Nat.le_of_ble_eq_true rfl) (Nat.le_of_ble_eq_true rfl) ?_
      refine lv_if_eq (tgt := 117) hx hb dX4_readFlag_98 (by decide) (fun c98 => ?_) (fun c98 => ?_)
      · skip
        have tc98 := f_eq (k := 0) (by decide) c98
        refine lv_aload_n hx hb dX4_readFlag_117 rfl (lv_at hl 1 rfl) ?_
        refine t_get (ci := 4) (lst := ft4 d 0) (C := RX4) (F := TX4) (N := 5) hx hb hts uX4 hown hkb hH t_a0 (hO.no t_a0 (by decide)) (fun _ h9 => h9) rfl rfl 0 (by decide) rfl kw_211 (fun _ h9 => h9) dX4_readFlag_118 (fun v9 h9 => ?_)
        obtain ⟨v118, rfl, t_v118⟩ := h9
        refine va_ldcS (q := kf.1 5) hx hb hown (hks ("FootholdWall$Reader", 152, "wide", 5) (by decide +kernel)) dX4_readFlag_121 ?_
        refine tk_i hH hS hA (tr_V (n := 1) (As := [.ref (kf.1 5)]) hx hb hml hown hts hkb hH hOX hks hE hS hA (s_Tok_isWord l D cs kf T O X v118 5 t_v118 (by decide) (hO.sub (by decide))) kw_550 kw_551 kw_552 kw_3 kw_553 (by decide +kernel) ⟨Nat.le_of_ble_eq_true rfl, Nat.le_of_ble_eq_true rfl⟩ (HT.recv (ci := 7) hkb hH t_v118 (hO.no t_v118 (by decide)) rfl) rfl rfl hl.1 (Nat.le_of_ble_eq_true rfl) dX4_readFlag_123 ⟨Nat.le_of_ble_eq_true rfl, Nat.le_of_ble_eq_true rfl⟩) (fun v123 u H locs hz9 hH hS => ?_)
        obtain ⟨rfl, l_v123, u_v123⟩ := hz9
        have hH : HT D cs A T O X H := hH
        refine W.widen (k := 0) (n := 0) (Nat.le_of_ble_eq_true rfl) (Nat.le_of_ble_eq_true rfl) ?_
        refine lv_if_eq (tgt := 145) hx hb dX4_readFlag_126 (by decide) (fun c126 => ?_) (fun c126 => ?_)
        · skip
          have tc126 := f_eq (k := 0) (by decide) c126
          refine lv_aload_n hx hb dX4_readFlag_145 rfl (lv_at hl 1 rfl) ?_
          refine t_get (ci := 4) (lst := ft4 d 0) (C := RX4) (F := TX4) (N := 5) hx hb hts uX4 hown hkb hH t_a0 (hO.no t_a0 (by decide)) (fun _ h9 => h9) rfl rfl 0 (by decide) rfl kw_211 (fun _ h9 => h9) dX4_readFlag_146 (fun v9 h9 => ?_)
          obtain ⟨v146, rfl, t_v146⟩ := h9
          refine lv_iconst (v := 2) hx hb dX4_readFlag_149 (by decide) ?_
          refine tk_i hH hS hA (tr_V (n := 1) (As := [.int 2]) hx hb hml hown hts hkb hH hOX hks hE hS hA (s_Tok_refuse l D cs kf T O X v146 (2) t_v146 (hO.sub (by decide))) kw_579 kw_580 kw_581 kw_3 kw_582 (by decide +kernel) ⟨Nat.le_of_ble_eq_true rfl, Nat.le_of_ble_eq_true rfl⟩ (HT.recv (ci := 7) hkb hH t_v146 (hO.no t_v146 (by decide)) rfl) rfl rfl hl.1 (Nat.le_of_ble_eq_true rfl) dX4_readFlag_150 ⟨Nat.le_of_ble_eq_true rfl, Nat.le_of_ble_eq_true rfl⟩) (fun v150 u H locs hz9 hH hS => ?_)
          obtain ⟨rfl, l_v150, u_v150⟩ := hz9
          have hH : HT D cs A T O X H := hH
          refine W.widen (k := 0) (n := 0) (Nat.le_of_ble_eq_true rfl) (Nat.le_of_ble_eq_true rfl) ?_
          exact te_z hx hb hr hlocks (nar01 (by omega) (by omega)) hH hS (⟨rfl, by omega, by omega⟩) dX4_readFlag_153
        · skip
          have tc126 := f_ne (k := 0) (by decide) c126
          refine lv_aload_n hx hb dX4_readFlag_129 rfl (lv_at hl 1 rfl) ?_
          refine t_get (ci := 4) (lst := ft4 d 0) (C := RX4) (F := TX4) (N := 5) hx hb hts uX4 hown hkb hH t_a0 (hO.no t_a0 (by decide)) (fun _ h9 => h9) rfl rfl 2 (by decide) rfl kw_214 (fun _ h9 => h9) dX4_readFlag_130 (fun v9 h9 => ?_)
          have h9 : v9 = .ref d := h9
          subst h9
          refine lv_dup hx hb dX4_readFlag_133 rfl ?_
          refine t_get (ci := 9) (lst := ft9d 100 0) (C := RX9) (F := TX9) (N := 14) hx hb hts uX9 hown hkb hH t_d (hO.no t_d (by decide)) (fun fs => (ob9d fs).mp) rfl rfl 5 (by decide) rfl kw_131 (fun _ h9 => h9) dX4_readFlag_134 (fun v9 h9 => ?_)
          obtain ⟨v134, rfl, l_v134, u_v134⟩ := h9
          refine lv_iload_n hx hb dX4_readFlag_137 rfl (lv_at hl 0 rfl) ?_
          refine lv_ior hx hb dX4_readFlag_138 ?_
          refine lv_topi (fun v138 ev138 => ?_)
          have tv138 : 0 ≤ v138.toInt ∧ v138.toInt < 16384 := by rw [ev138]; exact or_b 14 (by decide) (by omega) (by omega) (by omega) (by omega)
          refine t_put (ci := 9) (lst := ft9d 100 0) (v := .int v138) (ty := tyX9 5) (C := RX9) (F := TX9) (N := 14) hx hb hts uX9 tyX9 tyX9_ok nmX9 hown hkb hH hS t_d (hO.no t_d (by decide)) (fun fs => (ob9d fs)) rfl rfl 5 (by decide) rfl (⟨_, rfl, by omega, by omega⟩) kw_131 (fun _ h9 => h9) rfl (tyX9_ok 5 (by decide)) rfl rfl dX4_readFlag_139 (fun H locs hH hS => ?_)
          refine lv_goto (tgt := 154) hx hb dX4_readFlag_142 (by decide) ?_
          exact J154  _ _ _  hH hS (lv_sub hl [1] rfl)
      · skip
        have tc98 := f_ne (k := 0) (by decide) c98
        refine lv_aload_n hx hb dX4_readFlag_101 rfl (lv_at hl 1 rfl) ?_
        refine t_get (ci := 4) (lst := ft4 d 0) (C := RX4) (F := TX4) (N := 5) hx hb hts uX4 hown hkb hH t_a0 (hO.no t_a0 (by decide)) (fun _ h9 => h9) rfl rfl 2 (by decide) rfl kw_214 (fun _ h9 => h9) dX4_readFlag_102 (fun v9 h9 => ?_)
        have h9 : v9 = .ref d := h9
        subst h9
        refine lv_dup hx hb dX4_readFlag_105 rfl ?_
        refine t_get (ci := 9) (lst := ft9d 100 0) (C := RX9) (F := TX9) (N := 14) hx hb hts uX9 hown hkb hH t_d (hO.no t_d (by decide)) (fun fs => (ob9d fs).mp) rfl rfl 4 (by decide) rfl kw_129 (fun _ h9 => h9) dX4_readFlag_106 (fun v9 h9 => ?_)
        obtain ⟨v106, rfl, l_v106, u_v106⟩ := h9
        refine lv_iload_n hx hb dX4_readFlag_109 rfl (lv_at hl 0 rfl) ?_
        refine lv_ior hx hb dX4_readFlag_110 ?_
        refine lv_topi (fun v110 ev110 => ?_)
        have tv110 : 0 ≤ v110.toInt ∧ v110.toInt < 16384 := by rw [ev110]; exact or_b 14 (by decide) (by omega) (by omega) (by omega) (by omega)
        refine t_put (ci := 9) (lst := ft9d 100 0) (v := .int v110) (ty := tyX9 4) (C := RX9) (F := TX9) (N := 14) hx hb hts uX9 tyX9 tyX9_ok nmX9 hown hkb hH hS t_d (hO.no t_d (by decide)) (fun fs => (ob9d fs)) rfl rfl 4 (by decide) rfl (⟨_, rfl, by omega, by omega⟩) kw_129 (fun _ h9 => h9) rfl (tyX9_ok 4 (by decide)) rfl rfl dX4_readFlag_111 (fun H locs hH hS => ?_)
        refine lv_goto (tgt := 154) hx hb dX4_readFlag_114 (by decide) ?_
        exact J154  _ _ _  hH hS (lv_sub hl [1] rfl)
    · skip
      have tc70 := f_ne (k := 0) (by decide) c70
      refine lv_aload_n hx hb dX4_readFlag_73 rfl (lv_at hl 1 rfl) ?_
      refine t_get (ci := 4) (lst := ft4 d 0) (C := RX4) (F := TX4) (N := 5) hx hb hts uX4 hown hkb hH t_a0 (hO.no t_a0 (by decide)) (fun _ h9 => h9) rfl rfl 2 (by decide) rfl kw_214 (fun _ h9 => h9) dX4_readFlag_74 (fun v9 h9 => ?_)
      have h9 : v9 = .ref d := h9
      subst h9
      refine lv_dup hx hb dX4_readFlag_77 rfl ?_
      refine t_get (ci := 9) (lst := ft9d 100 0) (C := RX9) (F := TX9) (N := 14) hx hb hts uX9 hown hkb hH t_d (hO.no t_d (by decide)) (fun fs => (ob9d fs).mp) rfl rfl 3 (by decide) rfl kw_121 (fun _ h9 => h9) dX4_readFlag_78 (fun v9 h9 => ?_)
      obtain ⟨v78, rfl, l_v78, u_v78⟩ := h9
      refine lv_iload_n hx hb dX4_readFlag_81 rfl (lv_at hl 0 rfl) ?_
      refine lv_ior hx hb dX4_readFlag_82 ?_
      refine lv_topi (fun v82 ev82 => ?_)
      have tv82 : 0 ≤ v82.toInt ∧ v82.toInt < 16384 := by rw [ev82]; exact or_b 14 (by decide) (by omega) (by omega) (by omega) (by omega)
      refine t_put (ci := 9) (lst := ft9d 100 0) (v := .int v82) (ty := tyX9 3) (C := RX9) (F := TX9) (N := 14) hx hb hts uX9 tyX9 tyX9_ok nmX9 hown hkb hH hS t_d (hO.no t_d (by decide)) (fun fs => (ob9d fs)) rfl rfl 3 (by decide) rfl (⟨_, rfl, by omega, by omega⟩) kw_121 (fun _ h9 => h9) rfl (tyX9_ok 3 (by decide)) rfl rfl dX4_readFlag_83 (fun H locs hH hS => ?_)
      refine lv_goto (tgt := 154) hx hb dX4_readFlag_86 (by decide) ?_
      exact J154  _ _ _  hH hS (lv_sub hl [1] rfl)
  · skip
    have tc13 := f_ne (k := 0) (by decide) c13
    refine lv_aload_n hx hb dX4_readFlag_16 rfl (lv_at hl 1 rfl) ?_
    refine t_get (ci := 4) (lst := ft4 d 0) (C := RX4) (F := TX4) (N := 5) hx hb hts uX4 hown hkb hH t_a0 (hO.no t_a0 (by decide)) (fun _ h9 => h9) rfl rfl 0 (by decide) rfl kw_211 (fun _ h9 => h9) dX4_readFlag_17 (fun v9 h9 => ?_)
    obtain ⟨v17, rfl, t_v17⟩ := h9
    refine tk_v hH hS hA (tr_V (n := 0) (As := []) hx hb hml hown hts hkb hH hOX hks hE hS hA (s_Tok_go l D cs kf T O X v17 t_v17 (hO.sub (by decide))) kw_583 kw_453 kw_454 kw_3 kw_455 (by decide +kernel) ⟨Nat.le_of_ble_eq_true rfl, Nat.le_of_ble_eq_true rfl⟩ (HT.recv (ci := 7) hkb hH t_v17 (hO.no t_v17 (by decide)) rfl) rfl rfl hl.1 (Nat.le_of_ble_eq_true rfl) dX4_readFlag_20 ⟨Nat.le_of_ble_eq_true rfl, Nat.le_of_ble_eq_true rfl⟩) (fun u H locs hz9 hH hS => ?_)
    have hz9 : u = (T, O, X) := hz9
    subst hz9
    have hH : HT D cs A T O X H := hH
    refine W.widen (k := 0) (n := 0) (Nat.le_of_ble_eq_true rfl) (Nat.le_of_ble_eq_true rfl) ?_
    refine lv_aload_n hx hb dX4_readFlag_23 rfl (lv_at hl 1 rfl) ?_
    refine t_get (ci := 4) (lst := ft4 d 0) (C := RX4) (F := TX4) (N := 5) hx hb hts uX4 hown hkb hH t_a0 (hO.no t_a0 (by decide)) (fun _ h9 => h9) rfl rfl 2 (by decide) rfl kw_214 (fun _ h9 => h9) dX4_readFlag_24 (fun v9 h9 => ?_)
    have h9 : v9 = .ref d := h9
    subst h9
    refine t_get (ci := 9) (lst := ft9d 100 0) (C := RX9) (F := TX9) (N := 14) hx hb hts uX9 hown hkb hH t_d (hO.no t_d (by decide)) (fun fs => (ob9d fs).mp) rfl rfl 8 (by decide) rfl kw_139 (fun _ h9 => h9) dX4_readFlag_27 (fun v9 h9 => ?_)
    obtain ⟨v27, rfl, t_v27⟩ := h9
    refine lv_iload_n hx hb dX4_readFlag_30 rfl (lv_at hl 2 rfl) ?_
    refine lv_aload_n hx hb dX4_readFlag_31 rfl (lv_at hl 1 rfl) ?_
    refine t_get (ci := 4) (lst := ft4 d 0) (C := RX4) (F := TX4) (N := 5) hx hb hts uX4 hown hkb hH t_a0 (hO.no t_a0 (by decide)) (fun _ h9 => h9) rfl rfl 0 (by decide) rfl kw_211 (fun _ h9 => h9) dX4_readFlag_32 (fun v9 h9 => ?_)
    obtain ⟨v32, rfl, t_v32⟩ := h9
    refine lv_sipush (v := 999) hx hb dX4_readFlag_35 (by decide) ?_
    refine tk_i hH hS hA (tr_V (n := 1) (As := [.int 999]) hx hb hml hown hts hkb hH hOX hks hE hS hA (s_Tok_takeNumber l D cs kf T O X v32 (999) t_v32 (hO.sub (by decide))) kw_584 kw_585 kw_586 kw_3 kw_587 (by decide +kernel) ⟨Nat.le_of_ble_eq_true rfl, Nat.le_of_ble_eq_true rfl⟩ (HT.recv (ci := 7) hkb hH t_v32 (hO.no t_v32 (by decide)) rfl) rfl rfl hl.1 (Nat.le_of_ble_eq_true rfl) dX4_readFlag_38 ⟨Nat.le_of_ble_eq_true rfl, Nat.le_of_ble_eq_true rfl⟩) (fun v38 u H locs hz9 hH hS => ?_)
    have hz9 : u = (T, O, X) := hz9
    subst hz9
    have hH : HT D cs A T O X H := hH
    refine W.widen (k := 0) (n := 0) (Nat.le_of_ble_eq_true rfl) (Nat.le_of_ble_eq_true rfl) ?_
    refine t_ist hx hb hkb hH hS t_v27 (hO.no t_v27 (by decide)) (by omega) (by omega) (cp_0 _) dX4_readFlag_41 (fun H locs hH hS => ?_)
    refine lv_aload_n hx hb dX4_readFlag_42 rfl (lv_at hl 1 rfl) ?_
    refine t_get (ci := 4) (lst := ft4 d 0) (C := RX4) (F := TX4) (N := 5) hx hb hts uX4 hown hkb hH t_a0 (hO.no t_a0 (by decide)) (fun _ h9 => h9) rfl rfl 2 (by decide) rfl kw_214 (fun _ h9 => h9) dX4_readFlag_43 (fun v9 h9 => ?_)
    have h9 : v9 = .ref d := h9
    subst h9
    refine t_get (ci := 9) (lst := ft9d 100 0) (C := RX9) (F := TX9) (N := 14) hx hb hts uX9 hown hkb hH t_d (hO.no t_d (by decide)) (fun fs => (ob9d fs).mp) rfl rfl 8 (by decide) rfl kw_139 (fun _ h9 => h9) dX4_readFlag_46 (fun v9 h9 => ?_)
    obtain ⟨v46, rfl, t_v46⟩ := h9
    refine lv_iload_n hx hb dX4_readFlag_49 rfl (lv_at hl 2 rfl) ?_
    refine t_ild hx hb hkb hH t_v46 (hO.no t_v46 (by decide)) (by omega) (by omega) dX4_readFlag_50 (fun v50 h9 => ?_)
    refine lv_iconst (v := (-1)) hx hb dX4_readFlag_51 (by decide) ?_
    have J60 : ∀ (k60_0 : Int32) (H : Heap) (locs : List Loc) (ls : Array Slot), (0 ≤ k60_0.toInt) → (k60_0.toInt ≤ 1) → HT D cs A T O X H → va_S A s.heap H locs → lv_has ls 3 [] → W p l e { frames := 6, cells := 0, slots := 0, locals := 133 } s m [.ref a0, .int x1].toArray below meth c H locs 0 0 (MQ below (Ti D cs (fun r u => u = (T, O, X) ∧ 0 ≤ r.toInt ∧ r.toInt ≤ 1) A) [.ref a0, .int x1].toArray s 0 0 A) (F0 m 60 ls [.int k60_0]) := by
      intro k60_0 H locs ls l_k60_0 u_k60_0 hH hS hl
      exact te_z hx hb hr hlocks (nar01 (by omega) (by omega)) hH hS (⟨rfl, by omega, by omega⟩) dX4_readFlag_60
    refine lv_icmp_eq (tgt := 59) hx hb dX4_readFlag_52 (by decide) (fun c52 => ?_) (fun c52 => ?_)
    · skip
      have tc52 := f_eq (k := -1) (by decide) c52
      refine lv_iconst (v := 0) hx hb dX4_readFlag_59 (by decide) ?_
      exact J60 0 _ _ _ (by decide) (by decide) hH hS (lv_sub hl [] rfl)
    · skip
      have tc52 := f_ne (k := -1) (by decide) c52
      refine lv_iconst (v := 1) hx hb dX4_readFlag_55 (by decide) ?_
      refine lv_goto (tgt := 60) hx hb dX4_readFlag_56 (by decide) ?_
      exact J60 1 _ _ _ (by decide) (by decide) hH hS (lv_sub hl [] rfl)
set_option maxHeartbeats 4000000 in
set_option maxRecDepth 100000 in
theorem s_RD_readHold (l : Launch) (D : va_G) (cs : CS) (kf : KF) (T : TF) (O : List Nat) (X : va_W) (a0 d : Nat) (t_a0 : T a0 = some (14, d, 0)) (t_d : T d = some (19, 100, 0)) (hO : okO T O [0, 1, 14, 17, 19]) : TK l D cs kf yX4_readHold cX4_readHold 5 (some (.boolean)) { frames := 7, cells := 0, slots := 0, locals := 155 } [.ref a0] T O X (Ti D cs (fun r u => u = (T, O, X) ∧ 0 ≤ r.toInt ∧ r.toInt ≤ 1)) := by
  refine tk_of (by decide) (Nat.le_of_ble_eq_true rfl) (fun p e s m below meth c ls A H locs hx hb hr hml hown hts hlocks hnm hkb hH hS hA hOX hks hE hl => ?_)
  have hown : s.vm.findClass RX4 = some m.cls := hown
  have hl : lv_has ls 5 [(0, .ref a0)] := hl
  have hO0 := hO
  obtain ⟨fs9, ho9, hH⟩ := hH.take t_d (hO0.no t_d (by decide))
  have hp0 : okL T (ft9d 100 0) fs9 := (fun fs => (ob9d fs).mp) _ ho9
  clear ho9
  obtain ⟨v9, fs9, rfl, h9, hp1⟩ := okL_i hp0
  obtain ⟨q0_0, rfl, l_q0_0, u_q0_0⟩ := h9
  obtain ⟨v9, fs9, rfl, h9, hp2⟩ := okL_i hp1
  obtain ⟨q0_1, rfl, l_q0_1, u_q0_1⟩ := h9
  obtain ⟨v9, fs9, rfl, h9, hp3⟩ := okL_i hp2
  obtain ⟨q0_2, rfl⟩ := h9
  obtain ⟨v9, fs9, rfl, h9, hp4⟩ := okL_i hp3
  obtain ⟨q0_3, rfl, l_q0_3, u_q0_3⟩ := h9
  obtain ⟨v9, fs9, rfl, h9, hp5⟩ := okL_i hp4
  obtain ⟨q0_4, rfl, l_q0_4, u_q0_4⟩ := h9
  obtain ⟨v9, fs9, rfl, h9, hp6⟩ := okL_i hp5
  obtain ⟨q0_5, rfl, l_q0_5, u_q0_5⟩ := h9
  obtain ⟨v9, fs9, rfl, h9, hp7⟩ := okL_i hp6
  obtain ⟨q0_6, rfl, t_q0_6⟩ := h9
  obtain ⟨v9, fs9, rfl, h9, hp8⟩ := okL_i hp7
  obtain ⟨q0_7, rfl, t_q0_7⟩ := h9
  obtain ⟨v9, fs9, rfl, h9, hp9⟩ := okL_i hp8
  obtain ⟨q0_8, rfl, t_q0_8⟩ := h9
  obtain ⟨v9, fs9, rfl, h9, hp10⟩ := okL_i hp9
  obtain ⟨q0_9, rfl, t_q0_9⟩ := h9
  obtain ⟨v9, fs9, rfl, h9, hp11⟩ := okL_i hp10
  obtain ⟨q0_10, rfl, t_q0_10⟩ := h9
  obtain ⟨v9, fs9, rfl, h9, hp12⟩ := okL_i hp11
  have h9 : v9 = .null := h9
  subst h9
  obtain ⟨v9, fs9, rfl, h9, hp13⟩ := okL_i hp12
  obtain ⟨q0_12, rfl, l_q0_12, u_q0_12⟩ := h9
  obtain ⟨v9, fs9, rfl, h9, hp14⟩ := okL_i hp13
  obtain ⟨q0_13, rfl, l_q0_13, u_q0_13⟩ := h9
  have hpz := okL_z hp14
  subst hpz
  have hH : HT D cs A T (d :: O) ((d, .inr (9, [.int q0_0, .int q0_1, .int q0_2, .int q0_3, .int q0_4, .int q0_5, .ref q0_6, .ref q0_7, .ref q0_8, .ref q0_9, .ref q0_10, .null, .int q0_12, .int q0_13])) :: X) H := hH
  have hO : okO T (d :: O) [0, 1, 14, 17] := okO.cons (hO0.sub (by decide)) t_d (by decide)
  refine lv_aload_n hx hb dX4_readHold_0 rfl (lv_at hl 0 rfl) ?_
  refine t_get (ci := 4) (lst := ft4 d 0) (C := RX4) (F := TX4) (N := 5) hx hb hts uX4 hown hkb hH t_a0 (hO.no t_a0 (by decide)) (fun _ h9 => h9) rfl rfl 2 (by decide) rfl kw_214 (fun _ h9 => h9) dX4_readHold_1 (fun v9 h9 => ?_)
  have h9 : v9 = .ref d := h9
  subst h9
  refine x_get (ci := 9) (C := RX9) (F := TX9) (N := 14) (v := .int q0_0) hx hb hts uX9 hown hkb hH rfl 0 (by decide) rfl kw_108 (fun _ h9 => h9) dX4_readHold_4 ?_
  refine lv_istore_n (lv' := [(1, .int q0_0), (0, .ref a0)]) hx hb dX4_readHold_7 rfl hl (by decide) rfl (fun ls hl => ?_)
  refine lv_iload_n hx hb dX4_readHold_8 rfl (lv_at hl 0 rfl) ?_
  refine lv_bipush (v := 14) hx hb dX4_readHold_9 (by decide) ?_
  refine lv_icmp_lt (tgt := 23) hx hb dX4_readHold_11 (by decide) (fun c11 => ?_) (fun c11 => ?_)
  · skip
    have tc11 := f_lt (k := 14) (by decide) c11
    refine lv_aload_n hx hb dX4_readHold_23 rfl (lv_at hl 1 rfl) ?_
    refine t_get (ci := 4) (lst := ft4 d 0) (C := RX4) (F := TX4) (N := 5) hx hb hts uX4 hown hkb hH t_a0 (hO.no t_a0 (by decide)) (fun _ h9 => h9) rfl rfl 0 (by decide) rfl kw_211 (fun _ h9 => h9) dX4_readHold_24 (fun v9 h9 => ?_)
    obtain ⟨v24, rfl, t_v24⟩ := h9
    refine tk_v hH hS hA (tr_V (n := 0) (As := []) hx hb hml hown hts hkb hH (ox_c hOX) hks hE hS hA (s_Tok_go l D cs kf T (d :: O) ((d, .inr (9, [.int q0_0, .int q0_1, .int q0_2, .int q0_3, .int q0_4, .int q0_5, .ref q0_6, .ref q0_7, .ref q0_8, .ref q0_9, .ref q0_10, .null, .int q0_12, .int q0_13])) :: X) v24 t_v24 (hO.sub (by decide))) kw_583 kw_453 kw_454 kw_3 kw_455 (by decide +kernel) ⟨Nat.le_of_ble_eq_true rfl, Nat.le_of_ble_eq_true rfl⟩ (HT.recv (ci := 7) hkb hH t_v24 (hO.no t_v24 (by decide)) rfl) rfl rfl hl.1 (Nat.le_of_ble_eq_true rfl) dX4_readHold_27 ⟨Nat.le_of_ble_eq_true rfl, Nat.le_of_ble_eq_true rfl⟩) (fun u H locs hz9 hH hS => ?_)
    have hz9 : u = (T, d :: O, (d, .inr (9, [.int q0_0, .int q0_1, .int q0_2, .int q0_3, .int q0_4, .int q0_5, .ref q0_6, .ref q0_7, .ref q0_8, .ref q0_9, .ref q0_10, .null, .int q0_12, .int q0_13])) :: X) := hz9
    subst hz9
    have hH : HT D cs A T (d :: O) ((d, .inr (9, [.int q0_0, .int q0_1, .int q0_2, .int q0_3, .int q0_4, .int q0_5, .ref q0_6, .ref q0_7, .ref q0_8, .ref q0_9, .ref q0_10, .null, .int q0_12, .int q0_13])) :: X) H := hH
    refine W.widen (k := 0) (n := 0) (Nat.le_of_ble_eq_true rfl) (Nat.le_of_ble_eq_true rfl) ?_
    refine lv_aload_n hx hb dX4_readHold_30 rfl (lv_at hl 1 rfl) ?_
    refine t_get (ci := 4) (lst := ft4 d 0) (C := RX4) (F := TX4) (N := 5) hx hb hts uX4 hown hkb hH t_a0 (hO.no t_a0 (by decide)) (fun _ h9 => h9) rfl rfl 0 (by decide) rfl kw_211 (fun _ h9 => h9) dX4_readHold_31 (fun v9 h9 => ?_)
    obtain ⟨v31, rfl, t_v31⟩ := h9
    refine lv_bipush (v := 99) hx hb dX4_readHold_34 (by decide) ?_
    refine tk_i hH hS hA (tr_V (n := 1) (As := [.int 99]) hx hb hml hown hts hkb hH (ox_c hOX) hks hE hS hA (s_Tok_takeNumber l D cs kf T (d :: O) ((d, .inr (9, [.int q0_0, .int q0_1, .int q0_2, .int q0_3, .int q0_4, .int q0_5, .ref q0_6, .ref q0_7, .ref q0_8, .ref q0_9, .ref q0_10, .null, .int q0_12, .int q0_13])) :: X) v31 (99) t_v31 (hO.sub (by decide))) kw_584 kw_585 kw_586 kw_3 kw_587 (by decide +kernel) ⟨Nat.le_of_ble_eq_true rfl, Nat.le_of_ble_eq_true rfl⟩ (HT.recv (ci := 7) hkb hH t_v31 (hO.no t_v31 (by decide)) rfl) rfl rfl hl.1 (Nat.le_of_ble_eq_true rfl) dX4_readHold_36 ⟨Nat.le_of_ble_eq_true rfl, Nat.le_of_ble_eq_true rfl⟩) (fun v36 u H locs hz9 hH hS => ?_)
    have hz9 : u = (T, d :: O, (d, .inr (9, [.int q0_0, .int q0_1, .int q0_2, .int q0_3, .int q0_4, .int q0_5, .ref q0_6, .ref q0_7, .ref q0_8, .ref q0_9, .ref q0_10, .null, .int q0_12, .int q0_13])) :: X) := hz9
    subst hz9
    have hH : HT D cs A T (d :: O) ((d, .inr (9, [.int q0_0, .int q0_1, .int q0_2, .int q0_3, .int q0_4, .int q0_5, .ref q0_6, .ref q0_7, .ref q0_8, .ref q0_9, .ref q0_10, .null, .int q0_12, .int q0_13])) :: X) H := hH
    refine W.widen (k := 0) (n := 0) (Nat.le_of_ble_eq_true rfl) (Nat.le_of_ble_eq_true rfl) ?_
    refine lv_istore_n (lv' := [(2, .int v36), (1, .int q0_0), (0, .ref a0)]) hx hb dX4_readHold_39 rfl hl (by decide) rfl (fun ls hl => ?_)
    refine lv_iload_n hx hb dX4_readHold_40 rfl (lv_at hl 0 rfl) ?_
    refine lv_iconst (v := (-1)) hx hb dX4_readHold_41 (by decide) ?_
    refine lv_icmp_ne (tgt := 47) hx hb dX4_readHold_42 (by decide) (fun c42 => ?_) (fun c42 => ?_)
    · skip
      have tc42 := f_ne (k := -1) (by decide) c42
      refine lv_aload_n hx hb dX4_readHold_47 rfl (lv_at hl 2 rfl) ?_
      refine t_get (ci := 4) (lst := ft4 d 0) (C := RX4) (F := TX4) (N := 5) hx hb hts uX4 hown hkb hH t_a0 (hO.no t_a0 (by decide)) (fun _ h9 => h9) rfl rfl 0 (by decide) rfl kw_211 (fun _ h9 => h9) dX4_readHold_48 (fun v9 h9 => ?_)
      obtain ⟨v48, rfl, t_v48⟩ := h9
      refine lv_bipush (v := 99) hx hb dX4_readHold_51 (by decide) ?_
      refine tk_i hH hS hA (tr_V (n := 1) (As := [.int 99]) hx hb hml hown hts hkb hH (ox_c hOX) hks hE hS hA (s_Tok_takeNumber l D cs kf T (d :: O) ((d, .inr (9, [.int q0_0, .int q0_1, .int q0_2, .int q0_3, .int q0_4, .int q0_5, .ref q0_6, .ref q0_7, .ref q0_8, .ref q0_9, .ref q0_10, .null, .int q0_12, .int q0_13])) :: X) v48 (99) t_v48 (hO.sub (by decide))) kw_584 kw_585 kw_586 kw_3 kw_587 (by decide +kernel) ⟨Nat.le_of_ble_eq_true rfl, Nat.le_of_ble_eq_true rfl⟩ (HT.recv (ci := 7) hkb hH t_v48 (hO.no t_v48 (by decide)) rfl) rfl rfl hl.1 (Nat.le_of_ble_eq_true rfl) dX4_readHold_53 ⟨Nat.le_of_ble_eq_true rfl, Nat.le_of_ble_eq_true rfl⟩) (fun v53 u H locs hz9 hH hS => ?_)
      have hz9 : u = (T, d :: O, (d, .inr (9, [.int q0_0, .int q0_1, .int q0_2, .int q0_3, .int q0_4, .int q0_5, .ref q0_6, .ref q0_7, .ref q0_8, .ref q0_9, .ref q0_10, .null, .int q0_12, .int q0_13])) :: X) := hz9
      subst hz9
      have hH : HT D cs A T (d :: O) ((d, .inr (9, [.int q0_0, .int q0_1, .int q0_2, .int q0_3, .int q0_4, .int q0_5, .ref q0_6, .ref q0_7, .ref q0_8, .ref q0_9, .ref q0_10, .null, .int q0_12, .int q0_13])) :: X) H := hH
      refine W.widen (k := 0) (n := 0) (Nat.le_of_ble_eq_true rfl) (Nat.le_of_ble_eq_true rfl) ?_
      refine lv_istore_n (lv' := [(3, .int v53), (2, .int v36), (1, .int q0_0), (0, .ref a0)]) hx hb dX4_readHold_56 rfl hl (by decide) rfl (fun ls hl => ?_)
      refine lv_iload_n hx hb dX4_readHold_57 rfl (lv_at hl 0 rfl) ?_
      refine lv_iconst (v := (-1)) hx hb dX4_readHold_58 (by decide) ?_
      refine lv_icmp_ne (tgt := 64) hx hb dX4_readHold_59 (by decide) (fun c59 => ?_) (fun c59 => ?_)
      · skip
        have tc59 := f_ne (k := -1) (by decide) c59
        refine lv_aload_n hx hb dX4_readHold_64 rfl (lv_at hl 3 rfl) ?_
        refine t_get (ci := 4) (lst := ft4 d 0) (C := RX4) (F := TX4) (N := 5) hx hb hts uX4 hown hkb hH t_a0 (hO.no t_a0 (by decide)) (fun _ h9 => h9) rfl rfl 2 (by decide) rfl kw_214 (fun _ h9 => h9) dX4_readHold_65 (fun v9 h9 => ?_)
        have h9 : v9 = .ref d := h9
        subst h9
        refine x_get (ci := 9) (C := RX9) (F := TX9) (N := 14) (v := .ref q0_6) hx hb hts uX9 hown hkb hH rfl 6 (by decide) rfl kw_133 (fun _ h9 => h9) dX4_readHold_68 ?_
        refine lv_iload_n hx hb dX4_readHold_71 rfl (lv_at hl 2 rfl) ?_
        refine lv_iload_n hx hb dX4_readHold_72 rfl (lv_at hl 1 rfl) ?_
        refine t_ist hx hb hkb hH hS t_q0_6 (hO.no t_q0_6 (by decide)) (by omega) (by omega) (cp_0 _) dX4_readHold_73 (fun H locs hH hS => ?_)
        refine lv_aload_n hx hb dX4_readHold_74 rfl (lv_at hl 3 rfl) ?_
        refine t_get (ci := 4) (lst := ft4 d 0) (C := RX4) (F := TX4) (N := 5) hx hb hts uX4 hown hkb hH t_a0 (hO.no t_a0 (by decide)) (fun _ h9 => h9) rfl rfl 2 (by decide) rfl kw_214 (fun _ h9 => h9) dX4_readHold_75 (fun v9 h9 => ?_)
        have h9 : v9 = .ref d := h9
        subst h9
        refine x_get (ci := 9) (C := RX9) (F := TX9) (N := 14) (v := .ref q0_7) hx hb hts uX9 hown hkb hH rfl 7 (by decide) rfl kw_136 (fun _ h9 => h9) dX4_readHold_78 ?_
        refine lv_iload_n hx hb dX4_readHold_81 rfl (lv_at hl 2 rfl) ?_
        refine lv_iload_n hx hb dX4_readHold_82 rfl (lv_at hl 0 rfl) ?_
        refine t_ist hx hb hkb hH hS t_q0_7 (hO.no t_q0_7 (by decide)) (by omega) (by omega) (cp_0 _) dX4_readHold_83 (fun H locs hH hS => ?_)
        refine lv_aload_n hx hb dX4_readHold_84 rfl (lv_at hl 3 rfl) ?_
        refine t_get (ci := 4) (lst := ft4 d 0) (C := RX4) (F := TX4) (N := 5) hx hb hts uX4 hown hkb hH t_a0 (hO.no t_a0 (by decide)) (fun _ h9 => h9) rfl rfl 2 (by decide) rfl kw_214 (fun _ h9 => h9) dX4_readHold_85 (fun v9 h9 => ?_)
        have h9 : v9 = .ref d := h9
        subst h9
        refine x_get (ci := 9) (C := RX9) (F := TX9) (N := 14) (v := .ref q0_8) hx hb hts uX9 hown hkb hH rfl 8 (by decide) rfl kw_139 (fun _ h9 => h9) dX4_readHold_88 ?_
        refine lv_iload_n hx hb dX4_readHold_91 rfl (lv_at hl 2 rfl) ?_
        refine lv_iconst (v := 0) hx hb dX4_readHold_92 (by decide) ?_
        refine t_ist hx hb hkb hH hS t_q0_8 (hO.no t_q0_8 (by decide)) (by omega) (by omega) (cp_0 _) dX4_readHold_93 (fun H locs hH hS => ?_)
        refine lv_aload_n hx hb dX4_readHold_94 rfl (lv_at hl 3 rfl) ?_
        refine t_get (ci := 4) (lst := ft4 d 0) (C := RX4) (F := TX4) (N := 5) hx hb hts uX4 hown hkb hH t_a0 (hO.no t_a0 (by decide)) (fun _ h9 => h9) rfl rfl 2 (by decide) rfl kw_214 (fun _ h9 => h9) dX4_readHold_95 (fun v9 h9 => ?_)
        have h9 : v9 = .ref d := h9
        subst h9
        refine lv_dup hx hb dX4_readHold_98 rfl ?_
        refine x_get (ci := 9) (C := RX9) (F := TX9) (N := 14) (v := .int q0_0) hx hb hts uX9 hown hkb hH rfl 0 (by decide) rfl kw_108 (fun _ h9 => h9) dX4_readHold_99 ?_
        refine lv_iconst (v := 1) hx hb dX4_readHold_102 (by decide) ?_
        refine lv_iadd hx hb dX4_readHold_103 ?_
        refine lv_topi (fun v103 ev103 => ?_)
        have tv103 : v103.toInt = q0_0.toInt + (1) := by rw [ev103]; exact add_i rfl (by decide : (1 : Int32).toInt = 1) (by omega) (by omega)
        refine x_put (ci := 9) (v := .int v103) (ty := tyX9 0) (C := RX9) (F := TX9) (N := 14) hx hb hts uX9 tyX9 tyX9_ok nmX9 hown hkb hH hS rfl 0 (by decide) kw_108 (fun _ h9 => h9) rfl (tyX9_ok 0 (by decide)) rfl rfl (Nat.le_of_ble_eq_true rfl) dX4_readHold_104 (fun H locs hH hS => ?_)
        have hH : HT D cs A T (d :: O) ((d, .inr (9, [.int v103, .int q0_1, .int q0_2, .int q0_3, .int q0_4, .int q0_5, .ref q0_6, .ref q0_7, .ref q0_8, .ref q0_9, .ref q0_10, .null, .int q0_12, .int q0_13])) :: X) H := hH
        refine lv_iconst (v := 0) hx hb dX4_readHold_107 (by decide) ?_
        have J110 : ∀ (n : Nat) (p110_4 : Int32) (f110_0 : Int32) (f110_1 : Int32) (f110_2 : Int32) (f110_3 : Int32) (f110_4 : Int32) (f110_5 : Int32) (f110_6 : Nat) (f110_7 : Nat) (f110_8 : Nat) (f110_9 : Nat) (f110_10 : Nat) (f110_12 : Int32) (f110_13 : Int32) (H : Heap) (locs : List Loc) (ls : Array Slot), (900 - p110_4.toInt).toNat = n → (T f110_6 = some (1, 14, 0)) → (T f110_7 = some (1, 14, 0)) → (T f110_8 = some (1, 14, 0)) → (T f110_9 = some (1, 5, 0)) → (T f110_10 = some (1, 5, 0)) → (0 ≤ p110_4.toInt) → (p110_4.toInt ≤ 900) → (0 ≤ f110_0.toInt) → (f110_0.toInt ≤ 14) → (0 ≤ f110_1.toInt) → (f110_1.toInt ≤ 5) → (0 ≤ f110_3.toInt) → (f110_3.toInt ≤ 16383) → (0 ≤ f110_4.toInt) → (f110_4.toInt ≤ 16383) → (0 ≤ f110_5.toInt) → (f110_5.toInt ≤ 16383) → (0 ≤ f110_12.toInt) → (f110_12.toInt ≤ 1) → (0 ≤ f110_13.toInt) → (f110_13.toInt ≤ 1) → HT D cs A T (d :: O) ((d, .inr (9, [.int f110_0, .int f110_1, .int f110_2, .int f110_3, .int f110_4, .int f110_5, .ref f110_6, .ref f110_7, .ref f110_8, .ref f110_9, .ref f110_10, .null, .int f110_12, .int f110_13])) :: X) H → va_S A s.heap H locs → lv_has ls 5 [(4, .int p110_4), (1, .int q0_0), (0, .ref a0)] → W p l e { frames := 7, cells := 0, slots := 0, locals := 155 } s m [.ref a0].toArray below meth c H locs 0 0 (MQ below (Ti D cs (fun r u => u = (T, O, X) ∧ 0 ≤ r.toInt ∧ r.toInt ≤ 1) A) [.ref a0].toArray s 0 0 A) (F0 m 110 ls []) := by
          intro n
          induction n using Nat.strongRecOn with
          | _ n ih110 =>
            intro p110_4 f110_0 f110_1 f110_2 f110_3 f110_4 f110_5 f110_6 f110_7 f110_8 f110_9 f110_10 f110_12 f110_13 H locs ls hm110 t_f110_6 t_f110_7 t_f110_8 t_f110_9 t_f110_10 l_p110_4 u_p110_4 l_f110_0 u_f110_0 l_f110_1 u_f110_1 l_f110_3 u_f110_3 l_f110_4 u_f110_4 l_f110_5 u_f110_5 l_f110_12 u_f110_12 l_f110_13 u_f110_13 hH hS hl
            refine lv_iload hx hb dX4_readHold_110 (lv_at hl 0 rfl) ?_
            refine lv_sipush (v := 900) hx hb dX4_readHold_112 (by decide) ?_
            have J145 : ∀  (H : Heap) (locs : List Loc) (ls : Array Slot), HT D cs A T (d :: O) ((d, .inr (9, [.int f110_0, .int f110_1, .int f110_2, .int f110_3, .int f110_4, .int f110_5, .ref f110_6, .ref f110_7, .ref f110_8, .ref f110_9, .ref f110_10, .null, .int f110_12, .int f110_13])) :: X) H → va_S A s.heap H locs → lv_has ls 5 [] → W p l e { frames := 7, cells := 0, slots := 0, locals := 155 } s m [.ref a0].toArray below meth c H locs 0 0 (MQ below (Ti D cs (fun r u => u = (T, O, X) ∧ 0 ≤ r.toInt ∧ r.toInt ≤ 1) A) [.ref a0].toArray s 0 0 A) (F0 m 145 ls []) := by
              intro  H locs ls  hH hS hl
              refine lv_iconst (v := 1) hx hb dX4_readHold_145 (by decide) ?_
              have hH : HT D cs A T O X H := HT.lay (ci := 9) hH t_d ((ob9d _).mpr (okL_c (⟨_, rfl, by omega, by omega⟩) (okL_c (⟨_, rfl, by omega, by omega⟩) (okL_c (⟨_, rfl⟩) (okL_c (⟨_, rfl, by omega, by omega⟩) (okL_c (⟨_, rfl, by omega, by omega⟩) (okL_c (⟨_, rfl, by omega, by omega⟩) (okL_c (⟨_, rfl, t_f110_6⟩) (okL_c (⟨_, rfl, t_f110_7⟩) (okL_c (⟨_, rfl, t_f110_8⟩) (okL_c (⟨_, rfl, t_f110_9⟩) (okL_c (⟨_, rfl, t_f110_10⟩) (okL_c (rfl) (okL_c (⟨_, rfl, by omega, by omega⟩) (okL_c (⟨_, rfl, by omega, by omega⟩) (okL_n))))))))))))))))
              have hO := hO0
              exact te_z hx hb hr hlocks (by rfl) hH hS (⟨rfl, by decide, by decide⟩) dX4_readHold_146
            refine lv_icmp_ge (tgt := 145) hx hb dX4_readHold_115 (by decide) (fun c115 => ?_) (fun c115 => ?_)
            · skip
              have tc115 := f_ge (k := 900) (by decide) c115
              exact J145  _ _ _  hH hS (lv_sub hl [] rfl)
            · skip
              have tc115 := f_nge (k := 900) (by decide) c115
              refine lv_aload_n hx hb dX4_readHold_118 rfl (lv_at hl 2 rfl) ?_
              refine t_get (ci := 4) (lst := ft4 d 0) (C := RX4) (F := TX4) (N := 5) hx hb hts uX4 hown hkb hH t_a0 (hO.no t_a0 (by decide)) (fun _ h9 => h9) rfl rfl 0 (by decide) rfl kw_211 (fun _ h9 => h9) dX4_readHold_119 (fun v9 h9 => ?_)
              obtain ⟨v119, rfl, t_v119⟩ := h9
              refine t_get (ci := 7) (lst := ft7 0 0) (C := RX7) (F := TX7) (N := 8) hx hb hts uX7 hown hkb hH t_v119 (hO.no t_v119 (by decide)) (fun _ h9 => ob7_ok h9) rfl rfl 4 (by decide) rfl kw_49 (fun _ h9 => h9) dX4_readHold_122 (fun v9 h9 => ?_)
              obtain ⟨v122, rfl⟩ := h9
              refine lv_iconst (v := 1) hx hb dX4_readHold_125 (by decide) ?_
              refine lv_icmp_ne (tgt := 145) hx hb dX4_readHold_126 (by decide) (fun c126 => ?_) (fun c126 => ?_)
              · skip
                have tc126 := f_ne (k := 1) (by decide) c126
                exact J145  _ _ _  hH hS (lv_sub hl [] rfl)
              · skip
                have tc126 := f_eq (k := 1) (by decide) c126
                refine lv_aload_n hx hb dX4_readHold_129 rfl (lv_at hl 2 rfl) ?_
                refine lv_iload_n hx hb dX4_readHold_130 rfl (lv_at hl 1 rfl) ?_
                have hH : HT D cs A T O X H := HT.lay (ci := 9) hH t_d ((ob9d _).mpr (okL_c (⟨_, rfl, by omega, by omega⟩) (okL_c (⟨_, rfl, by omega, by omega⟩) (okL_c (⟨_, rfl⟩) (okL_c (⟨_, rfl, by omega, by omega⟩) (okL_c (⟨_, rfl, by omega, by omega⟩) (okL_c (⟨_, rfl, by omega, by omega⟩) (okL_c (⟨_, rfl, t_f110_6⟩) (okL_c (⟨_, rfl, t_f110_7⟩) (okL_c (⟨_, rfl, t_f110_8⟩) (okL_c (⟨_, rfl, t_f110_9⟩) (okL_c (⟨_, rfl, t_f110_10⟩) (okL_c (rfl) (okL_c (⟨_, rfl, by omega, by omega⟩) (okL_c (⟨_, rfl, by omega, by omega⟩) (okL_n))))))))))))))))
                have hO := hO0
                refine tk_i hH hS hA (tr_V (n := 1) (As := [.int q0_0]) hx hb hml hown hts hkb hH hOX hks hE hS hA (s_RD_readFlag l D cs kf T O X a0 d q0_0 t_a0 t_d (by omega) (by omega) (hO.sub (by decide))) kw_589 kw_591 ks_3 kw_2 kw_592 (by decide +kernel) ⟨Nat.le_of_ble_eq_true rfl, Nat.le_of_ble_eq_true rfl⟩ (HT.recv (ci := 4) hkb hH t_a0 (hO.no t_a0 (by decide)) rfl) rfl rfl hl.1 (Nat.le_of_ble_eq_true rfl) dX4_readHold_131 ⟨Nat.le_of_ble_eq_true rfl, Nat.le_of_ble_eq_true rfl⟩) (fun v131 u H locs hz9 hH hS => ?_)
                obtain ⟨rfl, l_v131, u_v131⟩ := hz9
                have hH : HT D cs A T O X H := hH
                obtain ⟨fs9, ho9, hH⟩ := hH.take t_d (hO0.no t_d (by decide))
                have hp0 : okL T (ft9d 100 0) fs9 := (fun fs => (ob9d fs).mp) _ ho9
                clear ho9
                obtain ⟨v9, fs9, rfl, h9, hp1⟩ := okL_i hp0
                obtain ⟨q131_0, rfl, l_q131_0, u_q131_0⟩ := h9
                obtain ⟨v9, fs9, rfl, h9, hp2⟩ := okL_i hp1
                obtain ⟨q131_1, rfl, l_q131_1, u_q131_1⟩ := h9
                obtain ⟨v9, fs9, rfl, h9, hp3⟩ := okL_i hp2
                obtain ⟨q131_2, rfl⟩ := h9
                obtain ⟨v9, fs9, rfl, h9, hp4⟩ := okL_i hp3
                obtain ⟨q131_3, rfl, l_q131_3, u_q131_3⟩ := h9
                obtain ⟨v9, fs9, rfl, h9, hp5⟩ := okL_i hp4
                obtain ⟨q131_4, rfl, l_q131_4, u_q131_4⟩ := h9
                obtain ⟨v9, fs9, rfl, h9, hp6⟩ := okL_i hp5
                obtain ⟨q131_5, rfl, l_q131_5, u_q131_5⟩ := h9
                obtain ⟨v9, fs9, rfl, h9, hp7⟩ := okL_i hp6
                obtain ⟨q131_6, rfl, t_q131_6⟩ := h9
                obtain ⟨v9, fs9, rfl, h9, hp8⟩ := okL_i hp7
                obtain ⟨q131_7, rfl, t_q131_7⟩ := h9
                obtain ⟨v9, fs9, rfl, h9, hp9⟩ := okL_i hp8
                obtain ⟨q131_8, rfl, t_q131_8⟩ := h9
                obtain ⟨v9, fs9, rfl, h9, hp10⟩ := okL_i hp9
                obtain ⟨q131_9, rfl, t_q131_9⟩ := h9
                obtain ⟨v9, fs9, rfl, h9, hp11⟩ := okL_i hp10
                obtain ⟨q131_10, rfl, t_q131_10⟩ := h9
                obtain ⟨v9, fs9, rfl, h9, hp12⟩ := okL_i hp11
                have h9 : v9 = .null := h9
                subst h9
                obtain ⟨v9, fs9, rfl, h9, hp13⟩ := okL_i hp12
                obtain ⟨q131_12, rfl, l_q131_12, u_q131_12⟩ := h9
                obtain ⟨v9, fs9, rfl, h9, hp14⟩ := okL_i hp13
                obtain ⟨q131_13, rfl, l_q131_13, u_q131_13⟩ := h9
                have hpz := okL_z hp14
                subst hpz
                have hH : HT D cs A T (d :: O) ((d, .inr (9, [.int q131_0, .int q131_1, .int q131_2, .int q131_3, .int q131_4, .int q131_5, .ref q131_6, .ref q131_7, .ref q131_8, .ref q131_9, .ref q131_10, .null, .int q131_12, .int q131_13])) :: X) H := hH
                have hO : okO T (d :: O) [0, 1, 14, 17] := okO.cons (hO0.sub (by decide)) t_d (by decide)
                refine W.widen (k := 0) (n := 0) (Nat.le_of_ble_eq_true rfl) (Nat.le_of_ble_eq_true rfl) ?_
                refine lv_if_ne (tgt := 139) hx hb dX4_readHold_134 (by decide) (fun c134 => ?_) (fun c134 => ?_)
                · skip
                  have tc134 := f_ne (k := 0) (by decide) c134
                  obtain ⟨v139, ev139⟩ : ∃ y : Int32, y = p110_4 + 1 := ⟨_, rfl⟩
                  have tv139 : v139.toInt = p110_4.toInt + (1) := by rw [ev139]; exact add_i rfl (by decide) (by omega) (by omega)
                  refine lv_iinc (v := v139) (lv' := [(4, .int v139), (1, .int q0_0), (0, .ref a0)]) hx hb dX4_readHold_139 hl (k := 0) rfl (by rw [ev139]; rfl) (by decide) rfl (fun ls hl => ?_)
                  refine lv_goto (tgt := 110) hx hb dX4_readHold_142 (by decide) ?_
                  exact ih110 _ (by omega) v139 q131_0 q131_1 q131_2 q131_3 q131_4 q131_5 q131_6 q131_7 q131_8 q131_9 q131_10 q131_12 q131_13 _ _ _ rfl t_q131_6 t_q131_7 t_q131_8 t_q131_9 t_q131_10 (by omega) (by omega) (by omega) (by omega) (by omega) (by omega) (by omega) (by omega) (by omega) (by omega) (by omega) (by omega) (by omega) (by omega) (by omega) (by omega) hH hS (lv_sub hl [0, 1, 2] rfl)
                · skip
                  have tc134 := f_eq (k := 0) (by decide) c134
                  refine lv_iconst (v := 0) hx hb dX4_readHold_137 (by decide) ?_
                  have hH : HT D cs A T O X H := HT.lay (ci := 9) hH t_d ((ob9d _).mpr (okL_c (⟨_, rfl, by omega, by omega⟩) (okL_c (⟨_, rfl, by omega, by omega⟩) (okL_c (⟨_, rfl⟩) (okL_c (⟨_, rfl, by omega, by omega⟩) (okL_c (⟨_, rfl, by omega, by omega⟩) (okL_c (⟨_, rfl, by omega, by omega⟩) (okL_c (⟨_, rfl, t_q131_6⟩) (okL_c (⟨_, rfl, t_q131_7⟩) (okL_c (⟨_, rfl, t_q131_8⟩) (okL_c (⟨_, rfl, t_q131_9⟩) (okL_c (⟨_, rfl, t_q131_10⟩) (okL_c (rfl) (okL_c (⟨_, rfl, by omega, by omega⟩) (okL_c (⟨_, rfl, by omega, by omega⟩) (okL_n))))))))))))))))
                  have hO := hO0
                  exact te_z hx hb hr hlocks (by rfl) hH hS (⟨rfl, by decide, by decide⟩) dX4_readHold_138
        refine lv_istore (lv' := [(4, .int 0), (3, .int v53), (2, .int v36), (1, .int q0_0), (0, .ref a0)]) hx hb dX4_readHold_108 hl (by decide) rfl (fun ls hl => ?_)
        exact J110 _ 0 v103 q0_1 q0_2 q0_3 q0_4 q0_5 q0_6 q0_7 q0_8 q0_9 q0_10 q0_12 q0_13 _ _ _ rfl t_q0_6 t_q0_7 t_q0_8 t_q0_9 t_q0_10 (by decide) (by decide) (by omega) (by omega) (by omega) (by omega) (by omega) (by omega) (by omega) (by omega) (by omega) (by omega) (by omega) (by omega) (by omega) (by omega) hH hS (lv_sub hl [0, 3, 4] rfl)
      · skip
        have tc59 := f_eq (k := -1) (by decide) c59
        refine lv_iconst (v := 0) hx hb dX4_readHold_62 (by decide) ?_
        have hH : HT D cs A T O X H := HT.lay (ci := 9) hH t_d ((ob9d _).mpr (okL_c (⟨_, rfl, by omega, by omega⟩) (okL_c (⟨_, rfl, by omega, by omega⟩) (okL_c (⟨_, rfl⟩) (okL_c (⟨_, rfl, by omega, by omega⟩) (okL_c (⟨_, rfl, by omega, by omega⟩) (okL_c (⟨_, rfl, by omega, by omega⟩) (okL_c (⟨_, rfl, t_q0_6⟩) (okL_c (⟨_, rfl, t_q0_7⟩) (okL_c (⟨_, rfl, t_q0_8⟩) (okL_c (⟨_, rfl, t_q0_9⟩) (okL_c (⟨_, rfl, t_q0_10⟩) (okL_c (rfl) (okL_c (⟨_, rfl, by omega, by omega⟩) (okL_c (⟨_, rfl, by omega, by omega⟩) (okL_n))))))))))))))))
        have hO := hO0
        exact te_z hx hb hr hlocks (by rfl) hH hS (⟨rfl, by decide, by decide⟩) dX4_readHold_63
    · skip
      have tc42 := f_eq (k := -1) (by decide) c42
      refine lv_iconst (v := 0) hx hb dX4_readHold_45 (by decide) ?_
      have hH : HT D cs A T O X H := HT.lay (ci := 9) hH t_d ((ob9d _).mpr (okL_c (⟨_, rfl, by omega, by omega⟩) (okL_c (⟨_, rfl, by omega, by omega⟩) (okL_c (⟨_, rfl⟩) (okL_c (⟨_, rfl, by omega, by omega⟩) (okL_c (⟨_, rfl, by omega, by omega⟩) (okL_c (⟨_, rfl, by omega, by omega⟩) (okL_c (⟨_, rfl, t_q0_6⟩) (okL_c (⟨_, rfl, t_q0_7⟩) (okL_c (⟨_, rfl, t_q0_8⟩) (okL_c (⟨_, rfl, t_q0_9⟩) (okL_c (⟨_, rfl, t_q0_10⟩) (okL_c (rfl) (okL_c (⟨_, rfl, by omega, by omega⟩) (okL_c (⟨_, rfl, by omega, by omega⟩) (okL_n))))))))))))))))
      have hO := hO0
      exact te_z hx hb hr hlocks (by rfl) hH hS (⟨rfl, by decide, by decide⟩) dX4_readHold_46
  · skip
    have tc11 := f_nlt (k := 14) (by decide) c11
    refine lv_aload_n hx hb dX4_readHold_14 rfl (lv_at hl 1 rfl) ?_
    refine t_get (ci := 4) (lst := ft4 d 0) (C := RX4) (F := TX4) (N := 5) hx hb hts uX4 hown hkb hH t_a0 (hO.no t_a0 (by decide)) (fun _ h9 => h9) rfl rfl 0 (by decide) rfl kw_211 (fun _ h9 => h9) dX4_readHold_15 (fun v9 h9 => ?_)
    obtain ⟨v15, rfl, t_v15⟩ := h9
    refine lv_iconst (v := 4) hx hb dX4_readHold_18 (by decide) ?_
    refine tk_i hH hS hA (tr_V (n := 1) (As := [.int 4]) hx hb hml hown hts hkb hH (ox_c hOX) hks hE hS hA (s_Tok_refuse l D cs kf T (d :: O) ((d, .inr (9, [.int q0_0, .int q0_1, .int q0_2, .int q0_3, .int q0_4, .int q0_5, .ref q0_6, .ref q0_7, .ref q0_8, .ref q0_9, .ref q0_10, .null, .int q0_12, .int q0_13])) :: X) v15 (4) t_v15 (hO.sub (by decide))) kw_579 kw_580 kw_581 kw_3 kw_582 (by decide +kernel) ⟨Nat.le_of_ble_eq_true rfl, Nat.le_of_ble_eq_true rfl⟩ (HT.recv (ci := 7) hkb hH t_v15 (hO.no t_v15 (by decide)) rfl) rfl rfl hl.1 (Nat.le_of_ble_eq_true rfl) dX4_readHold_19 ⟨Nat.le_of_ble_eq_true rfl, Nat.le_of_ble_eq_true rfl⟩) (fun v19 u H locs hz9 hH hS => ?_)
    obtain ⟨rfl, l_v19, u_v19⟩ := hz9
    have hH : HT D cs A T (d :: O) ((d, .inr (9, [.int q0_0, .int q0_1, .int q0_2, .int q0_3, .int q0_4, .int q0_5, .ref q0_6, .ref q0_7, .ref q0_8, .ref q0_9, .ref q0_10, .null, .int q0_12, .int q0_13])) :: X) H := hH
    refine W.widen (k := 0) (n := 0) (Nat.le_of_ble_eq_true rfl) (Nat.le_of_ble_eq_true rfl) ?_
    have hH : HT D cs A T O X H := HT.lay (ci := 9) hH t_d ((ob9d _).mpr (okL_c (⟨_, rfl, by omega, by omega⟩) (okL_c (⟨_, rfl, by omega, by omega⟩) (okL_c (⟨_, rfl⟩) (okL_c (⟨_, rfl, by omega, by omega⟩) (okL_c (⟨_, rfl, by omega, by omega⟩) (okL_c (⟨_, rfl, by omega, by omega⟩) (okL_c (⟨_, rfl, t_q0_6⟩) (okL_c (⟨_, rfl, t_q0_7⟩) (okL_c (⟨_, rfl, t_q0_8⟩) (okL_c (⟨_, rfl, t_q0_9⟩) (okL_c (⟨_, rfl, t_q0_10⟩) (okL_c (rfl) (okL_c (⟨_, rfl, by omega, by omega⟩) (okL_c (⟨_, rfl, by omega, by omega⟩) (okL_n))))))))))))))))
    have hO := hO0
    exact te_z hx hb hr hlocks (nar01 (by omega) (by omega)) hH hS (⟨rfl, by omega, by omega⟩) dX4_readHold_22
set_option maxHeartbeats 4000000 in
set_option maxRecDepth 100000 in
theorem s_RD_readGuide (l : Launch) (D : va_G) (cs : CS) (kf : KF) (T : TF) (O : List Nat) (X : va_W) (a0 d : Nat) (t_a0 : T a0 = some (14, d, 0)) (t_d : T d = some (19, 100, 0)) (hO : okO T O [0, 1, 14, 17, 19]) : TK l D cs kf yX4_readGuide cX4_readGuide 2 (some (.boolean)) { frames := 6, cells := 0, slots := 0, locals := 133 } [.ref a0] T O X (Ti D cs (fun r u => u = (T, O, X) ∧ 0 ≤ r.toInt ∧ r.toInt ≤ 1)) := by
  refine tk_of (by decide) (Nat.le_of_ble_eq_true rfl) (fun p e s m below meth c ls A H locs hx hb hr hml hown hts hlocks hnm hkb hH hS hA hOX hks hE hl => ?_)
  have hown : s.vm.findClass RX4 = some m.cls := hown
  have hl : lv_has ls 2 [(0, .ref a0)] := hl
  have hO0 := hO
  obtain ⟨fs9, ho9, hH⟩ := hH.take t_d (hO0.no t_d (by decide))
  have hp0 : okL T (ft9d 100 0) fs9 := (fun fs => (ob9d fs).mp) _ ho9
  clear ho9
  obtain ⟨v9, fs9, rfl, h9, hp1⟩ := okL_i hp0
  obtain ⟨q0_0, rfl, l_q0_0, u_q0_0⟩ := h9
  obtain ⟨v9, fs9, rfl, h9, hp2⟩ := okL_i hp1
  obtain ⟨q0_1, rfl, l_q0_1, u_q0_1⟩ := h9
  obtain ⟨v9, fs9, rfl, h9, hp3⟩ := okL_i hp2
  obtain ⟨q0_2, rfl⟩ := h9
  obtain ⟨v9, fs9, rfl, h9, hp4⟩ := okL_i hp3
  obtain ⟨q0_3, rfl, l_q0_3, u_q0_3⟩ := h9
  obtain ⟨v9, fs9, rfl, h9, hp5⟩ := okL_i hp4
  obtain ⟨q0_4, rfl, l_q0_4, u_q0_4⟩ := h9
  obtain ⟨v9, fs9, rfl, h9, hp6⟩ := okL_i hp5
  obtain ⟨q0_5, rfl, l_q0_5, u_q0_5⟩ := h9
  obtain ⟨v9, fs9, rfl, h9, hp7⟩ := okL_i hp6
  obtain ⟨q0_6, rfl, t_q0_6⟩ := h9
  obtain ⟨v9, fs9, rfl, h9, hp8⟩ := okL_i hp7
  obtain ⟨q0_7, rfl, t_q0_7⟩ := h9
  obtain ⟨v9, fs9, rfl, h9, hp9⟩ := okL_i hp8
  obtain ⟨q0_8, rfl, t_q0_8⟩ := h9
  obtain ⟨v9, fs9, rfl, h9, hp10⟩ := okL_i hp9
  obtain ⟨q0_9, rfl, t_q0_9⟩ := h9
  obtain ⟨v9, fs9, rfl, h9, hp11⟩ := okL_i hp10
  obtain ⟨q0_10, rfl, t_q0_10⟩ := h9
  obtain ⟨v9, fs9, rfl, h9, hp12⟩ := okL_i hp11
  have h9 : v9 = .null := h9
  subst h9
  obtain ⟨v9, fs9, rfl, h9, hp13⟩ := okL_i hp12
  obtain ⟨q0_12, rfl, l_q0_12, u_q0_12⟩ := h9
  obtain ⟨v9, fs9, rfl, h9, hp14⟩ := okL_i hp13
  obtain ⟨q0_13, rfl, l_q0_13, u_q0_13⟩ := h9
  have hpz := okL_z hp14
  subst hpz
  have hH : HT D cs A T (d :: O) ((d, .inr (9, [.int q0_0, .int q0_1, .int q0_2, .int q0_3, .int q0_4, .int q0_5, .ref q0_6, .ref q0_7, .ref q0_8, .ref q0_9, .ref q0_10, .null, .int q0_12, .int q0_13])) :: X) H := hH
  have hO : okO T (d :: O) [0, 1, 14, 17] := okO.cons (hO0.sub (by decide)) t_d (by decide)
  refine lv_aload_n hx hb dX4_readGuide_0 rfl (lv_at hl 0 rfl) ?_
  refine t_get (ci := 4) (lst := ft4 d 0) (C := RX4) (F := TX4) (N := 5) hx hb hts uX4 hown hkb hH t_a0 (hO.no t_a0 (by decide)) (fun _ h9 => h9) rfl rfl 2 (by decide) rfl kw_214 (fun _ h9 => h9) dX4_readGuide_1 (fun v9 h9 => ?_)
  have h9 : v9 = .ref d := h9
  subst h9
  refine x_get (ci := 9) (C := RX9) (F := TX9) (N := 14) (v := .int q0_1) hx hb hts uX9 hown hkb hH rfl 1 (by decide) rfl kw_111 (fun _ h9 => h9) dX4_readGuide_4 ?_
  refine lv_istore_n (lv' := [(1, .int q0_1), (0, .ref a0)]) hx hb dX4_readGuide_7 rfl hl (by decide) rfl (fun ls hl => ?_)
  refine lv_iload_n hx hb dX4_readGuide_8 rfl (lv_at hl 0 rfl) ?_
  refine lv_iconst (v := 5) hx hb dX4_readGuide_9 (by decide) ?_
  refine lv_icmp_lt (tgt := 22) hx hb dX4_readGuide_10 (by decide) (fun c10 => ?_) (fun c10 => ?_)
  · skip
    have tc10 := f_lt (k := 5) (by decide) c10
    refine lv_aload_n hx hb dX4_readGuide_22 rfl (lv_at hl 1 rfl) ?_
    refine t_get (ci := 4) (lst := ft4 d 0) (C := RX4) (F := TX4) (N := 5) hx hb hts uX4 hown hkb hH t_a0 (hO.no t_a0 (by decide)) (fun _ h9 => h9) rfl rfl 0 (by decide) rfl kw_211 (fun _ h9 => h9) dX4_readGuide_23 (fun v9 h9 => ?_)
    obtain ⟨v23, rfl, t_v23⟩ := h9
    refine tk_v hH hS hA (tr_V (n := 0) (As := []) hx hb hml hown hts hkb hH (ox_c hOX) hks hE hS hA (s_Tok_go l D cs kf T (d :: O) ((d, .inr (9, [.int q0_0, .int q0_1, .int q0_2, .int q0_3, .int q0_4, .int q0_5, .ref q0_6, .ref q0_7, .ref q0_8, .ref q0_9, .ref q0_10, .null, .int q0_12, .int q0_13])) :: X) v23 t_v23 (hO.sub (by decide))) kw_583 kw_453 kw_454 kw_3 kw_455 (by decide +kernel) ⟨Nat.le_of_ble_eq_true rfl, Nat.le_of_ble_eq_true rfl⟩ (HT.recv (ci := 7) hkb hH t_v23 (hO.no t_v23 (by decide)) rfl) rfl rfl hl.1 (Nat.le_of_ble_eq_true rfl) dX4_readGuide_26 ⟨Nat.le_of_ble_eq_true rfl, Nat.le_of_ble_eq_true rfl⟩) (fun u H locs hz9 hH hS => ?_)
    have hz9 : u = (T, d :: O, (d, .inr (9, [.int q0_0, .int q0_1, .int q0_2, .int q0_3, .int q0_4, .int q0_5, .ref q0_6, .ref q0_7, .ref q0_8, .ref q0_9, .ref q0_10, .null, .int q0_12, .int q0_13])) :: X) := hz9
    subst hz9
    have hH : HT D cs A T (d :: O) ((d, .inr (9, [.int q0_0, .int q0_1, .int q0_2, .int q0_3, .int q0_4, .int q0_5, .ref q0_6, .ref q0_7, .ref q0_8, .ref q0_9, .ref q0_10, .null, .int q0_12, .int q0_13])) :: X) H := hH
    refine W.widen (k := 0) (n := 0) (Nat.le_of_ble_eq_true rfl) (Nat.le_of_ble_eq_true rfl) ?_
    refine lv_aload_n hx hb dX4_readGuide_29 rfl (lv_at hl 1 rfl) ?_
    refine t_get (ci := 4) (lst := ft4 d 0) (C := RX4) (F := TX4) (N := 5) hx hb hts uX4 hown hkb hH t_a0 (hO.no t_a0 (by decide)) (fun _ h9 => h9) rfl rfl 0 (by decide) rfl kw_211 (fun _ h9 => h9) dX4_readGuide_30 (fun v9 h9 => ?_)
    obtain ⟨v30, rfl, t_v30⟩ := h9
    refine va_ldcS (q := kf.1 7) hx hb hown (hks ("FootholdWall$Reader", 160, "leg", 7) (by decide +kernel)) dX4_readGuide_33 ?_
    refine tk_i hH hS hA (tr_V (n := 1) (As := [.ref (kf.1 7)]) hx hb hml hown hts hkb hH (ox_c hOX) hks hE hS hA (s_Tok_takeWord l D cs kf T (d :: O) ((d, .inr (9, [.int q0_0, .int q0_1, .int q0_2, .int q0_3, .int q0_4, .int q0_5, .ref q0_6, .ref q0_7, .ref q0_8, .ref q0_9, .ref q0_10, .null, .int q0_12, .int q0_13])) :: X) v30 7 t_v30 (by decide) (hO.sub (by decide))) kw_603 kw_604 kw_605 kw_3 kw_606 (by decide +kernel) ⟨Nat.le_of_ble_eq_true rfl, Nat.le_of_ble_eq_true rfl⟩ (HT.recv (ci := 7) hkb hH t_v30 (hO.no t_v30 (by decide)) rfl) rfl rfl hl.1 (Nat.le_of_ble_eq_true rfl) dX4_readGuide_35 ⟨Nat.le_of_ble_eq_true rfl, Nat.le_of_ble_eq_true rfl⟩) (fun v35 u H locs hz9 hH hS => ?_)
    obtain ⟨rfl, l_v35, u_v35⟩ := hz9
    have hH : HT D cs A T (d :: O) ((d, .inr (9, [.int q0_0, .int q0_1, .int q0_2, .int q0_3, .int q0_4, .int q0_5, .ref q0_6, .ref q0_7, .ref q0_8, .ref q0_9, .ref q0_10, .null, .int q0_12, .int q0_13])) :: X) H := hH
    refine W.widen (k := 0) (n := 0) (Nat.le_of_ble_eq_true rfl) (Nat.le_of_ble_eq_true rfl) ?_
    refine lv_if_ne (tgt := 43) hx hb dX4_readGuide_38 (by decide) (fun c38 => ?_) (fun c38 => ?_)
    · skip
      have tc38 := f_ne (k := 0) (by decide) c38
      refine lv_aload_n hx hb dX4_readGuide_43 rfl (lv_at hl 1 rfl) ?_
      refine t_get (ci := 4) (lst := ft4 d 0) (C := RX4) (F := TX4) (N := 5) hx hb hts uX4 hown hkb hH t_a0 (hO.no t_a0 (by decide)) (fun _ h9 => h9) rfl rfl 2 (by decide) rfl kw_214 (fun _ h9 => h9) dX4_readGuide_44 (fun v9 h9 => ?_)
      have h9 : v9 = .ref d := h9
      subst h9
      refine x_get (ci := 9) (C := RX9) (F := TX9) (N := 14) (v := .ref q0_9) hx hb hts uX9 hown hkb hH rfl 9 (by decide) rfl kw_143 (fun _ h9 => h9) dX4_readGuide_47 ?_
      refine lv_iload_n hx hb dX4_readGuide_50 rfl (lv_at hl 0 rfl) ?_
      refine lv_aload_n hx hb dX4_readGuide_51 rfl (lv_at hl 1 rfl) ?_
      refine t_get (ci := 4) (lst := ft4 d 0) (C := RX4) (F := TX4) (N := 5) hx hb hts uX4 hown hkb hH t_a0 (hO.no t_a0 (by decide)) (fun _ h9 => h9) rfl rfl 0 (by decide) rfl kw_211 (fun _ h9 => h9) dX4_readGuide_52 (fun v9 h9 => ?_)
      obtain ⟨v52, rfl, t_v52⟩ := h9
      refine lv_bipush (v := 99) hx hb dX4_readGuide_55 (by decide) ?_
      refine tk_i hH hS hA (tr_V (n := 1) (As := [.int 99]) hx hb hml hown hts hkb hH (ox_c hOX) hks hE hS hA (s_Tok_takeNumber l D cs kf T (d :: O) ((d, .inr (9, [.int q0_0, .int q0_1, .int q0_2, .int q0_3, .int q0_4, .int q0_5, .ref q0_6, .ref q0_7, .ref q0_8, .ref q0_9, .ref q0_10, .null, .int q0_12, .int q0_13])) :: X) v52 (99) t_v52 (hO.sub (by decide))) kw_584 kw_585 kw_586 kw_3 kw_587 (by decide +kernel) ⟨Nat.le_of_ble_eq_true rfl, Nat.le_of_ble_eq_true rfl⟩ (HT.recv (ci := 7) hkb hH t_v52 (hO.no t_v52 (by decide)) rfl) rfl rfl hl.1 (Nat.le_of_ble_eq_true rfl) dX4_readGuide_57 ⟨Nat.le_of_ble_eq_true rfl, Nat.le_of_ble_eq_true rfl⟩) (fun v57 u H locs hz9 hH hS => ?_)
      have hz9 : u = (T, d :: O, (d, .inr (9, [.int q0_0, .int q0_1, .int q0_2, .int q0_3, .int q0_4, .int q0_5, .ref q0_6, .ref q0_7, .ref q0_8, .ref q0_9, .ref q0_10, .null, .int q0_12, .int q0_13])) :: X) := hz9
      subst hz9
      have hH : HT D cs A T (d :: O) ((d, .inr (9, [.int q0_0, .int q0_1, .int q0_2, .int q0_3, .int q0_4, .int q0_5, .ref q0_6, .ref q0_7, .ref q0_8, .ref q0_9, .ref q0_10, .null, .int q0_12, .int q0_13])) :: X) H := hH
      refine W.widen (k := 0) (n := 0) (Nat.le_of_ble_eq_true rfl) (Nat.le_of_ble_eq_true rfl) ?_
      refine t_ist hx hb hkb hH hS t_q0_9 (hO.no t_q0_9 (by decide)) (by omega) (by omega) (cp_0 _) dX4_readGuide_60 (fun H locs hH hS => ?_)
      refine lv_aload_n hx hb dX4_readGuide_61 rfl (lv_at hl 1 rfl) ?_
      refine t_get (ci := 4) (lst := ft4 d 0) (C := RX4) (F := TX4) (N := 5) hx hb hts uX4 hown hkb hH t_a0 (hO.no t_a0 (by decide)) (fun _ h9 => h9) rfl rfl 2 (by decide) rfl kw_214 (fun _ h9 => h9) dX4_readGuide_62 (fun v9 h9 => ?_)
      have h9 : v9 = .ref d := h9
      subst h9
      refine x_get (ci := 9) (C := RX9) (F := TX9) (N := 14) (v := .ref q0_10) hx hb hts uX9 hown hkb hH rfl 10 (by decide) rfl kw_146 (fun _ h9 => h9) dX4_readGuide_65 ?_
      refine lv_iload_n hx hb dX4_readGuide_68 rfl (lv_at hl 0 rfl) ?_
      refine lv_iconst (v := 0) hx hb dX4_readGuide_69 (by decide) ?_
      refine t_ist hx hb hkb hH hS t_q0_10 (hO.no t_q0_10 (by decide)) (by omega) (by omega) (cp_0 _) dX4_readGuide_70 (fun H locs hH hS => ?_)
      refine lv_aload_n hx hb dX4_readGuide_71 rfl (lv_at hl 1 rfl) ?_
      refine t_get (ci := 4) (lst := ft4 d 0) (C := RX4) (F := TX4) (N := 5) hx hb hts uX4 hown hkb hH t_a0 (hO.no t_a0 (by decide)) (fun _ h9 => h9) rfl rfl 2 (by decide) rfl kw_214 (fun _ h9 => h9) dX4_readGuide_72 (fun v9 h9 => ?_)
      have h9 : v9 = .ref d := h9
      subst h9
      refine x_get (ci := 9) (C := RX9) (F := TX9) (N := 14) (v := .ref q0_9) hx hb hts uX9 hown hkb hH rfl 9 (by decide) rfl kw_143 (fun _ h9 => h9) dX4_readGuide_75 ?_
      refine lv_iload_n hx hb dX4_readGuide_78 rfl (lv_at hl 0 rfl) ?_
      refine t_ild hx hb hkb hH t_q0_9 (hO.no t_q0_9 (by decide)) (by omega) (by omega) dX4_readGuide_79 (fun v79 h9 => ?_)
      refine lv_iconst (v := (-1)) hx hb dX4_readGuide_80 (by decide) ?_
      have J121 : ∀  (H : Heap) (locs : List Loc) (ls : Array Slot), HT D cs A T (d :: O) ((d, .inr (9, [.int q0_0, .int q0_1, .int q0_2, .int q0_3, .int q0_4, .int q0_5, .ref q0_6, .ref q0_7, .ref q0_8, .ref q0_9, .ref q0_10, .null, .int q0_12, .int q0_13])) :: X) H → va_S A s.heap H locs → lv_has ls 2 [(1, .int q0_1), (0, .ref a0)] → W p l e { frames := 6, cells := 0, slots := 0, locals := 133 } s m [.ref a0].toArray below meth c H locs 0 0 (MQ below (Ti D cs (fun r u => u = (T, O, X) ∧ 0 ≤ r.toInt ∧ r.toInt ≤ 1) A) [.ref a0].toArray s 0 0 A) (F0 m 121 ls []) := by
        intro  H locs ls  hH hS hl
        refine lv_aload_n hx hb dX4_readGuide_121 rfl (lv_at hl 1 rfl) ?_
        refine t_get (ci := 4) (lst := ft4 d 0) (C := RX4) (F := TX4) (N := 5) hx hb hts uX4 hown hkb hH t_a0 (hO.no t_a0 (by decide)) (fun _ h9 => h9) rfl rfl 2 (by decide) rfl kw_214 (fun _ h9 => h9) dX4_readGuide_122 (fun v9 h9 => ?_)
        have h9 : v9 = .ref d := h9
        subst h9
        refine lv_dup hx hb dX4_readGuide_125 rfl ?_
        refine x_get (ci := 9) (C := RX9) (F := TX9) (N := 14) (v := .int q0_1) hx hb hts uX9 hown hkb hH rfl 1 (by decide) rfl kw_111 (fun _ h9 => h9) dX4_readGuide_126 ?_
        refine lv_iconst (v := 1) hx hb dX4_readGuide_129 (by decide) ?_
        refine lv_iadd hx hb dX4_readGuide_130 ?_
        refine lv_topi (fun v130 ev130 => ?_)
        have tv130 : v130.toInt = q0_1.toInt + (1) := by rw [ev130]; exact add_i rfl (by decide : (1 : Int32).toInt = 1) (by omega) (by omega)
        refine x_put (ci := 9) (v := .int v130) (ty := tyX9 1) (C := RX9) (F := TX9) (N := 14) hx hb hts uX9 tyX9 tyX9_ok nmX9 hown hkb hH hS rfl 1 (by decide) kw_111 (fun _ h9 => h9) rfl (tyX9_ok 1 (by decide)) rfl rfl (Nat.le_of_ble_eq_true rfl) dX4_readGuide_131 (fun H locs hH hS => ?_)
        have hH : HT D cs A T (d :: O) ((d, .inr (9, [.int q0_0, .int v130, .int q0_2, .int q0_3, .int q0_4, .int q0_5, .ref q0_6, .ref q0_7, .ref q0_8, .ref q0_9, .ref q0_10, .null, .int q0_12, .int q0_13])) :: X) H := hH
        refine lv_aload_n hx hb dX4_readGuide_134 rfl (lv_at hl 1 rfl) ?_
        refine t_get (ci := 4) (lst := ft4 d 0) (C := RX4) (F := TX4) (N := 5) hx hb hts uX4 hown hkb hH t_a0 (hO.no t_a0 (by decide)) (fun _ h9 => h9) rfl rfl 2 (by decide) rfl kw_214 (fun _ h9 => h9) dX4_readGuide_135 (fun v9 h9 => ?_)
        have h9 : v9 = .ref d := h9
        subst h9
        refine x_get (ci := 9) (C := RX9) (F := TX9) (N := 14) (v := .ref q0_9) hx hb hts uX9 hown hkb hH rfl 9 (by decide) rfl kw_143 (fun _ h9 => h9) dX4_readGuide_138 ?_
        refine lv_iload_n hx hb dX4_readGuide_141 rfl (lv_at hl 0 rfl) ?_
        refine t_ild hx hb hkb hH t_q0_9 (hO.no t_q0_9 (by decide)) (by omega) (by omega) dX4_readGuide_142 (fun v142 h9 => ?_)
        refine lv_iconst (v := (-1)) hx hb dX4_readGuide_143 (by decide) ?_
        have J165 : ∀ (k165_0 : Int32) (H : Heap) (locs : List Loc) (ls : Array Slot), (0 ≤ k165_0.toInt) → (k165_0.toInt ≤ 1) → HT D cs A T (d :: O) ((d, .inr (9, [.int q0_0, .int v130, .int q0_2, .int q0_3, .int q0_4, .int q0_5, .ref q0_6, .ref q0_7, .ref q0_8, .ref q0_9, .ref q0_10, .null, .int q0_12, .int q0_13])) :: X) H → va_S A s.heap H locs → lv_has ls 2 [] → W p l e { frames := 6, cells := 0, slots := 0, locals := 133 } s m [.ref a0].toArray below meth c H locs 0 0 (MQ below (Ti D cs (fun r u => u = (T, O, X) ∧ 0 ≤ r.toInt ∧ r.toInt ≤ 1) A) [.ref a0].toArray s 0 0 A) (F0 m 165 ls [.int k165_0]) := by
          intro k165_0 H locs ls l_k165_0 u_k165_0 hH hS hl
          have hH : HT D cs A T O X H := HT.lay (ci := 9) hH t_d ((ob9d _).mpr (okL_c (⟨_, rfl, by omega, by omega⟩) (okL_c (⟨_, rfl, by omega, by omega⟩) (okL_c (⟨_, rfl⟩) (okL_c (⟨_, rfl, by omega, by omega⟩) (okL_c (⟨_, rfl, by omega, by omega⟩) (okL_c (⟨_, rfl, by omega, by omega⟩) (okL_c (⟨_, rfl, t_q0_6⟩) (okL_c (⟨_, rfl, t_q0_7⟩) (okL_c (⟨_, rfl, t_q0_8⟩) (okL_c (⟨_, rfl, t_q0_9⟩) (okL_c (⟨_, rfl, t_q0_10⟩) (okL_c (rfl) (okL_c (⟨_, rfl, by omega, by omega⟩) (okL_c (⟨_, rfl, by omega, by omega⟩) (okL_n))))))))))))))))
          have hO := hO0
          exact te_z hx hb hr hlocks (nar01 (by omega) (by omega)) hH hS (⟨rfl, by omega, by omega⟩) dX4_readGuide_165
        have J164 : ∀  (H : Heap) (locs : List Loc) (ls : Array Slot), HT D cs A T (d :: O) ((d, .inr (9, [.int q0_0, .int v130, .int q0_2, .int q0_3, .int q0_4, .int q0_5, .ref q0_6, .ref q0_7, .ref q0_8, .ref q0_9, .ref q0_10, .null, .int q0_12, .int q0_13])) :: X) H → va_S A s.heap H locs → lv_has ls 2 [] → W p l e { frames := 6, cells := 0, slots := 0, locals := 133 } s m [.ref a0].toArray below meth c H locs 0 0 (MQ below (Ti D cs (fun r u => u = (T, O, X) ∧ 0 ≤ r.toInt ∧ r.toInt ≤ 1) A) [.ref a0].toArray s 0 0 A) (F0 m 164 ls []) := by
          intro  H locs ls  hH hS hl
          refine lv_iconst (v := 0) hx hb dX4_readGuide_164 (by decide) ?_
          exact J165 0 _ _ _ (by decide) (by decide) hH hS (lv_sub hl [] rfl)
        refine lv_icmp_eq (tgt := 164) hx hb dX4_readGuide_144 (by decide) (fun c144 => ?_) (fun c144 => ?_)
        · skip
          have tc144 := f_eq (k := -1) (by decide) c144
          exact J164  _ _ _  hH hS (lv_sub hl [] rfl)
        · skip
          have tc144 := f_ne (k := -1) (by decide) c144
          refine lv_aload_n hx hb dX4_readGuide_147 rfl (lv_at hl 1 rfl) ?_
          refine t_get (ci := 4) (lst := ft4 d 0) (C := RX4) (F := TX4) (N := 5) hx hb hts uX4 hown hkb hH t_a0 (hO.no t_a0 (by decide)) (fun _ h9 => h9) rfl rfl 2 (by decide) rfl kw_214 (fun _ h9 => h9) dX4_readGuide_148 (fun v9 h9 => ?_)
          have h9 : v9 = .ref d := h9
          subst h9
          refine x_get (ci := 9) (C := RX9) (F := TX9) (N := 14) (v := .ref q0_10) hx hb hts uX9 hown hkb hH rfl 10 (by decide) rfl kw_146 (fun _ h9 => h9) dX4_readGuide_151 ?_
          refine lv_iload_n hx hb dX4_readGuide_154 rfl (lv_at hl 0 rfl) ?_
          refine t_ild hx hb hkb hH t_q0_10 (hO.no t_q0_10 (by decide)) (by omega) (by omega) dX4_readGuide_155 (fun v155 h9 => ?_)
          refine lv_iconst (v := (-1)) hx hb dX4_readGuide_156 (by decide) ?_
          refine lv_icmp_eq (tgt := 164) hx hb dX4_readGuide_157 (by decide) (fun c157 => ?_) (fun c157 => ?_)
          · skip
            have tc157 := f_eq (k := -1) (by decide) c157
            exact J164  _ _ _  hH hS (lv_sub hl [] rfl)
          · skip
            have tc157 := f_ne (k := -1) (by decide) c157
            refine lv_iconst (v := 1) hx hb dX4_readGuide_160 (by decide) ?_
            refine lv_goto (tgt := 165) hx hb dX4_readGuide_161 (by decide) ?_
            exact J165 1 _ _ _ (by decide) (by decide) hH hS (lv_sub hl [] rfl)
      refine lv_icmp_eq (tgt := 121) hx hb dX4_readGuide_81 (by decide) (fun c81 => ?_) (fun c81 => ?_)
      · skip
        have tc81 := f_eq (k := -1) (by decide) c81
        exact J121  _ _ _  hH hS (lv_sub hl [0, 1] rfl)
      · skip
        have tc81 := f_ne (k := -1) (by decide) c81
        refine lv_aload_n hx hb dX4_readGuide_84 rfl (lv_at hl 1 rfl) ?_
        refine t_get (ci := 4) (lst := ft4 d 0) (C := RX4) (F := TX4) (N := 5) hx hb hts uX4 hown hkb hH t_a0 (hO.no t_a0 (by decide)) (fun _ h9 => h9) rfl rfl 0 (by decide) rfl kw_211 (fun _ h9 => h9) dX4_readGuide_85 (fun v9 h9 => ?_)
        obtain ⟨v85, rfl, t_v85⟩ := h9
        refine va_ldcS (q := kf.1 8) hx hb hown (hks ("FootholdWall$Reader", 170, "weight", 8) (by decide +kernel)) dX4_readGuide_88 ?_
        refine tk_i hH hS hA (tr_V (n := 1) (As := [.ref (kf.1 8)]) hx hb hml hown hts hkb hH (ox_c hOX) hks hE hS hA (s_Tok_isWord l D cs kf T (d :: O) ((d, .inr (9, [.int q0_0, .int q0_1, .int q0_2, .int q0_3, .int q0_4, .int q0_5, .ref q0_6, .ref q0_7, .ref q0_8, .ref q0_9, .ref q0_10, .null, .int q0_12, .int q0_13])) :: X) v85 8 t_v85 (by decide) (hO.sub (by decide))) kw_550 kw_551 kw_552 kw_3 kw_553 (by decide +kernel) ⟨Nat.le_of_ble_eq_true rfl, Nat.le_of_ble_eq_true rfl⟩ (HT.recv (ci := 7) hkb hH t_v85 (hO.no t_v85 (by decide)) rfl) rfl rfl hl.1 (Nat.le_of_ble_eq_true rfl) dX4_readGuide_90 ⟨Nat.le_of_ble_eq_true rfl, Nat.le_of_ble_eq_true rfl⟩) (fun v90 u H locs hz9 hH hS => ?_)
        obtain ⟨rfl, l_v90, u_v90⟩ := hz9
        have hH : HT D cs A T (d :: O) ((d, .inr (9, [.int q0_0, .int q0_1, .int q0_2, .int q0_3, .int q0_4, .int q0_5, .ref q0_6, .ref q0_7, .ref q0_8, .ref q0_9, .ref q0_10, .null, .int q0_12, .int q0_13])) :: X) H := hH
        refine W.widen (k := 0) (n := 0) (Nat.le_of_ble_eq_true rfl) (Nat.le_of_ble_eq_true rfl) ?_
        refine lv_if_eq (tgt := 121) hx hb dX4_readGuide_93 (by decide) (fun c93 => ?_) (fun c93 => ?_)
        · skip
          have tc93 := f_eq (k := 0) (by decide) c93
          exact J121  _ _ _  hH hS (lv_sub hl [0, 1] rfl)
        · skip
          have tc93 := f_ne (k := 0) (by decide) c93
          refine lv_aload_n hx hb dX4_readGuide_96 rfl (lv_at hl 1 rfl) ?_
          refine t_get (ci := 4) (lst := ft4 d 0) (C := RX4) (F := TX4) (N := 5) hx hb hts uX4 hown hkb hH t_a0 (hO.no t_a0 (by decide)) (fun _ h9 => h9) rfl rfl 0 (by decide) rfl kw_211 (fun _ h9 => h9) dX4_readGuide_97 (fun v9 h9 => ?_)
          obtain ⟨v97, rfl, t_v97⟩ := h9
          refine tk_v hH hS hA (tr_V (n := 0) (As := []) hx hb hml hown hts hkb hH (ox_c hOX) hks hE hS hA (s_Tok_go l D cs kf T (d :: O) ((d, .inr (9, [.int q0_0, .int q0_1, .int q0_2, .int q0_3, .int q0_4, .int q0_5, .ref q0_6, .ref q0_7, .ref q0_8, .ref q0_9, .ref q0_10, .null, .int q0_12, .int q0_13])) :: X) v97 t_v97 (hO.sub (by decide))) kw_583 kw_453 kw_454 kw_3 kw_455 (by decide +kernel) ⟨Nat.le_of_ble_eq_true rfl, Nat.le_of_ble_eq_true rfl⟩ (HT.recv (ci := 7) hkb hH t_v97 (hO.no t_v97 (by decide)) rfl) rfl rfl hl.1 (Nat.le_of_ble_eq_true rfl) dX4_readGuide_100 ⟨Nat.le_of_ble_eq_true rfl, Nat.le_of_ble_eq_true rfl⟩) (fun u H locs hz9 hH hS => ?_)
          have hz9 : u = (T, d :: O, (d, .inr (9, [.int q0_0, .int q0_1, .int q0_2, .int q0_3, .int q0_4, .int q0_5, .ref q0_6, .ref q0_7, .ref q0_8, .ref q0_9, .ref q0_10, .null, .int q0_12, .int q0_13])) :: X) := hz9
          subst hz9
          have hH : HT D cs A T (d :: O) ((d, .inr (9, [.int q0_0, .int q0_1, .int q0_2, .int q0_3, .int q0_4, .int q0_5, .ref q0_6, .ref q0_7, .ref q0_8, .ref q0_9, .ref q0_10, .null, .int q0_12, .int q0_13])) :: X) H := hH
          refine W.widen (k := 0) (n := 0) (Nat.le_of_ble_eq_true rfl) (Nat.le_of_ble_eq_true rfl) ?_
          refine lv_aload_n hx hb dX4_readGuide_103 rfl (lv_at hl 1 rfl) ?_
          refine t_get (ci := 4) (lst := ft4 d 0) (C := RX4) (F := TX4) (N := 5) hx hb hts uX4 hown hkb hH t_a0 (hO.no t_a0 (by decide)) (fun _ h9 => h9) rfl rfl 2 (by decide) rfl kw_214 (fun _ h9 => h9) dX4_readGuide_104 (fun v9 h9 => ?_)
          have h9 : v9 = .ref d := h9
          subst h9
          refine x_get (ci := 9) (C := RX9) (F := TX9) (N := 14) (v := .ref q0_10) hx hb hts uX9 hown hkb hH rfl 10 (by decide) rfl kw_146 (fun _ h9 => h9) dX4_readGuide_107 ?_
          refine lv_iload_n hx hb dX4_readGuide_110 rfl (lv_at hl 0 rfl) ?_
          refine lv_aload_n hx hb dX4_readGuide_111 rfl (lv_at hl 1 rfl) ?_
          refine t_get (ci := 4) (lst := ft4 d 0) (C := RX4) (F := TX4) (N := 5) hx hb hts uX4 hown hkb hH t_a0 (hO.no t_a0 (by decide)) (fun _ h9 => h9) rfl rfl 0 (by decide) rfl kw_211 (fun _ h9 => h9) dX4_readGuide_112 (fun v9 h9 => ?_)
          obtain ⟨v112, rfl, t_v112⟩ := h9
          refine lv_bipush (v := 99) hx hb dX4_readGuide_115 (by decide) ?_
          refine tk_i hH hS hA (tr_V (n := 1) (As := [.int 99]) hx hb hml hown hts hkb hH (ox_c hOX) hks hE hS hA (s_Tok_takeNumber l D cs kf T (d :: O) ((d, .inr (9, [.int q0_0, .int q0_1, .int q0_2, .int q0_3, .int q0_4, .int q0_5, .ref q0_6, .ref q0_7, .ref q0_8, .ref q0_9, .ref q0_10, .null, .int q0_12, .int q0_13])) :: X) v112 (99) t_v112 (hO.sub (by decide))) kw_584 kw_585 kw_586 kw_3 kw_587 (by decide +kernel) ⟨Nat.le_of_ble_eq_true rfl, Nat.le_of_ble_eq_true rfl⟩ (HT.recv (ci := 7) hkb hH t_v112 (hO.no t_v112 (by decide)) rfl) rfl rfl hl.1 (Nat.le_of_ble_eq_true rfl) dX4_readGuide_117 ⟨Nat.le_of_ble_eq_true rfl, Nat.le_of_ble_eq_true rfl⟩) (fun v117 u H locs hz9 hH hS => ?_)
          have hz9 : u = (T, d :: O, (d, .inr (9, [.int q0_0, .int q0_1, .int q0_2, .int q0_3, .int q0_4, .int q0_5, .ref q0_6, .ref q0_7, .ref q0_8, .ref q0_9, .ref q0_10, .null, .int q0_12, .int q0_13])) :: X) := hz9
          subst hz9
          have hH : HT D cs A T (d :: O) ((d, .inr (9, [.int q0_0, .int q0_1, .int q0_2, .int q0_3, .int q0_4, .int q0_5, .ref q0_6, .ref q0_7, .ref q0_8, .ref q0_9, .ref q0_10, .null, .int q0_12, .int q0_13])) :: X) H := hH
          refine W.widen (k := 0) (n := 0) (Nat.le_of_ble_eq_true rfl) (Nat.le_of_ble_eq_true rfl) ?_
          refine t_ist hx hb hkb hH hS t_q0_10 (hO.no t_q0_10 (by decide)) (by omega) (by omega) (cp_0 _) dX4_readGuide_120 (fun H locs hH hS => ?_)
          exact J121  _ _ _  hH hS (lv_sub hl [0, 1] rfl)
    · skip
      have tc38 := f_eq (k := 0) (by decide) c38
      refine lv_iconst (v := 0) hx hb dX4_readGuide_41 (by decide) ?_
      have hH : HT D cs A T O X H := HT.lay (ci := 9) hH t_d ((ob9d _).mpr (okL_c (⟨_, rfl, by omega, by omega⟩) (okL_c (⟨_, rfl, by omega, by omega⟩) (okL_c (⟨_, rfl⟩) (okL_c (⟨_, rfl, by omega, by omega⟩) (okL_c (⟨_, rfl, by omega, by omega⟩) (okL_c (⟨_, rfl, by omega, by omega⟩) (okL_c (⟨_, rfl, t_q0_6⟩) (okL_c (⟨_, rfl, t_q0_7⟩) (okL_c (⟨_, rfl, t_q0_8⟩) (okL_c (⟨_, rfl, t_q0_9⟩) (okL_c (⟨_, rfl, t_q0_10⟩) (okL_c (rfl) (okL_c (⟨_, rfl, by omega, by omega⟩) (okL_c (⟨_, rfl, by omega, by omega⟩) (okL_n))))))))))))))))
      have hO := hO0
      exact te_z hx hb hr hlocks (by rfl) hH hS (⟨rfl, by decide, by decide⟩) dX4_readGuide_42
  · skip
    have tc10 := f_nlt (k := 5) (by decide) c10
    refine lv_aload_n hx hb dX4_readGuide_13 rfl (lv_at hl 1 rfl) ?_
    refine t_get (ci := 4) (lst := ft4 d 0) (C := RX4) (F := TX4) (N := 5) hx hb hts uX4 hown hkb hH t_a0 (hO.no t_a0 (by decide)) (fun _ h9 => h9) rfl rfl 0 (by decide) rfl kw_211 (fun _ h9 => h9) dX4_readGuide_14 (fun v9 h9 => ?_)
    obtain ⟨v14, rfl, t_v14⟩ := h9
    refine lv_iconst (v := 4) hx hb dX4_readGuide_17 (by decide) ?_
    refine tk_i hH hS hA (tr_V (n := 1) (As := [.int 4]) hx hb hml hown hts hkb hH (ox_c hOX) hks hE hS hA (s_Tok_refuse l D cs kf T (d :: O) ((d, .inr (9, [.int q0_0, .int q0_1, .int q0_2, .int q0_3, .int q0_4, .int q0_5, .ref q0_6, .ref q0_7, .ref q0_8, .ref q0_9, .ref q0_10, .null, .int q0_12, .int q0_13])) :: X) v14 (4) t_v14 (hO.sub (by decide))) kw_579 kw_580 kw_581 kw_3 kw_582 (by decide +kernel) ⟨Nat.le_of_ble_eq_true rfl, Nat.le_of_ble_eq_true rfl⟩ (HT.recv (ci := 7) hkb hH t_v14 (hO.no t_v14 (by decide)) rfl) rfl rfl hl.1 (Nat.le_of_ble_eq_true rfl) dX4_readGuide_18 ⟨Nat.le_of_ble_eq_true rfl, Nat.le_of_ble_eq_true rfl⟩) (fun v18 u H locs hz9 hH hS => ?_)
    obtain ⟨rfl, l_v18, u_v18⟩ := hz9
    have hH : HT D cs A T (d :: O) ((d, .inr (9, [.int q0_0, .int q0_1, .int q0_2, .int q0_3, .int q0_4, .int q0_5, .ref q0_6, .ref q0_7, .ref q0_8, .ref q0_9, .ref q0_10, .null, .int q0_12, .int q0_13])) :: X) H := hH
    refine W.widen (k := 0) (n := 0) (Nat.le_of_ble_eq_true rfl) (Nat.le_of_ble_eq_true rfl) ?_
    have hH : HT D cs A T O X H := HT.lay (ci := 9) hH t_d ((ob9d _).mpr (okL_c (⟨_, rfl, by omega, by omega⟩) (okL_c (⟨_, rfl, by omega, by omega⟩) (okL_c (⟨_, rfl⟩) (okL_c (⟨_, rfl, by omega, by omega⟩) (okL_c (⟨_, rfl, by omega, by omega⟩) (okL_c (⟨_, rfl, by omega, by omega⟩) (okL_c (⟨_, rfl, t_q0_6⟩) (okL_c (⟨_, rfl, t_q0_7⟩) (okL_c (⟨_, rfl, t_q0_8⟩) (okL_c (⟨_, rfl, t_q0_9⟩) (okL_c (⟨_, rfl, t_q0_10⟩) (okL_c (rfl) (okL_c (⟨_, rfl, by omega, by omega⟩) (okL_c (⟨_, rfl, by omega, by omega⟩) (okL_n))))))))))))))))
    have hO := hO0
    exact te_z hx hb hr hlocks (nar01 (by omega) (by omega)) hH hS (⟨rfl, by omega, by omega⟩) dX4_readGuide_21
set_option maxHeartbeats 4000000 in
set_option maxRecDepth 100000 in
theorem s_RD_readLine (l : Launch) (D : va_G) (cs : CS) (kf : KF) (T : TF) (O : List Nat) (X : va_W) (a0 d : Nat) (t_a0 : T a0 = some (14, d, 0)) (t_d : T d = some (19, 100, 0)) (hO : okO T O [0, 1, 13, 14, 16, 17, 19]) : TK l D cs kf yX4_readLine cX4_readLine 1 (some (.boolean)) { frames := 31, cells := 0, slots := 0, locals := 706 } [.ref a0] T O X (Ti D cs (fun r u => u = (T, O, X) ∧ 0 ≤ r.toInt ∧ r.toInt ≤ 1)) := by
  refine tk_of (by decide) (Nat.le_of_ble_eq_true rfl) (fun p e s m below meth c ls A H locs hx hb hr hml hown hts hlocks hnm hkb hH hS hA hOX hks hE hl => ?_)
  have hown : s.vm.findClass RX4 = some m.cls := hown
  have hl : lv_has ls 1 [(0, .ref a0)] := hl
  refine lv_aload_n hx hb dX4_readLine_0 rfl (lv_at hl 0 rfl) ?_
  refine t_get (ci := 4) (lst := ft4 d 0) (C := RX4) (F := TX4) (N := 5) hx hb hts uX4 hown hkb hH t_a0 (hO.no t_a0 (by decide)) (fun _ h9 => h9) rfl rfl 0 (by decide) rfl kw_211 (fun _ h9 => h9) dX4_readLine_1 (fun v9 h9 => ?_)
  obtain ⟨v1, rfl, t_v1⟩ := h9
  refine va_ldcS (q := kf.1 1) hx hb hown (hks ("FootholdWall$Reader", 81, "hold", 1) (by decide +kernel)) dX4_readLine_4 ?_
  refine tk_i hH hS hA (tr_V (n := 1) (As := [.ref (kf.1 1)]) hx hb hml hown hts hkb hH hOX hks hE hS hA (s_Tok_isWord l D cs kf T O X v1 1 t_v1 (by decide) (hO.sub (by decide))) kw_550 kw_551 kw_552 kw_3 kw_553 (by decide +kernel) ⟨Nat.le_of_ble_eq_true rfl, Nat.le_of_ble_eq_true rfl⟩ (HT.recv (ci := 7) hkb hH t_v1 (hO.no t_v1 (by decide)) rfl) rfl rfl hl.1 (Nat.le_of_ble_eq_true rfl) dX4_readLine_6 ⟨Nat.le_of_ble_eq_true rfl, Nat.le_of_ble_eq_true rfl⟩) (fun v6 u H locs hz9 hH hS => ?_)
  obtain ⟨rfl, l_v6, u_v6⟩ := hz9
  have hH : HT D cs A T O X H := hH
  refine W.widen (k := 0) (n := 0) (Nat.le_of_ble_eq_true rfl) (Nat.le_of_ble_eq_true rfl) ?_
  refine lv_if_eq (tgt := 17) hx hb dX4_readLine_9 (by decide) (fun c9 => ?_) (fun c9 => ?_)
  · skip
    have tc9 := f_eq (k := 0) (by decide) c9
    refine lv_aload_n hx hb dX4_readLine_17 rfl (lv_at hl 0 rfl) ?_
    refine t_get (ci := 4) (lst := ft4 d 0) (C := RX4) (F := TX4) (N := 5) hx hb hts uX4 hown hkb hH t_a0 (hO.no t_a0 (by decide)) (fun _ h9 => h9) rfl rfl 0 (by decide) rfl kw_211 (fun _ h9 => h9) dX4_readLine_18 (fun v9 h9 => ?_)
    obtain ⟨v18, rfl, t_v18⟩ := h9
    refine va_ldcS (q := kf.1 6) hx hb hown (hks ("FootholdWall$Reader", 90, "guide", 6) (by decide +kernel)) dX4_readLine_21 ?_
    refine tk_i hH hS hA (tr_V (n := 1) (As := [.ref (kf.1 6)]) hx hb hml hown hts hkb hH hOX hks hE hS hA (s_Tok_isWord l D cs kf T O X v18 6 t_v18 (by decide) (hO.sub (by decide))) kw_550 kw_551 kw_552 kw_3 kw_553 (by decide +kernel) ⟨Nat.le_of_ble_eq_true rfl, Nat.le_of_ble_eq_true rfl⟩ (HT.recv (ci := 7) hkb hH t_v18 (hO.no t_v18 (by decide)) rfl) rfl rfl hl.1 (Nat.le_of_ble_eq_true rfl) dX4_readLine_23 ⟨Nat.le_of_ble_eq_true rfl, Nat.le_of_ble_eq_true rfl⟩) (fun v23 u H locs hz9 hH hS => ?_)
    obtain ⟨rfl, l_v23, u_v23⟩ := hz9
    have hH : HT D cs A T O X H := hH
    refine W.widen (k := 0) (n := 0) (Nat.le_of_ble_eq_true rfl) (Nat.le_of_ble_eq_true rfl) ?_
    refine lv_if_eq (tgt := 34) hx hb dX4_readLine_26 (by decide) (fun c26 => ?_) (fun c26 => ?_)
    · skip
      have tc26 := f_eq (k := 0) (by decide) c26
      refine lv_aload_n hx hb dX4_readLine_34 rfl (lv_at hl 0 rfl) ?_
      refine t_get (ci := 4) (lst := ft4 d 0) (C := RX4) (F := TX4) (N := 5) hx hb hts uX4 hown hkb hH t_a0 (hO.no t_a0 (by decide)) (fun _ h9 => h9) rfl rfl 0 (by decide) rfl kw_211 (fun _ h9 => h9) dX4_readLine_35 (fun v9 h9 => ?_)
      obtain ⟨v35, rfl, t_v35⟩ := h9
      refine va_ldcS (q := kf.1 9) hx hb hown (hks ("FootholdWall$Reader", 95, "step", 9) (by decide +kernel)) dX4_readLine_38 ?_
      refine tk_i hH hS hA (tr_V (n := 1) (As := [.ref (kf.1 9)]) hx hb hml hown hts hkb hH hOX hks hE hS hA (s_Tok_isWord l D cs kf T O X v35 9 t_v35 (by decide) (hO.sub (by decide))) kw_550 kw_551 kw_552 kw_3 kw_553 (by decide +kernel) ⟨Nat.le_of_ble_eq_true rfl, Nat.le_of_ble_eq_true rfl⟩ (HT.recv (ci := 7) hkb hH t_v35 (hO.no t_v35 (by decide)) rfl) rfl rfl hl.1 (Nat.le_of_ble_eq_true rfl) dX4_readLine_40 ⟨Nat.le_of_ble_eq_true rfl, Nat.le_of_ble_eq_true rfl⟩) (fun v40 u H locs hz9 hH hS => ?_)
      obtain ⟨rfl, l_v40, u_v40⟩ := hz9
      have hH : HT D cs A T O X H := hH
      refine W.widen (k := 0) (n := 0) (Nat.le_of_ble_eq_true rfl) (Nat.le_of_ble_eq_true rfl) ?_
      refine lv_if_eq (tgt := 86) hx hb dX4_readLine_43 (by decide) (fun c43 => ?_) (fun c43 => ?_)
      · skip
        have tc43 := f_eq (k := 0) (by decide) c43
        refine lv_aload_n hx hb dX4_readLine_86 rfl (lv_at hl 0 rfl) ?_
        refine t_get (ci := 4) (lst := ft4 d 0) (C := RX4) (F := TX4) (N := 5) hx hb hts uX4 hown hkb hH t_a0 (hO.no t_a0 (by decide)) (fun _ h9 => h9) rfl rfl 0 (by decide) rfl kw_211 (fun _ h9 => h9) dX4_readLine_87 (fun v9 h9 => ?_)
        obtain ⟨v87, rfl, t_v87⟩ := h9
        refine va_ldcS (q := kf.1 17) hx hb hown (hks ("FootholdWall$Reader", 103, "used", 17) (by decide +kernel)) dX4_readLine_90 ?_
        refine tk_i hH hS hA (tr_V (n := 1) (As := [.ref (kf.1 17)]) hx hb hml hown hts hkb hH hOX hks hE hS hA (s_Tok_isWord l D cs kf T O X v87 17 t_v87 (by decide) (hO.sub (by decide))) kw_550 kw_551 kw_552 kw_3 kw_553 (by decide +kernel) ⟨Nat.le_of_ble_eq_true rfl, Nat.le_of_ble_eq_true rfl⟩ (HT.recv (ci := 7) hkb hH t_v87 (hO.no t_v87 (by decide)) rfl) rfl rfl hl.1 (Nat.le_of_ble_eq_true rfl) dX4_readLine_92 ⟨Nat.le_of_ble_eq_true rfl, Nat.le_of_ble_eq_true rfl⟩) (fun v92 u H locs hz9 hH hS => ?_)
        obtain ⟨rfl, l_v92, u_v92⟩ := hz9
        have hH : HT D cs A T O X H := hH
        refine W.widen (k := 0) (n := 0) (Nat.le_of_ble_eq_true rfl) (Nat.le_of_ble_eq_true rfl) ?_
        refine lv_if_eq (tgt := 103) hx hb dX4_readLine_95 (by decide) (fun c95 => ?_) (fun c95 => ?_)
        · skip
          have tc95 := f_eq (k := 0) (by decide) c95
          refine lv_aload_n hx hb dX4_readLine_103 rfl (lv_at hl 0 rfl) ?_
          refine t_get (ci := 4) (lst := ft4 d 0) (C := RX4) (F := TX4) (N := 5) hx hb hts uX4 hown hkb hH t_a0 (hO.no t_a0 (by decide)) (fun _ h9 => h9) rfl rfl 0 (by decide) rfl kw_211 (fun _ h9 => h9) dX4_readLine_104 (fun v9 h9 => ?_)
          obtain ⟨v104, rfl, t_v104⟩ := h9
          refine va_ldcS (q := kf.1 19) hx hb hown (hks ("FootholdWall$Reader", 108, "broken", 19) (by decide +kernel)) dX4_readLine_107 ?_
          refine tk_i hH hS hA (tr_V (n := 1) (As := [.ref (kf.1 19)]) hx hb hml hown hts hkb hH hOX hks hE hS hA (s_Tok_isWord l D cs kf T O X v104 19 t_v104 (by decide) (hO.sub (by decide))) kw_550 kw_551 kw_552 kw_3 kw_553 (by decide +kernel) ⟨Nat.le_of_ble_eq_true rfl, Nat.le_of_ble_eq_true rfl⟩ (HT.recv (ci := 7) hkb hH t_v104 (hO.no t_v104 (by decide)) rfl) rfl rfl hl.1 (Nat.le_of_ble_eq_true rfl) dX4_readLine_109 ⟨Nat.le_of_ble_eq_true rfl, Nat.le_of_ble_eq_true rfl⟩) (fun v109 u H locs hz9 hH hS => ?_)
          obtain ⟨rfl, l_v109, u_v109⟩ := hz9
          have hH : HT D cs A T O X H := hH
          refine W.widen (k := 0) (n := 0) (Nat.le_of_ble_eq_true rfl) (Nat.le_of_ble_eq_true rfl) ?_
          refine lv_if_eq (tgt := 120) hx hb dX4_readLine_112 (by decide) (fun c112 => ?_) (fun c112 => ?_)
          · skip
            have tc112 := f_eq (k := 0) (by decide) c112
            refine lv_aload_n hx hb dX4_readLine_120 rfl (lv_at hl 0 rfl) ?_
            refine t_get (ci := 4) (lst := ft4 d 0) (C := RX4) (F := TX4) (N := 5) hx hb hts uX4 hown hkb hH t_a0 (hO.no t_a0 (by decide)) (fun _ h9 => h9) rfl rfl 0 (by decide) rfl kw_211 (fun _ h9 => h9) dX4_readLine_121 (fun v9 h9 => ?_)
            obtain ⟨v121, rfl, t_v121⟩ := h9
            refine va_ldcS (q := kf.1 14) hx hb hown (hks ("FootholdWall$Reader", 113, "day", 14) (by decide +kernel)) dX4_readLine_124 ?_
            refine tk_i hH hS hA (tr_V (n := 1) (As := [.ref (kf.1 14)]) hx hb hml hown hts hkb hH hOX hks hE hS hA (s_Tok_isWord l D cs kf T O X v121 14 t_v121 (by decide) (hO.sub (by decide))) kw_550 kw_551 kw_552 kw_3 kw_553 (by decide +kernel) ⟨Nat.le_of_ble_eq_true rfl, Nat.le_of_ble_eq_true rfl⟩ (HT.recv (ci := 7) hkb hH t_v121 (hO.no t_v121 (by decide)) rfl) rfl rfl hl.1 (Nat.le_of_ble_eq_true rfl) dX4_readLine_126 ⟨Nat.le_of_ble_eq_true rfl, Nat.le_of_ble_eq_true rfl⟩) (fun v126 u H locs hz9 hH hS => ?_)
            obtain ⟨rfl, l_v126, u_v126⟩ := hz9
            have hH : HT D cs A T O X H := hH
            refine W.widen (k := 0) (n := 0) (Nat.le_of_ble_eq_true rfl) (Nat.le_of_ble_eq_true rfl) ?_
            refine lv_if_eq (tgt := 173) hx hb dX4_readLine_129 (by decide) (fun c129 => ?_) (fun c129 => ?_)
            · skip
              have tc129 := f_eq (k := 0) (by decide) c129
              refine lv_aload_n hx hb dX4_readLine_173 rfl (lv_at hl 0 rfl) ?_
              refine t_get (ci := 4) (lst := ft4 d 0) (C := RX4) (F := TX4) (N := 5) hx hb hts uX4 hown hkb hH t_a0 (hO.no t_a0 (by decide)) (fun _ h9 => h9) rfl rfl 0 (by decide) rfl kw_211 (fun _ h9 => h9) dX4_readLine_174 (fun v9 h9 => ?_)
              obtain ⟨v174, rfl, t_v174⟩ := h9
              refine lv_iconst (v := 2) hx hb dX4_readLine_177 (by decide) ?_
              refine tk_i hH hS hA (tr_V (n := 1) (As := [.int 2]) hx hb hml hown hts hkb hH hOX hks hE hS hA (s_Tok_refuse l D cs kf T O X v174 (2) t_v174 (hO.sub (by decide))) kw_579 kw_580 kw_581 kw_3 kw_582 (by decide +kernel) ⟨Nat.le_of_ble_eq_true rfl, Nat.le_of_ble_eq_true rfl⟩ (HT.recv (ci := 7) hkb hH t_v174 (hO.no t_v174 (by decide)) rfl) rfl rfl hl.1 (Nat.le_of_ble_eq_true rfl) dX4_readLine_178 ⟨Nat.le_of_ble_eq_true rfl, Nat.le_of_ble_eq_true rfl⟩) (fun v178 u H locs hz9 hH hS => ?_)
              obtain ⟨rfl, l_v178, u_v178⟩ := hz9
              have hH : HT D cs A T O X H := hH
              refine W.widen (k := 0) (n := 0) (Nat.le_of_ble_eq_true rfl) (Nat.le_of_ble_eq_true rfl) ?_
              exact te_z hx hb hr hlocks (nar01 (by omega) (by omega)) hH hS (⟨rfl, by omega, by omega⟩) dX4_readLine_181
            · skip
              have tc129 := f_ne (k := 0) (by decide) c129
              refine lv_aload_n hx hb dX4_readLine_132 rfl (lv_at hl 0 rfl) ?_
              refine t_get (ci := 4) (lst := ft4 d 0) (C := RX4) (F := TX4) (N := 5) hx hb hts uX4 hown hkb hH t_a0 (hO.no t_a0 (by decide)) (fun _ h9 => h9) rfl rfl 0 (by decide) rfl kw_211 (fun _ h9 => h9) dX4_readLine_133 (fun v9 h9 => ?_)
              obtain ⟨v133, rfl, t_v133⟩ := h9
              refine tk_v hH hS hA (tr_V (n := 0) (As := []) hx hb hml hown hts hkb hH hOX hks hE hS hA (s_Tok_go l D cs kf T O X v133 t_v133 (hO.sub (by decide))) kw_583 kw_453 kw_454 kw_3 kw_455 (by decide +kernel) ⟨Nat.le_of_ble_eq_true rfl, Nat.le_of_ble_eq_true rfl⟩ (HT.recv (ci := 7) hkb hH t_v133 (hO.no t_v133 (by decide)) rfl) rfl rfl hl.1 (Nat.le_of_ble_eq_true rfl) dX4_readLine_136 ⟨Nat.le_of_ble_eq_true rfl, Nat.le_of_ble_eq_true rfl⟩) (fun u H locs hz9 hH hS => ?_)
              have hz9 : u = (T, O, X) := hz9
              subst hz9
              have hH : HT D cs A T O X H := hH
              refine W.widen (k := 0) (n := 0) (Nat.le_of_ble_eq_true rfl) (Nat.le_of_ble_eq_true rfl) ?_
              refine lv_aload_n hx hb dX4_readLine_139 rfl (lv_at hl 0 rfl) ?_
              refine t_get (ci := 4) (lst := ft4 d 0) (C := RX4) (F := TX4) (N := 5) hx hb hts uX4 hown hkb hH t_a0 (hO.no t_a0 (by decide)) (fun _ h9 => h9) rfl rfl 4 (by decide) rfl kw_216 (fun _ h9 => h9) dX4_readLine_140 (fun v9 h9 => ?_)
              obtain ⟨v140, rfl, t_v140⟩ := h9
              refine lv_aload_n hx hb dX4_readLine_143 rfl (lv_at hl 0 rfl) ?_
              refine t_get (ci := 4) (lst := ft4 d 0) (C := RX4) (F := TX4) (N := 5) hx hb hts uX4 hown hkb hH t_a0 (hO.no t_a0 (by decide)) (fun _ h9 => h9) rfl rfl 0 (by decide) rfl kw_211 (fun _ h9 => h9) dX4_readLine_144 (fun v9 h9 => ?_)
              obtain ⟨v144, rfl, t_v144⟩ := h9
              refine lv_sipush (v := 999) hx hb dX4_readLine_147 (by decide) ?_
              refine tk_i hH hS hA (tr_V (n := 1) (As := [.int 999]) hx hb hml hown hts hkb hH hOX hks hE hS hA (s_Tok_takeNumber l D cs kf T O X v144 (999) t_v144 (hO.sub (by decide))) kw_584 kw_585 kw_586 kw_3 kw_587 (by decide +kernel) ⟨Nat.le_of_ble_eq_true rfl, Nat.le_of_ble_eq_true rfl⟩ (HT.recv (ci := 7) hkb hH t_v144 (hO.no t_v144 (by decide)) rfl) rfl rfl hl.1 (Nat.le_of_ble_eq_true rfl) dX4_readLine_150 ⟨Nat.le_of_ble_eq_true rfl, Nat.le_of_ble_eq_true rfl⟩) (fun v150 u H locs hz9 hH hS => ?_)
              have hz9 : u = (T, O, X) := hz9
              subst hz9
              have hH : HT D cs A T O X H := hH
              refine W.widen (k := 0) (n := 0) (Nat.le_of_ble_eq_true rfl) (Nat.le_of_ble_eq_true rfl) ?_
              refine t_put (ci := 6) (lst := ft6 0 0) (v := .int v150) (ty := tyX6 2) (C := RX6) (F := TX6) (N := 6) hx hb hts uX6 tyX6 tyX6_ok nmX6 hown hkb hH hS t_v140 (hO.no t_v140 (by decide)) (fun _ => Iff.rfl) rfl rfl 2 (by decide) rfl (⟨_, rfl⟩) kw_190 (fun _ h9 => h9) rfl (tyX6_ok 2 (by decide)) rfl rfl dX4_readLine_153 (fun H locs hH hS => ?_)
              refine lv_aload_n hx hb dX4_readLine_156 rfl (lv_at hl 0 rfl) ?_
              refine t_get (ci := 4) (lst := ft4 d 0) (C := RX4) (F := TX4) (N := 5) hx hb hts uX4 hown hkb hH t_a0 (hO.no t_a0 (by decide)) (fun _ h9 => h9) rfl rfl 4 (by decide) rfl kw_216 (fun _ h9 => h9) dX4_readLine_157 (fun v9 h9 => ?_)
              obtain ⟨v157, rfl, t_v157⟩ := h9
              refine t_get (ci := 6) (lst := ft6 0 0) (C := RX6) (F := TX6) (N := 6) hx hb hts uX6 hown hkb hH t_v157 (hO.no t_v157 (by decide)) (fun _ h9 => h9) rfl rfl 2 (by decide) rfl kw_190 (fun _ h9 => h9) dX4_readLine_160 (fun v9 h9 => ?_)
              obtain ⟨v160, rfl⟩ := h9
              refine lv_iconst (v := (-1)) hx hb dX4_readLine_163 (by decide) ?_
              have J172 : ∀ (k172_0 : Int32) (H : Heap) (locs : List Loc) (ls : Array Slot), (0 ≤ k172_0.toInt) → (k172_0.toInt ≤ 1) → HT D cs A T O X H → va_S A s.heap H locs → lv_has ls 1 [] → W p l e { frames := 31, cells := 0, slots := 0, locals := 706 } s m [.ref a0].toArray below meth c H locs 0 0 (MQ below (Ti D cs (fun r u => u = (T, O, X) ∧ 0 ≤ r.toInt ∧ r.toInt ≤ 1) A) [.ref a0].toArray s 0 0 A) (F0 m 172 ls [.int k172_0]) := by
                intro k172_0 H locs ls l_k172_0 u_k172_0 hH hS hl
                exact te_z hx hb hr hlocks (nar01 (by omega) (by omega)) hH hS (⟨rfl, by omega, by omega⟩) dX4_readLine_172
              refine lv_icmp_eq (tgt := 171) hx hb dX4_readLine_164 (by decide) (fun c164 => ?_) (fun c164 => ?_)
              · skip
                have tc164 := f_eq (k := -1) (by decide) c164
                refine lv_iconst (v := 0) hx hb dX4_readLine_171 (by decide) ?_
                exact J172 0 _ _ _ (by decide) (by decide) hH hS (lv_sub hl [] rfl)
              · skip
                have tc164 := f_ne (k := -1) (by decide) c164
                refine lv_iconst (v := 1) hx hb dX4_readLine_167 (by decide) ?_
                refine lv_goto (tgt := 172) hx hb dX4_readLine_168 (by decide) ?_
                exact J172 1 _ _ _ (by decide) (by decide) hH hS (lv_sub hl [] rfl)
          · skip
            have tc112 := f_ne (k := 0) (by decide) c112
            refine lv_aload_n hx hb dX4_readLine_115 rfl (lv_at hl 0 rfl) ?_
            refine tk_i hH hS hA (tr_V (n := 0) (As := []) hx hb hml hown hts hkb hH hOX hks hE hS hA (s_RD_readBroken l D cs kf T O X a0 d t_a0 t_d (hO.sub (by decide))) kw_698 kw_700 ks_16 kw_2 kw_701 (by decide +kernel) ⟨Nat.le_of_ble_eq_true rfl, Nat.le_of_ble_eq_true rfl⟩ (HT.recv (ci := 4) hkb hH t_a0 (hO.no t_a0 (by decide)) rfl) rfl rfl hl.1 (Nat.le_of_ble_eq_true rfl) dX4_readLine_116 ⟨Nat.le_of_ble_eq_true rfl, Nat.le_of_ble_eq_true rfl⟩) (fun v116 u H locs hz9 hH hS => ?_)
            obtain ⟨rfl, l_v116, u_v116⟩ := hz9
            have hH : HT D cs A T O X H := hH
            refine W.widen (k := 0) (n := 0) (Nat.le_of_ble_eq_true rfl) (Nat.le_of_ble_eq_true rfl) ?_
            exact te_z hx hb hr hlocks (nar01 (by omega) (by omega)) hH hS (⟨rfl, by omega, by omega⟩) dX4_readLine_119
        · skip
          have tc95 := f_ne (k := 0) (by decide) c95
          refine lv_aload_n hx hb dX4_readLine_98 rfl (lv_at hl 0 rfl) ?_
          refine tk_i hH hS hA (tr_V (n := 0) (As := []) hx hb hml hown hts hkb hH hOX hks hE hS hA (s_RD_readUsed l D cs kf T O X a0 d t_a0 t_d (hO.sub (by decide))) kw_678 kw_680 ks_15 kw_2 kw_681 (by decide +kernel) ⟨Nat.le_of_ble_eq_true rfl, Nat.le_of_ble_eq_true rfl⟩ (HT.recv (ci := 4) hkb hH t_a0 (hO.no t_a0 (by decide)) rfl) rfl rfl hl.1 (Nat.le_of_ble_eq_true rfl) dX4_readLine_99 ⟨Nat.le_of_ble_eq_true rfl, Nat.le_of_ble_eq_true rfl⟩) (fun v99 u H locs hz9 hH hS => ?_)
          obtain ⟨rfl, l_v99, u_v99⟩ := hz9
          have hH : HT D cs A T O X H := hH
          refine W.widen (k := 0) (n := 0) (Nat.le_of_ble_eq_true rfl) (Nat.le_of_ble_eq_true rfl) ?_
          exact te_z hx hb hr hlocks (nar01 (by omega) (by omega)) hH hS (⟨rfl, by omega, by omega⟩) dX4_readLine_102
      · skip
        have tc43 := f_ne (k := 0) (by decide) c43
        refine lv_aload_n hx hb dX4_readLine_46 rfl (lv_at hl 0 rfl) ?_
        refine t_get (ci := 4) (lst := ft4 d 0) (C := RX4) (F := TX4) (N := 5) hx hb hts uX4 hown hkb hH t_a0 (hO.no t_a0 (by decide)) (fun _ h9 => h9) rfl rfl 0 (by decide) rfl kw_211 (fun _ h9 => h9) dX4_readLine_47 (fun v9 h9 => ?_)
        obtain ⟨v47, rfl, t_v47⟩ := h9
        refine tk_v hH hS hA (tr_V (n := 0) (As := []) hx hb hml hown hts hkb hH hOX hks hE hS hA (s_Tok_go l D cs kf T O X v47 t_v47 (hO.sub (by decide))) kw_583 kw_453 kw_454 kw_3 kw_455 (by decide +kernel) ⟨Nat.le_of_ble_eq_true rfl, Nat.le_of_ble_eq_true rfl⟩ (HT.recv (ci := 7) hkb hH t_v47 (hO.no t_v47 (by decide)) rfl) rfl rfl hl.1 (Nat.le_of_ble_eq_true rfl) dX4_readLine_50 ⟨Nat.le_of_ble_eq_true rfl, Nat.le_of_ble_eq_true rfl⟩) (fun u H locs hz9 hH hS => ?_)
        have hz9 : u = (T, O, X) := hz9
        subst hz9
        have hH : HT D cs A T O X H := hH
        refine W.widen (k := 0) (n := 0) (Nat.le_of_ble_eq_true rfl) (Nat.le_of_ble_eq_true rfl) ?_
        refine lv_aload_n hx hb dX4_readLine_53 rfl (lv_at hl 0 rfl) ?_
        refine lv_iconst (v := 1) hx hb dX4_readLine_54 (by decide) ?_
        refine t_put (ci := 4) (lst := ft4 d 0) (v := .int 1) (ty := tyX4 3) (C := RX4) (F := TX4) (N := 5) hx hb hts uX4 tyX4 tyX4_ok nmX4 hown hkb hH hS t_a0 (hO.no t_a0 (by decide)) (fun _ => Iff.rfl) rfl rfl 3 (by decide) rfl (⟨_, rfl, by decide, by decide⟩) kw_215 (fun _ h9 => h9) rfl (tyX4_ok 3 (by decide)) rfl rfl dX4_readLine_55 (fun H locs hH hS => ?_)
        refine lv_aload_n hx hb dX4_readLine_58 rfl (lv_at hl 0 rfl) ?_
        refine t_get (ci := 4) (lst := ft4 d 0) (C := RX4) (F := TX4) (N := 5) hx hb hts uX4 hown hkb hH t_a0 (hO.no t_a0 (by decide)) (fun _ h9 => h9) rfl rfl 0 (by decide) rfl kw_211 (fun _ h9 => h9) dX4_readLine_59 (fun v9 h9 => ?_)
        obtain ⟨v59, rfl, t_v59⟩ := h9
        refine lv_bipush (v := 58) hx hb dX4_readLine_62 (by decide) ?_
        refine tk_i hH hS hA (tr_V (n := 1) (As := [.int 58]) hx hb hml hown hts hkb hH hOX hks hE hS hA (s_Tok_takeSign l D cs kf T O X v59 (58) t_v59 (hO.sub (by decide))) kw_610 kw_611 kw_612 kw_3 kw_613 (by decide +kernel) ⟨Nat.le_of_ble_eq_true rfl, Nat.le_of_ble_eq_true rfl⟩ (HT.recv (ci := 7) hkb hH t_v59 (hO.no t_v59 (by decide)) rfl) rfl rfl hl.1 (Nat.le_of_ble_eq_true rfl) dX4_readLine_64 ⟨Nat.le_of_ble_eq_true rfl, Nat.le_of_ble_eq_true rfl⟩) (fun v64 u H locs hz9 hH hS => ?_)
        obtain ⟨rfl, l_v64, u_v64⟩ := hz9
        have hH : HT D cs A T O X H := hH
        refine W.widen (k := 0) (n := 0) (Nat.le_of_ble_eq_true rfl) (Nat.le_of_ble_eq_true rfl) ?_
        have J85 : ∀ (k85_0 : Int32) (H : Heap) (locs : List Loc) (ls : Array Slot), (0 ≤ k85_0.toInt) → (k85_0.toInt ≤ 1) → HT D cs A T O X H → va_S A s.heap H locs → lv_has ls 1 [] → W p l e { frames := 31, cells := 0, slots := 0, locals := 706 } s m [.ref a0].toArray below meth c H locs 0 0 (MQ below (Ti D cs (fun r u => u = (T, O, X) ∧ 0 ≤ r.toInt ∧ r.toInt ≤ 1) A) [.ref a0].toArray s 0 0 A) (F0 m 85 ls [.int k85_0]) := by
          intro k85_0 H locs ls l_k85_0 u_k85_0 hH hS hl
          exact te_z hx hb hr hlocks (nar01 (by omega) (by omega)) hH hS (⟨rfl, by omega, by omega⟩) dX4_readLine_85
        have J84 : ∀  (H : Heap) (locs : List Loc) (ls : Array Slot), HT D cs A T O X H → va_S A s.heap H locs → lv_has ls 1 [] → W p l e { frames := 31, cells := 0, slots := 0, locals := 706 } s m [.ref a0].toArray below meth c H locs 0 0 (MQ below (Ti D cs (fun r u => u = (T, O, X) ∧ 0 ≤ r.toInt ∧ r.toInt ≤ 1) A) [.ref a0].toArray s 0 0 A) (F0 m 84 ls []) := by
          intro  H locs ls  hH hS hl
          refine lv_iconst (v := 0) hx hb dX4_readLine_84 (by decide) ?_
          exact J85 0 _ _ _ (by decide) (by decide) hH hS (lv_sub hl [] rfl)
        refine lv_if_eq (tgt := 84) hx hb dX4_readLine_67 (by decide) (fun c67 => ?_) (fun c67 => ?_)
        · skip
          have tc67 := f_eq (k := 0) (by decide) c67
          exact J84  _ _ _  hH hS (lv_sub hl [] rfl)
        · skip
          have tc67 := f_ne (k := 0) (by decide) c67
          refine lv_aload_n hx hb dX4_readLine_70 rfl (lv_at hl 0 rfl) ?_
          refine t_get (ci := 4) (lst := ft4 d 0) (C := RX4) (F := TX4) (N := 5) hx hb hts uX4 hown hkb hH t_a0 (hO.no t_a0 (by decide)) (fun _ h9 => h9) rfl rfl 1 (by decide) rfl kw_213 (fun _ h9 => h9) dX4_readLine_71 (fun v9 h9 => ?_)
          obtain ⟨v71, rfl, t_v71⟩ := h9
          refine tk_i hH hS hA (tr_V (n := 0) (As := []) hx hb hml hown hts hkb hH hOX hks hE hS hA (s_LR_read l D cs kf T O X v71 t_v71 (hO.sub (by decide))) kw_618 kw_619 kw_620 kw_4 kw_621 (by decide +kernel) ⟨Nat.le_of_ble_eq_true rfl, Nat.le_of_ble_eq_true rfl⟩ (HT.recv (ci := 3) hkb hH t_v71 (hO.no t_v71 (by decide)) rfl) rfl rfl hl.1 (Nat.le_of_ble_eq_true rfl) dX4_readLine_74 ⟨Nat.le_of_ble_eq_true rfl, Nat.le_of_ble_eq_true rfl⟩) (fun v74 u H locs hz9 hH hS => ?_)
          obtain ⟨rfl, l_v74, u_v74⟩ := hz9
          have hH : HT D cs A T O X H := hH
          refine W.widen (k := 0) (n := 0) (Nat.le_of_ble_eq_true rfl) (Nat.le_of_ble_eq_true rfl) ?_
          refine lv_if_eq (tgt := 84) hx hb dX4_readLine_77 (by decide) (fun c77 => ?_) (fun c77 => ?_)
          · skip
            have tc77 := f_eq (k := 0) (by decide) c77
            exact J84  _ _ _  hH hS (lv_sub hl [] rfl)
          · skip
            have tc77 := f_ne (k := 0) (by decide) c77
            refine lv_iconst (v := 1) hx hb dX4_readLine_80 (by decide) ?_
            refine lv_goto (tgt := 85) hx hb dX4_readLine_81 (by decide) ?_
            exact J85 1 _ _ _ (by decide) (by decide) hH hS (lv_sub hl [] rfl)
    · skip
      have tc26 := f_ne (k := 0) (by decide) c26
      refine lv_aload_n hx hb dX4_readLine_29 rfl (lv_at hl 0 rfl) ?_
      refine tk_i hH hS hA (tr_V (n := 0) (As := []) hx hb hml hown hts hkb hH hOX hks hE hS hA (s_RD_readGuide l D cs kf T O X a0 d t_a0 t_d (hO.sub (by decide))) kw_598 kw_600 ks_4 kw_2 kw_601 (by decide +kernel) ⟨Nat.le_of_ble_eq_true rfl, Nat.le_of_ble_eq_true rfl⟩ (HT.recv (ci := 4) hkb hH t_a0 (hO.no t_a0 (by decide)) rfl) rfl rfl hl.1 (Nat.le_of_ble_eq_true rfl) dX4_readLine_30 ⟨Nat.le_of_ble_eq_true rfl, Nat.le_of_ble_eq_true rfl⟩) (fun v30 u H locs hz9 hH hS => ?_)
      obtain ⟨rfl, l_v30, u_v30⟩ := hz9
      have hH : HT D cs A T O X H := hH
      refine W.widen (k := 0) (n := 0) (Nat.le_of_ble_eq_true rfl) (Nat.le_of_ble_eq_true rfl) ?_
      exact te_z hx hb hr hlocks (nar01 (by omega) (by omega)) hH hS (⟨rfl, by omega, by omega⟩) dX4_readLine_33
  · skip
    have tc9 := f_ne (k := 0) (by decide) c9
    refine lv_aload_n hx hb dX4_readLine_12 rfl (lv_at hl 0 rfl) ?_
    refine tk_i hH hS hA (tr_V (n := 0) (As := []) hx hb hml hown hts hkb hH hOX hks hE hS hA (s_RD_readHold l D cs kf T O X a0 d t_a0 t_d (hO.sub (by decide))) kw_575 kw_577 ks_2 kw_2 kw_578 (by decide +kernel) ⟨Nat.le_of_ble_eq_true rfl, Nat.le_of_ble_eq_true rfl⟩ (HT.recv (ci := 4) hkb hH t_a0 (hO.no t_a0 (by decide)) rfl) rfl rfl hl.1 (Nat.le_of_ble_eq_true rfl) dX4_readLine_13 ⟨Nat.le_of_ble_eq_true rfl, Nat.le_of_ble_eq_true rfl⟩) (fun v13 u H locs hz9 hH hS => ?_)
    obtain ⟨rfl, l_v13, u_v13⟩ := hz9
    have hH : HT D cs A T O X H := hH
    refine W.widen (k := 0) (n := 0) (Nat.le_of_ble_eq_true rfl) (Nat.le_of_ble_eq_true rfl) ?_
    exact te_z hx hb hr hlocks (nar01 (by omega) (by omega)) hH hS (⟨rfl, by omega, by omega⟩) dX4_readLine_16
set_option maxHeartbeats 4000000 in
set_option maxRecDepth 100000 in
theorem s_RD_read (l : Launch) (D : va_G) (cs : CS) (kf : KF) (T : TF) (O : List Nat) (X : va_W) (a0 d : Nat) (a1 : Nat) (x2 : Int32) (t_a0 : T a0 = some (14, d, 0)) (t_d : T d = some (19, 100, 0)) (t_a1 : T a1 = some (0, 900, 0)) (l_x2 : 0 ≤ x2.toInt) (u_x2 : x2.toInt ≤ 900) (hO : okO T O [0, 1, 13, 14, 16, 17, 19]) : TK l D cs kf yX4_read cX4_read 4 (some (.boolean)) { frames := 32, cells := 0, slots := 0, locals := 726 } [.ref a0, .ref a1, .int x2] T O X (Ti D cs (fun r u => u = (T, O, X) ∧ 0 ≤ r.toInt ∧ r.toInt ≤ 1)) := by
  refine tk_of (by decide) (Nat.le_of_ble_eq_true rfl) (fun p e s m below meth c ls A H locs hx hb hr hml hown hts hlocks hnm hkb hH hS hA hOX hks hE hl => ?_)
  have hown : s.vm.findClass RX4 = some m.cls := hown
  have hl : lv_has ls 4 [(0, .ref a0), (1, .ref a1), (2, .int x2)] := hl
  refine lv_aload_n hx hb dX4_read_0 rfl (lv_at hl 0 rfl) ?_
  refine t_get (ci := 4) (lst := ft4 d 0) (C := RX4) (F := TX4) (N := 5) hx hb hts uX4 hown hkb hH t_a0 (hO.no t_a0 (by decide)) (fun _ h9 => h9) rfl rfl 2 (by decide) rfl kw_214 (fun _ h9 => h9) dX4_read_1 (fun v9 h9 => ?_)
  have h9 : v9 = .ref d := h9
  subst h9
  refine tk_v hH hS hA (tr_V (n := 0) (As := []) hx hb hml hown hts hkb hH hOX hks hE hS hA (s_Wall_forget l D cs kf T O X d t_d (hO.sub (by decide))) kw_437 kw_438 kw_439 kw_5 kw_440 (by decide +kernel) ⟨Nat.le_of_ble_eq_true rfl, Nat.le_of_ble_eq_true rfl⟩ (HT.recv (ci := 9) hkb hH t_d (hO.no t_d (by decide)) rfl) rfl rfl hl.1 (Nat.le_of_ble_eq_true rfl) dX4_read_4 ⟨Nat.le_of_ble_eq_true rfl, Nat.le_of_ble_eq_true rfl⟩) (fun u H locs hz9 hH hS => ?_)
  have hz9 : u = (T, O, X) := hz9
  subst hz9
  have hH : HT D cs A T O X H := hH
  refine W.widen (k := 0) (n := 0) (Nat.le_of_ble_eq_true rfl) (Nat.le_of_ble_eq_true rfl) ?_
  refine lv_aload_n hx hb dX4_read_7 rfl (lv_at hl 0 rfl) ?_
  refine t_get (ci := 4) (lst := ft4 d 0) (C := RX4) (F := TX4) (N := 5) hx hb hts uX4 hown hkb hH t_a0 (hO.no t_a0 (by decide)) (fun _ h9 => h9) rfl rfl 4 (by decide) rfl kw_216 (fun _ h9 => h9) dX4_read_8 (fun v9 h9 => ?_)
  obtain ⟨v8, rfl, t_v8⟩ := h9
  refine tk_v hH hS hA (tr_V (n := 0) (As := []) hx hb hml hown hts hkb hH hOX hks hE hS hA (s_State_forget l D cs kf T O X v8 t_v8 (hO.sub (by decide))) kw_441 kw_442 kw_443 kw_7 kw_444 (by decide +kernel) ⟨Nat.le_of_ble_eq_true rfl, Nat.le_of_ble_eq_true rfl⟩ (HT.recv (ci := 6) hkb hH t_v8 (hO.no t_v8 (by decide)) rfl) rfl rfl hl.1 (Nat.le_of_ble_eq_true rfl) dX4_read_11 ⟨Nat.le_of_ble_eq_true rfl, Nat.le_of_ble_eq_true rfl⟩) (fun u H locs hz9 hH hS => ?_)
  have hz9 : u = (T, O, X) := hz9
  subst hz9
  have hH : HT D cs A T O X H := hH
  refine W.widen (k := 0) (n := 0) (Nat.le_of_ble_eq_true rfl) (Nat.le_of_ble_eq_true rfl) ?_
  refine lv_aload_n hx hb dX4_read_14 rfl (lv_at hl 0 rfl) ?_
  refine lv_iconst (v := 0) hx hb dX4_read_15 (by decide) ?_
  refine t_put (ci := 4) (lst := ft4 d 0) (v := .int 0) (ty := tyX4 3) (C := RX4) (F := TX4) (N := 5) hx hb hts uX4 tyX4 tyX4_ok nmX4 hown hkb hH hS t_a0 (hO.no t_a0 (by decide)) (fun _ => Iff.rfl) rfl rfl 3 (by decide) rfl (⟨_, rfl, by decide, by decide⟩) kw_215 (fun _ h9 => h9) rfl (tyX4_ok 3 (by decide)) rfl rfl dX4_read_16 (fun H locs hH hS => ?_)
  refine lv_aload_n hx hb dX4_read_19 rfl (lv_at hl 0 rfl) ?_
  refine t_get (ci := 4) (lst := ft4 d 0) (C := RX4) (F := TX4) (N := 5) hx hb hts uX4 hown hkb hH t_a0 (hO.no t_a0 (by decide)) (fun _ h9 => h9) rfl rfl 0 (by decide) rfl kw_211 (fun _ h9 => h9) dX4_read_20 (fun v9 h9 => ?_)
  obtain ⟨v20, rfl, t_v20⟩ := h9
  refine lv_aload_n hx hb dX4_read_23 rfl (lv_at hl 1 rfl) ?_
  refine lv_iload_n hx hb dX4_read_24 rfl (lv_at hl 2 rfl) ?_
  refine tk_v hH hS hA (tr_V (n := 2) (As := [.ref a1, .int x2]) hx hb hml hown hts hkb hH hOX hks hE hS hA (s_Tok_begin l D cs kf T O X v20 a1 x2 t_v20 t_a1 (by omega) (hO.sub (by decide))) kw_445 kw_446 kw_447 kw_3 kw_448 (by decide +kernel) ⟨Nat.le_of_ble_eq_true rfl, Nat.le_of_ble_eq_true rfl⟩ (HT.recv (ci := 7) hkb hH t_v20 (hO.no t_v20 (by decide)) rfl) rfl rfl hl.1 (Nat.le_of_ble_eq_true rfl) dX4_read_25 ⟨Nat.le_of_ble_eq_true rfl, Nat.le_of_ble_eq_true rfl⟩) (fun u H locs hz9 hH hS => ?_)
  have hz9 : u = (T, O, X) := hz9
  subst hz9
  have hH : HT D cs A T O X H := hH
  refine W.widen (k := 0) (n := 0) (Nat.le_of_ble_eq_true rfl) (Nat.le_of_ble_eq_true rfl) ?_
  refine lv_iconst (v := 0) hx hb dX4_read_28 (by decide) ?_
  have J30 : ∀ (n : Nat) (p30_3 : Int32) (H : Heap) (locs : List Loc) (ls : Array Slot), (900 - p30_3.toInt).toNat = n → (0 ≤ p30_3.toInt) → (p30_3.toInt ≤ 900) → HT D cs A T O X H → va_S A s.heap H locs → lv_has ls 4 [(3, .int p30_3), (0, .ref a0)] → W p l e { frames := 32, cells := 0, slots := 0, locals := 726 } s m [.ref a0, .ref a1, .int x2].toArray below meth c H locs 0 0 (MQ below (Ti D cs (fun r u => u = (T, O, X) ∧ 0 ≤ r.toInt ∧ r.toInt ≤ 1) A) [.ref a0, .ref a1, .int x2].toArray s 0 0 A) (F0 m 30 ls []) := by
    intro n
    induction n using Nat.strongRecOn with
    | _ n ih30 =>
      intro p30_3 H locs ls hm30 l_p30_3 u_p30_3 hH hS hl
      refine lv_iload_n hx hb dX4_read_30 rfl (lv_at hl 0 rfl) ?_
      refine lv_sipush (v := 900) hx hb dX4_read_31 (by decide) ?_
      have J87 : ∀  (H : Heap) (locs : List Loc) (ls : Array Slot), HT D cs A T O X H → va_S A s.heap H locs → lv_has ls 4 [(0, .ref a0)] → W p l e { frames := 32, cells := 0, slots := 0, locals := 726 } s m [.ref a0, .ref a1, .int x2].toArray below meth c H locs 0 0 (MQ below (Ti D cs (fun r u => u = (T, O, X) ∧ 0 ≤ r.toInt ∧ r.toInt ≤ 1) A) [.ref a0, .ref a1, .int x2].toArray s 0 0 A) (F0 m 87 ls []) := by
        intro  H locs ls  hH hS hl
        refine lv_aload_n hx hb dX4_read_87 rfl (lv_at hl 0 rfl) ?_
        refine t_get (ci := 4) (lst := ft4 d 0) (C := RX4) (F := TX4) (N := 5) hx hb hts uX4 hown hkb hH t_a0 (hO.no t_a0 (by decide)) (fun _ h9 => h9) rfl rfl 4 (by decide) rfl kw_216 (fun _ h9 => h9) dX4_read_88 (fun v9 h9 => ?_)
        obtain ⟨v88, rfl, t_v88⟩ := h9
        refine tk_v hH hS hA (tr_V (n := 0) (As := []) hx hb hml hown hts hkb hH hOX hks hE hS hA (s_State_useSinceToday l D cs kf T O X v88 t_v88 (hO.sub (by decide))) kw_707 kw_708 kw_709 kw_7 kw_710 (by decide +kernel) ⟨Nat.le_of_ble_eq_true rfl, Nat.le_of_ble_eq_true rfl⟩ (HT.recv (ci := 6) hkb hH t_v88 (hO.no t_v88 (by decide)) rfl) rfl rfl hl.1 (Nat.le_of_ble_eq_true rfl) dX4_read_91 ⟨Nat.le_of_ble_eq_true rfl, Nat.le_of_ble_eq_true rfl⟩) (fun u H locs hz9 hH hS => ?_)
        have hz9 : u = (T, O, X) := hz9
        subst hz9
        have hH : HT D cs A T O X H := hH
        refine W.widen (k := 0) (n := 0) (Nat.le_of_ble_eq_true rfl) (Nat.le_of_ble_eq_true rfl) ?_
        refine lv_iconst (v := 1) hx hb dX4_read_94 (by decide) ?_
        exact te_z hx hb hr hlocks (by rfl) hH hS (⟨rfl, by decide, by decide⟩) dX4_read_95
      refine lv_icmp_ge (tgt := 87) hx hb dX4_read_34 (by decide) (fun c34 => ?_) (fun c34 => ?_)
      · skip
        have tc34 := f_ge (k := 900) (by decide) c34
        exact J87  _ _ _  hH hS (lv_sub hl [1] rfl)
      · skip
        have tc34 := f_nge (k := 900) (by decide) c34
        refine lv_aload_n hx hb dX4_read_37 rfl (lv_at hl 1 rfl) ?_
        refine t_get (ci := 4) (lst := ft4 d 0) (C := RX4) (F := TX4) (N := 5) hx hb hts uX4 hown hkb hH t_a0 (hO.no t_a0 (by decide)) (fun _ h9 => h9) rfl rfl 0 (by decide) rfl kw_211 (fun _ h9 => h9) dX4_read_38 (fun v9 h9 => ?_)
        obtain ⟨v38, rfl, t_v38⟩ := h9
        refine t_get (ci := 7) (lst := ft7 0 0) (C := RX7) (F := TX7) (N := 8) hx hb hts uX7 hown hkb hH t_v38 (hO.no t_v38 (by decide)) (fun _ h9 => ob7_ok h9) rfl rfl 4 (by decide) rfl kw_49 (fun _ h9 => h9) dX4_read_41 (fun v9 h9 => ?_)
        obtain ⟨v41, rfl⟩ := h9
        refine lv_if_eq (tgt := 87) hx hb dX4_read_44 (by decide) (fun c44 => ?_) (fun c44 => ?_)
        · skip
          have tc44 := f_eq (k := 0) (by decide) c44
          exact J87  _ _ _  hH hS (lv_sub hl [1] rfl)
        · skip
          have tc44 := f_ne (k := 0) (by decide) c44
          refine lv_aload_n hx hb dX4_read_47 rfl (lv_at hl 1 rfl) ?_
          refine tk_i hH hS hA (tr_V (n := 0) (As := []) hx hb hml hown hts hkb hH hOX hks hE hS hA (s_RD_readLine l D cs kf T O X a0 d t_a0 t_d (hO.sub (by decide))) kw_545 kw_547 ks_1 kw_2 kw_548 (by decide +kernel) ⟨Nat.le_of_ble_eq_true rfl, Nat.le_of_ble_eq_true rfl⟩ (HT.recv (ci := 4) hkb hH t_a0 (hO.no t_a0 (by decide)) rfl) rfl rfl hl.1 (Nat.le_of_ble_eq_true rfl) dX4_read_48 ⟨Nat.le_of_ble_eq_true rfl, Nat.le_of_ble_eq_true rfl⟩) (fun v48 u H locs hz9 hH hS => ?_)
          obtain ⟨rfl, l_v48, u_v48⟩ := hz9
          have hH : HT D cs A T O X H := hH
          refine W.widen (k := 0) (n := 0) (Nat.le_of_ble_eq_true rfl) (Nat.le_of_ble_eq_true rfl) ?_
          have J66 : ∀  (H : Heap) (locs : List Loc) (ls : Array Slot), HT D cs A T O X H → va_S A s.heap H locs → lv_has ls 4 [] → W p l e { frames := 32, cells := 0, slots := 0, locals := 726 } s m [.ref a0, .ref a1, .int x2].toArray below meth c H locs 0 0 (MQ below (Ti D cs (fun r u => u = (T, O, X) ∧ 0 ≤ r.toInt ∧ r.toInt ≤ 1) A) [.ref a0, .ref a1, .int x2].toArray s 0 0 A) (F0 m 66 ls []) := by
            intro  H locs ls  hH hS hl
            refine lv_iconst (v := 0) hx hb dX4_read_66 (by decide) ?_
            exact te_z hx hb hr hlocks (by rfl) hH hS (⟨rfl, by decide, by decide⟩) dX4_read_67
          refine lv_if_eq (tgt := 66) hx hb dX4_read_51 (by decide) (fun c51 => ?_) (fun c51 => ?_)
          · skip
            have tc51 := f_eq (k := 0) (by decide) c51
            exact J66  _ _ _  hH hS (lv_sub hl [] rfl)
          · skip
            have tc51 := f_ne (k := 0) (by decide) c51
            refine lv_aload_n hx hb dX4_read_54 rfl (lv_at hl 1 rfl) ?_
            refine t_get (ci := 4) (lst := ft4 d 0) (C := RX4) (F := TX4) (N := 5) hx hb hts uX4 hown hkb hH t_a0 (hO.no t_a0 (by decide)) (fun _ h9 => h9) rfl rfl 0 (by decide) rfl kw_211 (fun _ h9 => h9) dX4_read_55 (fun v9 h9 => ?_)
            obtain ⟨v55, rfl, t_v55⟩ := h9
            refine lv_bipush (v := 59) hx hb dX4_read_58 (by decide) ?_
            refine tk_i hH hS hA (tr_V (n := 1) (As := [.int 59]) hx hb hml hown hts hkb hH hOX hks hE hS hA (s_Tok_takeSign l D cs kf T O X v55 (59) t_v55 (hO.sub (by decide))) kw_610 kw_611 kw_612 kw_3 kw_613 (by decide +kernel) ⟨Nat.le_of_ble_eq_true rfl, Nat.le_of_ble_eq_true rfl⟩ (HT.recv (ci := 7) hkb hH t_v55 (hO.no t_v55 (by decide)) rfl) rfl rfl hl.1 (Nat.le_of_ble_eq_true rfl) dX4_read_60 ⟨Nat.le_of_ble_eq_true rfl, Nat.le_of_ble_eq_true rfl⟩) (fun v60 u H locs hz9 hH hS => ?_)
            obtain ⟨rfl, l_v60, u_v60⟩ := hz9
            have hH : HT D cs A T O X H := hH
            refine W.widen (k := 0) (n := 0) (Nat.le_of_ble_eq_true rfl) (Nat.le_of_ble_eq_true rfl) ?_
            refine lv_if_ne (tgt := 68) hx hb dX4_read_63 (by decide) (fun c63 => ?_) (fun c63 => ?_)
            · skip
              have tc63 := f_ne (k := 0) (by decide) c63
              refine lv_aload_n hx hb dX4_read_68 rfl (lv_at hl 1 rfl) ?_
              refine t_get (ci := 4) (lst := ft4 d 0) (C := RX4) (F := TX4) (N := 5) hx hb hts uX4 hown hkb hH t_a0 (hO.no t_a0 (by decide)) (fun _ h9 => h9) rfl rfl 2 (by decide) rfl kw_214 (fun _ h9 => h9) dX4_read_69 (fun v9 h9 => ?_)
              have h9 : v9 = .ref d := h9
              subst h9
              refine lv_dup hx hb dX4_read_72 rfl ?_
              refine t_get (ci := 9) (lst := ft9d 100 0) (C := RX9) (F := TX9) (N := 14) hx hb hts uX9 hown hkb hH t_d (hO.no t_d (by decide)) (fun fs => (ob9d fs).mp) rfl rfl 2 (by decide) rfl kw_114 (fun _ h9 => h9) dX4_read_73 (fun v9 h9 => ?_)
              obtain ⟨v73, rfl⟩ := h9
              refine lv_iconst (v := 1) hx hb dX4_read_76 (by decide) ?_
              refine lv_iadd hx hb dX4_read_77 ?_
              refine lv_topi (fun v77 ev77 => ?_)
              refine t_put (ci := 9) (lst := ft9d 100 0) (v := .int v77) (ty := tyX9 2) (C := RX9) (F := TX9) (N := 14) hx hb hts uX9 tyX9 tyX9_ok nmX9 hown hkb hH hS t_d (hO.no t_d (by decide)) (fun fs => (ob9d fs)) rfl rfl 2 (by decide) rfl (⟨_, rfl⟩) kw_114 (fun _ h9 => h9) rfl (tyX9_ok 2 (by decide)) rfl rfl dX4_read_78 (fun H locs hH hS => ?_)
              obtain ⟨v81, ev81⟩ : ∃ y : Int32, y = p30_3 + 1 := ⟨_, rfl⟩
              have tv81 : v81.toInt = p30_3.toInt + (1) := by rw [ev81]; exact add_i rfl (by decide) (by omega) (by omega)
              refine lv_iinc (v := v81) (lv' := [(3, .int v81), (0, .ref a0)]) hx hb dX4_read_81 hl (k := 0) rfl (by rw [ev81]; rfl) (by decide) rfl (fun ls hl => ?_)
              refine lv_goto (tgt := 30) hx hb dX4_read_84 (by decide) ?_
              exact ih30 _ (by omega) v81 _ _ _ rfl (by omega) (by omega) hH hS (lv_sub hl [0, 1] rfl)
            · skip
              have tc63 := f_eq (k := 0) (by decide) c63
              exact J66  _ _ _  hH hS (lv_sub hl [] rfl)
  refine lv_istore_n (lv' := [(3, .int 0), (0, .ref a0), (1, .ref a1), (2, .int x2)]) hx hb dX4_read_29 rfl hl (by decide) rfl (fun ls hl => ?_)
  exact J30 _ 0 _ _ _ rfl (by decide) (by decide) hH hS (lv_sub hl [0, 1] rfl)
