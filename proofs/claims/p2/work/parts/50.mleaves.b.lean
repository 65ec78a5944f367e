set_option maxHeartbeats 4000000 in
set_option maxRecDepth 100000 in
theorem s_M_within (l : Launch) (D : va_G) (cs : CS) (kf : KF) (T : TF) (O : List Nat) (X : va_W) (x0 : Int64) (x1 : Int64) (x2 : Int64)  (hO : okO T O []) : TK l D cs kf yX12_within cX12_within 6 (some (.boolean)) { frames := 0, cells := 0, slots := 0, locals := 0 } [.long x0, .long x1, .long x2] T O X (Ti D cs (fun r u => u = (T, O, X) ∧ 0 ≤ r.toInt ∧ r.toInt ≤ 1 ∧ (r.toInt = 0 ∨ (x1.toInt ≤ x0.toInt ∧ x0.toInt ≤ x2.toInt)) ∧ (¬ r.toInt = 0 ∨ x0.toInt < x1.toInt ∨ x2.toInt < x0.toInt))) := by
  refine tk_of (by decide) (Nat.le_of_ble_eq_true rfl) (fun p e s m below meth c ls A H locs hx hb hr hml hown hts hlocks hnm hkb hH hS hA hOX hks hE hl => ?_)
  have hown : s.vm.findClass RX12 = some m.cls := hown
  have hl : lv_has ls 6 [(0, .long x0), (2, .long x1), (4, .long x2)] := hl
  refine lv_lload_n hx hb dX12_within_0 rfl (lv_at hl 0 rfl) ?_
  refine lv_lload_n hx hb dX12_within_1 rfl (lv_at hl 1 rfl) ?_
  refine W.lcmp hx hb dX12_within_2 ?_
  have J18 : ∀ (k18_0 : Int32) (H : Heap) (locs : List Loc) (ls : Array Slot), (0 ≤ k18_0.toInt) → (k18_0.toInt ≤ 1) → (k18_0.toInt = 0 ∨ (x1.toInt ≤ x0.toInt ∧ x0.toInt ≤ x2.toInt)) → (¬ k18_0.toInt = 0 ∨ x0.toInt < x1.toInt ∨ x2.toInt < x0.toInt) → HT D cs A T O X H → va_S A s.heap H locs → lv_has ls 6 [] → W p l e { frames := 0, cells := 0, slots := 0, locals := 0 } s m [.long x0, .long x1, .long x2].toArray below meth c H locs 0 0 (MQ below (Ti D cs (fun r u => u = (T, O, X) ∧ 0 ≤ r.toInt ∧ r.toInt ≤ 1 ∧ (r.toInt = 0 ∨ (x1.toInt ≤ x0.toInt ∧ x0.toInt ≤ x2.toInt)) ∧ (¬ r.toInt = 0 ∨ x0.toInt < x1.toInt ∨ x2.toInt < x0.toInt)) A) [.long x0, .long x1, .long x2].toArray s 0 0 A) (F0 m 18 ls [.int k18_0]) := by
    intro k18_0 H locs ls l_k18_0 u_k18_0 ix18_0 ix18_1 hH hS hl
    exact te_z hx hb hr hlocks (nar01 (by omega) (by omega)) hH hS (⟨rfl, by omega, by omega, by omega, by omega⟩) dX12_within_18
  have J17 : ∀  (H : Heap) (locs : List Loc) (ls : Array Slot), (x0.toInt < x1.toInt ∨ x2.toInt < x0.toInt) → HT D cs A T O X H → va_S A s.heap H locs → lv_has ls 6 [] → W p l e { frames := 0, cells := 0, slots := 0, locals := 0 } s m [.long x0, .long x1, .long x2].toArray below meth c H locs 0 0 (MQ below (Ti D cs (fun r u => u = (T, O, X) ∧ 0 ≤ r.toInt ∧ r.toInt ≤ 1 ∧ (r.toInt = 0 ∨ (x1.toInt ≤ x0.toInt ∧ x0.toInt ≤ x2.toInt)) ∧ (¬ r.toInt = 0 ∨ x0.toInt < x1.toInt ∨ x2.toInt < x0.toInt)) A) [.long x0, .long x1, .long x2].toArray s 0 0 A) (F0 m 17 ls []) := by
    intro  H locs ls i17 hH hS hl
    refine lv_iconst (v := 0) hx hb dX12_within_17 (by decide) ?_
    have z_0 : (0 : Int32).toInt = 0 := by decide
    exact J18 0 _ _ _ (by decide) (by decide) (by omega) (by omega) hH hS (lv_sub hl [] rfl)
  refine lv_if_lt (tgt := 17) hx hb dX12_within_3 (by decide) (fun c3 => ?_) (fun c3 => ?_)
  · skip
    have tc3 := lt_l c3
    exact J17  _ _ _ (by omega) hH hS (lv_sub hl [] rfl)
  · skip
    have tc3 := nlt_l c3
    refine lv_lload_n hx hb dX12_within_6 rfl (lv_at hl 0 rfl) ?_
    refine lv_lload hx hb dX12_within_7 (lv_at hl 2 rfl) ?_
    refine W.lcmp hx hb dX12_within_9 ?_
    refine lv_if_gt (tgt := 17) hx hb dX12_within_10 (by decide) (fun c10 => ?_) (fun c10 => ?_)
    · skip
      have tc10 := gt_l c10
      exact J17  _ _ _ (by omega) hH hS (lv_sub hl [] rfl)
    · skip
      have tc10 := ngt_l c10
      refine lv_iconst (v := 1) hx hb dX12_within_13 (by decide) ?_
      refine lv_goto (tgt := 18) hx hb dX12_within_14 (by decide) ?_
      have z_1 : (1 : Int32).toInt = 1 := by decide
      exact J18 1 _ _ _ (by decide) (by decide) (by omega) (by omega) hH hS (lv_sub hl [] rfl)
set_option maxHeartbeats 4000000 in
set_option maxRecDepth 100000 in
theorem s_M_isIn (l : Launch) (D : va_G) (cs : CS) (kf : KF) (T : TF) (O : List Nat) (X : va_W) (x0 : Int64) (x1 : Int32)  (hO : okO T O []) : TK l D cs kf yX12_isIn cX12_isIn 3 (some (.boolean)) { frames := 0, cells := 0, slots := 0, locals := 0 } [.long x0, .int x1] T O X (Ti D cs (fun r u => u = (T, O, X) ∧ 0 ≤ r.toInt ∧ r.toInt ≤ 1)) := by
  refine tk_of (by decide) (Nat.le_of_ble_eq_true rfl) (fun p e s m below meth c ls A H locs hx hb hr hml hown hts hlocks hnm hkb hH hS hA hOX hks hE hl => ?_)
  have hown : s.vm.findClass RX12 = some m.cls := hown
  have hl : lv_has ls 3 [(0, .long x0), (2, .int x1)] := hl
  refine lv_lload_n hx hb dX12_isIn_0 rfl (lv_at hl 0 rfl) ?_
  refine lv_iload_n hx hb dX12_isIn_1 rfl (lv_at hl 1 rfl) ?_
  refine lv_lshr hx hb dX12_isIn_2 rfl ?_
  refine lv_topl (fun v2 ev2 => ?_)
  refine lv_lconst (v := 1) hx hb dX12_isIn_3 (by decide) ?_
  refine lv_land hx hb dX12_isIn_4 ?_
  refine lv_topl (fun v4 ev4 => ?_)
  refine lv_lconst (v := 1) hx hb dX12_isIn_5 (by decide) ?_
  refine W.lcmp hx hb dX12_isIn_6 ?_
  have J15 : ∀ (k15_0 : Int32) (H : Heap) (locs : List Loc) (ls : Array Slot), (0 ≤ k15_0.toInt) → (k15_0.toInt ≤ 1) → HT D cs A T O X H → va_S A s.heap H locs → lv_has ls 3 [] → W p l e { frames := 0, cells := 0, slots := 0, locals := 0 } s m [.long x0, .int x1].toArray below meth c H locs 0 0 (MQ below (Ti D cs (fun r u => u = (T, O, X) ∧ 0 ≤ r.toInt ∧ r.toInt ≤ 1) A) [.long x0, .int x1].toArray s 0 0 A) (F0 m 15 ls [.int k15_0]) := by
    intro k15_0 H locs ls l_k15_0 u_k15_0 hH hS hl
    exact te_z hx hb hr hlocks (nar01 (by omega) (by omega)) hH hS (⟨rfl, by omega, by omega⟩) dX12_isIn_15
  refine lv_if_ne (tgt := 14) hx hb dX12_isIn_7 (by decide) (fun c7 => ?_) (fun c7 => ?_)
  · skip
    have tc7 := ne_l c7
    have kc7_1 : (1 : Int64).toInt = 1 := by decide
    refine lv_iconst (v := 0) hx hb dX12_isIn_14 (by decide) ?_
    exact J15 0 _ _ _ (by decide) (by decide) hH hS (lv_sub hl [] rfl)
  · skip
    have tc7 := eq_l c7
    have kc7_1 : (1 : Int64).toInt = 1 := by decide
    refine lv_iconst (v := 1) hx hb dX12_isIn_10 (by decide) ?_
    refine lv_goto (tgt := 15) hx hb dX12_isIn_11 (by decide) ?_
    exact J15 1 _ _ _ (by decide) (by decide) hH hS (lv_sub hl [] rfl)
set_option maxHeartbeats 4000000 in
set_option maxRecDepth 100000 in
theorem s_M_far (l : Launch) (D : va_G) (cs : CS) (kf : KF) (T : TF) (O : List Nat) (X : va_W) (x0 : Int32)  (hO : okO T O []) : TK l D cs kf yX12_far cX12_far 1 (some (.int)) { frames := 0, cells := 0, slots := 0, locals := 0 } [.int x0] T O X (Ti D cs (fun r u => u = (T, O, X))) := by
  refine tk_of (by decide) (Nat.le_of_ble_eq_true rfl) (fun p e s m below meth c ls A H locs hx hb hr hml hown hts hlocks hnm hkb hH hS hA hOX hks hE hl => ?_)
  have hown : s.vm.findClass RX12 = some m.cls := hown
  have hl : lv_has ls 1 [(0, .int x0)] := hl
  refine lv_iload_n hx hb dX12_far_0 rfl (lv_at hl 0 rfl) ?_
  have J10 : ∀ (k10_0 : Int32) (H : Heap) (locs : List Loc) (ls : Array Slot), HT D cs A T O X H → va_S A s.heap H locs → lv_has ls 1 [] → W p l e { frames := 0, cells := 0, slots := 0, locals := 0 } s m [.int x0].toArray below meth c H locs 0 0 (MQ below (Ti D cs (fun r u => u = (T, O, X)) A) [.int x0].toArray s 0 0 A) (F0 m 10 ls [.int k10_0]) := by
    intro k10_0 H locs ls  hH hS hl
    exact te_i hx hb hr hlocks hH hS (rfl) dX12_far_10
  refine lv_if_ge (tgt := 9) hx hb dX12_far_1 (by decide) (fun c1 => ?_) (fun c1 => ?_)
  · skip
    have tc1 := f_ge (k := 0) (by decide) c1
    refine lv_iload_n hx hb dX12_far_9 rfl (lv_at hl 0 rfl) ?_
    exact J10 x0 _ _ _  hH hS (lv_sub hl [] rfl)
  · skip
    have tc1 := f_nge (k := 0) (by decide) c1
    refine lv_iload_n hx hb dX12_far_4 rfl (lv_at hl 0 rfl) ?_
    refine lv_ineg hx hb dX12_far_5 ?_
    refine lv_topi (fun v5 ev5 => ?_)
    refine lv_goto (tgt := 10) hx hb dX12_far_6 (by decide) ?_
    exact J10 v5 _ _ _  hH hS (lv_sub hl [] rfl)
set_option maxHeartbeats 4000000 in
set_option maxRecDepth 100000 in
theorem s_M_isSmall (l : Launch) (D : va_G) (cs : CS) (kf : KF) (T : TF) (O : List Nat) (X : va_W) (x0 : Int32)  (hO : okO T O []) : TK l D cs kf yX12_isSmall cX12_isSmall 1 (some (.boolean)) { frames := 0, cells := 0, slots := 0, locals := 0 } [.int x0] T O X (Ti D cs (fun r u => u = (T, O, X) ∧ 0 ≤ r.toInt ∧ r.toInt ≤ 1)) := by
  refine tk_of (by decide) (Nat.le_of_ble_eq_true rfl) (fun p e s m below meth c ls A H locs hx hb hr hml hown hts hlocks hnm hkb hH hS hA hOX hks hE hl => ?_)
  have hown : s.vm.findClass RX12 = some m.cls := hown
  have hl : lv_has ls 1 [(0, .int x0)] := hl
  refine lv_iload_n hx hb dX12_isSmall_0 rfl (lv_at hl 0 rfl) ?_
  refine lv_bipush (v := 97) hx hb dX12_isSmall_1 (by decide) ?_
  have J17 : ∀ (k17_0 : Int32) (H : Heap) (locs : List Loc) (ls : Array Slot), (0 ≤ k17_0.toInt) → (k17_0.toInt ≤ 1) → HT D cs A T O X H → va_S A s.heap H locs → lv_has ls 1 [] → W p l e { frames := 0, cells := 0, slots := 0, locals := 0 } s m [.int x0].toArray below meth c H locs 0 0 (MQ below (Ti D cs (fun r u => u = (T, O, X) ∧ 0 ≤ r.toInt ∧ r.toInt ≤ 1) A) [.int x0].toArray s 0 0 A) (F0 m 17 ls [.int k17_0]) := by
    intro k17_0 H locs ls l_k17_0 u_k17_0 hH hS hl
    exact te_z hx hb hr hlocks (nar01 (by omega) (by omega)) hH hS (⟨rfl, by omega, by omega⟩) dX12_isSmall_17
  have J16 : ∀  (H : Heap) (locs : List Loc) (ls : Array Slot), HT D cs A T O X H → va_S A s.heap H locs → lv_has ls 1 [] → W p l e { frames := 0, cells := 0, slots := 0, locals := 0 } s m [.int x0].toArray below meth c H locs 0 0 (MQ below (Ti D cs (fun r u => u = (T, O, X) ∧ 0 ≤ r.toInt ∧ r.toInt ≤ 1) A) [.int x0].toArray s 0 0 A) (F0 m 16 ls []) := by
    intro  H locs ls  hH hS hl
    refine lv_iconst (v := 0) hx hb dX12_isSmall_16 (by decide) ?_
    exact J17 0 _ _ _ (by decide) (by decide) hH hS (lv_sub hl [] rfl)
  refine lv_icmp_lt (tgt := 16) hx hb dX12_isSmall_3 (by decide) (fun c3 => ?_) (fun c3 => ?_)
  · skip
    have tc3 := f_lt (k := 97) (by decide) c3
    exact J16  _ _ _  hH hS (lv_sub hl [] rfl)
  · skip
    have tc3 := f_nlt (k := 97) (by decide) c3
    refine lv_iload_n hx hb dX12_isSmall_6 rfl (lv_at hl 0 rfl) ?_
    refine lv_bipush (v := 122) hx hb dX12_isSmall_7 (by decide) ?_
    refine lv_icmp_gt (tgt := 16) hx hb dX12_isSmall_9 (by decide) (fun c9 => ?_) (fun c9 => ?_)
    · skip
      have tc9 := f_gt (k := 122) (by decide) c9
      exact J16  _ _ _  hH hS (lv_sub hl [] rfl)
    · skip
      have tc9 := f_ngt (k := 122) (by decide) c9
      refine lv_iconst (v := 1) hx hb dX12_isSmall_12 (by decide) ?_
      refine lv_goto (tgt := 17) hx hb dX12_isSmall_13 (by decide) ?_
      exact J17 1 _ _ _ (by decide) (by decide) hH hS (lv_sub hl [] rfl)
set_option maxHeartbeats 4000000 in
set_option maxRecDepth 100000 in
theorem s_M_isDigit (l : Launch) (D : va_G) (cs : CS) (kf : KF) (T : TF) (O : List Nat) (X : va_W) (x0 : Int32)  (hO : okO T O []) : TK l D cs kf yX12_isDigit cX12_isDigit 1 (some (.boolean)) { frames := 0, cells := 0, slots := 0, locals := 0 } [.int x0] T O X (Ti D cs (fun r u => u = (T, O, X) ∧ 0 ≤ r.toInt ∧ r.toInt ≤ 1)) := by
  refine tk_of (by decide) (Nat.le_of_ble_eq_true rfl) (fun p e s m below meth c ls A H locs hx hb hr hml hown hts hlocks hnm hkb hH hS hA hOX hks hE hl => ?_)
  have hown : s.vm.findClass RX12 = some m.cls := hown
  have hl : lv_has ls 1 [(0, .int x0)] := hl
  refine lv_iload_n hx hb dX12_isDigit_0 rfl (lv_at hl 0 rfl) ?_
  refine lv_bipush (v := 48) hx hb dX12_isDigit_1 (by decide) ?_
  have J17 : ∀ (k17_0 : Int32) (H : Heap) (locs : List Loc) (ls : Array Slot), (0 ≤ k17_0.toInt) → (k17_0.toInt ≤ 1) → HT D cs A T O X H → va_S A s.heap H locs → lv_has ls 1 [] → W p l e { frames := 0, cells := 0, slots := 0, locals := 0 } s m [.int x0].toArray below meth c H locs 0 0 (MQ below (Ti D cs (fun r u => u = (T, O, X) ∧ 0 ≤ r.toInt ∧ r.toInt ≤ 1) A) [.int x0].toArray s 0 0 A) (F0 m 17 ls [.int k17_0]) := by
    intro k17_0 H locs ls l_k17_0 u_k17_0 hH hS hl
    exact te_z hx hb hr hlocks (nar01 (by omega) (by omega)) hH hS (⟨rfl, by omega, by omega⟩) dX12_isDigit_17
  have J16 : ∀  (H : Heap) (locs : List Loc) (ls : Array Slot), HT D cs A T O X H → va_S A s.heap H locs → lv_has ls 1 [] → W p l e { frames := 0, cells := 0, slots := 0, locals := 0 } s m [.int x0].toArray below meth c H locs 0 0 (MQ below (Ti D cs (fun r u => u = (T, O, X) ∧ 0 ≤ r.toInt ∧ r.toInt ≤ 1) A) [.int x0].toArray s 0 0 A) (F0 m 16 ls []) := by
    intro  H locs ls  hH hS hl
    refine lv_iconst (v := 0) hx hb dX12_isDigit_16 (by decide) ?_
    exact J17 0 _ _ _ (by decide) (by decide) hH hS (lv_sub hl [] rfl)
  refine lv_icmp_lt (tgt := 16) hx hb dX12_isDigit_3 (by decide) (fun c3 => ?_) (fun c3 => ?_)
  · skip
    have tc3 := f_lt (k := 48) (by decide) c3
    exact J16  _ _ _  hH hS (lv_sub hl [] rfl)
  · skip
    have tc3 := f_nlt (k := 48) (by decide) c3
    refine lv_iload_n hx hb dX12_isDigit_6 rfl (lv_at hl 0 rfl) ?_
    refine lv_bipush (v := 57) hx hb dX12_isDigit_7 (by decide) ?_
    refine lv_icmp_gt (tgt := 16) hx hb dX12_isDigit_9 (by decide) (fun c9 => ?_) (fun c9 => ?_)
    · skip
      have tc9 := f_gt (k := 57) (by decide) c9
      exact J16  _ _ _  hH hS (lv_sub hl [] rfl)
    · skip
      have tc9 := f_ngt (k := 57) (by decide) c9
      refine lv_iconst (v := 1) hx hb dX12_isDigit_12 (by decide) ?_
      refine lv_goto (tgt := 17) hx hb dX12_isDigit_13 (by decide) ?_
      exact J17 1 _ _ _ (by decide) (by decide) hH hS (lv_sub hl [] rfl)
set_option maxHeartbeats 4000000 in
set_option maxRecDepth 100000 in
theorem s_M_between (l : Launch) (D : va_G) (cs : CS) (kf : KF) (T : TF) (O : List Nat) (X : va_W) (x0 : Int32) (x1 : Int32) (x2 : Int32)  (hO : okO T O []) : TK l D cs kf yX12_between cX12_between 5 (some (.int)) { frames := 0, cells := 0, slots := 0, locals := 0 } [.int x0, .int x1, .int x2] T O X (Ti D cs (fun r u => u = (T, O, X))) := by
  refine tk_of (by decide) (Nat.le_of_ble_eq_true rfl) (fun p e s m below meth c ls A H locs hx hb hr hml hown hts hlocks hnm hkb hH hS hA hOX hks hE hl => ?_)
  have hown : s.vm.findClass RX12 = some m.cls := hown
  have hl : lv_has ls 5 [(0, .int x0), (1, .int x1), (2, .int x2)] := hl
  refine lv_iload_n hx hb dX12_between_0 rfl (lv_at hl 0 rfl) ?_
  refine lv_sipush (v := 3002) hx hb dX12_between_1 (by decide) ?_
  refine lv_icmp_gt (tgt := 74) hx hb dX12_between_4 (by decide) (fun c4 => ?_) (fun c4 => ?_)
  · skip
    have tc4 := f_gt (k := 3002) (by decide) c4
    refine lv_iload_n hx hb dX12_between_74 rfl (lv_at hl 0 rfl) ?_
    refine lv_sipush (v := 3003) hx hb dX12_between_75 (by decide) ?_
    have J167 : ∀ (k167_0 : Int32) (H : Heap) (locs : List Loc) (ls : Array Slot), (0 ≤ k167_0.toInt) → (k167_0.toInt ≤ 1) → HT D cs A T O X H → va_S A s.heap H locs → lv_has ls 5 [] → W p l e { frames := 0, cells := 0, slots := 0, locals := 0 } s m [.int x0, .int x1, .int x2].toArray below meth c H locs 0 0 (MQ below (Ti D cs (fun r u => u = (T, O, X)) A) [.int x0, .int x1, .int x2].toArray s 0 0 A) (F0 m 167 ls [.int k167_0]) := by
      intro k167_0 H locs ls l_k167_0 u_k167_0 hH hS hl
      refine lv_istore_n (lv' := [(3, .int k167_0)]) hx hb dX12_between_167 rfl hl (by decide) rfl (fun ls hl => ?_)
      refine lv_iload_n hx hb dX12_between_168 rfl (lv_at hl 0 rfl) ?_
      have J177 : ∀ (k177_0 : Int32) (H : Heap) (locs : List Loc) (ls : Array Slot), (0 ≤ k177_0.toInt) → (k177_0.toInt ≤ 1) → HT D cs A T O X H → va_S A s.heap H locs → lv_has ls 5 [] → W p l e { frames := 0, cells := 0, slots := 0, locals := 0 } s m [.int x0, .int x1, .int x2].toArray below meth c H locs 0 0 (MQ below (Ti D cs (fun r u => u = (T, O, X)) A) [.int x0, .int x1, .int x2].toArray s 0 0 A) (F0 m 177 ls [.int k177_0]) := by
        intro k177_0 H locs ls l_k177_0 u_k177_0 hH hS hl
        exact te_i hx hb hr hlocks hH hS (rfl) dX12_between_177
      refine lv_if_eq (tgt := 176) hx hb dX12_between_169 (by decide) (fun c169 => ?_) (fun c169 => ?_)
      · skip
        have tc169 := f_eq (k := 0) (by decide) c169
        refine lv_iconst (v := 0) hx hb dX12_between_176 (by decide) ?_
        exact J177 0 _ _ _ (by decide) (by decide) hH hS (lv_sub hl [] rfl)
      · skip
        have tc169 := f_ne (k := 0) (by decide) c169
        refine lv_iconst (v := 1) hx hb dX12_between_172 (by decide) ?_
        refine lv_goto (tgt := 177) hx hb dX12_between_173 (by decide) ?_
        exact J177 1 _ _ _ (by decide) (by decide) hH hS (lv_sub hl [] rfl)
    refine lv_icmp_ne (tgt := 94) hx hb dX12_between_78 (by decide) (fun c78 => ?_) (fun c78 => ?_)
    · skip
      have tc78 := f_ne (k := 3003) (by decide) c78
      refine lv_iload_n hx hb dX12_between_94 rfl (lv_at hl 0 rfl) ?_
      refine lv_sipush (v := 3004) hx hb dX12_between_95 (by decide) ?_
      refine lv_icmp_ne (tgt := 114) hx hb dX12_between_98 (by decide) (fun c98 => ?_) (fun c98 => ?_)
      · skip
        have tc98 := f_ne (k := 3004) (by decide) c98
        refine lv_iload_n hx hb dX12_between_114 rfl (lv_at hl 0 rfl) ?_
        refine lv_sipush (v := 3005) hx hb dX12_between_115 (by decide) ?_
        refine lv_icmp_ne (tgt := 134) hx hb dX12_between_118 (by decide) (fun c118 => ?_) (fun c118 => ?_)
        · skip
          have tc118 := f_ne (k := 3005) (by decide) c118
          refine lv_iload_n hx hb dX12_between_134 rfl (lv_at hl 0 rfl) ?_
          refine lv_sipush (v := 3006) hx hb dX12_between_135 (by decide) ?_
          refine lv_icmp_ne (tgt := 156) hx hb dX12_between_138 (by decide) (fun c138 => ?_) (fun c138 => ?_)
          · skip
            have tc138 := f_ne (k := 3006) (by decide) c138
            refine lv_iload_n hx hb dX12_between_156 rfl (lv_at hl 1 rfl) ?_
            refine lv_iload_n hx hb dX12_between_157 rfl (lv_at hl 2 rfl) ?_
            refine lv_iadd hx hb dX12_between_158 ?_
            refine lv_topi (fun v158 ev158 => ?_)
            refine lv_if_le (tgt := 166) hx hb dX12_between_159 (by decide) (fun c159 => ?_) (fun c159 => ?_)
            · skip
              have tc159 := f_le (k := 0) (by decide) c159
              refine lv_iconst (v := 0) hx hb dX12_between_166 (by decide) ?_
              exact J167 0 _ _ _ (by decide) (by decide) hH hS (lv_sub hl [] rfl)
            · skip
              have tc159 := f_nle (k := 0) (by decide) c159
              refine lv_iconst (v := 1) hx hb dX12_between_162 (by decide) ?_
              refine lv_goto (tgt := 167) hx hb dX12_between_163 (by decide) ?_
              exact J167 1 _ _ _ (by decide) (by decide) hH hS (lv_sub hl [] rfl)
          · skip
            have tc138 := f_eq (k := 3006) (by decide) c138
            refine lv_iload_n hx hb dX12_between_141 rfl (lv_at hl 1 rfl) ?_
            refine lv_iload_n hx hb dX12_between_142 rfl (lv_at hl 2 rfl) ?_
            refine lv_iadd hx hb dX12_between_143 ?_
            refine lv_topi (fun v143 ev143 => ?_)
            refine lv_iconst (v := 2) hx hb dX12_between_144 (by decide) ?_
            refine lv_icmp_ne (tgt := 152) hx hb dX12_between_145 (by decide) (fun c145 => ?_) (fun c145 => ?_)
            · skip
              have tc145 := f_ne (k := 2) (by decide) c145
              refine lv_iconst (v := 0) hx hb dX12_between_152 (by decide) ?_
              refine lv_goto (tgt := 167) hx hb dX12_between_153 (by decide) ?_
              exact J167 0 _ _ _ (by decide) (by decide) hH hS (lv_sub hl [] rfl)
            · skip
              have tc145 := f_eq (k := 2) (by decide) c145
              refine lv_iconst (v := 1) hx hb dX12_between_148 (by decide) ?_
              refine lv_goto (tgt := 167) hx hb dX12_between_149 (by decide) ?_
              exact J167 1 _ _ _ (by decide) (by decide) hH hS (lv_sub hl [] rfl)
        · skip
          have tc118 := f_eq (k := 3005) (by decide) c118
          refine lv_iload_n hx hb dX12_between_121 rfl (lv_at hl 1 rfl) ?_
          refine lv_iload_n hx hb dX12_between_122 rfl (lv_at hl 2 rfl) ?_
          refine lv_icmp_le (tgt := 130) hx hb dX12_between_123 (by decide) (fun c123 => ?_) (fun c123 => ?_)
          · skip
            have fuc123 := full_i x1
            have fvc123 := full_i x2
            have tc123 := g_le c123
            refine lv_iconst (v := 0) hx hb dX12_between_130 (by decide) ?_
            refine lv_goto (tgt := 167) hx hb dX12_between_131 (by decide) ?_
            exact J167 0 _ _ _ (by decide) (by decide) hH hS (lv_sub hl [] rfl)
          · skip
            have fuc123 := full_i x1
            have fvc123 := full_i x2
            have tc123 := g_nle c123
            refine lv_iconst (v := 1) hx hb dX12_between_126 (by decide) ?_
            refine lv_goto (tgt := 167) hx hb dX12_between_127 (by decide) ?_
            exact J167 1 _ _ _ (by decide) (by decide) hH hS (lv_sub hl [] rfl)
      · skip
        have tc98 := f_eq (k := 3004) (by decide) c98
        refine lv_iload_n hx hb dX12_between_101 rfl (lv_at hl 1 rfl) ?_
        refine lv_iload_n hx hb dX12_between_102 rfl (lv_at hl 2 rfl) ?_
        refine lv_icmp_ge (tgt := 110) hx hb dX12_between_103 (by decide) (fun c103 => ?_) (fun c103 => ?_)
        · skip
          have fuc103 := full_i x1
          have fvc103 := full_i x2
          have tc103 := g_le c103
          refine lv_iconst (v := 0) hx hb dX12_between_110 (by decide) ?_
          refine lv_goto (tgt := 167) hx hb dX12_between_111 (by decide) ?_
          exact J167 0 _ _ _ (by decide) (by decide) hH hS (lv_sub hl [] rfl)
        · skip
          have fuc103 := full_i x1
          have fvc103 := full_i x2
          have tc103 := g_nle c103
          refine lv_iconst (v := 1) hx hb dX12_between_106 (by decide) ?_
          refine lv_goto (tgt := 167) hx hb dX12_between_107 (by decide) ?_
          exact J167 1 _ _ _ (by decide) (by decide) hH hS (lv_sub hl [] rfl)
    · skip
      have tc78 := f_eq (k := 3003) (by decide) c78
      refine lv_iload_n hx hb dX12_between_81 rfl (lv_at hl 1 rfl) ?_
      refine lv_iload_n hx hb dX12_between_82 rfl (lv_at hl 2 rfl) ?_
      refine lv_icmp_ne (tgt := 90) hx hb dX12_between_83 (by decide) (fun c83 => ?_) (fun c83 => ?_)
      · skip
        have fuc83 := full_i x1
        have fvc83 := full_i x2
        have tc83 := g_ne c83
        refine lv_iconst (v := 0) hx hb dX12_between_90 (by decide) ?_
        refine lv_goto (tgt := 167) hx hb dX12_between_91 (by decide) ?_
        exact J167 0 _ _ _ (by decide) (by decide) hH hS (lv_sub hl [] rfl)
      · skip
        have fuc83 := full_i x1
        have fvc83 := full_i x2
        have tc83 := g_eq c83
        refine lv_iconst (v := 1) hx hb dX12_between_86 (by decide) ?_
        refine lv_goto (tgt := 167) hx hb dX12_between_87 (by decide) ?_
        exact J167 1 _ _ _ (by decide) (by decide) hH hS (lv_sub hl [] rfl)
  · skip
    have tc4 := f_ngt (k := 3002) (by decide) c4
    refine lv_iload_n hx hb dX12_between_7 rfl (lv_at hl 0 rfl) ?_
    refine lv_sipush (v := 3000) hx hb dX12_between_8 (by decide) ?_
    have J42 : ∀ (k42_0 : Int64) (H : Heap) (locs : List Loc) (ls : Array Slot), HT D cs A T O X H → va_S A s.heap H locs → lv_has ls 5 [] → W p l e { frames := 0, cells := 0, slots := 0, locals := 0 } s m [.int x0, .int x1, .int x2].toArray below meth c H locs 0 0 (MQ below (Ti D cs (fun r u => u = (T, O, X)) A) [.int x0, .int x1, .int x2].toArray s 0 0 A) (F0 m 42 ls [.long k42_0]) := by
      intro k42_0 H locs ls  hH hS hl
      refine lv_lstore_n (lv' := [(3, .long k42_0)]) hx hb dX12_between_42 rfl hl (by decide) rfl (fun ls hl => ?_)
      refine lv_lload_n hx hb dX12_between_43 rfl (lv_at hl 0 rfl) ?_
      refine lv_ldc2 hx hb hown (hts _ kw_1496) dX12_between_44 ?_
      refine W.lcmp hx hb dX12_between_47 ?_
      have J72 : ∀ (k72_0 : Int64) (H : Heap) (locs : List Loc) (ls : Array Slot), HT D cs A T O X H → va_S A s.heap H locs → lv_has ls 5 [] → W p l e { frames := 0, cells := 0, slots := 0, locals := 0 } s m [.int x0, .int x1, .int x2].toArray below meth c H locs 0 0 (MQ below (Ti D cs (fun r u => u = (T, O, X)) A) [.int x0, .int x1, .int x2].toArray s 0 0 A) (F0 m 72 ls [.long k72_0]) := by
        intro k72_0 H locs ls  hH hS hl
        refine lv_l2i hx hb dX12_between_72 rfl ?_
        refine lv_topi (fun v72 ev72 => ?_)
        exact te_i hx hb hr hlocks hH hS (rfl) dX12_between_73
      refine lv_if_le (tgt := 57) hx hb dX12_between_48 (by decide) (fun c48 => ?_) (fun c48 => ?_)
      · skip
        have tc48 := le_l c48
        have kc48_1000000 : (1000000 : Int64).toInt = 1000000 := by decide
        refine lv_lload_n hx hb dX12_between_57 rfl (lv_at hl 0 rfl) ?_
        refine lv_ldc2 hx hb hown (hts _ kw_1497) dX12_between_58 ?_
        refine W.lcmp hx hb dX12_between_61 ?_
        refine lv_if_ge (tgt := 71) hx hb dX12_between_62 (by decide) (fun c62 => ?_) (fun c62 => ?_)
        · skip
          have tc62 := ge_l c62
          have kc62_m1000000 : ((-1000000) : Int64).toInt = -1000000 := by decide
          refine lv_lload_n hx hb dX12_between_71 rfl (lv_at hl 0 rfl) ?_
          exact J72 k42_0 _ _ _  hH hS (lv_sub hl [] rfl)
        · skip
          have tc62 := nge_l c62
          have kc62_m1000000 : ((-1000000) : Int64).toInt = -1000000 := by decide
          refine lv_ldc2 hx hb hown (hts _ kw_1497) dX12_between_65 ?_
          refine lv_goto (tgt := 72) hx hb dX12_between_68 (by decide) ?_
          exact J72 (-1000000) _ _ _  hH hS (lv_sub hl [] rfl)
      · skip
        have tc48 := nle_l c48
        have kc48_1000000 : (1000000 : Int64).toInt = 1000000 := by decide
        refine lv_ldc2 hx hb hown (hts _ kw_1496) dX12_between_51 ?_
        refine lv_goto (tgt := 72) hx hb dX12_between_54 (by decide) ?_
        exact J72 1000000 _ _ _  hH hS (lv_sub hl [] rfl)
    refine lv_icmp_ne (tgt := 22) hx hb dX12_between_11 (by decide) (fun c11 => ?_) (fun c11 => ?_)
    · skip
      have tc11 := f_ne (k := 3000) (by decide) c11
      refine lv_iload_n hx hb dX12_between_22 rfl (lv_at hl 0 rfl) ?_
      refine lv_sipush (v := 3001) hx hb dX12_between_23 (by decide) ?_
      refine lv_icmp_ne (tgt := 37) hx hb dX12_between_26 (by decide) (fun c26 => ?_) (fun c26 => ?_)
      · skip
        have tc26 := f_ne (k := 3001) (by decide) c26
        refine lv_iload_n hx hb dX12_between_37 rfl (lv_at hl 1 rfl) ?_
        refine lv_i2l hx hb dX12_between_38 rfl ?_
        refine lv_iload_n hx hb dX12_between_39 rfl (lv_at hl 2 rfl) ?_
        refine lv_i2l hx hb dX12_between_40 rfl ?_
        refine lv_lmul hx hb dX12_between_41 ?_
        refine lv_topl (fun v41 ev41 => ?_)
        exact J42 v41 _ _ _  hH hS (lv_sub hl [] rfl)
      · skip
        have tc26 := f_eq (k := 3001) (by decide) c26
        refine lv_iload_n hx hb dX12_between_29 rfl (lv_at hl 1 rfl) ?_
        refine lv_i2l hx hb dX12_between_30 rfl ?_
        refine lv_iload_n hx hb dX12_between_31 rfl (lv_at hl 2 rfl) ?_
        refine lv_i2l hx hb dX12_between_32 rfl ?_
        refine lv_lsub hx hb dX12_between_33 ?_
        refine lv_topl (fun v33 ev33 => ?_)
        refine lv_goto (tgt := 42) hx hb dX12_between_34 (by decide) ?_
        exact J42 v33 _ _ _  hH hS (lv_sub hl [] rfl)
    · skip
      have tc11 := f_eq (k := 3000) (by decide) c11
      refine lv_iload_n hx hb dX12_between_14 rfl (lv_at hl 1 rfl) ?_
      refine lv_i2l hx hb dX12_between_15 rfl ?_
      refine lv_iload_n hx hb dX12_between_16 rfl (lv_at hl 2 rfl) ?_
      refine lv_i2l hx hb dX12_between_17 rfl ?_
      refine lv_ladd hx hb dX12_between_18 ?_
      refine lv_topl (fun v18 ev18 => ?_)
      refine lv_goto (tgt := 42) hx hb dX12_between_19 (by decide) ?_
      exact J42 v18 _ _ _  hH hS (lv_sub hl [] rfl)
set_option maxHeartbeats 4000000 in
set_option maxRecDepth 100000 in
theorem s_M_cut (l : Launch) (D : va_G) (cs : CS) (kf : KF) (T : TF) (O : List Nat) (X : va_W) (x0 : Int64) (x1 : Int32)  (hO : okO T O []) : TK l D cs kf yX12_cut cX12_cut 3 (some (.long)) { frames := 0, cells := 0, slots := 0, locals := 0 } [.long x0, .int x1] T O X (Tl D cs (fun _ u => u = (T, O, X))) := by
  refine tk_of (by decide) (Nat.le_of_ble_eq_true rfl) (fun p e s m below meth c ls A H locs hx hb hr hml hown hts hlocks hnm hkb hH hS hA hOX hks hE hl => ?_)
  have hown : s.vm.findClass RX12 = some m.cls := hown
  have hl : lv_has ls 3 [(0, .long x0), (2, .int x1)] := hl
  refine lv_iload_n hx hb dX12_cut_0 rfl (lv_at hl 1 rfl) ?_
  have J35 : ∀ (k35_0 : Int64) (H : Heap) (locs : List Loc) (ls : Array Slot), HT D cs A T O X H → va_S A s.heap H locs → lv_has ls 3 [] → W p l e { frames := 0, cells := 0, slots := 0, locals := 0 } s m [.long x0, .int x1].toArray below meth c H locs 0 0 (MQ below (Tl D cs (fun _ u => u = (T, O, X)) A) [.long x0, .int x1].toArray s 0 0 A) (F0 m 35 ls [.long k35_0]) := by
    intro k35_0 H locs ls  hH hS hl
    exact te_l hx hb hr hlocks hH hS rfl dX12_cut_35
  refine lv_if_ne (tgt := 11) hx hb dX12_cut_1 (by decide) (fun c1 => ?_) (fun c1 => ?_)
  · skip
    have tc1 := f_ne (k := 0) (by decide) c1
    refine lv_iload_n hx hb dX12_cut_11 rfl (lv_at hl 1 rfl) ?_
    refine lv_iconst (v := 1) hx hb dX12_cut_12 (by decide) ?_
    refine lv_icmp_ne (tgt := 23) hx hb dX12_cut_13 (by decide) (fun c13 => ?_) (fun c13 => ?_)
    · skip
      have tc13 := f_ne (k := 1) (by decide) c13
      refine lv_iload_n hx hb dX12_cut_23 rfl (lv_at hl 1 rfl) ?_
      refine lv_iconst (v := 2) hx hb dX12_cut_24 (by decide) ?_
      refine lv_icmp_ne (tgt := 34) hx hb dX12_cut_25 (by decide) (fun c25 => ?_) (fun c25 => ?_)
      · skip
        have tc25 := f_ne (k := 2) (by decide) c25
        refine lv_lload_n hx hb dX12_cut_34 rfl (lv_at hl 0 rfl) ?_
        exact J35 x0 _ _ _  hH hS (lv_sub hl [] rfl)
      · skip
        have tc25 := f_eq (k := 2) (by decide) c25
        refine lv_lload_n hx hb dX12_cut_28 rfl (lv_at hl 0 rfl) ?_
        refine lv_l2i hx hb dX12_cut_29 rfl ?_
        refine lv_topi (fun v29 ev29 => ?_)
        refine lv_i2l hx hb dX12_cut_30 rfl ?_
        refine lv_goto (tgt := 35) hx hb dX12_cut_31 (by decide) ?_
        exact J35 v29.toInt64 _ _ _  hH hS (lv_sub hl [] rfl)
    · skip
      have tc13 := f_eq (k := 1) (by decide) c13
      refine lv_lload_n hx hb dX12_cut_16 rfl (lv_at hl 0 rfl) ?_
      refine lv_l2i hx hb dX12_cut_17 rfl ?_
      refine lv_topi (fun v17 ev17 => ?_)
      refine lv_i2s hx hb dX12_cut_18 rfl ?_
      refine lv_topi (fun v18 ev18 => ?_)
      refine lv_i2l hx hb dX12_cut_19 rfl ?_
      refine lv_goto (tgt := 35) hx hb dX12_cut_20 (by decide) ?_
      exact J35 v18.toInt64 _ _ _  hH hS (lv_sub hl [] rfl)
  · skip
    have tc1 := f_eq (k := 0) (by decide) c1
    refine lv_lload_n hx hb dX12_cut_4 rfl (lv_at hl 0 rfl) ?_
    refine lv_l2i hx hb dX12_cut_5 rfl ?_
    refine lv_topi (fun v5 ev5 => ?_)
    refine lv_i2b hx hb dX12_cut_6 rfl ?_
    refine lv_topi (fun v6 ev6 => ?_)
    refine lv_i2l hx hb dX12_cut_7 rfl ?_
    refine lv_goto (tgt := 35) hx hb dX12_cut_8 (by decide) ?_
    exact J35 v6.toInt64 _ _ _  hH hS (lv_sub hl [] rfl)
set_option maxHeartbeats 4000000 in
set_option maxRecDepth 100000 in
theorem s_M_bitsOf (l : Launch) (D : va_G) (cs : CS) (kf : KF) (T : TF) (O : List Nat) (X : va_W) (x0 : Int32)  (hO : okO T O []) : TK l D cs kf yX12_bitsOf cX12_bitsOf 3 (some (.int)) { frames := 0, cells := 0, slots := 0, locals := 0 } [.int x0] T O X (Ti D cs (fun r u => u = (T, O, X))) := by
  refine tk_of (by decide) (Nat.le_of_ble_eq_true rfl) (fun p e s m below meth c ls A H locs hx hb hr hml hown hts hlocks hnm hkb hH hS hA hOX hks hE hl => ?_)
  have hown : s.vm.findClass RX12 = some m.cls := hown
  have hl : lv_has ls 3 [(0, .int x0)] := hl
  refine lv_iconst (v := 0) hx hb dX12_bitsOf_0 (by decide) ?_
  refine lv_istore_n (lv' := [(1, .int 0), (0, .int x0)]) hx hb dX12_bitsOf_1 rfl hl (by decide) rfl (fun ls hl => ?_)
  refine lv_iconst (v := 0) hx hb dX12_bitsOf_2 (by decide) ?_
  have J4 : ∀ (n : Nat) (p4_2 : Int32) (p4_1 : Int32) (H : Heap) (locs : List Loc) (ls : Array Slot), (14 - p4_2.toInt).toNat = n → (0 ≤ p4_2.toInt) → (p4_2.toInt ≤ 14) → HT D cs A T O X H → va_S A s.heap H locs → lv_has ls 3 [(2, .int p4_2), (1, .int p4_1), (0, .int x0)] → W p l e { frames := 0, cells := 0, slots := 0, locals := 0 } s m [.int x0].toArray below meth c H locs 0 0 (MQ below (Ti D cs (fun r u => u = (T, O, X)) A) [.int x0].toArray s 0 0 A) (F0 m 4 ls []) := by
    intro n
    induction n using Nat.strongRecOn with
    | _ n ih4 =>
      intro p4_2 p4_1 H locs ls hm4 l_p4_2 u_p4_2 hH hS hl
      refine lv_iload_n hx hb dX12_bitsOf_4 rfl (lv_at hl 0 rfl) ?_
      refine lv_bipush (v := 14) hx hb dX12_bitsOf_5 (by decide) ?_
      refine lv_icmp_ge (tgt := 24) hx hb dX12_bitsOf_7 (by decide) (fun c7 => ?_) (fun c7 => ?_)
      · skip
        have tc7 := f_ge (k := 14) (by decide) c7
        refine lv_iload_n hx hb dX12_bitsOf_24 rfl (lv_at hl 1 rfl) ?_
        exact te_i hx hb hr hlocks hH hS (rfl) dX12_bitsOf_25
      · skip
        have tc7 := f_nge (k := 14) (by decide) c7
        refine lv_iload_n hx hb dX12_bitsOf_10 rfl (lv_at hl 1 rfl) ?_
        refine lv_iload_n hx hb dX12_bitsOf_11 rfl (lv_at hl 2 rfl) ?_
        refine lv_iload_n hx hb dX12_bitsOf_12 rfl (lv_at hl 0 rfl) ?_
        refine lv_ishr hx hb dX12_bitsOf_13 ?_
        refine lv_topi (fun v13 ev13 => ?_)
        refine lv_iconst (v := 1) hx hb dX12_bitsOf_14 (by decide) ?_
        refine lv_iand hx hb dX12_bitsOf_15 ?_
        refine lv_topi (fun v15 ev15 => ?_)
        have tv15 : 0 ≤ v15.toInt ∧ v15.toInt ≤ 1 := by rw [ev15]; exact and_r (by decide)
        refine lv_iadd hx hb dX12_bitsOf_16 ?_
        refine lv_topi (fun v16 ev16 => ?_)
        refine lv_istore_n (lv' := [(1, .int v16), (2, .int p4_2), (0, .int x0)]) hx hb dX12_bitsOf_17 rfl hl (by decide) rfl (fun ls hl => ?_)
        obtain ⟨v18, ev18⟩ : ∃ y : Int32, y = p4_2 + 1 := ⟨_, rfl⟩
        have tv18 : v18.toInt = p4_2.toInt + (1) := by rw [ev18]; exact add_i rfl (by decide) (by omega) (by omega)
        refine lv_iinc (v := v18) (lv' := [(2, .int v18), (1, .int v16), (0, .int x0)]) hx hb dX12_bitsOf_18 hl (k := 1) rfl (by rw [ev18]; rfl) (by decide) rfl (fun ls hl => ?_)
        refine lv_goto (tgt := 4) hx hb dX12_bitsOf_21 (by decide) ?_
        exact ih4 _ (by omega) v18 v16 _ _ _ rfl (by omega) (by omega) hH hS (lv_sub hl [0, 1, 2] rfl)
  refine lv_istore_n (lv' := [(2, .int 0), (1, .int 0), (0, .int x0)]) hx hb dX12_bitsOf_3 rfl hl (by decide) rfl (fun ls hl => ?_)
  exact J4 _ 0 0 _ _ _ rfl (by decide) (by decide) hH hS (lv_sub hl [0, 1, 2] rfl)
