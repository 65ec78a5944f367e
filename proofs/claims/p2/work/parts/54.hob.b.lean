set_option maxHeartbeats 4000000 in
set_option maxRecDepth 100000 in
theorem s_nlz_0 (l : Launch) (D : va_G) (cs : CS) (kf : KF) (T : TF) (O : List Nat) (X : va_W) (x0 : Int32) (l_x0 : 1 ≤ x0.toInt) (u_x0 : x0.toInt ≤ 1) (hO : okO T O []) : TK l D cs kf yJ6_numberOfLeadingZeros_0f7a4 cJ6_numberOfLeadingZeros_0f7a4 2 (some (.int)) { frames := 0, cells := 0, slots := 0, locals := 0 } [.int x0] T O X (Ti D cs (fun r u => u = (T, O, X) ∧ 31 ≤ r.toInt ∧ r.toInt ≤ 31)) := by
  refine tk_of (by decide) (Nat.le_of_ble_eq_true rfl) (fun p e s m below meth c ls A H locs hx hb hr hml hown hts hlocks hnm hkb hH hS hA hOX hks hE hl => ?_)
  have hown : s.vm.findClass RJ6 = some m.cls := hown
  have hl : lv_has ls 2 [(0, .int x0)] := hl
  refine lv_iload_n hx hb dJ6_numberOfLeadingZeros_0f7a4_0 rfl (lv_at hl 0 rfl) ?_
  refine lv_if_gt (tgt := 15) hx hb dJ6_numberOfLeadingZeros_0f7a4_1 (by decide) (fun c1 => ?_) (fun c1 => ?_)
  · skip
    have tc1 := f_gt (k := 0) (by decide) c1
    refine lv_bipush (v := 31) hx hb dJ6_numberOfLeadingZeros_0f7a4_15 (by decide) ?_
    refine lv_istore_n (lv' := [(1, .int 31), (0, .int x0)]) hx hb dJ6_numberOfLeadingZeros_0f7a4_17 rfl hl (by decide) rfl (fun ls hl => ?_)
    refine lv_iload_n hx hb dJ6_numberOfLeadingZeros_0f7a4_18 rfl (lv_at hl 1 rfl) ?_
    refine lv_ldcw hx hb hown (hts _ kw_861) dJ6_numberOfLeadingZeros_0f7a4_19 ?_
    refine lv_icmp_lt (tgt := 33) hx hb dJ6_numberOfLeadingZeros_0f7a4_22 (by decide) (fun c22 => ?_) (fun c22 => ?_)
    · skip
      have tc22 := f_lt (k := 65536) (by decide) c22
      refine lv_iload_n hx hb dJ6_numberOfLeadingZeros_0f7a4_33 rfl (lv_at hl 1 rfl) ?_
      refine lv_sipush (v := 256) hx hb dJ6_numberOfLeadingZeros_0f7a4_34 (by decide) ?_
      refine lv_icmp_lt (tgt := 48) hx hb dJ6_numberOfLeadingZeros_0f7a4_37 (by decide) (fun c37 => ?_) (fun c37 => ?_)
      · skip
        have tc37 := f_lt (k := 256) (by decide) c37
        refine lv_iload_n hx hb dJ6_numberOfLeadingZeros_0f7a4_48 rfl (lv_at hl 1 rfl) ?_
        refine lv_bipush (v := 16) hx hb dJ6_numberOfLeadingZeros_0f7a4_49 (by decide) ?_
        refine lv_icmp_lt (tgt := 61) hx hb dJ6_numberOfLeadingZeros_0f7a4_51 (by decide) (fun c51 => ?_) (fun c51 => ?_)
        · skip
          have tc51 := f_lt (k := 16) (by decide) c51
          refine lv_iload_n hx hb dJ6_numberOfLeadingZeros_0f7a4_61 rfl (lv_at hl 1 rfl) ?_
          refine lv_iconst (v := 4) hx hb dJ6_numberOfLeadingZeros_0f7a4_62 (by decide) ?_
          refine lv_icmp_lt (tgt := 73) hx hb dJ6_numberOfLeadingZeros_0f7a4_63 (by decide) (fun c63 => ?_) (fun c63 => ?_)
          · skip
            have tc63 := f_lt (k := 4) (by decide) c63
            refine lv_iload_n hx hb dJ6_numberOfLeadingZeros_0f7a4_73 rfl (lv_at hl 0 rfl) ?_
            refine lv_iload_n hx hb dJ6_numberOfLeadingZeros_0f7a4_74 rfl (lv_at hl 1 rfl) ?_
            refine lv_iconst (v := 1) hx hb dJ6_numberOfLeadingZeros_0f7a4_75 (by decide) ?_
            refine lv_iushr hx hb dJ6_numberOfLeadingZeros_0f7a4_76 rfl ?_
            refine lv_topi (fun v76 ev76 => ?_)
            have tv76 : v76.toInt = x0.toInt / 2 := by rw [ev76]; exact ushr_n 1 (by decide +kernel) (by decide) (by omega)
            refine lv_isub hx hb dJ6_numberOfLeadingZeros_0f7a4_77 ?_
            refine lv_topi (fun v77 ev77 => ?_)
            have tv77 : v77.toInt = (31) - v76.toInt := by rw [ev77]; exact sub_i (by decide : (31 : Int32).toInt = 31) rfl (by omega) (by omega)
            exact te_i hx hb hr hlocks hH hS (⟨rfl, by omega, by omega⟩) dJ6_numberOfLeadingZeros_0f7a4_78
          · skip
            have tc63 := f_nlt (k := 4) (by decide) c63
            exfalso; omega
        · skip
          have tc51 := f_nlt (k := 16) (by decide) c51
          exfalso; omega
      · skip
        have tc37 := f_nlt (k := 256) (by decide) c37
        exfalso; omega
    · skip
      have tc22 := f_nlt (k := 65536) (by decide) c22
      exfalso; omega
  · skip
    have tc1 := f_ngt (k := 0) (by decide) c1
    exfalso; omega
set_option maxHeartbeats 4000000 in
set_option maxRecDepth 100000 in
theorem s_nlz_1 (l : Launch) (D : va_G) (cs : CS) (kf : KF) (T : TF) (O : List Nat) (X : va_W) (x0 : Int32) (l_x0 : 2 ≤ x0.toInt) (u_x0 : x0.toInt ≤ 3) (hO : okO T O []) : TK l D cs kf yJ6_numberOfLeadingZeros_0f7a4 cJ6_numberOfLeadingZeros_0f7a4 2 (some (.int)) { frames := 0, cells := 0, slots := 0, locals := 0 } [.int x0] T O X (Ti D cs (fun r u => u = (T, O, X) ∧ 30 ≤ r.toInt ∧ r.toInt ≤ 30)) := by
  refine tk_of (by decide) (Nat.le_of_ble_eq_true rfl) (fun p e s m below meth c ls A H locs hx hb hr hml hown hts hlocks hnm hkb hH hS hA hOX hks hE hl => ?_)
  have hown : s.vm.findClass RJ6 = some m.cls := hown
  have hl : lv_has ls 2 [(0, .int x0)] := hl
  refine lv_iload_n hx hb dJ6_numberOfLeadingZeros_0f7a4_0 rfl (lv_at hl 0 rfl) ?_
  refine lv_if_gt (tgt := 15) hx hb dJ6_numberOfLeadingZeros_0f7a4_1 (by decide) (fun c1 => ?_) (fun c1 => ?_)
  · skip
    have tc1 := f_gt (k := 0) (by decide) c1
    refine lv_bipush (v := 31) hx hb dJ6_numberOfLeadingZeros_0f7a4_15 (by decide) ?_
    refine lv_istore_n (lv' := [(1, .int 31), (0, .int x0)]) hx hb dJ6_numberOfLeadingZeros_0f7a4_17 rfl hl (by decide) rfl (fun ls hl => ?_)
    refine lv_iload_n hx hb dJ6_numberOfLeadingZeros_0f7a4_18 rfl (lv_at hl 1 rfl) ?_
    refine lv_ldcw hx hb hown (hts _ kw_861) dJ6_numberOfLeadingZeros_0f7a4_19 ?_
    refine lv_icmp_lt (tgt := 33) hx hb dJ6_numberOfLeadingZeros_0f7a4_22 (by decide) (fun c22 => ?_) (fun c22 => ?_)
    · skip
      have tc22 := f_lt (k := 65536) (by decide) c22
      refine lv_iload_n hx hb dJ6_numberOfLeadingZeros_0f7a4_33 rfl (lv_at hl 1 rfl) ?_
      refine lv_sipush (v := 256) hx hb dJ6_numberOfLeadingZeros_0f7a4_34 (by decide) ?_
      refine lv_icmp_lt (tgt := 48) hx hb dJ6_numberOfLeadingZeros_0f7a4_37 (by decide) (fun c37 => ?_) (fun c37 => ?_)
      · skip
        have tc37 := f_lt (k := 256) (by decide) c37
        refine lv_iload_n hx hb dJ6_numberOfLeadingZeros_0f7a4_48 rfl (lv_at hl 1 rfl) ?_
        refine lv_bipush (v := 16) hx hb dJ6_numberOfLeadingZeros_0f7a4_49 (by decide) ?_
        refine lv_icmp_lt (tgt := 61) hx hb dJ6_numberOfLeadingZeros_0f7a4_51 (by decide) (fun c51 => ?_) (fun c51 => ?_)
        · skip
          have tc51 := f_lt (k := 16) (by decide) c51
          refine lv_iload_n hx hb dJ6_numberOfLeadingZeros_0f7a4_61 rfl (lv_at hl 1 rfl) ?_
          refine lv_iconst (v := 4) hx hb dJ6_numberOfLeadingZeros_0f7a4_62 (by decide) ?_
          refine lv_icmp_lt (tgt := 73) hx hb dJ6_numberOfLeadingZeros_0f7a4_63 (by decide) (fun c63 => ?_) (fun c63 => ?_)
          · skip
            have tc63 := f_lt (k := 4) (by decide) c63
            refine lv_iload_n hx hb dJ6_numberOfLeadingZeros_0f7a4_73 rfl (lv_at hl 0 rfl) ?_
            refine lv_iload_n hx hb dJ6_numberOfLeadingZeros_0f7a4_74 rfl (lv_at hl 1 rfl) ?_
            refine lv_iconst (v := 1) hx hb dJ6_numberOfLeadingZeros_0f7a4_75 (by decide) ?_
            refine lv_iushr hx hb dJ6_numberOfLeadingZeros_0f7a4_76 rfl ?_
            refine lv_topi (fun v76 ev76 => ?_)
            have tv76 : v76.toInt = x0.toInt / 2 := by rw [ev76]; exact ushr_n 1 (by decide +kernel) (by decide) (by omega)
            refine lv_isub hx hb dJ6_numberOfLeadingZeros_0f7a4_77 ?_
            refine lv_topi (fun v77 ev77 => ?_)
            have tv77 : v77.toInt = (31) - v76.toInt := by rw [ev77]; exact sub_i (by decide : (31 : Int32).toInt = 31) rfl (by omega) (by omega)
            exact te_i hx hb hr hlocks hH hS (⟨rfl, by omega, by omega⟩) dJ6_numberOfLeadingZeros_0f7a4_78
          · skip
            have tc63 := f_nlt (k := 4) (by decide) c63
            exfalso; omega
        · skip
          have tc51 := f_nlt (k := 16) (by decide) c51
          exfalso; omega
      · skip
        have tc37 := f_nlt (k := 256) (by decide) c37
        exfalso; omega
    · skip
      have tc22 := f_nlt (k := 65536) (by decide) c22
      exfalso; omega
  · skip
    have tc1 := f_ngt (k := 0) (by decide) c1
    exfalso; omega
set_option maxHeartbeats 4000000 in
set_option maxRecDepth 100000 in
theorem s_nlz_2 (l : Launch) (D : va_G) (cs : CS) (kf : KF) (T : TF) (O : List Nat) (X : va_W) (x0 : Int32) (l_x0 : 4 ≤ x0.toInt) (u_x0 : x0.toInt ≤ 7) (hO : okO T O []) : TK l D cs kf yJ6_numberOfLeadingZeros_0f7a4 cJ6_numberOfLeadingZeros_0f7a4 2 (some (.int)) { frames := 0, cells := 0, slots := 0, locals := 0 } [.int x0] T O X (Ti D cs (fun r u => u = (T, O, X) ∧ 29 ≤ r.toInt ∧ r.toInt ≤ 29)) := by
  refine tk_of (by decide) (Nat.le_of_ble_eq_true rfl) (fun p e s m below meth c ls A H locs hx hb hr hml hown hts hlocks hnm hkb hH hS hA hOX hks hE hl => ?_)
  have hown : s.vm.findClass RJ6 = some m.cls := hown
  have hl : lv_has ls 2 [(0, .int x0)] := hl
  refine lv_iload_n hx hb dJ6_numberOfLeadingZeros_0f7a4_0 rfl (lv_at hl 0 rfl) ?_
  refine lv_if_gt (tgt := 15) hx hb dJ6_numberOfLeadingZeros_0f7a4_1 (by decide) (fun c1 => ?_) (fun c1 => ?_)
  · skip
    have tc1 := f_gt (k := 0) (by decide) c1
    refine lv_bipush (v := 31) hx hb dJ6_numberOfLeadingZeros_0f7a4_15 (by decide) ?_
    refine lv_istore_n (lv' := [(1, .int 31), (0, .int x0)]) hx hb dJ6_numberOfLeadingZeros_0f7a4_17 rfl hl (by decide) rfl (fun ls hl => ?_)
    refine lv_iload_n hx hb dJ6_numberOfLeadingZeros_0f7a4_18 rfl (lv_at hl 1 rfl) ?_
    refine lv_ldcw hx hb hown (hts _ kw_861) dJ6_numberOfLeadingZeros_0f7a4_19 ?_
    refine lv_icmp_lt (tgt := 33) hx hb dJ6_numberOfLeadingZeros_0f7a4_22 (by decide) (fun c22 => ?_) (fun c22 => ?_)
    · skip
      have tc22 := f_lt (k := 65536) (by decide) c22
      refine lv_iload_n hx hb dJ6_numberOfLeadingZeros_0f7a4_33 rfl (lv_at hl 1 rfl) ?_
      refine lv_sipush (v := 256) hx hb dJ6_numberOfLeadingZeros_0f7a4_34 (by decide) ?_
      refine lv_icmp_lt (tgt := 48) hx hb dJ6_numberOfLeadingZeros_0f7a4_37 (by decide) (fun c37 => ?_) (fun c37 => ?_)
      · skip
        have tc37 := f_lt (k := 256) (by decide) c37
        refine lv_iload_n hx hb dJ6_numberOfLeadingZeros_0f7a4_48 rfl (lv_at hl 1 rfl) ?_
        refine lv_bipush (v := 16) hx hb dJ6_numberOfLeadingZeros_0f7a4_49 (by decide) ?_
        refine lv_icmp_lt (tgt := 61) hx hb dJ6_numberOfLeadingZeros_0f7a4_51 (by decide) (fun c51 => ?_) (fun c51 => ?_)
        · skip
          have tc51 := f_lt (k := 16) (by decide) c51
          refine lv_iload_n hx hb dJ6_numberOfLeadingZeros_0f7a4_61 rfl (lv_at hl 1 rfl) ?_
          refine lv_iconst (v := 4) hx hb dJ6_numberOfLeadingZeros_0f7a4_62 (by decide) ?_
          refine lv_icmp_lt (tgt := 73) hx hb dJ6_numberOfLeadingZeros_0f7a4_63 (by decide) (fun c63 => ?_) (fun c63 => ?_)
          · skip
            have tc63 := f_lt (k := 4) (by decide) c63
            exfalso; omega
          · skip
            have tc63 := f_nlt (k := 4) (by decide) c63
            refine lv_iinc (v := 29) (lv' := [(1, .int 29), (0, .int x0)]) hx hb dJ6_numberOfLeadingZeros_0f7a4_66 hl (k := 0) rfl (by decide) (by decide) rfl (fun ls hl => ?_)
            refine lv_iload_n hx hb dJ6_numberOfLeadingZeros_0f7a4_69 rfl (lv_at hl 1 rfl) ?_
            refine lv_iconst (v := 2) hx hb dJ6_numberOfLeadingZeros_0f7a4_70 (by decide) ?_
            refine lv_iushr hx hb dJ6_numberOfLeadingZeros_0f7a4_71 rfl ?_
            refine lv_topi (fun v71 ev71 => ?_)
            have tv71 : v71.toInt = x0.toInt / 4 := by rw [ev71]; exact ushr_n 2 (by decide +kernel) (by decide) (by omega)
            refine lv_istore_n (lv' := [(0, .int v71), (1, .int 29)]) hx hb dJ6_numberOfLeadingZeros_0f7a4_72 rfl hl (by decide) rfl (fun ls hl => ?_)
            refine lv_iload_n hx hb dJ6_numberOfLeadingZeros_0f7a4_73 rfl (lv_at hl 1 rfl) ?_
            refine lv_iload_n hx hb dJ6_numberOfLeadingZeros_0f7a4_74 rfl (lv_at hl 0 rfl) ?_
            refine lv_iconst (v := 1) hx hb dJ6_numberOfLeadingZeros_0f7a4_75 (by decide) ?_
            refine lv_iushr hx hb dJ6_numberOfLeadingZeros_0f7a4_76 rfl ?_
            refine lv_topi (fun v76 ev76 => ?_)
            have tv76 : v76.toInt = v71.toInt / 2 := by rw [ev76]; exact ushr_n 1 (by decide +kernel) (by decide) (by omega)
            refine lv_isub hx hb dJ6_numberOfLeadingZeros_0f7a4_77 ?_
            refine lv_topi (fun v77 ev77 => ?_)
            have tv77 : v77.toInt = (29) - v76.toInt := by rw [ev77]; exact sub_i (by decide : (29 : Int32).toInt = 29) rfl (by omega) (by omega)
            exact te_i hx hb hr hlocks hH hS (⟨rfl, by omega, by omega⟩) dJ6_numberOfLeadingZeros_0f7a4_78
        · skip
          have tc51 := f_nlt (k := 16) (by decide) c51
          exfalso; omega
      · skip
        have tc37 := f_nlt (k := 256) (by decide) c37
        exfalso; omega
    · skip
      have tc22 := f_nlt (k := 65536) (by decide) c22
      exfalso; omega
  · skip
    have tc1 := f_ngt (k := 0) (by decide) c1
    exfalso; omega
set_option maxHeartbeats 4000000 in
set_option maxRecDepth 100000 in
theorem s_nlz_3 (l : Launch) (D : va_G) (cs : CS) (kf : KF) (T : TF) (O : List Nat) (X : va_W) (x0 : Int32) (l_x0 : 8 ≤ x0.toInt) (u_x0 : x0.toInt ≤ 15) (hO : okO T O []) : TK l D cs kf yJ6_numberOfLeadingZeros_0f7a4 cJ6_numberOfLeadingZeros_0f7a4 2 (some (.int)) { frames := 0, cells := 0, slots := 0, locals := 0 } [.int x0] T O X (Ti D cs (fun r u => u = (T, O, X) ∧ 28 ≤ r.toInt ∧ r.toInt ≤ 28)) := by
  refine tk_of (by decide) (Nat.le_of_ble_eq_true rfl) (fun p e s m below meth c ls A H locs hx hb hr hml hown hts hlocks hnm hkb hH hS hA hOX hks hE hl => ?_)
  have hown : s.vm.findClass RJ6 = some m.cls := hown
  have hl : lv_has ls 2 [(0, .int x0)] := hl
  refine lv_iload_n hx hb dJ6_numberOfLeadingZeros_0f7a4_0 rfl (lv_at hl 0 rfl) ?_
  refine lv_if_gt (tgt := 15) hx hb dJ6_numberOfLeadingZeros_0f7a4_1 (by decide) (fun c1 => ?_) (fun c1 => ?_)
  · skip
    have tc1 := f_gt (k := 0) (by decide) c1
    refine lv_bipush (v := 31) hx hb dJ6_numberOfLeadingZeros_0f7a4_15 (by decide) ?_
    refine lv_istore_n (lv' := [(1, .int 31), (0, .int x0)]) hx hb dJ6_numberOfLeadingZeros_0f7a4_17 rfl hl (by decide) rfl (fun ls hl => ?_)
    refine lv_iload_n hx hb dJ6_numberOfLeadingZeros_0f7a4_18 rfl (lv_at hl 1 rfl) ?_
    refine lv_ldcw hx hb hown (hts _ kw_861) dJ6_numberOfLeadingZeros_0f7a4_19 ?_
    refine lv_icmp_lt (tgt := 33) hx hb dJ6_numberOfLeadingZeros_0f7a4_22 (by decide) (fun c22 => ?_) (fun c22 => ?_)
    · skip
      have tc22 := f_lt (k := 65536) (by decide) c22
      refine lv_iload_n hx hb dJ6_numberOfLeadingZeros_0f7a4_33 rfl (lv_at hl 1 rfl) ?_
      refine lv_sipush (v := 256) hx hb dJ6_numberOfLeadingZeros_0f7a4_34 (by decide) ?_
      refine lv_icmp_lt (tgt := 48) hx hb dJ6_numberOfLeadingZeros_0f7a4_37 (by decide) (fun c37 => ?_) (fun c37 => ?_)
      · skip
        have tc37 := f_lt (k := 256) (by decide) c37
        refine lv_iload_n hx hb dJ6_numberOfLeadingZeros_0f7a4_48 rfl (lv_at hl 1 rfl) ?_
        refine lv_bipush (v := 16) hx hb dJ6_numberOfLeadingZeros_0f7a4_49 (by decide) ?_
        refine lv_icmp_lt (tgt := 61) hx hb dJ6_numberOfLeadingZeros_0f7a4_51 (by decide) (fun c51 => ?_) (fun c51 => ?_)
        · skip
          have tc51 := f_lt (k := 16) (by decide) c51
          refine lv_iload_n hx hb dJ6_numberOfLeadingZeros_0f7a4_61 rfl (lv_at hl 1 rfl) ?_
          refine lv_iconst (v := 4) hx hb dJ6_numberOfLeadingZeros_0f7a4_62 (by decide) ?_
          refine lv_icmp_lt (tgt := 73) hx hb dJ6_numberOfLeadingZeros_0f7a4_63 (by decide) (fun c63 => ?_) (fun c63 => ?_)
          · skip
            have tc63 := f_lt (k := 4) (by decide) c63
            exfalso; omega
          · skip
            have tc63 := f_nlt (k := 4) (by decide) c63
            refine lv_iinc (v := 29) (lv' := [(1, .int 29), (0, .int x0)]) hx hb dJ6_numberOfLeadingZeros_0f7a4_66 hl (k := 0) rfl (by decide) (by decide) rfl (fun ls hl => ?_)
            refine lv_iload_n hx hb dJ6_numberOfLeadingZeros_0f7a4_69 rfl (lv_at hl 1 rfl) ?_
            refine lv_iconst (v := 2) hx hb dJ6_numberOfLeadingZeros_0f7a4_70 (by decide) ?_
            refine lv_iushr hx hb dJ6_numberOfLeadingZeros_0f7a4_71 rfl ?_
            refine lv_topi (fun v71 ev71 => ?_)
            have tv71 : v71.toInt = x0.toInt / 4 := by rw [ev71]; exact ushr_n 2 (by decide +kernel) (by decide) (by omega)
            refine lv_istore_n (lv' := [(0, .int v71), (1, .int 29)]) hx hb dJ6_numberOfLeadingZeros_0f7a4_72 rfl hl (by decide) rfl (fun ls hl => ?_)
            refine lv_iload_n hx hb dJ6_numberOfLeadingZeros_0f7a4_73 rfl (lv_at hl 1 rfl) ?_
            refine lv_iload_n hx hb dJ6_numberOfLeadingZeros_0f7a4_74 rfl (lv_at hl 0 rfl) ?_
            refine lv_iconst (v := 1) hx hb dJ6_numberOfLeadingZeros_0f7a4_75 (by decide) ?_
            refine lv_iushr hx hb dJ6_numberOfLeadingZeros_0f7a4_76 rfl ?_
            refine lv_topi (fun v76 ev76 => ?_)
            have tv76 : v76.toInt = v71.toInt / 2 := by rw [ev76]; exact ushr_n 1 (by decide +kernel) (by decide) (by omega)
            refine lv_isub hx hb dJ6_numberOfLeadingZeros_0f7a4_77 ?_
            refine lv_topi (fun v77 ev77 => ?_)
            have tv77 : v77.toInt = (29) - v76.toInt := by rw [ev77]; exact sub_i (by decide : (29 : Int32).toInt = 29) rfl (by omega) (by omega)
            exact te_i hx hb hr hlocks hH hS (⟨rfl, by omega, by omega⟩) dJ6_numberOfLeadingZeros_0f7a4_78
        · skip
          have tc51 := f_nlt (k := 16) (by decide) c51
          exfalso; omega
      · skip
        have tc37 := f_nlt (k := 256) (by decide) c37
        exfalso; omega
    · skip
      have tc22 := f_nlt (k := 65536) (by decide) c22
      exfalso; omega
  · skip
    have tc1 := f_ngt (k := 0) (by decide) c1
    exfalso; omega
set_option maxHeartbeats 4000000 in
set_option maxRecDepth 100000 in
theorem s_nlz_4 (l : Launch) (D : va_G) (cs : CS) (kf : KF) (T : TF) (O : List Nat) (X : va_W) (x0 : Int32) (l_x0 : 16 ≤ x0.toInt) (u_x0 : x0.toInt ≤ 31) (hO : okO T O []) : TK l D cs kf yJ6_numberOfLeadingZeros_0f7a4 cJ6_numberOfLeadingZeros_0f7a4 2 (some (.int)) { frames := 0, cells := 0, slots := 0, locals := 0 } [.int x0] T O X (Ti D cs (fun r u => u = (T, O, X) ∧ 27 ≤ r.toInt ∧ r.toInt ≤ 27)) := by
  refine tk_of (by decide) (Nat.le_of_ble_eq_true rfl) (fun p e s m below meth c ls A H locs hx hb hr hml hown hts hlocks hnm hkb hH hS hA hOX hks hE hl => ?_)
  have hown : s.vm.findClass RJ6 = some m.cls := hown
  have hl : lv_has ls 2 [(0, .int x0)] := hl
  refine lv_iload_n hx hb dJ6_numberOfLeadingZeros_0f7a4_0 rfl (lv_at hl 0 rfl) ?_
  refine lv_if_gt (tgt := 15) hx hb dJ6_numberOfLeadingZeros_0f7a4_1 (by decide) (fun c1 => ?_) (fun c1 => ?_)
  · skip
    have tc1 := f_gt (k := 0) (by decide) c1
    refine lv_bipush (v := 31) hx hb dJ6_numberOfLeadingZeros_0f7a4_15 (by decide) ?_
    refine lv_istore_n (lv' := [(1, .int 31), (0, .int x0)]) hx hb dJ6_numberOfLeadingZeros_0f7a4_17 rfl hl (by decide) rfl (fun ls hl => ?_)
    refine lv_iload_n hx hb dJ6_numberOfLeadingZeros_0f7a4_18 rfl (lv_at hl 1 rfl) ?_
    refine lv_ldcw hx hb hown (hts _ kw_861) dJ6_numberOfLeadingZeros_0f7a4_19 ?_
    refine lv_icmp_lt (tgt := 33) hx hb dJ6_numberOfLeadingZeros_0f7a4_22 (by decide) (fun c22 => ?_) (fun c22 => ?_)
    · skip
      have tc22 := f_lt (k := 65536) (by decide) c22
      refine lv_iload_n hx hb dJ6_numberOfLeadingZeros_0f7a4_33 rfl (lv_at hl 1 rfl) ?_
      refine lv_sipush (v := 256) hx hb dJ6_numberOfLeadingZeros_0f7a4_34 (by decide) ?_
      refine lv_icmp_lt (tgt := 48) hx hb dJ6_numberOfLeadingZeros_0f7a4_37 (by decide) (fun c37 => ?_) (fun c37 => ?_)
      · skip
        have tc37 := f_lt (k := 256) (by decide) c37
        refine lv_iload_n hx hb dJ6_numberOfLeadingZeros_0f7a4_48 rfl (lv_at hl 1 rfl) ?_
        refine lv_bipush (v := 16) hx hb dJ6_numberOfLeadingZeros_0f7a4_49 (by decide) ?_
        refine lv_icmp_lt (tgt := 61) hx hb dJ6_numberOfLeadingZeros_0f7a4_51 (by decide) (fun c51 => ?_) (fun c51 => ?_)
        · skip
          have tc51 := f_lt (k := 16) (by decide) c51
          exfalso; omega
        · skip
          have tc51 := f_nlt (k := 16) (by decide) c51
          refine lv_iinc (v := 27) (lv' := [(1, .int 27), (0, .int x0)]) hx hb dJ6_numberOfLeadingZeros_0f7a4_54 hl (k := 0) rfl (by decide) (by decide) rfl (fun ls hl => ?_)
          refine lv_iload_n hx hb dJ6_numberOfLeadingZeros_0f7a4_57 rfl (lv_at hl 1 rfl) ?_
          refine lv_iconst (v := 4) hx hb dJ6_numberOfLeadingZeros_0f7a4_58 (by decide) ?_
          refine lv_iushr hx hb dJ6_numberOfLeadingZeros_0f7a4_59 rfl ?_
          refine lv_topi (fun v59 ev59 => ?_)
          have tv59 : v59.toInt = x0.toInt / 16 := by rw [ev59]; exact ushr_n 4 (by decide +kernel) (by decide) (by omega)
          refine lv_istore_n (lv' := [(0, .int v59), (1, .int 27)]) hx hb dJ6_numberOfLeadingZeros_0f7a4_60 rfl hl (by decide) rfl (fun ls hl => ?_)
          refine lv_iload_n hx hb dJ6_numberOfLeadingZeros_0f7a4_61 rfl (lv_at hl 0 rfl) ?_
          refine lv_iconst (v := 4) hx hb dJ6_numberOfLeadingZeros_0f7a4_62 (by decide) ?_
          refine lv_icmp_lt (tgt := 73) hx hb dJ6_numberOfLeadingZeros_0f7a4_63 (by decide) (fun c63 => ?_) (fun c63 => ?_)
          · skip
            have tc63 := f_lt (k := 4) (by decide) c63
            refine lv_iload_n hx hb dJ6_numberOfLeadingZeros_0f7a4_73 rfl (lv_at hl 1 rfl) ?_
            refine lv_iload_n hx hb dJ6_numberOfLeadingZeros_0f7a4_74 rfl (lv_at hl 0 rfl) ?_
            refine lv_iconst (v := 1) hx hb dJ6_numberOfLeadingZeros_0f7a4_75 (by decide) ?_
            refine lv_iushr hx hb dJ6_numberOfLeadingZeros_0f7a4_76 rfl ?_
            refine lv_topi (fun v76 ev76 => ?_)
            have tv76 : v76.toInt = v59.toInt / 2 := by rw [ev76]; exact ushr_n 1 (by decide +kernel) (by decide) (by omega)
            refine lv_isub hx hb dJ6_numberOfLeadingZeros_0f7a4_77 ?_
            refine lv_topi (fun v77 ev77 => ?_)
            have tv77 : v77.toInt = (27) - v76.toInt := by rw [ev77]; exact sub_i (by decide : (27 : Int32).toInt = 27) rfl (by omega) (by omega)
            exact te_i hx hb hr hlocks hH hS (⟨rfl, by omega, by omega⟩) dJ6_numberOfLeadingZeros_0f7a4_78
          · skip
            have tc63 := f_nlt (k := 4) (by decide) c63
            exfalso; omega
      · skip
        have tc37 := f_nlt (k := 256) (by decide) c37
        exfalso; omega
    · skip
      have tc22 := f_nlt (k := 65536) (by decide) c22
      exfalso; omega
  · skip
    have tc1 := f_ngt (k := 0) (by decide) c1
    exfalso; omega
set_option maxHeartbeats 4000000 in
set_option maxRecDepth 100000 in
theorem s_nlz_5 (l : Launch) (D : va_G) (cs : CS) (kf : KF) (T : TF) (O : List Nat) (X : va_W) (x0 : Int32) (l_x0 : 32 ≤ x0.toInt) (u_x0 : x0.toInt ≤ 63) (hO : okO T O []) : TK l D cs kf yJ6_numberOfLeadingZeros_0f7a4 cJ6_numberOfLeadingZeros_0f7a4 2 (some (.int)) { frames := 0, cells := 0, slots := 0, locals := 0 } [.int x0] T O X (Ti D cs (fun r u => u = (T, O, X) ∧ 26 ≤ r.toInt ∧ r.toInt ≤ 26)) := by
  refine tk_of (by decide) (Nat.le_of_ble_eq_true rfl) (fun p e s m below meth c ls A H locs hx hb hr hml hown hts hlocks hnm hkb hH hS hA hOX hks hE hl => ?_)
  have hown : s.vm.findClass RJ6 = some m.cls := hown
  have hl : lv_has ls 2 [(0, .int x0)] := hl
  refine lv_iload_n hx hb dJ6_numberOfLeadingZeros_0f7a4_0 rfl (lv_at hl 0 rfl) ?_
  refine lv_if_gt (tgt := 15) hx hb dJ6_numberOfLeadingZeros_0f7a4_1 (by decide) (fun c1 => ?_) (fun c1 => ?_)
  · skip
    have tc1 := f_gt (k := 0) (by decide) c1
    refine lv_bipush (v := 31) hx hb dJ6_numberOfLeadingZeros_0f7a4_15 (by decide) ?_
    refine lv_istore_n (lv' := [(1, .int 31), (0, .int x0)]) hx hb dJ6_numberOfLeadingZeros_0f7a4_17 rfl hl (by decide) rfl (fun ls hl => ?_)
    refine lv_iload_n hx hb dJ6_numberOfLeadingZeros_0f7a4_18 rfl (lv_at hl 1 rfl) ?_
    refine lv_ldcw hx hb hown (hts _ kw_861) dJ6_numberOfLeadingZeros_0f7a4_19 ?_
    refine lv_icmp_lt (tgt := 33) hx hb dJ6_numberOfLeadingZeros_0f7a4_22 (by decide) (fun c22 => ?_) (fun c22 => ?_)
    · skip
      have tc22 := f_lt (k := 65536) (by decide) c22
      refine lv_iload_n hx hb dJ6_numberOfLeadingZeros_0f7a4_33 rfl (lv_at hl 1 rfl) ?_
      refine lv_sipush (v := 256) hx hb dJ6_numberOfLeadingZeros_0f7a4_34 (by decide) ?_
      refine lv_icmp_lt (tgt := 48) hx hb dJ6_numberOfLeadingZeros_0f7a4_37 (by decide) (fun c37 => ?_) (fun c37 => ?_)
      · skip
        have tc37 := f_lt (k := 256) (by decide) c37
        refine lv_iload_n hx hb dJ6_numberOfLeadingZeros_0f7a4_48 rfl (lv_at hl 1 rfl) ?_
        refine lv_bipush (v := 16) hx hb dJ6_numberOfLeadingZeros_0f7a4_49 (by decide) ?_
        refine lv_icmp_lt (tgt := 61) hx hb dJ6_numberOfLeadingZeros_0f7a4_51 (by decide) (fun c51 => ?_) (fun c51 => ?_)
        · skip
          have tc51 := f_lt (k := 16) (by decide) c51
          exfalso; omega
        · skip
          have tc51 := f_nlt (k := 16) (by decide) c51
          refine lv_iinc (v := 27) (lv' := [(1, .int 27), (0, .int x0)]) hx hb dJ6_numberOfLeadingZeros_0f7a4_54 hl (k := 0) rfl (by decide) (by decide) rfl (fun ls hl => ?_)
          refine lv_iload_n hx hb dJ6_numberOfLeadingZeros_0f7a4_57 rfl (lv_at hl 1 rfl) ?_
          refine lv_iconst (v := 4) hx hb dJ6_numberOfLeadingZeros_0f7a4_58 (by decide) ?_
          refine lv_iushr hx hb dJ6_numberOfLeadingZeros_0f7a4_59 rfl ?_
          refine lv_topi (fun v59 ev59 => ?_)
          have tv59 : v59.toInt = x0.toInt / 16 := by rw [ev59]; exact ushr_n 4 (by decide +kernel) (by decide) (by omega)
          refine lv_istore_n (lv' := [(0, .int v59), (1, .int 27)]) hx hb dJ6_numberOfLeadingZeros_0f7a4_60 rfl hl (by decide) rfl (fun ls hl => ?_)
          refine lv_iload_n hx hb dJ6_numberOfLeadingZeros_0f7a4_61 rfl (lv_at hl 0 rfl) ?_
          refine lv_iconst (v := 4) hx hb dJ6_numberOfLeadingZeros_0f7a4_62 (by decide) ?_
          refine lv_icmp_lt (tgt := 73) hx hb dJ6_numberOfLeadingZeros_0f7a4_63 (by decide) (fun c63 => ?_) (fun c63 => ?_)
          · skip
            have tc63 := f_lt (k := 4) (by decide) c63
            refine lv_iload_n hx hb dJ6_numberOfLeadingZeros_0f7a4_73 rfl (lv_at hl 1 rfl) ?_
            refine lv_iload_n hx hb dJ6_numberOfLeadingZeros_0f7a4_74 rfl (lv_at hl 0 rfl) ?_
            refine lv_iconst (v := 1) hx hb dJ6_numberOfLeadingZeros_0f7a4_75 (by decide) ?_
            refine lv_iushr hx hb dJ6_numberOfLeadingZeros_0f7a4_76 rfl ?_
            refine lv_topi (fun v76 ev76 => ?_)
            have tv76 : v76.toInt = v59.toInt / 2 := by rw [ev76]; exact ushr_n 1 (by decide +kernel) (by decide) (by omega)
            refine lv_isub hx hb dJ6_numberOfLeadingZeros_0f7a4_77 ?_
            refine lv_topi (fun v77 ev77 => ?_)
            have tv77 : v77.toInt = (27) - v76.toInt := by rw [ev77]; exact sub_i (by decide : (27 : Int32).toInt = 27) rfl (by omega) (by omega)
            exact te_i hx hb hr hlocks hH hS (⟨rfl, by omega, by omega⟩) dJ6_numberOfLeadingZeros_0f7a4_78
          · skip
            have tc63 := f_nlt (k := 4) (by decide) c63
            exfalso; omega
      · skip
        have tc37 := f_nlt (k := 256) (by decide) c37
        exfalso; omega
    · skip
      have tc22 := f_nlt (k := 65536) (by decide) c22
      exfalso; omega
  · skip
    have tc1 := f_ngt (k := 0) (by decide) c1
    exfalso; omega
set_option maxHeartbeats 4000000 in
set_option maxRecDepth 100000 in
theorem s_nlz_6 (l : Launch) (D : va_G) (cs : CS) (kf : KF) (T : TF) (O : List Nat) (X : va_W) (x0 : Int32) (l_x0 : 64 ≤ x0.toInt) (u_x0 : x0.toInt ≤ 127) (hO : okO T O []) : TK l D cs kf yJ6_numberOfLeadingZeros_0f7a4 cJ6_numberOfLeadingZeros_0f7a4 2 (some (.int)) { frames := 0, cells := 0, slots := 0, locals := 0 } [.int x0] T O X (Ti D cs (fun r u => u = (T, O, X) ∧ 25 ≤ r.toInt ∧ r.toInt ≤ 25)) := by
  refine tk_of (by decide) (Nat.le_of_ble_eq_true rfl) (fun p e s m below meth c ls A H locs hx hb hr hml hown hts hlocks hnm hkb hH hS hA hOX hks hE hl => ?_)
  have hown : s.vm.findClass RJ6 = some m.cls := hown
  have hl : lv_has ls 2 [(0, .int x0)] := hl
  refine lv_iload_n hx hb dJ6_numberOfLeadingZeros_0f7a4_0 rfl (lv_at hl 0 rfl) ?_
  refine lv_if_gt (tgt := 15) hx hb dJ6_numberOfLeadingZeros_0f7a4_1 (by decide) (fun c1 => ?_) (fun c1 => ?_)
  · skip
    have tc1 := f_gt (k := 0) (by decide) c1
    refine lv_bipush (v := 31) hx hb dJ6_numberOfLeadingZeros_0f7a4_15 (by decide) ?_
    refine lv_istore_n (lv' := [(1, .int 31), (0, .int x0)]) hx hb dJ6_numberOfLeadingZeros_0f7a4_17 rfl hl (by decide) rfl (fun ls hl => ?_)
    refine lv_iload_n hx hb dJ6_numberOfLeadingZeros_0f7a4_18 rfl (lv_at hl 1 rfl) ?_
    refine lv_ldcw hx hb hown (hts _ kw_861) dJ6_numberOfLeadingZeros_0f7a4_19 ?_
    refine lv_icmp_lt (tgt := 33) hx hb dJ6_numberOfLeadingZeros_0f7a4_22 (by decide) (fun c22 => ?_) (fun c22 => ?_)
    · skip
      have tc22 := f_lt (k := 65536) (by decide) c22
      refine lv_iload_n hx hb dJ6_numberOfLeadingZeros_0f7a4_33 rfl (lv_at hl 1 rfl) ?_
      refine lv_sipush (v := 256) hx hb dJ6_numberOfLeadingZeros_0f7a4_34 (by decide) ?_
      refine lv_icmp_lt (tgt := 48) hx hb dJ6_numberOfLeadingZeros_0f7a4_37 (by decide) (fun c37 => ?_) (fun c37 => ?_)
      · skip
        have tc37 := f_lt (k := 256) (by decide) c37
        refine lv_iload_n hx hb dJ6_numberOfLeadingZeros_0f7a4_48 rfl (lv_at hl 1 rfl) ?_
        refine lv_bipush (v := 16) hx hb dJ6_numberOfLeadingZeros_0f7a4_49 (by decide) ?_
        refine lv_icmp_lt (tgt := 61) hx hb dJ6_numberOfLeadingZeros_0f7a4_51 (by decide) (fun c51 => ?_) (fun c51 => ?_)
        · skip
          have tc51 := f_lt (k := 16) (by decide) c51
          exfalso; omega
        · skip
          have tc51 := f_nlt (k := 16) (by decide) c51
          refine lv_iinc (v := 27) (lv' := [(1, .int 27), (0, .int x0)]) hx hb dJ6_numberOfLeadingZeros_0f7a4_54 hl (k := 0) rfl (by decide) (by decide) rfl (fun ls hl => ?_)
          refine lv_iload_n hx hb dJ6_numberOfLeadingZeros_0f7a4_57 rfl (lv_at hl 1 rfl) ?_
          refine lv_iconst (v := 4) hx hb dJ6_numberOfLeadingZeros_0f7a4_58 (by decide) ?_
          refine lv_iushr hx hb dJ6_numberOfLeadingZeros_0f7a4_59 rfl ?_
          refine lv_topi (fun v59 ev59 => ?_)
          have tv59 : v59.toInt = x0.toInt / 16 := by rw [ev59]; exact ushr_n 4 (by decide +kernel) (by decide) (by omega)
          refine lv_istore_n (lv' := [(0, .int v59), (1, .int 27)]) hx hb dJ6_numberOfLeadingZeros_0f7a4_60 rfl hl (by decide) rfl (fun ls hl => ?_)
          refine lv_iload_n hx hb dJ6_numberOfLeadingZeros_0f7a4_61 rfl (lv_at hl 0 rfl) ?_
          refine lv_iconst (v := 4) hx hb dJ6_numberOfLeadingZeros_0f7a4_62 (by decide) ?_
          refine lv_icmp_lt (tgt := 73) hx hb dJ6_numberOfLeadingZeros_0f7a4_63 (by decide) (fun c63 => ?_) (fun c63 => ?_)
          · skip
            have tc63 := f_lt (k := 4) (by decide) c63
            exfalso; omega
          · skip
            have tc63 := f_nlt (k := 4) (by decide) c63
            refine lv_iinc (v := 25) (lv' := [(1, .int 25), (0, .int v59)]) hx hb dJ6_numberOfLeadingZeros_0f7a4_66 hl (k := 1) rfl (by decide) (by decide) rfl (fun ls hl => ?_)
            refine lv_iload_n hx hb dJ6_numberOfLeadingZeros_0f7a4_69 rfl (lv_at hl 1 rfl) ?_
            refine lv_iconst (v := 2) hx hb dJ6_numberOfLeadingZeros_0f7a4_70 (by decide) ?_
            refine lv_iushr hx hb dJ6_numberOfLeadingZeros_0f7a4_71 rfl ?_
            refine lv_topi (fun v71 ev71 => ?_)
            have tv71 : v71.toInt = v59.toInt / 4 := by rw [ev71]; exact ushr_n 2 (by decide +kernel) (by decide) (by omega)
            refine lv_istore_n (lv' := [(0, .int v71), (1, .int 25)]) hx hb dJ6_numberOfLeadingZeros_0f7a4_72 rfl hl (by decide) rfl (fun ls hl => ?_)
            refine lv_iload_n hx hb dJ6_numberOfLeadingZeros_0f7a4_73 rfl (lv_at hl 1 rfl) ?_
            refine lv_iload_n hx hb dJ6_numberOfLeadingZeros_0f7a4_74 rfl (lv_at hl 0 rfl) ?_
            refine lv_iconst (v := 1) hx hb dJ6_numberOfLeadingZeros_0f7a4_75 (by decide) ?_
            refine lv_iushr hx hb dJ6_numberOfLeadingZeros_0f7a4_76 rfl ?_
            refine lv_topi (fun v76 ev76 => ?_)
            have tv76 : v76.toInt = v71.toInt / 2 := by rw [ev76]; exact ushr_n 1 (by decide +kernel) (by decide) (by omega)
            refine lv_isub hx hb dJ6_numberOfLeadingZeros_0f7a4_77 ?_
            refine lv_topi (fun v77 ev77 => ?_)
            have tv77 : v77.toInt = (25) - v76.toInt := by rw [ev77]; exact sub_i (by decide : (25 : Int32).toInt = 25) rfl (by omega) (by omega)
            exact te_i hx hb hr hlocks hH hS (⟨rfl, by omega, by omega⟩) dJ6_numberOfLeadingZeros_0f7a4_78
      · skip
        have tc37 := f_nlt (k := 256) (by decide) c37
        exfalso; omega
    · skip
      have tc22 := f_nlt (k := 65536) (by decide) c22
      exfalso; omega
  · skip
    have tc1 := f_ngt (k := 0) (by decide) c1
    exfalso; omega
set_option maxHeartbeats 4000000 in
set_option maxRecDepth 100000 in
theorem s_nlz_7 (l : Launch) (D : va_G) (cs : CS) (kf : KF) (T : TF) (O : List Nat) (X : va_W) (x0 : Int32) (l_x0 : 128 ≤ x0.toInt) (u_x0 : x0.toInt ≤ 255) (hO : okO T O []) : TK l D cs kf yJ6_numberOfLeadingZeros_0f7a4 cJ6_numberOfLeadingZeros_0f7a4 2 (some (.int)) { frames := 0, cells := 0, slots := 0, locals := 0 } [.int x0] T O X (Ti D cs (fun r u => u = (T, O, X) ∧ 24 ≤ r.toInt ∧ r.toInt ≤ 24)) := by
  refine tk_of (by decide) (Nat.le_of_ble_eq_true rfl) (fun p e s m below meth c ls A H locs hx hb hr hml hown hts hlocks hnm hkb hH hS hA hOX hks hE hl => ?_)
  have hown : s.vm.findClass RJ6 = some m.cls := hown
  have hl : lv_has ls 2 [(0, .int x0)] := hl
  refine lv_iload_n hx hb dJ6_numberOfLeadingZeros_0f7a4_0 rfl (lv_at hl 0 rfl) ?_
  refine lv_if_gt (tgt := 15) hx hb dJ6_numberOfLeadingZeros_0f7a4_1 (by decide) (fun c1 => ?_) (fun c1 => ?_)
  · skip
    have tc1 := f_gt (k := 0) (by decide) c1
    refine lv_bipush (v := 31) hx hb dJ6_numberOfLeadingZeros_0f7a4_15 (by decide) ?_
    refine lv_istore_n (lv' := [(1, .int 31), (0, .int x0)]) hx hb dJ6_numberOfLeadingZeros_0f7a4_17 rfl hl (by decide) rfl (fun ls hl => ?_)
    refine lv_iload_n hx hb dJ6_numberOfLeadingZeros_0f7a4_18 rfl (lv_at hl 1 rfl) ?_
    refine lv_ldcw hx hb hown (hts _ kw_861) dJ6_numberOfLeadingZeros_0f7a4_19 ?_
    refine lv_icmp_lt (tgt := 33) hx hb dJ6_numberOfLeadingZeros_0f7a4_22 (by decide) (fun c22 => ?_) (fun c22 => ?_)
    · skip
      have tc22 := f_lt (k := 65536) (by decide) c22
      refine lv_iload_n hx hb dJ6_numberOfLeadingZeros_0f7a4_33 rfl (lv_at hl 1 rfl) ?_
      refine lv_sipush (v := 256) hx hb dJ6_numberOfLeadingZeros_0f7a4_34 (by decide) ?_
      refine lv_icmp_lt (tgt := 48) hx hb dJ6_numberOfLeadingZeros_0f7a4_37 (by decide) (fun c37 => ?_) (fun c37 => ?_)
      · skip
        have tc37 := f_lt (k := 256) (by decide) c37
        refine lv_iload_n hx hb dJ6_numberOfLeadingZeros_0f7a4_48 rfl (lv_at hl 1 rfl) ?_
        refine lv_bipush (v := 16) hx hb dJ6_numberOfLeadingZeros_0f7a4_49 (by decide) ?_
        refine lv_icmp_lt (tgt := 61) hx hb dJ6_numberOfLeadingZeros_0f7a4_51 (by decide) (fun c51 => ?_) (fun c51 => ?_)
        · skip
          have tc51 := f_lt (k := 16) (by decide) c51
          exfalso; omega
        · skip
          have tc51 := f_nlt (k := 16) (by decide) c51
          refine lv_iinc (v := 27) (lv' := [(1, .int 27), (0, .int x0)]) hx hb dJ6_numberOfLeadingZeros_0f7a4_54 hl (k := 0) rfl (by decide) (by decide) rfl (fun ls hl => ?_)
          refine lv_iload_n hx hb dJ6_numberOfLeadingZeros_0f7a4_57 rfl (lv_at hl 1 rfl) ?_
          refine lv_iconst (v := 4) hx hb dJ6_numberOfLeadingZeros_0f7a4_58 (by decide) ?_
          refine lv_iushr hx hb dJ6_numberOfLeadingZeros_0f7a4_59 rfl ?_
          refine lv_topi (fun v59 ev59 => ?_)
          have tv59 : v59.toInt = x0.toInt / 16 := by rw [ev59]; exact ushr_n 4 (by decide +kernel) (by decide) (by omega)
          refine lv_istore_n (lv' := [(0, .int v59), (1, .int 27)]) hx hb dJ6_numberOfLeadingZeros_0f7a4_60 rfl hl (by decide) rfl (fun ls hl => ?_)
          refine lv_iload_n hx hb dJ6_numberOfLeadingZeros_0f7a4_61 rfl (lv_at hl 0 rfl) ?_
          refine lv_iconst (v := 4) hx hb dJ6_numberOfLeadingZeros_0f7a4_62 (by decide) ?_
          refine lv_icmp_lt (tgt := 73) hx hb dJ6_numberOfLeadingZeros_0f7a4_63 (by decide) (fun c63 => ?_) (fun c63 => ?_)
          · skip
            have tc63 := f_lt (k := 4) (by decide) c63
            exfalso; omega
          · skip
            have tc63 := f_nlt (k := 4) (by decide) c63
            refine lv_iinc (v := 25) (lv' := [(1, .int 25), (0, .int v59)]) hx hb dJ6_numberOfLeadingZeros_0f7a4_66 hl (k := 1) rfl (by decide) (by decide) rfl (fun ls hl => ?_)
            refine lv_iload_n hx hb dJ6_numberOfLeadingZeros_0f7a4_69 rfl (lv_at hl 1 rfl) ?_
            refine lv_iconst (v := 2) hx hb dJ6_numberOfLeadingZeros_0f7a4_70 (by decide) ?_
            refine lv_iushr hx hb dJ6_numberOfLeadingZeros_0f7a4_71 rfl ?_
            refine lv_topi (fun v71 ev71 => ?_)
            have tv71 : v71.toInt = v59.toInt / 4 := by rw [ev71]; exact ushr_n 2 (by decide +kernel) (by decide) (by omega)
            refine lv_istore_n (lv' := [(0, .int v71), (1, .int 25)]) hx hb dJ6_numberOfLeadingZeros_0f7a4_72 rfl hl (by decide) rfl (fun ls hl => ?_)
            refine lv_iload_n hx hb dJ6_numberOfLeadingZeros_0f7a4_73 rfl (lv_at hl 1 rfl) ?_
            refine lv_iload_n hx hb dJ6_numberOfLeadingZeros_0f7a4_74 rfl (lv_at hl 0 rfl) ?_
            refine lv_iconst (v := 1) hx hb dJ6_numberOfLeadingZeros_0f7a4_75 (by decide) ?_
            refine lv_iushr hx hb dJ6_numberOfLeadingZeros_0f7a4_76 rfl ?_
            refine lv_topi (fun v76 ev76 => ?_)
            have tv76 : v76.toInt = v71.toInt / 2 := by rw [ev76]; exact ushr_n 1 (by decide +kernel) (by decide) (by omega)
            refine lv_isub hx hb dJ6_numberOfLeadingZeros_0f7a4_77 ?_
            refine lv_topi (fun v77 ev77 => ?_)
            have tv77 : v77.toInt = (25) - v76.toInt := by rw [ev77]; exact sub_i (by decide : (25 : Int32).toInt = 25) rfl (by omega) (by omega)
            exact te_i hx hb hr hlocks hH hS (⟨rfl, by omega, by omega⟩) dJ6_numberOfLeadingZeros_0f7a4_78
      · skip
        have tc37 := f_nlt (k := 256) (by decide) c37
        exfalso; omega
    · skip
      have tc22 := f_nlt (k := 65536) (by decide) c22
      exfalso; omega
  · skip
    have tc1 := f_ngt (k := 0) (by decide) c1
    exfalso; omega
set_option maxHeartbeats 4000000 in
set_option maxRecDepth 100000 in
theorem s_nlz_8 (l : Launch) (D : va_G) (cs : CS) (kf : KF) (T : TF) (O : List Nat) (X : va_W) (x0 : Int32) (l_x0 : 256 ≤ x0.toInt) (u_x0 : x0.toInt ≤ 511) (hO : okO T O []) : TK l D cs kf yJ6_numberOfLeadingZeros_0f7a4 cJ6_numberOfLeadingZeros_0f7a4 2 (some (.int)) { frames := 0, cells := 0, slots := 0, locals := 0 } [.int x0] T O X (Ti D cs (fun r u => u = (T, O, X) ∧ 23 ≤ r.toInt ∧ r.toInt ≤ 23)) := by
  refine tk_of (by decide) (Nat.le_of_ble_eq_true rfl) (fun p e s m below meth c ls A H locs hx hb hr hml hown hts hlocks hnm hkb hH hS hA hOX hks hE hl => ?_)
  have hown : s.vm.findClass RJ6 = some m.cls := hown
  have hl : lv_has ls 2 [(0, .int x0)] := hl
  refine lv_iload_n hx hb dJ6_numberOfLeadingZeros_0f7a4_0 rfl (lv_at hl 0 rfl) ?_
  refine lv_if_gt (tgt := 15) hx hb dJ6_numberOfLeadingZeros_0f7a4_1 (by decide) (fun c1 => ?_) (fun c1 => ?_)
  · skip
    have tc1 := f_gt (k := 0) (by decide) c1
    refine lv_bipush (v := 31) hx hb dJ6_numberOfLeadingZeros_0f7a4_15 (by decide) ?_
    refine lv_istore_n (lv' := [(1, .int 31), (0, .int x0)]) hx hb dJ6_numberOfLeadingZeros_0f7a4_17 rfl hl (by decide) rfl (fun ls hl => ?_)
    refine lv_iload_n hx hb dJ6_numberOfLeadingZeros_0f7a4_18 rfl (lv_at hl 1 rfl) ?_
    refine lv_ldcw hx hb hown (hts _ kw_861) dJ6_numberOfLeadingZeros_0f7a4_19 ?_
    refine lv_icmp_lt (tgt := 33) hx hb dJ6_numberOfLeadingZeros_0f7a4_22 (by decide) (fun c22 => ?_) (fun c22 => ?_)
    · skip
      have tc22 := f_lt (k := 65536) (by decide) c22
      refine lv_iload_n hx hb dJ6_numberOfLeadingZeros_0f7a4_33 rfl (lv_at hl 1 rfl) ?_
      refine lv_sipush (v := 256) hx hb dJ6_numberOfLeadingZeros_0f7a4_34 (by decide) ?_
      refine lv_icmp_lt (tgt := 48) hx hb dJ6_numberOfLeadingZeros_0f7a4_37 (by decide) (fun c37 => ?_) (fun c37 => ?_)
      · skip
        have tc37 := f_lt (k := 256) (by decide) c37
        exfalso; omega
      · skip
        have tc37 := f_nlt (k := 256) (by decide) c37
        refine lv_iinc (v := 23) (lv' := [(1, .int 23), (0, .int x0)]) hx hb dJ6_numberOfLeadingZeros_0f7a4_40 hl (k := 0) rfl (by decide) (by decide) rfl (fun ls hl => ?_)
        refine lv_iload_n hx hb dJ6_numberOfLeadingZeros_0f7a4_43 rfl (lv_at hl 1 rfl) ?_
        refine lv_bipush (v := 8) hx hb dJ6_numberOfLeadingZeros_0f7a4_44 (by decide) ?_
        refine lv_iushr hx hb dJ6_numberOfLeadingZeros_0f7a4_46 rfl ?_
        refine lv_topi (fun v46 ev46 => ?_)
        have tv46 : v46.toInt = x0.toInt / 256 := by rw [ev46]; exact ushr_n 8 (by decide +kernel) (by decide) (by omega)
        refine lv_istore_n (lv' := [(0, .int v46), (1, .int 23)]) hx hb dJ6_numberOfLeadingZeros_0f7a4_47 rfl hl (by decide) rfl (fun ls hl => ?_)
        refine lv_iload_n hx hb dJ6_numberOfLeadingZeros_0f7a4_48 rfl (lv_at hl 0 rfl) ?_
        refine lv_bipush (v := 16) hx hb dJ6_numberOfLeadingZeros_0f7a4_49 (by decide) ?_
        refine lv_icmp_lt (tgt := 61) hx hb dJ6_numberOfLeadingZeros_0f7a4_51 (by decide) (fun c51 => ?_) (fun c51 => ?_)
        · skip
          have tc51 := f_lt (k := 16) (by decide) c51
          refine lv_iload_n hx hb dJ6_numberOfLeadingZeros_0f7a4_61 rfl (lv_at hl 0 rfl) ?_
          refine lv_iconst (v := 4) hx hb dJ6_numberOfLeadingZeros_0f7a4_62 (by decide) ?_
          refine lv_icmp_lt (tgt := 73) hx hb dJ6_numberOfLeadingZeros_0f7a4_63 (by decide) (fun c63 => ?_) (fun c63 => ?_)
          · skip
            have tc63 := f_lt (k := 4) (by decide) c63
            refine lv_iload_n hx hb dJ6_numberOfLeadingZeros_0f7a4_73 rfl (lv_at hl 1 rfl) ?_
            refine lv_iload_n hx hb dJ6_numberOfLeadingZeros_0f7a4_74 rfl (lv_at hl 0 rfl) ?_
            refine lv_iconst (v := 1) hx hb dJ6_numberOfLeadingZeros_0f7a4_75 (by decide) ?_
            refine lv_iushr hx hb dJ6_numberOfLeadingZeros_0f7a4_76 rfl ?_
            refine lv_topi (fun v76 ev76 => ?_)
            have tv76 : v76.toInt = v46.toInt / 2 := by rw [ev76]; exact ushr_n 1 (by decide +kernel) (by decide) (by omega)
            refine lv_isub hx hb dJ6_numberOfLeadingZeros_0f7a4_77 ?_
            refine lv_topi (fun v77 ev77 => ?_)
            have tv77 : v77.toInt = (23) - v76.toInt := by rw [ev77]; exact sub_i (by decide : (23 : Int32).toInt = 23) rfl (by omega) (by omega)
            exact te_i hx hb hr hlocks hH hS (⟨rfl, by omega, by omega⟩) dJ6_numberOfLeadingZeros_0f7a4_78
          · skip
            have tc63 := f_nlt (k := 4) (by decide) c63
            exfalso; omega
        · skip
          have tc51 := f_nlt (k := 16) (by decide) c51
          exfalso; omega
    · skip
      have tc22 := f_nlt (k := 65536) (by decide) c22
      exfalso; omega
  · skip
    have tc1 := f_ngt (k := 0) (by decide) c1
    exfalso; omega
set_option maxHeartbeats 4000000 in
set_option maxRecDepth 100000 in
theorem s_nlz_9 (l : Launch) (D : va_G) (cs : CS) (kf : KF) (T : TF) (O : List Nat) (X : va_W) (x0 : Int32) (l_x0 : 512 ≤ x0.toInt) (u_x0 : x0.toInt ≤ 1023) (hO : okO T O []) : TK l D cs kf yJ6_numberOfLeadingZeros_0f7a4 cJ6_numberOfLeadingZeros_0f7a4 2 (some (.int)) { frames := 0, cells := 0, slots := 0, locals := 0 } [.int x0] T O X (Ti D cs (fun r u => u = (T, O, X) ∧ 22 ≤ r.toInt ∧ r.toInt ≤ 22)) := by
  refine tk_of (by decide) (Nat.le_of_ble_eq_true rfl) (fun p e s m below meth c ls A H locs hx hb hr hml hown hts hlocks hnm hkb hH hS hA hOX hks hE hl => ?_)
  have hown : s.vm.findClass RJ6 = some m.cls := hown
  have hl : lv_has ls 2 [(0, .int x0)] := hl
  refine lv_iload_n hx hb dJ6_numberOfLeadingZeros_0f7a4_0 rfl (lv_at hl 0 rfl) ?_
  refine lv_if_gt (tgt := 15) hx hb dJ6_numberOfLeadingZeros_0f7a4_1 (by decide) (fun c1 => ?_) (fun c1 => ?_)
  · skip
    have tc1 := f_gt (k := 0) (by decide) c1
    refine lv_bipush (v := 31) hx hb dJ6_numberOfLeadingZeros_0f7a4_15 (by decide) ?_
    refine lv_istore_n (lv' := [(1, .int 31), (0, .int x0)]) hx hb dJ6_numberOfLeadingZeros_0f7a4_17 rfl hl (by decide) rfl (fun ls hl => ?_)
    refine lv_iload_n hx hb dJ6_numberOfLeadingZeros_0f7a4_18 rfl (lv_at hl 1 rfl) ?_
    refine lv_ldcw hx hb hown (hts _ kw_861) dJ6_numberOfLeadingZeros_0f7a4_19 ?_
    refine lv_icmp_lt (tgt := 33) hx hb dJ6_numberOfLeadingZeros_0f7a4_22 (by decide) (fun c22 => ?_) (fun c22 => ?_)
    · skip
      have tc22 := f_lt (k := 65536) (by decide) c22
      refine lv_iload_n hx hb dJ6_numberOfLeadingZeros_0f7a4_33 rfl (lv_at hl 1 rfl) ?_
      refine lv_sipush (v := 256) hx hb dJ6_numberOfLeadingZeros_0f7a4_34 (by decide) ?_
      refine lv_icmp_lt (tgt := 48) hx hb dJ6_numberOfLeadingZeros_0f7a4_37 (by decide) (fun c37 => ?_) (fun c37 => ?_)
      · skip
        have tc37 := f_lt (k := 256) (by decide) c37
        exfalso; omega
      · skip
        have tc37 := f_nlt (k := 256) (by decide) c37
        refine lv_iinc (v := 23) (lv' := [(1, .int 23), (0, .int x0)]) hx hb dJ6_numberOfLeadingZeros_0f7a4_40 hl (k := 0) rfl (by decide) (by decide) rfl (fun ls hl => ?_)
        refine lv_iload_n hx hb dJ6_numberOfLeadingZeros_0f7a4_43 rfl (lv_at hl 1 rfl) ?_
        refine lv_bipush (v := 8) hx hb dJ6_numberOfLeadingZeros_0f7a4_44 (by decide) ?_
        refine lv_iushr hx hb dJ6_numberOfLeadingZeros_0f7a4_46 rfl ?_
        refine lv_topi (fun v46 ev46 => ?_)
        have tv46 : v46.toInt = x0.toInt / 256 := by rw [ev46]; exact ushr_n 8 (by decide +kernel) (by decide) (by omega)
        refine lv_istore_n (lv' := [(0, .int v46), (1, .int 23)]) hx hb dJ6_numberOfLeadingZeros_0f7a4_47 rfl hl (by decide) rfl (fun ls hl => ?_)
        refine lv_iload_n hx hb dJ6_numberOfLeadingZeros_0f7a4_48 rfl (lv_at hl 0 rfl) ?_
        refine lv_bipush (v := 16) hx hb dJ6_numberOfLeadingZeros_0f7a4_49 (by decide) ?_
        refine lv_icmp_lt (tgt := 61) hx hb dJ6_numberOfLeadingZeros_0f7a4_51 (by decide) (fun c51 => ?_) (fun c51 => ?_)
        · skip
          have tc51 := f_lt (k := 16) (by decide) c51
          refine lv_iload_n hx hb dJ6_numberOfLeadingZeros_0f7a4_61 rfl (lv_at hl 0 rfl) ?_
          refine lv_iconst (v := 4) hx hb dJ6_numberOfLeadingZeros_0f7a4_62 (by decide) ?_
          refine lv_icmp_lt (tgt := 73) hx hb dJ6_numberOfLeadingZeros_0f7a4_63 (by decide) (fun c63 => ?_) (fun c63 => ?_)
          · skip
            have tc63 := f_lt (k := 4) (by decide) c63
            refine lv_iload_n hx hb dJ6_numberOfLeadingZeros_0f7a4_73 rfl (lv_at hl 1 rfl) ?_
            refine lv_iload_n hx hb dJ6_numberOfLeadingZeros_0f7a4_74 rfl (lv_at hl 0 rfl) ?_
            refine lv_iconst (v := 1) hx hb dJ6_numberOfLeadingZeros_0f7a4_75 (by decide) ?_
            refine lv_iushr hx hb dJ6_numberOfLeadingZeros_0f7a4_76 rfl ?_
            refine lv_topi (fun v76 ev76 => ?_)
            have tv76 : v76.toInt = v46.toInt / 2 := by rw [ev76]; exact ushr_n 1 (by decide +kernel) (by decide) (by omega)
            refine lv_isub hx hb dJ6_numberOfLeadingZeros_0f7a4_77 ?_
            refine lv_topi (fun v77 ev77 => ?_)
            have tv77 : v77.toInt = (23) - v76.toInt := by rw [ev77]; exact sub_i (by decide : (23 : Int32).toInt = 23) rfl (by omega) (by omega)
            exact te_i hx hb hr hlocks hH hS (⟨rfl, by omega, by omega⟩) dJ6_numberOfLeadingZeros_0f7a4_78
          · skip
            have tc63 := f_nlt (k := 4) (by decide) c63
            exfalso; omega
        · skip
          have tc51 := f_nlt (k := 16) (by decide) c51
          exfalso; omega
    · skip
      have tc22 := f_nlt (k := 65536) (by decide) c22
      exfalso; omega
  · skip
    have tc1 := f_ngt (k := 0) (by decide) c1
    exfalso; omega
set_option maxHeartbeats 4000000 in
set_option maxRecDepth 100000 in
theorem s_nlz_10 (l : Launch) (D : va_G) (cs : CS) (kf : KF) (T : TF) (O : List Nat) (X : va_W) (x0 : Int32) (l_x0 : 1024 ≤ x0.toInt) (u_x0 : x0.toInt ≤ 2047) (hO : okO T O []) : TK l D cs kf yJ6_numberOfLeadingZeros_0f7a4 cJ6_numberOfLeadingZeros_0f7a4 2 (some (.int)) { frames := 0, cells := 0, slots := 0, locals := 0 } [.int x0] T O X (Ti D cs (fun r u => u = (T, O, X) ∧ 21 ≤ r.toInt ∧ r.toInt ≤ 21)) := by
  refine tk_of (by decide) (Nat.le_of_ble_eq_true rfl) (fun p e s m below meth c ls A H locs hx hb hr hml hown hts hlocks hnm hkb hH hS hA hOX hks hE hl => ?_)
  have hown : s.vm.findClass RJ6 = some m.cls := hown
  have hl : lv_has ls 2 [(0, .int x0)] := hl
  refine lv_iload_n hx hb dJ6_numberOfLeadingZeros_0f7a4_0 rfl (lv_at hl 0 rfl) ?_
  refine lv_if_gt (tgt := 15) hx hb dJ6_numberOfLeadingZeros_0f7a4_1 (by decide) (fun c1 => ?_) (fun c1 => ?_)
  · skip
    have tc1 := f_gt (k := 0) (by decide) c1
    refine lv_bipush (v := 31) hx hb dJ6_numberOfLeadingZeros_0f7a4_15 (by decide) ?_
    refine lv_istore_n (lv' := [(1, .int 31), (0, .int x0)]) hx hb dJ6_numberOfLeadingZeros_0f7a4_17 rfl hl (by decide) rfl (fun ls hl => ?_)
    refine lv_iload_n hx hb dJ6_numberOfLeadingZeros_0f7a4_18 rfl (lv_at hl 1 rfl) ?_
    refine lv_ldcw hx hb hown (hts _ kw_861) dJ6_numberOfLeadingZeros_0f7a4_19 ?_
    refine lv_icmp_lt (tgt := 33) hx hb dJ6_numberOfLeadingZeros_0f7a4_22 (by decide) (fun c22 => ?_) (fun c22 => ?_)
    · skip
      have tc22 := f_lt (k := 65536) (by decide) c22
      refine lv_iload_n hx hb dJ6_numberOfLeadingZeros_0f7a4_33 rfl (lv_at hl 1 rfl) ?_
      refine lv_sipush (v := 256) hx hb dJ6_numberOfLeadingZeros_0f7a4_34 (by decide) ?_
      refine lv_icmp_lt (tgt := 48) hx hb dJ6_numberOfLeadingZeros_0f7a4_37 (by decide) (fun c37 => ?_) (fun c37 => ?_)
      · skip
        have tc37 := f_lt (k := 256) (by decide) c37
        exfalso; omega
      · skip
        have tc37 := f_nlt (k := 256) (by decide) c37
        refine lv_iinc (v := 23) (lv' := [(1, .int 23), (0, .int x0)]) hx hb dJ6_numberOfLeadingZeros_0f7a4_40 hl (k := 0) rfl (by decide) (by decide) rfl (fun ls hl => ?_)
        refine lv_iload_n hx hb dJ6_numberOfLeadingZeros_0f7a4_43 rfl (lv_at hl 1 rfl) ?_
        refine lv_bipush (v := 8) hx hb dJ6_numberOfLeadingZeros_0f7a4_44 (by decide) ?_
        refine lv_iushr hx hb dJ6_numberOfLeadingZeros_0f7a4_46 rfl ?_
        refine lv_topi (fun v46 ev46 => ?_)
        have tv46 : v46.toInt = x0.toInt / 256 := by rw [ev46]; exact ushr_n 8 (by decide +kernel) (by decide) (by omega)
        refine lv_istore_n (lv' := [(0, .int v46), (1, .int 23)]) hx hb dJ6_numberOfLeadingZeros_0f7a4_47 rfl hl (by decide) rfl (fun ls hl => ?_)
        refine lv_iload_n hx hb dJ6_numberOfLeadingZeros_0f7a4_48 rfl (lv_at hl 0 rfl) ?_
        refine lv_bipush (v := 16) hx hb dJ6_numberOfLeadingZeros_0f7a4_49 (by decide) ?_
        refine lv_icmp_lt (tgt := 61) hx hb dJ6_numberOfLeadingZeros_0f7a4_51 (by decide) (fun c51 => ?_) (fun c51 => ?_)
        · skip
          have tc51 := f_lt (k := 16) (by decide) c51
          refine lv_iload_n hx hb dJ6_numberOfLeadingZeros_0f7a4_61 rfl (lv_at hl 0 rfl) ?_
          refine lv_iconst (v := 4) hx hb dJ6_numberOfLeadingZeros_0f7a4_62 (by decide) ?_
          refine lv_icmp_lt (tgt := 73) hx hb dJ6_numberOfLeadingZeros_0f7a4_63 (by decide) (fun c63 => ?_) (fun c63 => ?_)
          · skip
            have tc63 := f_lt (k := 4) (by decide) c63
            exfalso; omega
          · skip
            have tc63 := f_nlt (k := 4) (by decide) c63
            refine lv_iinc (v := 21) (lv' := [(1, .int 21), (0, .int v46)]) hx hb dJ6_numberOfLeadingZeros_0f7a4_66 hl (k := 1) rfl (by decide) (by decide) rfl (fun ls hl => ?_)
            refine lv_iload_n hx hb dJ6_numberOfLeadingZeros_0f7a4_69 rfl (lv_at hl 1 rfl) ?_
            refine lv_iconst (v := 2) hx hb dJ6_numberOfLeadingZeros_0f7a4_70 (by decide) ?_
            refine lv_iushr hx hb dJ6_numberOfLeadingZeros_0f7a4_71 rfl ?_
            refine lv_topi (fun v71 ev71 => ?_)
            have tv71 : v71.toInt = v46.toInt / 4 := by rw [ev71]; exact ushr_n 2 (by decide +kernel) (by decide) (by omega)
            refine lv_istore_n (lv' := [(0, .int v71), (1, .int 21)]) hx hb dJ6_numberOfLeadingZeros_0f7a4_72 rfl hl (by decide) rfl (fun ls hl => ?_)
            refine lv_iload_n hx hb dJ6_numberOfLeadingZeros_0f7a4_73 rfl (lv_at hl 1 rfl) ?_
            refine lv_iload_n hx hb dJ6_numberOfLeadingZeros_0f7a4_74 rfl (lv_at hl 0 rfl) ?_
            refine lv_iconst (v := 1) hx hb dJ6_numberOfLeadingZeros_0f7a4_75 (by decide) ?_
            refine lv_iushr hx hb dJ6_numberOfLeadingZeros_0f7a4_76 rfl ?_
            refine lv_topi (fun v76 ev76 => ?_)
            have tv76 : v76.toInt = v71.toInt / 2 := by rw [ev76]; exact ushr_n 1 (by decide +kernel) (by decide) (by omega)
            refine lv_isub hx hb dJ6_numberOfLeadingZeros_0f7a4_77 ?_
            refine lv_topi (fun v77 ev77 => ?_)
            have tv77 : v77.toInt = (21) - v76.toInt := by rw [ev77]; exact sub_i (by decide : (21 : Int32).toInt = 21) rfl (by omega) (by omega)
            exact te_i hx hb hr hlocks hH hS (⟨rfl, by omega, by omega⟩) dJ6_numberOfLeadingZeros_0f7a4_78
        · skip
          have tc51 := f_nlt (k := 16) (by decide) c51
          exfalso; omega
    · skip
      have tc22 := f_nlt (k := 65536) (by decide) c22
      exfalso; omega
  · skip
    have tc1 := f_ngt (k := 0) (by decide) c1
    exfalso; omega
set_option maxHeartbeats 4000000 in
set_option maxRecDepth 100000 in
theorem s_nlz_11 (l : Launch) (D : va_G) (cs : CS) (kf : KF) (T : TF) (O : List Nat) (X : va_W) (x0 : Int32) (l_x0 : 2048 ≤ x0.toInt) (u_x0 : x0.toInt ≤ 4095) (hO : okO T O []) : TK l D cs kf yJ6_numberOfLeadingZeros_0f7a4 cJ6_numberOfLeadingZeros_0f7a4 2 (some (.int)) { frames := 0, cells := 0, slots := 0, locals := 0 } [.int x0] T O X (Ti D cs (fun r u => u = (T, O, X) ∧ 20 ≤ r.toInt ∧ r.toInt ≤ 20)) := by
  refine tk_of (by decide) (Nat.le_of_ble_eq_true rfl) (fun p e s m below meth c ls A H locs hx hb hr hml hown hts hlocks hnm hkb hH hS hA hOX hks hE hl => ?_)
  have hown : s.vm.findClass RJ6 = some m.cls := hown
  have hl : lv_has ls 2 [(0, .int x0)] := hl
  refine lv_iload_n hx hb dJ6_numberOfLeadingZeros_0f7a4_0 rfl (lv_at hl 0 rfl) ?_
  refine lv_if_gt (tgt := 15) hx hb dJ6_numberOfLeadingZeros_0f7a4_1 (by decide) (fun c1 => ?_) (fun c1 => ?_)
  · skip
    have tc1 := f_gt (k := 0) (by decide) c1
    refine lv_bipush (v := 31) hx hb dJ6_numberOfLeadingZeros_0f7a4_15 (by decide) ?_
    refine lv_istore_n (lv' := [(1, .int 31), (0, .int x0)]) hx hb dJ6_numberOfLeadingZeros_0f7a4_17 rfl hl (by decide) rfl (fun ls hl => ?_)
    refine lv_iload_n hx hb dJ6_numberOfLeadingZeros_0f7a4_18 rfl (lv_at hl 1 rfl) ?_
    refine lv_ldcw hx hb hown (hts _ kw_861) dJ6_numberOfLeadingZeros_0f7a4_19 ?_
    refine lv_icmp_lt (tgt := 33) hx hb dJ6_numberOfLeadingZeros_0f7a4_22 (by decide) (fun c22 => ?_) (fun c22 => ?_)
    · skip
      have tc22 := f_lt (k := 65536) (by decide) c22
      refine lv_iload_n hx hb dJ6_numberOfLeadingZeros_0f7a4_33 rfl (lv_at hl 1 rfl) ?_
      refine lv_sipush (v := 256) hx hb dJ6_numberOfLeadingZeros_0f7a4_34 (by decide) ?_
      refine lv_icmp_lt (tgt := 48) hx hb dJ6_numberOfLeadingZeros_0f7a4_37 (by decide) (fun c37 => ?_) (fun c37 => ?_)
      · skip
        have tc37 := f_lt (k := 256) (by decide) c37
        exfalso; omega
      · skip
        have tc37 := f_nlt (k := 256) (by decide) c37
        refine lv_iinc (v := 23) (lv' := [(1, .int 23), (0, .int x0)]) hx hb dJ6_numberOfLeadingZeros_0f7a4_40 hl (k := 0) rfl (by decide) (by decide) rfl (fun ls hl => ?_)
        refine lv_iload_n hx hb dJ6_numberOfLeadingZeros_0f7a4_43 rfl (lv_at hl 1 rfl) ?_
        refine lv_bipush (v := 8) hx hb dJ6_numberOfLeadingZeros_0f7a4_44 (by decide) ?_
        refine lv_iushr hx hb dJ6_numberOfLeadingZeros_0f7a4_46 rfl ?_
        refine lv_topi (fun v46 ev46 => ?_)
        have tv46 : v46.toInt = x0.toInt / 256 := by rw [ev46]; exact ushr_n 8 (by decide +kernel) (by decide) (by omega)
        refine lv_istore_n (lv' := [(0, .int v46), (1, .int 23)]) hx hb dJ6_numberOfLeadingZeros_0f7a4_47 rfl hl (by decide) rfl (fun ls hl => ?_)
        refine lv_iload_n hx hb dJ6_numberOfLeadingZeros_0f7a4_48 rfl (lv_at hl 0 rfl) ?_
        refine lv_bipush (v := 16) hx hb dJ6_numberOfLeadingZeros_0f7a4_49 (by decide) ?_
        refine lv_icmp_lt (tgt := 61) hx hb dJ6_numberOfLeadingZeros_0f7a4_51 (by decide) (fun c51 => ?_) (fun c51 => ?_)
        · skip
          have tc51 := f_lt (k := 16) (by decide) c51
          refine lv_iload_n hx hb dJ6_numberOfLeadingZeros_0f7a4_61 rfl (lv_at hl 0 rfl) ?_
          refine lv_iconst (v := 4) hx hb dJ6_numberOfLeadingZeros_0f7a4_62 (by decide) ?_
          refine lv_icmp_lt (tgt := 73) hx hb dJ6_numberOfLeadingZeros_0f7a4_63 (by decide) (fun c63 => ?_) (fun c63 => ?_)
          · skip
            have tc63 := f_lt (k := 4) (by decide) c63
            exfalso; omega
          · skip
            have tc63 := f_nlt (k := 4) (by decide) c63
            refine lv_iinc (v := 21) (lv' := [(1, .int 21), (0, .int v46)]) hx hb dJ6_numberOfLeadingZeros_0f7a4_66 hl (k := 1) rfl (by decide) (by decide) rfl (fun ls hl => ?_)
            refine lv_iload_n hx hb dJ6_numberOfLeadingZeros_0f7a4_69 rfl (lv_at hl 1 rfl) ?_
            refine lv_iconst (v := 2) hx hb dJ6_numberOfLeadingZeros_0f7a4_70 (by decide) ?_
            refine lv_iushr hx hb dJ6_numberOfLeadingZeros_0f7a4_71 rfl ?_
            refine lv_topi (fun v71 ev71 => ?_)
            have tv71 : v71.toInt = v46.toInt / 4 := by rw [ev71]; exact ushr_n 2 (by decide +kernel) (by decide) (by omega)
            refine lv_istore_n (lv' := [(0, .int v71), (1, .int 21)]) hx hb dJ6_numberOfLeadingZeros_0f7a4_72 rfl hl (by decide) rfl (fun ls hl => ?_)
            refine lv_iload_n hx hb dJ6_numberOfLeadingZeros_0f7a4_73 rfl (lv_at hl 1 rfl) ?_
            refine lv_iload_n hx hb dJ6_numberOfLeadingZeros_0f7a4_74 rfl (lv_at hl 0 rfl) ?_
            refine lv_iconst (v := 1) hx hb dJ6_numberOfLeadingZeros_0f7a4_75 (by decide) ?_
            refine lv_iushr hx hb dJ6_numberOfLeadingZeros_0f7a4_76 rfl ?_
            refine lv_topi (fun v76 ev76 => ?_)
            have tv76 : v76.toInt = v71.toInt / 2 := by rw [ev76]; exact ushr_n 1 (by decide +kernel) (by decide) (by omega)
            refine lv_isub hx hb dJ6_numberOfLeadingZeros_0f7a4_77 ?_
            refine lv_topi (fun v77 ev77 => ?_)
            have tv77 : v77.toInt = (21) - v76.toInt := by rw [ev77]; exact sub_i (by decide : (21 : Int32).toInt = 21) rfl (by omega) (by omega)
            exact te_i hx hb hr hlocks hH hS (⟨rfl, by omega, by omega⟩) dJ6_numberOfLeadingZeros_0f7a4_78
        · skip
          have tc51 := f_nlt (k := 16) (by decide) c51
          exfalso; omega
    · skip
      have tc22 := f_nlt (k := 65536) (by decide) c22
      exfalso; omega
  · skip
    have tc1 := f_ngt (k := 0) (by decide) c1
    exfalso; omega
set_option maxHeartbeats 4000000 in
set_option maxRecDepth 100000 in
theorem s_nlz_12 (l : Launch) (D : va_G) (cs : CS) (kf : KF) (T : TF) (O : List Nat) (X : va_W) (x0 : Int32) (l_x0 : 4096 ≤ x0.toInt) (u_x0 : x0.toInt ≤ 8191) (hO : okO T O []) : TK l D cs kf yJ6_numberOfLeadingZeros_0f7a4 cJ6_numberOfLeadingZeros_0f7a4 2 (some (.int)) { frames := 0, cells := 0, slots := 0, locals := 0 } [.int x0] T O X (Ti D cs (fun r u => u = (T, O, X) ∧ 19 ≤ r.toInt ∧ r.toInt ≤ 19)) := by
  refine tk_of (by decide) (Nat.le_of_ble_eq_true rfl) (fun p e s m below meth c ls A H locs hx hb hr hml hown hts hlocks hnm hkb hH hS hA hOX hks hE hl => ?_)
  have hown : s.vm.findClass RJ6 = some m.cls := hown
  have hl : lv_has ls 2 [(0, .int x0)] := hl
  refine lv_iload_n hx hb dJ6_numberOfLeadingZeros_0f7a4_0 rfl (lv_at hl 0 rfl) ?_
  refine lv_if_gt (tgt := 15) hx hb dJ6_numberOfLeadingZeros_0f7a4_1 (by decide) (fun c1 => ?_) (fun c1 => ?_)
  · skip
    have tc1 := f_gt (k := 0) (by decide) c1
    refine lv_bipush (v := 31) hx hb dJ6_numberOfLeadingZeros_0f7a4_15 (by decide) ?_
    refine lv_istore_n (lv' := [(1, .int 31), (0, .int x0)]) hx hb dJ6_numberOfLeadingZeros_0f7a4_17 rfl hl (by decide) rfl (fun ls hl => ?_)
    refine lv_iload_n hx hb dJ6_numberOfLeadingZeros_0f7a4_18 rfl (lv_at hl 1 rfl) ?_
    refine lv_ldcw hx hb hown (hts _ kw_861) dJ6_numberOfLeadingZeros_0f7a4_19 ?_
    refine lv_icmp_lt (tgt := 33) hx hb dJ6_numberOfLeadingZeros_0f7a4_22 (by decide) (fun c22 => ?_) (fun c22 => ?_)
    · skip
      have tc22 := f_lt (k := 65536) (by decide) c22
      refine lv_iload_n hx hb dJ6_numberOfLeadingZeros_0f7a4_33 rfl (lv_at hl 1 rfl) ?_
      refine lv_sipush (v := 256) hx hb dJ6_numberOfLeadingZeros_0f7a4_34 (by decide) ?_
      refine lv_icmp_lt (tgt := 48) hx hb dJ6_numberOfLeadingZeros_0f7a4_37 (by decide) (fun c37 => ?_) (fun c37 => ?_)
      · skip
        have tc37 := f_lt (k := 256) (by decide) c37
        exfalso; omega
      · skip
        have tc37 := f_nlt (k := 256) (by decide) c37
        refine lv_iinc (v := 23) (lv' := [(1, .int 23), (0, .int x0)]) hx hb dJ6_numberOfLeadingZeros_0f7a4_40 hl (k := 0) rfl (by decide) (by decide) rfl (fun ls hl => ?_)
        refine lv_iload_n hx hb dJ6_numberOfLeadingZeros_0f7a4_43 rfl (lv_at hl 1 rfl) ?_
        refine lv_bipush (v := 8) hx hb dJ6_numberOfLeadingZeros_0f7a4_44 (by decide) ?_
        refine lv_iushr hx hb dJ6_numberOfLeadingZeros_0f7a4_46 rfl ?_
        refine lv_topi (fun v46 ev46 => ?_)
        have tv46 : v46.toInt = x0.toInt / 256 := by rw [ev46]; exact ushr_n 8 (by decide +kernel) (by decide) (by omega)
        refine lv_istore_n (lv' := [(0, .int v46), (1, .int 23)]) hx hb dJ6_numberOfLeadingZeros_0f7a4_47 rfl hl (by decide) rfl (fun ls hl => ?_)
        refine lv_iload_n hx hb dJ6_numberOfLeadingZeros_0f7a4_48 rfl (lv_at hl 0 rfl) ?_
        refine lv_bipush (v := 16) hx hb dJ6_numberOfLeadingZeros_0f7a4_49 (by decide) ?_
        refine lv_icmp_lt (tgt := 61) hx hb dJ6_numberOfLeadingZeros_0f7a4_51 (by decide) (fun c51 => ?_) (fun c51 => ?_)
        · skip
          have tc51 := f_lt (k := 16) (by decide) c51
          exfalso; omega
        · skip
          have tc51 := f_nlt (k := 16) (by decide) c51
          refine lv_iinc (v := 19) (lv' := [(1, .int 19), (0, .int v46)]) hx hb dJ6_numberOfLeadingZeros_0f7a4_54 hl (k := 1) rfl (by decide) (by decide) rfl (fun ls hl => ?_)
          refine lv_iload_n hx hb dJ6_numberOfLeadingZeros_0f7a4_57 rfl (lv_at hl 1 rfl) ?_
          refine lv_iconst (v := 4) hx hb dJ6_numberOfLeadingZeros_0f7a4_58 (by decide) ?_
          refine lv_iushr hx hb dJ6_numberOfLeadingZeros_0f7a4_59 rfl ?_
          refine lv_topi (fun v59 ev59 => ?_)
          have tv59 : v59.toInt = v46.toInt / 16 := by rw [ev59]; exact ushr_n 4 (by decide +kernel) (by decide) (by omega)
          refine lv_istore_n (lv' := [(0, .int v59), (1, .int 19)]) hx hb dJ6_numberOfLeadingZeros_0f7a4_60 rfl hl (by decide) rfl (fun ls hl => ?_)
          refine lv_iload_n hx hb dJ6_numberOfLeadingZeros_0f7a4_61 rfl (lv_at hl 0 rfl) ?_
          refine lv_iconst (v := 4) hx hb dJ6_numberOfLeadingZeros_0f7a4_62 (by decide) ?_
          refine lv_icmp_lt (tgt := 73) hx hb dJ6_numberOfLeadingZeros_0f7a4_63 (by decide) (fun c63 => ?_) (fun c63 => ?_)
          · skip
            have tc63 := f_lt (k := 4) (by decide) c63
            refine lv_iload_n hx hb dJ6_numberOfLeadingZeros_0f7a4_73 rfl (lv_at hl 1 rfl) ?_
            refine lv_iload_n hx hb dJ6_numberOfLeadingZeros_0f7a4_74 rfl (lv_at hl 0 rfl) ?_
            refine lv_iconst (v := 1) hx hb dJ6_numberOfLeadingZeros_0f7a4_75 (by decide) ?_
            refine lv_iushr hx hb dJ6_numberOfLeadingZeros_0f7a4_76 rfl ?_
            refine lv_topi (fun v76 ev76 => ?_)
            have tv76 : v76.toInt = v59.toInt / 2 := by rw [ev76]; exact ushr_n 1 (by decide +kernel) (by decide) (by omega)
            refine lv_isub hx hb dJ6_numberOfLeadingZeros_0f7a4_77 ?_
            refine lv_topi (fun v77 ev77 => ?_)
            have tv77 : v77.toInt = (19) - v76.toInt := by rw [ev77]; exact sub_i (by decide : (19 : Int32).toInt = 19) rfl (by omega) (by omega)
            exact te_i hx hb hr hlocks hH hS (⟨rfl, by omega, by omega⟩) dJ6_numberOfLeadingZeros_0f7a4_78
          · skip
            have tc63 := f_nlt (k := 4) (by decide) c63
            exfalso; omega
    · skip
      have tc22 := f_nlt (k := 65536) (by decide) c22
      exfalso; omega
  · skip
    have tc1 := f_ngt (k := 0) (by decide) c1
    exfalso; omega
set_option maxHeartbeats 4000000 in
set_option maxRecDepth 100000 in
theorem s_nlz_13 (l : Launch) (D : va_G) (cs : CS) (kf : KF) (T : TF) (O : List Nat) (X : va_W) (x0 : Int32) (l_x0 : 8192 ≤ x0.toInt) (u_x0 : x0.toInt ≤ 16383) (hO : okO T O []) : TK l D cs kf yJ6_numberOfLeadingZeros_0f7a4 cJ6_numberOfLeadingZeros_0f7a4 2 (some (.int)) { frames := 0, cells := 0, slots := 0, locals := 0 } [.int x0] T O X (Ti D cs (fun r u => u = (T, O, X) ∧ 18 ≤ r.toInt ∧ r.toInt ≤ 18)) := by
  refine tk_of (by decide) (Nat.le_of_ble_eq_true rfl) (fun p e s m below meth c ls A H locs hx hb hr hml hown hts hlocks hnm hkb hH hS hA hOX hks hE hl => ?_)
  have hown : s.vm.findClass RJ6 = some m.cls := hown
  have hl : lv_has ls 2 [(0, .int x0)] := hl
  refine lv_iload_n hx hb dJ6_numberOfLeadingZeros_0f7a4_0 rfl (lv_at hl 0 rfl) ?_
  refine lv_if_gt (tgt := 15) hx hb dJ6_numberOfLeadingZeros_0f7a4_1 (by decide) (fun c1 => ?_) (fun c1 => ?_)
  · skip
    have tc1 := f_gt (k := 0) (by decide) c1
    refine lv_bipush (v := 31) hx hb dJ6_numberOfLeadingZeros_0f7a4_15 (by decide) ?_
    refine lv_istore_n (lv' := [(1, .int 31), (0, .int x0)]) hx hb dJ6_numberOfLeadingZeros_0f7a4_17 rfl hl (by decide) rfl (fun ls hl => ?_)
    refine lv_iload_n hx hb dJ6_numberOfLeadingZeros_0f7a4_18 rfl (lv_at hl 1 rfl) ?_
    refine lv_ldcw hx hb hown (hts _ kw_861) dJ6_numberOfLeadingZeros_0f7a4_19 ?_
    refine lv_icmp_lt (tgt := 33) hx hb dJ6_numberOfLeadingZeros_0f7a4_22 (by decide) (fun c22 => ?_) (fun c22 => ?_)
    · skip
      have tc22 := f_lt (k := 65536) (by decide) c22
      refine lv_iload_n hx hb dJ6_numberOfLeadingZeros_0f7a4_33 rfl (lv_at hl 1 rfl) ?_
      refine lv_sipush (v := 256) hx hb dJ6_numberOfLeadingZeros_0f7a4_34 (by decide) ?_
      refine lv_icmp_lt (tgt := 48) hx hb dJ6_numberOfLeadingZeros_0f7a4_37 (by decide) (fun c37 => ?_) (fun c37 => ?_)
      · skip
        have tc37 := f_lt (k := 256) (by decide) c37
        exfalso; omega
      · skip
        have tc37 := f_nlt (k := 256) (by decide) c37
        refine lv_iinc (v := 23) (lv' := [(1, .int 23), (0, .int x0)]) hx hb dJ6_numberOfLeadingZeros_0f7a4_40 hl (k := 0) rfl (by decide) (by decide) rfl (fun ls hl => ?_)
        refine lv_iload_n hx hb dJ6_numberOfLeadingZeros_0f7a4_43 rfl (lv_at hl 1 rfl) ?_
        refine lv_bipush (v := 8) hx hb dJ6_numberOfLeadingZeros_0f7a4_44 (by decide) ?_
        refine lv_iushr hx hb dJ6_numberOfLeadingZeros_0f7a4_46 rfl ?_
        refine lv_topi (fun v46 ev46 => ?_)
        have tv46 : v46.toInt = x0.toInt / 256 := by rw [ev46]; exact ushr_n 8 (by decide +kernel) (by decide) (by omega)
        refine lv_istore_n (lv' := [(0, .int v46), (1, .int 23)]) hx hb dJ6_numberOfLeadingZeros_0f7a4_47 rfl hl (by decide) rfl (fun ls hl => ?_)
        refine lv_iload_n hx hb dJ6_numberOfLeadingZeros_0f7a4_48 rfl (lv_at hl 0 rfl) ?_
        refine lv_bipush (v := 16) hx hb dJ6_numberOfLeadingZeros_0f7a4_49 (by decide) ?_
        refine lv_icmp_lt (tgt := 61) hx hb dJ6_numberOfLeadingZeros_0f7a4_51 (by decide) (fun c51 => ?_) (fun c51 => ?_)
        · skip
          have tc51 := f_lt (k := 16) (by decide) c51
          exfalso; omega
        · skip
          have tc51 := f_nlt (k := 16) (by decide) c51
          refine lv_iinc (v := 19) (lv' := [(1, .int 19), (0, .int v46)]) hx hb dJ6_numberOfLeadingZeros_0f7a4_54 hl (k := 1) rfl (by decide) (by decide) rfl (fun ls hl => ?_)
          refine lv_iload_n hx hb dJ6_numberOfLeadingZeros_0f7a4_57 rfl (lv_at hl 1 rfl) ?_
          refine lv_iconst (v := 4) hx hb dJ6_numberOfLeadingZeros_0f7a4_58 (by decide) ?_
          refine lv_iushr hx hb dJ6_numberOfLeadingZeros_0f7a4_59 rfl ?_
          refine lv_topi (fun v59 ev59 => ?_)
          have tv59 : v59.toInt = v46.toInt / 16 := by rw [ev59]; exact ushr_n 4 (by decide +kernel) (by decide) (by omega)
          refine lv_istore_n (lv' := [(0, .int v59), (1, .int 19)]) hx hb dJ6_numberOfLeadingZeros_0f7a4_60 rfl hl (by decide) rfl (fun ls hl => ?_)
          refine lv_iload_n hx hb dJ6_numberOfLeadingZeros_0f7a4_61 rfl (lv_at hl 0 rfl) ?_
          refine lv_iconst (v := 4) hx hb dJ6_numberOfLeadingZeros_0f7a4_62 (by decide) ?_
          refine lv_icmp_lt (tgt := 73) hx hb dJ6_numberOfLeadingZeros_0f7a4_63 (by decide) (fun c63 => ?_) (fun c63 => ?_)
          · skip
            have tc63 := f_lt (k := 4) (by decide) c63
            refine lv_iload_n hx hb dJ6_numberOfLeadingZeros_0f7a4_73 rfl (lv_at hl 1 rfl) ?_
            refine lv_iload_n hx hb dJ6_numberOfLeadingZeros_0f7a4_74 rfl (lv_at hl 0 rfl) ?_
            refine lv_iconst (v := 1) hx hb dJ6_numberOfLeadingZeros_0f7a4_75 (by decide) ?_
            refine lv_iushr hx hb dJ6_numberOfLeadingZeros_0f7a4_76 rfl ?_
            refine lv_topi (fun v76 ev76 => ?_)
            have tv76 : v76.toInt = v59.toInt / 2 := by rw [ev76]; exact ushr_n 1 (by decide +kernel) (by decide) (by omega)
            refine lv_isub hx hb dJ6_numberOfLeadingZeros_0f7a4_77 ?_
            refine lv_topi (fun v77 ev77 => ?_)
            have tv77 : v77.toInt = (19) - v76.toInt := by rw [ev77]; exact sub_i (by decide : (19 : Int32).toInt = 19) rfl (by omega) (by omega)
            exact te_i hx hb hr hlocks hH hS (⟨rfl, by omega, by omega⟩) dJ6_numberOfLeadingZeros_0f7a4_78
          · skip
            have tc63 := f_nlt (k := 4) (by decide) c63
            exfalso; omega
    · skip
      have tc22 := f_nlt (k := 65536) (by decide) c22
      exfalso; omega
  · skip
    have tc1 := f_ngt (k := 0) (by decide) c1
    exfalso; omega
set_option maxHeartbeats 4000000 in
set_option maxRecDepth 100000 in
theorem s_nlz_z (l : Launch) (D : va_G) (cs : CS) (kf : KF) (T : TF) (O : List Nat) (X : va_W) (x0 : Int32) (l_x0 : 0 ≤ x0.toInt) (u_x0 : x0.toInt ≤ 0) (hO : okO T O []) : TK l D cs kf yJ6_numberOfLeadingZeros_0f7a4 cJ6_numberOfLeadingZeros_0f7a4 2 (some (.int)) { frames := 0, cells := 0, slots := 0, locals := 0 } [.int x0] T O X (Ti D cs (fun r u => u = (T, O, X) ∧ 32 ≤ r.toInt ∧ r.toInt ≤ 32)) := by
  refine tk_of (by decide) (Nat.le_of_ble_eq_true rfl) (fun p e s m below meth c ls A H locs hx hb hr hml hown hts hlocks hnm hkb hH hS hA hOX hks hE hl => ?_)
  have hown : s.vm.findClass RJ6 = some m.cls := hown
  have hl : lv_has ls 2 [(0, .int x0)] := hl
  refine lv_iload_n hx hb dJ6_numberOfLeadingZeros_0f7a4_0 rfl (lv_at hl 0 rfl) ?_
  refine lv_if_gt (tgt := 15) hx hb dJ6_numberOfLeadingZeros_0f7a4_1 (by decide) (fun c1 => ?_) (fun c1 => ?_)
  · skip
    have tc1 := f_gt (k := 0) (by decide) c1
    exfalso; omega
  · skip
    have tc1 := f_ngt (k := 0) (by decide) c1
    refine lv_iload_n hx hb dJ6_numberOfLeadingZeros_0f7a4_4 rfl (lv_at hl 0 rfl) ?_
    refine lv_if_ne (tgt := 13) hx hb dJ6_numberOfLeadingZeros_0f7a4_5 (by decide) (fun c5 => ?_) (fun c5 => ?_)
    · skip
      have tc5 := f_ne (k := 0) (by decide) c5
      exfalso; omega
    · skip
      have tc5 := f_eq (k := 0) (by decide) c5
      refine lv_bipush (v := 32) hx hb dJ6_numberOfLeadingZeros_0f7a4_8 (by decide) ?_
      refine lv_goto (tgt := 14) hx hb dJ6_numberOfLeadingZeros_0f7a4_10 (by decide) ?_
      exact te_i hx hb hr hlocks hH hS (⟨rfl, by decide, by decide⟩) dJ6_numberOfLeadingZeros_0f7a4_14
set_option maxHeartbeats 4000000 in
set_option maxRecDepth 100000 in
theorem s_hob_z (l : Launch) (D : va_G) (cs : CS) (kf : KF) (T : TF) (O : List Nat) (X : va_W) (x0 : Int32) (l_x0 : 0 ≤ x0.toInt) (u_x0 : x0.toInt ≤ 0) (hO : okO T O []) : TK l D cs kf yJ6_highestOneBit_0f7a4 cJ6_highestOneBit_0f7a4 1 (some (.int)) { frames := 1, cells := 0, slots := 0, locals := 21 } [.int x0] T O X (Ti D cs (fun r u => u = (T, O, X) ∧ 0 ≤ r.toInt ∧ r.toInt ≤ 0)) := by
  refine tk_of (by decide) (Nat.le_of_ble_eq_true rfl) (fun p e s m below meth c ls A H locs hx hb hr hml hown hts hlocks hnm hkb hH hS hA hOX hks hE hl => ?_)
  have hown : s.vm.findClass RJ6 = some m.cls := hown
  have hl : lv_has ls 1 [(0, .int x0)] := hl
  refine lv_iload_n hx hb dJ6_highestOneBit_0f7a4_0 rfl (lv_at hl 0 rfl) ?_
  refine lv_ldc hx hb hown (hts _ kw_1083) dJ6_highestOneBit_0f7a4_1 ?_
  refine lv_iload_n hx hb dJ6_highestOneBit_0f7a4_3 rfl (lv_at hl 0 rfl) ?_
  refine tk_i hH hS hA (tr_S (n := 1) (As := [.int x0]) hx hb hml hown hts hkb hH hOX hks hE hS hA (s_nlz_z l D cs kf T O X x0 (by omega) (by omega) (hO.sub (by decide))) kw_1084 kw_1085 kw_20 kw_1086 (by decide +kernel) ⟨Nat.le_of_ble_eq_true rfl, Nat.le_of_ble_eq_true rfl⟩ rfl rfl hl.1 (Nat.le_of_ble_eq_true rfl) dJ6_highestOneBit_0f7a4_4 ⟨Nat.le_of_ble_eq_true rfl, Nat.le_of_ble_eq_true rfl⟩) (fun v4 u H locs hz9 hH hS => ?_)
  obtain ⟨rfl, l_v4, u_v4⟩ := hz9
  refine lv_topc (y := 32) (eq_c (by decide) l_v4 u_v4) ?_
  have hH : HT D cs A T O X H := hH
  refine W.widen (k := 0) (n := 0) (Nat.le_of_ble_eq_true rfl) (Nat.le_of_ble_eq_true rfl) ?_
  refine lv_iushr hx hb dJ6_highestOneBit_0f7a4_7 rfl ?_
  refine lv_topc (y := (-2147483648)) (by decide +kernel) ?_
  refine lv_iand hx hb dJ6_highestOneBit_0f7a4_8 ?_
  refine lv_topi (fun v8 ev8 => ?_)
  have tv8 : 0 ≤ v8.toInt ∧ v8.toInt ≤ x0.toInt := by rw [ev8]; exact and_l (by omega)
  exact te_i hx hb hr hlocks hH hS (⟨rfl, by omega, by omega⟩) dJ6_highestOneBit_0f7a4_9
set_option maxHeartbeats 4000000 in
set_option maxRecDepth 100000 in
theorem s_hob_0 (l : Launch) (D : va_G) (cs : CS) (kf : KF) (T : TF) (O : List Nat) (X : va_W) (x0 : Int32) (l_x0 : 1 ≤ x0.toInt) (u_x0 : x0.toInt ≤ 1) (hO : okO T O []) : TK l D cs kf yJ6_highestOneBit_0f7a4 cJ6_highestOneBit_0f7a4 1 (some (.int)) { frames := 1, cells := 0, slots := 0, locals := 21 } [.int x0] T O X (Ti D cs (fun r u => u = (T, O, X) ∧ 1 ≤ r.toInt ∧ r.toInt ≤ 1)) := by
  refine tk_of (by decide) (Nat.le_of_ble_eq_true rfl) (fun p e s m below meth c ls A H locs hx hb hr hml hown hts hlocks hnm hkb hH hS hA hOX hks hE hl => ?_)
  have hown : s.vm.findClass RJ6 = some m.cls := hown
  have hl : lv_has ls 1 [(0, .int x0)] := hl
  refine lv_iload_n hx hb dJ6_highestOneBit_0f7a4_0 rfl (lv_at hl 0 rfl) ?_
  refine lv_ldc hx hb hown (hts _ kw_1083) dJ6_highestOneBit_0f7a4_1 ?_
  refine lv_iload_n hx hb dJ6_highestOneBit_0f7a4_3 rfl (lv_at hl 0 rfl) ?_
  refine tk_i hH hS hA (tr_S (n := 1) (As := [.int x0]) hx hb hml hown hts hkb hH hOX hks hE hS hA (s_nlz_0 l D cs kf T O X x0 (by omega) (by omega) (hO.sub (by decide))) kw_1084 kw_1085 kw_20 kw_1086 (by decide +kernel) ⟨Nat.le_of_ble_eq_true rfl, Nat.le_of_ble_eq_true rfl⟩ rfl rfl hl.1 (Nat.le_of_ble_eq_true rfl) dJ6_highestOneBit_0f7a4_4 ⟨Nat.le_of_ble_eq_true rfl, Nat.le_of_ble_eq_true rfl⟩) (fun v4 u H locs hz9 hH hS => ?_)
  obtain ⟨rfl, l_v4, u_v4⟩ := hz9
  refine lv_topc (y := 31) (eq_c (by decide) l_v4 u_v4) ?_
  have hH : HT D cs A T O X H := hH
  refine W.widen (k := 0) (n := 0) (Nat.le_of_ble_eq_true rfl) (Nat.le_of_ble_eq_true rfl) ?_
  refine lv_iushr hx hb dJ6_highestOneBit_0f7a4_7 rfl ?_
  refine lv_topc (y := 1) (by decide +kernel) ?_
  refine lv_iand hx hb dJ6_highestOneBit_0f7a4_8 ?_
  refine lv_topi (fun v8 ev8 => ?_)
  have tv8 : v8.toInt = 1 := by rw [ev8]; exact and_pow 0 (by decide) (by decide) (by omega) (by omega)
  exact te_i hx hb hr hlocks hH hS (⟨rfl, by omega, by omega⟩) dJ6_highestOneBit_0f7a4_9
set_option maxHeartbeats 4000000 in
set_option maxRecDepth 100000 in
theorem s_hob_1 (l : Launch) (D : va_G) (cs : CS) (kf : KF) (T : TF) (O : List Nat) (X : va_W) (x0 : Int32) (l_x0 : 2 ≤ x0.toInt) (u_x0 : x0.toInt ≤ 3) (hO : okO T O []) : TK l D cs kf yJ6_highestOneBit_0f7a4 cJ6_highestOneBit_0f7a4 1 (some (.int)) { frames := 1, cells := 0, slots := 0, locals := 21 } [.int x0] T O X (Ti D cs (fun r u => u = (T, O, X) ∧ 2 ≤ r.toInt ∧ r.toInt ≤ 2)) := by
  refine tk_of (by decide) (Nat.le_of_ble_eq_true rfl) (fun p e s m below meth c ls A H locs hx hb hr hml hown hts hlocks hnm hkb hH hS hA hOX hks hE hl => ?_)
  have hown : s.vm.findClass RJ6 = some m.cls := hown
  have hl : lv_has ls 1 [(0, .int x0)] := hl
  refine lv_iload_n hx hb dJ6_highestOneBit_0f7a4_0 rfl (lv_at hl 0 rfl) ?_
  refine lv_ldc hx hb hown (hts _ kw_1083) dJ6_highestOneBit_0f7a4_1 ?_
  refine lv_iload_n hx hb dJ6_highestOneBit_0f7a4_3 rfl (lv_at hl 0 rfl) ?_
  refine tk_i hH hS hA (tr_S (n := 1) (As := [.int x0]) hx hb hml hown hts hkb hH hOX hks hE hS hA (s_nlz_1 l D cs kf T O X x0 (by omega) (by omega) (hO.sub (by decide))) kw_1084 kw_1085 kw_20 kw_1086 (by decide +kernel) ⟨Nat.le_of_ble_eq_true rfl, Nat.le_of_ble_eq_true rfl⟩ rfl rfl hl.1 (Nat.le_of_ble_eq_true rfl) dJ6_highestOneBit_0f7a4_4 ⟨Nat.le_of_ble_eq_true rfl, Nat.le_of_ble_eq_true rfl⟩) (fun v4 u H locs hz9 hH hS => ?_)
  obtain ⟨rfl, l_v4, u_v4⟩ := hz9
  refine lv_topc (y := 30) (eq_c (by decide) l_v4 u_v4) ?_
  have hH : HT D cs A T O X H := hH
  refine W.widen (k := 0) (n := 0) (Nat.le_of_ble_eq_true rfl) (Nat.le_of_ble_eq_true rfl) ?_
  refine lv_iushr hx hb dJ6_highestOneBit_0f7a4_7 rfl ?_
  refine lv_topc (y := 2) (by decide +kernel) ?_
  refine lv_iand hx hb dJ6_highestOneBit_0f7a4_8 ?_
  refine lv_topi (fun v8 ev8 => ?_)
  have tv8 : v8.toInt = 2 := by rw [ev8]; exact and_pow 1 (by decide) (by decide) (by omega) (by omega)
  exact te_i hx hb hr hlocks hH hS (⟨rfl, by omega, by omega⟩) dJ6_highestOneBit_0f7a4_9
set_option maxHeartbeats 4000000 in
set_option maxRecDepth 100000 in
theorem s_hob_2 (l : Launch) (D : va_G) (cs : CS) (kf : KF) (T : TF) (O : List Nat) (X : va_W) (x0 : Int32) (l_x0 : 4 ≤ x0.toInt) (u_x0 : x0.toInt ≤ 7) (hO : okO T O []) : TK l D cs kf yJ6_highestOneBit_0f7a4 cJ6_highestOneBit_0f7a4 1 (some (.int)) { frames := 1, cells := 0, slots := 0, locals := 21 } [.int x0] T O X (Ti D cs (fun r u => u = (T, O, X) ∧ 4 ≤ r.toInt ∧ r.toInt ≤ 4)) := by
  refine tk_of (by decide) (Nat.le_of_ble_eq_true rfl) (fun p e s m below meth c ls A H locs hx hb hr hml hown hts hlocks hnm hkb hH hS hA hOX hks hE hl => ?_)
  have hown : s.vm.findClass RJ6 = some m.cls := hown
  have hl : lv_has ls 1 [(0, .int x0)] := hl
  refine lv_iload_n hx hb dJ6_highestOneBit_0f7a4_0 rfl (lv_at hl 0 rfl) ?_
  refine lv_ldc hx hb hown (hts _ kw_1083) dJ6_highestOneBit_0f7a4_1 ?_
  refine lv_iload_n hx hb dJ6_highestOneBit_0f7a4_3 rfl (lv_at hl 0 rfl) ?_
  refine tk_i hH hS hA (tr_S (n := 1) (As := [.int x0]) hx hb hml hown hts hkb hH hOX hks hE hS hA (s_nlz_2 l D cs kf T O X x0 (by omega) (by omega) (hO.sub (by decide))) kw_1084 kw_1085 kw_20 kw_1086 (by decide +kernel) ⟨Nat.le_of_ble_eq_true rfl, Nat.le_of_ble_eq_true rfl⟩ rfl rfl hl.1 (Nat.le_of_ble_eq_true rfl) dJ6_highestOneBit_0f7a4_4 ⟨Nat.le_of_ble_eq_true rfl, Nat.le_of_ble_eq_true rfl⟩) (fun v4 u H locs hz9 hH hS => ?_)
  obtain ⟨rfl, l_v4, u_v4⟩ := hz9
  refine lv_topc (y := 29) (eq_c (by decide) l_v4 u_v4) ?_
  have hH : HT D cs A T O X H := hH
  refine W.widen (k := 0) (n := 0) (Nat.le_of_ble_eq_true rfl) (Nat.le_of_ble_eq_true rfl) ?_
  refine lv_iushr hx hb dJ6_highestOneBit_0f7a4_7 rfl ?_
  refine lv_topc (y := 4) (by decide +kernel) ?_
  refine lv_iand hx hb dJ6_highestOneBit_0f7a4_8 ?_
  refine lv_topi (fun v8 ev8 => ?_)
  have tv8 : v8.toInt = 4 := by rw [ev8]; exact and_pow 2 (by decide) (by decide) (by omega) (by omega)
  exact te_i hx hb hr hlocks hH hS (⟨rfl, by omega, by omega⟩) dJ6_highestOneBit_0f7a4_9
set_option maxHeartbeats 4000000 in
set_option maxRecDepth 100000 in
theorem s_hob_3 (l : Launch) (D : va_G) (cs : CS) (kf : KF) (T : TF) (O : List Nat) (X : va_W) (x0 : Int32) (l_x0 : 8 ≤ x0.toInt) (u_x0 : x0.toInt ≤ 15) (hO : okO T O []) : TK l D cs kf yJ6_highestOneBit_0f7a4 cJ6_highestOneBit_0f7a4 1 (some (.int)) { frames := 1, cells := 0, slots := 0, locals := 21 } [.int x0] T O X (Ti D cs (fun r u => u = (T, O, X) ∧ 8 ≤ r.toInt ∧ r.toInt ≤ 8)) := by
  refine tk_of (by decide) (Nat.le_of_ble_eq_true rfl) (fun p e s m below meth c ls A H locs hx hb hr hml hown hts hlocks hnm hkb hH hS hA hOX hks hE hl => ?_)
  have hown : s.vm.findClass RJ6 = some m.cls := hown
  have hl : lv_has ls 1 [(0, .int x0)] := hl
  refine lv_iload_n hx hb dJ6_highestOneBit_0f7a4_0 rfl (lv_at hl 0 rfl) ?_
  refine lv_ldc hx hb hown (hts _ kw_1083) dJ6_highestOneBit_0f7a4_1 ?_
  refine lv_iload_n hx hb dJ6_highestOneBit_0f7a4_3 rfl (lv_at hl 0 rfl) ?_
  refine tk_i hH hS hA (tr_S (n := 1) (As := [.int x0]) hx hb hml hown hts hkb hH hOX hks hE hS hA (s_nlz_3 l D cs kf T O X x0 (by omega) (by omega) (hO.sub (by decide))) kw_1084 kw_1085 kw_20 kw_1086 (by decide +kernel) ⟨Nat.le_of_ble_eq_true rfl, Nat.le_of_ble_eq_true rfl⟩ rfl rfl hl.1 (Nat.le_of_ble_eq_true rfl) dJ6_highestOneBit_0f7a4_4 ⟨Nat.le_of_ble_eq_true rfl, Nat.le_of_ble_eq_true rfl⟩) (fun v4 u H locs hz9 hH hS => ?_)
  obtain ⟨rfl, l_v4, u_v4⟩ := hz9
  refine lv_topc (y := 28) (eq_c (by decide) l_v4 u_v4) ?_
  have hH : HT D cs A T O X H := hH
  refine W.widen (k := 0) (n := 0) (Nat.le_of_ble_eq_true rfl) (Nat.le_of_ble_eq_true rfl) ?_
  refine lv_iushr hx hb dJ6_highestOneBit_0f7a4_7 rfl ?_
  refine lv_topc (y := 8) (by decide +kernel) ?_
  refine lv_iand hx hb dJ6_highestOneBit_0f7a4_8 ?_
  refine lv_topi (fun v8 ev8 => ?_)
  have tv8 : v8.toInt = 8 := by rw [ev8]; exact and_pow 3 (by decide) (by decide) (by omega) (by omega)
  exact te_i hx hb hr hlocks hH hS (⟨rfl, by omega, by omega⟩) dJ6_highestOneBit_0f7a4_9
set_option maxHeartbeats 4000000 in
set_option maxRecDepth 100000 in
theorem s_hob_4 (l : Launch) (D : va_G) (cs : CS) (kf : KF) (T : TF) (O : List Nat) (X : va_W) (x0 : Int32) (l_x0 : 16 ≤ x0.toInt) (u_x0 : x0.toInt ≤ 31) (hO : okO T O []) : TK l D cs kf yJ6_highestOneBit_0f7a4 cJ6_highestOneBit_0f7a4 1 (some (.int)) { frames := 1, cells := 0, slots := 0, locals := 21 } [.int x0] T O X (Ti D cs (fun r u => u = (T, O, X) ∧ 16 ≤ r.toInt ∧ r.toInt ≤ 16)) := by
  refine tk_of (by decide) (Nat.le_of_ble_eq_true rfl) (fun p e s m below meth c ls A H locs hx hb hr hml hown hts hlocks hnm hkb hH hS hA hOX hks hE hl => ?_)
  have hown : s.vm.findClass RJ6 = some m.cls := hown
  have hl : lv_has ls 1 [(0, .int x0)] := hl
  refine lv_iload_n hx hb dJ6_highestOneBit_0f7a4_0 rfl (lv_at hl 0 rfl) ?_
  refine lv_ldc hx hb hown (hts _ kw_1083) dJ6_highestOneBit_0f7a4_1 ?_
  refine lv_iload_n hx hb dJ6_highestOneBit_0f7a4_3 rfl (lv_at hl 0 rfl) ?_
  refine tk_i hH hS hA (tr_S (n := 1) (As := [.int x0]) hx hb hml hown hts hkb hH hOX hks hE hS hA (s_nlz_4 l D cs kf T O X x0 (by omega) (by omega) (hO.sub (by decide))) kw_1084 kw_1085 kw_20 kw_1086 (by decide +kernel) ⟨Nat.le_of_ble_eq_true rfl, Nat.le_of_ble_eq_true rfl⟩ rfl rfl hl.1 (Nat.le_of_ble_eq_true rfl) dJ6_highestOneBit_0f7a4_4 ⟨Nat.le_of_ble_eq_true rfl, Nat.le_of_ble_eq_true rfl⟩) (fun v4 u H locs hz9 hH hS => ?_)
  obtain ⟨rfl, l_v4, u_v4⟩ := hz9
  refine lv_topc (y := 27) (eq_c (by decide) l_v4 u_v4) ?_
  have hH : HT D cs A T O X H := hH
  refine W.widen (k := 0) (n := 0) (Nat.le_of_ble_eq_true rfl) (Nat.le_of_ble_eq_true rfl) ?_
  refine lv_iushr hx hb dJ6_highestOneBit_0f7a4_7 rfl ?_
  refine lv_topc (y := 16) (by decide +kernel) ?_
  refine lv_iand hx hb dJ6_highestOneBit_0f7a4_8 ?_
  refine lv_topi (fun v8 ev8 => ?_)
  have tv8 : v8.toInt = 16 := by rw [ev8]; exact and_pow 4 (by decide) (by decide) (by omega) (by omega)
  exact te_i hx hb hr hlocks hH hS (⟨rfl, by omega, by omega⟩) dJ6_highestOneBit_0f7a4_9
set_option maxHeartbeats 4000000 in
set_option maxRecDepth 100000 in
theorem s_hob_5 (l : Launch) (D : va_G) (cs : CS) (kf : KF) (T : TF) (O : List Nat) (X : va_W) (x0 : Int32) (l_x0 : 32 ≤ x0.toInt) (u_x0 : x0.toInt ≤ 63) (hO : okO T O []) : TK l D cs kf yJ6_highestOneBit_0f7a4 cJ6_highestOneBit_0f7a4 1 (some (.int)) { frames := 1, cells := 0, slots := 0, locals := 21 } [.int x0] T O X (Ti D cs (fun r u => u = (T, O, X) ∧ 32 ≤ r.toInt ∧ r.toInt ≤ 32)) := by
  refine tk_of (by decide) (Nat.le_of_ble_eq_true rfl) (fun p e s m below meth c ls A H locs hx hb hr hml hown hts hlocks hnm hkb hH hS hA hOX hks hE hl => ?_)
  have hown : s.vm.findClass RJ6 = some m.cls := hown
  have hl : lv_has ls 1 [(0, .int x0)] := hl
  refine lv_iload_n hx hb dJ6_highestOneBit_0f7a4_0 rfl (lv_at hl 0 rfl) ?_
  refine lv_ldc hx hb hown (hts _ kw_1083) dJ6_highestOneBit_0f7a4_1 ?_
  refine lv_iload_n hx hb dJ6_highestOneBit_0f7a4_3 rfl (lv_at hl 0 rfl) ?_
  refine tk_i hH hS hA (tr_S (n := 1) (As := [.int x0]) hx hb hml hown hts hkb hH hOX hks hE hS hA (s_nlz_5 l D cs kf T O X x0 (by omega) (by omega) (hO.sub (by decide))) kw_1084 kw_1085 kw_20 kw_1086 (by decide +kernel) ⟨Nat.le_of_ble_eq_true rfl, Nat.le_of_ble_eq_true rfl⟩ rfl rfl hl.1 (Nat.le_of_ble_eq_true rfl) dJ6_highestOneBit_0f7a4_4 ⟨Nat.le_of_ble_eq_true rfl, Nat.le_of_ble_eq_true rfl⟩) (fun v4 u H locs hz9 hH hS => ?_)
  obtain ⟨rfl, l_v4, u_v4⟩ := hz9
  refine lv_topc (y := 26) (eq_c (by decide) l_v4 u_v4) ?_
  have hH : HT D cs A T O X H := hH
  refine W.widen (k := 0) (n := 0) (Nat.le_of_ble_eq_true rfl) (Nat.le_of_ble_eq_true rfl) ?_
  refine lv_iushr hx hb dJ6_highestOneBit_0f7a4_7 rfl ?_
  refine lv_topc (y := 32) (by decide +kernel) ?_
  refine lv_iand hx hb dJ6_highestOneBit_0f7a4_8 ?_
  refine lv_topi (fun v8 ev8 => ?_)
  have tv8 : v8.toInt = 32 := by rw [ev8]; exact and_pow 5 (by decide) (by decide) (by omega) (by omega)
  exact te_i hx hb hr hlocks hH hS (⟨rfl, by omega, by omega⟩) dJ6_highestOneBit_0f7a4_9
set_option maxHeartbeats 4000000 in
set_option maxRecDepth 100000 in
theorem s_hob_6 (l : Launch) (D : va_G) (cs : CS) (kf : KF) (T : TF) (O : List Nat) (X : va_W) (x0 : Int32) (l_x0 : 64 ≤ x0.toInt) (u_x0 : x0.toInt ≤ 127) (hO : okO T O []) : TK l D cs kf yJ6_highestOneBit_0f7a4 cJ6_highestOneBit_0f7a4 1 (some (.int)) { frames := 1, cells := 0, slots := 0, locals := 21 } [.int x0] T O X (Ti D cs (fun r u => u = (T, O, X) ∧ 64 ≤ r.toInt ∧ r.toInt ≤ 64)) := by
  refine tk_of (by decide) (Nat.le_of_ble_eq_true rfl) (fun p e s m below meth c ls A H locs hx hb hr hml hown hts hlocks hnm hkb hH hS hA hOX hks hE hl => ?_)
  have hown : s.vm.findClass RJ6 = some m.cls := hown
  have hl : lv_has ls 1 [(0, .int x0)] := hl
  refine lv_iload_n hx hb dJ6_highestOneBit_0f7a4_0 rfl (lv_at hl 0 rfl) ?_
  refine lv_ldc hx hb hown (hts _ kw_1083) dJ6_highestOneBit_0f7a4_1 ?_
  refine lv_iload_n hx hb dJ6_highestOneBit_0f7a4_3 rfl (lv_at hl 0 rfl) ?_
  refine tk_i hH hS hA (tr_S (n := 1) (As := [.int x0]) hx hb hml hown hts hkb hH hOX hks hE hS hA (s_nlz_6 l D cs kf T O X x0 (by omega) (by omega) (hO.sub (by decide))) kw_1084 kw_1085 kw_20 kw_1086 (by decide +kernel) ⟨Nat.le_of_ble_eq_true rfl, Nat.le_of_ble_eq_true rfl⟩ rfl rfl hl.1 (Nat.le_of_ble_eq_true rfl) dJ6_highestOneBit_0f7a4_4 ⟨Nat.le_of_ble_eq_true rfl, Nat.le_of_ble_eq_true rfl⟩) (fun v4 u H locs hz9 hH hS => ?_)
  obtain ⟨rfl, l_v4, u_v4⟩ := hz9
  refine lv_topc (y := 25) (eq_c (by decide) l_v4 u_v4) ?_
  have hH : HT D cs A T O X H := hH
  refine W.widen (k := 0) (n := 0) (Nat.le_of_ble_eq_true rfl) (Nat.le_of_ble_eq_true rfl) ?_
  refine lv_iushr hx hb dJ6_highestOneBit_0f7a4_7 rfl ?_
  refine lv_topc (y := 64) (by decide +kernel) ?_
  refine lv_iand hx hb dJ6_highestOneBit_0f7a4_8 ?_
  refine lv_topi (fun v8 ev8 => ?_)
  have tv8 : v8.toInt = 64 := by rw [ev8]; exact and_pow 6 (by decide) (by decide) (by omega) (by omega)
  exact te_i hx hb hr hlocks hH hS (⟨rfl, by omega, by omega⟩) dJ6_highestOneBit_0f7a4_9
set_option maxHeartbeats 4000000 in
set_option maxRecDepth 100000 in
theorem s_hob_7 (l : Launch) (D : va_G) (cs : CS) (kf : KF) (T : TF) (O : List Nat) (X : va_W) (x0 : Int32) (l_x0 : 128 ≤ x0.toInt) (u_x0 : x0.toInt ≤ 255) (hO : okO T O []) : TK l D cs kf yJ6_highestOneBit_0f7a4 cJ6_highestOneBit_0f7a4 1 (some (.int)) { frames := 1, cells := 0, slots := 0, locals := 21 } [.int x0] T O X (Ti D cs (fun r u => u = (T, O, X) ∧ 128 ≤ r.toInt ∧ r.toInt ≤ 128)) := by
  refine tk_of (by decide) (Nat.le_of_ble_eq_true rfl) (fun p e s m below meth c ls A H locs hx hb hr hml hown hts hlocks hnm hkb hH hS hA hOX hks hE hl => ?_)
  have hown : s.vm.findClass RJ6 = some m.cls := hown
  have hl : lv_has ls 1 [(0, .int x0)] := hl
  refine lv_iload_n hx hb dJ6_highestOneBit_0f7a4_0 rfl (lv_at hl 0 rfl) ?_
  refine lv_ldc hx hb hown (hts _ kw_1083) dJ6_highestOneBit_0f7a4_1 ?_
  refine lv_iload_n hx hb dJ6_highestOneBit_0f7a4_3 rfl (lv_at hl 0 rfl) ?_
  refine tk_i hH hS hA (tr_S (n := 1) (As := [.int x0]) hx hb hml hown hts hkb hH hOX hks hE hS hA (s_nlz_7 l D cs kf T O X x0 (by omega) (by omega) (hO.sub (by decide))) kw_1084 kw_1085 kw_20 kw_1086 (by decide +kernel) ⟨Nat.le_of_ble_eq_true rfl, Nat.le_of_ble_eq_true rfl⟩ rfl rfl hl.1 (Nat.le_of_ble_eq_true rfl) dJ6_highestOneBit_0f7a4_4 ⟨Nat.le_of_ble_eq_true rfl, Nat.le_of_ble_eq_true rfl⟩) (fun v4 u H locs hz9 hH hS => ?_)
  obtain ⟨rfl, l_v4, u_v4⟩ := hz9
  refine lv_topc (y := 24) (eq_c (by decide) l_v4 u_v4) ?_
  have hH : HT D cs A T O X H := hH
  refine W.widen (k := 0) (n := 0) (Nat.le_of_ble_eq_true rfl) (Nat.le_of_ble_eq_true rfl) ?_
  refine lv_iushr hx hb dJ6_highestOneBit_0f7a4_7 rfl ?_
  refine lv_topc (y := 128) (by decide +kernel) ?_
  refine lv_iand hx hb dJ6_highestOneBit_0f7a4_8 ?_
  refine lv_topi (fun v8 ev8 => ?_)
  have tv8 : v8.toInt = 128 := by rw [ev8]; exact and_pow 7 (by decide) (by decide) (by omega) (by omega)
  exact te_i hx hb hr hlocks hH hS (⟨rfl, by omega, by omega⟩) dJ6_highestOneBit_0f7a4_9
set_option maxHeartbeats 4000000 in
set_option maxRecDepth 100000 in
theorem s_hob_8 (l : Launch) (D : va_G) (cs : CS) (kf : KF) (T : TF) (O : List Nat) (X : va_W) (x0 : Int32) (l_x0 : 256 ≤ x0.toInt) (u_x0 : x0.toInt ≤ 511) (hO : okO T O []) : TK l D cs kf yJ6_highestOneBit_0f7a4 cJ6_highestOneBit_0f7a4 1 (some (.int)) { frames := 1, cells := 0, slots := 0, locals := 21 } [.int x0] T O X (Ti D cs (fun r u => u = (T, O, X) ∧ 256 ≤ r.toInt ∧ r.toInt ≤ 256)) := by
  refine tk_of (by decide) (Nat.le_of_ble_eq_true rfl) (fun p e s m below meth c ls A H locs hx hb hr hml hown hts hlocks hnm hkb hH hS hA hOX hks hE hl => ?_)
  have hown : s.vm.findClass RJ6 = some m.cls := hown
  have hl : lv_has ls 1 [(0, .int x0)] := hl
  refine lv_iload_n hx hb dJ6_highestOneBit_0f7a4_0 rfl (lv_at hl 0 rfl) ?_
  refine lv_ldc hx hb hown (hts _ kw_1083) dJ6_highestOneBit_0f7a4_1 ?_
  refine lv_iload_n hx hb dJ6_highestOneBit_0f7a4_3 rfl (lv_at hl 0 rfl) ?_
  refine tk_i hH hS hA (tr_S (n := 1) (As := [.int x0]) hx hb hml hown hts hkb hH hOX hks hE hS hA (s_nlz_8 l D cs kf T O X x0 (by omega) (by omega) (hO.sub (by decide))) kw_1084 kw_1085 kw_20 kw_1086 (by decide +kernel) ⟨Nat.le_of_ble_eq_true rfl, Nat.le_of_ble_eq_true rfl⟩ rfl rfl hl.1 (Nat.le_of_ble_eq_true rfl) dJ6_highestOneBit_0f7a4_4 ⟨Nat.le_of_ble_eq_true rfl, Nat.le_of_ble_eq_true rfl⟩) (fun v4 u H locs hz9 hH hS => ?_)
  obtain ⟨rfl, l_v4, u_v4⟩ := hz9
  refine lv_topc (y := 23) (eq_c (by decide) l_v4 u_v4) ?_
  have hH : HT D cs A T O X H := hH
  refine W.widen (k := 0) (n := 0) (Nat.le_of_ble_eq_true rfl) (Nat.le_of_ble_eq_true rfl) ?_
  refine lv_iushr hx hb dJ6_highestOneBit_0f7a4_7 rfl ?_
  refine lv_topc (y := 256) (by decide +kernel) ?_
  refine lv_iand hx hb dJ6_highestOneBit_0f7a4_8 ?_
  refine lv_topi (fun v8 ev8 => ?_)
  have tv8 : v8.toInt = 256 := by rw [ev8]; exact and_pow 8 (by decide) (by decide) (by omega) (by omega)
  exact te_i hx hb hr hlocks hH hS (⟨rfl, by omega, by omega⟩) dJ6_highestOneBit_0f7a4_9
set_option maxHeartbeats 4000000 in
set_option maxRecDepth 100000 in
theorem s_hob_9 (l : Launch) (D : va_G) (cs : CS) (kf : KF) (T : TF) (O : List Nat) (X : va_W) (x0 : Int32) (l_x0 : 512 ≤ x0.toInt) (u_x0 : x0.toInt ≤ 1023) (hO : okO T O []) : TK l D cs kf yJ6_highestOneBit_0f7a4 cJ6_highestOneBit_0f7a4 1 (some (.int)) { frames := 1, cells := 0, slots := 0, locals := 21 } [.int x0] T O X (Ti D cs (fun r u => u = (T, O, X) ∧ 512 ≤ r.toInt ∧ r.toInt ≤ 512)) := by
  refine tk_of (by decide) (Nat.le_of_ble_eq_true rfl) (fun p e s m below meth c ls A H locs hx hb hr hml hown hts hlocks hnm hkb hH hS hA hOX hks hE hl => ?_)
  have hown : s.vm.findClass RJ6 = some m.cls := hown
  have hl : lv_has ls 1 [(0, .int x0)] := hl
  refine lv_iload_n hx hb dJ6_highestOneBit_0f7a4_0 rfl (lv_at hl 0 rfl) ?_
  refine lv_ldc hx hb hown (hts _ kw_1083) dJ6_highestOneBit_0f7a4_1 ?_
  refine lv_iload_n hx hb dJ6_highestOneBit_0f7a4_3 rfl (lv_at hl 0 rfl) ?_
  refine tk_i hH hS hA (tr_S (n := 1) (As := [.int x0]) hx hb hml hown hts hkb hH hOX hks hE hS hA (s_nlz_9 l D cs kf T O X x0 (by omega) (by omega) (hO.sub (by decide))) kw_1084 kw_1085 kw_20 kw_1086 (by decide +kernel) ⟨Nat.le_of_ble_eq_true rfl, Nat.le_of_ble_eq_true rfl⟩ rfl rfl hl.1 (Nat.le_of_ble_eq_true rfl) dJ6_highestOneBit_0f7a4_4 ⟨Nat.le_of_ble_eq_true rfl, Nat.le_of_ble_eq_true rfl⟩) (fun v4 u H locs hz9 hH hS => ?_)
  obtain ⟨rfl, l_v4, u_v4⟩ := hz9
  refine lv_topc (y := 22) (eq_c (by decide) l_v4 u_v4) ?_
  have hH : HT D cs A T O X H := hH
  refine W.widen (k := 0) (n := 0) (Nat.le_of_ble_eq_true rfl) (Nat.le_of_ble_eq_true rfl) ?_
  refine lv_iushr hx hb dJ6_highestOneBit_0f7a4_7 rfl ?_
  refine lv_topc (y := 512) (by decide +kernel) ?_
  refine lv_iand hx hb dJ6_highestOneBit_0f7a4_8 ?_
  refine lv_topi (fun v8 ev8 => ?_)
  have tv8 : v8.toInt = 512 := by rw [ev8]; exact and_pow 9 (by decide) (by decide) (by omega) (by omega)
  exact te_i hx hb hr hlocks hH hS (⟨rfl, by omega, by omega⟩) dJ6_highestOneBit_0f7a4_9
set_option maxHeartbeats 4000000 in
set_option maxRecDepth 100000 in
theorem s_hob_10 (l : Launch) (D : va_G) (cs : CS) (kf : KF) (T : TF) (O : List Nat) (X : va_W) (x0 : Int32) (l_x0 : 1024 ≤ x0.toInt) (u_x0 : x0.toInt ≤ 2047) (hO : okO T O []) : TK l D cs kf yJ6_highestOneBit_0f7a4 cJ6_highestOneBit_0f7a4 1 (some (.int)) { frames := 1, cells := 0, slots := 0, locals := 21 } [.int x0] T O X (Ti D cs (fun r u => u = (T, O, X) ∧ 1024 ≤ r.toInt ∧ r.toInt ≤ 1024)) := by
  refine tk_of (by decide) (Nat.le_of_ble_eq_true rfl) (fun p e s m below meth c ls A H locs hx hb hr hml hown hts hlocks hnm hkb hH hS hA hOX hks hE hl => ?_)
  have hown : s.vm.findClass RJ6 = some m.cls := hown
  have hl : lv_has ls 1 [(0, .int x0)] := hl
  refine lv_iload_n hx hb dJ6_highestOneBit_0f7a4_0 rfl (lv_at hl 0 rfl) ?_
  refine lv_ldc hx hb hown (hts _ kw_1083) dJ6_highestOneBit_0f7a4_1 ?_
  refine lv_iload_n hx hb dJ6_highestOneBit_0f7a4_3 rfl (lv_at hl 0 rfl) ?_
  refine tk_i hH hS hA (tr_S (n := 1) (As := [.int x0]) hx hb hml hown hts hkb hH hOX hks hE hS hA (s_nlz_10 l D cs kf T O X x0 (by omega) (by omega) (hO.sub (by decide))) kw_1084 kw_1085 kw_20 kw_1086 (by decide +kernel) ⟨Nat.le_of_ble_eq_true rfl, Nat.le_of_ble_eq_true rfl⟩ rfl rfl hl.1 (Nat.le_of_ble_eq_true rfl) dJ6_highestOneBit_0f7a4_4 ⟨Nat.le_of_ble_eq_true rfl, Nat.le_of_ble_eq_true rfl⟩) (fun v4 u H locs hz9 hH hS => ?_)
  obtain ⟨rfl, l_v4, u_v4⟩ := hz9
  refine lv_topc (y := 21) (eq_c (by decide) l_v4 u_v4) ?_
  have hH : HT D cs A T O X H := hH
  refine W.widen (k := 0) (n := 0) (Nat.le_of_ble_eq_true rfl) (Nat.le_of_ble_eq_true rfl) ?_
  refine lv_iushr hx hb dJ6_highestOneBit_0f7a4_7 rfl ?_
  refine lv_topc (y := 1024) (by decide +kernel) ?_
  refine lv_iand hx hb dJ6_highestOneBit_0f7a4_8 ?_
  refine lv_topi (fun v8 ev8 => ?_)
  have tv8 : v8.toInt = 1024 := by rw [ev8]; exact and_pow 10 (by decide) (by decide) (by omega) (by omega)
  exact te_i hx hb hr hlocks hH hS (⟨rfl, by omega, by omega⟩) dJ6_highestOneBit_0f7a4_9
set_option maxHeartbeats 4000000 in
set_option maxRecDepth 100000 in
theorem s_hob_11 (l : Launch) (D : va_G) (cs : CS) (kf : KF) (T : TF) (O : List Nat) (X : va_W) (x0 : Int32) (l_x0 : 2048 ≤ x0.toInt) (u_x0 : x0.toInt ≤ 4095) (hO : okO T O []) : TK l D cs kf yJ6_highestOneBit_0f7a4 cJ6_highestOneBit_0f7a4 1 (some (.int)) { frames := 1, cells := 0, slots := 0, locals := 21 } [.int x0] T O X (Ti D cs (fun r u => u = (T, O, X) ∧ 2048 ≤ r.toInt ∧ r.toInt ≤ 2048)) := by
  refine tk_of (by decide) (Nat.le_of_ble_eq_true rfl) (fun p e s m below meth c ls A H locs hx hb hr hml hown hts hlocks hnm hkb hH hS hA hOX hks hE hl => ?_)
  have hown : s.vm.findClass RJ6 = some m.cls := hown
  have hl : lv_has ls 1 [(0, .int x0)] := hl
  refine lv_iload_n hx hb dJ6_highestOneBit_0f7a4_0 rfl (lv_at hl 0 rfl) ?_
  refine lv_ldc hx hb hown (hts _ kw_1083) dJ6_highestOneBit_0f7a4_1 ?_
  refine lv_iload_n hx hb dJ6_highestOneBit_0f7a4_3 rfl (lv_at hl 0 rfl) ?_
  refine tk_i hH hS hA (tr_S (n := 1) (As := [.int x0]) hx hb hml hown hts hkb hH hOX hks hE hS hA (s_nlz_11 l D cs kf T O X x0 (by omega) (by omega) (hO.sub (by decide))) kw_1084 kw_1085 kw_20 kw_1086 (by decide +kernel) ⟨Nat.le_of_ble_eq_true rfl, Nat.le_of_ble_eq_true rfl⟩ rfl rfl hl.1 (Nat.le_of_ble_eq_true rfl) dJ6_highestOneBit_0f7a4_4 ⟨Nat.le_of_ble_eq_true rfl, Nat.le_of_ble_eq_true rfl⟩) (fun v4 u H locs hz9 hH hS => ?_)
  obtain ⟨rfl, l_v4, u_v4⟩ := hz9
  refine lv_topc (y := 20) (eq_c (by decide) l_v4 u_v4) ?_
  have hH : HT D cs A T O X H := hH
  refine W.widen (k := 0) (n := 0) (Nat.le_of_ble_eq_true rfl) (Nat.le_of_ble_eq_true rfl) ?_
  refine lv_iushr hx hb dJ6_highestOneBit_0f7a4_7 rfl ?_
  refine lv_topc (y := 2048) (by decide +kernel) ?_
  refine lv_iand hx hb dJ6_highestOneBit_0f7a4_8 ?_
  refine lv_topi (fun v8 ev8 => ?_)
  have tv8 : v8.toInt = 2048 := by rw [ev8]; exact and_pow 11 (by decide) (by decide) (by omega) (by omega)
  exact te_i hx hb hr hlocks hH hS (⟨rfl, by omega, by omega⟩) dJ6_highestOneBit_0f7a4_9
set_option maxHeartbeats 4000000 in
set_option maxRecDepth 100000 in
theorem s_hob_12 (l : Launch) (D : va_G) (cs : CS) (kf : KF) (T : TF) (O : List Nat) (X : va_W) (x0 : Int32) (l_x0 : 4096 ≤ x0.toInt) (u_x0 : x0.toInt ≤ 8191) (hO : okO T O []) : TK l D cs kf yJ6_highestOneBit_0f7a4 cJ6_highestOneBit_0f7a4 1 (some (.int)) { frames := 1, cells := 0, slots := 0, locals := 21 } [.int x0] T O X (Ti D cs (fun r u => u = (T, O, X) ∧ 4096 ≤ r.toInt ∧ r.toInt ≤ 4096)) := by
  refine tk_of (by decide) (Nat.le_of_ble_eq_true rfl) (fun p e s m below meth c ls A H locs hx hb hr hml hown hts hlocks hnm hkb hH hS hA hOX hks hE hl => ?_)
  have hown : s.vm.findClass RJ6 = some m.cls := hown
  have hl : lv_has ls 1 [(0, .int x0)] := hl
  refine lv_iload_n hx hb dJ6_highestOneBit_0f7a4_0 rfl (lv_at hl 0 rfl) ?_
  refine lv_ldc hx hb hown (hts _ kw_1083) dJ6_highestOneBit_0f7a4_1 ?_
  refine lv_iload_n hx hb dJ6_highestOneBit_0f7a4_3 rfl (lv_at hl 0 rfl) ?_
  refine tk_i hH hS hA (tr_S (n := 1) (As := [.int x0]) hx hb hml hown hts hkb hH hOX hks hE hS hA (s_nlz_12 l D cs kf T O X x0 (by omega) (by omega) (hO.sub (by decide))) kw_1084 kw_1085 kw_20 kw_1086 (by decide +kernel) ⟨Nat.le_of_ble_eq_true rfl, Nat.le_of_ble_eq_true rfl⟩ rfl rfl hl.1 (Nat.le_of_ble_eq_true rfl) dJ6_highestOneBit_0f7a4_4 ⟨Nat.le_of_ble_eq_true rfl, Nat.le_of_ble_eq_true rfl⟩) (fun v4 u H locs hz9 hH hS => ?_)
  obtain ⟨rfl, l_v4, u_v4⟩ := hz9
  refine lv_topc (y := 19) (eq_c (by decide) l_v4 u_v4) ?_
  have hH : HT D cs A T O X H := hH
  refine W.widen (k := 0) (n := 0) (Nat.le_of_ble_eq_true rfl) (Nat.le_of_ble_eq_true rfl) ?_
  refine lv_iushr hx hb dJ6_highestOneBit_0f7a4_7 rfl ?_
  refine lv_topc (y := 4096) (by decide +kernel) ?_
  refine lv_iand hx hb dJ6_highestOneBit_0f7a4_8 ?_
  refine lv_topi (fun v8 ev8 => ?_)
  have tv8 : v8.toInt = 4096 := by rw [ev8]; exact and_pow 12 (by decide) (by decide) (by omega) (by omega)
  exact te_i hx hb hr hlocks hH hS (⟨rfl, by omega, by omega⟩) dJ6_highestOneBit_0f7a4_9
set_option maxHeartbeats 4000000 in
set_option maxRecDepth 100000 in
theorem s_hob_13 (l : Launch) (D : va_G) (cs : CS) (kf : KF) (T : TF) (O : List Nat) (X : va_W) (x0 : Int32) (l_x0 : 8192 ≤ x0.toInt) (u_x0 : x0.toInt ≤ 16383) (hO : okO T O []) : TK l D cs kf yJ6_highestOneBit_0f7a4 cJ6_highestOneBit_0f7a4 1 (some (.int)) { frames := 1, cells := 0, slots := 0, locals := 21 } [.int x0] T O X (Ti D cs (fun r u => u = (T, O, X) ∧ 8192 ≤ r.toInt ∧ r.toInt ≤ 8192)) := by
  refine tk_of (by decide) (Nat.le_of_ble_eq_true rfl) (fun p e s m below meth c ls A H locs hx hb hr hml hown hts hlocks hnm hkb hH hS hA hOX hks hE hl => ?_)
  have hown : s.vm.findClass RJ6 = some m.cls := hown
  have hl : lv_has ls 1 [(0, .int x0)] := hl
  refine lv_iload_n hx hb dJ6_highestOneBit_0f7a4_0 rfl (lv_at hl 0 rfl) ?_
  refine lv_ldc hx hb hown (hts _ kw_1083) dJ6_highestOneBit_0f7a4_1 ?_
  refine lv_iload_n hx hb dJ6_highestOneBit_0f7a4_3 rfl (lv_at hl 0 rfl) ?_
  refine tk_i hH hS hA (tr_S (n := 1) (As := [.int x0]) hx hb hml hown hts hkb hH hOX hks hE hS hA (s_nlz_13 l D cs kf T O X x0 (by omega) (by omega) (hO.sub (by decide))) kw_1084 kw_1085 kw_20 kw_1086 (by decide +kernel) ⟨Nat.le_of_ble_eq_true rfl, Nat.le_of_ble_eq_true rfl⟩ rfl rfl hl.1 (Nat.le_of_ble_eq_true rfl) dJ6_highestOneBit_0f7a4_4 ⟨Nat.le_of_ble_eq_true rfl, Nat.le_of_ble_eq_true rfl⟩) (fun v4 u H locs hz9 hH hS => ?_)
  obtain ⟨rfl, l_v4, u_v4⟩ := hz9
  refine lv_topc (y := 18) (eq_c (by decide) l_v4 u_v4) ?_
  have hH : HT D cs A T O X H := hH
  refine W.widen (k := 0) (n := 0) (Nat.le_of_ble_eq_true rfl) (Nat.le_of_ble_eq_true rfl) ?_
  refine lv_iushr hx hb dJ6_highestOneBit_0f7a4_7 rfl ?_
  refine lv_topc (y := 8192) (by decide +kernel) ?_
  refine lv_iand hx hb dJ6_highestOneBit_0f7a4_8 ?_
  refine lv_topi (fun v8 ev8 => ?_)
  have tv8 : v8.toInt = 8192 := by rw [ev8]; exact and_pow 13 (by decide) (by decide) (by omega) (by omega)
  exact te_i hx hb hr hlocks hH hS (⟨rfl, by omega, by omega⟩) dJ6_highestOneBit_0f7a4_9
theorem s_hob (l : Launch) (D : va_G) (cs : CS) (kf : KF) (T : TF) (O : List Nat) (X : va_W) (x0 : Int32) (l_x0 : 0 ≤ x0.toInt) (u_x0 : x0.toInt ≤ 16383) (hO : okO T O []) : TK l D cs kf yJ6_highestOneBit_0f7a4 cJ6_highestOneBit_0f7a4 1 (some (.int)) { frames := 1, cells := 0, slots := 0, locals := 21 } [.int x0] T O X (Ti D cs (fun r u => u = (T, O, X) ∧ 0 ≤ r.toInt ∧ r.toInt ≤ 8192 ∧ (r.toInt ≤ x0.toInt) ∧ (x0.toInt < 2 * r.toInt ∨ x0.toInt = 0) ∧ (hobP x0.toInt r.toInt))) := by
  by_cases c0 : x0.toInt ≤ 0
  · exact TK.mono (s_hob_z l D cs kf T O X x0 (by omega) (by omega) hO) (fun r u h => ⟨h.1, by have := h.2; omega, by have := h.2; omega, by have := h.2; omega, by have := h.2; omega, by have := h.2; exact Or.inl ⟨by omega, by omega⟩⟩)
  by_cases c1 : x0.toInt ≤ 1
  · exact TK.mono (s_hob_0 l D cs kf T O X x0 (by omega) (by omega) hO) (fun r u h => ⟨h.1, by have := h.2; omega, by have := h.2; omega, by have := h.2; omega, by have := h.2; omega, by have := h.2; exact Or.inr ⟨0, by decide, by omega⟩⟩)
  by_cases c2 : x0.toInt ≤ 3
  · exact TK.mono (s_hob_1 l D cs kf T O X x0 (by omega) (by omega) hO) (fun r u h => ⟨h.1, by have := h.2; omega, by have := h.2; omega, by have := h.2; omega, by have := h.2; omega, by have := h.2; exact Or.inr ⟨1, by decide, by omega⟩⟩)
  by_cases c3 : x0.toInt ≤ 7
  · exact TK.mono (s_hob_2 l D cs kf T O X x0 (by omega) (by omega) hO) (fun r u h => ⟨h.1, by have := h.2; omega, by have := h.2; omega, by have := h.2; omega, by have := h.2; omega, by have := h.2; exact Or.inr ⟨2, by decide, by omega⟩⟩)
  by_cases c4 : x0.toInt ≤ 15
  · exact TK.mono (s_hob_3 l D cs kf T O X x0 (by omega) (by omega) hO) (fun r u h => ⟨h.1, by have := h.2; omega, by have := h.2; omega, by have := h.2; omega, by have := h.2; omega, by have := h.2; exact Or.inr ⟨3, by decide, by omega⟩⟩)
  by_cases c5 : x0.toInt ≤ 31
  · exact TK.mono (s_hob_4 l D cs kf T O X x0 (by omega) (by omega) hO) (fun r u h => ⟨h.1, by have := h.2; omega, by have := h.2; omega, by have := h.2; omega, by have := h.2; omega, by have := h.2; exact Or.inr ⟨4, by decide, by omega⟩⟩)
  by_cases c6 : x0.toInt ≤ 63
  · exact TK.mono (s_hob_5 l D cs kf T O X x0 (by omega) (by omega) hO) (fun r u h => ⟨h.1, by have := h.2; omega, by have := h.2; omega, by have := h.2; omega, by have := h.2; omega, by have := h.2; exact Or.inr ⟨5, by decide, by omega⟩⟩)
  by_cases c7 : x0.toInt ≤ 127
  · exact TK.mono (s_hob_6 l D cs kf T O X x0 (by omega) (by omega) hO) (fun r u h => ⟨h.1, by have := h.2; omega, by have := h.2; omega, by have := h.2; omega, by have := h.2; omega, by have := h.2; exact Or.inr ⟨6, by decide, by omega⟩⟩)
  by_cases c8 : x0.toInt ≤ 255
  · exact TK.mono (s_hob_7 l D cs kf T O X x0 (by omega) (by omega) hO) (fun r u h => ⟨h.1, by have := h.2; omega, by have := h.2; omega, by have := h.2; omega, by have := h.2; omega, by have := h.2; exact Or.inr ⟨7, by decide, by omega⟩⟩)
  by_cases c9 : x0.toInt ≤ 511
  · exact TK.mono (s_hob_8 l D cs kf T O X x0 (by omega) (by omega) hO) (fun r u h => ⟨h.1, by have := h.2; omega, by have := h.2; omega, by have := h.2; omega, by have := h.2; omega, by have := h.2; exact Or.inr ⟨8, by decide, by omega⟩⟩)
  by_cases c10 : x0.toInt ≤ 1023
  · exact TK.mono (s_hob_9 l D cs kf T O X x0 (by omega) (by omega) hO) (fun r u h => ⟨h.1, by have := h.2; omega, by have := h.2; omega, by have := h.2; omega, by have := h.2; omega, by have := h.2; exact Or.inr ⟨9, by decide, by omega⟩⟩)
  by_cases c11 : x0.toInt ≤ 2047
  · exact TK.mono (s_hob_10 l D cs kf T O X x0 (by omega) (by omega) hO) (fun r u h => ⟨h.1, by have := h.2; omega, by have := h.2; omega, by have := h.2; omega, by have := h.2; omega, by have := h.2; exact Or.inr ⟨10, by decide, by omega⟩⟩)
  by_cases c12 : x0.toInt ≤ 4095
  · exact TK.mono (s_hob_11 l D cs kf T O X x0 (by omega) (by omega) hO) (fun r u h => ⟨h.1, by have := h.2; omega, by have := h.2; omega, by have := h.2; omega, by have := h.2; omega, by have := h.2; exact Or.inr ⟨11, by decide, by omega⟩⟩)
  by_cases c13 : x0.toInt ≤ 8191
  · exact TK.mono (s_hob_12 l D cs kf T O X x0 (by omega) (by omega) hO) (fun r u h => ⟨h.1, by have := h.2; omega, by have := h.2; omega, by have := h.2; omega, by have := h.2; omega, by have := h.2; exact Or.inr ⟨12, by decide, by omega⟩⟩)
  exact TK.mono (s_hob_13 l D cs kf T O X x0 (by omega) (by omega) hO) (fun r u h => ⟨h.1, by have := h.2; omega, by have := h.2; omega, by have := h.2; omega, by have := h.2; omega, by have := h.2; exact Or.inr ⟨13, by decide, by omega⟩⟩)
