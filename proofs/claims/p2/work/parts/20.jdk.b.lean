set_option maxHeartbeats 4000000 in
set_option maxRecDepth 100000 in
theorem s_bitCount (l : Launch) (D : va_G) (cs : CS) (kf : KF) (T : TF) (O : List Nat) (X : va_W) (x0 : Int32)  (hO : okO T O []) : TK l D cs kf yJ6_bitCount_0f7a4 cJ6_bitCount_0f7a4 1 (some (.int)) { frames := 0, cells := 0, slots := 0, locals := 0 } [.int x0] T O X (Ti D cs (fun r u => u = (T, O, X) ∧ 0 ≤ r.toInt ∧ r.toInt ≤ 63)) := by
  refine tk_of (by decide) (Nat.le_of_ble_eq_true rfl) (fun p e s m below meth c ls A H locs hx hb hr hml hown hts hlocks hnm hkb hH hS hA hOX hks hE hl => ?_)
  have hown : s.vm.findClass RJ6 = some m.cls := hown
  have hl : lv_has ls 1 [(0, .int x0)] := hl
  refine lv_iload_n hx hb dJ6_bitCount_0f7a4_0 rfl (lv_at hl 0 rfl) ?_
  refine lv_iload_n hx hb dJ6_bitCount_0f7a4_1 rfl (lv_at hl 0 rfl) ?_
  refine lv_iconst (v := 1) hx hb dJ6_bitCount_0f7a4_2 (by decide) ?_
  refine lv_iushr hx hb dJ6_bitCount_0f7a4_3 rfl ?_
  refine lv_topi (fun v3 ev3 => ?_)
  have tv3 : 0 ≤ v3.toInt ∧ v3.toInt < 2147483648 := by rw [ev3]; exact ushr_c 1 (by decide +kernel) (by decide) (by decide)
  refine lv_ldcw hx hb hown (hts _ kw_694) dJ6_bitCount_0f7a4_4 ?_
  refine lv_iand hx hb dJ6_bitCount_0f7a4_7 ?_
  refine lv_topi (fun v7 ev7 => ?_)
  have tv7 : 0 ≤ v7.toInt ∧ v7.toInt ≤ 1431655765 := by rw [ev7]; exact and_r (by decide)
  refine lv_isub hx hb dJ6_bitCount_0f7a4_8 ?_
  refine lv_topi (fun v8 ev8 => ?_)
  refine lv_istore_n (lv' := [(0, .int v8)]) hx hb dJ6_bitCount_0f7a4_9 rfl hl (by decide) rfl (fun ls hl => ?_)
  refine lv_iload_n hx hb dJ6_bitCount_0f7a4_10 rfl (lv_at hl 0 rfl) ?_
  refine lv_ldcw hx hb hown (hts _ kw_695) dJ6_bitCount_0f7a4_11 ?_
  refine lv_iand hx hb dJ6_bitCount_0f7a4_14 ?_
  refine lv_topi (fun v14 ev14 => ?_)
  have tv14 : 0 ≤ v14.toInt ∧ v14.toInt ≤ 858993459 := by rw [ev14]; exact and_r (by decide)
  refine lv_iload_n hx hb dJ6_bitCount_0f7a4_15 rfl (lv_at hl 0 rfl) ?_
  refine lv_iconst (v := 2) hx hb dJ6_bitCount_0f7a4_16 (by decide) ?_
  refine lv_iushr hx hb dJ6_bitCount_0f7a4_17 rfl ?_
  refine lv_topi (fun v17 ev17 => ?_)
  have tv17 : 0 ≤ v17.toInt ∧ v17.toInt < 1073741824 := by rw [ev17]; exact ushr_c 2 (by decide +kernel) (by decide) (by decide)
  refine lv_ldcw hx hb hown (hts _ kw_695) dJ6_bitCount_0f7a4_18 ?_
  refine lv_iand hx hb dJ6_bitCount_0f7a4_21 ?_
  refine lv_topi (fun v21 ev21 => ?_)
  have tv21 : 0 ≤ v21.toInt ∧ v21.toInt ≤ 858993459 := by rw [ev21]; exact and_r (by decide)
  refine lv_iadd hx hb dJ6_bitCount_0f7a4_22 ?_
  refine lv_topi (fun v22 ev22 => ?_)
  have tv22 : v22.toInt = v14.toInt + v21.toInt := by rw [ev22]; exact add_i rfl rfl (by omega) (by omega)
  refine lv_istore_n (lv' := [(0, .int v22)]) hx hb dJ6_bitCount_0f7a4_23 rfl hl (by decide) rfl (fun ls hl => ?_)
  refine lv_iload_n hx hb dJ6_bitCount_0f7a4_24 rfl (lv_at hl 0 rfl) ?_
  refine lv_iload_n hx hb dJ6_bitCount_0f7a4_25 rfl (lv_at hl 0 rfl) ?_
  refine lv_iconst (v := 4) hx hb dJ6_bitCount_0f7a4_26 (by decide) ?_
  refine lv_iushr hx hb dJ6_bitCount_0f7a4_27 rfl ?_
  refine lv_topi (fun v27 ev27 => ?_)
  have tv27 : 0 ≤ v27.toInt ∧ v27.toInt < 268435456 := by rw [ev27]; exact ushr_c 4 (by decide +kernel) (by decide) (by decide)
  refine lv_iadd hx hb dJ6_bitCount_0f7a4_28 ?_
  refine lv_topi (fun v28 ev28 => ?_)
  have tv28 : v28.toInt = v22.toInt + v27.toInt := by rw [ev28]; exact add_i rfl rfl (by omega) (by omega)
  refine lv_ldcw hx hb hown (hts _ kw_696) dJ6_bitCount_0f7a4_29 ?_
  refine lv_iand hx hb dJ6_bitCount_0f7a4_32 ?_
  refine lv_topi (fun v32 ev32 => ?_)
  have tv32 : 0 ≤ v32.toInt ∧ v32.toInt ≤ 252645135 := by rw [ev32]; exact and_r (by decide)
  refine lv_istore_n (lv' := [(0, .int v32)]) hx hb dJ6_bitCount_0f7a4_33 rfl hl (by decide) rfl (fun ls hl => ?_)
  refine lv_iload_n hx hb dJ6_bitCount_0f7a4_34 rfl (lv_at hl 0 rfl) ?_
  refine lv_iload_n hx hb dJ6_bitCount_0f7a4_35 rfl (lv_at hl 0 rfl) ?_
  refine lv_bipush (v := 8) hx hb dJ6_bitCount_0f7a4_36 (by decide) ?_
  refine lv_iushr hx hb dJ6_bitCount_0f7a4_38 rfl ?_
  refine lv_topi (fun v38 ev38 => ?_)
  have tv38 : 0 ≤ v38.toInt ∧ v38.toInt < 16777216 := by rw [ev38]; exact ushr_c 8 (by decide +kernel) (by decide) (by decide)
  refine lv_iadd hx hb dJ6_bitCount_0f7a4_39 ?_
  refine lv_topi (fun v39 ev39 => ?_)
  have tv39 : v39.toInt = v32.toInt + v38.toInt := by rw [ev39]; exact add_i rfl rfl (by omega) (by omega)
  refine lv_istore_n (lv' := [(0, .int v39)]) hx hb dJ6_bitCount_0f7a4_40 rfl hl (by decide) rfl (fun ls hl => ?_)
  refine lv_iload_n hx hb dJ6_bitCount_0f7a4_41 rfl (lv_at hl 0 rfl) ?_
  refine lv_iload_n hx hb dJ6_bitCount_0f7a4_42 rfl (lv_at hl 0 rfl) ?_
  refine lv_bipush (v := 16) hx hb dJ6_bitCount_0f7a4_43 (by decide) ?_
  refine lv_iushr hx hb dJ6_bitCount_0f7a4_45 rfl ?_
  refine lv_topi (fun v45 ev45 => ?_)
  have tv45 : 0 ≤ v45.toInt ∧ v45.toInt < 65536 := by rw [ev45]; exact ushr_c 16 (by decide +kernel) (by decide) (by decide)
  refine lv_iadd hx hb dJ6_bitCount_0f7a4_46 ?_
  refine lv_topi (fun v46 ev46 => ?_)
  have tv46 : v46.toInt = v39.toInt + v45.toInt := by rw [ev46]; exact add_i rfl rfl (by omega) (by omega)
  refine lv_istore_n (lv' := [(0, .int v46)]) hx hb dJ6_bitCount_0f7a4_47 rfl hl (by decide) rfl (fun ls hl => ?_)
  refine lv_iload_n hx hb dJ6_bitCount_0f7a4_48 rfl (lv_at hl 0 rfl) ?_
  refine lv_bipush (v := 63) hx hb dJ6_bitCount_0f7a4_49 (by decide) ?_
  refine lv_iand hx hb dJ6_bitCount_0f7a4_51 ?_
  refine lv_topi (fun v51 ev51 => ?_)
  have tv51 : 0 ≤ v51.toInt ∧ v51.toInt ≤ 63 := by rw [ev51]; exact and_r (by decide)
  exact te_i hx hb hr hlocks hH hS (⟨rfl, by omega, by omega⟩) dJ6_bitCount_0f7a4_52
set_option maxHeartbeats 4000000 in
set_option maxRecDepth 100000 in
theorem s_ntz (l : Launch) (D : va_G) (cs : CS) (kf : KF) (T : TF) (O : List Nat) (X : va_W) (x0 : Int32)  (hO : okO T O []) : TK l D cs kf yJ6_numberOfTrailingZeros_0f7a4 cJ6_numberOfTrailingZeros_0f7a4 2 (some (.int)) { frames := 0, cells := 0, slots := 0, locals := 0 } [.int x0] T O X (Ti D cs (fun r u => u = (T, O, X))) := by
  refine tk_of (by decide) (Nat.le_of_ble_eq_true rfl) (fun p e s m below meth c ls A H locs hx hb hr hml hown hts hlocks hnm hkb hH hS hA hOX hks hE hl => ?_)
  have hown : s.vm.findClass RJ6 = some m.cls := hown
  have hl : lv_has ls 2 [(0, .int x0)] := hl
  refine lv_iload_n hx hb dJ6_numberOfTrailingZeros_0f7a4_0 rfl (lv_at hl 0 rfl) ?_
  refine lv_iconst (v := (-1)) hx hb dJ6_numberOfTrailingZeros_0f7a4_1 (by decide) ?_
  refine lv_ixor hx hb dJ6_numberOfTrailingZeros_0f7a4_2 ?_
  refine lv_topi (fun v2 ev2 => ?_)
  refine lv_iload_n hx hb dJ6_numberOfTrailingZeros_0f7a4_3 rfl (lv_at hl 0 rfl) ?_
  refine lv_iconst (v := 1) hx hb dJ6_numberOfTrailingZeros_0f7a4_4 (by decide) ?_
  refine lv_isub hx hb dJ6_numberOfTrailingZeros_0f7a4_5 ?_
  refine lv_topi (fun v5 ev5 => ?_)
  refine lv_iand hx hb dJ6_numberOfTrailingZeros_0f7a4_6 ?_
  refine lv_topi (fun v6 ev6 => ?_)
  refine lv_istore_n (lv' := [(0, .int v6)]) hx hb dJ6_numberOfTrailingZeros_0f7a4_7 rfl hl (by decide) rfl (fun ls hl => ?_)
  refine lv_iload_n hx hb dJ6_numberOfTrailingZeros_0f7a4_8 rfl (lv_at hl 0 rfl) ?_
  refine lv_if_gt (tgt := 17) hx hb dJ6_numberOfTrailingZeros_0f7a4_9 (by decide) (fun c9 => ?_) (fun c9 => ?_)
  · skip
    have tc9 := f_gt (k := 0) (by decide) c9
    refine lv_iconst (v := 1) hx hb dJ6_numberOfTrailingZeros_0f7a4_17 (by decide) ?_
    refine lv_istore_n (lv' := [(1, .int 1), (0, .int v6)]) hx hb dJ6_numberOfTrailingZeros_0f7a4_18 rfl hl (by decide) rfl (fun ls hl => ?_)
    refine lv_iload_n hx hb dJ6_numberOfTrailingZeros_0f7a4_19 rfl (lv_at hl 1 rfl) ?_
    refine lv_ldcw hx hb hown (hts _ kw_861) dJ6_numberOfTrailingZeros_0f7a4_20 ?_
    have J34 : ∀ (p34_1 : Int32) (p34_0 : Int32) (H : Heap) (locs : List Loc) (ls : Array Slot), (1 ≤ p34_1.toInt) → (p34_1.toInt ≤ 17) → (0 ≤ p34_0.toInt) → (p34_0.toInt ≤ 65536) → HT D cs A T O X H → va_S A s.heap H locs → lv_has ls 2 [(1, .int p34_1), (0, .int p34_0)] → W p l e { frames := 0, cells := 0, slots := 0, locals := 0 } s m [.int x0].toArray below meth c H locs 0 0 (MQ below (Ti D cs (fun r u => u = (T, O, X)) A) [.int x0].toArray s 0 0 A) (F0 m 34 ls []) := by
      intro p34_1 p34_0 H locs ls l_p34_1 u_p34_1 l_p34_0 u_p34_0 hH hS hl
      refine lv_iload_n hx hb dJ6_numberOfTrailingZeros_0f7a4_34 rfl (lv_at hl 1 rfl) ?_
      refine lv_sipush (v := 256) hx hb dJ6_numberOfTrailingZeros_0f7a4_35 (by decide) ?_
      have J49 : ∀ (p49_1 : Int32) (p49_0 : Int32) (H : Heap) (locs : List Loc) (ls : Array Slot), (1 ≤ p49_1.toInt) → (p49_1.toInt ≤ 25) → (0 ≤ p49_0.toInt) → (p49_0.toInt ≤ 16777215) → HT D cs A T O X H → va_S A s.heap H locs → lv_has ls 2 [(1, .int p49_1), (0, .int p49_0)] → W p l e { frames := 0, cells := 0, slots := 0, locals := 0 } s m [.int x0].toArray below meth c H locs 0 0 (MQ below (Ti D cs (fun r u => u = (T, O, X)) A) [.int x0].toArray s 0 0 A) (F0 m 49 ls []) := by
        intro p49_1 p49_0 H locs ls l_p49_1 u_p49_1 l_p49_0 u_p49_0 hH hS hl
        refine lv_iload_n hx hb dJ6_numberOfTrailingZeros_0f7a4_49 rfl (lv_at hl 1 rfl) ?_
        refine lv_bipush (v := 16) hx hb dJ6_numberOfTrailingZeros_0f7a4_50 (by decide) ?_
        have J62 : ∀ (p62_1 : Int32) (p62_0 : Int32) (H : Heap) (locs : List Loc) (ls : Array Slot), (1 ≤ p62_1.toInt) → (p62_1.toInt ≤ 29) → (0 ≤ p62_0.toInt) → (p62_0.toInt ≤ 268435455) → HT D cs A T O X H → va_S A s.heap H locs → lv_has ls 2 [(1, .int p62_1), (0, .int p62_0)] → W p l e { frames := 0, cells := 0, slots := 0, locals := 0 } s m [.int x0].toArray below meth c H locs 0 0 (MQ below (Ti D cs (fun r u => u = (T, O, X)) A) [.int x0].toArray s 0 0 A) (F0 m 62 ls []) := by
          intro p62_1 p62_0 H locs ls l_p62_1 u_p62_1 l_p62_0 u_p62_0 hH hS hl
          refine lv_iload_n hx hb dJ6_numberOfTrailingZeros_0f7a4_62 rfl (lv_at hl 1 rfl) ?_
          refine lv_iconst (v := 4) hx hb dJ6_numberOfTrailingZeros_0f7a4_63 (by decide) ?_
          have J74 : ∀ (p74_1 : Int32) (p74_0 : Int32) (H : Heap) (locs : List Loc) (ls : Array Slot), (1 ≤ p74_1.toInt) → (p74_1.toInt ≤ 31) → (0 ≤ p74_0.toInt) → (p74_0.toInt ≤ 1073741823) → HT D cs A T O X H → va_S A s.heap H locs → lv_has ls 2 [(1, .int p74_1), (0, .int p74_0)] → W p l e { frames := 0, cells := 0, slots := 0, locals := 0 } s m [.int x0].toArray below meth c H locs 0 0 (MQ below (Ti D cs (fun r u => u = (T, O, X)) A) [.int x0].toArray s 0 0 A) (F0 m 74 ls []) := by
            intro p74_1 p74_0 H locs ls l_p74_1 u_p74_1 l_p74_0 u_p74_0 hH hS hl
            refine lv_iload_n hx hb dJ6_numberOfTrailingZeros_0f7a4_74 rfl (lv_at hl 0 rfl) ?_
            refine lv_iload_n hx hb dJ6_numberOfTrailingZeros_0f7a4_75 rfl (lv_at hl 1 rfl) ?_
            refine lv_iconst (v := 1) hx hb dJ6_numberOfTrailingZeros_0f7a4_76 (by decide) ?_
            refine lv_iushr hx hb dJ6_numberOfTrailingZeros_0f7a4_77 rfl ?_
            refine lv_topi (fun v77 ev77 => ?_)
            have tv77 : 0 ≤ v77.toInt ∧ v77.toInt < 2147483648 := by rw [ev77]; exact ushr_c 1 (by decide +kernel) (by decide) (by decide)
            refine lv_iadd hx hb dJ6_numberOfTrailingZeros_0f7a4_78 ?_
            refine lv_topi (fun v78 ev78 => ?_)
            exact te_i hx hb hr hlocks hH hS (rfl) dJ6_numberOfTrailingZeros_0f7a4_79
          refine lv_icmp_le (tgt := 74) hx hb dJ6_numberOfTrailingZeros_0f7a4_64 (by decide) (fun c64 => ?_) (fun c64 => ?_)
          · skip
            have tc64 := f_le (k := 4) (by decide) c64
            exact J74 p62_1 p62_0 _ _ _ (by omega) (by omega) (by omega) (by omega) hH hS (lv_sub hl [0, 1] rfl)
          · skip
            have tc64 := f_nle (k := 4) (by decide) c64
            obtain ⟨v67, ev67⟩ : ∃ y : Int32, y = p62_1 + 2 := ⟨_, rfl⟩
            have tv67 : v67.toInt = p62_1.toInt + (2) := by rw [ev67]; exact add_i rfl (by decide) (by omega) (by omega)
            refine lv_iinc (v := v67) (lv' := [(1, .int v67), (0, .int p62_0)]) hx hb dJ6_numberOfTrailingZeros_0f7a4_67 hl (k := 0) rfl (by rw [ev67]; rfl) (by decide) rfl (fun ls hl => ?_)
            refine lv_iload_n hx hb dJ6_numberOfTrailingZeros_0f7a4_70 rfl (lv_at hl 1 rfl) ?_
            refine lv_iconst (v := 2) hx hb dJ6_numberOfTrailingZeros_0f7a4_71 (by decide) ?_
            refine lv_iushr hx hb dJ6_numberOfTrailingZeros_0f7a4_72 rfl ?_
            refine lv_topi (fun v72 ev72 => ?_)
            have tv72 : 0 ≤ v72.toInt ∧ v72.toInt < 1073741824 := by rw [ev72]; exact ushr_c 2 (by decide +kernel) (by decide) (by decide)
            refine lv_istore_n (lv' := [(0, .int v72), (1, .int v67)]) hx hb dJ6_numberOfTrailingZeros_0f7a4_73 rfl hl (by decide) rfl (fun ls hl => ?_)
            exact J74 v67 v72 _ _ _ (by omega) (by omega) (by omega) (by omega) hH hS (lv_sub hl [1, 0] rfl)
        refine lv_icmp_le (tgt := 62) hx hb dJ6_numberOfTrailingZeros_0f7a4_52 (by decide) (fun c52 => ?_) (fun c52 => ?_)
        · skip
          have tc52 := f_le (k := 16) (by decide) c52
          exact J62 p49_1 p49_0 _ _ _ (by omega) (by omega) (by omega) (by omega) hH hS (lv_sub hl [0, 1] rfl)
        · skip
          have tc52 := f_nle (k := 16) (by decide) c52
          obtain ⟨v55, ev55⟩ : ∃ y : Int32, y = p49_1 + 4 := ⟨_, rfl⟩
          have tv55 : v55.toInt = p49_1.toInt + (4) := by rw [ev55]; exact add_i rfl (by decide) (by omega) (by omega)
          refine lv_iinc (v := v55) (lv' := [(1, .int v55), (0, .int p49_0)]) hx hb dJ6_numberOfTrailingZeros_0f7a4_55 hl (k := 0) rfl (by rw [ev55]; rfl) (by decide) rfl (fun ls hl => ?_)
          refine lv_iload_n hx hb dJ6_numberOfTrailingZeros_0f7a4_58 rfl (lv_at hl 1 rfl) ?_
          refine lv_iconst (v := 4) hx hb dJ6_numberOfTrailingZeros_0f7a4_59 (by decide) ?_
          refine lv_iushr hx hb dJ6_numberOfTrailingZeros_0f7a4_60 rfl ?_
          refine lv_topi (fun v60 ev60 => ?_)
          have tv60 : 0 ≤ v60.toInt ∧ v60.toInt < 268435456 := by rw [ev60]; exact ushr_c 4 (by decide +kernel) (by decide) (by decide)
          refine lv_istore_n (lv' := [(0, .int v60), (1, .int v55)]) hx hb dJ6_numberOfTrailingZeros_0f7a4_61 rfl hl (by decide) rfl (fun ls hl => ?_)
          exact J62 v55 v60 _ _ _ (by omega) (by omega) (by omega) (by omega) hH hS (lv_sub hl [1, 0] rfl)
      refine lv_icmp_le (tgt := 49) hx hb dJ6_numberOfTrailingZeros_0f7a4_38 (by decide) (fun c38 => ?_) (fun c38 => ?_)
      · skip
        have tc38 := f_le (k := 256) (by decide) c38
        exact J49 p34_1 p34_0 _ _ _ (by omega) (by omega) (by omega) (by omega) hH hS (lv_sub hl [0, 1] rfl)
      · skip
        have tc38 := f_nle (k := 256) (by decide) c38
        obtain ⟨v41, ev41⟩ : ∃ y : Int32, y = p34_1 + 8 := ⟨_, rfl⟩
        have tv41 : v41.toInt = p34_1.toInt + (8) := by rw [ev41]; exact add_i rfl (by decide) (by omega) (by omega)
        refine lv_iinc (v := v41) (lv' := [(1, .int v41), (0, .int p34_0)]) hx hb dJ6_numberOfTrailingZeros_0f7a4_41 hl (k := 0) rfl (by rw [ev41]; rfl) (by decide) rfl (fun ls hl => ?_)
        refine lv_iload_n hx hb dJ6_numberOfTrailingZeros_0f7a4_44 rfl (lv_at hl 1 rfl) ?_
        refine lv_bipush (v := 8) hx hb dJ6_numberOfTrailingZeros_0f7a4_45 (by decide) ?_
        refine lv_iushr hx hb dJ6_numberOfTrailingZeros_0f7a4_47 rfl ?_
        refine lv_topi (fun v47 ev47 => ?_)
        have tv47 : 0 ≤ v47.toInt ∧ v47.toInt < 16777216 := by rw [ev47]; exact ushr_c 8 (by decide +kernel) (by decide) (by decide)
        refine lv_istore_n (lv' := [(0, .int v47), (1, .int v41)]) hx hb dJ6_numberOfTrailingZeros_0f7a4_48 rfl hl (by decide) rfl (fun ls hl => ?_)
        exact J49 v41 v47 _ _ _ (by omega) (by omega) (by omega) (by omega) hH hS (lv_sub hl [1, 0] rfl)
    refine lv_icmp_le (tgt := 34) hx hb dJ6_numberOfTrailingZeros_0f7a4_23 (by decide) (fun c23 => ?_) (fun c23 => ?_)
    · skip
      have tc23 := f_le (k := 65536) (by decide) c23
      exact J34 1 v6 _ _ _ (by decide) (by decide) (by omega) (by omega) hH hS (lv_sub hl [0, 1] rfl)
    · skip
      have tc23 := f_nle (k := 65536) (by decide) c23
      refine lv_iinc (v := 17) (lv' := [(1, .int 17), (0, .int v6)]) hx hb dJ6_numberOfTrailingZeros_0f7a4_26 hl (k := 0) rfl (by decide) (by decide) rfl (fun ls hl => ?_)
      refine lv_iload_n hx hb dJ6_numberOfTrailingZeros_0f7a4_29 rfl (lv_at hl 1 rfl) ?_
      refine lv_bipush (v := 16) hx hb dJ6_numberOfTrailingZeros_0f7a4_30 (by decide) ?_
      refine lv_iushr hx hb dJ6_numberOfTrailingZeros_0f7a4_32 rfl ?_
      refine lv_topi (fun v32 ev32 => ?_)
      have tv32 : 0 ≤ v32.toInt ∧ v32.toInt < 65536 := by rw [ev32]; exact ushr_c 16 (by decide +kernel) (by decide) (by decide)
      refine lv_istore_n (lv' := [(0, .int v32), (1, .int 17)]) hx hb dJ6_numberOfTrailingZeros_0f7a4_33 rfl hl (by decide) rfl (fun ls hl => ?_)
      exact J34 17 v32 _ _ _ (by decide) (by decide) (by omega) (by omega) hH hS (lv_sub hl [1, 0] rfl)
  · skip
    have tc9 := f_ngt (k := 0) (by decide) c9
    refine lv_iload_n hx hb dJ6_numberOfTrailingZeros_0f7a4_12 rfl (lv_at hl 0 rfl) ?_
    refine lv_bipush (v := 32) hx hb dJ6_numberOfTrailingZeros_0f7a4_13 (by decide) ?_
    refine lv_iand hx hb dJ6_numberOfTrailingZeros_0f7a4_15 ?_
    refine lv_topi (fun v15 ev15 => ?_)
    have tv15 : 0 ≤ v15.toInt ∧ v15.toInt ≤ 32 := by rw [ev15]; exact and_r (by decide)
    exact te_i hx hb hr hlocks hH hS (rfl) dJ6_numberOfTrailingZeros_0f7a4_16
set_option maxHeartbeats 4000000 in
set_option maxRecDepth 100000 in
theorem s_nlz (l : Launch) (D : va_G) (cs : CS) (kf : KF) (T : TF) (O : List Nat) (X : va_W) (x0 : Int32)  (hO : okO T O []) : TK l D cs kf yJ6_numberOfLeadingZeros_0f7a4 cJ6_numberOfLeadingZeros_0f7a4 2 (some (.int)) { frames := 0, cells := 0, slots := 0, locals := 0 } [.int x0] T O X (Ti D cs (fun r u => u = (T, O, X) ∧ -2147483646 ≤ r.toInt ∧ r.toInt ≤ 32)) := by
  refine tk_of (by decide) (Nat.le_of_ble_eq_true rfl) (fun p e s m below meth c ls A H locs hx hb hr hml hown hts hlocks hnm hkb hH hS hA hOX hks hE hl => ?_)
  have hown : s.vm.findClass RJ6 = some m.cls := hown
  have hl : lv_has ls 2 [(0, .int x0)] := hl
  refine lv_iload_n hx hb dJ6_numberOfLeadingZeros_0f7a4_0 rfl (lv_at hl 0 rfl) ?_
  refine lv_if_gt (tgt := 15) hx hb dJ6_numberOfLeadingZeros_0f7a4_1 (by decide) (fun c1 => ?_) (fun c1 => ?_)
  · skip
    have tc1 := f_gt (k := 0) (by decide) c1
    refine lv_bipush (v := 31) hx hb dJ6_numberOfLeadingZeros_0f7a4_15 (by decide) ?_
    refine lv_istore_n (lv' := [(1, .int 31), (0, .int x0)]) hx hb dJ6_numberOfLeadingZeros_0f7a4_17 rfl hl (by decide) rfl (fun ls hl => ?_)
    refine lv_iload_n hx hb dJ6_numberOfLeadingZeros_0f7a4_18 rfl (lv_at hl 1 rfl) ?_
    refine lv_ldcw hx hb hown (hts _ kw_861) dJ6_numberOfLeadingZeros_0f7a4_19 ?_
    have J33 : ∀ (p33_1 : Int32) (p33_0 : Int32) (H : Heap) (locs : List Loc) (ls : Array Slot), (15 ≤ p33_1.toInt) → (p33_1.toInt ≤ 31) → (0 ≤ p33_0.toInt) → (p33_0.toInt ≤ 65535) → HT D cs A T O X H → va_S A s.heap H locs → lv_has ls 2 [(1, .int p33_1), (0, .int p33_0)] → W p l e { frames := 0, cells := 0, slots := 0, locals := 0 } s m [.int x0].toArray below meth c H locs 0 0 (MQ below (Ti D cs (fun r u => u = (T, O, X) ∧ -2147483646 ≤ r.toInt ∧ r.toInt ≤ 32) A) [.int x0].toArray s 0 0 A) (F0 m 33 ls []) := by
      intro p33_1 p33_0 H locs ls l_p33_1 u_p33_1 l_p33_0 u_p33_0 hH hS hl
      refine lv_iload_n hx hb dJ6_numberOfLeadingZeros_0f7a4_33 rfl (lv_at hl 1 rfl) ?_
      refine lv_sipush (v := 256) hx hb dJ6_numberOfLeadingZeros_0f7a4_34 (by decide) ?_
      have J48 : ∀ (p48_1 : Int32) (p48_0 : Int32) (H : Heap) (locs : List Loc) (ls : Array Slot), (7 ≤ p48_1.toInt) → (p48_1.toInt ≤ 31) → (0 ≤ p48_0.toInt) → (p48_0.toInt ≤ 16777215) → HT D cs A T O X H → va_S A s.heap H locs → lv_has ls 2 [(1, .int p48_1), (0, .int p48_0)] → W p l e { frames := 0, cells := 0, slots := 0, locals := 0 } s m [.int x0].toArray below meth c H locs 0 0 (MQ below (Ti D cs (fun r u => u = (T, O, X) ∧ -2147483646 ≤ r.toInt ∧ r.toInt ≤ 32) A) [.int x0].toArray s 0 0 A) (F0 m 48 ls []) := by
        intro p48_1 p48_0 H locs ls l_p48_1 u_p48_1 l_p48_0 u_p48_0 hH hS hl
        refine lv_iload_n hx hb dJ6_numberOfLeadingZeros_0f7a4_48 rfl (lv_at hl 1 rfl) ?_
        refine lv_bipush (v := 16) hx hb dJ6_numberOfLeadingZeros_0f7a4_49 (by decide) ?_
        have J61 : ∀ (p61_1 : Int32) (p61_0 : Int32) (H : Heap) (locs : List Loc) (ls : Array Slot), (3 ≤ p61_1.toInt) → (p61_1.toInt ≤ 31) → (0 ≤ p61_0.toInt) → (p61_0.toInt ≤ 268435455) → HT D cs A T O X H → va_S A s.heap H locs → lv_has ls 2 [(1, .int p61_1), (0, .int p61_0)] → W p l e { frames := 0, cells := 0, slots := 0, locals := 0 } s m [.int x0].toArray below meth c H locs 0 0 (MQ below (Ti D cs (fun r u => u = (T, O, X) ∧ -2147483646 ≤ r.toInt ∧ r.toInt ≤ 32) A) [.int x0].toArray s 0 0 A) (F0 m 61 ls []) := by
          intro p61_1 p61_0 H locs ls l_p61_1 u_p61_1 l_p61_0 u_p61_0 hH hS hl
          refine lv_iload_n hx hb dJ6_numberOfLeadingZeros_0f7a4_61 rfl (lv_at hl 1 rfl) ?_
          refine lv_iconst (v := 4) hx hb dJ6_numberOfLeadingZeros_0f7a4_62 (by decide) ?_
          have J73 : ∀ (p73_1 : Int32) (p73_0 : Int32) (H : Heap) (locs : List Loc) (ls : Array Slot), (1 ≤ p73_1.toInt) → (p73_1.toInt ≤ 31) → (0 ≤ p73_0.toInt) → (p73_0.toInt ≤ 1073741823) → HT D cs A T O X H → va_S A s.heap H locs → lv_has ls 2 [(1, .int p73_1), (0, .int p73_0)] → W p l e { frames := 0, cells := 0, slots := 0, locals := 0 } s m [.int x0].toArray below meth c H locs 0 0 (MQ below (Ti D cs (fun r u => u = (T, O, X) ∧ -2147483646 ≤ r.toInt ∧ r.toInt ≤ 32) A) [.int x0].toArray s 0 0 A) (F0 m 73 ls []) := by
            intro p73_1 p73_0 H locs ls l_p73_1 u_p73_1 l_p73_0 u_p73_0 hH hS hl
            refine lv_iload_n hx hb dJ6_numberOfLeadingZeros_0f7a4_73 rfl (lv_at hl 0 rfl) ?_
            refine lv_iload_n hx hb dJ6_numberOfLeadingZeros_0f7a4_74 rfl (lv_at hl 1 rfl) ?_
            refine lv_iconst (v := 1) hx hb dJ6_numberOfLeadingZeros_0f7a4_75 (by decide) ?_
            refine lv_iushr hx hb dJ6_numberOfLeadingZeros_0f7a4_76 rfl ?_
            refine lv_topi (fun v76 ev76 => ?_)
            have tv76 : 0 ≤ v76.toInt ∧ v76.toInt < 2147483648 := by rw [ev76]; exact ushr_c 1 (by decide +kernel) (by decide) (by decide)
            refine lv_isub hx hb dJ6_numberOfLeadingZeros_0f7a4_77 ?_
            refine lv_topi (fun v77 ev77 => ?_)
            have tv77 : v77.toInt = p73_1.toInt - v76.toInt := by rw [ev77]; exact sub_i rfl rfl (by omega) (by omega)
            exact te_i hx hb hr hlocks hH hS (⟨rfl, by omega, by omega⟩) dJ6_numberOfLeadingZeros_0f7a4_78
          refine lv_icmp_lt (tgt := 73) hx hb dJ6_numberOfLeadingZeros_0f7a4_63 (by decide) (fun c63 => ?_) (fun c63 => ?_)
          · skip
            have tc63 := f_lt (k := 4) (by decide) c63
            exact J73 p61_1 p61_0 _ _ _ (by omega) (by omega) (by omega) (by omega) hH hS (lv_sub hl [0, 1] rfl)
          · skip
            have tc63 := f_nlt (k := 4) (by decide) c63
            obtain ⟨v66, ev66⟩ : ∃ y : Int32, y = p61_1 + (-2) := ⟨_, rfl⟩
            have tv66 : v66.toInt = p61_1.toInt + (-2) := by rw [ev66]; exact add_i rfl (by decide) (by omega) (by omega)
            refine lv_iinc (v := v66) (lv' := [(1, .int v66), (0, .int p61_0)]) hx hb dJ6_numberOfLeadingZeros_0f7a4_66 hl (k := 0) rfl (by rw [ev66]; rfl) (by decide) rfl (fun ls hl => ?_)
            refine lv_iload_n hx hb dJ6_numberOfLeadingZeros_0f7a4_69 rfl (lv_at hl 1 rfl) ?_
            refine lv_iconst (v := 2) hx hb dJ6_numberOfLeadingZeros_0f7a4_70 (by decide) ?_
            refine lv_iushr hx hb dJ6_numberOfLeadingZeros_0f7a4_71 rfl ?_
            refine lv_topi (fun v71 ev71 => ?_)
            have tv71 : 0 ≤ v71.toInt ∧ v71.toInt < 1073741824 := by rw [ev71]; exact ushr_c 2 (by decide +kernel) (by decide) (by decide)
            refine lv_istore_n (lv' := [(0, .int v71), (1, .int v66)]) hx hb dJ6_numberOfLeadingZeros_0f7a4_72 rfl hl (by decide) rfl (fun ls hl => ?_)
            exact J73 v66 v71 _ _ _ (by omega) (by omega) (by omega) (by omega) hH hS (lv_sub hl [1, 0] rfl)
        refine lv_icmp_lt (tgt := 61) hx hb dJ6_numberOfLeadingZeros_0f7a4_51 (by decide) (fun c51 => ?_) (fun c51 => ?_)
        · skip
          have tc51 := f_lt (k := 16) (by decide) c51
          exact J61 p48_1 p48_0 _ _ _ (by omega) (by omega) (by omega) (by omega) hH hS (lv_sub hl [0, 1] rfl)
        · skip
          have tc51 := f_nlt (k := 16) (by decide) c51
          obtain ⟨v54, ev54⟩ : ∃ y : Int32, y = p48_1 + (-4) := ⟨_, rfl⟩
          have tv54 : v54.toInt = p48_1.toInt + (-4) := by rw [ev54]; exact add_i rfl (by decide) (by omega) (by omega)
          refine lv_iinc (v := v54) (lv' := [(1, .int v54), (0, .int p48_0)]) hx hb dJ6_numberOfLeadingZeros_0f7a4_54 hl (k := 0) rfl (by rw [ev54]; rfl) (by decide) rfl (fun ls hl => ?_)
          refine lv_iload_n hx hb dJ6_numberOfLeadingZeros_0f7a4_57 rfl (lv_at hl 1 rfl) ?_
          refine lv_iconst (v := 4) hx hb dJ6_numberOfLeadingZeros_0f7a4_58 (by decide) ?_
          refine lv_iushr hx hb dJ6_numberOfLeadingZeros_0f7a4_59 rfl ?_
          refine lv_topi (fun v59 ev59 => ?_)
          have tv59 : 0 ≤ v59.toInt ∧ v59.toInt < 268435456 := by rw [ev59]; exact ushr_c 4 (by decide +kernel) (by decide) (by decide)
          refine lv_istore_n (lv' := [(0, .int v59), (1, .int v54)]) hx hb dJ6_numberOfLeadingZeros_0f7a4_60 rfl hl (by decide) rfl (fun ls hl => ?_)
          exact J61 v54 v59 _ _ _ (by omega) (by omega) (by omega) (by omega) hH hS (lv_sub hl [1, 0] rfl)
      refine lv_icmp_lt (tgt := 48) hx hb dJ6_numberOfLeadingZeros_0f7a4_37 (by decide) (fun c37 => ?_) (fun c37 => ?_)
      · skip
        have tc37 := f_lt (k := 256) (by decide) c37
        exact J48 p33_1 p33_0 _ _ _ (by omega) (by omega) (by omega) (by omega) hH hS (lv_sub hl [0, 1] rfl)
      · skip
        have tc37 := f_nlt (k := 256) (by decide) c37
        obtain ⟨v40, ev40⟩ : ∃ y : Int32, y = p33_1 + (-8) := ⟨_, rfl⟩
        have tv40 : v40.toInt = p33_1.toInt + (-8) := by rw [ev40]; exact add_i rfl (by decide) (by omega) (by omega)
        refine lv_iinc (v := v40) (lv' := [(1, .int v40), (0, .int p33_0)]) hx hb dJ6_numberOfLeadingZeros_0f7a4_40 hl (k := 0) rfl (by rw [ev40]; rfl) (by decide) rfl (fun ls hl => ?_)
        refine lv_iload_n hx hb dJ6_numberOfLeadingZeros_0f7a4_43 rfl (lv_at hl 1 rfl) ?_
        refine lv_bipush (v := 8) hx hb dJ6_numberOfLeadingZeros_0f7a4_44 (by decide) ?_
        refine lv_iushr hx hb dJ6_numberOfLeadingZeros_0f7a4_46 rfl ?_
        refine lv_topi (fun v46 ev46 => ?_)
        have tv46 : 0 ≤ v46.toInt ∧ v46.toInt < 16777216 := by rw [ev46]; exact ushr_c 8 (by decide +kernel) (by decide) (by decide)
        refine lv_istore_n (lv' := [(0, .int v46), (1, .int v40)]) hx hb dJ6_numberOfLeadingZeros_0f7a4_47 rfl hl (by decide) rfl (fun ls hl => ?_)
        exact J48 v40 v46 _ _ _ (by omega) (by omega) (by omega) (by omega) hH hS (lv_sub hl [1, 0] rfl)
    refine lv_icmp_lt (tgt := 33) hx hb dJ6_numberOfLeadingZeros_0f7a4_22 (by decide) (fun c22 => ?_) (fun c22 => ?_)
    · skip
      have tc22 := f_lt (k := 65536) (by decide) c22
      exact J33 31 x0 _ _ _ (by decide) (by decide) (by omega) (by omega) hH hS (lv_sub hl [0, 1] rfl)
    · skip
      have tc22 := f_nlt (k := 65536) (by decide) c22
      refine lv_iinc (v := 15) (lv' := [(1, .int 15), (0, .int x0)]) hx hb dJ6_numberOfLeadingZeros_0f7a4_25 hl (k := 0) rfl (by decide) (by decide) rfl (fun ls hl => ?_)
      refine lv_iload_n hx hb dJ6_numberOfLeadingZeros_0f7a4_28 rfl (lv_at hl 1 rfl) ?_
      refine lv_bipush (v := 16) hx hb dJ6_numberOfLeadingZeros_0f7a4_29 (by decide) ?_
      refine lv_iushr hx hb dJ6_numberOfLeadingZeros_0f7a4_31 rfl ?_
      refine lv_topi (fun v31 ev31 => ?_)
      have tv31 : 0 ≤ v31.toInt ∧ v31.toInt < 65536 := by rw [ev31]; exact ushr_c 16 (by decide +kernel) (by decide) (by decide)
      refine lv_istore_n (lv' := [(0, .int v31), (1, .int 15)]) hx hb dJ6_numberOfLeadingZeros_0f7a4_32 rfl hl (by decide) rfl (fun ls hl => ?_)
      exact J33 15 v31 _ _ _ (by decide) (by decide) (by omega) (by omega) hH hS (lv_sub hl [1, 0] rfl)
  · skip
    have tc1 := f_ngt (k := 0) (by decide) c1
    refine lv_iload_n hx hb dJ6_numberOfLeadingZeros_0f7a4_4 rfl (lv_at hl 0 rfl) ?_
    have J14 : ∀ (k14_0 : Int32) (H : Heap) (locs : List Loc) (ls : Array Slot), (0 ≤ k14_0.toInt) → (k14_0.toInt ≤ 32) → HT D cs A T O X H → va_S A s.heap H locs → lv_has ls 2 [] → W p l e { frames := 0, cells := 0, slots := 0, locals := 0 } s m [.int x0].toArray below meth c H locs 0 0 (MQ below (Ti D cs (fun r u => u = (T, O, X) ∧ -2147483646 ≤ r.toInt ∧ r.toInt ≤ 32) A) [.int x0].toArray s 0 0 A) (F0 m 14 ls [.int k14_0]) := by
      intro k14_0 H locs ls l_k14_0 u_k14_0 hH hS hl
      exact te_i hx hb hr hlocks hH hS (⟨rfl, by omega, by omega⟩) dJ6_numberOfLeadingZeros_0f7a4_14
    refine lv_if_ne (tgt := 13) hx hb dJ6_numberOfLeadingZeros_0f7a4_5 (by decide) (fun c5 => ?_) (fun c5 => ?_)
    · skip
      have tc5 := f_ne (k := 0) (by decide) c5
      refine lv_iconst (v := 0) hx hb dJ6_numberOfLeadingZeros_0f7a4_13 (by decide) ?_
      exact J14 0 _ _ _ (by decide) (by decide) hH hS (lv_sub hl [] rfl)
    · skip
      have tc5 := f_eq (k := 0) (by decide) c5
      refine lv_bipush (v := 32) hx hb dJ6_numberOfLeadingZeros_0f7a4_8 (by decide) ?_
      refine lv_goto (tgt := 14) hx hb dJ6_numberOfLeadingZeros_0f7a4_10 (by decide) ?_
      exact J14 32 _ _ _ (by decide) (by decide) hH hS (lv_sub hl [] rfl)
