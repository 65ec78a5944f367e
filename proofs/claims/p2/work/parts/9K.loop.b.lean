set_option maxHeartbeats 4000000 in
set_option maxRecDepth 100000 in
/-- the loop over the script -/
theorem lw_loop {p : Program} {e : Env} {s : State} {m : MethodId} {below : List Frame} {meth : Method} {c : Code} (l : Launch) (D : va_G) (cs : CS) (kf : KF) {b L : Nat} {xs : Nat → Int32} (hx : p.tables.exec = Jvm.exec) (hb : c.code = code) (hr0 : meth.sig.returnType = ret) (hml : c.maxLocals = 4) (hown : s.vm.findClass R_law = some m.cls) (hts : ∀ w ∈ gw, w.before #[Value.ref b] s = true) (hX : va_X b L xs s s.heap) (hbl : b < s.heap.size) (hkb : kb D (tyc cs) s) (hks : kS kf s) {A : Nat → Prop} (hE : kE kf A s s.heap) (hA : ∀ q : Nat, s.heap.size ≤ q → A q) (hA2 : ∀ q : Nat, A q → s.heap.size ≤ q) (hlocks : meth.locks = false) (hL : L ≤ 3072) (O : List Nat) (X : va_W) (hOX0 : ∀ o ∈ O, ∃ (k : Nat) (e : va_E), X[k]? = some (o, e)) (hO9 : O = []) (a0 ch a1 y2 y3 : Nat) : ∀ (k : Nat) (T : TF) (w hw gw hg G y0 nn j : Nat) (y1 x3 : Int32) (n cells slots : Nat) (H : Heap) (locs : List Loc) (ls : Array Slot), k + n = 512 → x3.toInt = 6 * (n : Int) → LV T a0 a1 ch w hw gw hg G G y0 y2 y3 nn j y1 → RM cells slots n j → HT D cs A T (ch :: O) ((ch, .inr (0, [.ref y0, .int y1, .ref y2, .ref y3])) :: X) H → va_S A s.heap H locs → lv_has ls 4 [(0, .ref b), (1, .ref a0), (2, .ref a1), (3, .int x3)] → W p l e room_1 s m #[Value.ref b] below meth c H locs cells slots (lw_Z below #[Value.ref b] s) (F0 m 18 ls []) := by
  have hbA : ¬ A b := fun h => absurd (hA2 _ h) (Nat.not_le.mpr hbl)
  intro k
  induction k using Nat.strongRecOn with
  | _ k ih =>
    intro T w hw gw hg G y0 nn j y1 x3 n cells slots H locs ls hk hx3 hv hr hH hS hl
    have hj14 : j ≤ 14 := hv.2.2.2.2.2.2.2.2.2.2.2.2.2
    obtain ⟨hr1, hr2⟩ := id hr
    refine lv_iload_n hx hb dL_law_18 rfl (lv_at hl 3 rfl) ?_
    refine lv_aload_n hx hb dL_law_19 rfl (lv_at hl 0 rfl) ?_
    refine va_slen hx hb hX hbl hbA hS dL_law_20 ?_
    refine lv_topi (fun v20 ev20 => ?_)
    have tv20 : v20.toInt = (L : Int) := by rw [ev20]; exact nI_toInt (by omega)
    refine lv_bipush (v := 6) hx hb dL_law_21 (by decide) ?_
    refine lv_isub hx hb dL_law_23 ?_
    refine lv_topi (fun v23 ev23 => ?_)
    have tv23 : v23.toInt = v20.toInt - (6) := by rw [ev23]; exact sub_i rfl (by decide : (6 : Int32).toInt = 6) (by omega) (by omega)
    refine lv_icmp_gt (tgt := 1401) hx hb dL_law_24 (by decide) (fun c24 => ?_) (fun c24 => ?_)
    · skip
      refine lv_iconst (v := 1) hx hb dL_law_1401 (by decide) ?_
      refine va_forget (fun q hq => hA2 _ (hS.2.2 q hq)) ?_
      refine W.widen (k := 600000) (n := 7302250) (by omega) (by omega) ?_
      exact lw_ret hx hb hr0 hlocks dL_law_1402
    · skip
      have tc24 := g_nlt c24
      have l_x3 : 0 ≤ x3.toInt := by omega
      have u_x3 : x3.toInt + 6 ≤ L := by omega
      have hn512 : n < 512 := by omega
      have kk : ∀ (T : TF) (w hw gw hg G y0 nn j : Nat) (y1 : Int32) (cells slots : Nat) (H : Heap) (locs : List Loc) (ls : Array Slot), LV T a0 a1 ch w hw gw hg G G y0 y2 y3 nn j y1 → RM cells slots (n + 1) j → HT D cs A T (ch :: O) ((ch, .inr (0, [.ref y0, .int y1, .ref y2, .ref y3])) :: X) H → va_S A s.heap H locs → lv_has ls 4 [(0, .ref b), (1, .ref a0), (2, .ref a1), (3, .int x3)] → W p l e room_1 s m #[Value.ref b] below meth c H locs cells slots (lw_Z below #[Value.ref b] s) (F0 m 1395 ls []) := by
        intro T w hw gw hg G y0 nn j y1 cells slots H locs ls hv hr hH hS hl
        obtain ⟨v9, ev9⟩ : ∃ y : Int32, y = x3 + 6 := ⟨_, rfl⟩
        have tv9 : v9.toInt = x3.toInt + (6) := by rw [ev9]; exact add_i rfl (by decide) (by omega) (by omega)
        refine lv_iinc (v := v9) (lv' := [(3, .int v9), (0, .ref b), (1, .ref a0), (2, .ref a1)]) hx hb dL_law_1395 hl (k := 3) rfl (by rw [ev9]; rfl) (by decide) rfl (fun ls hl => ?_)
        refine lv_goto (tgt := 18) hx hb dL_law_1398 (by decide) ?_
        exact ih (k - 1) (by omega) T w hw gw hg G y0 nn j y1 v9 (n + 1) cells slots _ _ _ (by omega) (by omega) hv hr hH hS (lv_sub hl [1, 2, 3, 0] rfl)
      refine lv_aload_n hx hb dL_law_27 rfl (lv_at hl 0 rfl) ?_
      refine lv_iload_n hx hb dL_law_28 rfl (lv_at hl 3 rfl) ?_
      refine va_sld hx hb hX hbl hbA hS (in_t (by omega) (by omega)) dL_law_29 ?_
      refine lv_bipush (v := 63) hx hb dL_law_30 (by decide) ?_
      refine lv_iand hx hb dL_law_32 ?_
      refine lv_topi (fun v32 ev32 => ?_)
      by_cases c0 : v32 = 0
      · skip
        refine lv_topc c0 ?_
        refine lv_tableIn (off := 179) (tgt := 212) hx hb dL_law_33 (by decide) (by decide) (by decide) (by decide) ?_
        exact lw_c0 l D cs kf hx hb hml hown hts hX hbl hkb hks hE hA hbA hL O X hOX0 hO9 a0 ch a1 y2 y3 T w hw gw hg G y0 nn j y1 x3 n cells slots H locs ls hv hr hn512 l_x3 u_x3 hH hS hl kk
      have d0 := f_ne (k := 0) (by decide) c0
      by_cases c1 : v32 = 1
      · skip
        refine lv_topc c1 ?_
        refine lv_tableIn (off := 242) (tgt := 275) hx hb dL_law_33 (by decide) (by decide) (by decide) (by decide) ?_
        exact lw_c1 l D cs kf hx hb hml hown hts hX hbl hkb hks hE hA hbA hL O X hOX0 hO9 a0 ch a1 y2 y3 T w hw gw hg G y0 nn j y1 x3 n cells slots H locs ls hv hr hn512 l_x3 u_x3 hH hS hl kk
      have d1 := f_ne (k := 1) (by decide) c1
      by_cases c2 : v32 = 2
      · skip
        refine lv_topc c2 ?_
        refine lv_tableIn (off := 265) (tgt := 298) hx hb dL_law_33 (by decide) (by decide) (by decide) (by decide) ?_
        exact lw_c2 l D cs kf hx hb hml hown hts hX hbl hkb hks hE hA hbA hL O X hOX0 hO9 a0 ch a1 y2 y3 T w hw gw hg G y0 nn j y1 x3 n cells slots H locs ls hv hr hn512 l_x3 u_x3 hH hS hl kk
      have d2 := f_ne (k := 2) (by decide) c2
      by_cases c3 : v32 = 3
      · skip
        refine lv_topc c3 ?_
        refine lv_tableIn (off := 288) (tgt := 321) hx hb dL_law_33 (by decide) (by decide) (by decide) (by decide) ?_
        exact lw_c3 l D cs kf hx hb hml hown hts hX hbl hkb hks hE hA hbA hL O X hOX0 hO9 a0 ch a1 y2 y3 T w hw gw hg G y0 nn j y1 x3 n cells slots H locs ls hv hr hn512 l_x3 u_x3 hH hS hl kk
      have d3 := f_ne (k := 3) (by decide) c3
      by_cases c4 : v32 = 4
      · skip
        refine lv_topc c4 ?_
        refine lv_tableIn (off := 321) (tgt := 354) hx hb dL_law_33 (by decide) (by decide) (by decide) (by decide) ?_
        exact lw_c4 l D cs kf hx hb hml hown hts hX hbl hkb hks hE hA hbA hL O X hOX0 hO9 a0 ch a1 y2 y3 T w hw gw hg G y0 nn j y1 x3 n cells slots H locs ls hv hr hn512 l_x3 u_x3 hH hS hl kk
      have d4 := f_ne (k := 4) (by decide) c4
      by_cases c5 : v32 = 5
      · skip
        refine lv_topc c5 ?_
        refine lv_tableIn (off := 354) (tgt := 387) hx hb dL_law_33 (by decide) (by decide) (by decide) (by decide) ?_
        exact lw_c5 l D cs kf hx hb hml hown hts hX hbl hkb hks hE hA hbA hL O X hOX0 hO9 a0 ch a1 y2 y3 T w hw gw hg G y0 nn j y1 x3 n cells slots H locs ls hv hr hn512 l_x3 u_x3 hH hS hl kk
      have d5 := f_ne (k := 5) (by decide) c5
      by_cases c6 : v32 = 6
      · skip
        refine lv_topc c6 ?_
        refine lv_tableIn (off := 397) (tgt := 430) hx hb dL_law_33 (by decide) (by decide) (by decide) (by decide) ?_
        exact lw_c6 l D cs kf hx hb hml hown hts hX hbl hkb hks hE hA hbA hL O X hOX0 hO9 a0 ch a1 y2 y3 T w hw gw hg G y0 nn j y1 x3 n cells slots H locs ls hv hr hn512 l_x3 u_x3 hH hS hl kk
      have d6 := f_ne (k := 6) (by decide) c6
      by_cases c7 : v32 = 7
      · skip
        refine lv_topc c7 ?_
        refine lv_tableIn (off := 420) (tgt := 453) hx hb dL_law_33 (by decide) (by decide) (by decide) (by decide) ?_
        exact lw_c7 l D cs kf hx hb hml hown hts hX hbl hkb hks hE hA hbA hL O X hOX0 hO9 a0 ch a1 y2 y3 T w hw gw hg G y0 nn j y1 x3 n cells slots H locs ls hv hr hn512 l_x3 u_x3 hH hS hl kk
      have d7 := f_ne (k := 7) (by decide) c7
      by_cases c8 : v32 = 8
      · skip
        refine lv_topc c8 ?_
        refine lv_tableIn (off := 453) (tgt := 486) hx hb dL_law_33 (by decide) (by decide) (by decide) (by decide) ?_
        exact lw_c8 l D cs kf hx hb hml hown hts hX hbl hkb hks hE hA hbA hL O X hOX0 hO9 a0 ch a1 y2 y3 T w hw gw hg G y0 nn j y1 x3 n cells slots H locs ls hv hr hn512 l_x3 u_x3 hH hS hl kk
      have d8 := f_ne (k := 8) (by decide) c8
      by_cases c9 : v32 = 9
      · skip
        refine lv_topc c9 ?_
        refine lv_tableIn (off := 476) (tgt := 509) hx hb dL_law_33 (by decide) (by decide) (by decide) (by decide) ?_
        exact lw_c9 l D cs kf hx hb hml hown hts hX hbl hkb hks hE hA hbA hL O X hOX0 hO9 a0 ch a1 y2 y3 T w hw gw hg G y0 nn j y1 x3 n cells slots H locs ls hv hr hn512 l_x3 u_x3 hH hS hl kk
      have d9 := f_ne (k := 9) (by decide) c9
      by_cases c10 : v32 = 10
      · skip
        refine lv_topc c10 ?_
        refine lv_tableIn (off := 499) (tgt := 532) hx hb dL_law_33 (by decide) (by decide) (by decide) (by decide) ?_
        exact lw_c10 l D cs kf hx hb hml hown hts hX hbl hkb hks hE hA hbA hL O X hOX0 hO9 a0 ch a1 y2 y3 T w hw gw hg G y0 nn j y1 x3 n cells slots H locs ls hv hr hn512 l_x3 u_x3 hH hS hl kk
      have d10 := f_ne (k := 10) (by decide) c10
      by_cases c11 : v32 = 11
      · skip
        refine lv_topc c11 ?_
        refine lv_tableIn (off := 522) (tgt := 555) hx hb dL_law_33 (by decide) (by decide) (by decide) (by decide) ?_
        exact lw_c11 l D cs kf hx hb hml hown hts hX hbl hkb hks hE hA hbA hL O X hOX0 hO9 a0 ch a1 y2 y3 T w hw gw hg G y0 nn j y1 x3 n cells slots H locs ls hv hr hn512 l_x3 u_x3 hH hS hl kk
      have d11 := f_ne (k := 11) (by decide) c11
      by_cases c12 : v32 = 12
      · skip
        refine lv_topc c12 ?_
        refine lv_tableIn (off := 545) (tgt := 578) hx hb dL_law_33 (by decide) (by decide) (by decide) (by decide) ?_
        exact lw_c12 l D cs kf hx hb hml hown hts hX hbl hkb hks hE hA hbA hL O X hOX0 hO9 a0 ch a1 y2 y3 T w hw gw hg G y0 nn j y1 x3 n cells slots H locs ls hv hr hn512 l_x3 u_x3 hH hS hl kk
      have d12 := f_ne (k := 12) (by decide) c12
      by_cases c13 : v32 = 13
      · skip
        refine lv_topc c13 ?_
        refine lv_tableIn (off := 568) (tgt := 601) hx hb dL_law_33 (by decide) (by decide) (by decide) (by decide) ?_
        exact lw_c13 l D cs kf hx hb hml hown hts hX hbl hkb hks hE hA hbA hL O X hOX0 hO9 a0 ch a1 y2 y3 T w hw gw hg G y0 nn j y1 x3 n cells slots H locs ls hv hr hn512 l_x3 u_x3 hH hS hl kk
      have d13 := f_ne (k := 13) (by decide) c13
      by_cases c14 : v32 = 14
      · skip
        refine lv_topc c14 ?_
        refine lv_tableIn (off := 581) (tgt := 614) hx hb dL_law_33 (by decide) (by decide) (by decide) (by decide) ?_
        exact lw_c14 l D cs kf hx hb hml hown hts hX hbl hkb hks hE hA hbA hL O X hOX0 hO9 a0 ch a1 y2 y3 T w hw gw hg G y0 nn j y1 x3 n cells slots H locs ls hv hr hn512 l_x3 u_x3 hH hS hl kk
      have d14 := f_ne (k := 14) (by decide) c14
      by_cases c15 : v32 = 15
      · skip
        refine lv_topc c15 ?_
        refine lv_tableIn (off := 604) (tgt := 637) hx hb dL_law_33 (by decide) (by decide) (by decide) (by decide) ?_
        exact lw_c15 l D cs kf hx hb hml hown hts hX hbl hkb hks hE hA hbA hL O X hOX0 hO9 a0 ch a1 y2 y3 T w hw gw hg G y0 nn j y1 x3 n cells slots H locs ls hv hr hn512 l_x3 u_x3 hH hS hl kk
      have d15 := f_ne (k := 15) (by decide) c15
      by_cases c16 : v32 = 16
      · skip
        refine lv_topc c16 ?_
        refine lv_tableIn (off := 637) (tgt := 670) hx hb dL_law_33 (by decide) (by decide) (by decide) (by decide) ?_
        exact lw_c16 l D cs kf hx hb hml hown hts hX hbl hkb hks hE hA hbA hL O X hOX0 hO9 a0 ch a1 y2 y3 T w hw gw hg G y0 nn j y1 x3 n cells slots H locs ls hv hr hn512 l_x3 u_x3 hH hS hl kk
      have d16 := f_ne (k := 16) (by decide) c16
      by_cases c17 : v32 = 17
      · skip
        refine lv_topc c17 ?_
        refine lv_tableIn (off := 670) (tgt := 703) hx hb dL_law_33 (by decide) (by decide) (by decide) (by decide) ?_
        exact lw_c17 l D cs kf hx hb hml hown hts hX hbl hkb hks hE hA hbA hL O X hOX0 hO9 a0 ch a1 y2 y3 T w hw gw hg G y0 nn j y1 x3 n cells slots H locs ls hv hr hn512 l_x3 u_x3 hH hS hl kk
      have d17 := f_ne (k := 17) (by decide) c17
      by_cases c18 : v32 = 18
      · skip
        refine lv_topc c18 ?_
        refine lv_tableIn (off := 693) (tgt := 726) hx hb dL_law_33 (by decide) (by decide) (by decide) (by decide) ?_
        exact lw_c18 l D cs kf hx hb hml hown hts hX hbl hkb hks hE hA hbA hL O X hOX0 hO9 a0 ch a1 y2 y3 T w hw gw hg G y0 nn j y1 x3 n cells slots H locs ls hv hr hn512 l_x3 u_x3 hH hS hl kk
      have d18 := f_ne (k := 18) (by decide) c18
      by_cases c19 : v32 = 19
      · skip
        refine lv_topc c19 ?_
        refine lv_tableIn (off := 726) (tgt := 759) hx hb dL_law_33 (by decide) (by decide) (by decide) (by decide) ?_
        exact lw_c19 l D cs kf hx hb hml hown hts hX hbl hkb hks hE hA hbA hL O X hOX0 hO9 a0 ch a1 y2 y3 T w hw gw hg G y0 nn j y1 x3 n cells slots H locs ls hv hr hn512 l_x3 u_x3 hH hS hl kk
      have d19 := f_ne (k := 19) (by decide) c19
      by_cases c20 : v32 = 20
      · skip
        refine lv_topc c20 ?_
        refine lv_tableIn (off := 749) (tgt := 782) hx hb dL_law_33 (by decide) (by decide) (by decide) (by decide) ?_
        exact lw_c20 l D cs kf hx hb hml hown hts hX hbl hkb hks hE hA hbA hL O X hOX0 hO9 a0 ch a1 y2 y3 T w hw gw hg G y0 nn j y1 x3 n cells slots H locs ls hv hr hn512 l_x3 u_x3 hH hS hl kk
      have d20 := f_ne (k := 20) (by decide) c20
      by_cases c21 : v32 = 21
      · skip
        refine lv_topc c21 ?_
        refine lv_tableIn (off := 782) (tgt := 815) hx hb dL_law_33 (by decide) (by decide) (by decide) (by decide) ?_
        exact lw_c21 l D cs kf hx hb hml hown hts hX hbl hkb hks hE hA hbA hL O X hOX0 hO9 a0 ch a1 y2 y3 T w hw gw hg G y0 nn j y1 x3 n cells slots H locs ls hv hr hn512 l_x3 u_x3 hH hS hl kk
      have d21 := f_ne (k := 21) (by decide) c21
      by_cases c22 : v32 = 22
      · skip
        refine lv_topc c22 ?_
        refine lv_tableIn (off := 805) (tgt := 838) hx hb dL_law_33 (by decide) (by decide) (by decide) (by decide) ?_
        exact lw_c22 l D cs kf hx hb hml hown hts hX hbl hkb hks hE hA hbA hL O X hOX0 hO9 a0 ch a1 y2 y3 T w hw gw hg G y0 nn j y1 x3 n cells slots H locs ls hv hr hn512 l_x3 u_x3 hH hS hl kk
      have d22 := f_ne (k := 22) (by decide) c22
      by_cases c23 : v32 = 23
      · skip
        refine lv_topc c23 ?_
        refine lv_tableIn (off := 828) (tgt := 861) hx hb dL_law_33 (by decide) (by decide) (by decide) (by decide) ?_
        exact lw_c23 l D cs kf hx hb hml hown hts hX hbl hkb hks hE hA hbA hL O X hOX0 hO9 a0 ch a1 y2 y3 T w hw gw hg G y0 nn j y1 x3 n cells slots H locs ls hv hr hn512 l_x3 u_x3 hH hS hl kk
      have d23 := f_ne (k := 23) (by decide) c23
      by_cases c24 : v32 = 24
      · skip
        refine lv_topc c24 ?_
        refine lv_tableIn (off := 841) (tgt := 874) hx hb dL_law_33 (by decide) (by decide) (by decide) (by decide) ?_
        exact lw_c24 l D cs kf hx hb hml hown hts hX hbl hkb hks hE hA hbA hL O X hOX0 hO9 a0 ch a1 y2 y3 T w hw gw hg G y0 nn j y1 x3 n cells slots H locs ls hv hr hn512 l_x3 u_x3 hH hS hl kk
      have d24 := f_ne (k := 24) (by decide) c24
      by_cases c25 : v32 = 25
      · skip
        refine lv_topc c25 ?_
        refine lv_tableIn (off := 864) (tgt := 897) hx hb dL_law_33 (by decide) (by decide) (by decide) (by decide) ?_
        exact lw_c25 l D cs kf hx hb hml hown hts hX hbl hkb hks hE hA hbA hL O X hOX0 hO9 a0 ch a1 y2 y3 T w hw gw hg G y0 nn j y1 x3 n cells slots H locs ls hv hr hn512 l_x3 u_x3 hH hS hl kk
      have d25 := f_ne (k := 25) (by decide) c25
      by_cases c26 : v32 = 26
      · skip
        refine lv_topc c26 ?_
        refine lv_tableIn (off := 887) (tgt := 920) hx hb dL_law_33 (by decide) (by decide) (by decide) (by decide) ?_
        exact lw_c26 l D cs kf hx hb hml hown hts hX hbl hkb hks hE hA hbA hL O X hOX0 hO9 a0 ch a1 y2 y3 T w hw gw hg G y0 nn j y1 x3 n cells slots H locs ls hv hr hn512 l_x3 u_x3 hH hS hl kk
      have d26 := f_ne (k := 26) (by decide) c26
      by_cases c27 : v32 = 27
      · skip
        refine lv_topc c27 ?_
        refine lv_tableIn (off := 920) (tgt := 953) hx hb dL_law_33 (by decide) (by decide) (by decide) (by decide) ?_
        exact lw_c27 l D cs kf hx hb hml hown hts hX hbl hkb hks hE hA hbA hL O X hOX0 hO9 a0 ch a1 y2 y3 T w hw gw hg G y0 nn j y1 x3 n cells slots H locs ls hv hr hn512 l_x3 u_x3 hH hS hl kk
      have d27 := f_ne (k := 27) (by decide) c27
      by_cases c28 : v32 = 28
      · skip
        refine lv_topc c28 ?_
        refine lv_tableIn (off := 943) (tgt := 976) hx hb dL_law_33 (by decide) (by decide) (by decide) (by decide) ?_
        exact lw_c28 l D cs kf hx hb hml hown hts hX hbl hkb hks hE hA hbA hL O X hOX0 hO9 a0 ch a1 y2 y3 T w hw gw hg G y0 nn j y1 x3 n cells slots H locs ls hv hr hn512 l_x3 u_x3 hH hS hl kk
      have d28 := f_ne (k := 28) (by decide) c28
      by_cases c29 : v32 = 29
      · skip
        refine lv_topc c29 ?_
        refine lv_tableIn (off := 966) (tgt := 999) hx hb dL_law_33 (by decide) (by decide) (by decide) (by decide) ?_
        exact lw_c29 l D cs kf hx hb hml hown hts hX hbl hkb hks hE hA hbA hL O X hOX0 hO9 a0 ch a1 y2 y3 T w hw gw hg G y0 nn j y1 x3 n cells slots H locs ls hv hr hn512 l_x3 u_x3 hH hS hl kk
      have d29 := f_ne (k := 29) (by decide) c29
      by_cases c30 : v32 = 30
      · skip
        refine lv_topc c30 ?_
        refine lv_tableIn (off := 989) (tgt := 1022) hx hb dL_law_33 (by decide) (by decide) (by decide) (by decide) ?_
        exact lw_c30 l D cs kf hx hb hml hown hts hX hbl hkb hks hE hA hbA hL O X hOX0 hO9 a0 ch a1 y2 y3 T w hw gw hg G y0 nn j y1 x3 n cells slots H locs ls hv hr hn512 l_x3 u_x3 hH hS hl kk
      have d30 := f_ne (k := 30) (by decide) c30
      by_cases c31 : v32 = 31
      · skip
        refine lv_topc c31 ?_
        refine lv_tableIn (off := 1012) (tgt := 1045) hx hb dL_law_33 (by decide) (by decide) (by decide) (by decide) ?_
        exact lw_c31 l D cs kf hx hb hml hown hts hX hbl hkb hks hE hA hbA hL O X hOX0 hO9 a0 ch a1 y2 y3 T w hw gw hg G y0 nn j y1 x3 n cells slots H locs ls hv hr hn512 l_x3 u_x3 hH hS hl kk
      have d31 := f_ne (k := 31) (by decide) c31
      by_cases c32 : v32 = 32
      · skip
        refine lv_topc c32 ?_
        refine lv_tableIn (off := 1055) (tgt := 1088) hx hb dL_law_33 (by decide) (by decide) (by decide) (by decide) ?_
        exact lw_c32 l D cs kf hx hb hml hown hts hX hbl hkb hks hE hA hbA hL O X hOX0 hO9 a0 ch a1 y2 y3 T w hw gw hg G y0 nn j y1 x3 n cells slots H locs ls hv hr hn512 l_x3 u_x3 hH hS hl kk
      have d32 := f_ne (k := 32) (by decide) c32
      by_cases c33 : v32 = 33
      · skip
        refine lv_topc c33 ?_
        refine lv_tableIn (off := 1078) (tgt := 1111) hx hb dL_law_33 (by decide) (by decide) (by decide) (by decide) ?_
        exact lw_c33 l D cs kf hx hb hml hown hts hX hbl hkb hks hE hA hbA hL O X hOX0 hO9 a0 ch a1 y2 y3 T w hw gw hg G y0 nn j y1 x3 n cells slots H locs ls hv hr hn512 l_x3 u_x3 hH hS hl kk
      have d33 := f_ne (k := 33) (by decide) c33
      by_cases c34 : v32 = 34
      · skip
        refine lv_topc c34 ?_
        refine lv_tableIn (off := 1111) (tgt := 1144) hx hb dL_law_33 (by decide) (by decide) (by decide) (by decide) ?_
        exact lw_c34 l D cs kf hx hb hml hown hts hX hbl hkb hks hE hA hbA hL O X hOX0 hO9 a0 ch a1 y2 y3 T w hw gw hg G y0 nn j y1 x3 n cells slots H locs ls hv hr hn512 l_x3 u_x3 hH hS hl kk
      have d34 := f_ne (k := 34) (by decide) c34
      by_cases c35 : v32 = 35
      · skip
        refine lv_topc c35 ?_
        refine lv_tableIn (off := 1144) (tgt := 1177) hx hb dL_law_33 (by decide) (by decide) (by decide) (by decide) ?_
        exact lw_c35 l D cs kf hx hb hml hown hts hX hbl hkb hks hE hA hbA hL O X hOX0 hO9 a0 ch a1 y2 y3 T w hw gw hg G y0 nn j y1 x3 n cells slots H locs ls hv hr hn512 l_x3 u_x3 hH hS hl kk
      have d35 := f_ne (k := 35) (by decide) c35
      by_cases c36 : v32 = 36
      · skip
        refine lv_topc c36 ?_
        refine lv_tableIn (off := 1187) (tgt := 1220) hx hb dL_law_33 (by decide) (by decide) (by decide) (by decide) ?_
        exact lw_c36 l D cs kf hx hb hml hown hts hX hbl hkb hks hE hA hbA hL O X hOX0 hO9 a0 ch a1 y2 y3 T w hw gw hg G y0 nn j y1 x3 n cells slots H locs ls hv hr hn512 l_x3 u_x3 hH hS hl kk
      have d36 := f_ne (k := 36) (by decide) c36
      by_cases c37 : v32 = 37
      · skip
        refine lv_topc c37 ?_
        refine lv_tableIn (off := 1260) (tgt := 1293) hx hb dL_law_33 (by decide) (by decide) (by decide) (by decide) ?_
        exact lw_c37 l D cs kf hx hb hml hown hts hX hbl hkb hks hE hA hbA hL O X hOX0 hO9 a0 ch a1 y2 y3 T w hw gw hg G y0 nn j y1 x3 n cells slots H locs ls hv hr hn512 l_x3 u_x3 hH hS hl kk
      have d37 := f_ne (k := 37) (by decide) c37
      by_cases c38 : v32 = 38
      · skip
        refine lv_topc c38 ?_
        refine lv_tableIn (off := 1293) (tgt := 1326) hx hb dL_law_33 (by decide) (by decide) (by decide) (by decide) ?_
        exact lw_c38 l D cs kf hx hb hml hown hts hX hbl hkb hks hE hA hbA hL O X hOX0 hO9 a0 ch a1 y2 y3 T w hw gw hg G y0 nn j y1 x3 n cells slots H locs ls hv hr hn512 l_x3 u_x3 hH hS hl kk
      have d38 := f_ne (k := 38) (by decide) c38
      by_cases c39 : v32 = 39
      · skip
        refine lv_topc c39 ?_
        refine lv_tableIn (off := 1316) (tgt := 1349) hx hb dL_law_33 (by decide) (by decide) (by decide) (by decide) ?_
        exact lw_c39 l D cs kf hx hb hml hown hts hX hbl hkb hks hE hA hbA hL O X hOX0 hO9 a0 ch a1 y2 y3 T w hw gw hg G y0 nn j y1 x3 n cells slots H locs ls hv hr hn512 l_x3 u_x3 hH hS hl kk
      have d39 := f_ne (k := 39) (by decide) c39
      by_cases c40 : v32 = 40
      · skip
        refine lv_topc c40 ?_
        refine lv_tableIn (off := 1339) (tgt := 1372) hx hb dL_law_33 (by decide) (by decide) (by decide) (by decide) ?_
        exact lw_c40 l D cs kf hx hb hml hown hts hX hbl hkb hks hE hA hbA hL O X hOX0 hO9 a0 ch a1 y2 y3 T w hw gw hg G y0 nn j y1 x3 n cells slots H locs ls hv hr hn512 l_x3 u_x3 hH hS hl kk
      have d40 := f_ne (k := 40) (by decide) c40
      refine lv_tableOut (tgt := 1395) hx hb dL_law_33 (by omega) (by decide) ?_
      exact kk T w hw gw hg G y0 nn j y1 cells slots H locs ls hv hr.s hH hS hl
