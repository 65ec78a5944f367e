set_option maxHeartbeats 4000000 in
set_option maxRecDepth 100000 in
theorem s_Law_holds (l : Launch) (D : va_G) (cs : CS) (kf : KF) (T : TF) (O : List Nat) (X : va_W) (a0 na0 : Nat) (t_a0 : T a0 = some (12, na0, 0)) (b_a0 : na0 ≤ 900) (hO : okO T O [1, 12]) : TK l D cs kf yX2_holds cX2_holds 5 (some (.boolean)) { frames := 1, cells := 0, slots := 0, locals := 24 } [.ref a0] T O X (Ti D cs (fun r u => u = (T, O, X) ∧ 0 ≤ r.toInt ∧ r.toInt ≤ 1)) := by
  refine tk_of (by decide) (Nat.le_of_ble_eq_true rfl) (fun p e s m below meth c ls A H locs hx hb hr hml hown hts hlocks hnm hkb hH hS hA hOX hks hE hl => ?_)
  have hown : s.vm.findClass RX2 = some m.cls := hown
  have hl : lv_has ls 5 [(0, .ref a0)] := hl
  refine lv_iconst (v := 0) hx hb dX2_holds_0 (by decide) ?_
  refine lv_istore_n (lv' := [(1, .int 0), (0, .ref a0)]) hx hb dX2_holds_1 rfl hl (by decide) rfl (fun ls hl => ?_)
  refine lv_iconst (v := 0) hx hb dX2_holds_2 (by decide) ?_
  have J4 : ∀ (n : Nat) (p4_2 : Int32) (p4_1 : Int32) (H : Heap) (locs : List Loc) (ls : Array Slot), (134217727 - p4_2.toInt).toNat = n → (0 ≤ p4_2.toInt) → (p4_2.toInt ≤ 134217727) → (0 ≤ p4_1.toInt) → (p4_1.toInt ≤ 24) → HT D cs A T O X H → va_S A s.heap H locs → lv_has ls 5 [(2, .int p4_2), (1, .int p4_1), (0, .ref a0)] → W p l e { frames := 1, cells := 0, slots := 0, locals := 24 } s m [.ref a0].toArray below meth c H locs 0 0 (MQ below (Ti D cs (fun r u => u = (T, O, X) ∧ 0 ≤ r.toInt ∧ r.toInt ≤ 1) A) [.ref a0].toArray s 0 0 A) (F0 m 4 ls []) := by
    intro n
    induction n using Nat.strongRecOn with
    | _ n ih4 =>
      intro p4_2 p4_1 H locs ls hm4 l_p4_2 u_p4_2 l_p4_1 u_p4_1 hH hS hl
      refine lv_iload_n hx hb dX2_holds_4 rfl (lv_at hl 0 rfl) ?_
      refine lv_aload_n hx hb dX2_holds_5 rfl (lv_at hl 2 rfl) ?_
      refine t_get (ci := 2) (lst := ft2 na0 0) (C := RX2) (F := TX2) (N := 3) hx hb hts uX2 hown hkb hH t_a0 (hO.no t_a0 (by decide)) (fun _ h9 => h9) rfl rfl 0 (by decide) rfl kw_739 (fun _ h9 => h9) dX2_holds_6 (fun v9 h9 => ?_)
      obtain ⟨v6, rfl, t_v6⟩ := h9
      refine t_len1 hx hb hkb hH t_v6 (hO.no t_v6 (by decide)) dX2_holds_9 ?_
      have e_na0 : (nI na0).toInt = na0 := nI_toInt (by omega)
      refine lv_icmp_ge (tgt := 206) hx hb dX2_holds_10 (by decide) (fun c10 => ?_) (fun c10 => ?_)
      · skip
        have fuc10 := full_i p4_2
        have fvc10 := full_i (nI na0)
        have tc10 := g_le c10
        refine lv_iload_n hx hb dX2_holds_206 rfl (lv_at hl 1 rfl) ?_
        have J226 : ∀ (k226_0 : Int32) (H : Heap) (locs : List Loc) (ls : Array Slot), (0 ≤ k226_0.toInt) → (k226_0.toInt ≤ 1) → HT D cs A T O X H → va_S A s.heap H locs → lv_has ls 5 [] → W p l e { frames := 1, cells := 0, slots := 0, locals := 24 } s m [.ref a0].toArray below meth c H locs 0 0 (MQ below (Ti D cs (fun r u => u = (T, O, X) ∧ 0 ≤ r.toInt ∧ r.toInt ≤ 1) A) [.ref a0].toArray s 0 0 A) (F0 m 226 ls [.int k226_0]) := by
          intro k226_0 H locs ls l_k226_0 u_k226_0 hH hS hl
          exact te_z hx hb hr hlocks (nar01 (by omega) (by omega)) hH hS (⟨rfl, by omega, by omega⟩) dX2_holds_226
        have J225 : ∀  (H : Heap) (locs : List Loc) (ls : Array Slot), HT D cs A T O X H → va_S A s.heap H locs → lv_has ls 5 [] → W p l e { frames := 1, cells := 0, slots := 0, locals := 24 } s m [.ref a0].toArray below meth c H locs 0 0 (MQ below (Ti D cs (fun r u => u = (T, O, X) ∧ 0 ≤ r.toInt ∧ r.toInt ≤ 1) A) [.ref a0].toArray s 0 0 A) (F0 m 225 ls []) := by
          intro  H locs ls  hH hS hl
          refine lv_iconst (v := 0) hx hb dX2_holds_225 (by decide) ?_
          exact J226 0 _ _ _ (by decide) (by decide) hH hS (lv_sub hl [] rfl)
        refine lv_if_le (tgt := 225) hx hb dX2_holds_207 (by decide) (fun c207 => ?_) (fun c207 => ?_)
        · skip
          have tc207 := f_le (k := 0) (by decide) c207
          exact J225  _ _ _  hH hS (lv_sub hl [] rfl)
        · skip
          have tc207 := f_nle (k := 0) (by decide) c207
          refine lv_aload_n hx hb dX2_holds_210 rfl (lv_at hl 2 rfl) ?_
          refine t_get (ci := 2) (lst := ft2 na0 0) (C := RX2) (F := TX2) (N := 3) hx hb hts uX2 hown hkb hH t_a0 (hO.no t_a0 (by decide)) (fun _ h9 => h9) rfl rfl 2 (by decide) rfl kw_742 (fun _ h9 => h9) dX2_holds_211 (fun v9 h9 => ?_)
          obtain ⟨v211, rfl, t_v211⟩ := h9
          refine lv_iload_n hx hb dX2_holds_214 rfl (lv_at hl 1 rfl) ?_
          refine lv_iconst (v := 1) hx hb dX2_holds_215 (by decide) ?_
          refine lv_isub hx hb dX2_holds_216 ?_
          refine lv_topi (fun v216 ev216 => ?_)
          have tv216 : v216.toInt = p4_1.toInt - (1) := by rw [ev216]; exact sub_i rfl (by decide : (1 : Int32).toInt = 1) (by omega) (by omega)
          refine t_ild hx hb hkb hH t_v211 (hO.no t_v211 (by decide)) (by omega) (by omega) dX2_holds_217 (fun v217 h9 => ?_)
          refine lv_if_eq (tgt := 225) hx hb dX2_holds_218 (by decide) (fun c218 => ?_) (fun c218 => ?_)
          · skip
            have tc218 := f_eq (k := 0) (by decide) c218
            exact J225  _ _ _  hH hS (lv_sub hl [] rfl)
          · skip
            have tc218 := f_ne (k := 0) (by decide) c218
            refine lv_iconst (v := 1) hx hb dX2_holds_221 (by decide) ?_
            refine lv_goto (tgt := 226) hx hb dX2_holds_222 (by decide) ?_
            exact J226 1 _ _ _ (by decide) (by decide) hH hS (lv_sub hl [] rfl)
      · skip
        have fuc10 := full_i p4_2
        have fvc10 := full_i (nI na0)
        have tc10 := g_nle c10
        refine lv_aload_n hx hb dX2_holds_13 rfl (lv_at hl 2 rfl) ?_
        refine t_get (ci := 2) (lst := ft2 na0 0) (C := RX2) (F := TX2) (N := 3) hx hb hts uX2 hown hkb hH t_a0 (hO.no t_a0 (by decide)) (fun _ h9 => h9) rfl rfl 0 (by decide) rfl kw_739 (fun _ h9 => h9) dX2_holds_14 (fun v9 h9 => ?_)
        obtain ⟨v14, rfl, t_v14⟩ := h9
        refine lv_iload_n hx hb dX2_holds_17 rfl (lv_at hl 0 rfl) ?_
        refine t_ild hx hb hkb hH t_v14 (hO.no t_v14 (by decide)) (by omega) (by omega) dX2_holds_18 (fun v18 h9 => ?_)
        refine lv_bipush (v := 15) hx hb dX2_holds_19 (by decide) ?_
        refine lv_iand hx hb dX2_holds_21 ?_
        refine lv_topi (fun v21 ev21 => ?_)
        have tv21 : 0 ≤ v21.toInt ∧ v21.toInt ≤ 15 := by rw [ev21]; exact and_r (by decide)
        refine lv_istore_n (lv' := [(3, .int v21), (2, .int p4_2), (1, .int p4_1), (0, .ref a0)]) hx hb dX2_holds_22 rfl hl (by decide) rfl (fun ls hl => ?_)
        refine lv_aload_n hx hb dX2_holds_23 rfl (lv_at hl 3 rfl) ?_
        refine t_get (ci := 2) (lst := ft2 na0 0) (C := RX2) (F := TX2) (N := 3) hx hb hts uX2 hown hkb hH t_a0 (hO.no t_a0 (by decide)) (fun _ h9 => h9) rfl rfl 0 (by decide) rfl kw_739 (fun _ h9 => h9) dX2_holds_24 (fun v9 h9 => ?_)
        obtain ⟨v24, rfl, t_v24⟩ := h9
        refine lv_iload_n hx hb dX2_holds_27 rfl (lv_at hl 1 rfl) ?_
        refine t_ild hx hb hkb hH t_v24 (hO.no t_v24 (by decide)) (by omega) (by omega) dX2_holds_28 (fun v28 h9 => ?_)
        refine lv_iconst (v := 4) hx hb dX2_holds_29 (by decide) ?_
        refine lv_ishr hx hb dX2_holds_30 ?_
        refine lv_topi (fun v30 ev30 => ?_)
        have tv30 : v30.toInt = v28.toInt / 16 := by rw [ev30]; exact shr_c 4 (by decide +kernel) (by decide)
        have fv30 := full_i v28
        refine lv_istore (lv' := [(4, .int v30), (3, .int v21), (2, .int p4_2), (1, .int p4_1), (0, .ref a0)]) hx hb dX2_holds_31 hl (by decide) rfl (fun ls hl => ?_)
        refine lv_iload_n hx hb dX2_holds_33 rfl (lv_at hl 1 rfl) ?_
        refine lv_iconst (v := 1) hx hb dX2_holds_34 (by decide) ?_
        have J200 : ∀ (p200_1 : Int32) (p200_2 : Int32) (H : Heap) (locs : List Loc) (ls : Array Slot), (0 ≤ p200_1.toInt) → (p200_1.toInt ≤ 24) → (0 ≤ p200_2.toInt) → (p200_2.toInt ≤ 134217726) → (p4_2.toInt ≤ p200_2.toInt) → HT D cs A T O X H → va_S A s.heap H locs → lv_has ls 5 [(1, .int p200_1), (2, .int p200_2), (0, .ref a0)] → W p l e { frames := 1, cells := 0, slots := 0, locals := 24 } s m [.ref a0].toArray below meth c H locs 0 0 (MQ below (Ti D cs (fun r u => u = (T, O, X) ∧ 0 ≤ r.toInt ∧ r.toInt ≤ 1) A) [.ref a0].toArray s 0 0 A) (F0 m 200 ls []) := by
          intro p200_1 p200_2 H locs ls l_p200_1 u_p200_1 l_p200_2 u_p200_2 i200 hH hS hl
          obtain ⟨v200, ev200⟩ : ∃ y : Int32, y = p200_2 + 1 := ⟨_, rfl⟩
          have tv200 : v200.toInt = p200_2.toInt + (1) := by rw [ev200]; exact add_i rfl (by decide) (by omega) (by omega)
          refine lv_iinc (v := v200) (lv' := [(2, .int v200), (1, .int p200_1), (0, .ref a0)]) hx hb dX2_holds_200 hl (k := 1) rfl (by rw [ev200]; rfl) (by decide) rfl (fun ls hl => ?_)
          refine lv_goto (tgt := 4) hx hb dX2_holds_203 (by decide) ?_
          exact ih4 _ (by omega) v200 p200_1 _ _ _ rfl (by omega) (by omega) (by omega) (by omega) hH hS (lv_sub hl [0, 1, 2] rfl)
        refine lv_icmp_gt (tgt := 77) hx hb dX2_holds_35 (by decide) (fun c35 => ?_) (fun c35 => ?_)
        · skip
          have tc35 := f_gt (k := 1) (by decide) c35
          refine lv_iload_n hx hb dX2_holds_77 rfl (lv_at hl 3 rfl) ?_
          refine lv_iload_n hx hb dX2_holds_78 rfl (lv_at hl 1 rfl) ?_
          refine lv_iconst (v := 4) hx hb dX2_holds_79 (by decide) ?_
          have J88 : ∀ (k88_0 : Int32) (H : Heap) (locs : List Loc) (ls : Array Slot), (1 ≤ k88_0.toInt) → (k88_0.toInt ≤ 2) → ((v21.toInt ≤ 4 ∧ k88_0.toInt = 1) ∨ (4 < v21.toInt ∧ k88_0.toInt = 2)) → HT D cs A T O X H → va_S A s.heap H locs → lv_has ls 5 [(4, .int v30), (3, .int v21), (2, .int p4_2), (1, .int p4_1), (0, .ref a0)] → W p l e { frames := 1, cells := 0, slots := 0, locals := 24 } s m [.ref a0].toArray below meth c H locs 0 0 (MQ below (Ti D cs (fun r u => u = (T, O, X) ∧ 0 ≤ r.toInt ∧ r.toInt ≤ 1) A) [.ref a0].toArray s 0 0 A) (F0 m 88 ls [.int k88_0, .int p4_1]) := by
            intro k88_0 H locs ls l_k88_0 u_k88_0 i88 hH hS hl
            refine lv_icmp_ge (tgt := 93) hx hb dX2_holds_88 (by decide) (fun c88 => ?_) (fun c88 => ?_)
            · skip
              have fuc88 := full_i p4_1
              have fvc88 := full_i k88_0
              have tc88 := g_le c88
              refine lv_iload_n hx hb dX2_holds_93 rfl (lv_at hl 1 rfl) ?_
              refine lv_iconst (v := 4) hx hb dX2_holds_94 (by decide) ?_
              refine lv_icmp_le (tgt := 130) hx hb dX2_holds_95 (by decide) (fun c95 => ?_) (fun c95 => ?_)
              · skip
                have tc95 := f_le (k := 4) (by decide) c95
                refine lv_iload_n hx hb dX2_holds_130 rfl (lv_at hl 1 rfl) ?_
                refine lv_iconst (v := 2) hx hb dX2_holds_131 (by decide) ?_
                refine lv_icmp_ne (tgt := 156) hx hb dX2_holds_132 (by decide) (fun c132 => ?_) (fun c132 => ?_)
                · skip
                  have tc132 := f_ne (k := 2) (by decide) c132
                  refine lv_aload_n hx hb dX2_holds_156 rfl (lv_at hl 4 rfl) ?_
                  refine t_get (ci := 2) (lst := ft2 na0 0) (C := RX2) (F := TX2) (N := 3) hx hb hts uX2 hown hkb hH t_a0 (hO.no t_a0 (by decide)) (fun _ h9 => h9) rfl rfl 2 (by decide) rfl kw_742 (fun _ h9 => h9) dX2_holds_157 (fun v9 h9 => ?_)
                  obtain ⟨v157, rfl, t_v157⟩ := h9
                  refine lv_iload_n hx hb dX2_holds_160 rfl (lv_at hl 3 rfl) ?_
                  refine lv_iconst (v := 1) hx hb dX2_holds_161 (by decide) ?_
                  refine lv_isub hx hb dX2_holds_162 ?_
                  refine lv_topi (fun v162 ev162 => ?_)
                  have tv162 : v162.toInt = p4_1.toInt - (1) := by rw [ev162]; exact sub_i rfl (by decide : (1 : Int32).toInt = 1) (by omega) (by omega)
                  refine t_ild hx hb hkb hH t_v157 (hO.no t_v157 (by decide)) (by omega) (by omega) dX2_holds_163 (fun v163 h9 => ?_)
                  have J172 : ∀ (k172_0 : Int32) (H : Heap) (locs : List Loc) (ls : Array Slot), (0 ≤ k172_0.toInt) → (k172_0.toInt ≤ 1) → HT D cs A T O X H → va_S A s.heap H locs → lv_has ls 5 [(4, .int v30), (3, .int v21), (2, .int p4_2), (1, .int p4_1), (0, .ref a0)] → W p l e { frames := 1, cells := 0, slots := 0, locals := 24 } s m [.ref a0].toArray below meth c H locs 0 0 (MQ below (Ti D cs (fun r u => u = (T, O, X) ∧ 0 ≤ r.toInt ∧ r.toInt ≤ 1) A) [.ref a0].toArray s 0 0 A) (F0 m 172 ls [.int k172_0]) := by
                    intro k172_0 H locs ls l_k172_0 u_k172_0 hH hS hl
                    refine lv_iload_n hx hb dX2_holds_172 rfl (lv_at hl 1 rfl) ?_
                    refine lv_iconst (v := 4) hx hb dX2_holds_173 (by decide) ?_
                    have J182 : ∀ (k182_0 : Int32) (H : Heap) (locs : List Loc) (ls : Array Slot), (0 ≤ k182_0.toInt) → (k182_0.toInt ≤ 1) → HT D cs A T O X H → va_S A s.heap H locs → lv_has ls 5 [(4, .int v30), (2, .int p4_2), (1, .int p4_1), (0, .ref a0)] → W p l e { frames := 1, cells := 0, slots := 0, locals := 24 } s m [.ref a0].toArray below meth c H locs 0 0 (MQ below (Ti D cs (fun r u => u = (T, O, X) ∧ 0 ≤ r.toInt ∧ r.toInt ≤ 1) A) [.ref a0].toArray s 0 0 A) (F0 m 182 ls [.int k182_0, .int k172_0]) := by
                      intro k182_0 H locs ls l_k182_0 u_k182_0 hH hS hl
                      refine lv_icmp_ne (tgt := 197) hx hb dX2_holds_182 (by decide) (fun c182 => ?_) (fun c182 => ?_)
                      · skip
                        have fuc182 := full_i k172_0
                        have fvc182 := full_i k182_0
                        have tc182 := g_ne c182
                        obtain ⟨v197, ev197⟩ : ∃ y : Int32, y = p4_1 + (-1) := ⟨_, rfl⟩
                        have tv197 : v197.toInt = p4_1.toInt + (-1) := by rw [ev197]; exact add_i rfl (by decide) (by omega) (by omega)
                        refine lv_iinc (v := v197) (lv' := [(1, .int v197), (4, .int v30), (2, .int p4_2), (0, .ref a0)]) hx hb dX2_holds_197 hl (k := 2) rfl (by rw [ev197]; rfl) (by decide) rfl (fun ls hl => ?_)
                        exact J200 v197 p4_2 _ _ _ (by omega) (by omega) (by omega) (by omega) (by omega) hH hS (lv_sub hl [0, 2, 3] rfl)
                      · skip
                        have fuc182 := full_i k172_0
                        have fvc182 := full_i k182_0
                        have tc182 := g_eq c182
                        refine lv_iload_n hx hb dX2_holds_185 rfl (lv_at hl 1 rfl) ?_
                        refine lv_iload hx hb dX2_holds_186 (lv_at hl 0 rfl) ?_
                        refine lv_iconst (v := 1) hx hb dX2_holds_188 (by decide) ?_
                        refine lv_isub hx hb dX2_holds_189 ?_
                        refine lv_topi (fun v189 ev189 => ?_)
                        have tv189 : v189.toInt = v30.toInt - (1) := by rw [ev189]; exact sub_i rfl (by decide : (1 : Int32).toInt = 1) (by omega) (by omega)
                        refine va_mmax hx hb (by rw [hml]; exact hl.1.symm) hown (hts _ kw_825) (hts _ kw_100) (hts _ kw_6) (hts _ kw_101) (Nat.le_of_ble_eq_true rfl) (Nat.le_of_ble_eq_true rfl) (Nat.le_of_ble_eq_true rfl) (Nat.le_of_ble_eq_true rfl) dX2_holds_190 ?_
                        refine lv_topi (fun v190 ev190 => ?_)
                        have tv190 : v190.toInt = max p4_2.toInt v189.toInt := by rw [ev190]; exact max_i rfl rfl
                        refine lv_istore_n (lv' := [(2, .int v190), (4, .int v30), (1, .int p4_1), (0, .ref a0)]) hx hb dX2_holds_193 rfl hl (by decide) rfl (fun ls hl => ?_)
                        refine lv_goto (tgt := 200) hx hb dX2_holds_194 (by decide) ?_
                        exact J200 p4_1 v190 _ _ _ (by omega) (by omega) (by omega) (by omega) (by omega) hH hS (lv_sub hl [2, 0, 3] rfl)
                    refine lv_icmp_ne (tgt := 181) hx hb dX2_holds_174 (by decide) (fun c174 => ?_) (fun c174 => ?_)
                    · skip
                      have tc174 := f_ne (k := 4) (by decide) c174
                      refine lv_iconst (v := 0) hx hb dX2_holds_181 (by decide) ?_
                      exact J182 0 _ _ _ (by decide) (by decide) hH hS (lv_sub hl [0, 2, 3, 4] rfl)
                    · skip
                      have tc174 := f_eq (k := 4) (by decide) c174
                      refine lv_iconst (v := 1) hx hb dX2_holds_177 (by decide) ?_
                      refine lv_goto (tgt := 182) hx hb dX2_holds_178 (by decide) ?_
                      exact J182 1 _ _ _ (by decide) (by decide) hH hS (lv_sub hl [0, 2, 3, 4] rfl)
                  refine lv_if_eq (tgt := 171) hx hb dX2_holds_164 (by decide) (fun c164 => ?_) (fun c164 => ?_)
                  · skip
                    have tc164 := f_eq (k := 0) (by decide) c164
                    refine lv_iconst (v := 0) hx hb dX2_holds_171 (by decide) ?_
                    exact J172 0 _ _ _ (by decide) (by decide) hH hS (lv_sub hl [0, 1, 2, 3, 4] rfl)
                  · skip
                    have tc164 := f_ne (k := 0) (by decide) c164
                    refine lv_iconst (v := 1) hx hb dX2_holds_167 (by decide) ?_
                    refine lv_goto (tgt := 172) hx hb dX2_holds_168 (by decide) ?_
                    exact J172 1 _ _ _ (by decide) (by decide) hH hS (lv_sub hl [0, 1, 2, 3, 4] rfl)
                · skip
                  have tc132 := f_eq (k := 2) (by decide) c132
                  refine lv_aload_n hx hb dX2_holds_135 rfl (lv_at hl 4 rfl) ?_
                  refine t_get (ci := 2) (lst := ft2 na0 0) (C := RX2) (F := TX2) (N := 3) hx hb hts uX2 hown hkb hH t_a0 (hO.no t_a0 (by decide)) (fun _ h9 => h9) rfl rfl 2 (by decide) rfl kw_742 (fun _ h9 => h9) dX2_holds_136 (fun v9 h9 => ?_)
                  obtain ⟨v136, rfl, t_v136⟩ := h9
                  refine lv_iload_n hx hb dX2_holds_139 rfl (lv_at hl 3 rfl) ?_
                  refine lv_iconst (v := 1) hx hb dX2_holds_140 (by decide) ?_
                  refine lv_isub hx hb dX2_holds_141 ?_
                  refine lv_topi (fun v141 ev141 => ?_)
                  have tv141 : v141.toInt = p4_1.toInt - (1) := by rw [ev141]; exact sub_i rfl (by decide : (1 : Int32).toInt = 1) (by omega) (by omega)
                  refine lv_iconst (v := 1) hx hb dX2_holds_142 (by decide) ?_
                  refine lv_aload_n hx hb dX2_holds_143 rfl (lv_at hl 4 rfl) ?_
                  refine t_get (ci := 2) (lst := ft2 na0 0) (C := RX2) (F := TX2) (N := 3) hx hb hts uX2 hown hkb hH t_a0 (hO.no t_a0 (by decide)) (fun _ h9 => h9) rfl rfl 2 (by decide) rfl kw_742 (fun _ h9 => h9) dX2_holds_144 (fun v9 h9 => ?_)
                  obtain ⟨v144, rfl, t_v144⟩ := h9
                  refine lv_iload_n hx hb dX2_holds_147 rfl (lv_at hl 3 rfl) ?_
                  refine lv_iconst (v := 1) hx hb dX2_holds_148 (by decide) ?_
                  refine lv_isub hx hb dX2_holds_149 ?_
                  refine lv_topi (fun v149 ev149 => ?_)
                  have tv149 : v149.toInt = p4_1.toInt - (1) := by rw [ev149]; exact sub_i rfl (by decide : (1 : Int32).toInt = 1) (by omega) (by omega)
                  refine t_ild hx hb hkb hH t_v144 (hO.no t_v144 (by decide)) (by omega) (by omega) dX2_holds_150 (fun v150 h9 => ?_)
                  refine lv_isub hx hb dX2_holds_151 ?_
                  refine lv_topi (fun v151 ev151 => ?_)
                  refine t_ist hx hb hkb hH hS t_v136 (hO.no t_v136 (by decide)) (by omega) (by omega) (cp_0 _) dX2_holds_152 (fun H locs hH hS => ?_)
                  refine lv_goto (tgt := 200) hx hb dX2_holds_153 (by decide) ?_
                  exact J200 p4_1 p4_2 _ _ _ (by omega) (by omega) (by omega) (by omega) (by omega) hH hS (lv_sub hl [3, 2, 4] rfl)
              · skip
                have tc95 := f_nle (k := 4) (by decide) c95
                obtain ⟨v98, ev98⟩ : ∃ y : Int32, y = p4_1 + (-1) := ⟨_, rfl⟩
                have tv98 : v98.toInt = p4_1.toInt + (-1) := by rw [ev98]; exact add_i rfl (by decide) (by omega) (by omega)
                refine lv_iinc (v := v98) (lv' := [(1, .int v98), (4, .int v30), (3, .int v21), (2, .int p4_2), (0, .ref a0)]) hx hb dX2_holds_98 hl (k := 3) rfl (by rw [ev98]; rfl) (by decide) rfl (fun ls hl => ?_)
                refine lv_aload_n hx hb dX2_holds_101 rfl (lv_at hl 4 rfl) ?_
                refine t_get (ci := 2) (lst := ft2 na0 0) (C := RX2) (F := TX2) (N := 3) hx hb hts uX2 hown hkb hH t_a0 (hO.no t_a0 (by decide)) (fun _ h9 => h9) rfl rfl 2 (by decide) rfl kw_742 (fun _ h9 => h9) dX2_holds_102 (fun v9 h9 => ?_)
                obtain ⟨v102, rfl, t_v102⟩ := h9
                refine lv_iload_n hx hb dX2_holds_105 rfl (lv_at hl 0 rfl) ?_
                refine lv_iconst (v := 1) hx hb dX2_holds_106 (by decide) ?_
                refine lv_isub hx hb dX2_holds_107 ?_
                refine lv_topi (fun v107 ev107 => ?_)
                have tv107 : v107.toInt = v98.toInt - (1) := by rw [ev107]; exact sub_i rfl (by decide : (1 : Int32).toInt = 1) (by omega) (by omega)
                refine lv_iload_n hx hb dX2_holds_108 rfl (lv_at hl 2 rfl) ?_
                refine lv_aload_n hx hb dX2_holds_109 rfl (lv_at hl 4 rfl) ?_
                refine t_get (ci := 2) (lst := ft2 na0 0) (C := RX2) (F := TX2) (N := 3) hx hb hts uX2 hown hkb hH t_a0 (hO.no t_a0 (by decide)) (fun _ h9 => h9) rfl rfl 2 (by decide) rfl kw_742 (fun _ h9 => h9) dX2_holds_110 (fun v9 h9 => ?_)
                obtain ⟨v110, rfl, t_v110⟩ := h9
                refine lv_iload_n hx hb dX2_holds_113 rfl (lv_at hl 0 rfl) ?_
                refine lv_iconst (v := 1) hx hb dX2_holds_114 (by decide) ?_
                refine lv_isub hx hb dX2_holds_115 ?_
                refine lv_topi (fun v115 ev115 => ?_)
                have tv115 : v115.toInt = v98.toInt - (1) := by rw [ev115]; exact sub_i rfl (by decide : (1 : Int32).toInt = 1) (by omega) (by omega)
                refine t_ild hx hb hkb hH t_v110 (hO.no t_v110 (by decide)) (by omega) (by omega) dX2_holds_116 (fun v116 h9 => ?_)
                refine lv_aload_n hx hb dX2_holds_117 rfl (lv_at hl 4 rfl) ?_
                refine t_get (ci := 2) (lst := ft2 na0 0) (C := RX2) (F := TX2) (N := 3) hx hb hts uX2 hown hkb hH t_a0 (hO.no t_a0 (by decide)) (fun _ h9 => h9) rfl rfl 2 (by decide) rfl kw_742 (fun _ h9 => h9) dX2_holds_118 (fun v9 h9 => ?_)
                obtain ⟨v118, rfl, t_v118⟩ := h9
                refine lv_iload_n hx hb dX2_holds_121 rfl (lv_at hl 0 rfl) ?_
                refine t_ild hx hb hkb hH t_v118 (hO.no t_v118 (by decide)) (by omega) (by omega) dX2_holds_122 (fun v122 h9 => ?_)
                refine tk_i hH hS hA (tr_S (n := 3) (As := [.int v21, .int v116, .int v122]) hx hb hml hown hts hkb hH hOX hks hE hS hA (s_Law_joined l D cs kf T O X v21 v116 v122  (hO.sub (by decide))) kw_818 kw_819 kw_21 kw_820 (by decide +kernel) ⟨Nat.le_of_ble_eq_true rfl, Nat.le_of_ble_eq_true rfl⟩ rfl rfl hl.1 (Nat.le_of_ble_eq_true rfl) dX2_holds_123 ⟨Nat.le_of_ble_eq_true rfl, Nat.le_of_ble_eq_true rfl⟩) (fun v123 u H locs hz9 hH hS => ?_)
                have hz9 : u = (T, O, X) := hz9
                subst hz9
                have hH : HT D cs A T O X H := hH
                refine W.widen (k := 0) (n := 0) (Nat.le_of_ble_eq_true rfl) (Nat.le_of_ble_eq_true rfl) ?_
                refine t_ist hx hb hkb hH hS t_v102 (hO.no t_v102 (by decide)) (by omega) (by omega) (cp_0 _) dX2_holds_126 (fun H locs hH hS => ?_)
                refine lv_goto (tgt := 200) hx hb dX2_holds_127 (by decide) ?_
                exact J200 v98 p4_2 _ _ _ (by omega) (by omega) (by omega) (by omega) (by omega) hH hS (lv_sub hl [0, 3, 4] rfl)
            · skip
              have fuc88 := full_i p4_1
              have fvc88 := full_i k88_0
              have tc88 := g_nle c88
              refine lv_iconst (v := 0) hx hb dX2_holds_91 (by decide) ?_
              exact te_z hx hb hr hlocks (by rfl) hH hS (⟨rfl, by decide, by decide⟩) dX2_holds_92
          refine lv_icmp_gt (tgt := 87) hx hb dX2_holds_80 (by decide) (fun c80 => ?_) (fun c80 => ?_)
          · skip
            have tc80 := f_gt (k := 4) (by decide) c80
            refine lv_iconst (v := 2) hx hb dX2_holds_87 (by decide) ?_
            have z_2 : (2 : Int32).toInt = 2 := by decide
            exact J88 2 _ _ _ (by decide) (by decide) (by omega) hH hS (lv_sub hl [0, 1, 2, 3, 4] rfl)
          · skip
            have tc80 := f_ngt (k := 4) (by decide) c80
            refine lv_iconst (v := 1) hx hb dX2_holds_83 (by decide) ?_
            refine lv_goto (tgt := 88) hx hb dX2_holds_84 (by decide) ?_
            have z_1 : (1 : Int32).toInt = 1 := by decide
            exact J88 1 _ _ _ (by decide) (by decide) (by omega) hH hS (lv_sub hl [0, 1, 2, 3, 4] rfl)
        · skip
          have tc35 := f_ngt (k := 1) (by decide) c35
          refine lv_iload_n hx hb dX2_holds_38 rfl (lv_at hl 3 rfl) ?_
          refine lv_bipush (v := 24) hx hb dX2_holds_39 (by decide) ?_
          refine lv_icmp_lt (tgt := 46) hx hb dX2_holds_41 (by decide) (fun c41 => ?_) (fun c41 => ?_)
          · skip
            have tc41 := f_lt (k := 24) (by decide) c41
            refine lv_aload_n hx hb dX2_holds_46 rfl (lv_at hl 4 rfl) ?_
            refine t_get (ci := 2) (lst := ft2 na0 0) (C := RX2) (F := TX2) (N := 3) hx hb hts uX2 hown hkb hH t_a0 (hO.no t_a0 (by decide)) (fun _ h9 => h9) rfl rfl 2 (by decide) rfl kw_742 (fun _ h9 => h9) dX2_holds_47 (fun v9 h9 => ?_)
            obtain ⟨v47, rfl, t_v47⟩ := h9
            refine lv_iload_n hx hb dX2_holds_50 rfl (lv_at hl 3 rfl) ?_
            refine lv_iload_n hx hb dX2_holds_51 rfl (lv_at hl 1 rfl) ?_
            have J70 : ∀ (k70_0 : Int32) (H : Heap) (locs : List Loc) (ls : Array Slot), HT D cs A T O X H → va_S A s.heap H locs → lv_has ls 5 [(2, .int p4_2), (1, .int p4_1), (0, .ref a0)] → W p l e { frames := 1, cells := 0, slots := 0, locals := 24 } s m [.ref a0].toArray below meth c H locs 0 0 (MQ below (Ti D cs (fun r u => u = (T, O, X) ∧ 0 ≤ r.toInt ∧ r.toInt ≤ 1) A) [.ref a0].toArray s 0 0 A) (F0 m 70 ls [.int k70_0, .int p4_1, .ref v47]) := by
              intro k70_0 H locs ls  hH hS hl
              refine t_ist hx hb hkb hH hS t_v47 (hO.no t_v47 (by decide)) (by omega) (by omega) (cp_0 _) dX2_holds_70 (fun H locs hH hS => ?_)
              obtain ⟨v71, ev71⟩ : ∃ y : Int32, y = p4_1 + 1 := ⟨_, rfl⟩
              have tv71 : v71.toInt = p4_1.toInt + (1) := by rw [ev71]; exact add_i rfl (by decide) (by omega) (by omega)
              refine lv_iinc (v := v71) (lv' := [(1, .int v71), (2, .int p4_2), (0, .ref a0)]) hx hb dX2_holds_71 hl (k := 1) rfl (by rw [ev71]; rfl) (by decide) rfl (fun ls hl => ?_)
              refine lv_goto (tgt := 200) hx hb dX2_holds_74 (by decide) ?_
              exact J200 v71 p4_2 _ _ _ (by omega) (by omega) (by omega) (by omega) (by omega) hH hS (lv_sub hl [0, 1, 2] rfl)
            refine lv_if_ne (tgt := 60) hx hb dX2_holds_52 (by decide) (fun c52 => ?_) (fun c52 => ?_)
            · skip
              have tc52 := f_ne (k := 0) (by decide) c52
              refine lv_aload_n hx hb dX2_holds_60 rfl (lv_at hl 4 rfl) ?_
              refine t_get (ci := 2) (lst := ft2 na0 0) (C := RX2) (F := TX2) (N := 3) hx hb hts uX2 hown hkb hH t_a0 (hO.no t_a0 (by decide)) (fun _ h9 => h9) rfl rfl 1 (by decide) rfl kw_740 (fun _ h9 => h9) dX2_holds_61 (fun v9 h9 => ?_)
              obtain ⟨v61, rfl, t_v61⟩ := h9
              refine lv_iload hx hb dX2_holds_64 (lv_at hl 0 rfl) ?_
              refine lv_bipush (v := 7) hx hb dX2_holds_66 (by decide) ?_
              refine lv_iand hx hb dX2_holds_68 ?_
              refine lv_topi (fun v68 ev68 => ?_)
              have tv68 : 0 ≤ v68.toInt ∧ v68.toInt ≤ 7 := by rw [ev68]; exact and_r (by decide)
              refine t_ild hx hb hkb hH t_v61 (hO.no t_v61 (by decide)) (by omega) (by omega) dX2_holds_69 (fun v69 h9 => ?_)
              exact J70 v69 _ _ _  hH hS (lv_sub hl [2, 3, 4] rfl)
            · skip
              have tc52 := f_eq (k := 0) (by decide) c52
              refine lv_iload hx hb dX2_holds_55 (lv_at hl 0 rfl) ?_
              refine lv_goto (tgt := 70) hx hb dX2_holds_57 (by decide) ?_
              exact J70 v30 _ _ _  hH hS (lv_sub hl [2, 3, 4] rfl)
          · skip
            have tc41 := f_nlt (k := 24) (by decide) c41
            refine lv_iconst (v := 0) hx hb dX2_holds_44 (by decide) ?_
            exact te_z hx hb hr hlocks (by rfl) hH hS (⟨rfl, by decide, by decide⟩) dX2_holds_45
  refine lv_istore_n (lv' := [(2, .int 0), (1, .int 0), (0, .ref a0)]) hx hb dX2_holds_3 rfl hl (by decide) rfl (fun ls hl => ?_)
  exact J4 _ 0 0 _ _ _ rfl (by decide) (by decide) (by decide) (by decide) hH hS (lv_sub hl [0, 1, 2] rfl)
