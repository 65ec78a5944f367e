/-! exact cells by their places; contracts whose end tells how much was made -/
section ThRows6
variable {p : Program} {l : Launch} {e : Env} {R : Room} {s : State} {m : MethodId} {args : Array Value} {below : List Frame} {meth : Method} {c : Code} {H : Heap} {locs : List Loc} {cells slots : Nat} {Q : State → Prop}
variable {cc : ByteArray} {pc : Nat} {ls : Array Slot} {rest : List Value} {D : va_G} {A : Nat → Prop} {a : Nat} {cs : CS} {T : TF} {O : List Nat} {X : va_W} {H0 : Heap}
theorem ox_n {O : List Nat} {X : va_W} {a : Nat} {e0 : va_E} (h : ∀ o ∈ O, ∃ (k : Nat) (e : va_E), X[k]? = some (o, e)) : ∀ o ∈ O, ∃ (k : Nat) (e : va_E), ((a, e0) :: X)[k]? = some (o, e) := fun o ho => by
  obtain ⟨k, e1, h1⟩ := h o ho
  exact ⟨k + 1, e1, h1⟩
theorem ox_map {O : List Nat} {X X' : va_W} (hO : ∀ o ∈ O, ∃ (k : Nat) (e : va_E), X[k]? = some (o, e)) (h : X'.map Prod.fst = X.map Prod.fst) : ∀ o ∈ O, ∃ (k : Nat) (e : va_E), X'[k]? = some (o, e) := fun o ho => by
  obtain ⟨k, e1, h1⟩ := hO o ho
  have h2 : (X'.map Prod.fst)[k]? = some o := by rw [h, List.getElem?_map, h1]; rfl
  rw [List.getElem?_map] at h2
  cases h3 : X'[k]? with
  | none => rw [h3] at h2; cases h2
  | some q =>
    rw [h3] at h2
    cases h2
    exact ⟨k, q.2, h3⟩
theorem ap_l {X ws : va_W} {i : Nat} {q : Nat × va_E} (h : X[i]? = some q) : (X ++ ws)[i]? = some q := by rw [List.getElem?_append_left (List.getElem?_eq_some_iff.mp h).1]; exact h
theorem ap_setl {X ws : va_W} {i : Nat} {q0 q : Nat × va_E} (h : X[i]? = some q0) : (X ++ ws).set i q = X.set i q ++ ws := List.set_append_left _ _ (List.getElem?_eq_some_iff.mp h).1
theorem x_getk {own ref C : String} {F : u_T} {N ci index : Nat} {fs : List Value} {v : Value} (hx : p.tables.exec = Jvm.exec) (hb : c.code = cc) (hts : ∀ w ∈ gw, w.before args s = true) (hin : ∀ w ∈ u_ws C F N, w ∈ gw) (hown : s.vm.findClass own = some m.cls) (hkb : kb D (tyc cs) s) (hH : HT D cs A T O X H) (i : Nat) (hi : X[i]? = some (a, .inr (ci, fs))) (hc : cls[ci]? = some (C, F, N)) (k : Nat) (hk : k < N) (hv : fs[k]? = some v) (hlink : Cond.fieldLink own index ref (F k).2.1 (F k).2.2.1 ∈ gw) (hsame : ∀ x, s.fieldFound? (F k).1 (F k).2.1 (F k).2.2.1 = some x → s.fieldFound? ref (F k).2.1 (F k).2.2.1 = some x) (hdg : decode cc pc = .ok (.getfield index, 3))
    (kk : W p l e R s m args below meth c H locs cells slots Q (F0 m (pc + 3) ls (v :: rest))) : W p l e R s m args below meth c H locs cells slots Q (F0 m pc ls (.ref a :: rest)) := by
  obtain ⟨ws, hP, hD, h3, h4⟩ := hH
  exact va_get (D := D) hx hb hts hin hown hkb.1 hP i (ap_l hi) hc k hk (hts _ hlink) hsame hv hdg kk
theorem x_putk {own ref C : String} {F : u_T} {N ci index : Nat} {fs : List Value} {v : Value} {ty : FieldType} (hx : p.tables.exec = Jvm.exec) (hb : c.code = cc) (hts : ∀ w ∈ gw, w.before args s = true) (hin : ∀ w ∈ u_ws C F N, w ∈ gw) (ty0 : Nat → FieldType) (hty : ∀ k, k < N → parseFieldDescriptor (F k).2.2.1 = some (ty0 k)) (hnm : ∀ a, a < N → ∀ b, b < N → a ≠ b → (F a).2.1 ≠ (F b).2.1) (hown : s.vm.findClass own = some m.cls) (hkb : kb D (tyc cs) s) (hH : HT D cs A T O X H) (hS : va_S A H0 H locs) (i : Nat) (hi : X[i]? = some (a, .inr (ci, fs))) (hc : cls[ci]? = some (C, F, N)) (k : Nat) (hk : k < N) (hlink : Cond.fieldLink own index ref (F k).2.1 (F k).2.2.1 ∈ gw) (hsame : ∀ x, s.fieldFound? (F k).1 (F k).2.1 (F k).2.2.1 = some x → s.fieldFound? ref (F k).2.1 (F k).2.2.1 = some x) (hfin : (F k).2.2.2 = false) (hd : parseFieldDescriptor (F k).2.2.1 = some ty) (hn : narrow ty v = v) (hfit : fits ty v = true) (hl : k < fs.length) (hdg : decode cc pc = .ok (.putfield index, 3))
    (kk : ∀ (H1 : Heap) (locs1 : List Loc), HT D cs A T O (X.set i (a, .inr (ci, fs.set k v))) H1 → va_S A H0 H1 locs1 → W p l e R s m args below meth c H1 locs1 cells slots Q (F0 m (pc + 3) ls rest)) : W p l e R s m args below meth c H locs cells slots Q (F0 m pc ls (v :: .ref a :: rest)) := by
  obtain ⟨ws, hP, hD, h3, h4⟩ := hH
  exact va_put (D := D) hx hb hts hin ty0 hty hnm hown hkb.1 hP hD hS i (ap_l hi) hc k hk (hts _ hlink) hsame hfin hd hn hfit hl hdg (fun H1 locs1 hP hD hS => by
    rw [ap_setl hi] at hP hD
    exact kk H1 locs1 ⟨ws, hP, hD, h3, h4⟩ hS)
theorem x_putkF {own ref C : String} {F : u_T} {N ci index : Nat} {fs : List Value} {v : Value} {ty : FieldType} (hx : p.tables.exec = Jvm.exec) (hb : c.code = cc) (hts : ∀ w ∈ gw, w.before args s = true) (hin : ∀ w ∈ u_ws C F N, w ∈ gw) (ty0 : Nat → FieldType) (hty : ∀ k, k < N → parseFieldDescriptor (F k).2.2.1 = some (ty0 k)) (hnm : ∀ a, a < N → ∀ b, b < N → a ≠ b → (F a).2.1 ≠ (F b).2.1) (hown : s.vm.findClass own = some m.cls) (hkb : kb D (tyc cs) s) (hH : HT D cs A T O X H) (hS : va_S A H0 H locs) (i : Nat) (hi : X[i]? = some (a, .inr (ci, fs))) (hc : cls[ci]? = some (C, F, N)) (k : Nat) (hk : k < N) (hlink : Cond.fieldLink own index ref (F k).2.1 (F k).2.2.1 ∈ gw) (hsame : ∀ x, s.fieldFound? (F k).1 (F k).2.1 (F k).2.2.1 = some x → s.fieldFound? ref (F k).2.1 (F k).2.2.1 = some x) (hfin : (F k).2.2.2 = true) (hin2 : meth.name = "<init>") (hdecl : (F k).1 = own) (hd : parseFieldDescriptor (F k).2.2.1 = some ty) (hn : narrow ty v = v) (hfit : fits ty v = true) (hl : k < fs.length) (hdg : decode cc pc = .ok (.putfield index, 3))
    (kk : ∀ (H1 : Heap) (locs1 : List Loc), HT D cs A T O (X.set i (a, .inr (ci, fs.set k v))) H1 → va_S A H0 H1 locs1 → W p l e R s m args below meth c H1 locs1 cells slots Q (F0 m (pc + 3) ls rest)) : W p l e R s m args below meth c H locs cells slots Q (F0 m pc ls (v :: .ref a :: rest)) := by
  obtain ⟨ws, hP, hD, h3, h4⟩ := hH
  exact va_putF (D := D) hx hb hts hin ty0 hty hnm hown hkb.1 hP hD hS i (ap_l hi) hc k hk (hts _ hlink) hsame hfin hin2 hdecl hd hn hfit hl hdg (fun H1 locs1 hP hD hS => by
    rw [ap_setl hi] at hP hD
    exact kk H1 locs1 ⟨ws, hP, hD, h3, h4⟩ hS)
theorem x_recv {ci : Nat} {b : Nat} {C : String} {F : u_T} {N : Nat} {fs : List Value} (hkb : kb D (tyc cs) s) (hH : HT D cs A T O X H) (i : Nat) (hi : X[i]? = some (b, .inr (ci, fs))) (hc : cls[ci]? = some (C, F, N)) : ∃ cell : Cell, H[b]? = some cell ∧ cell.vm.isStatics = false ∧ s.vm.findClass C = some cell.cls := by
  obtain ⟨ws, hP, hD, h3, h4⟩ := hH
  exact va_recv hkb.1 hP hc (ap_l hi)
/-- arrays that are exact -/
theorem xa_ild {n : Nat} {f : Nat → Int32} {j : Int32} (hx : p.tables.exec = Jvm.exec) (hb : c.code = cc) (hkb : kb D (tyc cs) s) (hH : HT D cs A T O X H) (i : Nat) (hi : X[i]? = some (a, .inl (cs.2.1, n, .inl f))) (h0 : 0 ≤ j.toInt) (h1 : j.toInt < n) (hdg : decode cc pc = .ok (.iaload, 1))
    (kk : W p l e R s m args below meth c H locs cells slots Q (F0 m (pc + 1) ls (.int (f j.toNatClampNeg) :: rest))) : W p l e R s m args below meth c H locs cells slots Q (F0 m pc ls (.int j :: .ref a :: rest)) := by
  obtain ⟨ws, hP, hD, h3, h4⟩ := hH
  exact va_iald hx hb hkb.1 hP i 1 (ap_l hi) rfl (in_t h0 h1) hdg kk
theorem xa_bld {n : Nat} {f : Nat → Int32} {j : Int32} (hx : p.tables.exec = Jvm.exec) (hb : c.code = cc) (hkb : kb D (tyc cs) s) (hH : HT D cs A T O X H) (i : Nat) (hi : X[i]? = some (a, .inl (cs.1, n, .inl f))) (h0 : 0 ≤ j.toInt) (h1 : j.toInt < n) (hdg : decode cc pc = .ok (.baload, 1))
    (kk : W p l e R s m args below meth c H locs cells slots Q (F0 m (pc + 1) ls (.int (f j.toNatClampNeg) :: rest))) : W p l e R s m args below meth c H locs cells slots Q (F0 m pc ls (.int j :: .ref a :: rest)) := by
  obtain ⟨ws, hP, hD, h3, h4⟩ := hH
  exact va_bald hx hb hkb.1 hP i 0 (ap_l hi) rfl (in_t h0 h1) hdg kk
theorem xa_ist {n : Nat} {f : Nat → Int32} {j x : Int32} (hx : p.tables.exec = Jvm.exec) (hb : c.code = cc) (hkb : kb D (tyc cs) s) (hH : HT D cs A T O X H) (hS : va_S A H0 H locs) (i : Nat) (hi : X[i]? = some (a, .inl (cs.2.1, n, .inl f))) (h0 : 0 ≤ j.toInt) (h1 : j.toInt < n) (hdg : decode cc pc = .ok (.iastore, 1))
    (kk : ∀ (H1 : Heap) (locs1 : List Loc), HT D cs A T O (X.set i (a, .inl (cs.2.1, n, .inl (upd f j.toNatClampNeg x)))) H1 → va_S A H0 H1 locs1 → W p l e R s m args below meth c H1 locs1 cells slots Q (F0 m (pc + 1) ls rest)) : W p l e R s m args below meth c H locs cells slots Q (F0 m pc ls (.int x :: .int j :: .ref a :: rest)) := by
  obtain ⟨ws, hP, hD, h3, h4⟩ := hH
  exact va_iast hx hb hkb.1 hP hD hS i 1 (ap_l hi) rfl (in_t h0 h1) hdg (fun H1 locs1 hP hD hS => by
    rw [ap_setl hi] at hP hD
    exact kk H1 locs1 ⟨ws, hP, hD, h3, h4⟩ hS)
theorem xa_bst {n : Nat} {f : Nat → Int32} {j x : Int32} (hx : p.tables.exec = Jvm.exec) (hb : c.code = cc) (hkb : kb D (tyc cs) s) (hH : HT D cs A T O X H) (hS : va_S A H0 H locs) (i : Nat) (hi : X[i]? = some (a, .inl (cs.1, n, .inl f))) (h0 : 0 ≤ j.toInt) (h1 : j.toInt < n) (hdg : decode cc pc = .ok (.bastore, 1))
    (kk : ∀ (H1 : Heap) (locs1 : List Loc), HT D cs A T O (X.set i (a, .inl (cs.1, n, .inl (upd f j.toNatClampNeg (vp_nar .byte x))))) H1 → va_S A H0 H1 locs1 → W p l e R s m args below meth c H1 locs1 cells slots Q (F0 m (pc + 1) ls rest)) : W p l e R s m args below meth c H locs cells slots Q (F0 m pc ls (.int x :: .int j :: .ref a :: rest)) := by
  obtain ⟨ws, hP, hD, h3, h4⟩ := hH
  exact va_bast hx hb hkb.1 hP hD hS i 0 (ap_l hi) rfl (in_t h0 h1) hdg (fun H1 locs1 hP hD hS => by
    rw [ap_setl hi] at hP hD
    exact kk H1 locs1 ⟨ws, hP, hD, h3, h4⟩ hS)
/-- an array is taken out, and laid back -/
theorem HT.takeA {tg : Tg} (h : HT D cs A T O X H) (ha : T a = some tg) (ho : a ∉ O) : ∃ e0 : va_E, sp cs T tg e0 ∧ HT D cs A T (a :: O) ((a, e0) :: X) H := by
  obtain ⟨ws, hP, hD, h3, h4⟩ := h
  obtain ⟨j, e0, hj, hs⟩ := h3 a _ ha ho
  have hl : j < ws.length := (List.getElem?_eq_some_iff.mp hj).1
  have hg : ∀ (k : Nat) (x : Nat × va_E), (((a, e0) :: X) ++ ws.eraseIdx j)[k]? = some x → (X ++ ws)[if k = 0 then X.length + j else if k ≤ X.length then k - 1 else if k - 1 - X.length < j then k - 1 else k]? = some x := by
    intro k x hk
    cases k with
    | zero => rw [if_pos rfl, ap_r hj]; simpa using hk
    | succ k =>
      rw [if_neg (by omega)]
      have hk : (X ++ ws.eraseIdx j)[k]? = some x := hk
      by_cases h1 : k < X.length
      · rw [if_pos (by omega)]
        rw [List.getElem?_append_left h1] at hk
        rw [show k + 1 - 1 = k by omega, List.getElem?_append_left h1]
        exact hk
      · rw [if_neg (by omega)]
        rw [List.getElem?_append_right (by omega), List.getElem?_eraseIdx] at hk
        by_cases h2 : k - X.length < j
        · rw [if_pos h2] at hk
          rw [if_pos (by omega), List.getElem?_append_right (by omega)]
          exact hk
        · rw [if_neg h2] at hk
          rw [if_neg (by omega), List.getElem?_append_right (by omega), show k + 1 - X.length = k - X.length + 1 by omega]
          exact hk
  refine ⟨e0, hs, ws.eraseIdx j, hP.by _ hg, hD.by _ hg ?_, fun b tb hb hO => ?_, fun k x hk => ?_⟩
  · intro i1 i2 hi1 hi2 he
    rw [List.length_append, List.length_cons, List.length_eraseIdx, if_pos hl] at hi1 hi2
    split at he <;> split at he <;> (try split at he) <;> (try split at he) <;> (try split at he) <;> (try split at he) <;> omega
  · have hb2 : b ∉ O := fun z => hO (List.mem_cons_of_mem _ z)
    have hba : b ≠ a := fun z => hO (z ▸ List.mem_cons_self)
    obtain ⟨k, eb, hk, hsb⟩ := h3 b tb hb hb2
    have hkj : k ≠ j := fun z => by
      subst z
      rw [hj] at hk
      exact hba (Prod.mk.inj (Option.some.inj hk)).1.symm
    by_cases h1 : k < j
    · exact ⟨k, eb, by rw [List.getElem?_eraseIdx, if_pos h1]; exact hk, hsb⟩
    · exact ⟨k - 1, eb, by rw [List.getElem?_eraseIdx, if_neg (by omega), show k - 1 + 1 = k by omega]; exact hk, hsb⟩
  · rw [List.getElem?_eraseIdx] at hk
    split at hk
    · exact h4 _ _ hk
    · exact h4 _ _ hk
theorem HT.layA {tg : Tg} {e0 : va_E} (h : HT D cs A T (a :: O) ((a, e0) :: X) H) (ha : T a = some tg) (hs : sp cs T tg e0) : HT D cs A T O X H := by
  obtain ⟨ws, hP, hD, h3, h4⟩ := h
  have hg : ∀ (k : Nat) (x : Nat × va_E), (X ++ (ws ++ [(a, e0)]))[k]? = some x → (((a, e0) :: X) ++ ws)[if k < X.length + ws.length then k + 1 else 0]? = some x := by
    intro k x hk
    rw [← List.append_assoc] at hk
    by_cases h1 : k < X.length + ws.length
    · rw [if_pos h1]
      rw [List.getElem?_append_left (by rw [List.length_append]; exact h1)] at hk
      exact hk
    · rw [if_neg h1]
      rw [List.getElem?_append_right (by rw [List.length_append]; omega)] at hk
      have hz : k - (X ++ ws).length < 1 := (List.getElem?_eq_some_iff.mp hk).1
      rw [show k - (X ++ ws).length = 0 by omega] at hk
      simpa using hk
  refine ⟨ws ++ [(a, e0)], hP.by _ hg, hD.by _ hg ?_, fun b tb hb hO => ?_, fun k x hk => ?_⟩
  · intro i1 i2 hi1 hi2 he
    simp only [List.length_append, List.length_cons, List.length_nil] at hi1 hi2
    split at he <;> split at he <;> omega
  · by_cases hba : b = a
    · subst hba
      have : tb = tg := Option.some.inj (hb.symm.trans ha)
      subst this
      exact ⟨ws.length, _, by rw [List.getElem?_append_right (Nat.le_refl _)]; simp, hs⟩
    · obtain ⟨k, eb, hk, hsb⟩ := h3 b tb hb (fun z => (List.mem_cons.mp z).elim hba hO)
      exact ⟨k, eb, by rw [List.getElem?_append_left (List.getElem?_eq_some_iff.mp hk).1]; exact hk, hsb⟩
  · by_cases h1 : k < ws.length
    · rw [List.getElem?_append_left h1] at hk
      exact h4 _ _ hk
    · rw [List.getElem?_append_right (by omega)] at hk
      have hz : k - ws.length < 1 := (List.getElem?_eq_some_iff.mp hk).1
      rw [show k - ws.length = 0 by omega] at hk
      cases hk
      exact ⟨_, ha⟩
/-- a new address is in no kind yet -/
theorem HT.none {e0 : va_E} (h : HT D cs A T O ((a, e0) :: X) H) (hOX : ∀ o ∈ O, ∃ (k : Nat) (e : va_E), X[k]? = some (o, e)) : T a = none := by
  obtain ⟨ws, hP, hD, h3, h4⟩ := h
  cases ht : T a with
  | none => rfl
  | some tg =>
    exfalso
    have h0 : (((a, e0) :: X) ++ ws)[0]? = some (a, e0) := rfl
    by_cases ho : a ∈ O
    · obtain ⟨k, e1, hx⟩ := hOX a ho
      have h1 : (((a, e0) :: X) ++ ws)[k + 1]? = some (a, e1) := ap_l (X := (a, e0) :: X) (i := k + 1) hx
      have := hD.1 _ _ _ _ h0 h1 rfl
      omega
    · obtain ⟨k, e1, hk, -⟩ := h3 a tg ht ho
      have h1 : (((a, e0) :: X) ++ ws)[((a, e0) :: X).length + k]? = some (a, e1) := ap_r hk
      have := hD.1 _ _ _ _ h0 h1 rfl
      rw [List.length_cons] at this
      omega
/-- the reference's arrays -/
def p8 (i x : Int32) : Prop := (i.toInt = 1 → 0 ≤ x.toInt ∧ x.toInt ≤ 14) ∧ (i.toInt = 2 → 0 ≤ x.toInt ∧ x.toInt ≤ 5) ∧ (i.toInt = 4 → 0 ≤ x.toInt ∧ x.toInt ≤ 16383) ∧ (i.toInt = 5 → 0 ≤ x.toInt ∧ x.toInt ≤ 16383) ∧ (i.toInt = 6 → 0 ≤ x.toInt ∧ x.toInt ≤ 16383) ∧ (i.toInt = 90 → 0 ≤ x.toInt ∧ x.toInt ≤ 10) ∧ (i.toInt = 401 → 0 ≤ x.toInt ∧ x.toInt ≤ 900)
theorem p8_far {i x : Int32} (h : 7 ≤ i.toInt) (h2 : i.toInt ≠ 90 ∧ i.toInt ≤ 400) : p8 i x := ⟨fun _ => by omega, fun _ => by omega, fun _ => by omega, fun _ => by omega, fun _ => by omega, fun _ => by omega, fun _ => by omega⟩
theorem p8_90 {i x : Int32} (h : i.toInt = 90) (h0 : 0 ≤ x.toInt) (h1 : x.toInt ≤ 10) : p8 i x := ⟨fun _ => by omega, fun _ => by omega, fun _ => by omega, fun _ => by omega, fun _ => by omega, fun _ => ⟨h0, h1⟩, fun _ => by omega⟩
theorem toN_eq {i : Int32} {k : Nat} (h : i.toInt = (k : Int)) : i.toNatClampNeg = k := by
  have : i.toNatClampNeg = i.toInt.toNat := rfl
  omega
theorem B8.at {n : Nat} {f : Nat → Int32} (h : B8 n f) (hn : 0 < n) (i : Int32) : p8 i (f i.toNatClampNeg) := by
  obtain ⟨a1, a2, a3, a4, a5, a6, a7, -⟩ := h 0 (by omega)
  simp only [Nat.zero_mul, Nat.zero_add] at a1 a2 a3 a4 a5 a6 a7
  exact ⟨fun h => by rw [toN_eq (k := 1) h]; exact a1, fun h => by rw [toN_eq (k := 2) h]; exact a2, fun h => by rw [toN_eq (k := 4) h]; exact a3, fun h => by rw [toN_eq (k := 5) h]; exact a4, fun h => by rw [toN_eq (k := 6) h]; exact a5, fun h => by rw [toN_eq (k := 90) h]; exact a6, fun h => by rw [toN_eq (k := 401) h]; exact a7⟩
theorem dpn_eq {f g : Nat → Int32} (h : ∀ j, 402 ≤ j → f j = g j) (k : Nat) : dpn f k = dpn g k := by
  induction k with
  | zero => rfl
  | succ k ih =>
    unfold dpn
    rw [ih, h (402 + k) (by omega)]
theorem wfc_eq {f g : Nat → Int32} (h : ∀ j, 401 ≤ j → f j = g j) (w : wfc f) : wfc g := by
  intro k hk h1
  rw [← h 401 (by omega)] at hk
  rw [← h (402 + k) (by omega)] at h1 ⊢
  rw [← dpn_eq (fun j hj => h j (by omega))]
  exact w k hk h1
theorem B8.put {n : Nat} {f : Nat → Int32} (h : B8 n f) {i x : Int32} (h0 : 0 ≤ i.toInt) (h1 : i.toInt ≤ 400) (hp : p8 i x) : B8 n (upd f i.toNatClampNeg x) := by
  have hi : i.toNatClampNeg = i.toInt.toNat := rfl
  intro z hz
  have hs := h z hz
  by_cases h00 : z = 0
  · subst h00
    obtain ⟨a1, a2, a3, a4, a5, a6, a7, a8⟩ := hs
    obtain ⟨q1, q2, q3, q4, q5, q6, q7⟩ := hp
    simp only [Nat.zero_mul, Nat.zero_add] at a1 a2 a3 a4 a5 a6 a7
    have hu : ∀ j : Nat, upd f i.toNatClampNeg x (0 * 1302 + j) = if j = i.toInt.toNat then x else f j := fun j => by
      unfold upd
      rw [Nat.zero_mul, Nat.zero_add, hi]
    refine ⟨?_, ?_, ?_, ?_, ?_, ?_, ?_, ?_⟩
    · simp only [hu]; split
      · exact q1 (by omega)
      · exact a1
    · simp only [hu]; split
      · exact q2 (by omega)
      · exact a2
    · simp only [hu]; split
      · exact q3 (by omega)
      · exact a3
    · simp only [hu]; split
      · exact q4 (by omega)
      · exact a4
    · simp only [hu]; split
      · exact q5 (by omega)
      · exact a5
    · simp only [hu]; split
      · exact q6 (by omega)
      · exact a6
    · simp only [hu]; rw [if_neg (by omega)]
      exact a7
    · refine wfc_eq (fun j hj => ?_) a8
      show f (0 * 1302 + j) = upd f i.toNatClampNeg x (0 * 1302 + j)
      rw [hu, if_neg (by omega), Nat.zero_mul, Nat.zero_add]
  · have hf : (fun j => upd f i.toNatClampNeg x (z * 1302 + j)) = fun j => f (z * 1302 + j) := by
      funext j
      unfold upd
      rw [if_neg (by omega)]
    rw [hf]
    exact hs
theorem t_ild8 {n k : Nat} {i : Int32} (hx : p.tables.exec = Jvm.exec) (hb : c.code = cc) (hkb : kb D (tyc cs) s) (hH : HT D cs A T O X H) (ha : T a = some (8, n, k)) (hno : a ∉ O) (hn : 0 < n) (h0 : 0 ≤ i.toInt) (h1 : i.toInt < n) (hdg : decode cc pc = .ok (.iaload, 1))
    (kk : ∀ x : Int32, p8 i x → (n = 3906 → (i = 1 → x = nI (k / 6)) ∧ (i = 2 → x = nI (k % 6))) → W p l e R s m args below meth c H locs cells slots Q (F0 m (pc + 1) ls (.int x :: rest))) : W p l e R s m args below meth c H locs cells slots Q (F0 m pc ls (.int i :: .ref a :: rest)) := by
  obtain ⟨ws, hP, hD, h3, h4⟩ := hH
  obtain ⟨j, e0, hj, hs⟩ := h3 a _ ha hno
  obtain ⟨f, rfl, hf, hg⟩ : ∃ f : Nat → Int32, e0 = .inl (cs.2.1, n, .inl f) ∧ B8 n f ∧ (n = 3906 → f 1 = nI (k / 6) ∧ f 2 = nI (k % 6)) := hs
  exact va_iald hx hb hkb.1 hP (X.length + j) 1 (ap_r hj) rfl (in_t h0 h1) hdg (kk _ (hf.at hn i) (fun q => ⟨fun z => by rw [z]; exact (hg q).1, fun z => by rw [z]; exact (hg q).2⟩))
theorem t_ist8 {n k : Nat} {i x : Int32} (hx : p.tables.exec = Jvm.exec) (hb : c.code = cc) (hkb : kb D (tyc cs) s) (hH : HT D cs A T O X H) (hS : va_S A H0 H locs) (ha : T a = some (8, n, k)) (hno : a ∉ O) (hn : 0 < n) (h0 : 0 ≤ i.toInt) (h1 : i.toInt < n) (h2 : i.toInt ≤ 400) (h2b : 3 ≤ i.toInt) (hv : p8 i x) (hdg : decode cc pc = .ok (.iastore, 1))
    (kk : ∀ (H1 : Heap) (locs1 : List Loc), HT D cs A T O X H1 → va_S A H0 H1 locs1 → W p l e R s m args below meth c H1 locs1 cells slots Q (F0 m (pc + 1) ls rest)) : W p l e R s m args below meth c H locs cells slots Q (F0 m pc ls (.int x :: .int i :: .ref a :: rest)) := by
  obtain ⟨ws, hP, hD, h3, h4⟩ := hH
  obtain ⟨j, e0, hj, hs⟩ := h3 a _ ha hno
  obtain ⟨f, rfl, hf, hg⟩ : ∃ f : Nat → Int32, e0 = .inl (cs.2.1, n, .inl f) ∧ B8 n f ∧ (n = 3906 → f 1 = nI (k / 6) ∧ f 2 = nI (k % 6)) := hs
  have hi : i.toNatClampNeg = i.toInt.toNat := rfl
  refine va_iast hx hb hkb.1 hP hD hS (X.length + j) 1 (ap_r hj) rfl (in_t h0 h1) hdg (fun H1 locs1 hP hD hS => ?_)
  exact kk H1 locs1 (HT.put hj ha h3 h4 (show sp cs T (8, n, k) _ from ⟨_, rfl, hf.put h0 h2 hv, fun q => ⟨(if_neg (by omega)).trans (hg q).1, (if_neg (by omega)).trans (hg q).2⟩⟩) hP hD) hS
theorem t_ild9 {n k : Nat} {i : Int32} (hx : p.tables.exec = Jvm.exec) (hb : c.code = cc) (hkb : kb D (tyc cs) s) (hH : HT D cs A T O X H) (ha : T a = some (9, n, k)) (hno : a ∉ O) (h0 : 0 ≤ i.toInt) (h1 : i.toInt < n) (hdg : decode cc pc = .ok (.iaload, 1))
    (kk : ∀ x : Int32, cp k x → W p l e R s m args below meth c H locs cells slots Q (F0 m (pc + 1) ls (.int x :: rest))) : W p l e R s m args below meth c H locs cells slots Q (F0 m pc ls (.int i :: .ref a :: rest)) := by
  obtain ⟨ws, hP, hD, h3, h4⟩ := hH
  obtain ⟨j, e0, hj, hs⟩ := h3 a _ ha hno
  obtain ⟨f, rfl, hf⟩ : ∃ f : Nat → Int32, e0 = .inl (cs.2.1, n, .inl f) ∧ ∀ j, cp k (f j) := hs
  exact va_iald hx hb hkb.1 hP (X.length + j) 1 (ap_r hj) rfl (in_t h0 h1) hdg (kk _ (hf _))
theorem t_ist9 {n k : Nat} {i x : Int32} (hx : p.tables.exec = Jvm.exec) (hb : c.code = cc) (hkb : kb D (tyc cs) s) (hH : HT D cs A T O X H) (hS : va_S A H0 H locs) (ha : T a = some (9, n, k)) (hno : a ∉ O) (h0 : 0 ≤ i.toInt) (h1 : i.toInt < n) (hv : cp k x) (hdg : decode cc pc = .ok (.iastore, 1))
    (kk : ∀ (H1 : Heap) (locs1 : List Loc), HT D cs A T O X H1 → va_S A H0 H1 locs1 → W p l e R s m args below meth c H1 locs1 cells slots Q (F0 m (pc + 1) ls rest)) : W p l e R s m args below meth c H locs cells slots Q (F0 m pc ls (.int x :: .int i :: .ref a :: rest)) := by
  obtain ⟨ws, hP, hD, h3, h4⟩ := hH
  obtain ⟨j, e0, hj, hs⟩ := h3 a _ ha hno
  obtain ⟨f, rfl, hf⟩ : ∃ f : Nat → Int32, e0 = .inl (cs.2.1, n, .inl f) ∧ ∀ j, cp k (f j) := hs
  refine va_iast hx hb hkb.1 hP hD hS (X.length + j) 1 (ap_r hj) rfl (in_t h0 h1) hdg (fun H1 locs1 hP hD hS => ?_)
  refine kk H1 locs1 (HT.put hj ha h3 h4 (show sp cs T (9, n, k) _ from ⟨_, rfl, fun q => ?_⟩) hP hD) hS
  unfold upd
  split
  · exact hv
  · exact hf q
end ThRows6
section ThDyn
variable {p : Program} {l : Launch} {e : Env} {R : Room} {s : State} {m : MethodId} {args : Array Value} {below : List Frame} {meth : Method} {c : Code} {H : Heap} {locs : List Loc} {cells slots : Nat} {Q : State → Prop}
variable {cc : ByteArray} {pc : Nat} {ls : Array Slot} {rest : List Value} {D : va_G} {A : Nat → Prop} {a : Nat} {cs : CS} {T : TF} {O : List Nat} {X : va_W} {H0 : Heap}
/-- a constructor's call -/
theorem tr_I {kf : KF} {own : String} {idx n n' nL : Nat} {y : MethodName} {yb : ByteArray} {rm : Room} {b : Addr} {As st : List Value} {Qm : (Nat → Prop) → Array Value → State → Outcome → State → Prop}
    (hx : p.tables.exec = Jvm.exec) (hb : c.code = cc) (hml : c.maxLocals = nL) (hown : s.vm.findClass own = some m.cls) (hts : ∀ w ∈ gw, w.before args s = true) (hkb : kb D (tyc cs) s) (hH : HT D cs A T O X H) (hOX : ∀ o ∈ O, ∃ (k : Nat) (e : va_E), X[k]? = some (o, e)) (hks : kS kf s) (hE : kE kf A s s.heap) (hS : va_S A s.heap H locs) (hA : ∀ q, s.heap.size ≤ q → A q)
    (hM : TK l D cs kf y yb n' none rm (.ref b :: As) T O X Qm) (h1 : Cond.methodLink own idx y ∈ gw) (h2 : Cond.instanceMethod y ∈ gw) (h4 : Cond.initialized y.cls ∈ gw) (h5 : Cond.code y yb n' none ∈ gw) (hy1 : y.name = "<init>")
    (hd : y.cls ≠ "java/lang/invoke/MethodHandle" ∧ y.cls ≠ "java/lang/invoke/VarHandle" ∧ (parseMethodDescriptor y.desc).map (fun d => d.parameters.length) = some n) (hR : rm.frames + 1 ≤ R.frames ∧ 8 + (n' + 11) + rm.locals ≤ R.locals)
    (hn : As.length = n) (hst : st = As.reverse ++ .ref b :: rest) (hsz : ls.size = nL) (hW : (rest.map fun v => v.category).sum ≤ 8) (hdg : decode cc pc = .ok (.invokespecial idx, 3)) (hf : cells + rm.cells ≤ R.cells ∧ slots + rm.slots ≤ R.slots) :
    va_Run p l e R s m args below meth c H locs cells slots rm.cells rm.slots (F0 m pc ls st) rest (Qm (AT T O X H.size) (Value.ref b :: As).toArray) (AT T O X H.size) := by
  subst hst
  exact va_runI (As := As) (rest := rest) ⟨hx, hb, hml, hown, hts⟩ (hM H.size) (cwI n hts (gi_M h5) rfl rfl rfl (hts _ h4) (hts _ h1) (hts _ h2) hy1 hd hR) ⟨prT.blind, fun U hU hW => ⟨rfl, by rw [hU], by rw [hU]; exact hH.weaken (fun _ _ => trivial), kb.warm hW hkb, hOX, kS.warm hW hks, by rw [hU]; exact (kE.moved hW.alike (hE.kept hS.2.1)).narrow (hH.in hS hA)⟩⟩ rfl hn hsz rfl (lv_room hW) hdg hf
/-- contracts whose end tells how much was made -/
def TKD (l : Launch) (D : va_G) (cs : CS) (kf : KF) (y : MethodName) (b : ByteArray) (n : Nat) (r : Option FieldType) (rm : Room) (as : List Value) (T : TF) (O : List Nat) (X : va_W) (Q : Nat → Nat → (Nat → Prop) → Array Value → State → Outcome → State → Prop) : Prop :=
  ∀ sz : Nat, MetFree l y (headSpec (wl y b n r) rm) (va_Pc as (prT D cs kf T O X sz)) (fun _ _ _ _ _ => True) (fun a st o t => ∃ k n, Q k n (AT T O X sz) a st o t ∧ ∃ L, FrameEnd st o t L k n ∧ ∀ q ∈ L, AT T O X sz q.base)
def MQD (below : List Frame) (Q : Nat → Nat → Array Value → State → Outcome → State → Prop) (a : Array Value) (s : State) (free : Addr → Prop) : State → Prop := fun t => ∃ k n, MQ below (Q k n) a s k n free t
theorem W.imp {Q' : State → Prop} {g : JFrame} (h : ∀ t, Q t → Q' t) (k : W p l e R s m args below meth c H locs cells slots Q g) : W p l e R s m args below meth c H locs cells slots Q' g := fun T hT X => by
  obtain ⟨t, a1, b1⟩ := k T hT X
  exact ⟨t, a1, h t b1⟩
theorem tkd_of {kf : KF} {y : MethodName} {b : ByteArray} {n : Nat} {r : Option FieldType} {rm : Room} {as : List Value} {Qd : Nat → Nat → (Nat → Prop) → Array Value → State → Outcome → State → Prop} (hy : plainName y.cls = true) (hlen : (lg_sl as).length ≤ n)
    (body : ∀ (p : Program) (e : Env) (s : State) (m : MethodId) (below : List Frame) (meth : Method) (c : Code) (ls : Array Slot) (A : Nat → Prop) (H : Heap) (locs : List Loc), p.tables.exec = Jvm.exec → c.code = b → meth.sig.returnType = r → c.maxLocals = n → s.vm.findClass y.cls = some m.cls → (∀ w ∈ gw, w.before as.toArray s = true) → meth.locks = false → meth.name = y.name → kb D (tyc cs) s → HT D cs A T O X H → va_S A s.heap H locs → (∀ q : Nat, s.heap.size ≤ q → A q) → (∀ o ∈ O, ∃ (k : Nat) (e : va_E), X[k]? = some (o, e)) → kS kf s → kE kf A s s.heap → lv_has ls n (lv_args 0 as) →
      W p l e rm s m as.toArray below meth c H locs 0 0 (MQD below (fun k n => Qd k n A) as.toArray s A) (F0 m 0 ls [])) : TKD l D cs kf y b n r rm as T O X Qd := by
  intro sz
  refine MetFree.of_bodyS (code := b) (maxLocals := n) (ret := r) hy (fun args s m h hn => ?_) (fun p e s m args below meth c s₁ B hml hv _ => ?_)
  · obtain ⟨meth, c, h1, h2, h3, h4, h5, h6, -, -⟩ := Cond.code_spec hn (atoms_spec (ws := wl y b n r) h _ List.mem_cons_self)
    exact ⟨meth, c, h1, h2, h3, h4, h5, h6⟩
  · obtain ⟨rfl, hsz, hH, hK, hOX, hks, hE⟩ := hv
    have hts := atoms_spec (ws := wl y b n r) B.pre
    subst hsz
    have hh0 : s₁.heap = s.heap := by rw [B.state]; rfl
    have k := body p e s m below meth c _ _ _ [] B.exec B.bytes B.returns hml (findClass_of_methodNamed B.named) (fun w hw => hts w (List.mem_cons_of_mem _ hw)) B.notSynchronized (name_of_methodNamed B.named B.method).1 hK (hH.self hOX) va_S.rf (fun q h => Or.inr (Or.inr h)) hOX hks hE (lv_entry as hlen)
    rw [← lg_entry_eq] at k
    obtain ⟨t, a1, kk, nn, o, b1, b2, b3, b4⟩ := k s₁ hh0 (Stand.of_body B)
    exact ⟨t, o, a1, b1, b2, kk, nn, b3, b4⟩
def RunD (p : Program) (l : Launch) (e : Env) (R : Room) (s : State) (m : MethodId) (args : Array Value) (below : List Frame) (meth : Method) (c : Code) (H : Heap) (locs : List Loc) (cells slots : Nat) (g : JFrame) (rest : List Value) (Qa : Nat → Nat → State → Outcome → State → Prop) (free : Addr → Prop) : Prop :=
  ∀ T : State, T.heap = H → Stand p l e R s m args below meth c T locs cells slots → ∃ (v : Option Value) (st₀ t T' : State) (L : List Loc) (k n : Nat), st₀.heap = H ∧ Stand p l e R s m args below meth c T' (locs ++ L) (cells + k) (slots + n) ∧ (∀ q ∈ L, free q.base) ∧ T'.heap = t.heap ∧ T'.vm = t.vm ∧ Qa k n st₀ (.returned v) t ∧
    Goes p e below T g T' { g with pc := g.pc + 3, stack := v.toList ++ rest }
def PostD (Qc : Nat → Nat → Array Value → State → Outcome → State → Prop) (free : Addr → Prop) : Pt → Array Value → Option Value → Pt → Prop := fun A a v B =>
  ∃ (k n : Nat) (g : JFrame) (mk : MethodId) (t : State) (L : List Loc), B.U.heap = t.heap ∧ B.U.vm = t.vm ∧ Qc k n a (A.U.calling g mk a) (.returned v) t ∧ B.locs = A.locs ++ L ∧ (∀ q ∈ L, free q.base) ∧ B.cells = A.cells + k ∧ B.slots = A.slots + n
theorem back_D {kf : KF} {own : String} {idx n n' : Nat} {y : MethodName} {yb : ByteArray} {r : Option FieldType} {rm : Room} {As : List Value} {sz : Nat} {Qm : Nat → Nat → (Nat → Prop) → Array Value → State → Outcome → State → Prop}
    (hts : ∀ w ∈ gw, w.before args s = true) (hM : TKD l D cs kf y yb n' r rm As T O X Qm) (cb : CallB R s args own idx y yb n' r (wl y yb n' r) rm rm.cells rm.slots n) : Back l R p e below s args y 3 8 (PreOf R rm.cells rm.slots (va_Pc As (prT D cs kf T O X sz))) (PostD (fun k n => Qm k n (AT T O X sz)) (AT T O X sz)) := by
  obtain ⟨hrc, hrs, hfr, hlo, hws, hcw, -, hini, -⟩ := cb
  refine Back.of_free (S := headSpec (wl y yb n' r) rm) (P := va_Pc As (prT D cs kf T O X sz)) (K := fun _ _ _ _ _ => True) (bytes := yb) (maxL := n') (ret := r)
    (E := fun a st o t L k n => Qm k n (AT T O X sz) a st o t ∧ ∀ q ∈ L, AT T O X sz q.base) (hM sz) hfr hlo ?_ ?_ (fun _ _ _ _ _ _ _ _ _ => trivial) ?_ ?_
  · intro m meth c A a X hp
    exact ⟨atoms_intro fun w hw => hws w hw _ _ X.warmed, hws _ hcw _ _ X.warmed, word_at X.warmed (Or.inl (by first | rfl | simp [Cond.onTables, Cond.keeps, Cond.steady])) hini, hp.1, hp.2.1⟩
  · intro m meth c A a g mk X hp
    exact prT.blind _ _ _ _ hp.2.2
  · intro a st o t ⟨k, n, hq, L, hF, hL⟩
    exact ⟨L, k, n, hF, hq, hL⟩
  · intro m meth c A a g mk v t L k n X hp hq hF ⟨e1, hL⟩
    exact ⟨k, n, g, mk, t, L, rfl, rfl, e1, rfl, hL, rfl, rfl⟩
theorem tr_VD {kf : KF} {own C : String} {idx n n' nL : Nat} {y : MethodName} {yb : ByteArray} {r : Option FieldType} {rm : Room} {b : Addr} {As st : List Value} {Qm : Nat → Nat → (Nat → Prop) → Array Value → State → Outcome → State → Prop}
    (hx : p.tables.exec = Jvm.exec) (hb : c.code = cc) (hml : c.maxLocals = nL) (hown : s.vm.findClass own = some m.cls) (hts : ∀ w ∈ gw, w.before args s = true) (hkb : kb D (tyc cs) s) (hH : HT D cs A T O X H) (hOX : ∀ o ∈ O, ∃ (k : Nat) (e : va_E), X[k]? = some (o, e)) (hks : kS kf s) (hE : kE kf A s s.heap) (hS : va_S A s.heap H locs) (hA : ∀ q, s.heap.size ≤ q → A q)
    (hM : TKD l D cs kf y yb n' r rm (.ref b :: As) T O X Qm) (h1 : Cond.methodLink own idx y ∈ gw) (h2 : Cond.instanceMethod y ∈ gw) (h3 : Cond.selects C y y ∈ gw) (h4 : Cond.initialized C ∈ gw) (h5 : Cond.code y yb n' r ∈ gw)
    (hd : y.cls = C ∧ y.cls ≠ "java/lang/invoke/MethodHandle" ∧ y.cls ≠ "java/lang/invoke/VarHandle" ∧ (parseMethodDescriptor y.desc).map (fun d => d.parameters.length) = some n) (hR : rm.frames + 1 ≤ R.frames ∧ 8 + (n' + 11) + rm.locals ≤ R.locals)
    (he : ∃ cell : Cell, H[b]? = some cell ∧ cell.vm.isStatics = false ∧ s.vm.findClass C = some cell.cls) (hn : As.length = n) (hst : st = As.reverse ++ .ref b :: rest) (hsz : ls.size = nL) (hW : (rest.map fun v => v.category).sum ≤ 8) (hdg : decode cc pc = .ok (.invokevirtual idx, 3)) (hf : cells + rm.cells ≤ R.cells ∧ slots + rm.slots ≤ R.slots) :
    RunD p l e R s m args below meth c H locs cells slots (F0 m pc ls st) rest (fun k n => Qm k n (AT T O X H.size) (Value.ref b :: As).toArray) (AT T O X H.size) := by
  subst hst
  have hG : GoodIn gw (wsV own idx C y (wl y yb n' r)) := gi_app (fun w hw => by
    simp only [List.mem_cons, List.not_mem_nil, or_false] at hw
    rcases hw with rfl | rfl | rfl | rfl
    · exact h1
    · exact h2
    · exact h3
    · exact h4) (gi_M h5)
  have cw := cwV (R := R) (rm := rm) n hts hG rfl rfl rfl hd hR
  have hK := back_D (p := p) (e := e) (below := below) (sz := H.size) hts hM cw.1
  obtain ⟨⟨-, -, -, -, -, -, hcode, -, hy, hlen, hl⟩, hin, hse⟩ := cw
  obtain ⟨cellB, hcB, hoB, hclB⟩ := he
  intro T' hT X'
  obtain ⟨v, vm₁, ⟨U', l2, c2, s2⟩, hW₁, X2, ⟨k, nn, g', mk, t, L, e1, e2, hq, g1, hL, g2, g3⟩, st⟩ := callV X' hx (C := C) (bytes := yb) (maxL := n') (ret := r) hown hl hin hse hcode hy hK (by rw [hT]; exact hcB) hoB hclB rfl (hsz.trans hml.symm) (argsL := As) (rest := rest) (fun sig h => hn.trans (hlen sig h)) rfl (lv_room hW) (by rw [hb]; exact hdg)
    (fun vm₁ hW₁ => ⟨hf.1, hf.2, rfl, by rw [show (T'.setVm vm₁).heap = H from hT], by rw [show (T'.setVm vm₁).heap = H from hT]; exact hH.weaken (fun _ _ => trivial), kb.warm hW₁ hkb, hOX, kS.warm hW₁ hks, by rw [show (T'.setVm vm₁).heap = H from hT]; exact (kE.moved hW₁.alike (hE.kept hS.2.1)).narrow (hH.in hS hA)⟩)
  dsimp only [Pt.U, Pt.locs, Pt.cells, Pt.slots] at X2 e1 e2 g1 g2 g3 st
  subst g1; subst g2; subst g3
  exact ⟨v, (T'.setVm vm₁).calling g' mk (Value.ref b :: As).toArray, t, U', L, k, nn, hT, X2, hL, e1, e2, hq, st⟩
theorem tk_iD {post : Nat → Nat → Int32 → TX → Prop} {st : List Value} {av : Array Value} (hH : HT D cs A T O X H) (hS : va_S A H0 H locs) (hA : ∀ q, H0.size ≤ q → A q)
    (hr : RunD p l e R s m args below meth c H locs cells slots (F0 m pc ls st) rest (fun k n => Ti D cs (post k n) (AT T O X H.size) av) (AT T O X H.size))
    (kk : ∀ (r : Int32) (k n : Nat) (u : TX) (H1 : Heap) (locs1 : List Loc), post k n r u → HT D cs A u.1 u.2.1 u.2.2 H1 → va_S A H0 H1 locs1 → W p l e R s m args below meth c H1 locs1 (cells + k) (slots + n) Q (F0 m (pc + 3) ls (.int r :: rest))) : W p l e R s m args below meth c H locs cells slots Q (F0 m pc ls st) := by
  have hFc := hH.in hS hA
  intro T' hT X'
  obtain ⟨v, st₀, t, T2, L, k, n, h0, X2, hL, e1, e2, ⟨⟨r, u, hv, hp, hb⟩, hz, hk⟩, st⟩ := hr T' hT X'
  cases hv
  rw [h0] at hz hk
  have hB : HT D cs (AT T O X H.size) u.1 u.2.1 u.2.2 t.heap := hb
  rw [← e1] at hB hz
  obtain ⟨t2, a1, b1⟩ := kk r k n u T2.heap (locs ++ L) hp (hB.weaken hFc) ⟨Nat.le_trans hS.1 hz, fun q h1 h2 => by rw [e1, hk q (Nat.lt_of_lt_of_le h1 hS.1) (fun z => h2 (hFc q z))]; exact hS.2.1 q h1 h2, fun q hq => by
      rcases List.mem_append.mp hq with h | h
      · exact hS.2.2 q h
      · exact hFc _ (hL q h)⟩ T2 rfl X2
  exact ⟨t2, st t2 a1, b1⟩
theorem tk_vD {post : Nat → Nat → TX → Prop} {st : List Value} {av : Array Value} (hH : HT D cs A T O X H) (hS : va_S A H0 H locs) (hA : ∀ q, H0.size ≤ q → A q)
    (hr : RunD p l e R s m args below meth c H locs cells slots (F0 m pc ls st) rest (fun k n => Tv D cs (post k n) (AT T O X H.size) av) (AT T O X H.size))
    (kk : ∀ (k n : Nat) (u : TX) (H1 : Heap) (locs1 : List Loc), post k n u → HT D cs A u.1 u.2.1 u.2.2 H1 → va_S A H0 H1 locs1 → W p l e R s m args below meth c H1 locs1 (cells + k) (slots + n) Q (F0 m (pc + 3) ls rest)) : W p l e R s m args below meth c H locs cells slots Q (F0 m pc ls st) := by
  have hFc := hH.in hS hA
  intro T' hT X'
  obtain ⟨v, st₀, t, T2, L, k, n, h0, X2, hL, e1, e2, ⟨⟨u, hv, hp, hb⟩, hz, hk⟩, st⟩ := hr T' hT X'
  cases hv
  rw [h0] at hz hk
  have hB : HT D cs (AT T O X H.size) u.1 u.2.1 u.2.2 t.heap := hb
  rw [← e1] at hB hz
  obtain ⟨t2, a1, b1⟩ := kk k n u T2.heap (locs ++ L) hp (hB.weaken hFc) ⟨Nat.le_trans hS.1 hz, fun q h1 h2 => by rw [e1, hk q (Nat.lt_of_lt_of_le h1 hS.1) (fun z => h2 (hFc q z))]; exact hS.2.1 q h1 h2, fun q hq => by
      rcases List.mem_append.mp hq with h | h
      · exact hS.2.2 q h
      · exact hFc _ (hL q h)⟩ T2 rfl X2
  exact ⟨t2, st t2 a1, b1⟩
theorem te_iD {post : Nat → Nat → Int32 → TX → Prop} {v : Int32} (hx : p.tables.exec = Jvm.exec) (hb : c.code = cc) (hr : meth.sig.returnType = some .int) (hlocks : meth.locks = false) (hH : HT D cs A T O X H) (hS : va_S A s.heap H locs) (hp : post cells slots v (T, O, X)) (hdg : decode cc pc = .ok (.ireturn, 1)) : W p l e R s m args below meth c H locs cells slots (MQD below (fun k n => Ti D cs (post k n) A) args s A) (F0 m pc ls [.int v]) :=
  W.imp (fun _ h => ⟨cells, slots, h⟩) (te_i (post := post cells slots) hx hb hr hlocks hH hS hp hdg)
theorem te_vD {post : Nat → Nat → TX → Prop} (hx : p.tables.exec = Jvm.exec) (hb : c.code = cc) (hr : meth.sig.returnType = none) (hlocks : meth.locks = false) (hH : HT D cs A T O X H) (hS : va_S A s.heap H locs) (hp : post cells slots (T, O, X)) (hdg : decode cc pc = .ok (.return_, 1)) : W p l e R s m args below meth c H locs cells slots (MQD below (fun k n => Tv D cs (post k n) A) args s A) (F0 m pc ls []) :=
  W.imp (fun _ h => ⟨cells, slots, h⟩) (te_v (post := post cells slots) hx hb hr hlocks hH hS hp hdg)
theorem te_ra {post : TX × Nat → Prop} {v : Nat} {ty : FieldType} (hx : p.tables.exec = Jvm.exec) (hb : c.code = cc) (hr : meth.sig.returnType = some (.array ty)) (hlocks : meth.locks = false) (hH : HT D cs A T O X H) (hS : va_S A s.heap H locs) (hp : post ((T, O, X), v)) (hdg : decode cc pc = .ok (.areturn, 1)) : W p l e R s m args below meth c H locs cells slots (MQ below (Tr D cs post A) args s cells slots A) (F0 m pc ls [.ref v]) :=
  W.aret hx hb hr (Or.inr ⟨ty, rfl⟩) (Or.inr ⟨v, rfl⟩) (fun t ht _ => ⟨⟨((T, O, X), v), v, rfl, hp, rfl, by show HT D cs A T O X t.heap; rw [ht]; exact hH⟩, hS.F ht⟩) hS.2.2 hdg hlocks
end ThDyn
