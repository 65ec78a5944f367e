/-! rows over the typed heap -/
section ThRows2
variable {p : Program} {l : Launch} {e : Env} {R : Room} {s : State} {m : MethodId} {args : Array Value} {below : List Frame} {meth : Method} {c : Code} {H : Heap} {locs : List Loc} {cells slots : Nat} {Q : State → Prop}
variable {cc : ByteArray} {pc : Nat} {ls : Array Slot} {rest : List Value} {D : va_G} {A : Nat → Prop} {a : Nat} {cs : CS} {T : TF} {O : List Nat} {X : va_W} {H0 : Heap}
theorem okL_set {T : TF} {l : List FT} {fs : List Value} {k : Nat} {P : FT} {v : Value} (ho : okL T l fs) (hf : l[k]? = some P) (hv : P T v) : okL T l (fs.set k v) := by
  refine ⟨by rw [List.length_set]; exact ho.1, fun j P' v' h1 h2 => ?_⟩
  by_cases hj : k = j
  · subst hj
    have hl : k < fs.length := by
      have := (List.getElem?_eq_some_iff.mp h2).1
      rw [List.length_set] at this
      exact this
    rw [List.getElem?_set_self hl] at h2
    rw [hf] at h1
    cases h1
    cases h2
    exact hv
  · rw [List.getElem?_set_ne hj] at h2
    exact ho.2 j P' v' h1 h2
theorem t_put {own ref C : String} {F : u_T} {N ci p0 q0 index : Nat} {P : FT} {lst : List FT} {v : Value} {ty : FieldType} (hx : p.tables.exec = Jvm.exec) (hb : c.code = cc) (hts : ∀ w ∈ gw, w.before args s = true) (hin : ∀ w ∈ u_ws C F N, w ∈ gw) (ty0 : Nat → FieldType) (hty : ∀ k, k < N → parseFieldDescriptor (F k).2.2.1 = some (ty0 k)) (hnm : ∀ a, a < N → ∀ b, b < N → a ≠ b → (F a).2.1 ≠ (F b).2.1) (hown : s.vm.findClass own = some m.cls) (hkb : kb D (tyc cs) s) (hH : HT D cs A T O X H) (hS : va_S A H0 H locs) (ha : T a = some (ci + 10, p0, q0)) (hno : a ∉ O) (hob : ∀ fs, ob T ci p0 q0 fs ↔ okL T lst fs) (hc : cls[ci]? = some (C, F, N)) (hN : lst.length = N) (k : Nat) (hk : k < N) (hf : lst[k]? = some P) (hv : P T v) (hlink : Cond.fieldLink own index ref (F k).2.1 (F k).2.2.1 ∈ gw) (hsame : ∀ x, s.fieldFound? (F k).1 (F k).2.1 (F k).2.2.1 = some x → s.fieldFound? ref (F k).2.1 (F k).2.2.1 = some x) (hfin : (F k).2.2.2 = false) (hd : parseFieldDescriptor (F k).2.2.1 = some ty) (hn : narrow ty v = v) (hfit : fits ty v = true) (hdg : decode cc pc = .ok (.putfield index, 3))
    (kk : ∀ (H1 : Heap) (locs1 : List Loc), HT D cs A T O X H1 → va_S A H0 H1 locs1 → W p l e R s m args below meth c H1 locs1 cells slots Q (F0 m (pc + 3) ls rest)) : W p l e R s m args below meth c H locs cells slots Q (F0 m pc ls (v :: .ref a :: rest)) := by
  obtain ⟨ws, hP, hD, h3, h4⟩ := hH
  obtain ⟨j, e0, hj, hs⟩ := h3 a _ ha hno
  obtain ⟨fs, rfl, ho⟩ : ∃ fs : List Value, e0 = .inr (ci, fs) ∧ ob T ci p0 q0 fs := hs
  have ho := (hob fs).mp ho
  have hkl : k < fs.length := by rw [ho.1, hN]; exact hk
  refine va_put (D := D) hx hb hts hin ty0 hty hnm hown hkb.1 hP hD hS (X.length + j) (ap_r hj) hc k hk (hts _ hlink) hsame hfin hd hn hfit hkl hdg (fun H1 locs1 hP hD hS => ?_)
  exact kk H1 locs1 (HT.put hj ha h3 h4 (show sp cs T (ci + 10, p0, q0) (.inr (ci, fs.set k v)) from ⟨_, rfl, (hob _).mpr (okL_set ho hf hv)⟩) hP hD) hS
/-- arrays of ints, bytes, booleans, longs -/
theorem t_ild {n k : Nat} {i : Int32} (hx : p.tables.exec = Jvm.exec) (hb : c.code = cc) (hkb : kb D (tyc cs) s) (hH : HT D cs A T O X H) (ha : T a = some (1, n, k)) (hno : a ∉ O) (h0 : 0 ≤ i.toInt) (h1 : i.toInt < n) (hdg : decode cc pc = .ok (.iaload, 1))
    (kk : ∀ x : Int32, cp k x → W p l e R s m args below meth c H locs cells slots Q (F0 m (pc + 1) ls (.int x :: rest))) : W p l e R s m args below meth c H locs cells slots Q (F0 m pc ls (.int i :: .ref a :: rest)) := by
  obtain ⟨ws, hP, hD, h3, h4⟩ := hH
  obtain ⟨j, e0, hj, hs⟩ := h3 a _ ha hno
  obtain ⟨f, rfl, hf⟩ : ∃ f : Nat → Int32, e0 = .inl (cs.2.1, n, .inl f) ∧ ∀ j, cp k (f j) := hs
  exact va_iald hx hb hkb.1 hP (X.length + j) 1 (ap_r hj) rfl (in_t h0 h1) hdg (kk _ (hf _))
theorem t_ist {n k : Nat} {i x : Int32} (hx : p.tables.exec = Jvm.exec) (hb : c.code = cc) (hkb : kb D (tyc cs) s) (hH : HT D cs A T O X H) (hS : va_S A H0 H locs) (ha : T a = some (1, n, k)) (hno : a ∉ O) (h0 : 0 ≤ i.toInt) (h1 : i.toInt < n) (hv : cp k x) (hdg : decode cc pc = .ok (.iastore, 1))
    (kk : ∀ (H1 : Heap) (locs1 : List Loc), HT D cs A T O X H1 → va_S A H0 H1 locs1 → W p l e R s m args below meth c H1 locs1 cells slots Q (F0 m (pc + 1) ls rest)) : W p l e R s m args below meth c H locs cells slots Q (F0 m pc ls (.int x :: .int i :: .ref a :: rest)) := by
  obtain ⟨ws, hP, hD, h3, h4⟩ := hH
  obtain ⟨j, e0, hj, hs⟩ := h3 a _ ha hno
  obtain ⟨f, rfl, hf⟩ : ∃ f : Nat → Int32, e0 = .inl (cs.2.1, n, .inl f) ∧ ∀ j, cp k (f j) := hs
  refine va_iast hx hb hkb.1 hP hD hS (X.length + j) 1 (ap_r hj) rfl (in_t h0 h1) hdg (fun H1 locs1 hP hD hS => ?_)
  refine kk H1 locs1 (HT.put hj ha h3 h4 (show sp cs T (1, n, k) _ from ⟨_, rfl, fun q => ?_⟩) hP hD) hS
  unfold upd
  split
  · exact hv
  · exact hf q
theorem t_bld {n k : Nat} {i : Int32} (hx : p.tables.exec = Jvm.exec) (hb : c.code = cc) (hkb : kb D (tyc cs) s) (hH : HT D cs A T O X H) (ha : T a = some (0, n, k)) (hno : a ∉ O) (h0 : 0 ≤ i.toInt) (h1 : i.toInt < n) (hdg : decode cc pc = .ok (.baload, 1))
    (kk : ∀ x : Int32, W p l e R s m args below meth c H locs cells slots Q (F0 m (pc + 1) ls (.int x :: rest))) : W p l e R s m args below meth c H locs cells slots Q (F0 m pc ls (.int i :: .ref a :: rest)) := by
  obtain ⟨ws, hP, hD, h3, h4⟩ := hH
  obtain ⟨j, e0, hj, hs⟩ := h3 a _ ha hno
  obtain ⟨f, rfl⟩ : ∃ f : Nat → Int32, e0 = .inl (cs.1, n, .inl f) := hs
  exact va_bald hx hb hkb.1 hP (X.length + j) 0 (ap_r hj) rfl (in_t h0 h1) hdg (kk _)
theorem t_bst {n k : Nat} {i x : Int32} (hx : p.tables.exec = Jvm.exec) (hb : c.code = cc) (hkb : kb D (tyc cs) s) (hH : HT D cs A T O X H) (hS : va_S A H0 H locs) (ha : T a = some (0, n, k)) (hno : a ∉ O) (h0 : 0 ≤ i.toInt) (h1 : i.toInt < n) (hdg : decode cc pc = .ok (.bastore, 1))
    (kk : ∀ (H1 : Heap) (locs1 : List Loc), HT D cs A T O X H1 → va_S A H0 H1 locs1 → W p l e R s m args below meth c H1 locs1 cells slots Q (F0 m (pc + 1) ls rest)) : W p l e R s m args below meth c H locs cells slots Q (F0 m pc ls (.int x :: .int i :: .ref a :: rest)) := by
  obtain ⟨ws, hP, hD, h3, h4⟩ := hH
  obtain ⟨j, e0, hj, hs⟩ := h3 a _ ha hno
  obtain ⟨f, rfl⟩ : ∃ f : Nat → Int32, e0 = .inl (cs.1, n, .inl f) := hs
  refine va_bast hx hb hkb.1 hP hD hS (X.length + j) 0 (ap_r hj) rfl (in_t h0 h1) hdg (fun H1 locs1 hP hD hS => ?_)
  exact kk H1 locs1 (HT.put hj ha h3 h4 (show sp cs T (0, n, k) _ from ⟨_, rfl⟩) hP hD) hS
theorem t_zld {n k : Nat} {i : Int32} (hx : p.tables.exec = Jvm.exec) (hb : c.code = cc) (hkb : kb D (tyc cs) s) (hH : HT D cs A T O X H) (ha : T a = some (3, n, k)) (hno : a ∉ O) (h0 : 0 ≤ i.toInt) (h1 : i.toInt < n) (hdg : decode cc pc = .ok (.baload, 1))
    (kk : ∀ x : Int32, W p l e R s m args below meth c H locs cells slots Q (F0 m (pc + 1) ls (.int x :: rest))) : W p l e R s m args below meth c H locs cells slots Q (F0 m pc ls (.int i :: .ref a :: rest)) := by
  obtain ⟨ws, hP, hD, h3, h4⟩ := hH
  obtain ⟨j, e0, hj, hs⟩ := h3 a _ ha hno
  obtain ⟨f, rfl⟩ : ∃ f : Nat → Int32, e0 = .inl (cs.2.2.2.1, n, .inl f) := hs
  exact va_zald hx hb hkb.1 hP (X.length + j) 3 (ap_r hj) rfl (in_t h0 h1) hdg (kk _)
theorem t_zst {n k : Nat} {i x : Int32} (hx : p.tables.exec = Jvm.exec) (hb : c.code = cc) (hkb : kb D (tyc cs) s) (hH : HT D cs A T O X H) (hS : va_S A H0 H locs) (ha : T a = some (3, n, k)) (hno : a ∉ O) (h0 : 0 ≤ i.toInt) (h1 : i.toInt < n) (hdg : decode cc pc = .ok (.bastore, 1))
    (kk : ∀ (H1 : Heap) (locs1 : List Loc), HT D cs A T O X H1 → va_S A H0 H1 locs1 → W p l e R s m args below meth c H1 locs1 cells slots Q (F0 m (pc + 1) ls rest)) : W p l e R s m args below meth c H locs cells slots Q (F0 m pc ls (.int x :: .int i :: .ref a :: rest)) := by
  obtain ⟨ws, hP, hD, h3, h4⟩ := hH
  obtain ⟨j, e0, hj, hs⟩ := h3 a _ ha hno
  obtain ⟨f, rfl⟩ : ∃ f : Nat → Int32, e0 = .inl (cs.2.2.2.1, n, .inl f) := hs
  refine va_zast hx hb hkb.1 hP hD hS (X.length + j) 3 (ap_r hj) rfl (in_t h0 h1) hdg (fun H1 locs1 hP hD hS => ?_)
  exact kk H1 locs1 (HT.put hj ha h3 h4 (show sp cs T (3, n, k) _ from ⟨_, rfl⟩) hP hD) hS
theorem t_lld {n k : Nat} {i : Int32} (hx : p.tables.exec = Jvm.exec) (hb : c.code = cc) (hkb : kb D (tyc cs) s) (hH : HT D cs A T O X H) (ha : T a = some (2, n, k)) (hno : a ∉ O) (h0 : 0 ≤ i.toInt) (h1 : i.toInt < n) (hdg : decode cc pc = .ok (.laload, 1))
    (kk : ∀ x : Int64, W p l e R s m args below meth c H locs cells slots Q (F0 m (pc + 1) ls (.long x :: rest))) : W p l e R s m args below meth c H locs cells slots Q (F0 m pc ls (.int i :: .ref a :: rest)) := by
  obtain ⟨ws, hP, hD, h3, h4⟩ := hH
  obtain ⟨j, e0, hj, hs⟩ := h3 a _ ha hno
  obtain ⟨f, rfl⟩ : ∃ f : Nat → Int64, e0 = .inl (cs.2.2.1, n, .inr (.inl f)) := hs
  exact va_lald hx hb hkb.1 hP (X.length + j) 2 (ap_r hj) rfl (in_t h0 h1) hdg (kk _)
theorem t_lst {n k : Nat} {i : Int32} {x : Int64} (hx : p.tables.exec = Jvm.exec) (hb : c.code = cc) (hkb : kb D (tyc cs) s) (hH : HT D cs A T O X H) (hS : va_S A H0 H locs) (ha : T a = some (2, n, k)) (hno : a ∉ O) (h0 : 0 ≤ i.toInt) (h1 : i.toInt < n) (hdg : decode cc pc = .ok (.lastore, 1))
    (kk : ∀ (H1 : Heap) (locs1 : List Loc), HT D cs A T O X H1 → va_S A H0 H1 locs1 → W p l e R s m args below meth c H1 locs1 cells slots Q (F0 m (pc + 1) ls rest)) : W p l e R s m args below meth c H locs cells slots Q (F0 m pc ls (.long x :: .int i :: .ref a :: rest)) := by
  obtain ⟨ws, hP, hD, h3, h4⟩ := hH
  obtain ⟨j, e0, hj, hs⟩ := h3 a _ ha hno
  obtain ⟨f, rfl⟩ : ∃ f : Nat → Int64, e0 = .inl (cs.2.2.1, n, .inr (.inl f)) := hs
  refine va_last hx hb hkb.1 hP hD hS (X.length + j) 2 (ap_r hj) rfl (in_t h0 h1) hdg (fun H1 locs1 hP hD hS => ?_)
  exact kk H1 locs1 (HT.put hj ha h3 h4 (show sp cs T (2, n, k) _ from ⟨_, rfl⟩) hP hD) hS
/-- arrays of States, Trays, Rows (all told), of Walls (some none) -/
theorem t_qld4 {n k : Nat} {i : Int32} (hx : p.tables.exec = Jvm.exec) (hb : c.code = cc) (hkb : kb D (tyc cs) s) (hH : HT D cs A T O X H) (ha : T a = some (4, n, k)) (hno : a ∉ O) (h0 : 0 ≤ i.toInt) (h1 : i.toInt < n) (hdg : decode cc pc = .ok (.aaload, 1))
    (kk : ∀ r : Nat, T r = some (16, 0, 0) → W p l e R s m args below meth c H locs cells slots Q (F0 m (pc + 1) ls (.ref r :: rest))) : W p l e R s m args below meth c H locs cells slots Q (F0 m pc ls (.int i :: .ref a :: rest)) := by
  obtain ⟨ws, hP, hD, h3, h4⟩ := hH
  obtain ⟨j, e0, hj, hs⟩ := h3 a _ ha hno
  obtain ⟨f, rfl, hf⟩ : ∃ f : Nat → Option Nat, e0 = .inl (cs.2.2.2.2.1, n, .inr (.inr (.inr (.inr f)))) ∧ ∀ j, j < n → ∃ a, f j = some a ∧ T a = some (16, 0, 0) := hs
  obtain ⟨r, hr, ht⟩ := hf i.toNatClampNeg (show i.toInt.toNat < n by omega)
  exact va_aldq (C := RX6) hx hb hkb.1 hP (X.length + j) 4 (ap_r hj) rfl (in_t h0 h1) hdg (by rw [hr]; exact kk r ht)
theorem t_qld6 {n k : Nat} {i : Int32} (hx : p.tables.exec = Jvm.exec) (hb : c.code = cc) (hkb : kb D (tyc cs) s) (hH : HT D cs A T O X H) (ha : T a = some (6, n, k)) (hno : a ∉ O) (h0 : 0 ≤ i.toInt) (h1 : i.toInt < n) (hdg : decode cc pc = .ok (.aaload, 1))
    (kk : ∀ r : Nat, T r = some (18, 0, 0) → W p l e R s m args below meth c H locs cells slots Q (F0 m (pc + 1) ls (.ref r :: rest))) : W p l e R s m args below meth c H locs cells slots Q (F0 m pc ls (.int i :: .ref a :: rest)) := by
  obtain ⟨ws, hP, hD, h3, h4⟩ := hH
  obtain ⟨j, e0, hj, hs⟩ := h3 a _ ha hno
  obtain ⟨f, rfl, hf⟩ : ∃ f : Nat → Option Nat, e0 = .inl (cs.2.2.2.2.2.2.1, n, .inr (.inr (.inr (.inr f)))) ∧ ∀ j, j < n → ∃ a, f j = some a ∧ T a = some (18, 0, 0) := hs
  obtain ⟨r, hr, ht⟩ := hf i.toNatClampNeg (show i.toInt.toNat < n by omega)
  exact va_aldq (C := RX8) hx hb hkb.1 hP (X.length + j) 6 (ap_r hj) rfl (in_t h0 h1) hdg (by rw [hr]; exact kk r ht)
theorem t_qld7 {n k : Nat} {i : Int32} (hx : p.tables.exec = Jvm.exec) (hb : c.code = cc) (hkb : kb D (tyc cs) s) (hH : HT D cs A T O X H) (ha : T a = some (7, n, k)) (hno : a ∉ O) (h0 : 0 ≤ i.toInt) (h1 : i.toInt < n) (hdg : decode cc pc = .ok (.aaload, 1))
    (kk : ∀ r : Nat, T r = some (15, 0, 0) → W p l e R s m args below meth c H locs cells slots Q (F0 m (pc + 1) ls (.ref r :: rest))) : W p l e R s m args below meth c H locs cells slots Q (F0 m pc ls (.int i :: .ref a :: rest)) := by
  obtain ⟨ws, hP, hD, h3, h4⟩ := hH
  obtain ⟨j, e0, hj, hs⟩ := h3 a _ ha hno
  obtain ⟨f, rfl, hf⟩ : ∃ f : Nat → Option Nat, e0 = .inl (cs.2.2.2.2.2.2.2, n, .inr (.inr (.inr (.inr f)))) ∧ ∀ j, j < n → ∃ a, f j = some a ∧ T a = some (15, 0, 0) := hs
  obtain ⟨r, hr, ht⟩ := hf i.toNatClampNeg (show i.toInt.toNat < n by omega)
  exact va_aldq (C := RX5) hx hb hkb.1 hP (X.length + j) 7 (ap_r hj) rfl (in_t h0 h1) hdg (by rw [hr]; exact kk r ht)
theorem t_qld5 {n k : Nat} {i : Int32} (hx : p.tables.exec = Jvm.exec) (hb : c.code = cc) (hkb : kb D (tyc cs) s) (hH : HT D cs A T O X H) (ha : T a = some (5, n, k)) (hno : a ∉ O) (h0 : 0 ≤ i.toInt) (h1 : i.toInt < n) (hdg : decode cc pc = .ok (.aaload, 1))
    (k1 : W p l e R s m args below meth c H locs cells slots Q (F0 m (pc + 1) ls (.null :: rest))) (k2 : ∀ r h g : Nat, isW T r h g → W p l e R s m args below meth c H locs cells slots Q (F0 m (pc + 1) ls (.ref r :: rest))) : W p l e R s m args below meth c H locs cells slots Q (F0 m pc ls (.int i :: .ref a :: rest)) := by
  obtain ⟨ws, hP, hD, h3, h4⟩ := hH
  obtain ⟨j, e0, hj, hs⟩ := h3 a _ ha hno
  obtain ⟨f, rfl, hf⟩ : ∃ f : Nat → Option Nat, e0 = .inl (cs.2.2.2.2.2.1, n, .inr (.inr (.inr (.inr f)))) ∧ ∀ j a, f j = some a → ∃ h g, isW T a h g := hs
  refine va_aldq (C := RX9) hx hb hkb.1 hP (X.length + j) 5 (ap_r hj) rfl (in_t h0 h1) hdg ?_
  cases hr : f i.toNatClampNeg with
  | none => exact k1
  | some r =>
    obtain ⟨h, g, hw⟩ := hf _ r hr
    exact k2 r h g hw
/-- a State into an array of States -/
theorem t_qst4 {n k v : Nat} {i : Int32} (hx : p.tables.exec = Jvm.exec) (hb : c.code = cc) (hkb : kb D (tyc cs) s) (hH : HT D cs A T O X H) (hS : va_S A H0 H locs) (ha : T a = some (4, n, k)) (hno : a ∉ O) (hv : T v = some (16, 0, 0)) (hnv : v ∉ O) (h0 : 0 ≤ i.toInt) (h1 : i.toInt < n) (hdg : decode cc pc = .ok (.aastore, 1))
    (kk : ∀ (H1 : Heap) (locs1 : List Loc), HT D cs A T O X H1 → va_S A H0 H1 locs1 → W p l e R s m args below meth c H1 locs1 cells slots Q (F0 m (pc + 1) ls rest)) : W p l e R s m args below meth c H locs cells slots Q (F0 m pc ls (.ref v :: .int i :: .ref a :: rest)) := by
  obtain ⟨ws, hP, hD, h3, h4⟩ := hH
  obtain ⟨j, e0, hj, hs⟩ := h3 a _ ha hno
  obtain ⟨f, rfl, hf⟩ : ∃ f : Nat → Option Nat, e0 = .inl (cs.2.2.2.2.1, n, .inr (.inr (.inr (.inr f)))) ∧ ∀ j, j < n → ∃ a, f j = some a ∧ T a = some (16, 0, 0) := hs
  obtain ⟨jv, ev, hjv, hsv⟩ := h3 v _ hv hnv
  obtain ⟨vs, rfl, -⟩ : ∃ fs : List Value, ev = .inr (6, fs) ∧ ob T 6 0 0 fs := hsv
  refine va_astq (r := (RX6, TX6, 6)) hx hb hkb.1 hP hD hS (X.length + j) 4 (X.length + jv) 6 (ap_r hj) rfl (ap_r hjv) rfl (in_t h0 h1) hdg (fun H1 locs1 hP hD hS => ?_)
  refine kk H1 locs1 (HT.put hj ha h3 h4 (show sp cs T (4, n, k) _ from ⟨_, rfl, fun q hq => ?_⟩) hP hD) hS
  unfold va_up
  split
  · exact ⟨v, rfl, hv⟩
  · exact hf q hq
theorem t_qst5 {n k v hh gg : Nat} {i : Int32} (hx : p.tables.exec = Jvm.exec) (hb : c.code = cc) (hkb : kb D (tyc cs) s) (hH : HT D cs A T O X H) (hS : va_S A H0 H locs) (ha : T a = some (5, n, k)) (hno : a ∉ O) (hv : isW T v hh gg) (hnv : v ∉ O) (h0 : 0 ≤ i.toInt) (h1 : i.toInt < n) (hdg : decode cc pc = .ok (.aastore, 1))
    (kk : ∀ (H1 : Heap) (locs1 : List Loc), HT D cs A T O X H1 → va_S A H0 H1 locs1 → W p l e R s m args below meth c H1 locs1 cells slots Q (F0 m (pc + 1) ls rest)) : W p l e R s m args below meth c H locs cells slots Q (F0 m pc ls (.ref v :: .int i :: .ref a :: rest)) := by
  obtain ⟨ws, hP, hD, h3, h4⟩ := hH
  obtain ⟨j, e0, hj, hs⟩ := h3 a _ ha hno
  obtain ⟨f, rfl, hf⟩ : ∃ f : Nat → Option Nat, e0 = .inl (cs.2.2.2.2.2.1, n, .inr (.inr (.inr (.inr f)))) ∧ ∀ j a, f j = some a → ∃ h g, isW T a h g := hs
  obtain ⟨jv, ev, hjv, hsv⟩ := h3 v _ hv.1 hnv
  obtain ⟨vs, rfl, -⟩ : ∃ fs : List Value, ev = .inr (9, fs) ∧ ob T 9 hh gg fs := hsv
  refine va_astq (r := (RX9, TX9, 14)) hx hb hkb.1 hP hD hS (X.length + j) 5 (X.length + jv) 9 (ap_r hj) rfl (ap_r hjv) rfl (in_t h0 h1) hdg (fun H1 locs1 hP hD hS => ?_)
  refine kk H1 locs1 (HT.put hj ha h3 h4 (show sp cs T (5, n, k) _ from ⟨_, rfl, fun q b hq => ?_⟩) hP hD) hS
  unfold va_up at hq
  split at hq
  · cases hq; exact ⟨hh, gg, hv⟩
  · exact hf q b hq
/-- System.arraycopy of ints -/
theorem t_copy {own : String} {index n0 n1 k : Nat} {a0 : Nat} {sp' dp n : Int32} (hx : p.tables.exec = Jvm.exec) (hb : c.code = cc) (hml : c.maxLocals = ls.size) (hown : s.vm.findClass own = some m.cls) (hlink : (Cond.methodLink own index arraycopyName).before args s = true) (hnat : (Cond.native arraycopyName).before args s = true) (hstat : (Cond.static arraycopyName).before args s = true) (hini : (Cond.initialized "java/lang/System").before args s = true) (hkb : kb D (tyc cs) s) (hH : HT D cs A T O X H) (hS : va_S A H0 H locs) (ha0 : T a0 = some (1, n0, k)) (hno0 : a0 ∉ O) (ha : T a = some (1, n1, k)) (hno : a ∉ O) (h1 : 0 ≤ sp'.toInt) (h2 : 0 ≤ dp.toInt) (h3 : 0 ≤ n.toInt) (h4 : sp'.toInt + n.toInt ≤ n0) (h5 : dp.toInt + n.toInt ≤ n1)
    (hframes : 1 ≤ R.frames) (hlocals : (rest.map fun v => v.category).sum + (nativeFrameWords "java/lang/System" "arraycopy" 5 + 11) ≤ R.locals) (hdg : decode cc pc = .ok (.invokestatic index, 3))
    (kk : ∀ (H1 : Heap) (locs1 : List Loc), HT D cs A T O X H1 → va_S A H0 H1 locs1 → W p l e R s m args below meth c H1 locs1 cells slots Q (F0 m (pc + 3) ls rest)) : W p l e R s m args below meth c H locs cells slots Q (F0 m pc ls (.int n :: .int dp :: .ref a :: .int sp' :: .ref a0 :: rest)) := by
  obtain ⟨ws, hP, hD, h3', h4'⟩ := hH
  obtain ⟨j0, e0, hj0, hs0⟩ := h3' a0 _ ha0 hno0
  obtain ⟨f, rfl, hf⟩ : ∃ f : Nat → Int32, e0 = .inl (cs.2.1, n0, .inl f) ∧ ∀ j, cp k (f j) := hs0
  obtain ⟨j, e1, hj, hs⟩ := h3' a _ ha hno
  obtain ⟨g, rfl, hg⟩ : ∃ f : Nat → Int32, e1 = .inl (cs.2.1, n1, .inl f) ∧ ∀ j, cp k (f j) := hs
  have z : (0 : Int32).toInt = 0 := by decide
  have ng : ∀ w : Int32, 0 ≤ w.toInt → ¬ w < 0 := fun w hw q => by
    have := Int32.lt_iff_toInt_lt.mp q
    omega
  have c1 : sp'.toNatClampNeg = sp'.toInt.toNat := rfl
  have c2 : dp.toNatClampNeg = dp.toInt.toNat := rfl
  have c3 : n.toNatClampNeg = n.toInt.toNat := rfl
  refine va_copyi (f := f) (g := g) hx hb hml hown hlink hnat hstat hini hkb.1 hP hD hS (X.length + j0) (X.length + j) 1 1 (ap_r hj0) (ap_r hj) rfl rfl rfl (ng _ h1) (ng _ h2) (ng _ h3) (by omega) (by omega) (fun _ _ => rfl) hframes hlocals hdg (fun H1 locs1 hP hD hS => ?_)
  refine kk H1 locs1 (HT.put hj ha h3' h4' (show sp cs T (1, n1, k) _ from ⟨_, rfl, fun q => ?_⟩) hP hD) hS
  unfold va_cpy
  split
  · exact hf _
  · exact hg q
/-- lengths -/
theorem t_len1 {n k : Nat} (hx : p.tables.exec = Jvm.exec) (hb : c.code = cc) (hkb : kb D (tyc cs) s) (hH : HT D cs A T O X H) (ha : T a = some (1, n, k)) (hno : a ∉ O) (hdg : decode cc pc = .ok (.arraylength, 1))
    (kk : W p l e R s m args below meth c H locs cells slots Q (F0 m (pc + 1) ls (.int (nI n) :: rest))) : W p l e R s m args below meth c H locs cells slots Q (F0 m pc ls (.ref a :: rest)) := by
  obtain ⟨ws, hP, hD, h3, h4⟩ := hH
  obtain ⟨j, e0, hj, hs⟩ := h3 a _ ha hno
  obtain ⟨f, rfl, hf⟩ : ∃ f : Nat → Int32, e0 = .inl (cs.2.1, n, .inl f) ∧ ∀ j, cp k (f j) := hs
  exact va_alen (v := nI n) hx hb hkb.1 hP (X.length + j) 1 (ap_r hj) rfl rfl hdg kk
theorem t_len0 {n k : Nat} (hx : p.tables.exec = Jvm.exec) (hb : c.code = cc) (hkb : kb D (tyc cs) s) (hH : HT D cs A T O X H) (ha : T a = some (0, n, k)) (hno : a ∉ O) (hdg : decode cc pc = .ok (.arraylength, 1))
    (kk : W p l e R s m args below meth c H locs cells slots Q (F0 m (pc + 1) ls (.int (nI n) :: rest))) : W p l e R s m args below meth c H locs cells slots Q (F0 m pc ls (.ref a :: rest)) := by
  obtain ⟨ws, hP, hD, h3, h4⟩ := hH
  obtain ⟨j, e0, hj, hs⟩ := h3 a _ ha hno
  obtain ⟨f, rfl⟩ : ∃ f : Nat → Int32, e0 = .inl (cs.1, n, .inl f) := hs
  exact va_alen (v := nI n) hx hb hkb.1 hP (X.length + j) 0 (ap_r hj) rfl rfl hdg kk
theorem t_len2 {n k : Nat} (hx : p.tables.exec = Jvm.exec) (hb : c.code = cc) (hkb : kb D (tyc cs) s) (hH : HT D cs A T O X H) (ha : T a = some (2, n, k)) (hno : a ∉ O) (hdg : decode cc pc = .ok (.arraylength, 1))
    (kk : W p l e R s m args below meth c H locs cells slots Q (F0 m (pc + 1) ls (.int (nI n) :: rest))) : W p l e R s m args below meth c H locs cells slots Q (F0 m pc ls (.ref a :: rest)) := by
  obtain ⟨ws, hP, hD, h3, h4⟩ := hH
  obtain ⟨j, e0, hj, hs⟩ := h3 a _ ha hno
  obtain ⟨f, rfl⟩ : ∃ f : Nat → Int64, e0 = .inl (cs.2.2.1, n, .inr (.inl f)) := hs
  exact va_alen (v := nI n) hx hb hkb.1 hP (X.length + j) 2 (ap_r hj) rfl rfl hdg kk
end ThRows2
/-! the String constants: where they are told, their lengths and bytes -/
abbrev KF : Type := (Nat → Nat) × (Nat → Nat)
def sts : List (String × Nat × String × Nat) := [("FootholdWall$Tokens", 53, ";:+-*()[]=<>", 0), ("FootholdWall$Reader", 81, "hold", 1), ("FootholdWall$Reader", 141, "ice", 2), ("FootholdWall$Reader", 142, "start", 3), ("FootholdWall$Reader", 147, "top", 4), ("FootholdWall$Reader", 152, "wide", 5), ("FootholdWall$Reader", 90, "guide", 6), ("FootholdWall$Reader", 160, "leg", 7), ("FootholdWall$Reader", 170, "weight", 8), ("FootholdWall$Reader", 95, "step", 9), ("FootholdWall$LawReader", 65, "not", 10), ("FootholdWall$LawReader", 99, "dx", 11), ("FootholdWall$LawReader", 101, "up", 12), ("FootholdWall$LawReader", 103, "far", 13), ("FootholdWall$LawReader", 105, "leg", 7), ("FootholdWall$LawReader", 107, "weight", 8), ("FootholdWall$LawReader", 109, "wide", 5), ("FootholdWall$LawReader", 111, "day", 14), ("FootholdWall$LawReader", 63, "and", 15), ("FootholdWall$LawReader", 41, "or", 16), ("FootholdWall$Reader", 103, "used", 17), ("FootholdWall$Reader", 178, "by", 18), ("FootholdWall$Reader", 108, "broken", 19), ("FootholdWall$Reader", 113, "day", 14), ("FootholdWallModel", 88, " hold guide leg weight step used by broken day start top wide ice or and not dx up far ", 20), ("FootholdWallModel", 126, ";:+-*()[]=<>", 0)]
def slen : List Nat := [12, 4, 3, 5, 3, 4, 5, 3, 6, 4, 3, 2, 2, 3, 3, 3, 2, 4, 2, 6, 87]
def sbyt : List (List Int32) := [[59, 58, 43, 45, 42, 40, 41, 91, 93, 61, 60, 62], [104, 111, 108, 100], [105, 99, 101], [115, 116, 97, 114, 116], [116, 111, 112], [119, 105, 100, 101], [103, 117, 105, 100, 101], [108, 101, 103], [119, 101, 105, 103, 104, 116], [115, 116, 101, 112], [110, 111, 116], [100, 120], [117, 112], [102, 97, 114], [100, 97, 121], [97, 110, 100], [111, 114], [117, 115, 101, 100], [98, 121], [98, 114, 111, 107, 101, 110], [32, 104, 111, 108, 100, 32, 103, 117, 105, 100, 101, 32, 108, 101, 103, 32, 119, 101, 105, 103, 104, 116, 32, 115, 116, 101, 112, 32, 117, 115, 101, 100, 32, 98, 121, 32, 98, 114, 111, 107, 101, 110, 32, 100, 97, 121, 32, 115, 116, 97, 114, 116, 32, 116, 111, 112, 32, 119, 105, 100, 101, 32, 105, 99, 101, 32, 111, 114, 32, 97, 110, 100, 32, 110, 111, 116, 32, 100, 120, 32, 117, 112, 32, 102, 97, 114, 32]]
theorem slen_b (i : Nat) : slen.getD i 0 ≤ 88 := by
  by_cases h : i < 21
  · have : ∀ j, j < 21 → slen.getD j 0 ≤ 88 := by decide
    exact this i h
  · rw [List.getD_eq_getElem?_getD, List.getElem?_eq_none (by show 21 ≤ i; omega)]
    decide
def kS (kf : KF) (U : State) : Prop := ∀ q ∈ sts, vk_R q.1 q.2.1 q.2.2.1 (kf.1 q.2.2.2) U
theorem kS.warm {kf : KF} {s U : State} (hW : s.WarmedH U.vm) (h : kS kf s) : kS kf U := fun q hq => vk_R.warm hW (h q hq)
theorem kS.same {kf : KF} {s U : State} (hv : U.vm = s.vm) (h : kS kf s) : kS kf U := fun q hq => vk_R.same hv (h q hq)
def kE (kf : KF) (A : Nat → Prop) (U : State) (H : Heap) : Prop := vk_S 21 slen sbyt kf.1 kf.2 A U H ∧ va_Z "java/lang/String" "COMPACT_STRINGS" "Z" (.int 1) A U H ∧ ∃ fo : Option Nat, va_Z "jdk/internal/util/Preconditions" "SIOOBE_FORMATTER" "Ljava/util/function/BiFunction;" (va_rf fo) A U H
theorem kE.moved {kf : KF} {A : Nat → Prop} {u U : State} {H : Heap} (hvm : u.vm.Alike U.vm) (h : kE kf A u H) : kE kf A U H := by
  obtain ⟨h1, h2, fo, h3⟩ := h
  exact ⟨vk_S.moved hvm h1, va_Z.moved hvm h2, fo, va_Z.moved hvm h3⟩
theorem kE.kept {kf : KF} {A : Nat → Prop} {U : State} {H H1 : Heap} (h : kE kf A U H) (hq : ∀ a : Nat, a < H.size → ¬ A a → H1[a]? = H[a]?) : kE kf A U H1 := by
  obtain ⟨h1, h2, fo, h3⟩ := h
  exact ⟨h1.kept hq, h2.kept hq, fo, h3.kept hq⟩
theorem kE.narrow {kf : KF} {A B : Nat → Prop} {U : State} {H : Heap} (h : kE kf A U H) (hAB : ∀ q, B q → A q) : kE kf B U H := by
  obtain ⟨h1, h2, fo, h3⟩ := h
  exact ⟨h1.narrow hAB, h2.narrow hAB, fo, h3.narrow hAB⟩
/-! contracts over the typed heap -/
def prT (D : va_G) (cs : CS) (kf : KF) (T : TF) (O : List Nat) (X : va_W) (sz : Nat) (U : State) : Prop := U.heap.size = sz ∧ HT D cs (fun _ => True) T O X U.heap ∧ kb D (tyc cs) U ∧ (∀ o ∈ O, ∃ (k : Nat) (e : va_E), X[k]? = some (o, e)) ∧ kS kf U ∧ kE kf (AT T O X sz) U U.heap
theorem prT.blind {D : va_G} {cs : CS} {kf : KF} {T : TF} {O : List Nat} {X : va_W} {sz : Nat} {as : List Value} : FrameBlind (va_Pc as (prT D cs kf T O X sz)) := fun a U g mk q => by
  obtain ⟨q0, q1, qP, qK, qO, qS, qE⟩ := q
  exact ⟨q0, q1, qP, kb.same rfl qK, qO, kS.same rfl qS, kE.moved (u := U) (U := U.calling g mk a) (Vm.Alike.refl U.vm) qE⟩
abbrev TX : Type := TF × List Nat × va_W
def bT (D : va_G) (cs : CS) (A : Nat → Prop) (u : TX) (t : State) : Prop := HT D cs A u.1 u.2.1 u.2.2 t.heap
def bTr (D : va_G) (cs : CS) (A : Nat → Prop) (u : TX × Nat) (a : Nat) (t : State) : Prop := a = u.2 ∧ HT D cs A u.1.1 u.1.2.1 u.1.2.2 t.heap
abbrev Ti (D : va_G) (cs : CS) (post : Int32 → TX → Prop) (A : Nat → Prop) : Array Value → State → Outcome → State → Prop := va_Qi post (bT D cs A) A
abbrev Tl (D : va_G) (cs : CS) (post : Int64 → TX → Prop) (A : Nat → Prop) : Array Value → State → Outcome → State → Prop := va_Ql post (bT D cs A) A
abbrev Tv (D : va_G) (cs : CS) (post : TX → Prop) (A : Nat → Prop) : Array Value → State → Outcome → State → Prop := va_Qv post (bT D cs A) A
abbrev Tr (D : va_G) (cs : CS) (post : TX × Nat → Prop) (A : Nat → Prop) : Array Value → State → Outcome → State → Prop := va_Qr post (bTr D cs A) A
def TK (l : Launch) (D : va_G) (cs : CS) (kf : KF) (y : MethodName) (b : ByteArray) (n : Nat) (r : Option FieldType) (rm : Room) (as : List Value) (T : TF) (O : List Nat) (X : va_W) (Q : (Nat → Prop) → Array Value → State → Outcome → State → Prop) : Prop :=
  ∀ sz : Nat, Met l y (wl y b n r) rm (va_Pc as (prT D cs kf T O X sz)) (Q (AT T O X sz)) rm.cells rm.slots (AT T O X sz)
theorem tk_of {l : Launch} {D : va_G} {cs : CS} {kf : KF} {y : MethodName} {b : ByteArray} {n : Nat} {r : Option FieldType} {rm : Room} {as : List Value} {T : TF} {O : List Nat} {X : va_W} {Q : (Nat → Prop) → Array Value → State → Outcome → State → Prop} (hy : plainName y.cls = true) (hlen : (lg_sl as).length ≤ n)
    (body : ∀ (p : Program) (e : Env) (s : State) (m : MethodId) (below : List Frame) (meth : Method) (c : Code) (ls : Array Slot) (A : Nat → Prop) (H : Heap) (locs : List Loc), p.tables.exec = Jvm.exec → c.code = b → meth.sig.returnType = r → c.maxLocals = n → s.vm.findClass y.cls = some m.cls → (∀ w ∈ gw, w.before as.toArray s = true) → meth.locks = false → meth.name = y.name → kb D (tyc cs) s → HT D cs A T O X H → va_S A s.heap H locs → (∀ q : Nat, s.heap.size ≤ q → A q) → (∀ o ∈ O, ∃ (k : Nat) (e : va_E), X[k]? = some (o, e)) → kS kf s → kE kf A s s.heap → lv_has ls n (lv_args 0 as) →
      W p l e rm s m as.toArray below meth c H locs 0 0 (MQ below (Q A) as.toArray s rm.cells rm.slots A) (F0 m 0 ls [])) : TK l D cs kf y b n r rm as T O X Q := by
  intro sz
  refine Met.ofW (cc := b) (maxL := n) (ret := r) hy rfl ?_
  intro p e s m args below meth c s₁ B hml hv
  obtain ⟨rfl, hsz, hH, hK, hOX, hks, hE⟩ := hv
  have hts := atoms_spec (ws := wl y b n r) B.pre
  subst hsz
  rw [lg_entry_eq]
  exact body p e s m below meth c _ _ _ [] B.exec B.bytes B.returns hml (findClass_of_methodNamed B.named) (fun w hw => hts w (List.mem_cons_of_mem _ hw)) B.notSynchronized (name_of_methodNamed B.named B.method).1 hK (hH.self hOX) va_S.rf (fun q h => Or.inr (Or.inr h)) hOX hks hE (lv_entry as hlen)
section ThRows3
variable {p : Program} {l : Launch} {e : Env} {R : Room} {s : State} {m : MethodId} {args : Array Value} {below : List Frame} {meth : Method} {c : Code} {H : Heap} {locs : List Loc} {cells slots : Nat} {Q : State → Prop}
variable {cc : ByteArray} {pc : Nat} {ls : Array Slot} {rest : List Value} {D : va_G} {A : Nat → Prop} {a : Nat} {cs : CS} {T : TF} {O : List Nat} {X : va_W} {H0 : Heap}
theorem HT.recv {ci p0 q0 : Nat} {b : Nat} {C : String} {F : u_T} {N : Nat} (hkb : kb D (tyc cs) s) (hH : HT D cs A T O X H) (hb : T b = some (ci + 10, p0, q0)) (hno : b ∉ O) (hc : cls[ci]? = some (C, F, N)) : ∃ cell : Cell, H[b]? = some cell ∧ cell.vm.isStatics = false ∧ s.vm.findClass C = some cell.cls := by
  obtain ⟨ws, hP, hD, h3, h4⟩ := hH
  obtain ⟨j, e0, hj, hs⟩ := h3 b _ hb hno
  obtain ⟨fs, rfl, ho⟩ : ∃ fs : List Value, e0 = .inr (ci, fs) ∧ ob T ci p0 q0 fs := hs
  exact va_recv hkb.1 hP hc (ap_r hj)
theorem tr_V {kf : KF} {own C : String} {idx n n' nL : Nat} {y : MethodName} {yb : ByteArray} {r : Option FieldType} {rm : Room} {b : Addr} {As st : List Value} {Qm : (Nat → Prop) → Array Value → State → Outcome → State → Prop}
    (hx : p.tables.exec = Jvm.exec) (hb : c.code = cc) (hml : c.maxLocals = nL) (hown : s.vm.findClass own = some m.cls) (hts : ∀ w ∈ gw, w.before args s = true) (hkb : kb D (tyc cs) s) (hH : HT D cs A T O X H) (hOX : ∀ o ∈ O, ∃ (k : Nat) (e : va_E), X[k]? = some (o, e)) (hks : kS kf s) (hE : kE kf A s s.heap) (hS : va_S A s.heap H locs) (hA : ∀ q, s.heap.size ≤ q → A q)
    (hM : TK l D cs kf y yb n' r rm (.ref b :: As) T O X Qm) (h1 : Cond.methodLink own idx y ∈ gw) (h2 : Cond.instanceMethod y ∈ gw) (h3 : Cond.selects C y y ∈ gw) (h4 : Cond.initialized C ∈ gw) (h5 : Cond.code y yb n' r ∈ gw)
    (hd : y.cls = C ∧ y.cls ≠ "java/lang/invoke/MethodHandle" ∧ y.cls ≠ "java/lang/invoke/VarHandle" ∧ (parseMethodDescriptor y.desc).map (fun d => d.parameters.length) = some n) (hR : rm.frames + 1 ≤ R.frames ∧ 8 + (n' + 11) + rm.locals ≤ R.locals)
    (he : ∃ cell : Cell, H[b]? = some cell ∧ cell.vm.isStatics = false ∧ s.vm.findClass C = some cell.cls) (hn : As.length = n) (hst : st = As.reverse ++ .ref b :: rest) (hsz : ls.size = nL) (hW : (rest.map fun v => v.category).sum ≤ 8) (hdg : decode cc pc = .ok (.invokevirtual idx, 3)) (hf : cells + rm.cells ≤ R.cells ∧ slots + rm.slots ≤ R.slots) :
    va_Run p l e R s m args below meth c H locs cells slots rm.cells rm.slots (F0 m pc ls st) rest (Qm (AT T O X H.size) (Value.ref b :: As).toArray) (AT T O X H.size) := by
  subst hst
  have hG : GoodIn gw (wsV own idx C y (wl y yb n' r)) := gi_app (fun w hw => by
    simp only [List.mem_cons, List.not_mem_nil, or_false] at hw
    rcases hw with rfl | rfl | rfl | rfl
    · exact h1
    · exact h2
    · exact h3
    · exact h4) (gi_M h5)
  exact va_runV (As := As) (rest := rest) ⟨hx, hb, hml, hown, hts⟩ (hM H.size) (cwV n hts hG rfl rfl rfl hd hR) ⟨prT.blind, he, fun U hU hW => ⟨rfl, by rw [hU], by rw [hU]; exact hH.weaken (fun _ _ => trivial), kb.warm hW hkb, hOX, kS.warm hW hks, by rw [hU]; exact (kE.moved hW.alike (hE.kept hS.2.1)).narrow (hH.in hS hA)⟩⟩ rfl hn hsz rfl (lv_room hW) hdg hf
theorem tr_S {kf : KF} {own : String} {idx n n' nL : Nat} {y : MethodName} {yb : ByteArray} {r : Option FieldType} {rm : Room} {As st : List Value} {Qm : (Nat → Prop) → Array Value → State → Outcome → State → Prop}
    (hx : p.tables.exec = Jvm.exec) (hb : c.code = cc) (hml : c.maxLocals = nL) (hown : s.vm.findClass own = some m.cls) (hts : ∀ w ∈ gw, w.before args s = true) (hkb : kb D (tyc cs) s) (hH : HT D cs A T O X H) (hOX : ∀ o ∈ O, ∃ (k : Nat) (e : va_E), X[k]? = some (o, e)) (hks : kS kf s) (hE : kE kf A s s.heap) (hS : va_S A s.heap H locs) (hA : ∀ q, s.heap.size ≤ q → A q)
    (hM : TK l D cs kf y yb n' r rm As T O X Qm) (h1 : Cond.methodLink own idx y ∈ gw) (h2 : Cond.static y ∈ gw) (h4 : Cond.initialized y.cls ∈ gw) (h5 : Cond.code y yb n' r ∈ gw)
    (hd : y.cls ≠ "java/lang/invoke/MethodHandle" ∧ y.cls ≠ "java/lang/invoke/VarHandle" ∧ (parseMethodDescriptor y.desc).map (fun d => d.parameters.length) = some n) (hR : rm.frames + 1 ≤ R.frames ∧ 8 + (n' + 11) + rm.locals ≤ R.locals)
    (hn : As.length = n) (hst : st = As.reverse ++ rest) (hsz : ls.size = nL) (hW : (rest.map fun v => v.category).sum ≤ 8) (hdg : decode cc pc = .ok (.invokestatic idx, 3)) (hf : cells + rm.cells ≤ R.cells ∧ slots + rm.slots ≤ R.slots) :
    va_Run p l e R s m args below meth c H locs cells slots rm.cells rm.slots (F0 m pc ls st) rest (Qm (AT T O X H.size) As.toArray) (AT T O X H.size) := by
  subst hst
  exact va_runS (As := As) (rest := rest) ⟨hx, hb, hml, hown, hts⟩ (hM H.size) ⟨callB_of n hts (gi_M h5) rfl rfl rfl (hts _ h4) (hts _ h1) hd hR, hts _ h2⟩ ⟨prT.blind, fun U hU hW => ⟨rfl, by rw [hU], by rw [hU]; exact hH.weaken (fun _ _ => trivial), kb.warm hW hkb, hOX, kS.warm hW hks, by rw [hU]; exact (kE.moved hW.alike (hE.kept hS.2.1)).narrow (hH.in hS hA)⟩⟩ rfl hn hsz rfl (lv_room hW) hdg hf
/-- behind a call -/
theorem tk_i {post : Int32 → TX → Prop} {mc ms : Nat} {st : List Value} {av : Array Value} (hH : HT D cs A T O X H) (hS : va_S A H0 H locs) (hA : ∀ q, H0.size ≤ q → A q)
    (hr : va_Run p l e R s m args below meth c H locs cells slots mc ms (F0 m pc ls st) rest (Ti D cs post (AT T O X H.size) av) (AT T O X H.size))
    (kk : ∀ (r : Int32) (u : TX) (H1 : Heap) (locs1 : List Loc), post r u → HT D cs A u.1 u.2.1 u.2.2 H1 → va_S A H0 H1 locs1 → W p l e R s m args below meth c H1 locs1 (cells + mc) (slots + ms) Q (F0 m (pc + 3) ls (.int r :: rest))) : W p l e R s m args below meth c H locs cells slots Q (F0 m pc ls st) := by
  have hFc := hH.in hS hA
  refine va_calli hr hS (fun q _ h => hFc q h) hFc (fun r u t H1 locs1 ht hvm hw hB hz1 hk1 hS => ?_)
  have hB : HT D cs (AT T O X H.size) u.1 u.2.1 u.2.2 t.heap := hB
  rw [ht] at hB
  exact kk r u H1 locs1 hw (hB.weaken hFc) hS
theorem tk_l {post : Int64 → TX → Prop} {mc ms : Nat} {st : List Value} {av : Array Value} (hH : HT D cs A T O X H) (hS : va_S A H0 H locs) (hA : ∀ q, H0.size ≤ q → A q)
    (hr : va_Run p l e R s m args below meth c H locs cells slots mc ms (F0 m pc ls st) rest (Tl D cs post (AT T O X H.size) av) (AT T O X H.size))
    (kk : ∀ (r : Int64) (u : TX) (H1 : Heap) (locs1 : List Loc), post r u → HT D cs A u.1 u.2.1 u.2.2 H1 → va_S A H0 H1 locs1 → W p l e R s m args below meth c H1 locs1 (cells + mc) (slots + ms) Q (F0 m (pc + 3) ls (.long r :: rest))) : W p l e R s m args below meth c H locs cells slots Q (F0 m pc ls st) := by
  have hFc := hH.in hS hA
  refine va_calll hr hS (fun q _ h => hFc q h) hFc (fun r u t H1 locs1 ht hvm hw hB hz1 hk1 hS => ?_)
  have hB : HT D cs (AT T O X H.size) u.1 u.2.1 u.2.2 t.heap := hB
  rw [ht] at hB
  exact kk r u H1 locs1 hw (hB.weaken hFc) hS
theorem tk_v {post : TX → Prop} {mc ms : Nat} {st : List Value} {av : Array Value} (hH : HT D cs A T O X H) (hS : va_S A H0 H locs) (hA : ∀ q, H0.size ≤ q → A q)
    (hr : va_Run p l e R s m args below meth c H locs cells slots mc ms (F0 m pc ls st) rest (Tv D cs post (AT T O X H.size) av) (AT T O X H.size))
    (kk : ∀ (u : TX) (H1 : Heap) (locs1 : List Loc), post u → HT D cs A u.1 u.2.1 u.2.2 H1 → va_S A H0 H1 locs1 → W p l e R s m args below meth c H1 locs1 (cells + mc) (slots + ms) Q (F0 m (pc + 3) ls rest)) : W p l e R s m args below meth c H locs cells slots Q (F0 m pc ls st) := by
  have hFc := hH.in hS hA
  refine va_callv hr hS (fun q _ h => hFc q h) hFc (fun u t H1 locs1 ht hvm hw hB hz1 hk1 hS => ?_)
  have hB : HT D cs (AT T O X H.size) u.1 u.2.1 u.2.2 t.heap := hB
  rw [ht] at hB
  exact kk u H1 locs1 hw (hB.weaken hFc) hS
theorem tk_r {post : TX × Nat → Prop} {mc ms : Nat} {st : List Value} {av : Array Value} (hH : HT D cs A T O X H) (hS : va_S A H0 H locs) (hA : ∀ q, H0.size ≤ q → A q)
    (hr : va_Run p l e R s m args below meth c H locs cells slots mc ms (F0 m pc ls st) rest (Tr D cs post (AT T O X H.size) av) (AT T O X H.size))
    (kk : ∀ (ra : Nat) (u : TX) (H1 : Heap) (locs1 : List Loc), post (u, ra) → HT D cs A u.1 u.2.1 u.2.2 H1 → va_S A H0 H1 locs1 → W p l e R s m args below meth c H1 locs1 (cells + mc) (slots + ms) Q (F0 m (pc + 3) ls (.ref ra :: rest))) : W p l e R s m args below meth c H locs cells slots Q (F0 m pc ls st) := by
  have hFc := hH.in hS hA
  refine va_callr hr hS (fun q _ h => hFc q h) hFc (fun u ra t H1 locs1 ht hvm hw hB hz1 hk1 hS => ?_)
  obtain ⟨u, ra'⟩ := u
  obtain ⟨rfl, hB⟩ := hB
  have hB : HT D cs (AT T O X H.size) u.1 u.2.1 u.2.2 t.heap := hB
  rw [ht] at hB
  exact kk _ u H1 locs1 hw (hB.weaken hFc) hS
/-- the ends -/
theorem te_i {post : Int32 → TX → Prop} {v : Int32} (hx : p.tables.exec = Jvm.exec) (hb : c.code = cc) (hr : meth.sig.returnType = some .int) (hlocks : meth.locks = false) (hH : HT D cs A T O X H) (hS : va_S A s.heap H locs) (hp : post v (T, O, X)) (hdg : decode cc pc = .ok (.ireturn, 1)) : W p l e R s m args below meth c H locs cells slots (MQ below (Ti D cs post A) args s cells slots A) (F0 m pc ls [.int v]) :=
  W.iret hx hb hr (fun t ht _ => ⟨⟨v, (T, O, X), rfl, hp, by show HT D cs A T O X t.heap; rw [ht]; exact hH⟩, hS.F ht⟩) hS.2.2 hdg hlocks
theorem te_z {post : Int32 → TX → Prop} {v : Int32} (hx : p.tables.exec = Jvm.exec) (hb : c.code = cc) (hr : meth.sig.returnType = some .boolean) (hlocks : meth.locks = false) (hn : narrow .boolean (.int v) = .int v) (hH : HT D cs A T O X H) (hS : va_S A s.heap H locs) (hp : post v (T, O, X)) (hdg : decode cc pc = .ok (.ireturn, 1)) : W p l e R s m args below meth c H locs cells slots (MQ below (Ti D cs post A) args s cells slots A) (F0 m pc ls [.int v]) :=
  W.zret hx hb hr hn (fun t ht _ => ⟨⟨v, (T, O, X), rfl, hp, by show HT D cs A T O X t.heap; rw [ht]; exact hH⟩, hS.F ht⟩) hS.2.2 hdg hlocks
theorem te_l {post : Int64 → TX → Prop} {v : Int64} (hx : p.tables.exec = Jvm.exec) (hb : c.code = cc) (hr : meth.sig.returnType = some .long) (hlocks : meth.locks = false) (hH : HT D cs A T O X H) (hS : va_S A s.heap H locs) (hp : post v (T, O, X)) (hdg : decode cc pc = .ok (.lreturn, 1)) : W p l e R s m args below meth c H locs cells slots (MQ below (Tl D cs post A) args s cells slots A) (F0 m pc ls [.long v]) :=
  W.lret hx hb hr (fun t ht _ => ⟨⟨v, (T, O, X), rfl, hp, by show HT D cs A T O X t.heap; rw [ht]; exact hH⟩, hS.F ht⟩) hS.2.2 hdg hlocks
theorem te_v {post : TX → Prop} (hx : p.tables.exec = Jvm.exec) (hb : c.code = cc) (hr : meth.sig.returnType = none) (hlocks : meth.locks = false) (hH : HT D cs A T O X H) (hS : va_S A s.heap H locs) (hp : post (T, O, X)) (hdg : decode cc pc = .ok (.return_, 1)) : W p l e R s m args below meth c H locs cells slots (MQ below (Tv D cs post A) args s cells slots A) (F0 m pc ls []) :=
  W.vret hx hb hr (fun t ht _ => ⟨⟨(T, O, X), rfl, hp, by show HT D cs A T O X t.heap; rw [ht]; exact hH⟩, hS.F ht⟩) hS.2.2 hdg hlocks
theorem te_r {post : TX × Nat → Prop} {v : Nat} {C : String} (hx : p.tables.exec = Jvm.exec) (hb : c.code = cc) (hr : meth.sig.returnType = some (.object C)) (hlocks : meth.locks = false) (hH : HT D cs A T O X H) (hS : va_S A s.heap H locs) (hp : post ((T, O, X), v)) (hdg : decode cc pc = .ok (.areturn, 1)) : W p l e R s m args below meth c H locs cells slots (MQ below (Tr D cs post A) args s cells slots A) (F0 m pc ls [.ref v]) :=
  W.aret hx hb hr (Or.inl ⟨C, rfl⟩) (Or.inr ⟨v, rfl⟩) (fun t ht _ => ⟨⟨((T, O, X), v), v, rfl, hp, rfl, by show HT D cs A T O X t.heap; rw [ht]; exact hH⟩, hS.F ht⟩) hS.2.2 hdg hlocks
end ThRows3
/-! rows over a cell that is taken out (the first of the exact ones) -/
section ThRows4
variable {p : Program} {l : Launch} {e : Env} {R : Room} {s : State} {m : MethodId} {args : Array Value} {below : List Frame} {meth : Method} {c : Code} {H : Heap} {locs : List Loc} {cells slots : Nat} {Q : State → Prop}
variable {cc : ByteArray} {pc : Nat} {ls : Array Slot} {rest : List Value} {D : va_G} {A : Nat → Prop} {a : Nat} {cs : CS} {T : TF} {O : List Nat} {X : va_W} {H0 : Heap}
theorem ox_c {O : List Nat} {X : va_W} {a : Nat} {e0 : va_E} (h : ∀ o ∈ O, ∃ (k : Nat) (e : va_E), X[k]? = some (o, e)) : ∀ o ∈ a :: O, ∃ (k : Nat) (e : va_E), ((a, e0) :: X)[k]? = some (o, e) := fun o ho => by
  rcases List.mem_cons.mp ho with rfl | ho
  · exact ⟨0, e0, rfl⟩
  · obtain ⟨k, e1, h1⟩ := h o ho
    exact ⟨k + 1, e1, h1⟩
theorem x_get {own ref C : String} {F : u_T} {N ci index : Nat} {fs : List Value} {v : Value} (hx : p.tables.exec = Jvm.exec) (hb : c.code = cc) (hts : ∀ w ∈ gw, w.before args s = true) (hin : ∀ w ∈ u_ws C F N, w ∈ gw) (hown : s.vm.findClass own = some m.cls) (hkb : kb D (tyc cs) s) (hH : HT D cs A T O ((a, .inr (ci, fs)) :: X) H) (hc : cls[ci]? = some (C, F, N)) (k : Nat) (hk : k < N) (hv : fs[k]? = some v) (hlink : Cond.fieldLink own index ref (F k).2.1 (F k).2.2.1 ∈ gw) (hsame : ∀ x, s.fieldFound? (F k).1 (F k).2.1 (F k).2.2.1 = some x → s.fieldFound? ref (F k).2.1 (F k).2.2.1 = some x) (hdg : decode cc pc = .ok (.getfield index, 3))
    (kk : W p l e R s m args below meth c H locs cells slots Q (F0 m (pc + 3) ls (v :: rest))) : W p l e R s m args below meth c H locs cells slots Q (F0 m pc ls (.ref a :: rest)) := by
  obtain ⟨ws, hP, hD, h3, h4⟩ := hH
  exact va_get (D := D) hx hb hts hin hown hkb.1 hP 0 rfl hc k hk (hts _ hlink) hsame hv hdg kk
theorem x_put {own ref C : String} {F : u_T} {N ci index : Nat} {fs : List Value} {v : Value} {ty : FieldType} (hx : p.tables.exec = Jvm.exec) (hb : c.code = cc) (hts : ∀ w ∈ gw, w.before args s = true) (hin : ∀ w ∈ u_ws C F N, w ∈ gw) (ty0 : Nat → FieldType) (hty : ∀ k, k < N → parseFieldDescriptor (F k).2.2.1 = some (ty0 k)) (hnm : ∀ a, a < N → ∀ b, b < N → a ≠ b → (F a).2.1 ≠ (F b).2.1) (hown : s.vm.findClass own = some m.cls) (hkb : kb D (tyc cs) s) (hH : HT D cs A T O ((a, .inr (ci, fs)) :: X) H) (hS : va_S A H0 H locs) (hc : cls[ci]? = some (C, F, N)) (k : Nat) (hk : k < N) (hlink : Cond.fieldLink own index ref (F k).2.1 (F k).2.2.1 ∈ gw) (hsame : ∀ x, s.fieldFound? (F k).1 (F k).2.1 (F k).2.2.1 = some x → s.fieldFound? ref (F k).2.1 (F k).2.2.1 = some x) (hfin : (F k).2.2.2 = false) (hd : parseFieldDescriptor (F k).2.2.1 = some ty) (hn : narrow ty v = v) (hfit : fits ty v = true) (hl : k < fs.length) (hdg : decode cc pc = .ok (.putfield index, 3))
    (kk : ∀ (H1 : Heap) (locs1 : List Loc), HT D cs A T O ((a, .inr (ci, fs.set k v)) :: X) H1 → va_S A H0 H1 locs1 → W p l e R s m args below meth c H1 locs1 cells slots Q (F0 m (pc + 3) ls rest)) : W p l e R s m args below meth c H locs cells slots Q (F0 m pc ls (v :: .ref a :: rest)) := by
  obtain ⟨ws, hP, hD, h3, h4⟩ := hH
  exact va_put (D := D) hx hb hts hin ty0 hty hnm hown hkb.1 hP hD hS 0 rfl hc k hk (hts _ hlink) hsame hfin hd hn hfit hl hdg (fun H1 locs1 hP hD hS => kk H1 locs1 ⟨ws, hP, hD, h3, h4⟩ hS)
theorem max_i {x y : Int32} {a b : Int} (hx : x.toInt = a) (hy : y.toInt = b) : (if x < y then y else x).toInt = max a b := by
  split
  · rename_i h
    have := Int32.lt_iff_toInt_lt.mp h
    omega
  · rename_i h
    have := Int.not_lt.mp (fun q => h (Int32.lt_iff_toInt_lt.mpr q))
    omega
theorem min_i {x y : Int32} {a b : Int} (hx : x.toInt = a) (hy : y.toInt = b) : (if y < x then y else x).toInt = min a b := by
  split
  · rename_i h
    have := Int32.lt_iff_toInt_lt.mp h
    omega
  · rename_i h
    have := Int.not_lt.mp (fun q => h (Int32.lt_iff_toInt_lt.mpr q))
    omega
end ThRows4
