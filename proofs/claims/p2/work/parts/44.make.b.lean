/-! what makes cells -/
def Tadd (T : TF) (r : Nat) (tg : Tg) : TF := fun q => if q = r then some tg else T q
theorem Tadd_r {T : TF} {r : Nat} {tg : Tg} : Tadd T r tg r = some tg := if_pos rfl
theorem Tadd_le {T : TF} {r : Nat} {tg : Tg} (h : T r = none) : Tle T (Tadd T r tg) := fun a t ha => by
  unfold Tadd
  rw [if_neg (fun z => by rw [z, h] at ha; cases ha)]
  exact ha
theorem Tle.rf {T : TF} : Tle T T := fun _ _ h => h
theorem Tle.tr {T T1 T2 : TF} (h1 : Tle T T1) (h2 : Tle T1 T2) : Tle T T2 := fun a t h => h2 a t (h1 a t h)
/-- more is told, of the kinds that are made alone -/
def Tgr (T T2 : TF) : Prop := Tle T T2 ∧ ∀ (b : Nat) (tg : Tg), T2 b = some tg → T b = some tg ∨ tg.1 = 1 ∨ tg.1 = 12 ∨ tg.1 = 19
theorem Tgr.rf {T : TF} : Tgr T T := ⟨Tle.rf, fun _ _ h => Or.inl h⟩
theorem Tgr.tr {T T1 T2 : TF} (h1 : Tgr T T1) (h2 : Tgr T1 T2) : Tgr T T2 := ⟨h1.1.tr h2.1, fun b tg h => (h2.2 b tg h).elim (h1.2 b tg) Or.inr⟩
theorem Tgr_add {T : TF} {r : Nat} {tg : Tg} (h : T r = none) (hk : tg.1 = 1 ∨ tg.1 = 12 ∨ tg.1 = 19) : Tgr T (Tadd T r tg) := ⟨Tadd_le h, fun b t hb => by
  unfold Tadd at hb
  split at hb
  · cases hb; exact Or.inr hk
  · exact Or.inl hb⟩
section ThMake
variable {p : Program} {l : Launch} {e : Env} {R : Room} {s : State} {m : MethodId} {args : Array Value} {below : List Frame} {meth : Method} {c : Code} {H : Heap} {locs : List Loc} {cells slots : Nat} {Q : State → Prop}
variable {cc : ByteArray} {pc : Nat} {ls : Array Slot} {rest : List Value} {D : va_G} {A : Nat → Prop} {a : Nat} {cs : CS} {T : TF} {O : List Nat} {X : va_W} {H0 : Heap}
/-- a new address isn't told yet -/
theorem new_none {ws : va_W} {q : Nat} {e0 : va_E} (hD : va_D A ((X ++ ws) ++ [(q, e0)])) (hOX : ∀ o ∈ O, ∃ (k : Nat) (e : va_E), X[k]? = some (o, e)) (h3 : ∀ (a : Nat) (tg : Tg), T a = some tg → a ∉ O → ∃ (k : Nat) (e : va_E), ws[k]? = some (a, e) ∧ sp cs T tg e) : T q = none := by
  have hq : ((X ++ ws) ++ [(q, e0)])[(X ++ ws).length]? = some (q, e0) := by rw [List.getElem?_append_right (Nat.le_refl _)]; simp
  cases ht : T q with
  | none => rfl
  | some tg =>
    exfalso
    by_cases ho : q ∈ O
    · obtain ⟨k, e1, hx⟩ := hOX q ho
      have hl : k < X.length := (List.getElem?_eq_some_iff.mp hx).1
      have h1 : ((X ++ ws) ++ [(q, e0)])[k]? = some (q, e1) := by rw [List.append_assoc, List.getElem?_append_left hl]; exact hx
      have := hD.1 _ _ _ _ h1 hq rfl
      rw [List.length_append] at this
      omega
    · obtain ⟨k, e1, hk, -⟩ := h3 q tg ht ho
      have hl : k < ws.length := (List.getElem?_eq_some_iff.mp hk).1
      have h1 : ((X ++ ws) ++ [(q, e0)])[X.length + k]? = some (q, e1) := by rw [List.getElem?_append_left (by rw [List.length_append]; omega)]; exact ap_r hk
      have := hD.1 _ _ _ _ h1 hq rfl
      rw [List.length_append] at this
      omega
/-- a new cell of a kind -/
theorem HT.push {ws : va_W} {H1 : Heap} {q : Nat} {e0 : va_E} {tg : Tg} (hP : va_P D cls ((X ++ ws) ++ [(q, e0)]) H1) (hD : va_D A ((X ++ ws) ++ [(q, e0)])) (hOX : ∀ o ∈ O, ∃ (k : Nat) (e : va_E), X[k]? = some (o, e)) (h3 : ∀ (a : Nat) (tg : Tg), T a = some tg → a ∉ O → ∃ (k : Nat) (e : va_E), ws[k]? = some (a, e) ∧ sp cs T tg e) (h4 : ∀ (k : Nat) (q : Nat × va_E), ws[k]? = some q → ∃ tg, T q.1 = some tg) (hs : sp cs (Tadd T q tg) tg e0) : HT D cs A (Tadd T q tg) O X H1 := by
  have hno := new_none hD hOX h3
  rw [List.append_assoc] at hP hD
  refine ⟨ws ++ [(q, e0)], hP, hD, fun b tb hb hO => ?_, fun k x hk => ?_⟩
  · by_cases hbq : b = q
    · subst hbq
      have : tb = tg := Option.some.inj (hb.symm.trans Tadd_r)
      subst this
      exact ⟨ws.length, e0, by rw [List.getElem?_append_right (Nat.le_refl _)]; simp, hs⟩
    · have hb2 : T b = some tb := by unfold Tadd at hb; rw [if_neg hbq] at hb; exact hb
      obtain ⟨k, eb, hk, hsb⟩ := h3 b tb hb2 hO
      exact ⟨k, eb, by rw [List.getElem?_append_left (List.getElem?_eq_some_iff.mp hk).1]; exact hk, sp_le (Tadd_le hno) hsb⟩
  · by_cases h1 : k < ws.length
    · rw [List.getElem?_append_left h1] at hk
      obtain ⟨t, ht⟩ := h4 _ _ hk
      exact ⟨t, Tadd_le hno _ _ ht⟩
    · rw [List.getElem?_append_right (by omega)] at hk
      have hz : k - ws.length < 1 := (List.getElem?_eq_some_iff.mp hk).1
      rw [show k - ws.length = 0 by omega] at hk
      cases hk
      exact ⟨tg, Tadd_r⟩
/-- newarray of ints, straight into its kind -/
theorem t_newI {n : Int32} {N' k : Nat} (hx : p.tables.exec = Jvm.exec) (hb : c.code = cc) (hts : ∀ w ∈ gw, w.before args s = true) (harr : Cond.arrayClass .int ∈ gw) (hkb : kb D (tyc cs) s) (hH : HT D cs A T O X H) (hOX : ∀ o ∈ O, ∃ (k : Nat) (e : va_E), X[k]? = some (o, e)) (hS : va_S A H0 H locs) (hA : ∀ q, H0.size ≤ q → A q) (hn : n.toInt = (N' : Int)) (hbd : N' ≤ 1000000) (hz : cp k 0) (hcells : cells + 1 ≤ R.cells) (hslots : slots + N' ≤ R.slots) (hdg : decode cc pc = .ok (.newarray .int, 2))
    (kk : ∀ (r : Nat) (T' : TF) (H1 : Heap), Tgr T T' → T' r = some (1, N', k) → HT D cs A T' O X H1 → va_S A H0 H1 locs → W p l e R s m args below meth c H1 locs (cells + 1) (slots + N') Q (F0 m (pc + 2) ls (.ref r :: rest))) : W p l e R s m args below meth c H locs cells slots Q (F0 m pc ls (.int n :: rest)) := by
  obtain ⟨ws, hP, hD, h3, h4⟩ := hH
  have z : (0 : Int32).toInt = 0 := by decide
  have c1 : n.toNatClampNeg = n.toInt.toNat := rfl
  refine n_a (atype := .int) (t := .int) (a0 := (N', .inl (fun _ => 0))) 1 rfl (fun _ _ h => h) hx hb (hts _ harr) rfl hkb.1 hP hD hS hA (fun _ => rfl) (fun q => by have := Int32.lt_iff_toInt_lt.mp q; omega) (by omega) (by show N' * 4 ≤ 536870912; omega) hcells hslots hdg (fun q H1 hP hD hS => ?_)
  exact kk q (Tadd T q (1, N', k)) H1 (Tgr_add (new_none hD hOX h3) (Or.inl rfl)) Tadd_r (HT.push hP hD hOX h3 h4 (show sp cs _ (1, N', k) _ from ⟨_, rfl, fun _ => hz⟩)) hS
/-- a new object stands first among the exact ones -/
theorem x_new {own C : String} {F : u_T} {N ci index : Nat} {fs : List Value} (hx : p.tables.exec = Jvm.exec) (hb : c.code = cc) (hts : ∀ w ∈ gw, w.before args s = true) (hin : ∀ w ∈ u_ws C F N, w ∈ gw) (ty : Nat → FieldType) (hty : ∀ k, k < N → parseFieldDescriptor (F k).2.2.1 = some (ty k)) (hown : s.vm.findClass own = some m.cls) (hcl : Cond.classLink own index C ∈ gw) (hinst : Cond.instantiable C N ∈ gw) (hini : Cond.initialized C ∈ gw) (hkb : kb D (tyc cs) s) (hH : HT D cs A T O X H) (hOX : ∀ o ∈ O, ∃ (k : Nat) (e : va_E), X[k]? = some (o, e)) (hS : va_S A H0 H locs) (hA : ∀ q, H0.size ≤ q → A q) (hc : cls[ci]? = some (C, F, N)) (hfs : ∀ j, j < N → defaultValue (ty j) = vp_V fs j) (hcells : cells + 1 ≤ R.cells) (hslots : slots + N ≤ R.slots) (hdg : decode cc pc = .ok (.new index, 3))
    (kk : ∀ (q : Nat) (H1 : Heap), T q = none → HT D cs A T O ((q, .inr (ci, fs)) :: X) H1 → va_S A H0 H1 locs → W p l e R s m args below meth c H1 locs (cells + 1) (slots + N) Q (F0 m (pc + 3) ls (.ref q :: rest))) : W p l e R s m args below meth c H locs cells slots Q (F0 m pc ls rest) := by
  obtain ⟨ws, hP, hD, h3, h4⟩ := hH
  refine va_new (D := D) hx hb hts hin ty hty hown (hts _ hcl) (hts _ hinst) (hts _ hini) hkb.1 hP hD hS hA hc hfs hcells hslots hdg (fun q H1 hP hD hS => ?_)
  have hno := new_none hD hOX h3
  have hg : ∀ (k : Nat) (x : Nat × va_E), (((q, Sum.inr (ci, fs)) :: X) ++ ws)[k]? = some x → ((X ++ ws) ++ [(q, Sum.inr (ci, fs))])[if k = 0 then (X ++ ws).length else k - 1]? = some x := by
    intro k x hk
    cases k with
    | zero => rw [if_pos rfl, List.getElem?_append_right (Nat.le_refl _)]; simpa using hk
    | succ k =>
      have hk : (X ++ ws)[k]? = some x := hk
      rw [if_neg (by omega), show k + 1 - 1 = k by omega, List.getElem?_append_left (List.getElem?_eq_some_iff.mp hk).1]
      exact hk
  refine kk q H1 hno ⟨ws, hP.by _ hg, hD.by _ hg ?_, h3, h4⟩ hS
  intro i1 i2 hi1 hi2 he
  simp only [List.length_append, List.length_cons] at hi1 hi2 he
  split at he <;> split at he <;> omega
/-- an exact object of a new address is laid into its kind -/
theorem HT.seal {q ci p0 q0 : Nat} {fs : List Value} (h : HT D cs A T O ((q, .inr (ci, fs)) :: X) H) (hno : T q = none) (hob : ob (Tadd T q (ci + 10, p0, q0)) ci p0 q0 fs) : HT D cs A (Tadd T q (ci + 10, p0, q0)) O X H := by
  obtain ⟨ws, hP, hD, h3, h4⟩ := h
  have hg : ∀ (k : Nat) (x : Nat × va_E), (X ++ (ws ++ [(q, Sum.inr (ci, fs))]))[k]? = some x → (((q, Sum.inr (ci, fs)) :: X) ++ ws)[if k < X.length + ws.length then k + 1 else 0]? = some x := by
    intro k x hk
    rw [← List.append_assoc] at hk
    by_cases h1 : k < X.length + ws.length
    · rw [if_pos h1]
      rw [List.getElem?_append_left (by rw [List.length_append]; exact h1)] at hk
      exact hk
    · rw [if_neg h1]
      rw [List.getElem?_append_right (by rw [List.length_append]; omega)] at hk
      have hz : k - (X ++ ws).length < 1 := (List.getElem?_eq_some_iff.mp hk).1
      rw [show k - (X ++ ws).length = 0 by omega] at hk
      simpa using hk
  refine ⟨ws ++ [(q, .inr (ci, fs))], hP.by _ hg, hD.by _ hg ?_, fun b tb hb hO => ?_, fun k x hk => ?_⟩
  · intro i1 i2 hi1 hi2 he
    simp only [List.length_append, List.length_cons, List.length_nil] at hi1 hi2
    split at he <;> split at he <;> omega
  · by_cases hbq : b = q
    · subst hbq
      have : tb = (ci + 10, p0, q0) := Option.some.inj (hb.symm.trans Tadd_r)
      subst this
      exact ⟨ws.length, _, by rw [List.getElem?_append_right (Nat.le_refl _)]; simp, ⟨fs, rfl, hob⟩⟩
    · have hb2 : T b = some tb := by unfold Tadd at hb; rw [if_neg hbq] at hb; exact hb
      obtain ⟨k, eb, hk, hsb⟩ := h3 b tb hb2 hO
      exact ⟨k, eb, by rw [List.getElem?_append_left (List.getElem?_eq_some_iff.mp hk).1]; exact hk, sp_le (Tadd_le hno) hsb⟩
  · by_cases h1 : k < ws.length
    · rw [List.getElem?_append_left h1] at hk
      obtain ⟨t, ht⟩ := h4 _ _ hk
      exact ⟨t, Tadd_le hno _ _ ht⟩
    · rw [List.getElem?_append_right (by omega)] at hk
      have hz : k - ws.length < 1 := (List.getElem?_eq_some_iff.mp hk).1
      rw [show k - ws.length = 0 by omega] at hk
      cases hk
      exact ⟨_, Tadd_r⟩
end ThMake
