/-! what the reference writes into more: from each set and hold a shortest way on -/
def WN (H x : Nat) (o g : Nat → Int32) (s h : Nat) (v : Int) (n : Nat) : Prop := v = 0 ∨ v = 99 ∨ (v < 99 ∧ ∃ k : Nat, k < n ∧ k < H ∧ (o h).toInt.toNat.testBit k = true ∧ x.testBit k = true ∧ s.testBit k = false ∧ 0 ≤ (g (14 * (s ||| 2 ^ k) + k)).toInt ∧ (g (14 * (s ||| 2 ^ k) + k)).toInt + 1 = v)
def WG (H x : Nat) (o g : Nat → Int32) (s h : Nat) : Prop := WN H x o g s h (g (14 * s + h)).toInt H
def WS (H x : Nat) (o g : Nat → Int32) (n : Int) : Prop := ∀ s : Nat, n < s → s < 2 ^ H → (∀ i, s.testBit i = true → x.testBit i = true) → ∀ h : Nat, h < H → s.testBit h = true → WG H x o g s h
def WH (H x : Nat) (o g : Nat → Int32) (s n : Nat) : Prop := ∀ h : Nat, h < n → h < H → s.testBit h = true → WG H x o g s h
theorem or_gt {s k : Nat} (h : s.testBit k = false) : s < s ||| 2 ^ k := by
  have h1 : s ≤ s ||| 2 ^ k := Nat.left_le_or
  have h2 : (s ||| 2 ^ k).testBit k = true := by rw [Nat.testBit_or, Nat.testBit_two_pow_self, Bool.or_true]
  have h3 : s ≠ s ||| 2 ^ k := fun q => by
    rw [← q, h] at h2
    exact absurd h2 (by decide)
  omega
theorem WN.le {H x s h n m : Nat} {o g : Nat → Int32} {v : Int} (hi : WN H x o g s h v n) (hn : n ≤ m) : WN H x o g s h v m := by
  rcases hi with q | q | ⟨q, k, k1, k2⟩
  · exact Or.inl q
  · exact Or.inr (Or.inl q)
  · exact Or.inr (Or.inr ⟨q, k, by omega, k2⟩)
theorem WN.b {H x s h n : Nat} {o g : Nat → Int32} {v : Int} (hi : WN H x o g s h v n) : 0 ≤ v ∧ v ≤ 99 := by
  rcases hi with q | q | ⟨q, k, _, _, _, _, _, k1, k2⟩ <;> omega
theorem WN.fr {H x s h n a b : Nat} {o g F : Nat → Int32} {v : Int} {w : Int32} (hH : H ≤ 14) (hi : WN H x o g s h v n) (hb : b < 14) (ha : a ≤ s) (eF : F = upd g (14 * a + b) w) : WN H x o F s h v n := by
  rcases hi with q | q | ⟨q, k, k1, k2, k3, k4, k5, k6, k7⟩
  · exact Or.inl q
  · exact Or.inr (Or.inl q)
  · have hg := or_gt k5
    have e : F (14 * (s ||| 2 ^ k) + k) = g (14 * (s ||| 2 ^ k) + k) := by
      rw [eF]
      exact upd_ne (by omega)
    exact Or.inr (Or.inr ⟨q, k, k1, k2, k3, k4, k5, by rw [e]; exact k6, by rw [e]; exact k7⟩)
theorem WG.fr {H x s h a b : Nat} {o g F : Nat → Int32} {w : Int32} (hH : H ≤ 14) (hi : WG H x o g s h) (hh : h < 14) (hb : b < 14) (ha : a ≤ s) (hne : a ≠ s ∨ b ≠ h) (eF : F = upd g (14 * a + b) w) : WG H x o F s h := by
  have e : F (14 * s + h) = g (14 * s + h) := by
    rw [eF]
    exact upd_ne (by omega)
  show WN H x o F s h (F (14 * s + h)).toInt H
  rw [e]
  exact WN.fr hH hi hb ha eF
theorem WG_put {H x s h : Nat} {o g F : Nat → Int32} {w : Int32} (hH : H ≤ 14) (hh : h < 14) (hi : WN H x o g s h w.toInt H) (eF : F = upd g (14 * s + h) w) : WG H x o F s h := by
  have e : F (14 * s + h) = w := by
    rw [eF]
    exact upd_eq
  show WN H x o F s h (F (14 * s + h)).toInt H
  rw [e]
  exact WN.fr hH hi hh (Nat.le_refl _) eF
theorem WS_put {H x a b : Nat} {o g F : Nat → Int32} {w : Int32} (hH : H ≤ 14) (hi : WS H x o g a) (hb : b < 14) (eF : F = upd g (14 * a + b) w) : WS H x o F a := fun s h1 h2 h3 h h4 h5 =>
  WG.fr hH (hi s h1 h2 h3 h h4 h5) (by omega) hb (by omega) (Or.inl (by omega)) eF
theorem WH_put {H x a b : Nat} {o g F : Nat → Int32} {w : Int32} (hH : H ≤ 14) (hi : WH H x o g a b) (hb : b < 14) (hw : WN H x o g a b w.toInt H) (eF : F = upd g (14 * a + b) w) : WH H x o F a (b + 1) := fun h h1 h2 h3 => by
  by_cases q : h = b
  · subst q
    exact WG_put hH hb hw eF
  · exact WG.fr hH (hi h (by omega) h2 h3) (by omega) hb (Nat.le_refl _) (Or.inr (fun z => q z.symm)) eF
theorem WH_skip {H x a b : Nat} {o g : Nat → Int32} (hi : WH H x o g a b) (hb : a.testBit b = false) : WH H x o g a (b + 1) := fun h h1 h2 h3 => by
  by_cases q : h = b
  · rw [q, hb] at h3
    exact absurd h3 (by decide)
  · exact hi h (by omega) h2 h3
theorem WH_0 {H x a : Nat} {o g : Nat → Int32} : WH H x o g a 0 := fun h h1 => absurd h1 (Nat.not_lt_zero h)
theorem WS_next {H x a b : Nat} {o g : Nat → Int32} {n : Int} (hi : WS H x o g a) (hh : WH H x o g a b) (hb : H ≤ b) (hn : n = (a : Int) - 1) : WS H x o g n := fun s h1 h2 h3 h h4 h5 => by
  by_cases q : s = a
  · subst q
    exact hh h (by omega) h4 h5
  · exact hi s (by omega) h2 h3 h h4 h5
theorem WS_skip {H x a : Nat} {o g : Nat → Int32} {n : Int} (hi : WS H x o g a) (hx : ¬ ∀ i, a.testBit i = true → x.testBit i = true) (hn : n = (a : Int) - 1) : WS H x o g n := fun s h1 h2 h3 h h4 h5 => by
  by_cases q : s = a
  · subst q
    exact absurd h3 hx
  · exact hi s (by omega) h2 h3 h h4 h5
theorem WS_0 {H x : Nat} {o g : Nat → Int32} {n : Int} (hn : n = (2 : Int) ^ H - 1) : WS H x o g n := fun s h1 h2 => by
  have e : ((2 ^ H : Nat) : Int) = (2 : Int) ^ H := by norm_cast
  omega
theorem WN_new {H x s h n k : Nat} {o g : Nat → Int32} {v w : Int} (hi : WN H x o g s h v n) (hk : k < H) (hn : k < n) (h1 : (o h).toInt.toNat.testBit k = true) (h2 : x.testBit k = true) (h3 : s.testBit k = false) (h4 : 0 ≤ (g (14 * (s ||| 2 ^ k) + k)).toInt) (h5 : w = (g (14 * (s ||| 2 ^ k) + k)).toInt + 1) (h6 : w < v) : WN H x o g s h w n := by
  have := hi.b
  exact Or.inr (Or.inr ⟨by omega, k, hn, hk, h1, h2, h3, h4, h5.symm⟩)
/-- the next cell of a set that is on the way is in its bounds -/
theorem WS_at {H x s k : Nat} {o g : Nat → Int32} {n : Int} (hi : WS H x o g n) (hn : n ≤ s) (hs : s < 2 ^ H) (hk : k < H) (hx : ∀ i, s.testBit i = true → x.testBit i = true) (h2 : x.testBit k = true) (h3 : s.testBit k = false) : 0 ≤ (g (14 * (s ||| 2 ^ k) + k)).toInt ∧ (g (14 * (s ||| 2 ^ k) + k)).toInt ≤ 99 := by
  have hg := or_gt h3
  have hl : s ||| 2 ^ k < 2 ^ H := Nat.or_lt_two_pow hs (Nat.pow_lt_pow_right (by decide) hk)
  have hb : (s ||| 2 ^ k).testBit k = true := by rw [Nat.testBit_or, Nat.testBit_two_pow_self, Bool.or_true]
  refine WN.b (hi (s ||| 2 ^ k) (by omega) hl (fun i q => ?_) k hk hb)
  rw [Nat.testBit_or, Bool.or_eq_true] at q
  rcases q with q | q
  · exact hx i q
  · rw [Nat.testBit_two_pow] at q
    rw [← of_decide_eq_true q]
    exact h2
theorem tb {a : Int32} (h : 0 ≤ a.toInt) (k : Nat) : a.toInt.toNat.testBit k = a.toBitVec.getLsbD k := by
  obtain ⟨h1, h2⟩ := nn_i h
  show _ = a.toBitVec.toNat.testBit k
  rw [show a.toInt.toNat = a.toBitVec.toNat by omega]
theorem m1_tab : ∀ k, k < 32 → (-1 : Int32).toBitVec.getLsbD k = true := by decide +kernel
theorem an_bit {a s v w : Int32} (ha : 0 ≤ a.toInt) (hs : 0 ≤ s.toInt) (hv : 0 ≤ v.toInt) (e1 : w = s ^^^ (-1)) (e2 : v = a &&& w) (k : Nat) : v.toInt.toNat.testBit k = (a.toInt.toNat.testBit k && !s.toInt.toNat.testBit k) := by
  rw [tb hv, tb ha, tb hs, e2, e1, Int32.toBitVec_and, Int32.toBitVec_xor, BitVec.getLsbD_and, BitVec.getLsbD_xor]
  by_cases q : k < 32
  · rw [m1_tab k q, Bool.xor_true]
  · rw [BitVec.getLsbD_of_ge a.toBitVec k (by omega)]
    simp
theorem sub_bits {s x v w : Int32} (hs : 0 ≤ s.toInt) (hx : 0 ≤ x.toInt) (e1 : w = x ^^^ (-1)) (e2 : v = s &&& w) (h : v.toInt = 0) : ∀ i, s.toInt.toNat.testBit i = true → x.toInt.toNat.testBit i = true := fun i hi => by
  have hb := an_bit hs hx (by omega) e1 e2 i
  rw [h, hi, Bool.true_and] at hb
  have hz : (0 : Int).toNat.testBit i = false := Nat.zero_testBit i
  rw [hz] at hb
  cases q : x.toInt.toNat.testBit i
  · rw [q] at hb
    exact absurd hb (by decide)
  · rfl
theorem sub_no {s x v w : Int32} (hs : 0 ≤ s.toInt) (hx : 0 ≤ x.toInt) (hv : 0 ≤ v.toInt) (e1 : w = x ^^^ (-1)) (e2 : v = s &&& w) (h : v.toInt ≠ 0) : ¬ ∀ i, s.toInt.toNat.testBit i = true → x.toInt.toNat.testBit i = true := fun hc => by
  have hz : v.toInt.toNat = 0 := Nat.eq_of_testBit_eq (fun i => by
    rw [an_bit hs hx hv e1 e2 i, Nat.zero_testBit]
    cases q : s.toInt.toNat.testBit i
    · rfl
    · rw [hc i q]
      rfl)
  omega
theorem or_n {a b : Int32} (ha : 0 ≤ a.toInt) (hb : 0 ≤ b.toInt) (hc : 0 ≤ (a ||| b).toInt) : (a ||| b).toInt.toNat = a.toInt.toNat ||| b.toInt.toNat := by
  obtain ⟨h1, h2⟩ := nn_i ha
  obtain ⟨h3, h4⟩ := nn_i hb
  obtain ⟨h5, h6⟩ := nn_i hc
  have e : (a ||| b).toBitVec.toNat = a.toBitVec.toNat ||| b.toBitVec.toNat := by rw [Int32.toBitVec_or, BitVec.toNat_or]
  rw [show (a ||| b).toInt.toNat = (a ||| b).toBitVec.toNat by omega, e, show a.toInt.toNat = a.toBitVec.toNat by omega, show b.toInt.toNat = b.toBitVec.toNat by omega]
