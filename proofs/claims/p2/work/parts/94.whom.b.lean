/-! what the reference writes into more: from each set and hold a shortest way on -/
def WN (H x : Nat) (o g : Nat → Int32) (s h : Nat) (v : Int) (n : Nat) : Prop := v = 0 ∨ v = 99 ∨ (v < 99 ∧ ∃ k : Nat, k < n ∧ k < H ∧ (o h).toBitVec.getLsbD k = true ∧ x.testBit k = true ∧ s.testBit k = false ∧ 0 ≤ (g (14 * (s ||| 2 ^ k) + k)).toInt ∧ (g (14 * (s ||| 2 ^ k) + k)).toInt + 1 = v)
def WG (H x : Nat) (o g : Nat → Int32) (s h : Nat) : Prop := WN H x o g s h (g (14 * s + h)).toInt H
def WS (H x : Nat) (o g : Nat → Int32) (n : Int) : Prop := ∀ s : Nat, n < s → s < 2 ^ H → (∀ i, s.testBit i = true → x.testBit i = true) → ∀ h : Nat, h < H → s.testBit h = true → WG H x o g s h
def WH (H x : Nat) (o g : Nat → Int32) (s n : Nat) : Prop := ∀ h : Nat, h < n → h < H → s.testBit h = true → WG H x o g s h
theorem or_gt {s k : Nat} (h : s.testBit k = false) : s < s ||| 2 ^ k := by
  have h1 : s ≤ s ||| 2 ^ k := Nat.left_le_or
  have h2 : (s ||| 2 ^ k).testBit k = true := by rw [Nat.testBit_or, Nat.testBit_two_pow_self, Bool.or_true]
  have h3 : s ≠ s ||| 2 ^ k := fun q => by
    rw [← q, h] at h2
    exact absurd h2 (by decide)
  omega
theorem WN.le {H x s h n m : Nat} {o g : Nat → Int32} {v : Int} (hi : WN H x o g s h v n) (hn : n ≤ m) : WN H x o g s h v m := by
  rcases hi with q | q | ⟨q, k, k1, k2⟩
  · exact Or.inl q
  · exact Or.inr (Or.inl q)
  · exact Or.inr (Or.inr ⟨q, k, by omega, k2⟩)
theorem WN.cap {H x s h n : Nat} {o g : Nat → Int32} {v : Int} (hi : WN H x o g s h v n) : WN H x o g s h v H := by
  rcases hi with q | q | ⟨q, k, _, k2⟩
  · exact Or.inl q
  · exact Or.inr (Or.inl q)
  · exact Or.inr (Or.inr ⟨q, k, k2.1, k2⟩)
theorem WN.b {H x s h n : Nat} {o g : Nat → Int32} {v : Int} (hi : WN H x o g s h v n) : 0 ≤ v ∧ v ≤ 99 := by
  rcases hi with q | q | ⟨q, k, _, _, _, _, _, k1, k2⟩ <;> omega
theorem WN.fr {H x s h n a b : Nat} {o g F : Nat → Int32} {v : Int} {w : Int32} (hH : H ≤ 14) (hi : WN H x o g s h v n) (hb : b < 14) (ha : a ≤ s) (eF : F = upd g (14 * a + b) w) : WN H x o F s h v n := by
  rcases hi with q | q | ⟨q, k, k1, k2, k3, k4, k5, k6, k7⟩
  · exact Or.inl q
  · exact Or.inr (Or.inl q)
  · have hg := or_gt k5
    have e : F (14 * (s ||| 2 ^ k) + k) = g (14 * (s ||| 2 ^ k) + k) := by
      rw [eF]
      exact upd_ne (by omega)
    exact Or.inr (Or.inr ⟨q, k, k1, k2, k3, k4, k5, by rw [e]; exact k6, by rw [e]; exact k7⟩)
theorem WG.fr {H x s h a b : Nat} {o g F : Nat → Int32} {w : Int32} (hH : H ≤ 14) (hi : WG H x o g s h) (hh : h < 14) (hb : b < 14) (ha : a ≤ s) (hne : a ≠ s ∨ b ≠ h) (eF : F = upd g (14 * a + b) w) : WG H x o F s h := by
  have e : F (14 * s + h) = g (14 * s + h) := by
    rw [eF]
    exact upd_ne (by omega)
  show WN H x o F s h (F (14 * s + h)).toInt H
  rw [e]
  exact WN.fr hH hi hb ha eF
theorem WG_put {H x s h : Nat} {o g F : Nat → Int32} {w : Int32} (hH : H ≤ 14) (hh : h < 14) (hi : WN H x o g s h w.toInt H) (eF : F = upd g (14 * s + h) w) : WG H x o F s h := by
  have e : F (14 * s + h) = w := by
    rw [eF]
    exact upd_eq
  show WN H x o F s h (F (14 * s + h)).toInt H
  rw [e]
  exact WN.fr hH hi hh (Nat.le_refl _) eF
theorem WS_put {H x a b : Nat} {o g F : Nat → Int32} {w : Int32} (hH : H ≤ 14) (hi : WS H x o g a) (hb : b < 14) (eF : F = upd g (14 * a + b) w) : WS H x o F a := fun s h1 h2 h3 h h4 h5 =>
  WG.fr hH (hi s h1 h2 h3 h h4 h5) (by omega) hb (by omega) (Or.inl (by omega)) eF
theorem WH_put {H x a b : Nat} {o g F : Nat → Int32} {w : Int32} (hH : H ≤ 14) (hi : WH H x o g a b) (hb : b < 14) (hw : WN H x o g a b w.toInt H) (eF : F = upd g (14 * a + b) w) : WH H x o F a (b + 1) := fun h h1 h2 h3 => by
  by_cases q : h = b
  · subst q
    exact WG_put hH hb hw eF
  · exact WG.fr hH (hi h (by omega) h2 h3) (by omega) hb (Nat.le_refl _) (Or.inr (fun z => q z.symm)) eF
theorem WH_skip {H x a b : Nat} {o g : Nat → Int32} (hi : WH H x o g a b) (hb : a.testBit b = false) : WH H x o g a (b + 1) := fun h h1 h2 h3 => by
  by_cases q : h = b
  · rw [q, hb] at h3
    exact absurd h3 (by decide)
  · exact hi h (by omega) h2 h3
theorem WH_0 {H x a : Nat} {o g : Nat → Int32} : WH H x o g a 0 := fun h h1 => absurd h1 (Nat.not_lt_zero h)
theorem WS_next {H x a b : Nat} {o g : Nat → Int32} {n : Int} (hi : WS H x o g a) (hh : WH H x o g a b) (hb : H ≤ b) (hn : n = (a : Int) - 1) : WS H x o g n := fun s h1 h2 h3 h h4 h5 => by
  by_cases q : s = a
  · subst q
    exact hh h (by omega) h4 h5
  · exact hi s (by omega) h2 h3 h h4 h5
theorem WS_skip {H x a : Nat} {o g : Nat → Int32} {n : Int} (hi : WS H x o g a) (hx : ¬ ∀ i, a.testBit i = true → x.testBit i = true) (hn : n = (a : Int) - 1) : WS H x o g n := fun s h1 h2 h3 h h4 h5 => by
  by_cases q : s = a
  · subst q
    exact absurd h3 hx
  · exact hi s (by omega) h2 h3 h h4 h5
theorem WS_0 {H x : Nat} {o g : Nat → Int32} {n : Int} (hn : n = (2 : Int) ^ H - 1) : WS H x o g n := fun s h1 h2 => by
  have e : ((2 ^ H : Nat) : Int) = (2 : Int) ^ H := by norm_cast
  omega
theorem WN_new {H x s h n k : Nat} {o g : Nat → Int32} {v w : Int} (hi : WN H x o g s h v n) (hk : k < H) (hn : k < n) (h1 : (o h).toBitVec.getLsbD k = true) (h2 : x.testBit k = true) (h3 : s.testBit k = false) (h4 : 0 ≤ (g (14 * (s ||| 2 ^ k) + k)).toInt) (h5 : w = (g (14 * (s ||| 2 ^ k) + k)).toInt + 1) (h6 : w < v) : WN H x o g s h w n := by
  have := hi.b
  exact Or.inr (Or.inr ⟨by omega, k, hn, hk, h1, h2, h3, h4, h5.symm⟩)
/-- the next cell of a set that is on the way is in its bounds -/
theorem WS_at {H x s k : Nat} {o g : Nat → Int32} {n : Int} (hi : WS H x o g n) (hn : n ≤ s) (hs : s < 2 ^ H) (hk : k < H) (hx : ∀ i, s.testBit i = true → x.testBit i = true) (h2 : x.testBit k = true) (h3 : s.testBit k = false) : 0 ≤ (g (14 * (s ||| 2 ^ k) + k)).toInt ∧ (g (14 * (s ||| 2 ^ k) + k)).toInt ≤ 99 := by
  have hg := or_gt h3
  have hl : s ||| 2 ^ k < 2 ^ H := Nat.or_lt_two_pow hs (Nat.pow_lt_pow_right (by decide) hk)
  have hb : (s ||| 2 ^ k).testBit k = true := by rw [Nat.testBit_or, Nat.testBit_two_pow_self, Bool.or_true]
  refine WN.b (hi (s ||| 2 ^ k) (by omega) hl (fun i q => ?_) k hk hb)
  rw [Nat.testBit_or, Bool.or_eq_true] at q
  rcases q with q | q
  · exact hx i q
  · rw [Nat.testBit_two_pow] at q
    rw [← of_decide_eq_true q]
    exact h2
theorem tb {a : Int32} (h : 0 ≤ a.toInt) (k : Nat) : a.toInt.toNat.testBit k = a.toBitVec.getLsbD k := by
  obtain ⟨h1, h2⟩ := nn_i h
  show _ = a.toBitVec.toNat.testBit k
  rw [show a.toInt.toNat = a.toBitVec.toNat by omega]
theorem m1_tab : ∀ k, k < 32 → (-1 : Int32).toBitVec.getLsbD k = true := by decide +kernel
theorem an_bit {a s v w : Int32} (ha : 0 ≤ a.toInt) (hs : 0 ≤ s.toInt) (hv : 0 ≤ v.toInt) (e1 : w = s ^^^ (-1)) (e2 : v = a &&& w) (k : Nat) : v.toInt.toNat.testBit k = (a.toInt.toNat.testBit k && !s.toInt.toNat.testBit k) := by
  rw [tb hv, tb ha, tb hs, e2, e1, Int32.toBitVec_and, Int32.toBitVec_xor, BitVec.getLsbD_and, BitVec.getLsbD_xor]
  by_cases q : k < 32
  · rw [m1_tab k q, Bool.xor_true]
  · rw [BitVec.getLsbD_of_ge a.toBitVec k (by omega)]
    simp
theorem sub_bits {s x v w : Int32} (hs : 0 ≤ s.toInt) (hx : 0 ≤ x.toInt) (e1 : w = x ^^^ (-1)) (e2 : v = s &&& w) (h : v.toInt = 0) : ∀ i, s.toInt.toNat.testBit i = true → x.toInt.toNat.testBit i = true := fun i hi => by
  have hb := an_bit hs hx (by omega) e1 e2 i
  rw [h, hi, Bool.true_and] at hb
  have hz : (0 : Int).toNat.testBit i = false := Nat.zero_testBit i
  rw [hz] at hb
  cases q : x.toInt.toNat.testBit i
  · rw [q] at hb
    exact absurd hb (by decide)
  · rfl
theorem sub_no {s x v w : Int32} (hs : 0 ≤ s.toInt) (hx : 0 ≤ x.toInt) (hv : 0 ≤ v.toInt) (e1 : w = x ^^^ (-1)) (e2 : v = s &&& w) (h : v.toInt ≠ 0) : ¬ ∀ i, s.toInt.toNat.testBit i = true → x.toInt.toNat.testBit i = true := fun hc => by
  have hz : v.toInt.toNat = 0 := Nat.eq_of_testBit_eq (fun i => by
    rw [an_bit hs hx hv e1 e2 i, Nat.zero_testBit]
    cases q : s.toInt.toNat.testBit i
    · rfl
    · rw [hc i q]
      rfl)
  omega
theorem or_n {a b : Int32} (ha : 0 ≤ a.toInt) (hb : 0 ≤ b.toInt) (hc : 0 ≤ (a ||| b).toInt) : (a ||| b).toInt.toNat = a.toInt.toNat ||| b.toInt.toNat := by
  obtain ⟨h1, h2⟩ := nn_i ha
  obtain ⟨h3, h4⟩ := nn_i hb
  obtain ⟨h5, h6⟩ := nn_i hc
  have e : (a ||| b).toBitVec.toNat = a.toBitVec.toNat ||| b.toBitVec.toNat := by rw [Int32.toBitVec_or, BitVec.toNat_or]
  rw [show (a ||| b).toInt.toNat = (a ||| b).toBitVec.toNat by omega, e, show a.toInt.toNat = a.toBitVec.toNat by omega, show b.toInt.toNat = b.toBitVec.toNat by omega]
/-! the same, by the places of laysMore -/
def L11 (hg : Nat) (x : Int32) (o g : Nat → Int32) (p : Int32) : Prop := p.toInt < (2 : Int) ^ (hg / 6) ∧ WS (hg / 6) x.toInt.toNat o g p.toInt
def L96 (hg : Nat) (x : Int32) (o g : Nat → Int32) (p : Int32) : Prop := p.toInt < (2 : Int) ^ (hg / 6) ∧ WS (hg / 6) x.toInt.toNat o g (p.toInt - 1)
def L29 (hg : Nat) (x : Int32) (o g : Nat → Int32) (p : Int32) (n : Nat) : Prop := p.toInt.toNat < 2 ^ (hg / 6) ∧ (∀ i, p.toInt.toNat.testBit i = true → x.toInt.toNat.testBit i = true) ∧ WS (hg / 6) x.toInt.toNat o g (p.toInt.toNat : Nat) ∧ WH (hg / 6) x.toInt.toNat o g p.toInt.toNat n
def L102 (hg : Nat) (x : Int32) (o g : Nat → Int32) (p h v : Int32) (n : Nat) : Prop := WN (hg / 6) x.toInt.toNat o g p.toInt.toNat h.toInt.toNat v.toInt n
def L140 (hg : Nat) (x : Int32) (o g : Nat → Int32) (p h k v : Int32) : Prop := k.toInt.toNat < hg / 6 ∧ (o h.toInt.toNat).toBitVec.getLsbD k.toInt.toNat = true ∧ x.toInt.toNat.testBit k.toInt.toNat = true ∧ p.toInt.toNat.testBit k.toInt.toNat = false ∧ v = g (14 * (p.toInt.toNat ||| 2 ^ k.toInt.toNat) + k.toInt.toNat) ∧ 0 ≤ v.toInt ∧ v.toInt ≤ 99
theorem L11_0 {hg : Nat} {x v7 v9 : Int32} {o g : Nat → Int32} (h7 : v7.toInt = (2 : Int) ^ (hg / 6)) (h9 : v9.toInt = v7.toInt - 1) : L11 hg x o g v9 := ⟨by omega, WS_0 (by omega)⟩
theorem L11_n {hg : Nat} {x p q : Int32} {o g : Nat → Int32} (hi : L96 hg x o g p) (e : q.toInt = p.toInt + (-1)) : L11 hg x o g q := by
  refine ⟨by have := hi.1; omega, ?_⟩
  rw [show q.toInt = p.toInt - 1 by omega]
  exact hi.2
theorem L96_s {hg : Nat} {x p v w : Int32} {o g : Nat → Int32} (hi : L11 hg x o g p) (h0 : 0 ≤ p.toInt) (hx : 0 ≤ x.toInt) (e1 : w = x ^^^ (-1)) (e2 : v = p &&& w) (hv : 0 ≤ v.toInt) (hc : v.toInt ≠ 0) : L96 hg x o g p := by
  refine ⟨hi.1, WS_skip (a := p.toInt.toNat) ?_ (sub_no h0 hx hv e1 e2 hc) (by omega)⟩
  rw [Int.toNat_of_nonneg h0]
  exact hi.2
theorem L29_0 {hg n : Nat} {x p v w : Int32} {o g : Nat → Int32} (hi : L11 hg x o g p) (h0 : 0 ≤ p.toInt) (hx : 0 ≤ x.toInt) (e1 : w = x ^^^ (-1)) (e2 : v = p &&& w) (hc : v.toInt = 0) (hn : n = 0) : L29 hg x o g p n := by
  subst hn
  refine ⟨?_, sub_bits h0 hx e1 e2 hc, ?_, WH_0⟩
  · have h1 := hi.1
    have e : ((2 ^ (hg / 6) : Nat) : Int) = (2 : Int) ^ (hg / 6) := by norm_cast
    omega
  · rw [Int.toNat_of_nonneg h0]
    exact hi.2
theorem L96_n {hg n : Nat} {x p : Int32} {o g : Nat → Int32} (hi : L29 hg x o g p n) (h0 : 0 ≤ p.toInt) (hn : hg / 6 ≤ n) : L96 hg x o g p := by
  refine ⟨?_, WS_next hi.2.2.1 hi.2.2.2 hn (by omega)⟩
  have h1 := hi.1
  have e : ((2 ^ (hg / 6) : Nat) : Int) = (2 : Int) ^ (hg / 6) := by norm_cast
  omega
theorem L29_s {hg n : Nat} {x p b v : Int32} {o g : Nat → Int32} (hi : L29 hg x o g p n) (h0 : 0 ≤ p.toInt) (hb : 0 ≤ b.toInt) (hb1 : b.toInt ≤ 31) (hv : v = inF p.toInt64 b) (hc : v.toInt = 0) (hn : n = b.toInt.toNat) : L29 hg x o g p (n + 1) := by
  refine ⟨hi.1, hi.2.1, hi.2.2.1, WH_skip hi.2.2.2 ?_⟩
  rw [hn]
  exact Bool.eq_false_iff.mpr (fun q => inF_z hv hc ((inF_bit h0 hb hb1).mpr q))
theorem L29_e {hg n : Nat} {x p b : Int32} {o g : Nat → Int32} (hi : L29 hg x o g p (n + 1)) (e : b.toInt.toNat = n + 1) : L29 hg x o g p b.toInt.toNat := by
  rw [e]
  exact hi
theorem L102_0 {hg n : Nat} {x p h v : Int32} {o g : Nat → Int32} (hv : v.toInt = 0 ∨ v.toInt = 99) : L102 hg x o g p h v n := hv.elim Or.inl (fun q => Or.inr (Or.inl q))
theorem L102_s {hg n : Nat} {x p h v : Int32} {o g : Nat → Int32} (hi : L102 hg x o g p h v n) : L102 hg x o g p h v (n + 1) := WN.le hi (Nat.le_succ n)
theorem L102_e {hg n : Nat} {x p h v b : Int32} {o g : Nat → Int32} (hi : L102 hg x o g p h v (n + 1)) (e : b.toInt.toNat = n + 1) : L102 hg x o g p h v b.toInt.toNat := by
  rw [e]
  exact hi
theorem sh_n {k v : Int32} (h0 : 0 ≤ k.toInt) (h1 : k.toInt ≤ 30) (e : v = (1 : Int32) <<< (k &&& 31)) : v.toInt = (2 : Int) ^ k.toInt.toNat := by
  have t := sh_tab k.toInt.toNat (by omega)
  rw [← is_nI h0] at t
  rw [e]
  exact t
theorem L140_of {hg n : Nat} {x p h k a b c d u v i1 i2 q : Int32} {o g : Nat → Int32} (hi : L29 hg x o g p n) (h0 : 0 ≤ p.toInt) (hp : p.toInt ≤ 16383) (hx : 0 ≤ x.toInt) (ea : a = o h.toInt.toNat) (eb : b = a &&& x) (hb : 0 ≤ b.toInt) (ec : c = p ^^^ (-1)) (ed : d = b &&& c) (hd : 0 ≤ d.toInt) (hq : q = inF d.toInt64 k) (hc : q.toInt ≠ 0) (hk : 0 ≤ k.toInt) (hk1 : k.toInt < ((hg / 6 : Nat) : Int)) (hk2 : k.toInt ≤ 13)
    (eu : u = (1 : Int32) <<< (k &&& 31)) (ev : v = p ||| u) (hv : 0 ≤ v.toInt) (e1 : i1.toInt = 14 * v.toInt) (e2 : i2.toInt = i1.toInt + k.toInt) {w : Int32} (ew : w = g i2.toInt.toNat) : L140 hg x o g p h k w := by
  have hu := sh_n hk (by omega) eu
  have hbit : d.toInt.toNat.testBit k.toInt.toNat = true := (inF_bit hd hk (by omega)).mp (inF_nz hq hc)
  rw [an_bit hb h0 hd ec ed, Bool.and_eq_true] at hbit
  have hp0 : p.toInt.toNat.testBit k.toInt.toNat = false := by
    have := hbit.2
    cases q9 : p.toInt.toNat.testBit k.toInt.toNat
    · rfl
    · rw [q9] at this
      exact absurd this (by decide)
  have hb1 := hbit.1
  rw [tb hb, eb, Int32.toBitVec_and, BitVec.getLsbD_and, Bool.and_eq_true] at hb1
  have hx1 : x.toInt.toNat.testBit k.toInt.toNat = true := by
    rw [tb hx]
    exact hb1.2
  have e2k : ((2 ^ k.toInt.toNat : Nat) : Int) = (2 : Int) ^ k.toInt.toNat := by norm_cast
  have hp2 : 0 < 2 ^ k.toInt.toNat := Nat.two_pow_pos _
  have hu0 : 0 ≤ u.toInt := by omega
  have hn : v.toInt.toNat = p.toInt.toNat ||| 2 ^ k.toInt.toNat := by
    rw [ev, or_n h0 hu0 (by rw [← ev]; exact hv), show u.toInt.toNat = 2 ^ k.toInt.toNat by omega]
  have ei : i2.toInt.toNat = 14 * (p.toInt.toNat ||| 2 ^ k.toInt.toNat) + k.toInt.toNat := by
    rw [← hn]
    omega
  have hw := WS_at hi.2.2.1 (Int.le_refl _) hi.1 (show k.toInt.toNat < hg / 6 by omega) hi.2.1 hx1 hp0
  rw [ei] at ew
  rw [← ew] at hw
  exact ⟨by omega, by rw [← ea]; exact hb1.1, hx1, hp0, ew, hw.1, hw.2⟩
theorem L140.b {hg : Nat} {x p h k v : Int32} {o g : Nat → Int32} (hi : L140 hg x o g p h k v) : 0 ≤ v.toInt ∧ v.toInt ≤ 99 := hi.2.2.2.2.2
theorem L140.eq {hg : Nat} {x p h k v w : Int32} {o g : Nat → Int32} (hi : L140 hg x o g p h k v) (hj : L140 hg x o g p h k w) : w.toInt = v.toInt := by rw [hi.2.2.2.2.1, hj.2.2.2.2.1]
theorem L102_n {hg : Nat} {x p h k v w y : Int32} {o g : Nat → Int32} (hi : L102 hg x o g p h y k.toInt.toNat) (hj : L140 hg x o g p h k v) (ew : w.toInt = v.toInt + 1) (hl : w.toInt < y.toInt) : L102 hg x o g p h w (k.toInt.toNat + 1) := by
  obtain ⟨a1, a2, a3, a4, a5, a6, a7⟩ := hj
  exact WN_new (WN.le hi (Nat.le_succ _)) a1 (Nat.lt_succ_self _) a2 a3 a4 (by rw [← a5]; exact a6) (by rw [← a5]; exact ew) hl
theorem nar_tab : ∀ k, k < 100 → vp_nar .byte ((nI k).toInt8.toInt32) = nI k := by decide +kernel
theorem L190_p {hg n m : Nat} {x p h y v i1 i2 : Int32} {o g F : Nat → Int32} (hH : hg / 6 ≤ 14) (hi : L29 hg x o g p n) (h0 : 0 ≤ p.toInt) (hh : 0 ≤ h.toInt) (hh1 : h.toInt ≤ 13) (hn : n = h.toInt.toNat) (hj : L102 hg x o g p h y m) (ev : v = y.toInt8.toInt32) (e1 : i1.toInt = 14 * p.toInt) (e2 : i2.toInt = i1.toInt + h.toInt) (eF : F = upd g i2.toInt.toNat (vp_nar .byte v)) : L29 hg x o F p (n + 1) := by
  have hb := hj.b
  have e : vp_nar .byte v = y := by
    have t := nar_tab y.toInt.toNat (by omega)
    rw [← is_nI hb.1] at t
    rw [ev]
    exact t
  rw [e, show i2.toInt.toNat = 14 * p.toInt.toNat + h.toInt.toNat by omega] at eF
  refine ⟨hi.1, hi.2.1, WS_put hH hi.2.2.1 (show h.toInt.toNat < 14 by omega) eF, ?_⟩
  rw [hn]
  exact WH_put hH (by rw [← hn]; exact hi.2.2.2) (by omega) (WN.cap hj) eF
theorem L11_end {hg : Nat} {x p : Int32} {o g : Nat → Int32} (hi : L11 hg x o g p) (h : p.toInt ≤ 0) : WS (hg / 6) x.toInt.toNat o g 0 := fun s h1 => hi.2 s (by omega)
