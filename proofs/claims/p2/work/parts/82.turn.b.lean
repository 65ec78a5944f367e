/-! counting bits -/
def pcn : Nat → Nat → Nat
  | 0, _ => 0
  | k + 1, n => pcn k n + (if n.testBit k then 1 else 0)
theorem pcn_le (k n : Nat) : pcn k n ≤ k := by
  induction k with
  | zero => exact Nat.le_refl _
  | succ k ih =>
    unfold pcn
    split <;> omega
theorem pcn_hi {k h n : Nat} (hk : k ≤ h) : pcn k (n ||| 2 ^ h) = pcn k n := by
  induction k with
  | zero => rfl
  | succ k ih =>
    unfold pcn
    rw [ih (by omega), Nat.testBit_or, Nat.testBit_two_pow_of_ne (by omega), Bool.or_false]
theorem pcn_or {k h n : Nat} (hk : h < k) (hn : n.testBit h = false) : pcn k (n ||| 2 ^ h) = pcn k n + 1 := by
  induction k with
  | zero => omega
  | succ k ih =>
    unfold pcn
    by_cases q : h = k
    · subst q
      rw [pcn_hi (Nat.le_refl _), Nat.testBit_or, Nat.testBit_two_pow_self, hn]
      simp
    · rw [ih (by omega), Nat.testBit_or, Nat.testBit_two_pow_of_ne (by omega), Bool.or_false]
      omega
/-- a set of guides with one fewer -/
theorem gt_tab : ∀ n, n < 32 → ∀ g, g < 5 → inF (nI n).toInt64 (nI g) = 1 → 0 ≤ (nI n &&& (((1 : Int32) <<< (nI g &&& 31)) ^^^ (-1))).toInt ∧ (nI n &&& (((1 : Int32) <<< (nI g &&& 31)) ^^^ (-1))).toInt ≤ 31 ∧ pcn 5 (nI n &&& (((1 : Int32) <<< (nI g &&& 31)) ^^^ (-1))).toInt.toNat + 1 ≤ pcn 5 (nI n).toInt.toNat := by decide +kernel
theorem gt_step {x g a b v : Int32} (h0 : 0 ≤ x.toInt) (h1 : x.toInt ≤ 31) (g0 : 0 ≤ g.toInt) (g1 : g.toInt ≤ 4) (hb : inF x.toInt64 g = 1) (ea : a = (1 : Int32) <<< (g &&& 31)) (eb : b = a ^^^ (-1)) (ev : v = x &&& b) : 0 ≤ v.toInt ∧ v.toInt ≤ 31 ∧ pcn 5 v.toInt.toNat + 1 ≤ pcn 5 x.toInt.toNat := by
  have ex := is_nI h0
  have eg := is_nI g0
  have := gt_tab x.toInt.toNat (by omega) g.toInt.toNat (by omega)
  rw [← ex, ← eg] at this
  rw [ev, eb, ea]
  exact this hb
theorem pcn5_0 : ∀ n, n < 32 → pcn 5 n = 0 → n = 0 := by decide +kernel
/-- a told climb's holds: as many as the set has bits -/
def TD (s n : Int32) : Prop := 0 ≤ s.toInt ∧ s.toInt ≤ 16383 ∧ n.toInt = ((pcn 14 s.toInt.toNat : Nat) : Int)
theorem TD_0 {z w : Int32} (hz : z.toInt = 0) (hw : w.toInt = 0) : TD z w := ⟨by omega, by omega, by rw [hz, hw]; decide⟩
theorem TD_s {s n h b s2 : Int32} (hi : TD s n) (h0 : 0 ≤ h.toInt) (h1 : h.toInt ≤ 13) (hb : inF s.toInt64 h ≠ 1) (eb : b = (1 : Int32) <<< (h &&& 31)) (es : s2 = s ||| b) : n.toInt ≤ 13 ∧ ∀ n2 : Int32, n2.toInt = n.toInt + 1 → TD s2 n2 := by
  obtain ⟨a0, a1, a2⟩ := hi
  have eh := is_nI h0
  have hbv : b.toInt = 2 ^ h.toInt.toNat := by
    rw [eb]
    have := sh_tab h.toInt.toNat (by omega)
    rw [← eh] at this
    exact this
  have hp : (2 : Nat) ^ h.toInt.toNat ≤ 2 ^ 13 := Nat.pow_le_pow_right (by decide) (by omega)
  have hbn : b.toInt = ((2 ^ h.toInt.toNat : Nat) : Int) := by rw [hbv]; norm_cast
  obtain ⟨P, hP⟩ : ∃ P : Nat, P = 2 ^ h.toInt.toNat := ⟨_, rfl⟩
  rw [← hP] at hp hbn
  have hb0 : 0 ≤ b.toInt := by omega
  obtain ⟨c1, c2⟩ := nn_i a0
  obtain ⟨d1, d2⟩ := nn_i hb0
  have e : (s ||| b).toBitVec.toNat = s.toBitVec.toNat ||| b.toBitVec.toNat := by rw [Int32.toBitVec_or, BitVec.toNat_or]
  have hor := or_b 14 (by decide) a0 hb0 (by omega) (by omega)
  have hs2 : s2.toInt.toNat = s.toInt.toNat ||| 2 ^ h.toInt.toNat := by
    have := nn_of (x := s ||| b) (by rw [e]; have := Nat.or_lt_two_pow (n := 14) (show s.toBitVec.toNat < 2 ^ 14 by omega) (show b.toBitVec.toNat < 2 ^ 14 by omega); omega)
    rw [es, this, e]
    have q1 : s.toBitVec.toNat = s.toInt.toNat := by omega
    have q2 : b.toBitVec.toNat = P := by omega
    rw [q1, q2, hP]
    simp
  have hnb : s.toInt.toNat.testBit h.toInt.toNat = false := by
    cases q : s.toInt.toNat.testBit h.toInt.toNat with
    | false => rfl
    | true => exact absurd ((inF_bit a0 h0 (by omega)).mpr q) hb
  have hc := pcn_or (k := 14) (show h.toInt.toNat < 14 by omega) hnb
  have hl := pcn_le 14 s2.toInt.toNat
  rw [hs2] at hl
  refine ⟨by omega, fun n2 hn => ⟨by rw [es]; exact hor.1, by rw [es]; have := hor.2; omega, ?_⟩⟩
  rw [hs2, hc]
  omega
