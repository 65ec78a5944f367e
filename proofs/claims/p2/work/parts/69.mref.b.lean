/-! the reference's bits, its law's code -/
theorem tag_ne {T : TF} {a b : Nat} {ta tb : Tg} (ha : T a = some ta) (hb : T b = some tb) (h : ta ≠ tb) : a ≠ b := fun z => by
  rw [z, hb] at ha
  exact h (Option.some.inj ha).symm
theorem nm_c {a b : Nat} {O : List Nat} (h : a ≠ b) (h2 : a ∉ O) : a ∉ b :: O := fun z => (List.mem_cons.mp z).elim h h2
/-- whether a set has a bit -/
def inF (x : Int64) (k : Int32) : Int32 := if (x >>> (k.toInt64 &&& 63)) &&& 1 = 1 then 1 else 0
theorem inF_1 {x v w : Int64} {k : Int32} (e2 : v = x >>> (k.toInt64 &&& 63)) (e4 : w = v &&& 1) (h : w.toInt = (1 : Int64).toInt) : (1 : Int32) = inF x k := by
  unfold inF
  rw [if_pos (by rw [← e2, ← e4]; exact Int64.toInt_inj.mp h)]
theorem inF_0 {x v w : Int64} {k : Int32} (e2 : v = x >>> (k.toInt64 &&& 63)) (e4 : w = v &&& 1) (h : ¬ w.toInt = (1 : Int64).toInt) : (0 : Int32) = inF x k := by
  unfold inF
  rw [if_neg (by rw [← e2, ← e4]; exact fun z => h (by rw [z]))]
theorem or_ge {x y : Int32} (hx : 0 ≤ x.toInt) (hy : 0 ≤ y.toInt) : x.toInt ≤ (x ||| y).toInt := by
  obtain ⟨h1, h2⟩ := nn_i hx
  obtain ⟨h3, h4⟩ := nn_i hy
  have e : (x ||| y).toBitVec.toNat = x.toBitVec.toNat ||| y.toBitVec.toNat := by rw [Int32.toBitVec_or, BitVec.toNat_or]
  have g : x.toBitVec.toNat ||| y.toBitVec.toNat < 2 ^ 31 := Nat.or_lt_two_pow (by omega) (by omega)
  have hle : x.toBitVec.toNat ≤ x.toBitVec.toNat ||| y.toBitVec.toNat := Nat.left_le_or
  have := nn_of (x := x ||| y) (by omega)
  omega
/-- one number of the code further -/
theorem dpn_step {f : Nat → Int32} {p v c : Int32} (h0 : 0 ≤ p.toInt) (hv : v.toInt = p.toInt + 1) (hc : c = f (402 + p.toInt.toNat)) :
    (c.toInt < 3000 ∧ dpn f v.toInt.toNat = dpn f p.toInt.toNat + 1) ∨ (c.toInt = 3008 ∧ dpn f v.toInt.toNat = dpn f p.toInt.toNat) ∨ (3000 ≤ c.toInt ∧ c.toInt ≠ 3008 ∧ dpn f v.toInt.toNat = dpn f p.toInt.toNat - 1) := by
  have e : v.toInt.toNat = p.toInt.toNat + 1 := by omega
  have h : dpn f v.toInt.toNat = dpn f p.toInt.toNat + (if c.toInt < 3000 then 1 else if c.toInt = 3008 then 0 else -1) := by
    rw [e, hc]
    rfl
  rw [h]
  split
  · omega
  · split <;> omega
theorem dpn_at {f : Nat → Int32} {p c n : Int32} (hS : S8 f) (h0 : 0 ≤ p.toInt) (hn : n = f 401) (hlt : p.toInt < n.toInt) (hc : c = f (402 + p.toInt.toNat)) :
    (c.toInt < 3000 ∨ (1 ≤ dpn f p.toInt.toNat ∧ (c.toInt = 3008 ∨ 2 ≤ dpn f p.toInt.toNat))) ∧ 0 ≤ dpn f p.toInt.toNat ∧ dpn f p.toInt.toNat ≤ p.toInt := by
  have w := hS.2.2.2.2.2.2.2 p.toInt.toNat (by rw [← hn]; omega)
  have hnn := dpn_nn hS p.toInt.toNat (by unfold ncd; rw [← hn]; omega)
  have hle : ∀ k : Nat, dpn f k ≤ k := fun k => by
    induction k with
    | zero => exact Int.le_refl _
    | succ k ih =>
      unfold dpn
      split
      · omega
      · split <;> omega
  have := hle p.toInt.toNat
  rw [← hc] at w
  refine ⟨?_, hnn, by omega⟩
  by_cases q : c.toInt < 3000
  · exact Or.inl q
  · have := w (by omega)
    by_cases q2 : c.toInt = 3008
    · exact Or.inr ⟨this.1, Or.inl q2⟩
    · exact Or.inr ⟨this.1, Or.inr (this.2 q2)⟩
theorem B8.first {f : Nat → Int32} (h : B8 3906 f) : S8 f := by
  have := h 0 (by omega)
  simp only [Nat.zero_mul, Nat.zero_add] at this
  exact this
