/-! bits of sets, and the shortest ways of the reference -/
theorem inF_01 (x : Int64) (k : Int32) : inF x k = 0 ∨ inF x k = 1 := by
  unfold inF
  split
  · exact Or.inr rfl
  · exact Or.inl rfl
theorem inF_nz {x : Int64} {k v : Int32} (h : v = inF x k) (h0 : v.toInt ≠ 0) : inF x k = 1 := (inF_01 x k).resolve_left (fun q => h0 (by rw [h, q]; decide))
theorem inF_z {x : Int64} {k v : Int32} (h : v = inF x k) (h0 : v.toInt = 0) : inF x k ≠ 1 := fun q => by
  rw [h, q] at h0
  exact absurd h0 (by decide)
theorem nn_l {x : Int64} (h : 0 ≤ x.toInt) : x.toInt = (x.toBitVec.toNat : Int) := by
  have e : x.toInt = x.toBitVec.toInt := rfl
  rw [e, BitVec.toInt_eq_toNat_cond] at h ⊢
  have hl := x.toBitVec.isLt
  split at h
  · rw [if_pos (by assumption)]
  · omega
theorem shl_tab : ∀ j, j < 32 → (((nI j).toInt64 &&& 63).toBitVec.smod 64).toNat = j := by decide +kernel
theorem inF_bit {s k : Int32} (hs : 0 ≤ s.toInt) (h0 : 0 ≤ k.toInt) (h1 : k.toInt ≤ 31) : inF s.toInt64 k = 1 ↔ s.toInt.toNat.testBit k.toInt.toNat = true := by
  have hx : s.toInt64.toInt = s.toInt := Int32.toInt_toInt64 s
  have ek := is_nI h0
  have hsh : (s.toInt64 >>> (k.toInt64 &&& 63)).toInt = s.toInt / 2 ^ k.toInt.toNat := by
    have e : (s.toInt64 >>> (k.toInt64 &&& 63)).toInt = s.toInt64.toInt >>> ((k.toInt64 &&& 63).toBitVec.smod 64).toNat := by
      show (s.toInt64 >>> (k.toInt64 &&& 63)).toBitVec.toInt = _
      rw [Int64.toBitVec_shiftRight, BitVec.toInt_sshiftRight']
      rfl
    have hs2 : ((k.toInt64 &&& 63).toBitVec.smod 64).toNat = k.toInt.toNat := by
      have := shl_tab k.toInt.toNat (by omega)
      rw [← ek] at this
      exact this
    rw [e, hs2, hx, Int.shiftRight_eq_div_pow]
    rfl
  unfold inF
  generalize s.toInt64 >>> (k.toInt64 &&& 63) = v at hsh
  have hp : (0 : Int) < 2 ^ k.toInt.toNat := Int.pow_pos (by decide)
  have hv0 : 0 ≤ v.toInt := by
    rw [hsh]
    exact Int.ediv_nonneg hs (by omega)
  have hvn := nn_l hv0
  have hand : (v &&& 1).toBitVec.toNat = v.toBitVec.toNat % 2 := by
    rw [Int64.toBitVec_and, BitVec.toNat_and]
    show v.toBitVec.toNat &&& 1 = _
    exact Nat.and_one_is_mod _
  have h1' : v &&& 1 = 1 ↔ v.toBitVec.toNat % 2 = 1 := ⟨fun q => by rw [← hand, q]; rfl, fun q => Int64.toBitVec_inj.mp (BitVec.eq_of_toNat_eq (by rw [hand, q]; rfl))⟩
  have hn : v.toBitVec.toNat = s.toInt.toNat / 2 ^ k.toInt.toNat := by
    have : (v.toBitVec.toNat : Int) = ((s.toInt.toNat / 2 ^ k.toInt.toNat : Nat) : Int) := by
      rw [← hvn, hsh, Int.natCast_ediv, Int.toNat_of_nonneg hs]
      norm_cast
    exact_mod_cast this
  rw [Nat.testBit_eq_decide_div_mod_eq, ← hn]
  by_cases q : v &&& 1 = 1
  · rw [if_pos q]
    exact ⟨fun _ => decide_eq_true (h1'.mp q), fun _ => rfl⟩
  · rw [if_neg q]
    exact ⟨fun z => absurd z (by decide), fun z => absurd (h1'.mpr (of_decide_eq_true z)) q⟩
theorem and_n {a b : Int32} (ha : 0 ≤ a.toInt) (hb : 0 ≤ b.toInt) : (a &&& b).toInt.toNat = a.toInt.toNat &&& b.toInt.toNat := by
  obtain ⟨h1, h2⟩ := nn_i ha
  obtain ⟨h3, h4⟩ := nn_i hb
  have e : (a &&& b).toBitVec.toNat = a.toBitVec.toNat &&& b.toBitVec.toNat := by rw [Int32.toBitVec_and, BitVec.toNat_and]
  have hle : a.toBitVec.toNat &&& b.toBitVec.toNat ≤ a.toBitVec.toNat := Nat.and_le_left
  have := nn_of (x := a &&& b) (by omega)
  rw [this, h1, h3, e]
  simp
theorem inF_and {a b k : Int32} (ha : 0 ≤ a.toInt) (hb : 0 ≤ b.toInt) (h0 : 0 ≤ k.toInt) (h1 : k.toInt ≤ 31) : inF (a &&& b).toInt64 k = 1 ↔ inF a.toInt64 k = 1 ∧ inF b.toInt64 k = 1 := by
  have := and_l (x := a) (y := b) ha
  rw [inF_bit this.1 h0 h1, inF_bit ha h0 h1, inF_bit hb h0 h1, and_n ha hb, Nat.testBit_and, Bool.and_eq_true]
/-- the answer of nearer -/
def NR (H : Nat) (s n : Int32) (f : Nat → Int32) (r : Int32) : Prop := (r.toInt = -1 ∧ ∀ h : Nat, h < H → inF s.toInt64 (nI h) = 1 → (f h).toInt ≠ n.toInt) ∨ (0 ≤ r.toInt ∧ r.toInt < H ∧ inF s.toInt64 r = 1 ∧ (f r.toInt.toNat).toInt = n.toInt)
def NRi (s n : Int32) (f : Nat → Int32) (k : Nat) : Prop := ∀ h : Nat, h < k → inF s.toInt64 (nI h) = 1 → (f h).toInt ≠ n.toInt
theorem NRi_0 {s n : Int32} {f : Nat → Int32} {z : Int32} (hz : z.toInt = 0) : NRi s n f z.toInt.toNat := fun h hh => by omega
theorem NRi_s {s n p v a : Int32} {f : Nat → Int32} (hi : NRi s n f p.toInt.toNat) (h0 : 0 ≤ p.toInt) (hv : v.toInt = p.toInt + 1) (hx : inF s.toInt64 p ≠ 1 ∨ (a = f p.toInt.toNat ∧ a.toInt ≠ n.toInt)) : NRi s n f v.toInt.toNat := fun h hh hb => by
  by_cases q : h < p.toInt.toNat
  · exact hi h q hb
  · have e : h = p.toInt.toNat := by omega
    subst e
    rw [← is_nI h0] at hb
    rcases hx with hx | ⟨e1, e2⟩
    · exact absurd hb hx
    · rw [← e1]; exact e2
/-- away and onTo: who is n away has a neighbour n - 1 away -/
def LW (H : Nat) (s : Int32) (o a : Nat → Int32) (n : Int) : Prop := ∀ h : Nat, h < H → (a h).toInt = 99 ∨ (0 ≤ (a h).toInt ∧ (a h).toInt ≤ n ∧ inF s.toInt64 (nI h) = 1 ∧ ((a h).toInt = 0 ∨ ∃ k : Nat, k < H ∧ inF (o h &&& s).toInt64 (nI k) = 1 ∧ (a k).toInt = (a h).toInt - 1))
def LW0 (s : Int32) (a : Nat → Int32) (k : Nat) : Prop := ∀ h : Nat, h < k → (a h).toInt = 99 ∨ ((a h).toInt = 0 ∧ inF s.toInt64 (nI h) = 1)
theorem LW0_0 {s : Int32} {a : Nat → Int32} {z : Int32} (hz : z.toInt = 0) : LW0 s a z.toInt.toNat := fun h hh => by omega
theorem LW0_s {s p v x : Int32} {a F : Nat → Int32} (hi : LW0 s a p.toInt.toNat) (h0 : 0 ≤ p.toInt) (hv : v.toInt = p.toInt + 1) (eF : F = upd a p.toInt.toNat x) (hx : x.toInt = 99 ∨ (x.toInt = 0 ∧ inF s.toInt64 p = 1)) : LW0 s F v.toInt.toNat := fun h hh => by
  rw [eF]
  by_cases q : h = p.toInt.toNat
  · subst q
    rw [upd_eq, ← is_nI h0]
    exact hx
  · rw [upd_ne q]
    exact hi h (by omega)
theorem LW_of {H : Nat} {s p : Int32} {o a : Nat → Int32} (hi : LW0 s a p.toInt.toNat) (h : (H : Int) ≤ p.toInt) : LW H s o a 0 := fun j hj => by
  rcases hi j (by omega) with q | ⟨q1, q2⟩
  · exact Or.inl q
  · exact Or.inr ⟨by omega, by omega, q2, Or.inl q1⟩
theorem LW.le {H : Nat} {s : Int32} {o a : Nat → Int32} {n m : Int} (hi : LW H s o a n) (h : n ≤ m) : LW H s o a m := fun j hj => by
  rcases hi j hj with q | ⟨q1, q2, q3⟩
  · exact Or.inl q
  · exact Or.inr ⟨q1, by omega, q3⟩
theorem LW_put {H : Nat} {s p n r w k o1 n1 : Int32} {o a F : Nat → Int32} (hi : LW H s o a n.toInt) (h0 : 0 ≤ p.toInt) (hp : p.toInt < H) (hn0 : 1 ≤ n.toInt) (hn : n.toInt ≤ 14) (hw : w = a p.toInt.toNat) (hw9 : w.toInt = 99) (hs : inF s.toInt64 p = 1) (ho : o1 = o p.toInt.toNat) (hk : k = o1 &&& s) (h1 : n1.toInt = n.toInt - 1) (hr : NR H k n1 a r) (hr1 : r.toInt ≠ -1) (eF : F = upd a p.toInt.toNat n) : LW H s o F n.toInt := fun j hj => by
  rcases hr with ⟨q, -⟩ | ⟨r0, r2, r3, r4⟩
  · exact absurd q hr1
  have hrp : r.toInt.toNat ≠ p.toInt.toNat := fun z => by
    rw [z, ← hw] at r4
    omega
  rw [eF]
  by_cases q : j = p.toInt.toNat
  · subst q
    rw [upd_eq, ← is_nI h0]
    refine Or.inr ⟨by omega, by omega, hs, Or.inr ⟨r.toInt.toNat, by omega, ?_, ?_⟩⟩
    · rw [← ho, ← hk, ← is_nI r0]; exact r3
    · rw [upd_ne hrp]; omega
  · rw [upd_ne q]
    rcases hi j hj with z | ⟨z1, z2, z3, z4⟩
    · exact Or.inl z
    · refine Or.inr ⟨z1, z2, z3, ?_⟩
      rcases z4 with z4 | ⟨k2, y1, y2, y3⟩
      · exact Or.inl z4
      · refine Or.inr ⟨k2, y1, y2, ?_⟩
        rw [upd_ne (fun z => by rw [z, ← hw] at y3; omega)]
        exact y3
/-- the best start -/
def LB (H : Nat) (st : Int32) (a : Nat → Int32) (b : Int32) : Prop := b.toInt = 99 ∨ ∃ j : Nat, j < H ∧ inF st.toInt64 (nI j) = 1 ∧ (a j).toInt = b.toInt ∧ b.toInt < 99
theorem LB_put {H : Nat} {st p w : Int32} {a : Nat → Int32} (h0 : 0 ≤ p.toInt) (hp : p.toInt < H) (hs : inF st.toInt64 p = 1) (hw : w = a p.toInt.toNat) (hl : w.toInt < 99) : LB H st a w := Or.inr ⟨p.toInt.toNat, by omega, by rw [← is_nI h0]; exact hs, by rw [← hw], hl⟩
/-- nearer finds the best start -/
theorem LB_nr {H : Nat} {st s b r k : Int32} {o a : Nat → Int32} (hH : H ≤ 14) (hlw : LW H s o a 13) (hlb : LB H st a b) (hb : b.toInt ≠ 99) (h0 : 0 ≤ st.toInt) (hs : 0 ≤ s.toInt) (hk : k = st &&& s) (hr : NR H k b a r) : 0 ≤ r.toInt ∧ r.toInt < H ∧ (a r.toInt.toNat).toInt = b.toInt ∧ b.toInt ≤ 13 ∧ 0 ≤ b.toInt := by
  obtain ⟨j, j1, j2, j3, j4⟩ := hlb.resolve_left hb
  have hj : (nI j).toInt = (j : Int) := nI_toInt (by omega)
  rcases hlw j j1 with q | ⟨q1, q2, q3, q4⟩
  · omega
  rcases hr with ⟨-, z2⟩ | ⟨z1, z2, z3, z4⟩
  · exact absurd j3 (z2 j j1 (by rw [hk, inF_and h0 hs (by omega) (by omega)]; exact ⟨j2, q3⟩))
  · exact ⟨z1, z2, z4, by omega, by omega⟩
/-- and the next one -/
theorem LW_nr {H : Nat} {s p n n1 r k o1 : Int32} {o a : Nat → Int32} (hlw : LW H s o a 13) (h0 : 0 ≤ p.toInt) (hp : p.toInt < H) (ha : (a p.toInt.toNat).toInt = n.toInt) (hn : 1 ≤ n.toInt) (hn2 : n.toInt ≤ 13) (h1 : n1.toInt = n.toInt - 1) (ho : o1 = o p.toInt.toNat) (hk : k = o1 &&& s) (hr : NR H k n1 a r) : 0 ≤ r.toInt ∧ r.toInt < H ∧ (a r.toInt.toNat).toInt = n1.toInt := by
  rcases hlw p.toInt.toNat (by omega) with q | ⟨q1, q2, q3, q4⟩
  · omega
  obtain ⟨j, j1, j2, j3⟩ := q4.resolve_left (by omega)
  rcases hr with ⟨-, z2⟩ | ⟨z1, z2, z3, z4⟩
  · exact absurd (show (a j).toInt = n1.toInt by omega) (z2 j j1 (by rw [hk, ho]; exact j2))
  · exact ⟨z1, z2, z4⟩
theorem c9_put {f : Nat → Int32} {k : Nat} {x : Int32} (h : ∀ j, cp 8 (f j)) (h0 : 0 ≤ x.toInt) (h1 : x.toInt ≤ 99) : ∀ j, cp 8 (upd f k x j) := fun j => by
  unfold upd
  split
  · exact ⟨h0, h1⟩
  · exact h j
