/-! the reference's order -/
theorem sub_lim {x v u w : Int32} (e1 : u = w ^^^ (-1)) (e2 : v = x &&& u) (h : v.toInt = 0) (h0 : 0 ≤ w.toInt) : 0 ≤ x.toInt ∧ x.toInt ≤ w.toInt := by
  have hv : v = 0 := Int32.toInt_inj.mp (by rw [h]; decide)
  have e : x = x &&& w := by
    apply Int32.toBitVec_inj.mp
    apply BitVec.eq_of_getLsbD_eq
    intro i hi
    have hz : v.toBitVec.getLsbD i = false := by rw [hv]; exact BitVec.getLsbD_zero
    rw [e2, e1, Int32.toBitVec_and, Int32.toBitVec_xor, BitVec.getLsbD_and, BitVec.getLsbD_xor, m1_tab i hi, Bool.xor_true] at hz
    rw [Int32.toBitVec_and, BitVec.getLsbD_and]
    cases q1 : x.toBitVec.getLsbD i
    · rfl
    · rw [q1] at hz
      cases q2 : w.toBitVec.getLsbD i
      · rw [q2] at hz
        exact absurd hz (by decide)
      · rfl
  rw [e]
  exact and_r h0
def thF (f : Nat → Int32) (h : Int32) : Int32 := if (inF (f 87).toInt64 h).toInt = 0 ∧ (f (35 + h.toInt.toNat)).toInt ≤ (f 88).toInt then 1 else 0
theorem thF_1 {f : Nat → Int32} {h a r b c i : Int32} (ea : a = f 87) (er : r = inF a.toInt64 h) (hr : r.toInt = 0) (eb : b = f 88) (ei : i.toInt = 35 + h.toInt) (h0 : 0 ≤ h.toInt) (ec : c = f i.toInt.toNat) (hc : c.toInt ≤ b.toInt) : (1 : Int32) = thF f h := by
  have q1 : (inF (f 87).toInt64 h).toInt = 0 := by rw [← ea, ← er]; exact hr
  have q2 : (f (35 + h.toInt.toNat)).toInt ≤ (f 88).toInt := by rw [show 35 + h.toInt.toNat = i.toInt.toNat by omega, ← ec, ← eb]; exact hc
  unfold thF
  rw [if_pos ⟨q1, q2⟩]
theorem thF_0 {f : Nat → Int32} {h a r : Int32} (ea : a = f 87) (er : r = inF a.toInt64 h) (hr : r.toInt ≠ 0) : (0 : Int32) = thF f h := by
  unfold thF
  rw [if_neg (fun q => hr (by rw [er, ea]; exact q.1))]
theorem thF_0c {f : Nat → Int32} {h b c i : Int32} (eb : b = f 88) (ei : i.toInt = 35 + h.toInt) (h0 : 0 ≤ h.toInt) (ec : c = f i.toInt.toNat) (hc : b.toInt < c.toInt) : (0 : Int32) = thF f h := by
  unfold thF
  rw [if_neg (fun q => by have q2 := q.2; rw [show 35 + h.toInt.toNat = i.toInt.toNat by omega, ← ec, ← eb] at q2; omega)]
def thS (f : Nat → Int32) : Nat → Int32
  | 0 => 0
  | n + 1 => thS f n ||| (if (thF f (nI n)).toInt = 0 then 0 else (1 : Int32) <<< (nI n &&& 31))
theorem thS_n {f : Nat → Int32} {p h r b v w : Int32} (hi : p = thS f h.toInt.toNat) (h0 : 0 ≤ h.toInt) (er : r = thF f h) (hb : (r.toInt = 0 ∧ b = 0) ∨ (r.toInt ≠ 0 ∧ b = (1 : Int32) <<< (h &&& 31))) (ev : v = p ||| b) (ew : w.toInt = h.toInt + 1) : v = thS f w.toInt.toNat := by
  rw [show w.toInt.toNat = h.toInt.toNat + 1 by omega, ev, hi]
  show _ = thS f h.toInt.toNat ||| (if (thF f (nI h.toInt.toNat)).toInt = 0 then 0 else (1 : Int32) <<< (nI h.toInt.toNat &&& 31))
  rw [← is_nI h0, ← er]
  rcases hb with ⟨q1, q2⟩ | ⟨q1, q2⟩
  · rw [if_pos q1, q2]
  · rw [if_neg q1, q2]
theorem c1_put {f : Nat → Int32} {k : Nat} {x : Int32} (h : ∀ j, cp 1 (f j)) (h0 : 0 ≤ x.toInt) (h1 : x.toInt ≤ 16383) : ∀ j, cp 1 (upd f k x j) := fun j => by
  by_cases q : j = k
  · rw [q, upd_eq]
    exact ⟨h0, h1⟩
  · rw [upd_ne q]
    exact h j
/-- a hold from which a climb by all of a set begins -/
def LQ (hg : Nat) (s : Int32) (g : Nat → Int32) (b : Int32) : Prop := b.toInt = -1 ∨ (0 ≤ b.toInt ∧ b.toInt < ((hg / 6 : Nat) : Int) ∧ s.toInt.toNat.testBit b.toInt.toNat = true ∧ (g (14 * 2 ^ b.toInt.toNat + b.toInt.toNat)).toInt < 99)
theorem LQ_0 {hg : Nat} {s : Int32} {g : Nat → Int32} : LQ hg s g (-1) := Or.inl (by decide)
theorem sh_nn {k v : Int32} (h0 : 0 ≤ k.toInt) (h1 : k.toInt ≤ 30) (e : v = (1 : Int32) <<< (k &&& 31)) : v.toInt.toNat = 2 ^ k.toInt.toNat := by
  have h := sh_n h0 h1 e
  have hp2 : 0 < 2 ^ k.toInt.toNat := Nat.two_pow_pos _
  have e2 : ((2 ^ k.toInt.toNat : Nat) : Int) = (2 : Int) ^ k.toInt.toNat := by norm_cast
  omega
theorem LQ_n {hg : Nat} {s a b q u w h : Int32} {g : Nat → Int32} (hs : 0 ≤ s.toInt) (eb : b = s &&& a) (hb : 0 ≤ b.toInt) (eq : q = inF b.toInt64 h) (hq : q.toInt ≠ 0) (h0 : 0 ≤ h.toInt) (h1 : h.toInt < ((hg / 6 : Nat) : Int)) (h2 : h.toInt ≤ 13) (eu : u = (1 : Int32) <<< (h &&& 31)) (ew : w = g (14 * u.toInt.toNat + h.toInt.toNat)) (hw : w.toInt < 99) : LQ hg s g h := by
  have hbit := (inF_bit hb h0 (by omega)).mp (inF_nz eq hq)
  rw [tb hb, eb, Int32.toBitVec_and, BitVec.getLsbD_and, Bool.and_eq_true] at hbit
  refine Or.inr ⟨h0, h1, ?_, ?_⟩
  · rw [tb hs]
    exact hbit.1
  · rw [← sh_nn h0 (by omega) eu, ← ew]
    exact hw
/-- on the way: where the order is, what it has taken, how many are left -/
def LOx (hg : Nat) (x : Int32) (g : Nat → Int32) (h s : Int32) (n : Int) : Prop := h.toInt < ((hg / 6 : Nat) : Int) ∧ s.toInt.toNat < 2 ^ (hg / 6) ∧ (∀ i, s.toInt.toNat.testBit i = true → x.toInt.toNat.testBit i = true) ∧ s.toInt.toNat.testBit h.toInt.toNat = true ∧ (g (14 * s.toInt.toNat + h.toInt.toNat)).toInt = n ∧ n < 99
def LPx (hg : Nat) (x : Int32) (o g : Nat → Int32) (h s : Int32) (l : Int) (n : Nat) : Prop := ∃ k : Nat, n ≤ k ∧ k < hg / 6 ∧ (o h.toInt.toNat).toBitVec.getLsbD k = true ∧ x.toInt.toNat.testBit k = true ∧ s.toInt.toNat.testBit k = false ∧ (g (14 * (s.toInt.toNat ||| 2 ^ k) + k)).toInt = l
theorem LOx_0 {hg : Nat} {x h u : Int32} {g : Nat → Int32} {v : Int32} (hi : LQ hg x g h) (hn : h.toInt ≠ -1) (h2 : h.toInt ≤ 13) (eu : u = (1 : Int32) <<< (h &&& 31)) (ev : v = g (14 * u.toInt.toNat + h.toInt.toNat)) : LOx hg x g h u v.toInt := by
  rcases hi with q | ⟨q0, q1, q2, q3⟩
  · exact absurd q hn
  · have e := sh_nn q0 (by omega) eu
    refine ⟨q1, ?_, fun i hi => ?_, ?_, by rw [ev], ?_⟩
    · rw [e]
      exact Nat.pow_lt_pow_right (by decide) (by omega)
    · rw [e, Nat.testBit_two_pow] at hi
      rw [← of_decide_eq_true hi]
      exact q2
    · rw [e]
      exact Nat.testBit_two_pow_self
    · rw [ev, e]
      exact q3
theorem LPx_0 {hg : Nat} {x h s v w : Int32} {o g : Nat → Int32} {n : Int} (hw : WS (hg / 6) x.toInt.toNat o g 0) (hi : LOx hg x g h s n) (h0 : 0 ≤ h.toInt) (hn : 0 < n) (ev : v.toInt = n) (ew : w.toInt = v.toInt - 1) {m : Nat} (hm : m = 0) : LPx hg x o g h s w.toInt m := by
  obtain ⟨a1, a2, a3, a4, a5, a6⟩ := hi
  have hs : (0 : Int) < (s.toInt.toNat : Nat) := by
    have : s.toInt.toNat ≠ 0 := fun q => by
      rw [q, Nat.zero_testBit] at a4
      exact absurd a4 (by decide)
    omega
  rcases hw s.toInt.toNat hs a2 a3 h.toInt.toNat (by omega) a4 with q | q | ⟨q, k, k1, k2, k3, k4, k5, k6, k7⟩
  · omega
  · omega
  · exact ⟨k, by omega, k2, k3, k4, k5, by omega⟩
theorem LPx.lt {hg m : Nat} {x h s : Int32} {o g : Nat → Int32} {l : Int} (hi : LPx hg x o g h s l m) : m < hg / 6 := by
  obtain ⟨k, h1, h2, _⟩ := hi
  omega
/-- what the step asks of a hold -/
theorem LPx_bits {x h s a b c d k : Int32} {o : Nat → Int32} (ea : a = o h.toInt.toNat) (eb : b = a &&& x) (hb : 0 ≤ b.toInt) (hx : 0 ≤ x.toInt) (ec : c = s ^^^ (-1)) (hs : 0 ≤ s.toInt) (ed : d = b &&& c) (hd : 0 ≤ d.toInt) (hk : 0 ≤ k.toInt) (hk1 : k.toInt ≤ 31) : inF d.toInt64 k = 1 ↔ ((o h.toInt.toNat).toBitVec.getLsbD k.toInt.toNat = true ∧ x.toInt.toNat.testBit k.toInt.toNat = true ∧ s.toInt.toNat.testBit k.toInt.toNat = false) := by
  rw [inF_bit hd hk hk1, an_bit hb hs hd ec ed, Bool.and_eq_true, tb hb, eb, Int32.toBitVec_and, BitVec.getLsbD_and, Bool.and_eq_true, ea, tb hx]
  constructor
  · rintro ⟨⟨q1, q2⟩, q3⟩
    refine ⟨q1, q2, ?_⟩
    cases q4 : s.toInt.toNat.testBit k.toInt.toNat
    · rfl
    · rw [q4] at q3
      exact absurd q3 (by decide)
  · rintro ⟨q1, q2, q3⟩
    exact ⟨⟨q1, q2⟩, by rw [q3]; rfl⟩
theorem LPx_no {hg : Nat} {x h s q k : Int32} {d : Int64} {o g : Nat → Int32} {l : Int} (hi : LPx hg x o g h s l k.toInt.toNat) (hbits : inF d k = 1 ↔ ((o h.toInt.toNat).toBitVec.getLsbD k.toInt.toNat = true ∧ x.toInt.toNat.testBit k.toInt.toNat = true ∧ s.toInt.toNat.testBit k.toInt.toNat = false)) (eq : q = inF d k) (hq : q.toInt = 0) : LPx hg x o g h s l (k.toInt.toNat + 1) := by
  obtain ⟨j, h1, h2, h3, h4, h5, h6⟩ := hi
  refine ⟨j, ?_, h2, h3, h4, h5, h6⟩
  by_cases z : j = k.toInt.toNat
  · subst z
    exact absurd (hbits.mpr ⟨h3, h4, h5⟩) (inF_z eq hq)
  · omega
theorem LPx_ne {hg : Nat} {x h s k u v w : Int32} {o g : Nat → Int32} {l : Int} (hi : LPx hg x o g h s l k.toInt.toNat) (hs : 0 ≤ s.toInt) (hk : 0 ≤ k.toInt) (hk1 : k.toInt ≤ 30) (eu : u = (1 : Int32) <<< (k &&& 31)) (ev : v = s ||| u) (hv : 0 ≤ v.toInt) (hu : 0 ≤ u.toInt) (ew : w = g (14 * v.toInt.toNat + k.toInt.toNat)) (hw : w.toInt ≠ l) : LPx hg x o g h s l (k.toInt.toNat + 1) := by
  obtain ⟨j, h1, h2, h3, h4, h5, h6⟩ := hi
  refine ⟨j, ?_, h2, h3, h4, h5, h6⟩
  by_cases z : j = k.toInt.toNat
  · subst z
    rw [ev, or_n hs hu (by rw [← ev]; exact hv), sh_nn hk hk1 eu] at ew
    rw [← ew] at h6
    exact absurd h6 hw
  · omega
theorem LPx_e {hg n : Nat} {x h s b : Int32} {o g : Nat → Int32} {l : Int} (hi : LPx hg x o g h s l (n + 1)) (e : b.toInt.toNat = n + 1) : LPx hg x o g h s l b.toInt.toNat := by
  rw [e]
  exact hi
theorem LOx_n {hg : Nat} {x h s q k u v w u2 v2 : Int32} {d : Int64} {o g : Nat → Int32} {n l : Int} (hi : LOx hg x g h s n) (hp : LPx hg x o g h s l k.toInt.toNat) (hbits : inF d k = 1 ↔ ((o h.toInt.toNat).toBitVec.getLsbD k.toInt.toNat = true ∧ x.toInt.toNat.testBit k.toInt.toNat = true ∧ s.toInt.toNat.testBit k.toInt.toNat = false)) (eq : q = inF d k) (hq : q.toInt ≠ 0) (hs : 0 ≤ s.toInt) (hk : 0 ≤ k.toInt) (hk1 : k.toInt ≤ 30) (eu : u = (1 : Int32) <<< (k &&& 31)) (ev : v = s ||| u) (hv : 0 ≤ v.toInt) (hu : 0 ≤ u.toInt) (ew : w = g (14 * v.toInt.toNat + k.toInt.toNat)) (hw : w.toInt = l) (eu2 : u2 = (1 : Int32) <<< (k &&& 31)) (ev2 : v2 = s ||| u2) {n2 : Int} (hl : n2 = l) (hl2 : n2 < 99) : LOx hg x g k v2 n2 := by
  have e0 : v2 = v := by rw [ev2, ev, eu2, eu]
  subst e0
  obtain ⟨b1, b2, b3⟩ := hbits.mp (inF_nz eq hq)
  have hlt := hp.lt
  have e : v2.toInt.toNat = s.toInt.toNat ||| 2 ^ k.toInt.toNat := by rw [ev, or_n hs hu (by rw [← ev]; exact hv), sh_nn hk hk1 eu]
  refine ⟨by omega, ?_, fun i hj => ?_, ?_, ?_, hl2⟩
  · rw [e]
    exact Nat.or_lt_two_pow hi.2.1 (Nat.pow_lt_pow_right (by decide) hlt)
  · rw [e, Nat.testBit_or, Bool.or_eq_true] at hj
    rcases hj with hj | hj
    · exact hi.2.2.1 i hj
    · rw [Nat.testBit_two_pow] at hj
      rw [← of_decide_eq_true hj]
      exact b2
  · rw [e, Nat.testBit_or, Nat.testBit_two_pow_self, Bool.or_true]
  · rw [← ew, hw, hl]
theorem LOx.b {hg : Nat} {x h s : Int32} {o g : Nat → Int32} {n : Int} (hw : WS (hg / 6) x.toInt.toNat o g 0) (hi : LOx hg x g h s n) (h0 : 0 ≤ h.toInt) : 0 ≤ n ∧ n < 99 := by
  obtain ⟨a1, a2, a3, a4, a5, a6⟩ := hi
  have hs : (0 : Int) < (s.toInt.toNat : Nat) := by
    have : s.toInt.toNat ≠ 0 := fun q => by
      rw [q, Nat.zero_testBit] at a4
      exact absurd a4 (by decide)
    omega
  have hb := WN.b (hw s.toInt.toNat hs a2 a3 h.toInt.toNat (by omega) a4)
  omega
