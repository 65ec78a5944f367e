/-! walls of the reference that are copied -/
theorem S8_cong {p q : Nat → Int32} (h : ∀ j, j < 1302 → q j = p j) (hS : S8 p) : S8 q := by
  obtain ⟨a1, a2, a3, a4, a5, a6, a7, a8⟩ := hS
  refine ⟨?_, ?_, ?_, ?_, ?_, ?_, ?_, ?_⟩
  · rw [h 1 (by omega)]; exact a1
  · rw [h 2 (by omega)]; exact a2
  · rw [h 4 (by omega)]; exact a3
  · rw [h 5 (by omega)]; exact a4
  · rw [h 6 (by omega)]; exact a5
  · rw [h 90 (by omega)]; exact a6
  · rw [h 401 (by omega)]; exact a7
  · intro k hk h1
    rw [h 401 (by omega)] at hk
    have hk9 : k < 900 := by omega
    rw [h (402 + k) (by omega)] at h1 ⊢
    rw [dpn_same (f := p) (g := q) (N := 900) (fun j hj => h (402 + j) (by omega)) k (by omega)]
    exact a8 k hk h1
/-- so many numbers of the first wall are copied to b on -/
def CI (f g : Nat → Int32) (b k : Nat) : Prop := ∀ j, g j = if b ≤ j ∧ j < b + k then f (j - b) else f j
theorem CI_0 {f : Nat → Int32} {b : Nat} {z : Int32} (hz : z.toInt = 0) : CI f f b z.toInt.toNat := fun j => by rw [if_neg (by omega)]
theorem CI_s {f g F : Nat → Int32} {b : Nat} {p v w x : Int32} (hi : CI f g b p.toInt.toNat) (h0 : 0 ≤ p.toInt) (h1 : p.toInt < 1302) (hb : 1302 ≤ b) (hv : v.toInt = p.toInt + 1) (hx : x = g p.toInt.toNat) (hw : w.toInt = b + p.toInt) (eF : F = upd g w.toInt.toNat x) : CI f F b v.toInt.toNat := fun j => by
  have e : w.toInt.toNat = b + p.toInt.toNat := by omega
  have hk := hi p.toInt.toNat
  rw [if_neg (by omega)] at hk
  rw [eF, e]
  by_cases q : j = b + p.toInt.toNat
  · rw [q, upd_eq, hx, hk, if_pos (by omega), show b + p.toInt.toNat - b = p.toInt.toNat by omega]
  · rw [upd_ne q, hi j]
    by_cases q2 : b ≤ j ∧ j < b + p.toInt.toNat
    · rw [if_pos q2, if_pos (by omega)]
    · rw [if_neg q2, if_neg (by omega)]
theorem CI_B8 {f g : Nat → Int32} {b : Nat} {p : Int32} (hi : CI f g b p.toInt.toNat) (hp : p.toInt = 1302) (hB : B8 3906 f) (hb : b = 1302 ∨ b = 2604) : B8 3906 g ∧ g 1 = f 1 ∧ g 2 = f 2 := by
  have e : p.toInt.toNat = 1302 := by omega
  rw [e] at hi
  refine ⟨fun z hz => ?_, by rw [hi 1, if_neg (by omega)], by rw [hi 2, if_neg (by omega)]⟩
  by_cases q : z * 1302 = b
  · refine S8_cong (p := f) (fun j hj => ?_) hB.first
    show g (z * 1302 + j) = f j
    rw [hi, if_pos (by omega), show z * 1302 + j - b = j by omega]
  · refine S8_cong (p := fun j => f (z * 1302 + j)) (fun j hj => ?_) (hB z hz)
    show g (z * 1302 + j) = f (z * 1302 + j)
    rw [hi, if_neg (by omega)]
