/-! what a fresh object answers, and small facts -/
theorem in_n {k n : Nat} (h : k < n) (hn : n < 2 ^ 31) : vp_in (nI k) n := nI_in h hn
theorem in_k {x : Int32} {k n : Nat} (hx : x = nI k) (h : k < n) (hn : n < 2 ^ 31) : vp_in x n := by rw [hx]; exact nI_in h hn
theorem upd_z (k : Nat) : upd (fun _ => 0) k 0 = fun _ => 0 := by
  funext j
  unfold upd
  split <;> rfl
/-- the reference's row of numbers while it is made plain: h HOLDS behind -/
def plh (h : Nat) : Nat → Int32 := fun k => if (59 ≤ k ∧ k < 59 + h) ∨ (73 ≤ k ∧ k < 73 + h) then -1 else 0
theorem plh_0 : (fun _ => 0) = plh 0 := by
  funext j
  unfold plh
  rw [if_neg (by omega)]
theorem plh_s (k : Nat) : upd (upd (plh k) (59 + k) (-1)) (73 + k) (-1) = plh (k + 1) := by
  funext j
  unfold upd plh
  by_cases h1 : j = 73 + k
  · rw [if_pos h1, if_pos (by omega)]
  · rw [if_neg h1]
    by_cases h2 : j = 59 + k
    · rw [if_pos h2, if_pos (by omega)]
    · rw [if_neg h2]
      by_cases h3 : (59 ≤ j ∧ j < 59 + k) ∨ (73 ≤ j ∧ j < 73 + k)
      · rw [if_pos h3, if_pos (by omega)]
      · rw [if_neg h3, if_neg (by omega)]
def F_wall (n : Int32) : Int32 := if n.toInt = 0 then 0 else -3
def F_fault (w : Int32) : Int32 := if w.toInt = 0 then 0 else -1
def F_judge (t w : Int32) : Int32 := if t.toInt < 0 ∨ 3 < t.toInt ∨ w.toInt < 0 ∨ 2 < w.toInt then -2 else -6
def F_tray (t : Int32) : Int32 := if t.toInt < 0 ∨ 3 < t.toInt then -2 else -6
theorem F_tray_n {t : Int32} (h : F_tray t = 0) : False := by
  unfold F_tray at h
  split at h <;> exact absurd h (by decide)
def F_days (n : Int32) : Int32 := if n.toInt < 1 ∨ 99 < n.toInt then -3 else n
def F_rain (n : Int32) : Int32 := if n.toInt < 1 ∨ 14 < n.toInt then -3 else 0
def F_season (n : Int32) : Int32 := if n.toInt < 1 ∨ 40 < n.toInt then -3 else -5
def F_whose (w : Int32) : Int32 := if w.toInt = 0 then 0 else -3
def F_inTurn (w k : Int32) : Int32 := if ¬ w.toInt = 0 then -3 else if k.toInt = 0 then 0 else if 10 ≤ k.toInt ∧ k.toInt ≤ 14 then -1 else -2
def F_numbers (t w n : Int32) : Int32 := if t.toInt < 0 ∨ 3 < t.toInt ∨ w.toInt < 0 ∨ 3 < w.toInt then -2 else if n.toInt < 0 ∨ 40 < n.toInt then -3 else 0
def F_write (t : Int32) : Int64 := (F_tray t).toInt64
def F_image (i : Int32) : Int32 := if i.toInt < 0 ∨ 1 < i.toInt then -2 else 0
def F_restore (i : Int32) : Int32 := if i.toInt < 0 ∨ 1 < i.toInt then -2 else -5
def F_count (w : Int32) : Int32 := if 0 ≤ w.toInt ∧ w.toInt ≤ 9 then 0 else -1
def F_isTray (t : Int32) : Int32 := if 0 ≤ t.toInt ∧ t.toInt ≤ 3 then 1 else 0
theorem F_isTray_0 {t : Int32} (h : F_isTray t = 0) : t.toInt < 0 ∨ 3 < t.toInt := by
  unfold F_isTray at h
  split at h
  · exact absurd h (by decide)
  · omega
theorem F_isTray_1 {t : Int32} (h : ¬ F_isTray t = 0) : 0 ≤ t.toInt ∧ t.toInt ≤ 3 := by
  unfold F_isTray at h
  split at h
  · omega
  · exact absurd rfl h
def F_isImage (t : Int32) : Int32 := if 0 ≤ t.toInt ∧ t.toInt ≤ 1 then 1 else 0
theorem F_isImage_0 {t : Int32} (h : F_isImage t = 0) : t.toInt < 0 ∨ 1 < t.toInt := by
  unfold F_isImage at h
  split at h
  · exact absurd h (by decide)
  · omega
theorem F_isImage_1 {t : Int32} (h : ¬ F_isImage t = 0) : 0 ≤ t.toInt ∧ t.toInt ≤ 1 := by
  unfold F_isImage at h
  split at h
  · omega
  · exact absurd rfl h
def F_asks5 (t : Int32) : Int32 := if t.toInt = 0 ∨ (10 ≤ t.toInt ∧ t.toInt ≤ 14) then 1 else 0
theorem F_asks5_0 {t : Int32} (h : F_asks5 t = 0) : ¬ t.toInt = 0 ∧ (t.toInt < 10 ∨ 14 < t.toInt) := by
  unfold F_asks5 at h
  split at h
  · exact absurd h (by decide)
  · omega
theorem F_asks5_1 {t : Int32} (h : ¬ F_asks5 t = 0) : t.toInt = 0 ∨ (10 ≤ t.toInt ∧ t.toInt ≤ 14) := by
  unfold F_asks5 at h
  split at h
  · omega
  · exact absurd rfl h
def F_isSet (t : Int32) : Int32 := if t.toInt = 0 then 1 else 0
theorem F_isSet_0 {t : Int32} (h : F_isSet t = 0) : ¬ t.toInt = 0 := by
  unfold F_isSet at h
  split at h
  · exact absurd h (by decide)
  · omega
theorem F_isSet_1 {t : Int32} (h : ¬ F_isSet t = 0) : t.toInt = 0 := by
  unfold F_isSet at h
  split at h
  · omega
  · exact absurd rfl h
theorem lg_self (x : Int64) : lg_cmp x x = 0 := (lg_cmp_eq x x).mpr rfl
/-- the reference's sorts of its TRAYS at first -/
def rs4 : Nat → Int32 := upd (upd (upd (upd (fun _ => 0) 0 (-1)) 1 (-1)) 2 (-1)) 3 (-1)
theorem rs4_at {t : Int32} (h0 : 0 ≤ t.toInt) (h3 : t.toInt ≤ 3) : rs4 t.toNatClampNeg = -1 := by
  have h : t.toNatClampNeg = t.toInt.toNat := rfl
  rcases (show t.toInt.toNat = 0 ∨ t.toInt.toNat = 1 ∨ t.toInt.toNat = 2 ∨ t.toInt.toNat = 3 by omega) with q | q | q | q <;> rw [h, q] <;> rfl
theorem in40 {t k v w : Int32} (h0 : 0 ≤ t.toInt) (h3 : t.toInt ≤ 3) (e1 : v = 40 * t) (e2 : w = v + k) (hz : (decide (40 * 0 + k < 0) || decide (160 ≤ (40 * 0 + k).toNatClampNeg) || (decide (40 * 1 + k < 0) || decide (160 ≤ (40 * 1 + k).toNatClampNeg)) || (decide (40 * 2 + k < 0) || decide (160 ≤ (40 * 2 + k).toNatClampNeg)) || (decide (40 * 3 + k < 0) || decide (160 ≤ (40 * 3 + k).toNatClampNeg))) = false) : vp_in w 160 := by
  simp only [Bool.or_eq_false_iff, decide_eq_false_iff_not] at hz
  obtain ⟨⟨⟨⟨a1, a2⟩, b1, b2⟩, c1, c2⟩, d1, d2⟩ := hz
  have ht : t = 0 ∨ t = 1 ∨ t = 2 ∨ t = 3 := by
    rcases (show t.toInt = 0 ∨ t.toInt = 1 ∨ t.toInt = 2 ∨ t.toInt = 3 by omega) with q | q | q | q
    · exact Or.inl (Int32.toInt_inj.mp (q.trans (by decide)))
    · exact Or.inr (Or.inl (Int32.toInt_inj.mp (q.trans (by decide))))
    · exact Or.inr (Or.inr (Or.inl (Int32.toInt_inj.mp (q.trans (by decide)))))
    · exact Or.inr (Or.inr (Or.inr (Int32.toInt_inj.mp (q.trans (by decide)))))
  subst e2 e1
  intro q
  rcases ht with rfl | rfl | rfl | rfl
  · exact q.elim a1 a2
  · exact q.elim b1 b2
  · exact q.elim c1 c2
  · exact q.elim d1 d2
def plc : Nat → Int32 := plh 14
theorem plc_s (k : Nat) (h : k < 14) : upd (upd plc (59 + k) (-1)) (73 + k) (-1) = plc := by
  funext j
  unfold plc upd plh
  by_cases h1 : j = 73 + k
  · rw [if_pos h1, if_pos (by omega)]
  · rw [if_neg h1]
    by_cases h2 : j = 59 + k
    · rw [if_pos h2, if_pos (by omega)]
    · rw [if_neg h2]
theorem ar_of {t : FieldType} {args : Array Value} {s : State} (h : (Cond.arrayClass t).before args s = true) (hp : ∀ (U : State) (k : ClassId), U.vm.findClass ("[" ++ t.toString) = some k → va_RA U k t) : ∃ cA : ClassId, ArrOfT s cA t ∧ va_RA s cA t := by
  obtain ⟨c, k, comp, h1, h2, h3⟩ := Cond.arrayClass_spec h
  exact ⟨c, fun n z => ⟨fun k h => (by cases h), k, h2, comp, h3⟩, hp s c h1⟩
theorem ao_of {C : String} {s : State} (h : va_AO C s) : ∃ cA : ClassId, ArrOfT s cA (.object C) ∧ va_RA s cA (.object C) := by
  obtain ⟨comp, c, k, h1, _, h3, h4, h5⟩ := Cond.arrayOver_spec h
  exact ⟨c, fun n z => ⟨fun k h => (by cases h), k, h3, comp, h4⟩, k, comp, h3, h4, h1, h5⟩
