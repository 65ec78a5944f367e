/-! A typed heap: which cell is of which kind; all that calls need to know for coming back. My own. -/
abbrev Tg : Type := Nat × Nat × Nat
abbrev TF : Type := Nat → Option Tg
abbrev CS : Type := ClassId × ClassId × ClassId × ClassId × ClassId × ClassId × ClassId × ClassId
abbrev FT : Type := TF → Value → Prop
def Tle (T T' : TF) : Prop := ∀ (a : Nat) (tg : Tg), T a = some tg → T' a = some tg
/-- bounds of the numbers in an array of ints, by a number -/
def cpl (k : Nat) : Int := match k with
  | 0 => -2147483648
  | 1 => 0
  | 2 => -14
  | 3 => 0
  | 4 => -1
  | 5 => 0
  | 6 => 0
  | 7 => 0
  | 8 => 0
  | 9 => -2147483648
  | _ => 0
def cph (k : Nat) : Int := match k with
  | 0 => 2147483647
  | 1 => 16383
  | 2 => 13
  | 3 => 27
  | 4 => 27
  | 5 => 32
  | 6 => 40
  | 7 => 13
  | 8 => 99
  | 9 => 2147483647
  | _ => 0
def cp (k : Nat) (x : Int32) : Prop := cpl k ≤ x.toInt ∧ x.toInt ≤ cph k
def mono (P : FT) : Prop := ∀ (T T' : TF) (v : Value), Tle T T' → P T v → P T' v
def fI (lo hi : Int) : FT := fun _ v => ∃ x : Int32, v = .int x ∧ lo ≤ x.toInt ∧ x.toInt ≤ hi
def fA : FT := fun _ v => ∃ x : Int32, v = .int x
def fE (n : Nat) : FT := fun _ v => v = .int (nI n)
def fN : FT := fun _ v => v = .null
def fR (tg : Tg) : FT := fun T v => ∃ a : Nat, v = .ref a ∧ T a = some tg
/-- a wall that is made -/
def isW (T : TF) (a h g : Nat) : Prop := T a = some (19, h, g) ∧ h ≤ 14 ∧ g ≤ 5
def fW : FT := fun T v => ∃ a h g : Nat, v = .ref a ∧ isW T a h g
/-- a law, or none -/
def fLw : FT := fun T v => v = .null ∨ ∃ a n : Nat, v = .ref a ∧ T a = some (12, n, 0) ∧ n ≤ 900
def fP (n : Nat) : FT := fun _ v => v = .ref n
/-- a reader with its draft -/
def fRd : FT := fun T v => ∃ a d : Nat, v = .ref a ∧ T a = some (14, d, 0) ∧ T d = some (19, 100, 0)
theorem mRd : mono fRd := fun _ _ _ h ⟨a, d, e, t, u⟩ => ⟨a, d, e, h _ _ t, h _ _ u⟩
theorem mP (n : Nat) : mono (fP n) := fun _ _ _ _ h => h
theorem mI (lo hi : Int) : mono (fI lo hi) := fun _ _ _ _ h => h
theorem mA : mono fA := fun _ _ _ _ h => h
theorem mE (n : Nat) : mono (fE n) := fun _ _ _ _ h => h
theorem mN : mono fN := fun _ _ _ _ h => h
theorem mR (tg : Tg) : mono (fR tg) := fun _ _ _ h ⟨a, e, t⟩ => ⟨a, e, h _ _ t⟩
theorem mW : mono fW := fun _ _ _ h ⟨a, hh, g, e, t, b⟩ => ⟨a, hh, g, e, h _ _ t, b⟩
theorem mL : mono fLw := fun _ _ _ h q => q.elim Or.inl (fun ⟨a, n, e, t, b⟩ => Or.inr ⟨a, n, e, h _ _ t, b⟩)
/-- how much lies on the tape: told by the kind of the cell q, or by q -/
def fTL (q : Nat) : FT := fun T v => ∃ x : Int32, v = .int x ∧ 0 ≤ x.toInt ∧ x.toInt ≤ 900 ∧ T q = some (10, x.toInt.toNat, 0)
def fTM (q : Nat) : FT := fun _ v => ∃ x : Int32, v = .int x ∧ 0 ≤ x.toInt ∧ x.toInt ≤ 900 ∧ x.toInt = ((q % 1024 : Nat) : Int)
/-- the fault of the latest text, its place -/
def fFK (q : Nat) : FT := fun _ v => ∃ x : Int32, v = .int x ∧ x.toInt = ((q / 1024 % 8 : Nat) : Int)
def fFP (q : Nat) : FT := fun _ v => ∃ x : Int32, v = .int x ∧ x.toInt = ((q / 8192 : Nat) : Int) - 1
theorem mTL (q : Nat) : mono (fTL q) := fun _ _ _ h ⟨x, e, a, b, t⟩ => ⟨x, e, a, b, h _ _ t⟩
theorem tl_eq {T : TF} {q n m : Nat} (h : T q = some (10, n, 0)) (k : T q = some (10, m, 0)) : n = m := by
  rw [h] at k
  cases k
  rfl
theorem tl_of {T : TF} {q n : Nat} {x : Int32} (h : T q = some (10, n, 0)) (e : x.toInt = (n : Int)) : T q = some (10, x.toInt.toNat, 0) := by rw [h, show x.toInt.toNat = n by omega]
theorem mTM (q : Nat) : mono (fTM q) := fun _ _ _ _ h => h
theorem mFK (q : Nat) : mono (fFK q) := fun _ _ _ _ h => h
theorem mFP (q : Nat) : mono (fFP q) := fun _ _ _ _ h => h
/-- all of a list of kinds grow with what is known -/
def monos (l : List FT) : Prop := ∀ P ∈ l, mono P
theorem ms_n : monos [] := fun _ h => absurd h List.not_mem_nil
theorem ms_c {P : FT} {l : List FT} (h : mono P) (hl : monos l) : monos (P :: l) := fun Q hQ => (List.mem_cons.mp hQ).elim (fun q => q ▸ h) (hl Q)
/-- the kinds of the fields of the objects, but those of Tokens and Chains -/
def ft1 (p q : Nat) : List FT := [fR (1, 14, 0), fR (1, 14, 2), fA, fR (1, 28, 3), fI 0 28, fA, fR (1, 28, 4)]
theorem ft1_m (p q : Nat) : monos (ft1 p q) := ms_c (mR _) (ms_c (mR _) (ms_c (mA) (ms_c (mR _) (ms_c (mI _ _) (ms_c (mA) (ms_c (mR _) (ms_n)))))))
def ft2 (p q : Nat) : List FT := [fR (1, p, 0), fR (1, 8, 0), fR (1, 24, 0)]
theorem ft2_m (p q : Nat) : monos (ft2 p q) := ms_c (mR _) (ms_c (mR _) (ms_c (mR _) (ms_n)))
def ft3 (p q : Nat) : List FT := [fR (17, 0, 0), fR (1, 900, 0), fI 0 900]
theorem ft3_m (p q : Nat) : monos (ft3 p q) := ms_c (mR _) (ms_c (mR _) (ms_c (mI _ _) (ms_n)))
def ft4 (p q : Nat) : List FT := [fR (17, 0, 0), fR (13, 0, 0), fP p, fI 0 1, fR (16, 0, 0)]
theorem ft4_m (p q : Nat) : monos (ft4 p q) := ms_c (mR _) (ms_c (mR _) (ms_c (mP _) (ms_c (mI _ _) (ms_c (mR _) (ms_n)))))
def ft5 (p q : Nat) : List FT := [fW, fA, fA, fA, fR (1, 14, 0), fR (1, 14, 1)]
theorem ft5_m (p q : Nat) : monos (ft5 p q) := ms_c (mW) (ms_c (mA) (ms_c (mA) (ms_c (mA) (ms_c (mR _) (ms_c (mR _) (ms_n))))))
def ft6 (p q : Nat) : List FT := [fA, fA, fA, fA, fR (1, 14, 0), fR (1, 14, 0)]
theorem ft6_m (p q : Nat) : monos (ft6 p q) := ms_c (mA) (ms_c (mA) (ms_c (mA) (ms_c (mA) (ms_c (mR _) (ms_c (mR _) (ms_n))))))
def ft8 (p q : Nat) : List FT := [fR (2, 40, 0), fA, fI (-1) 40]
theorem ft8_m (p q : Nat) : monos (ft8 p q) := ms_c (mR _) (ms_c (mA) (ms_c (mI _ _) (ms_n)))
def ft10 (p q : Nat) : List FT := [fR (1, 14, 1), fR (1, 14, 0), fI 0 14, fR (2, 14, 0), fR (1, 14, 0), fR (1, 14, 0), fI 0 14]
theorem ft10_m (p q : Nat) : monos (ft10 p q) := ms_c (mR _) (ms_c (mR _) (ms_c (mI _ _) (ms_c (mR _) (ms_c (mR _) (ms_c (mR _) (ms_c (mI _ _) (ms_n)))))))
def ft11 (p q : Nat) : List FT := [fR (0, 900, 0), fTL q, fRd, fP p, fR (16, 0, 0), fR (16, 0, 0), fR (4, 10, 0), fI 0 10, fI 0 9, fR (5, 2, 0), fR (4, 2, 0), fR (6, 4, 0), fR (7, 5, 0), fR (15, 0, 0), fR (20, 0, 0), fR (11, 0, 0), fP q, fR (1, 5, 0), fR (1, 5, 0), fA]
theorem ft11_m (p q : Nat) : monos (ft11 p q) := ms_c (mR _) (ms_c (mTL _) (ms_c (mRd) (ms_c (mP _) (ms_c (mR _) (ms_c (mR _) (ms_c (mR _) (ms_c (mI _ _) (ms_c (mI _ _) (ms_c (mR _) (ms_c (mR _) (ms_c (mR _) (ms_c (mR _) (ms_c (mR _) (ms_c (mR _) (ms_c (mR _) (ms_c (mP _) (ms_c (mR _) (ms_c (mR _) (ms_c (mA) (ms_n))))))))))))))))))))
def ft12 (p q : Nat) : List FT := [fA, fR (8, 3906, p), fR (3, 2, 0), fR (9, 900, 0), fR (8, 1302, 0), fTM q, fA, fA, fA, fA, fI 0 999, fA, fA, fFK q, fFP q, fR (1, 900, 0), fA, fR (9, 14, 1), fR (9, 14, 8), fR (1, 14, 7), fI 0 14, fR (1, 31, 0), fR (1, 31, 0), fA, fA, fA, fR (2, 229376, 0), fR (3, 16384, 0), fR (0, 229376, 0), fR (1, 5, 0), fR (1, 5, 0), fR (1, 186, 0), fA, fR (1, 4, 0), fR (1, 4, 6), fR (2, 160, 0)]
theorem ft12_m (p q : Nat) : monos (ft12 p q) := ms_c (mA) (ms_c (mR _) (ms_c (mR _) (ms_c (mR _) (ms_c (mR _) (ms_c (mTM _) (ms_c (mA) (ms_c (mA) (ms_c (mA) (ms_c (mA) (ms_c (mI _ _) (ms_c (mA) (ms_c (mA) (ms_c (mFK _) (ms_c (mFP _) (ms_c (mR _) (ms_c (mA) (ms_c (mR _) (ms_c (mR _) (ms_c (mR _) (ms_c (mI _ _) (ms_c (mR _) (ms_c (mR _) (ms_c (mA) (ms_c (mA) (ms_c (mA) (ms_c (mR _) (ms_c (mR _) (ms_c (mR _) (ms_c (mR _) (ms_c (mR _) (ms_c (mR _) (ms_c (mA) (ms_c (mR _) (ms_c (mR _) (ms_c (mR _) (ms_n))))))))))))))))))))))))))))))))))))
def ft9w (p q : Nat) : List FT := [fE p, fE q, fA, fI 0 16383, fI 0 16383, fI 0 16383, fR (1, p, 0), fR (1, p, 0), fR (1, p, 0), fR (1, q, 0), fR (1, q, 0), fLw, fI 0 1, fI 0 1]
theorem ft9w_m (p q : Nat) : monos (ft9w p q) := ms_c (mE _) (ms_c (mE _) (ms_c (mA) (ms_c (mI _ _) (ms_c (mI _ _) (ms_c (mI _ _) (ms_c (mR _) (ms_c (mR _) (ms_c (mR _) (ms_c (mR _) (ms_c (mR _) (ms_c (mL) (ms_c (mI _ _) (ms_c (mI _ _) (ms_n))))))))))))))
def ft9d (p q : Nat) : List FT := [fI 0 14, fI 0 5, fA, fI 0 16383, fI 0 16383, fI 0 16383, fR (1, 14, 0), fR (1, 14, 0), fR (1, 14, 0), fR (1, 5, 0), fR (1, 5, 9), fN, fI 0 1, fI 0 1]
theorem ft9d_m (p q : Nat) : monos (ft9d p q) := ms_c (mI _ _) (ms_c (mI _ _) (ms_c (mA) (ms_c (mI _ _) (ms_c (mI _ _) (ms_c (mI _ _) (ms_c (mR _) (ms_c (mR _) (ms_c (mR _) (ms_c (mR _) (ms_c (mR _) (ms_c (mN) (ms_c (mI _ _) (ms_c (mI _ _) (ms_n))))))))))))))
def ft9 (p q : Nat) : List FT := if p = 100 then ft9d p q else ft9w p q
theorem ft9_m (p q : Nat) : monos (ft9 p q) := by
  unfold ft9
  split
  · exact ft9d_m p q
  · exact ft9w_m p q
def fts (c p q : Nat) : List FT := match c with
  | 1 => ft1 p q
  | 2 => ft2 p q
  | 3 => ft3 p q
  | 4 => ft4 p q
  | 5 => ft5 p q
  | 6 => ft6 p q
  | 8 => ft8 p q
  | 9 => ft9 p q
  | 10 => ft10 p q
  | 11 => ft11 p q
  | 12 => ft12 p q
  | _ => []
theorem fts_m (c p q : Nat) : monos (fts c p q) := by
  unfold fts
  split <;> first | exact ft1_m p q | exact ft2_m p q | exact ft3_m p q | exact ft4_m p q | exact ft5_m p q | exact ft6_m p q | exact ft8_m p q | exact ft9_m p q | exact ft10_m p q | exact ft11_m p q | exact ft12_m p q | exact ms_n
/-- a list of values by a list of kinds -/
def okL (T : TF) (l : List FT) (fs : List Value) : Prop := fs.length = l.length ∧ ∀ (k : Nat) (P : FT) (v : Value), l[k]? = some P → fs[k]? = some v → P T v
/-- of Tokens (7) and Chains (0), whose fields are bound to each other -/
def ob (T : TF) (c p q : Nat) (fs : List Value) : Prop := match c with
  | 0 => ∃ (a b d n : Nat) (x : Int32), fs = [.ref a, .int x, .ref b, .ref d] ∧ T a = some (1, n, 0) ∧ T b = some (1, 14, 1) ∧ T d = some (1, 14, 0) ∧ n ≤ 32768 ∧ 0 ≤ x.toInt ∧ x.toInt < n ∧ x.toInt ≤ 16383
  | 7 => ∃ (a n : Nat) (x1 x2 x3 x4 x5 x6 x7 : Int32), fs = [.ref a, .int x1, .int x2, .int x3, .int x4, .int x5, .int x6, .int x7] ∧ T a = some (0, n, 0) ∧ n ≤ 900 ∧ 0 ≤ x1.toInt ∧ x1.toInt ≤ n ∧ 0 ≤ x2.toInt ∧ x2.toInt ≤ 900 ∧ 0 ≤ x3.toInt ∧ x3.toInt ≤ n
  | c => okL T (fts c p q) fs
theorem ob9w {T : TF} {a h g : Nat} (hw : isW T a h g) (fs : List Value) : ob T 9 h g fs ↔ okL T (ft9w h g) fs := by
  show okL T (ft9 h g) fs ↔ okL T (ft9w h g) fs
  unfold ft9
  rw [if_neg (by have := hw.2.1; omega)]
theorem ob9d {T : TF} (fs : List Value) : ob T 9 100 0 fs ↔ okL T (ft9d 100 0) fs := by
  show okL T (ft9 100 0) fs ↔ okL T (ft9d 100 0) fs
  unfold ft9
  rw [if_pos rfl]
/-- the reference's code of a law: how many operands wait behind its first k numbers -/
def dpn (g : Nat → Int32) : Nat → Int
  | 0 => 0
  | k + 1 => dpn g k + (if (g (402 + k)).toInt < 3000 then 1 else if (g (402 + k)).toInt = 3008 then 0 else -1)
def wfc (g : Nat → Int32) : Prop := ∀ k : Nat, (k : Int) < (g 401).toInt → 3000 ≤ (g (402 + k)).toInt → 1 ≤ dpn g k ∧ ((g (402 + k)).toInt ≠ 3008 → 2 ≤ dpn g k)
/-- the numbers of a wall in the reference -/
def S8 (g : Nat → Int32) : Prop := (0 ≤ (g 1).toInt ∧ (g 1).toInt ≤ 14) ∧ (0 ≤ (g 2).toInt ∧ (g 2).toInt ≤ 5) ∧ (0 ≤ (g 4).toInt ∧ (g 4).toInt ≤ 16383) ∧ (0 ≤ (g 5).toInt ∧ (g 5).toInt ≤ 16383) ∧ (0 ≤ (g 6).toInt ∧ (g 6).toInt ≤ 16383) ∧ (0 ≤ (g 90).toInt ∧ (g 90).toInt ≤ 10) ∧ (0 ≤ (g 401).toInt ∧ (g 401).toInt ≤ 900) ∧ wfc g
def B8 (n : Nat) (f : Nat → Int32) : Prop := ∀ z : Nat, z * 1302 < n → S8 (fun j => f (z * 1302 + j))
def sp (cs : CS) (T : TF) (tg : Tg) (e : va_E) : Prop := match tg with
  | (0, n, _) => ∃ f : Nat → Int32, e = .inl (cs.1, n, .inl f)
  | (1, n, k) => ∃ f : Nat → Int32, e = .inl (cs.2.1, n, .inl f) ∧ ∀ j, cp k (f j)
  | (2, n, _) => ∃ f : Nat → Int64, e = .inl (cs.2.2.1, n, .inr (.inl f))
  | (3, n, _) => ∃ f : Nat → Int32, e = .inl (cs.2.2.2.1, n, .inl f)
  | (4, n, _) => ∃ f : Nat → Option Nat, e = .inl (cs.2.2.2.2.1, n, .inr (.inr (.inr (.inr f)))) ∧ ∀ j, j < n → ∃ a, f j = some a ∧ T a = some (16, 0, 0)
  | (5, n, _) => ∃ f : Nat → Option Nat, e = .inl (cs.2.2.2.2.2.1, n, .inr (.inr (.inr (.inr f)))) ∧ ∀ j a, f j = some a → ∃ h g, isW T a h g
  | (6, n, _) => ∃ f : Nat → Option Nat, e = .inl (cs.2.2.2.2.2.2.1, n, .inr (.inr (.inr (.inr f)))) ∧ ∀ j, j < n → ∃ a, f j = some a ∧ T a = some (18, 0, 0)
  | (7, n, _) => ∃ f : Nat → Option Nat, e = .inl (cs.2.2.2.2.2.2.2, n, .inr (.inr (.inr (.inr f)))) ∧ ∀ j, j < n → ∃ a, f j = some a ∧ T a = some (15, 0, 0)
  | (8, n, q) => ∃ f : Nat → Int32, e = .inl (cs.2.1, n, .inl f) ∧ B8 n f ∧ (n = 3906 → f 1 = nI (q / 6) ∧ f 2 = nI (q % 6))
  | (9, n, k) => ∃ f : Nat → Int32, e = .inl (cs.2.1, n, .inl f) ∧ ∀ j, cp k (f j)
  | (c + 10, p, q) => ∃ fs : List Value, e = .inr (c, fs) ∧ ob T c p q fs
theorem okL_le {T T' : TF} (h : Tle T T') {l : List FT} (hm : monos l) {fs : List Value} (ho : okL T l fs) : okL T' l fs := ⟨ho.1, fun k P v h1 h2 => hm P (List.mem_of_getElem? h1) T T' v h (ho.2 k P v h1 h2)⟩
theorem ob_le {T T' : TF} (h : Tle T T') {c p q : Nat} {fs : List Value} (ho : ob T c p q fs) : ob T' c p q fs := by
  unfold ob at ho ⊢
  split at ho
  · obtain ⟨a, b, d, n, x, e, t1, t2, t3, r⟩ := ho
    exact ⟨a, b, d, n, x, e, h _ _ t1, h _ _ t2, h _ _ t3, r⟩
  · obtain ⟨a, n, x1, x2, x3, x4, x5, x6, x7, e, t, r⟩ := ho
    exact ⟨a, n, x1, x2, x3, x4, x5, x6, x7, e, h _ _ t, r⟩
  · exact okL_le h (fts_m _ _ _) ho
theorem sp_le {cs : CS} {T T' : TF} (h : Tle T T') {tg : Tg} {e : va_E} (hs : sp cs T tg e) : sp cs T' tg e := by
  unfold sp at hs ⊢
  split at hs
  · exact hs
  · exact hs
  · exact hs
  · exact hs
  · obtain ⟨f, e1, g⟩ := hs
    exact ⟨f, e1, fun j hj => by obtain ⟨a, x, y⟩ := g j hj; exact ⟨a, x, h _ _ y⟩⟩
  · obtain ⟨f, e1, g⟩ := hs
    exact ⟨f, e1, fun j a hj => by obtain ⟨hh, g2, x, y⟩ := g j a hj; exact ⟨hh, g2, h _ _ x, y⟩⟩
  · obtain ⟨f, e1, g⟩ := hs
    exact ⟨f, e1, fun j hj => by obtain ⟨a, x, y⟩ := g j hj; exact ⟨a, x, h _ _ y⟩⟩
  · obtain ⟨f, e1, g⟩ := hs
    exact ⟨f, e1, fun j hj => by obtain ⟨a, x, y⟩ := g j hj; exact ⟨a, x, h _ _ y⟩⟩
  · exact hs
  · exact hs
  · obtain ⟨fs, e1, g⟩ := hs
    exact ⟨fs, e1, ob_le h g⟩
/-- the heap holds the cells X just so, and those of T, but the taken ones O, each by its kind -/
def HT (D : va_G) (cs : CS) (A : Nat → Prop) (T : TF) (O : List Nat) (X : va_W) (H : Heap) : Prop :=
  ∃ ws : va_W, va_P D cls (X ++ ws) H ∧ va_D A (X ++ ws) ∧ (∀ (a : Nat) (tg : Tg), T a = some tg → a ∉ O → ∃ (k : Nat) (e : va_E), ws[k]? = some (a, e) ∧ sp cs T tg e) ∧ ∀ (k : Nat) (q : Nat × va_E), ws[k]? = some q → ∃ tg, T q.1 = some tg
def AT (T : TF) (O : List Nat) (X : va_W) (sz : Nat) : Nat → Prop := fun q => (∃ tg, T q = some tg ∧ q ∉ O) ∨ (∃ (k : Nat) (e : va_E), X[k]? = some (q, e)) ∨ sz ≤ q
theorem HT.weaken {D : va_G} {cs : CS} {A B : Nat → Prop} {T : TF} {O : List Nat} {X : va_W} {H : Heap} (h : HT D cs A T O X H) (hAB : ∀ q, A q → B q) : HT D cs B T O X H := by
  obtain ⟨ws, h1, h2, h3, h4⟩ := h
  exact ⟨ws, h1, h2.weaken (fun _ q _ z => hAB q.1 z), h3, h4⟩
theorem HT.self {D : va_G} {cs : CS} {A : Nat → Prop} {T : TF} {O : List Nat} {X : va_W} {H : Heap} {sz : Nat} (h : HT D cs A T O X H) (hOX : ∀ o ∈ O, ∃ (k : Nat) (e : va_E), X[k]? = some (o, e)) : HT D cs (AT T O X sz) T O X H := by
  obtain ⟨ws, h1, h2, h3, h4⟩ := h
  refine ⟨ws, h1, ⟨h2.1, fun k q hk => ?_⟩, h3, h4⟩
  by_cases hl : k < X.length
  · rw [List.getElem?_append_left hl] at hk
    exact Or.inr (Or.inl ⟨k, q.2, hk⟩)
  · rw [List.getElem?_append_right (by omega)] at hk
    by_cases ho : q.1 ∈ O
    · obtain ⟨k2, e2, hx⟩ := hOX _ ho
      exact Or.inr (Or.inl ⟨k2, e2, hx⟩)
    · obtain ⟨tg, ht⟩ := h4 _ _ hk
      exact Or.inl ⟨tg, ht, ho⟩
theorem HT.in {D : va_G} {cs : CS} {A : Nat → Prop} {T : TF} {O : List Nat} {X : va_W} {H H0 : Heap} {locs : List Loc} (h : HT D cs A T O X H) (hS : va_S A H0 H locs) (hA : ∀ q, H0.size ≤ q → A q) : ∀ q, AT T O X H.size q → A q := by
  obtain ⟨ws, h1, h2, h3, h4⟩ := h
  intro q hq
  rcases hq with ⟨tg, hq, ho⟩ | ⟨k, e, hq⟩ | hq
  · obtain ⟨k, e, hk, -⟩ := h3 q tg hq ho
    exact h2.2 (X.length + k) (q, e) (by rw [List.getElem?_append_right (by omega), show X.length + k - X.length = k by omega]; exact hk)
  · have hl : k < X.length := (List.getElem?_eq_some_iff.mp hq).1
    exact h2.2 k (q, e) (by rw [List.getElem?_append_left hl]; exact hq)
  · exact hA q (Nat.le_trans hS.1 hq)
theorem ap_r {X ws : va_W} {j : Nat} {q : Nat × va_E} (h : ws[j]? = some q) : (X ++ ws)[X.length + j]? = some q := by rw [List.getElem?_append_right (by omega), show X.length + j - X.length = j by omega]; exact h
theorem ap_set {X ws : va_W} {j : Nat} {q : Nat × va_E} : (X ++ ws).set (X.length + j) q = X ++ ws.set j q := by rw [List.set_append_right _ _ (by omega), show X.length + j - X.length = j by omega]
/-- a cell of a kind is written, and stays of its kind -/
theorem HT.put {D : va_G} {cs : CS} {A : Nat → Prop} {T : TF} {O : List Nat} {X ws : va_W} {H1 : Heap} {j a : Nat} {tg : Tg} {e e1 : va_E} (hj : ws[j]? = some (a, e)) (ht : T a = some tg) (h3 : ∀ (a : Nat) (tg : Tg), T a = some tg → a ∉ O → ∃ (k : Nat) (e : va_E), ws[k]? = some (a, e) ∧ sp cs T tg e) (h4 : ∀ (k : Nat) (q : Nat × va_E), ws[k]? = some q → ∃ tg, T q.1 = some tg) (hs : sp cs T tg e1)
    (hP : va_P D cls ((X ++ ws).set (X.length + j) (a, e1)) H1) (hD : va_D A ((X ++ ws).set (X.length + j) (a, e1))) : HT D cs A T O X H1 := by
  rw [ap_set] at hP hD
  have hl : j < ws.length := (List.getElem?_eq_some_iff.mp hj).1
  refine ⟨ws.set j (a, e1), hP, hD, fun b tb hb hO => ?_, fun k q hk => ?_⟩
  · obtain ⟨k, eb, hk, hsb⟩ := h3 b tb hb hO
    by_cases hkj : j = k
    · subst hkj
      have hab : b = a := by rw [hj] at hk; exact (Prod.mk.inj (Option.some.inj hk)).1.symm
      subst hab
      have : tb = tg := Option.some.inj (hb.symm.trans ht)
      subst this
      exact ⟨j, e1, by rw [List.getElem?_set_self hl], hs⟩
    · exact ⟨k, eb, by rw [List.getElem?_set_ne hkj]; exact hk, hsb⟩
  · by_cases hkj : j = k
    · subst hkj
      rw [List.getElem?_set_self hl] at hk
      cases hk
      exact ⟨tg, ht⟩
    · rw [List.getElem?_set_ne hkj] at hk
      exact h4 k q hk
/-- the tapes: taken out at all times -/
def okT (tg : Tg) : Prop := (tg.1 = 0 ∨ tg.1 = 9) ∧ tg.2.1 = 900
/-- the kinds K, but for the tapes, are none of the taken ones -/
def okO (T : TF) (O : List Nat) (K : List Nat) : Prop := ∀ o ∈ O, ∃ tg, T o = some tg ∧ (tg.1 ∉ K ∨ okT tg)
theorem okO.no {T : TF} {O K : List Nat} (h : okO T O K) {a k p q : Nat} (ha : T a = some (k, p, q)) (hk : k ∈ K ∧ k ≠ 0 ∧ k ≠ 9) : a ∉ O := fun ho => by
  obtain ⟨tg, h1, h2⟩ := h a ho
  rw [ha] at h1
  cases h1
  rcases h2 with h2 | h2
  · exact h2 hk.1
  · rcases h2.1 with q1 | q1
    · exact hk.2.1 q1
    · exact hk.2.2 q1
theorem okO.no9 {T : TF} {O K : List Nat} (h : okO T O K) {a k p q : Nat} (ha : T a = some (k, p, q)) (hk : k ∈ K ∧ p ≠ 900) : a ∉ O := fun ho => by
  obtain ⟨tg, h1, h2⟩ := h a ho
  rw [ha] at h1
  cases h1
  rcases h2 with h2 | h2
  · exact h2 hk.1
  · exact hk.2 h2.2
theorem okO.sub {T : TF} {O K K' : List Nat} (h : okO T O K) (hs : ∀ k ∈ K', k ∈ K) : okO T O K' := fun o ho => by
  obtain ⟨tg, h1, h2⟩ := h o ho
  exact ⟨tg, h1, h2.imp (fun h3 q => h3 (hs _ q)) id⟩
theorem okO.cons {T : TF} {O K : List Nat} (h : okO T O K) {a k p q : Nat} (ha : T a = some (k, p, q)) (hk : k ∉ K) : okO T (a :: O) K := fun o ho => by
  rcases List.mem_cons.mp ho with rfl | ho
  · exact ⟨_, ha, Or.inl hk⟩
  · exact h o ho
theorem okO.consT {T : TF} {O K : List Nat} (h : okO T O K) {a k q : Nat} (ha : T a = some (k, 900, q)) (hk : k = 0 ∨ k = 9) : okO T (a :: O) K := fun o ho => by
  rcases List.mem_cons.mp ho with rfl | ho
  · exact ⟨_, ha, Or.inr ⟨hk, rfl⟩⟩
  · exact h o ho
theorem okO.pm {T : TF} {O O' K : List Nat} (h : okO T O K) (hs : ∀ a ∈ O', a ∈ O) : okO T O' K := fun o ho => h o (hs o ho)
theorem okL_n {T : TF} : okL T [] [] := ⟨rfl, fun k P v h => by simp at h⟩
theorem okL_c {T : TF} {P : FT} {l : List FT} {v : Value} {fs : List Value} (h : P T v) (hl : okL T l fs) : okL T (P :: l) (v :: fs) := by
  refine ⟨by rw [List.length_cons, List.length_cons, hl.1], fun k P' v' h1 h2 => ?_⟩
  cases k with
  | zero => cases h1; cases h2; exact h
  | succ k => exact hl.2 k P' v' h1 h2
theorem okL_i {T : TF} {P : FT} {l : List FT} {fs : List Value} (h : okL T (P :: l) fs) : ∃ (v : Value) (fs' : List Value), fs = v :: fs' ∧ P T v ∧ okL T l fs' := by
  obtain ⟨h1, h2⟩ := h
  cases fs with
  | nil => simp at h1
  | cons v fs' => exact ⟨v, fs', rfl, h2 0 P v rfl rfl, by simpa using h1, fun k P' v' a b => h2 (k + 1) P' v' a b⟩
theorem okL_z {T : TF} {fs : List Value} (h : okL T [] fs) : fs = [] := List.length_eq_zero_iff.mp h.1
/-- a cell is taken out: it stands among the exact ones -/
theorem HT.take {D : va_G} {cs : CS} {A : Nat → Prop} {T : TF} {O : List Nat} {X : va_W} {H : Heap} {a ci p q : Nat} (h : HT D cs A T O X H) (ha : T a = some (ci + 10, p, q)) (ho : a ∉ O) : ∃ fs, ob T ci p q fs ∧ HT D cs A T (a :: O) ((a, .inr (ci, fs)) :: X) H := by
  obtain ⟨ws, hP, hD, h3, h4⟩ := h
  obtain ⟨j, e0, hj, hs⟩ := h3 a _ ha ho
  obtain ⟨fs, rfl, hob⟩ : ∃ fs : List Value, e0 = .inr (ci, fs) ∧ ob T ci p q fs := hs
  have hl : j < ws.length := (List.getElem?_eq_some_iff.mp hj).1
  -- the others of ws
  have hg : ∀ (k : Nat) (x : Nat × va_E), (((a, Sum.inr (ci, fs)) :: X) ++ ws.eraseIdx j)[k]? = some x → (X ++ ws)[if k = 0 then X.length + j else if k ≤ X.length then k - 1 else if k - 1 - X.length < j then k - 1 else k]? = some x := by
    intro k x hk
    cases k with
    | zero => rw [if_pos rfl, ap_r hj]; simpa using hk
    | succ k =>
      rw [if_neg (by omega)]
      have hk : (X ++ ws.eraseIdx j)[k]? = some x := hk
      by_cases h1 : k < X.length
      · rw [if_pos (by omega)]
        rw [List.getElem?_append_left h1] at hk
        rw [show k + 1 - 1 = k by omega, List.getElem?_append_left h1]
        exact hk
      · rw [if_neg (by omega)]
        rw [List.getElem?_append_right (by omega), List.getElem?_eraseIdx] at hk
        by_cases h2 : k - X.length < j
        · rw [if_pos h2] at hk
          rw [if_pos (by omega), List.getElem?_append_right (by omega)]
          exact hk
        · rw [if_neg h2] at hk
          rw [if_neg (by omega), List.getElem?_append_right (by omega), show k + 1 - X.length = k - X.length + 1 by omega]
          exact hk
  refine ⟨fs, hob, ws.eraseIdx j, hP.by _ hg, hD.by _ hg ?_, fun b tb hb hO => ?_, fun k x hk => ?_⟩
  · intro i1 i2 hi1 hi2 he
    rw [List.length_append, List.length_cons, List.length_eraseIdx, if_pos hl] at hi1 hi2
    split at he <;> split at he <;> (try split at he) <;> (try split at he) <;> (try split at he) <;> (try split at he) <;> omega
  · have hb2 : b ∉ O := fun z => hO (List.mem_cons_of_mem _ z)
    have hba : b ≠ a := fun z => hO (z ▸ List.mem_cons_self)
    obtain ⟨k, eb, hk, hsb⟩ := h3 b tb hb hb2
    have hkj : k ≠ j := fun z => by
      subst z
      rw [hj] at hk
      exact hba (Prod.mk.inj (Option.some.inj hk)).1.symm
    by_cases h1 : k < j
    · exact ⟨k, eb, by rw [List.getElem?_eraseIdx, if_pos h1]; exact hk, hsb⟩
    · exact ⟨k - 1, eb, by rw [List.getElem?_eraseIdx, if_neg (by omega), show k - 1 + 1 = k by omega]; exact hk, hsb⟩
  · rw [List.getElem?_eraseIdx] at hk
    split at hk
    · exact h4 _ _ hk
    · exact h4 _ _ hk
/-- and laid back -/
theorem HT.lay {D : va_G} {cs : CS} {A : Nat → Prop} {T : TF} {O : List Nat} {X : va_W} {H : Heap} {a ci p q : Nat} {fs : List Value} (h : HT D cs A T (a :: O) ((a, .inr (ci, fs)) :: X) H) (ha : T a = some (ci + 10, p, q)) (hob : ob T ci p q fs) : HT D cs A T O X H := by
  obtain ⟨ws, hP, hD, h3, h4⟩ := h
  have hg : ∀ (k : Nat) (x : Nat × va_E), (X ++ (ws ++ [(a, Sum.inr (ci, fs))]))[k]? = some x → (((a, Sum.inr (ci, fs)) :: X) ++ ws)[if k < X.length + ws.length then k + 1 else 0]? = some x := by
    intro k x hk
    rw [← List.append_assoc] at hk
    by_cases h1 : k < X.length + ws.length
    · rw [if_pos h1]
      rw [List.getElem?_append_left (by rw [List.length_append]; exact h1)] at hk
      exact hk
    · rw [if_neg h1]
      rw [List.getElem?_append_right (by rw [List.length_append]; omega)] at hk
      have hz : k - (X ++ ws).length < 1 := (List.getElem?_eq_some_iff.mp hk).1
      rw [show k - (X ++ ws).length = 0 by omega] at hk
      simpa using hk
  refine ⟨ws ++ [(a, .inr (ci, fs))], hP.by _ hg, hD.by _ hg ?_, fun b tb hb hO => ?_, fun k x hk => ?_⟩
  · intro i1 i2 hi1 hi2 he
    simp only [List.length_append, List.length_cons, List.length_nil] at hi1 hi2
    split at he <;> split at he <;> omega
  · by_cases hba : b = a
    · subst hba
      have : tb = (ci + 10, p, q) := Option.some.inj (hb.symm.trans ha)
      subst this
      exact ⟨ws.length, _, by rw [List.getElem?_append_right (Nat.le_refl _)]; simp, ⟨fs, rfl, hob⟩⟩
    · obtain ⟨k, eb, hk, hsb⟩ := h3 b tb hb (fun z => (List.mem_cons.mp z).elim hba hO)
      exact ⟨k, eb, by rw [List.getElem?_append_left (List.getElem?_eq_some_iff.mp hk).1]; exact hk, hsb⟩
  · by_cases h1 : k < ws.length
    · rw [List.getElem?_append_left h1] at hk
      exact h4 _ _ hk
    · rw [List.getElem?_append_right (by omega)] at hk
      have hz : k - ws.length < 1 := (List.getElem?_eq_some_iff.mp hk).1
      rw [show k - ws.length = 0 by omega] at hk
      cases hk
      exact ⟨_, ha⟩
theorem in_t {t : Int32} {n : Nat} (h0 : 0 ≤ t.toInt) (h3 : t.toInt < n) : vp_in t n := by
  intro q
  have h : t.toNatClampNeg = t.toInt.toNat := rfl
  rcases q with q | q
  · have := Int32.lt_iff_toInt_lt.mp q
    have z : (0 : Int32).toInt = 0 := by decide
    omega
  · omega
section ThRows
variable {p : Program} {l : Launch} {e : Env} {R : Room} {s : State} {m : MethodId} {args : Array Value} {below : List Frame} {meth : Method} {c : Code} {H : Heap} {locs : List Loc} {cells slots : Nat} {Q : State → Prop}
variable {cc : ByteArray} {pc : Nat} {ls : Array Slot} {rest : List Value} {D : va_G} {A : Nat → Prop} {a : Nat} {cs : CS} {T : TF} {O : List Nat} {X : va_W} {H0 : Heap}
abbrev tyc (cs : CS) : List (ClassId × FieldType) := tyl cs.1 cs.2.1 cs.2.2.1 cs.2.2.2.1 cs.2.2.2.2.1 cs.2.2.2.2.2.1 cs.2.2.2.2.2.2.1 cs.2.2.2.2.2.2.2
/-- a field of an object of a kind -/
theorem t_get {own ref C : String} {F : u_T} {N ci p0 q0 index : Nat} {P : FT} {lst : List FT} (hx : p.tables.exec = Jvm.exec) (hb : c.code = cc) (hts : ∀ w ∈ gw, w.before args s = true) (hin : ∀ w ∈ u_ws C F N, w ∈ gw) (hown : s.vm.findClass own = some m.cls) (hkb : kb D (tyc cs) s) (hH : HT D cs A T O X H) (ha : T a = some (ci + 10, p0, q0)) (hno : a ∉ O) (hob : ∀ fs, ob T ci p0 q0 fs → okL T lst fs) (hc : cls[ci]? = some (C, F, N)) (hN : lst.length = N) (k : Nat) (hk : k < N) (hf : lst[k]? = some P) (hlink : Cond.fieldLink own index ref (F k).2.1 (F k).2.2.1 ∈ gw) (hsame : ∀ x, s.fieldFound? (F k).1 (F k).2.1 (F k).2.2.1 = some x → s.fieldFound? ref (F k).2.1 (F k).2.2.1 = some x) (hdg : decode cc pc = .ok (.getfield index, 3))
    (kk : ∀ v : Value, P T v → W p l e R s m args below meth c H locs cells slots Q (F0 m (pc + 3) ls (v :: rest))) : W p l e R s m args below meth c H locs cells slots Q (F0 m pc ls (.ref a :: rest)) := by
  obtain ⟨ws, hP, hD, h3, h4⟩ := hH
  obtain ⟨j, e0, hj, hs⟩ := h3 a _ ha hno
  obtain ⟨fs, rfl, ho⟩ : ∃ fs : List Value, e0 = .inr (ci, fs) ∧ ob T ci p0 q0 fs := hs
  have ho := hob fs ho
  have hkl : k < fs.length := by rw [ho.1, hN]; exact hk
  have hv : fs[k]? = some fs[k] := List.getElem?_eq_getElem hkl
  exact va_get (D := D) hx hb hts hin hown hkb.1 hP (X.length + j) (ap_r hj) hc k hk (hts _ hlink) hsame hv hdg (kk _ (ho.2 k P _ hf hv))
end ThRows
