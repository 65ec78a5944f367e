/-! the reference's reader -/
theorem upd_eq {f : Nat → Int32} {k : Nat} {x : Int32} : upd f k x k = x := if_pos rfl
theorem upd_ne {f : Nat → Int32} {k j : Nat} {x : Int32} (h : j ≠ k) : upd f k x j = f j := if_neg h
def seeF (f : Nat → Int32) (n k : Int32) : Int32 := if k.toInt < n.toInt then f k.toInt.toNat else -1
theorem see_lt {f : Nat → Int32} {n k v : Int32} (h : k.toInt < n.toInt) (hv : v = f k.toInt.toNat) : v = seeF f n k := by
  unfold seeF
  rw [if_pos h]
  exact hv
theorem see_ge {f : Nat → Int32} {n k : Int32} (h : n.toInt ≤ k.toInt) : (-1 : Int32) = seeF f n k := by
  unfold seeF
  rw [if_neg (by omega)]
theorem see_same {f : Nat → Int32} {n a b v w : Int32} (hv : v = seeF f n a) (hw : w = seeF f n b) (h : a.toInt = b.toInt) : v.toInt = w.toInt := by
  have : a = b := Int32.toInt_inj.mp h
  rw [hv, hw, this]
def chF (i k : Nat) : Int32 := (sbyt.getD i []).getD k 0
theorem chF_b (i k : Nat) : 0 ≤ (chF i k).toInt ∧ (chF i k).toInt ≤ 127 := by
  have ht : ∀ l ∈ sbyt, ∀ x ∈ l, 0 ≤ Int32.toInt x ∧ Int32.toInt x ≤ 127 := by decide +kernel
  unfold chF
  have z : (0 : Int32).toInt = 0 := by decide
  rw [List.getD_eq_getElem?_getD (l := sbyt), List.getD_eq_getElem?_getD]
  cases h1 : sbyt[i]? with
  | none =>
    show 0 ≤ (([] : List Int32)[k]?.getD 0).toInt ∧ (([] : List Int32)[k]?.getD 0).toInt ≤ 127
    rw [List.getElem?_nil]
    exact ⟨by show 0 ≤ (0 : Int32).toInt; omega, by show (0 : Int32).toInt ≤ 127; omega⟩
  | some l0 =>
    show 0 ≤ (l0[k]?.getD 0).toInt ∧ (l0[k]?.getD 0).toInt ≤ 127
    cases h2 : l0[k]? with
    | none => exact ⟨by show 0 ≤ (0 : Int32).toInt; omega, by show (0 : Int32).toInt ≤ 127; omega⟩
    | some x => exact ht l0 (List.mem_of_getElem? h1) x (List.mem_of_getElem? h2)
theorem and_255 {v : Int32} (h0 : 0 ≤ v.toInt) (h1 : v.toInt ≤ 127) : v &&& 255 = v := by
  have ht : ∀ k, k < 128 → nI k &&& 255 = nI k := by decide +kernel
  have e := is_nI h0
  rw [e]
  exact ht _ (by omega)
theorem ch_and {i k : Nat} {v w : Int32} (hv : v = chF i k) (hw : w = v &&& 255) : w = chF i k ∧ 0 ≤ w.toInt ∧ w.toInt ≤ 127 := by
  have h := chF_b i k
  rw [← hv] at h
  rw [hw, and_255 h.1 h.2]
  exact ⟨hv, h⟩
theorem keys_end {x v : Int32} (hv : v = chF 20 x.toInt.toNat) (h : x.toInt = 86) : v.toInt = 32 := by
  rw [hv, h]
  decide +kernel
theorem S8_of {f : Nat → Int32} (h : B8 1302 f) : S8 f := by
  have := h 0 (by omega)
  simp only [Nat.zero_mul, Nat.zero_add] at this
  exact this
theorem B8_of {f : Nat → Int32} (h : S8 f) : B8 1302 f := fun z hz => by
  have : z = 0 := by omega
  subst this
  simp only [Nat.zero_mul, Nat.zero_add]
  exact h
theorem S8_put {f : Nat → Int32} {i x : Int32} (h : S8 f) (h0 : 0 ≤ i.toInt) (h1 : i.toInt ≤ 400) (hp : p8 i x) : S8 (upd f i.toInt.toNat x) := S8_of ((B8_of h).put h0 h1 hp)
def ncd (f : Nat → Int32) : Int := (f 401).toInt
def dpt (f : Nat → Int32) : Int := dpn f (f 401).toInt.toNat
theorem dpn_nn {f : Nat → Int32} (hS : S8 f) (k : Nat) (hk : (k : Int) ≤ ncd f) : 0 ≤ dpn f k := by
  induction k with
  | zero => exact Int.le_refl _
  | succ k ih =>
    have h := ih (by omega)
    have w := hS.2.2.2.2.2.2.2 k (by unfold ncd at hk; omega)
    unfold dpn
    split
    · omega
    · rename_i h1
      split
      · omega
      · rename_i h2
        have := (w (by omega)).2 h2
        omega
theorem dpt_nn {f : Nat → Int32} (hS : S8 f) : 0 ≤ dpt f := dpn_nn hS _ (by unfold ncd; have := hS.2.2.2.2.2.2.1; omega)
theorem dpn_same {f g : Nat → Int32} {N : Nat} (h : ∀ j, j < N → g (402 + j) = f (402 + j)) (k : Nat) (hk : k ≤ N) : dpn g k = dpn f k := by
  induction k with
  | zero => rfl
  | succ k ih =>
    unfold dpn
    rw [ih (by omega), h k (by omega)]
theorem code_push {f g : Nat → Int32} {x w : Int32} (hS : S8 f) (hN : ncd f ≤ 899) (hg : ∀ j, g j = if j = 401 then w else if j = 402 + (f 401).toInt.toNat then x else f j) (hw : w.toInt = ncd f + 1) (hc : 3000 ≤ x.toInt → 1 ≤ dpt f ∧ (x.toInt ≠ 3008 → 2 ≤ dpt f)) :
    S8 g ∧ ncd g = ncd f + 1 ∧ dpt g = dpt f + (if x.toInt < 3000 then 1 else if x.toInt = 3008 then 0 else -1) := by
  obtain ⟨a1, a2, a3, a4, a5, a6, a7, a8⟩ := hS
  have g401 : g 401 = w := by rw [hg, if_pos rfl]
  have hlow : ∀ j, j < 401 → g j = f j := fun j hj => by rw [hg, if_neg (by omega), if_neg (by omega)]
  have hold : ∀ j, j < (f 401).toInt.toNat → g (402 + j) = f (402 + j) := fun j hj => by rw [hg, if_neg (by omega), if_neg (by omega)]
  have hnew : g (402 + (f 401).toInt.toNat) = x := by rw [hg, if_neg (by omega), if_pos rfl]
  have hdp := dpn_same hold
  unfold ncd at hN hw ⊢
  have hN2 : w.toInt.toNat = (f 401).toInt.toNat + 1 := by omega
  refine ⟨⟨?_, ?_, ?_, ?_, ?_, ?_, ?_, ?_⟩, ?_, ?_⟩
  · rw [hlow 1 (by omega)]; exact a1
  · rw [hlow 2 (by omega)]; exact a2
  · rw [hlow 4 (by omega)]; exact a3
  · rw [hlow 5 (by omega)]; exact a4
  · rw [hlow 6 (by omega)]; exact a5
  · rw [hlow 90 (by omega)]; exact a6
  · rw [g401]; omega
  · intro k hk h1
    rw [g401] at hk
    by_cases hkN : k < (f 401).toInt.toNat
    · rw [hold k hkN] at h1 ⊢
      rw [hdp k (by omega)]
      exact a8 k (by omega) h1
    · have hk2 : k = (f 401).toInt.toNat := by omega
      subst hk2
      rw [hnew] at h1 ⊢
      rw [hdp _ (Nat.le_refl _)]
      exact hc h1
  · rw [g401]; exact hw
  · unfold dpt
    rw [g401, hN2]
    show dpn g (f 401).toInt.toNat + _ = _
    rw [hdp _ (Nat.le_refl _), hnew]
theorem codes_end {f F G : Nat → Int32} {x v22 v23 v34 v36 : Int32} (hS : S8 f) (e22 : v22 = f 401) (t23 : v23.toInt = 402 + v22.toInt) (eF : F = upd f v23.toInt.toNat x) (e34 : v34 = F 401) (t36 : v36.toInt = v34.toInt + 1) (eG : G = upd F 401 v36) (hN : ncd f ≤ 899) (hc : 3000 ≤ x.toInt → 1 ≤ dpt f ∧ (x.toInt ≠ 3008 → 2 ≤ dpt f)) :
    S8 G ∧ ncd G = ncd f + 1 ∧ dpt G = dpt f + (if x.toInt < 3000 then 1 else if x.toInt = 3008 then 0 else -1) := by
  have b := hS.2.2.2.2.2.2.1
  have q : v34 = v22 := by rw [e34, eF, upd_ne (by rw [← e22] at b; omega), ← e22]
  refine code_push hS hN (fun j => ?_) (w := v36) (by rw [t36, q, e22]; rfl) hc
  rw [eG, eF]
  unfold upd
  rw [show v23.toInt.toNat = 402 + (f 401).toInt.toNat by rw [← e22] at b ⊢; omega]
theorem dp_A {a b : Int} {x : Int32} (h : x.toInt < 3000) (hd : a = b + (if x.toInt < 3000 then 1 else if x.toInt = 3008 then 0 else -1)) : a = b + 1 := by rw [if_pos h] at hd; exact hd
theorem dp_N {a b : Int} {x : Int32} (h : x.toInt = 3008) (hd : a = b + (if x.toInt < 3000 then 1 else if x.toInt = 3008 then 0 else -1)) : a = b := by rw [if_neg (by omega), if_pos h] at hd; omega
theorem dp_O {a b : Int} {x : Int32} (h : 3000 ≤ x.toInt) (h2 : x.toInt ≤ 3007) (hd : a = b + (if x.toInt < 3000 then 1 else if x.toInt = 3008 then 0 else -1)) : a = b - 1 := by rw [if_neg (by omega), if_neg (by omega)] at hd; omega
/-- the code begins anew -/
theorem S8_zero {f : Nat → Int32} (hS : S8 f) : S8 (upd f 401 0) ∧ ncd (upd f 401 0) = 0 ∧ dpt (upd f 401 0) = 0 := by
  obtain ⟨a1, a2, a3, a4, a5, a6, a7, a8⟩ := hS
  have z : (0 : Int32).toInt = 0 := by decide
  have h401 : upd f 401 0 401 = 0 := upd_eq
  have hlow : ∀ j, j < 401 → upd f 401 0 j = f j := fun j hj => upd_ne (by omega)
  refine ⟨⟨?_, ?_, ?_, ?_, ?_, ?_, ?_, ?_⟩, ?_, ?_⟩
  · rw [hlow 1 (by omega)]; exact a1
  · rw [hlow 2 (by omega)]; exact a2
  · rw [hlow 4 (by omega)]; exact a3
  · rw [hlow 5 (by omega)]; exact a4
  · rw [hlow 6 (by omega)]; exact a5
  · rw [hlow 90 (by omega)]; exact a6
  · rw [h401]; omega
  · intro k hk
    rw [h401] at hk
    omega
  · unfold ncd
    rw [h401]; exact z
  · unfold dpt
    rw [h401]
    rfl
theorem S8_plain {f : Nat → Int32} (h : ∀ j : Nat, j < 1302 → (j < 59 ∨ 87 ≤ j) → f j = 0) : S8 f := by
  have z : (0 : Int32).toInt = 0 := by decide
  refine ⟨?_, ?_, ?_, ?_, ?_, ?_, ?_, ?_⟩
  · rw [h 1 (by omega) (by omega)]; omega
  · rw [h 2 (by omega) (by omega)]; omega
  · rw [h 4 (by omega) (by omega)]; omega
  · rw [h 5 (by omega) (by omega)]; omega
  · rw [h 6 (by omega) (by omega)]; omega
  · rw [h 90 (by omega) (by omega)]; omega
  · rw [h 401 (by omega) (by omega)]; omega
  · intro k hk
    rw [h 401 (by omega) (by omega)] at hk
    omega
theorem HT.swap {D : va_G} {cs : CS} {A : Nat → Prop} {T : TF} {O : List Nat} {X : va_W} {H : Heap} {a b : Nat} {ea eb : va_E} (h : HT D cs A T (a :: b :: O) ((a, ea) :: (b, eb) :: X) H) : HT D cs A T (b :: a :: O) ((b, eb) :: (a, ea) :: X) H := by
  obtain ⟨ws, hP, hD, h3, h4⟩ := h
  have hg : ∀ (k : Nat) (x : Nat × va_E), (((b, eb) :: (a, ea) :: X) ++ ws)[k]? = some x → (((a, ea) :: (b, eb) :: X) ++ ws)[if k = 0 then 1 else if k = 1 then 0 else k]? = some x := by
    intro k x hk
    match k, hk with
    | 0, hk => exact hk
    | 1, hk => exact hk
    | k + 2, hk => rw [if_neg (by omega), if_neg (by omega)]; exact hk
  refine ⟨ws, hP.by _ hg, hD.by _ hg ?_, fun q tg hq hO => h3 q tg hq (fun z => hO ?_), h4⟩
  · intro i1 i2 _ _ he
    split at he <;> split at he <;> (try split at he) <;> (try split at he) <;> omega
  · rcases List.mem_cons.mp z with z | z
    · exact List.mem_cons_of_mem _ (z ▸ List.mem_cons_self)
    · rcases List.mem_cons.mp z with z | z
      · exact z ▸ List.mem_cons_self
      · exact List.mem_cons_of_mem _ (List.mem_cons_of_mem _ z)
theorem okO.swap {T : TF} {O K : List Nat} {a b : Nat} (h : okO T (a :: b :: O) K) : okO T (b :: a :: O) K := fun o ho => h o (by
  rcases List.mem_cons.mp ho with z | z
  · exact List.mem_cons_of_mem _ (z ▸ List.mem_cons_self)
  · rcases List.mem_cons.mp z with z | z
    · exact z ▸ List.mem_cons_self
    · exact List.mem_cons_of_mem _ (List.mem_cons_of_mem _ z))
/-! what reading tells, hidden from omega -/
def TK3 (k a b : Int32) : Prop := k.toInt ≠ 22 → a.toInt + 1 ≤ b.toInt
def NZ (v : Int32) : Prop := v.toInt ≠ 0
def MW (w v : Int32) : Prop := v.toInt = 0 → w.toInt = 0
def TKN (w v r lo hi a b : Int32) : Prop := v.toInt = 0 → w.toInt = 0 ∧ lo.toInt ≤ r.toInt ∧ r.toInt ≤ hi.toInt ∧ a.toInt + 1 ≤ b.toInt
def SL (w : Int32) (f : Nat → Int32) (a : Int32) : Prop := w.toInt = 0 → ncd f ≤ a.toInt
def CP (w : Int32) (f : Nat → Int32) (d : Int) : Prop := w.toInt = 0 → ncd f ≤ 899 ∧ d ≤ dpt f
def CN (w : Int32) (f g : Nat → Int32) (d : Int) : Prop := w.toInt = 0 → ncd g = ncd f + 1 ∧ dpt g = dpt f + d
def RD (f g : Nat → Int32) (a b w v : Int32) : Prop := v.toInt = 0 → w.toInt = 0 ∧ dpt g = dpt f + 1 ∧ a.toInt - ncd f ≤ b.toInt - ncd g
theorem RD_sl {f g : Nat → Int32} {a b c w v : Int32} (h0 : SL w f a) (h1 : RD f g a b w v) (h2 : b.toInt ≤ c.toInt) : SL v g c := fun q => by
  obtain ⟨c0, c1, c2⟩ := h1 q
  have := h0 c0
  omega
theorem RD_le {f g : Nat → Int32} {a b c w v : Int32} (h1 : RD f g a b w v) (h2 : b.toInt ≤ c.toInt) : RD f g a c w v := fun q => by
  obtain ⟨c0, c1, c2⟩ := h1 q
  exact ⟨c0, c1, by omega⟩
theorem RD_cp {f g g' : Nat → Int32} {a b c e w v u : Int32} (h0 : SL w f a) (hd : 0 ≤ dpt f) (h1 : RD f g a b w v) (h2 : b.toInt + 1 ≤ c.toInt) (h3 : RD g g' c e v u) (h4 : e.toInt ≤ 900) : CP u g' 2 := fun q => by
  obtain ⟨c0, c1, c2⟩ := h3 q
  obtain ⟨d0, d1, d2⟩ := h1 c0
  have := h0 d0
  exact ⟨by omega, by omega⟩
theorem RD_op {f g g' G : Nat → Int32} {a b c e w v u : Int32} (h1 : RD f g a b w v) (h2 : b.toInt + 1 ≤ c.toInt) (h3 : RD g g' c e v u) (h4 : CN u g' G (-1)) : RD f G a e w u := fun q => by
  obtain ⟨c0, c1, c2⟩ := h3 q
  obtain ⟨d0, d1, d2⟩ := h1 c0
  obtain ⟨e0, e1⟩ := h4 q
  exact ⟨d0, by omega, by omega⟩
