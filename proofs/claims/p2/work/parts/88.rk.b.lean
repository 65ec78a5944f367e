/-! another wall of the reference -/
def Trk (T T2 : TF) : Prop := ∀ (b : Nat) (tg : Tg), T b = some tg → tg.1 ≠ 22 → tg.1 ≠ 8 → T2 b = some tg
def mon2 (P : FT) : Prop := ∀ (T T2 : TF) (v : Value), Trk T T2 → P T v → P T2 v
theorem wI (lo hi : Int) : mon2 (fI lo hi) := fun _ _ _ _ h => h
theorem wA : mon2 fA := fun _ _ _ _ h => h
theorem wE (n : Nat) : mon2 (fE n) := fun _ _ _ _ h => h
theorem wN : mon2 fN := fun _ _ _ _ h => h
theorem wP (n : Nat) : mon2 (fP n) := fun _ _ _ _ h => h
theorem wR {tg : Tg} (h1 : tg.1 ≠ 22) (h2 : tg.1 ≠ 8) : mon2 (fR tg) := fun _ _ _ h ⟨b, x, t⟩ => ⟨b, x, h _ _ t h1 h2⟩
theorem wRd : mon2 fRd := fun _ _ _ h ⟨b, d, x, t, u⟩ => ⟨b, d, x, h _ _ t (by show 14 ≠ 22; decide) (by show 14 ≠ 8; decide), h _ _ u (by show 19 ≠ 22; decide) (by show 19 ≠ 8; decide)⟩
theorem isW.rk {T T2 : TF} (h : Trk T T2) {b x g : Nat} (hw : isW T b x g) : isW T2 b x g := ⟨h _ _ hw.1 (by show 19 ≠ 22; decide) (by show 19 ≠ 8; decide), hw.2⟩
theorem wW : mon2 fW := fun _ _ _ h ⟨b, x, g, q, t⟩ => ⟨b, x, g, q, isW.rk h t⟩
theorem wL : mon2 fLw := fun _ _ _ h q => q.elim Or.inl (fun ⟨b, n, x, t, u⟩ => Or.inr ⟨b, n, x, h _ _ t (by show 12 ≠ 22; decide) (by show 12 ≠ 8; decide), u⟩)
theorem wTL (n : Nat) : mon2 (fTL n) := fun _ _ _ h ⟨x, e, c, d, t⟩ => ⟨x, e, c, d, h _ _ t (by show 10 ≠ 22; decide) (by show 10 ≠ 8; decide)⟩
theorem wTM (n : Nat) : mon2 (fTM n) := fun _ _ _ _ h => h
def mons2 (l : List FT) : Prop := ∀ P ∈ l, mon2 P
theorem m2_n : mons2 [] := fun _ h => absurd h List.not_mem_nil
theorem m2_c {P : FT} {l : List FT} (h : mon2 P) (hl : mons2 l) : mons2 (P :: l) := fun Q hQ => (List.mem_cons.mp hQ).elim (fun q => q ▸ h) (hl Q)
theorem ft1_2 (p q : Nat) : mons2 (ft1 p q) := m2_c (wR (by show 1 ≠ 22; decide) (by show 1 ≠ 8; decide)) (m2_c (wR (by show 1 ≠ 22; decide) (by show 1 ≠ 8; decide)) (m2_c (wA) (m2_c (wR (by show 1 ≠ 22; decide) (by show 1 ≠ 8; decide)) (m2_c (wI _ _) (m2_c (wA) (m2_c (wR (by show 1 ≠ 22; decide) (by show 1 ≠ 8; decide)) (m2_n)))))))
theorem ft2_2 (p q : Nat) : mons2 (ft2 p q) := m2_c (wR (by show 1 ≠ 22; decide) (by show 1 ≠ 8; decide)) (m2_c (wR (by show 1 ≠ 22; decide) (by show 1 ≠ 8; decide)) (m2_c (wR (by show 1 ≠ 22; decide) (by show 1 ≠ 8; decide)) (m2_n)))
theorem ft3_2 (p q : Nat) : mons2 (ft3 p q) := m2_c (wR (by show 17 ≠ 22; decide) (by show 17 ≠ 8; decide)) (m2_c (wR (by show 1 ≠ 22; decide) (by show 1 ≠ 8; decide)) (m2_c (wI _ _) (m2_n)))
theorem ft4_2 (p q : Nat) : mons2 (ft4 p q) := m2_c (wR (by show 17 ≠ 22; decide) (by show 17 ≠ 8; decide)) (m2_c (wR (by show 13 ≠ 22; decide) (by show 13 ≠ 8; decide)) (m2_c (wP _) (m2_c (wI _ _) (m2_c (wR (by show 16 ≠ 22; decide) (by show 16 ≠ 8; decide)) (m2_n)))))
theorem ft5_2 (p q : Nat) : mons2 (ft5 p q) := m2_c (wW) (m2_c (wA) (m2_c (wA) (m2_c (wA) (m2_c (wR (by show 1 ≠ 22; decide) (by show 1 ≠ 8; decide)) (m2_c (wR (by show 1 ≠ 22; decide) (by show 1 ≠ 8; decide)) (m2_n))))))
theorem ft6_2 (p q : Nat) : mons2 (ft6 p q) := m2_c (wA) (m2_c (wA) (m2_c (wA) (m2_c (wA) (m2_c (wR (by show 1 ≠ 22; decide) (by show 1 ≠ 8; decide)) (m2_c (wR (by show 1 ≠ 22; decide) (by show 1 ≠ 8; decide)) (m2_n))))))
theorem ft8_2 (p q : Nat) : mons2 (ft8 p q) := m2_c (wR (by show 2 ≠ 22; decide) (by show 2 ≠ 8; decide)) (m2_c (wA) (m2_c (wI _ _) (m2_n)))
theorem ft10_2 (p q : Nat) : mons2 (ft10 p q) := m2_c (wR (by show 1 ≠ 22; decide) (by show 1 ≠ 8; decide)) (m2_c (wR (by show 1 ≠ 22; decide) (by show 1 ≠ 8; decide)) (m2_c (wI _ _) (m2_c (wR (by show 2 ≠ 22; decide) (by show 2 ≠ 8; decide)) (m2_c (wR (by show 1 ≠ 22; decide) (by show 1 ≠ 8; decide)) (m2_c (wR (by show 1 ≠ 22; decide) (by show 1 ≠ 8; decide)) (m2_c (wI _ _) (m2_n)))))))
theorem ft11_2 (p q : Nat) : mons2 (ft11 p q) := m2_c (wR (by show 0 ≠ 22; decide) (by show 0 ≠ 8; decide)) (m2_c (wTL _) (m2_c (wRd) (m2_c (wP _) (m2_c (wR (by show 16 ≠ 22; decide) (by show 16 ≠ 8; decide)) (m2_c (wR (by show 16 ≠ 22; decide) (by show 16 ≠ 8; decide)) (m2_c (wR (by show 4 ≠ 22; decide) (by show 4 ≠ 8; decide)) (m2_c (wI _ _) (m2_c (wI _ _) (m2_c (wR (by show 5 ≠ 22; decide) (by show 5 ≠ 8; decide)) (m2_c (wR (by show 4 ≠ 22; decide) (by show 4 ≠ 8; decide)) (m2_c (wR (by show 6 ≠ 22; decide) (by show 6 ≠ 8; decide)) (m2_c (wR (by show 7 ≠ 22; decide) (by show 7 ≠ 8; decide)) (m2_c (wR (by show 15 ≠ 22; decide) (by show 15 ≠ 8; decide)) (m2_c (wR (by show 20 ≠ 22; decide) (by show 20 ≠ 8; decide)) (m2_c (wR (by show 11 ≠ 22; decide) (by show 11 ≠ 8; decide)) (m2_c (wP _) (m2_c (wR (by show 1 ≠ 22; decide) (by show 1 ≠ 8; decide)) (m2_c (wR (by show 1 ≠ 22; decide) (by show 1 ≠ 8; decide)) (m2_c (wA) (m2_n))))))))))))))))))))
theorem ft9w_2 (p q : Nat) : mons2 (ft9w p q) := m2_c (wE _) (m2_c (wE _) (m2_c (wA) (m2_c (wI _ _) (m2_c (wI _ _) (m2_c (wI _ _) (m2_c (wR (by show 1 ≠ 22; decide) (by show 1 ≠ 8; decide)) (m2_c (wR (by show 1 ≠ 22; decide) (by show 1 ≠ 8; decide)) (m2_c (wR (by show 1 ≠ 22; decide) (by show 1 ≠ 8; decide)) (m2_c (wR (by show 1 ≠ 22; decide) (by show 1 ≠ 8; decide)) (m2_c (wR (by show 1 ≠ 22; decide) (by show 1 ≠ 8; decide)) (m2_c (wL) (m2_c (wI _ _) (m2_c (wI _ _) (m2_n))))))))))))))
theorem ft9d_2 (p q : Nat) : mons2 (ft9d p q) := m2_c (wI _ _) (m2_c (wI _ _) (m2_c (wA) (m2_c (wI _ _) (m2_c (wI _ _) (m2_c (wI _ _) (m2_c (wR (by show 1 ≠ 22; decide) (by show 1 ≠ 8; decide)) (m2_c (wR (by show 1 ≠ 22; decide) (by show 1 ≠ 8; decide)) (m2_c (wR (by show 1 ≠ 22; decide) (by show 1 ≠ 8; decide)) (m2_c (wR (by show 1 ≠ 22; decide) (by show 1 ≠ 8; decide)) (m2_c (wR (by show 1 ≠ 22; decide) (by show 1 ≠ 8; decide)) (m2_c (wN) (m2_c (wI _ _) (m2_c (wI _ _) (m2_n))))))))))))))
theorem ft9_2 (p q : Nat) : mons2 (ft9 p q) := by
  unfold ft9
  split
  · exact ft9d_2 p q
  · exact ft9w_2 p q
theorem fts_2 (c p q : Nat) (hc : c ≠ 12) : mons2 (fts c p q) := by
  unfold fts
  split <;> first | exact ft1_2 p q | exact ft2_2 p q | exact ft3_2 p q | exact ft4_2 p q | exact ft5_2 p q | exact ft6_2 p q | exact ft8_2 p q | exact ft9_2 p q | exact ft10_2 p q | exact ft11_2 p q | exact absurd rfl hc | exact m2_n
theorem ob_rk {T T2 : TF} (h : Trk T T2) {c p q : Nat} (hc : c ≠ 12) {fs : List Value} (ho : ob T c p q fs) : ob T2 c p q fs := by
  unfold ob at ho ⊢
  split at ho
  · obtain ⟨b, b2, d, n, x, e1, t1, t2, t3, r⟩ := ho
    exact ⟨b, b2, d, n, x, e1, h _ _ t1 (by show 1 ≠ 22; decide) (by show 1 ≠ 8; decide), h _ _ t2 (by show 1 ≠ 22; decide) (by show 1 ≠ 8; decide), h _ _ t3 (by show 1 ≠ 22; decide) (by show 1 ≠ 8; decide), r⟩
  · obtain ⟨b, n, x1, x2, x3, x4, x5, x6, x7, e1, t, r⟩ := ho
    exact ⟨b, n, x1, x2, x3, x4, x5, x6, x7, e1, h _ _ t (by show 0 ≠ 22; decide) (by show 0 ≠ 8; decide), r⟩
  · exact ⟨ho.1, fun k P v h1 h2 => fts_2 _ _ _ hc P (List.mem_of_getElem? h1) T T2 v h (ho.2 k P v h1 h2)⟩
theorem sp_rk {cs : CS} {T T2 : TF} (h : Trk T T2) {tg : Tg} (h22 : tg.1 ≠ 22) {e : va_E} (hs : sp cs T tg e) : sp cs T2 tg e := by
  unfold sp at hs ⊢
  split at hs
  · exact hs
  · exact hs
  · exact hs
  · exact hs
  · obtain ⟨f, e1, g⟩ := hs
    exact ⟨f, e1, fun j hj => by obtain ⟨b, x, y⟩ := g j hj; exact ⟨b, x, h _ _ y (by show 16 ≠ 22; decide) (by show 16 ≠ 8; decide)⟩⟩
  · obtain ⟨f, e1, g⟩ := hs
    exact ⟨f, e1, fun j b hj => by obtain ⟨x, g2, y⟩ := g j b hj; exact ⟨x, g2, isW.rk h y⟩⟩
  · obtain ⟨f, e1, g⟩ := hs
    exact ⟨f, e1, fun j hj => by obtain ⟨b, x, y⟩ := g j hj; exact ⟨b, x, h _ _ y (by show 18 ≠ 22; decide) (by show 18 ≠ 8; decide)⟩⟩
  · obtain ⟨f, e1, g⟩ := hs
    exact ⟨f, e1, fun j hj => by obtain ⟨b, x, y⟩ := g j hj; exact ⟨b, x, h _ _ y (by show 15 ≠ 22; decide) (by show 15 ≠ 8; decide)⟩⟩
  · exact hs
  · exact hs
  · rename_i c p q
    obtain ⟨fs, e1, g⟩ := hs
    exact ⟨fs, e1, ob_rk h (fun z => h22 (by show c + 10 = 22; omega)) g⟩
/-- what stays when the reference m gets another wall -/
def Trm (T T2 : TF) (m : Nat) : Prop := Trk T T2 ∧ ∀ (b : Nat) (tg : Tg), T2 b = some tg → T b = some tg ∨ tg.1 = 8 ∨ (tg.1 = 22 ∧ b = m)
theorem Trm.rf {T : TF} {m : Nat} : Trm T T m := ⟨fun _ _ h _ _ => h, fun _ _ h => Or.inl h⟩
theorem HT.rk {D : va_G} {cs : CS} {A : Nat → Prop} {T : TF} {O : List Nat} {X : va_W} {H : Heap} {m aa hg hg2 mq mq2 : Nat} (h : HT D cs A T O X H) (hm : T m = some (22, hg, mq)) (ha : T aa = some (8, 3906, hg)) (hU : ∀ (b : Nat) (tg : Tg), T b = some tg → tg.1 = 22 → b = m) (hmO : m ∈ O) (haO : aa ∈ O) :
    ∃ T2 : TF, T2 aa = some (8, 3906, hg2) ∧ T2 m = some (22, hg2, mq2) ∧ (∀ b, b ≠ m → b ≠ aa → T2 b = T b) ∧ Trm T T2 m ∧ HT D cs A T2 O X H := by
  have hne : aa ≠ m := fun z => by rw [z, hm] at ha; cases ha
  have q1 : Tadd (Tadd T aa (8, 3906, hg2)) m (22, hg2, mq2) aa = some (8, 3906, hg2) := by unfold Tadd; rw [if_neg hne, if_pos rfl]
  have q3 : ∀ b, b ≠ m → b ≠ aa → Tadd (Tadd T aa (8, 3906, hg2)) m (22, hg2, mq2) b = T b := fun b h1 h2 => by unfold Tadd; rw [if_neg h1, if_neg h2]
  have hk : Trk T (Tadd (Tadd T aa (8, 3906, hg2)) m (22, hg2, mq2)) := fun b tg hb k1 k2 => by
    rw [q3 b (fun z => by rw [z, hm] at hb; cases hb; exact k1 rfl) (fun z => by rw [z, ha] at hb; cases hb; exact k2 rfl)]
    exact hb
  refine ⟨_, q1, Tadd_r, q3, ⟨hk, fun b tg hb => ?_⟩, ?_⟩
  · by_cases h1 : b = m
    · rw [h1, Tadd_r] at hb
      cases hb
      exact Or.inr (Or.inr ⟨rfl, h1⟩)
    · by_cases h2 : b = aa
      · rw [h2, q1] at hb
        cases hb
        exact Or.inr (Or.inl rfl)
      · rw [q3 b h1 h2] at hb
        exact Or.inl hb
  · obtain ⟨ws, hP, hD, h3, h4⟩ := h
    refine ⟨ws, hP, hD, fun b tg hb hO => ?_, fun k q hq => ?_⟩
    · have h1 : b ≠ m := fun z => hO (z ▸ hmO)
      have h2 : b ≠ aa := fun z => hO (z ▸ haO)
      rw [q3 b h1 h2] at hb
      obtain ⟨k, e1, hk1, hs⟩ := h3 b tg hb hO
      exact ⟨k, e1, hk1, sp_rk hk (fun z => h1 (hU b tg hb z)) hs⟩
    · obtain ⟨tg, ht⟩ := h4 k q hq
      by_cases h1 : q.1 = m
      · exact ⟨_, by rw [h1]; exact Tadd_r⟩
      · by_cases h2 : q.1 = aa
        · exact ⟨_, by rw [h2]; exact q1⟩
        · exact ⟨tg, by rw [q3 _ h1 h2]; exact ht⟩
theorem HT.mg {D : va_G} {cs : CS} {A : Nat → Prop} {T : TF} {O : List Nat} {X : va_W} {H : Heap} {m hg mq mq2 : Nat} (h : HT D cs A T O X H) (hm : T m = some (22, hg, mq)) (hU : ∀ (b : Nat) (tg : Tg), T b = some tg → tg.1 = 22 → b = m) (hmO : m ∈ O) :
    ∃ T2 : TF, T2 m = some (22, hg, mq2) ∧ (∀ b, b ≠ m → T2 b = T b) ∧ Trm T T2 m ∧ HT D cs A T2 O X H := by
  have q3 : ∀ b, b ≠ m → Tadd T m (22, hg, mq2) b = T b := fun b h1 => by unfold Tadd; rw [if_neg h1]
  have hk : Trk T (Tadd T m (22, hg, mq2)) := fun b tg hb k1 k2 => by
    rw [q3 b (fun z => by rw [z, hm] at hb; cases hb; exact k1 rfl)]
    exact hb
  refine ⟨_, Tadd_r, q3, ⟨hk, fun b tg hb => ?_⟩, ?_⟩
  · by_cases h1 : b = m
    · rw [h1, Tadd_r] at hb
      cases hb
      exact Or.inr (Or.inr ⟨rfl, h1⟩)
    · rw [q3 b h1] at hb
      exact Or.inl hb
  · obtain ⟨ws, hP, hD, h3, h4⟩ := h
    refine ⟨ws, hP, hD, fun b tg hb hO => ?_, fun k q hq => ?_⟩
    · have h1 : b ≠ m := fun z => hO (z ▸ hmO)
      rw [q3 b h1] at hb
      obtain ⟨k, e1, hk1, hs⟩ := h3 b tg hb hO
      exact ⟨k, e1, hk1, sp_rk hk (fun z => h1 (hU b tg hb z)) hs⟩
    · obtain ⟨tg, ht⟩ := h4 k q hq
      by_cases h1 : q.1 = m
      · exact ⟨_, by rw [h1]; exact Tadd_r⟩
      · exact ⟨tg, by rw [q3 _ h1]; exact ht⟩
theorem hg_of {F : Nat → Int32} (h : S8 F) : ∃ hg2 : Nat, hg2 < 90 ∧ F 1 = nI (hg2 / 6) ∧ F 2 = nI (hg2 % 6) := by
  obtain ⟨a1, a2, -⟩ := h
  refine ⟨6 * (F 1).toInt.toNat + (F 2).toInt.toNat, by omega, ?_, ?_⟩
  · rw [show (6 * (F 1).toInt.toNat + (F 2).toInt.toNat) / 6 = (F 1).toInt.toNat by omega]
    exact is_nI a1.1
  · rw [show (6 * (F 1).toInt.toNat + (F 2).toInt.toNat) % 6 = (F 2).toInt.toNat by omega]
    exact is_nI a2.1
/-- so many numbers are copied from b on to the first wall -/
def CR (f g : Nat → Int32) (b k : Nat) : Prop := ∀ j, g j = if j < k then f (b + j) else f j
theorem CR_0 {f : Nat → Int32} {b : Nat} {z : Int32} (hz : z.toInt = 0) : CR f f b z.toInt.toNat := fun j => by rw [if_neg (by omega)]
theorem CR_s {f g F : Nat → Int32} {b : Nat} {p v w x : Int32} (hi : CR f g b p.toInt.toNat) (h0 : 0 ≤ p.toInt) (h1 : p.toInt < 1302) (hb : 1302 ≤ b) (hv : v.toInt = p.toInt + 1) (hw : w.toInt = b + p.toInt) (hx : x = g w.toInt.toNat) (eF : F = upd g p.toInt.toNat x) : CR f F b v.toInt.toNat := fun j => by
  have e : w.toInt.toNat = b + p.toInt.toNat := by omega
  have hk := hi (b + p.toInt.toNat)
  rw [if_neg (by omega)] at hk
  rw [eF]
  by_cases q : j = p.toInt.toNat
  · rw [q, upd_eq, hx, e, hk, if_pos (by omega)]
  · rw [upd_ne q, hi j]
    by_cases q2 : j < p.toInt.toNat
    · rw [if_pos q2, if_pos (by omega)]
    · rw [if_neg q2, if_neg (by omega)]
set_option maxRecDepth 20000 in
theorem CR_B8 {f g : Nat → Int32} {b : Nat} {p : Int32} (hi : CR f g b p.toInt.toNat) (hp : p.toInt = 1302) (hB : B8 3906 f) (z : Nat) (hb : b = z * 1302) (hz : z = 1 ∨ z = 2) : B8 3906 g := by
  have e : p.toInt.toNat = 1302 := by omega
  rw [e] at hi
  intro y hy
  by_cases q : y = 0
  · refine S8_cong (p := fun j => f (z * 1302 + j)) (fun j hj => ?_) (hB z (by omega))
    show g (y * 1302 + j) = f (z * 1302 + j)
    rw [hi, if_pos (by omega), hb, show z * 1302 + (y * 1302 + j) = z * 1302 + j by omega]
  · refine S8_cong (p := fun j => f (y * 1302 + j)) (fun j hj => ?_) (hB y hy)
    show g (y * 1302 + j) = f (y * 1302 + j)
    rw [hi, if_neg (by omega)]
