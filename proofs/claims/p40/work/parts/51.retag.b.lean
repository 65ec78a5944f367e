/-! another wall of a FootholdWall -/
theorem isW.le {T T' : TF} (h : Tle T T') {a x g : Nat} (hw : isW T a x g) : isW T' a x g := ⟨h _ _ hw.1, hw.2⟩
theorem okO.le {T T' : TF} (h : Tle T T') {O K : List Nat} (ho : okO T O K) : okO T' O K := fun o hm => by
  obtain ⟨tg, h1, h2⟩ := ho o hm
  exact ⟨tg, h _ _ h1, h2⟩
/-- kept when the cell a of kind 21 is told anew -/
def mon1 (P : FT) : Prop := ∀ (T : TF) (a w w2 q : Nat) (v : Value), T a = some (21, w, q) → P T v → P (Tadd T a (21, w2, q)) v
theorem re_ne {T : TF} {a w w2 q b : Nat} {tg : Tg} (ha : T a = some (21, w, q)) (hk : tg.1 ≠ 21) (h : T b = some tg) : Tadd T a (21, w2, q) b = some tg := by
  unfold Tadd
  rw [if_neg (fun z => by rw [z, ha] at h; cases h; exact hk rfl)]
  exact h
theorem nI_ (lo hi : Int) : mon1 (fI lo hi) := fun _ _ _ _ _ _ _ h => h
theorem nA : mon1 fA := fun _ _ _ _ _ _ _ h => h
theorem nE (n : Nat) : mon1 (fE n) := fun _ _ _ _ _ _ _ h => h
theorem nN : mon1 fN := fun _ _ _ _ _ _ _ h => h
theorem nP (n : Nat) : mon1 (fP n) := fun _ _ _ _ _ _ _ h => h
theorem nR {tg : Tg} (hk : tg.1 ≠ 21) : mon1 (fR tg) := fun _ _ _ _ _ _ ha ⟨b, x, t⟩ => ⟨b, x, re_ne ha hk t⟩
theorem nRd : mon1 fRd := fun _ _ _ _ _ _ ha ⟨b, d, x, t, u⟩ => ⟨b, d, x, re_ne ha (by show 14 ≠ 21; decide) t, re_ne ha (by show 19 ≠ 21; decide) u⟩
theorem isW.re {T : TF} {a w w2 q b x g : Nat} (ha : T a = some (21, w, q)) (h : isW T b x g) : isW (Tadd T a (21, w2, q)) b x g := ⟨re_ne ha (by show 19 ≠ 21; decide) h.1, h.2⟩
theorem nW : mon1 fW := fun _ _ _ _ _ _ ha ⟨b, x, g, q, t⟩ => ⟨b, x, g, q, isW.re ha t⟩
theorem nL : mon1 fLw := fun _ _ _ _ _ _ ha q => q.elim Or.inl (fun ⟨b, n, x, t, u⟩ => Or.inr ⟨b, n, x, re_ne ha (by show 12 ≠ 21; decide) t, u⟩)
def mons1 (l : List FT) : Prop := ∀ P ∈ l, mon1 P
theorem m1_n : mons1 [] := fun _ h => absurd h List.not_mem_nil
theorem m1_c {P : FT} {l : List FT} (h : mon1 P) (hl : mons1 l) : mons1 (P :: l) := fun Q hQ => (List.mem_cons.mp hQ).elim (fun q => q ▸ h) (hl Q)
theorem ft1_1 (p q : Nat) : mons1 (ft1 p q) := m1_c (nR (by show 1 ≠ 21; decide)) (m1_c (nR (by show 1 ≠ 21; decide)) (m1_c (nA) (m1_c (nR (by show 1 ≠ 21; decide)) (m1_c (nI_ _ _) (m1_c (nA) (m1_c (nR (by show 1 ≠ 21; decide)) (m1_n)))))))
theorem ft2_1 (p q : Nat) : mons1 (ft2 p q) := m1_c (nR (by show 1 ≠ 21; decide)) (m1_c (nR (by show 1 ≠ 21; decide)) (m1_c (nR (by show 1 ≠ 21; decide)) (m1_n)))
theorem ft3_1 (p q : Nat) : mons1 (ft3 p q) := m1_c (nR (by show 17 ≠ 21; decide)) (m1_c (nR (by show 1 ≠ 21; decide)) (m1_c (nI_ _ _) (m1_n)))
theorem ft4_1 (p q : Nat) : mons1 (ft4 p q) := m1_c (nR (by show 17 ≠ 21; decide)) (m1_c (nR (by show 13 ≠ 21; decide)) (m1_c (nP _) (m1_c (nI_ _ _) (m1_c (nR (by show 16 ≠ 21; decide)) (m1_n)))))
theorem ft5_1 (p q : Nat) : mons1 (ft5 p q) := m1_c (nW) (m1_c (nA) (m1_c (nA) (m1_c (nA) (m1_c (nR (by show 1 ≠ 21; decide)) (m1_c (nR (by show 1 ≠ 21; decide)) (m1_n))))))
theorem ft6_1 (p q : Nat) : mons1 (ft6 p q) := m1_c (nA) (m1_c (nA) (m1_c (nA) (m1_c (nA) (m1_c (nR (by show 1 ≠ 21; decide)) (m1_c (nR (by show 1 ≠ 21; decide)) (m1_n))))))
theorem ft8_1 (p q : Nat) : mons1 (ft8 p q) := m1_c (nR (by show 2 ≠ 21; decide)) (m1_c (nA) (m1_c (nI_ _ _) (m1_n)))
theorem ft10_1 (p q : Nat) : mons1 (ft10 p q) := m1_c (nR (by show 1 ≠ 21; decide)) (m1_c (nR (by show 1 ≠ 21; decide)) (m1_c (nI_ _ _) (m1_c (nR (by show 2 ≠ 21; decide)) (m1_c (nR (by show 1 ≠ 21; decide)) (m1_c (nR (by show 1 ≠ 21; decide)) (m1_c (nI_ _ _) (m1_n)))))))
theorem ft11_1 (p q : Nat) : mons1 (ft11 p q) := m1_c (nR (by show 0 ≠ 21; decide)) (m1_c (nI_ _ _) (m1_c (nRd) (m1_c (nP _) (m1_c (nR (by show 16 ≠ 21; decide)) (m1_c (nR (by show 16 ≠ 21; decide)) (m1_c (nR (by show 4 ≠ 21; decide)) (m1_c (nI_ _ _) (m1_c (nI_ _ _) (m1_c (nR (by show 5 ≠ 21; decide)) (m1_c (nR (by show 4 ≠ 21; decide)) (m1_c (nR (by show 6 ≠ 21; decide)) (m1_c (nR (by show 7 ≠ 21; decide)) (m1_c (nR (by show 15 ≠ 21; decide)) (m1_c (nR (by show 20 ≠ 21; decide)) (m1_c (nR (by show 11 ≠ 21; decide)) (m1_c (nP _) (m1_c (nR (by show 1 ≠ 21; decide)) (m1_c (nR (by show 1 ≠ 21; decide)) (m1_c (nA) (m1_n))))))))))))))))))))
theorem ft12_1 (p q : Nat) : mons1 (ft12 p q) := m1_c (nA) (m1_c (nR (by show 8 ≠ 21; decide)) (m1_c (nR (by show 3 ≠ 21; decide)) (m1_c (nR (by show 1 ≠ 21; decide)) (m1_c (nR (by show 8 ≠ 21; decide)) (m1_c (nI_ _ _) (m1_c (nA) (m1_c (nA) (m1_c (nA) (m1_c (nA) (m1_c (nI_ _ _) (m1_c (nA) (m1_c (nA) (m1_c (nA) (m1_c (nA) (m1_c (nR (by show 1 ≠ 21; decide)) (m1_c (nA) (m1_c (nR (by show 9 ≠ 21; decide)) (m1_c (nR (by show 9 ≠ 21; decide)) (m1_c (nR (by show 1 ≠ 21; decide)) (m1_c (nI_ _ _) (m1_c (nR (by show 1 ≠ 21; decide)) (m1_c (nR (by show 1 ≠ 21; decide)) (m1_c (nA) (m1_c (nA) (m1_c (nA) (m1_c (nR (by show 2 ≠ 21; decide)) (m1_c (nR (by show 3 ≠ 21; decide)) (m1_c (nR (by show 0 ≠ 21; decide)) (m1_c (nR (by show 1 ≠ 21; decide)) (m1_c (nR (by show 1 ≠ 21; decide)) (m1_c (nR (by show 1 ≠ 21; decide)) (m1_c (nA) (m1_c (nR (by show 1 ≠ 21; decide)) (m1_c (nR (by show 1 ≠ 21; decide)) (m1_c (nR (by show 2 ≠ 21; decide)) (m1_n))))))))))))))))))))))))))))))))))))
theorem ft9w_1 (p q : Nat) : mons1 (ft9w p q) := m1_c (nE _) (m1_c (nE _) (m1_c (nA) (m1_c (nI_ _ _) (m1_c (nI_ _ _) (m1_c (nI_ _ _) (m1_c (nR (by show 1 ≠ 21; decide)) (m1_c (nR (by show 1 ≠ 21; decide)) (m1_c (nR (by show 1 ≠ 21; decide)) (m1_c (nR (by show 1 ≠ 21; decide)) (m1_c (nR (by show 1 ≠ 21; decide)) (m1_c (nL) (m1_c (nI_ _ _) (m1_c (nI_ _ _) (m1_n))))))))))))))
theorem ft9d_1 (p q : Nat) : mons1 (ft9d p q) := m1_c (nI_ _ _) (m1_c (nI_ _ _) (m1_c (nA) (m1_c (nI_ _ _) (m1_c (nI_ _ _) (m1_c (nI_ _ _) (m1_c (nR (by show 1 ≠ 21; decide)) (m1_c (nR (by show 1 ≠ 21; decide)) (m1_c (nR (by show 1 ≠ 21; decide)) (m1_c (nR (by show 1 ≠ 21; decide)) (m1_c (nR (by show 1 ≠ 21; decide)) (m1_c (nN) (m1_c (nI_ _ _) (m1_c (nI_ _ _) (m1_n))))))))))))))
theorem ft9_1 (p q : Nat) : mons1 (ft9 p q) := by
  unfold ft9
  split
  · exact ft9d_1 p q
  · exact ft9w_1 p q
theorem fts_1 (c p q : Nat) : mons1 (fts c p q) := by
  unfold fts
  split <;> first | exact ft1_1 p q | exact ft2_1 p q | exact ft3_1 p q | exact ft4_1 p q | exact ft5_1 p q | exact ft6_1 p q | exact ft8_1 p q | exact ft9_1 p q | exact ft10_1 p q | exact ft11_1 p q | exact ft12_1 p q | exact m1_n
theorem ob_re {T : TF} {a w w2 q0 : Nat} (ha : T a = some (21, w, q0)) {c p q : Nat} {fs : List Value} (ho : ob T c p q fs) : ob (Tadd T a (21, w2, q0)) c p q fs := by
  unfold ob at ho ⊢
  split at ho
  · obtain ⟨b, b2, d, n, x, e1, t1, t2, t3, r⟩ := ho
    exact ⟨b, b2, d, n, x, e1, re_ne ha (by show 1 ≠ 21; decide) t1, re_ne ha (by show 1 ≠ 21; decide) t2, re_ne ha (by show 1 ≠ 21; decide) t3, r⟩
  · obtain ⟨b, n, x1, x2, x3, x4, x5, x6, x7, e1, t, r⟩ := ho
    exact ⟨b, n, x1, x2, x3, x4, x5, x6, x7, e1, re_ne ha (by show 0 ≠ 21; decide) t, r⟩
  · exact ⟨ho.1, fun k P v h1 h2 => fts_1 _ _ _ P (List.mem_of_getElem? h1) T a w w2 q0 v ha (ho.2 k P v h1 h2)⟩
theorem sp_re {cs : CS} {T : TF} {a w w2 q : Nat} (ha : T a = some (21, w, q)) {tg : Tg} {e : va_E} (hs : sp cs T tg e) : sp cs (Tadd T a (21, w2, q)) tg e := by
  unfold sp at hs ⊢
  split at hs
  · exact hs
  · exact hs
  · exact hs
  · exact hs
  · obtain ⟨f, e1, g⟩ := hs
    exact ⟨f, e1, fun j hj => by obtain ⟨b, x, y⟩ := g j hj; exact ⟨b, x, re_ne ha (by show 16 ≠ 21; decide) y⟩⟩
  · obtain ⟨f, e1, g⟩ := hs
    exact ⟨f, e1, fun j b hj => by obtain ⟨x, g2, y⟩ := g j b hj; exact ⟨x, g2, isW.re ha y⟩⟩
  · obtain ⟨f, e1, g⟩ := hs
    exact ⟨f, e1, fun j hj => by obtain ⟨b, x, y⟩ := g j hj; exact ⟨b, x, re_ne ha (by show 18 ≠ 21; decide) y⟩⟩
  · obtain ⟨f, e1, g⟩ := hs
    exact ⟨f, e1, fun j hj => by obtain ⟨b, x, y⟩ := g j hj; exact ⟨b, x, re_ne ha (by show 15 ≠ 21; decide) y⟩⟩
  · exact hs
  · exact hs
  · obtain ⟨fs, e1, g⟩ := hs
    exact ⟨fs, e1, ob_re ha g⟩
/-- a FootholdWall that is taken out gets another wall, and is laid back so -/
theorem HT.re {D : va_G} {cs : CS} {A : Nat → Prop} {T : TF} {O : List Nat} {X : va_W} {H : Heap} {a w w2 q : Nat} {fs : List Value} (h : HT D cs A T (a :: O) ((a, .inr (11, fs)) :: X) H) (ha : T a = some (21, w, q)) (hob : ob T 11 w2 q fs) : HT D cs A (Tadd T a (21, w2, q)) O X H := by
  obtain ⟨ws, hP, hD, h3, h4⟩ := h
  refine HT.lay (T := Tadd T a (21, w2, q)) (ci := 11) (p := w2) (q := q) (fs := fs) ⟨ws, hP, hD, fun b tb hb hO => ?_, fun k x hk => ?_⟩ Tadd_r (ob_re ha hob)
  · have hba : b ≠ a := fun z => hO (z ▸ List.mem_cons_self)
    have hb2 : T b = some tb := by unfold Tadd at hb; rw [if_neg hba] at hb; exact hb
    obtain ⟨k, eb, hk, hsb⟩ := h3 b tb hb2 hO
    exact ⟨k, eb, hk, sp_re ha hsb⟩
  · obtain ⟨t, ht⟩ := h4 k x hk
    by_cases hx : x.1 = a
    · exact ⟨_, by rw [hx]; exact Tadd_r⟩
    · exact ⟨t, by unfold Tadd; rw [if_neg hx]; exact ht⟩
