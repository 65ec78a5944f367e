/-! another wall of a FootholdWall -/
theorem isW.le {T T' : TF} (h : Tle T T') {a x g : Nat} (hw : isW T a x g) : isW T' a x g := ⟨h _ _ hw.1, hw.2⟩
theorem okO.le {T T' : TF} (h : Tle T T') {O K : List Nat} (ho : okO T O K) : okO T' O K := fun o hm => by
  obtain ⟨tg, h1, h2⟩ := ho o hm
  exact ⟨tg, h _ _ h1, h2⟩
/-- kept when the cell a of kind 21 is told anew -/
def mon1 (P : FT) : Prop := ∀ (T : TF) (a w w2 q : Nat) (v : Value), T a = some (21, w, q) → P T v → P (Tadd T a (21, w2, q)) v
theorem re_ne {T : TF} {a w w2 q b : Nat} {tg : Tg} (ha : T a = some (21, w, q)) (hk : tg.1 ≠ 21) (h : T b = some tg) : Tadd T a (21, w2, q) b = some tg := by
  unfold Tadd
  rw [if_neg (fun z => by rw [z, ha] at h; cases h; exact hk rfl)]
  exact h
theorem nI_ (lo hi : Int) : mon1 (fI lo hi) := fun _ _ _ _ _ _ _ h => h
theorem nA : mon1 fA := fun _ _ _ _ _ _ _ h => h
theorem nE (n : Nat) : mon1 (fE n) := fun _ _ _ _ _ _ _ h => h
theorem nN : mon1 fN := fun _ _ _ _ _ _ _ h => h
theorem nP (n : Nat) : mon1 (fP n) := fun _ _ _ _ _ _ _ h => h
theorem nR {tg : Tg} (hk : tg.1 ≠ 21) : mon1 (fR tg) := fun _ _ _ _ _ _ ha ⟨b, x, t⟩ => ⟨b, x, re_ne ha hk t⟩
theorem nRd : mon1 fRd := fun _ _ _ _ _ _ ha ⟨b, d, x, t, u⟩ => ⟨b, d, x, re_ne ha (by show 14 ≠ 21; decide) t, re_ne ha (by show 19 ≠ 21; decide) u⟩
theorem isW.re {T : TF} {a w w2 q b x g : Nat} (ha : T a = some (21, w, q)) (h : isW T b x g) : isW (Tadd T a (21, w2, q)) b x g := ⟨re_ne ha (by show 19 ≠ 21; decide) h.1, h.2⟩
theorem nW : mon1 fW := fun _ _ _ _ _ _ ha ⟨b, x, g, q, t⟩ => ⟨b, x, g, q, isW.re ha t⟩
theorem nL : mon1 fLw := fun _ _ _ _ _ _ ha q => q.elim Or.inl (fun ⟨b, n, x, t, u⟩ => Or.inr ⟨b, n, x, re_ne ha (by show 12 ≠ 21; decide) t, u⟩)
theorem nTL (n : Nat) : mon1 (fTL n) := fun _ _ _ _ _ _ ha ⟨x, e, c, d, t⟩ => ⟨x, e, c, d, re_ne ha (by show 10 ≠ 21; decide) t⟩
theorem nTM (n : Nat) : mon1 (fTM n) := fun _ _ _ _ _ _ _ h => h
def mons1 (l : List FT) : Prop := ∀ P ∈ l, mon1 P
theorem m1_n : mons1 [] := fun _ h => absurd h List.not_mem_nil
theorem m1_c {P : FT} {l : List FT} (h : mon1 P) (hl : mons1 l) : mons1 (P :: l) := fun Q hQ => (List.mem_cons.mp hQ).elim (fun q => q ▸ h) (hl Q)
theorem ft1_1 (p q : Nat) : mons1 (ft1 p q) := m1_c (nR (by show 1 ≠ 21; decide)) (m1_c (nR (by show 1 ≠ 21; decide)) (m1_c (nA) (m1_c (nR (by show 1 ≠ 21; decide)) (m1_c (nI_ _ _) (m1_c (nA) (m1_c (nR (by show 1 ≠ 21; decide)) (m1_n)))))))
theorem ft2_1 (p q : Nat) : mons1 (ft2 p q) := m1_c (nR (by show 1 ≠ 21; decide)) (m1_c (nR (by show 1 ≠ 21; decide)) (m1_c (nR (by show 1 ≠ 21; decide)) (m1_n)))
theorem ft3_1 (p q : Nat) : mons1 (ft3 p q) := m1_c (nR (by show 17 ≠ 21; decide)) (m1_c (nR (by show 1 ≠ 21; decide)) (m1_c (nI_ _ _) (m1_n)))
theorem ft4_1 (p q : Nat) : mons1 (ft4 p q) := m1_c (nR (by show 17 ≠ 21; decide)) (m1_c (nR (by show 13 ≠ 21; decide)) (m1_c (nP _) (m1_c (nI_ _ _) (m1_c (nR (by show 16 ≠ 21; decide)) (m1_n)))))
theorem ft5_1 (p q : Nat) : mons1 (ft5 p q) := m1_c (nW) (m1_c (nA) (m1_c (nA) (m1_c (nA) (m1_c (nR (by show 1 ≠ 21; decide)) (m1_c (nR (by show 1 ≠ 21; decide)) (m1_n))))))
theorem ft6_1 (p q : Nat) : mons1 (ft6 p q) := m1_c (nA) (m1_c (nA) (m1_c (nA) (m1_c (nA) (m1_c (nR (by show 1 ≠ 21; decide)) (m1_c (nR (by show 1 ≠ 21; decide)) (m1_n))))))
theorem ft8_1 (p q : Nat) : mons1 (ft8 p q) := m1_c (nR (by show 2 ≠ 21; decide)) (m1_c (nA) (m1_c (nI_ _ _) (m1_n)))
theorem ft10_1 (p q : Nat) : mons1 (ft10 p q) := m1_c (nR (by show 1 ≠ 21; decide)) (m1_c (nR (by show 1 ≠ 21; decide)) (m1_c (nI_ _ _) (m1_c (nR (by show 2 ≠ 21; decide)) (m1_c (nR (by show 1 ≠ 21; decide)) (m1_c (nR (by show 1 ≠ 21; decide)) (m1_c (nI_ _ _) (m1_n)))))))
theorem ft11_1 (p q : Nat) : mons1 (ft11 p q) := m1_c (nR (by show 0 ≠ 21; decide)) (m1_c (nTL _) (m1_c (nRd) (m1_c (nP _) (m1_c (nR (by show 16 ≠ 21; decide)) (m1_c (nR (by show 16 ≠ 21; decide)) (m1_c (nR (by show 4 ≠ 21; decide)) (m1_c (nI_ _ _) (m1_c (nI_ _ _) (m1_c (nR (by show 5 ≠ 21; decide)) (m1_c (nR (by show 4 ≠ 21; decide)) (m1_c (nR (by show 6 ≠ 21; decide)) (m1_c (nR (by show 7 ≠ 21; decide)) (m1_c (nR (by show 15 ≠ 21; decide)) (m1_c (nR (by show 20 ≠ 21; decide)) (m1_c (nR (by show 11 ≠ 21; decide)) (m1_c (nP _) (m1_c (nR (by show 1 ≠ 21; decide)) (m1_c (nR (by show 1 ≠ 21; decide)) (m1_c (nA) (m1_n))))))))))))))))))))
theorem ft12_1 (p q : Nat) : mons1 (ft12 p q) := m1_c (nA) (m1_c (nR (by show 8 ≠ 21; decide)) (m1_c (nR (by show 3 ≠ 21; decide)) (m1_c (nR (by show 1 ≠ 21; decide)) (m1_c (nR (by show 8 ≠ 21; decide)) (m1_c (nTM _) (m1_c (nA) (m1_c (nA) (m1_c (nA) (m1_c (nA) (m1_c (nI_ _ _) (m1_c (nA) (m1_c (nA) (m1_c (nA) (m1_c (nA) (m1_c (nR (by show 1 ≠ 21; decide)) (m1_c (nA) (m1_c (nR (by show 9 ≠ 21; decide)) (m1_c (nR (by show 9 ≠ 21; decide)) (m1_c (nR (by show 1 ≠ 21; decide)) (m1_c (nI_ _ _) (m1_c (nR (by show 1 ≠ 21; decide)) (m1_c (nR (by show 1 ≠ 21; decide)) (m1_c (nA) (m1_c (nA) (m1_c (nA) (m1_c (nR (by show 2 ≠ 21; decide)) (m1_c (nR (by show 3 ≠ 21; decide)) (m1_c (nR (by show 0 ≠ 21; decide)) (m1_c (nR (by show 1 ≠ 21; decide)) (m1_c (nR (by show 1 ≠ 21; decide)) (m1_c (nR (by show 1 ≠ 21; decide)) (m1_c (nA) (m1_c (nR (by show 1 ≠ 21; decide)) (m1_c (nR (by show 1 ≠ 21; decide)) (m1_c (nR (by show 2 ≠ 21; decide)) (m1_n))))))))))))))))))))))))))))))))))))
theorem ft9w_1 (p q : Nat) : mons1 (ft9w p q) := m1_c (nE _) (m1_c (nE _) (m1_c (nA) (m1_c (nI_ _ _) (m1_c (nI_ _ _) (m1_c (nI_ _ _) (m1_c (nR (by show 1 ≠ 21; decide)) (m1_c (nR (by show 1 ≠ 21; decide)) (m1_c (nR (by show 1 ≠ 21; decide)) (m1_c (nR (by show 1 ≠ 21; decide)) (m1_c (nR (by show 1 ≠ 21; decide)) (m1_c (nL) (m1_c (nI_ _ _) (m1_c (nI_ _ _) (m1_n))))))))))))))
theorem ft9d_1 (p q : Nat) : mons1 (ft9d p q) := m1_c (nI_ _ _) (m1_c (nI_ _ _) (m1_c (nA) (m1_c (nI_ _ _) (m1_c (nI_ _ _) (m1_c (nI_ _ _) (m1_c (nR (by show 1 ≠ 21; decide)) (m1_c (nR (by show 1 ≠ 21; decide)) (m1_c (nR (by show 1 ≠ 21; decide)) (m1_c (nR (by show 1 ≠ 21; decide)) (m1_c (nR (by show 1 ≠ 21; decide)) (m1_c (nN) (m1_c (nI_ _ _) (m1_c (nI_ _ _) (m1_n))))))))))))))
theorem ft9_1 (p q : Nat) : mons1 (ft9 p q) := by
  unfold ft9
  split
  · exact ft9d_1 p q
  · exact ft9w_1 p q
theorem fts_1 (c p q : Nat) : mons1 (fts c p q) := by
  unfold fts
  split <;> first | exact ft1_1 p q | exact ft2_1 p q | exact ft3_1 p q | exact ft4_1 p q | exact ft5_1 p q | exact ft6_1 p q | exact ft8_1 p q | exact ft9_1 p q | exact ft10_1 p q | exact ft11_1 p q | exact ft12_1 p q | exact m1_n
theorem ob_re {T : TF} {a w w2 q0 : Nat} (ha : T a = some (21, w, q0)) {c p q : Nat} {fs : List Value} (ho : ob T c p q fs) : ob (Tadd T a (21, w2, q0)) c p q fs := by
  unfold ob at ho ⊢
  split at ho
  · obtain ⟨b, b2, d, n, x, e1, t1, t2, t3, r⟩ := ho
    exact ⟨b, b2, d, n, x, e1, re_ne ha (by show 1 ≠ 21; decide) t1, re_ne ha (by show 1 ≠ 21; decide) t2, re_ne ha (by show 1 ≠ 21; decide) t3, r⟩
  · obtain ⟨b, n, x1, x2, x3, x4, x5, x6, x7, e1, t, r⟩ := ho
    exact ⟨b, n, x1, x2, x3, x4, x5, x6, x7, e1, re_ne ha (by show 0 ≠ 21; decide) t, r⟩
  · exact ⟨ho.1, fun k P v h1 h2 => fts_1 _ _ _ P (List.mem_of_getElem? h1) T a w w2 q0 v ha (ho.2 k P v h1 h2)⟩
theorem sp_re {cs : CS} {T : TF} {a w w2 q : Nat} (ha : T a = some (21, w, q)) {tg : Tg} {e : va_E} (hs : sp cs T tg e) : sp cs (Tadd T a (21, w2, q)) tg e := by
  unfold sp at hs ⊢
  split at hs
  · exact hs
  · exact hs
  · exact hs
  · exact hs
  · obtain ⟨f, e1, g⟩ := hs
    exact ⟨f, e1, fun j hj => by obtain ⟨b, x, y⟩ := g j hj; exact ⟨b, x, re_ne ha (by show 16 ≠ 21; decide) y⟩⟩
  · obtain ⟨f, e1, g⟩ := hs
    exact ⟨f, e1, fun j b hj => by obtain ⟨x, g2, y⟩ := g j b hj; exact ⟨x, g2, isW.re ha y⟩⟩
  · obtain ⟨f, e1, g⟩ := hs
    exact ⟨f, e1, fun j hj => by obtain ⟨b, x, y⟩ := g j hj; exact ⟨b, x, re_ne ha (by show 18 ≠ 21; decide) y⟩⟩
  · obtain ⟨f, e1, g⟩ := hs
    exact ⟨f, e1, fun j hj => by obtain ⟨b, x, y⟩ := g j hj; exact ⟨b, x, re_ne ha (by show 15 ≠ 21; decide) y⟩⟩
  · exact hs
  · exact hs
  · obtain ⟨fs, e1, g⟩ := hs
    exact ⟨fs, e1, ob_re ha g⟩
/-- a FootholdWall that is taken out gets another wall, and is laid back so -/
theorem HT.re {D : va_G} {cs : CS} {A : Nat → Prop} {T : TF} {O : List Nat} {X : va_W} {H : Heap} {a w w2 q : Nat} {fs : List Value} (h : HT D cs A T (a :: O) ((a, .inr (11, fs)) :: X) H) (ha : T a = some (21, w, q)) (hob : ob T 11 w2 q fs) : HT D cs A (Tadd T a (21, w2, q)) O X H := by
  obtain ⟨ws, hP, hD, h3, h4⟩ := h
  refine HT.lay (T := Tadd T a (21, w2, q)) (ci := 11) (p := w2) (q := q) (fs := fs) ⟨ws, hP, hD, fun b tb hb hO => ?_, fun k x hk => ?_⟩ Tadd_r (ob_re ha hob)
  · have hba : b ≠ a := fun z => hO (z ▸ List.mem_cons_self)
    have hb2 : T b = some tb := by unfold Tadd at hb; rw [if_neg hba] at hb; exact hb
    obtain ⟨k, eb, hk, hsb⟩ := h3 b tb hb2 hO
    exact ⟨k, eb, hk, sp_re ha hsb⟩
  · obtain ⟨t, ht⟩ := h4 k x hk
    by_cases hx : x.1 = a
    · exact ⟨_, by rw [hx]; exact Tadd_r⟩
    · exact ⟨t, by unfold Tadd; rw [if_neg hx]; exact ht⟩
/-! another length of the tape: the kind 10 is told anew -/
def Trc (T T2 : TF) : Prop := ∀ (b : Nat) (tg : Tg), T b = some tg → tg.1 ≠ 10 → T2 b = some tg
def mon3 (P : FT) : Prop := ∀ (T T2 : TF) (v : Value), Trc T T2 → P T v → P T2 v
theorem g3I (lo hi : Int) : mon3 (fI lo hi) := fun _ _ _ _ h => h
theorem g3A : mon3 fA := fun _ _ _ _ h => h
theorem g3E (n : Nat) : mon3 (fE n) := fun _ _ _ _ h => h
theorem g3N : mon3 fN := fun _ _ _ _ h => h
theorem g3P (n : Nat) : mon3 (fP n) := fun _ _ _ _ h => h
theorem g3R {tg : Tg} (h1 : tg.1 ≠ 10) : mon3 (fR tg) := fun _ _ _ h ⟨b, x, t⟩ => ⟨b, x, h _ _ t h1⟩
theorem g3Rd : mon3 fRd := fun _ _ _ h ⟨b, d, x, t, u⟩ => ⟨b, d, x, h _ _ t (by show 14 ≠ 10; decide), h _ _ u (by show 19 ≠ 10; decide)⟩
theorem isW.gc {T T2 : TF} (h : Trc T T2) {b x g : Nat} (hw : isW T b x g) : isW T2 b x g := ⟨h _ _ hw.1 (by show 19 ≠ 10; decide), hw.2⟩
theorem g3W : mon3 fW := fun _ _ _ h ⟨b, x, g, q, t⟩ => ⟨b, x, g, q, isW.gc h t⟩
theorem g3L : mon3 fLw := fun _ _ _ h q => q.elim Or.inl (fun ⟨b, n, x, t, u⟩ => Or.inr ⟨b, n, x, h _ _ t (by show 12 ≠ 10; decide), u⟩)
theorem g3TM (n : Nat) : mon3 (fTM n) := fun _ _ _ _ h => h
def mons3 (l : List FT) : Prop := ∀ P ∈ l, mon3 P
theorem m3_n : mons3 [] := fun _ h => absurd h List.not_mem_nil
theorem m3_c {P : FT} {l : List FT} (h : mon3 P) (hl : mons3 l) : mons3 (P :: l) := fun Q hQ => (List.mem_cons.mp hQ).elim (fun q => q ▸ h) (hl Q)
theorem ft1_3 (p q : Nat) : mons3 (ft1 p q) := m3_c (g3R (by show 1 ≠ 10; decide)) (m3_c (g3R (by show 1 ≠ 10; decide)) (m3_c (g3A) (m3_c (g3R (by show 1 ≠ 10; decide)) (m3_c (g3I _ _) (m3_c (g3A) (m3_c (g3R (by show 1 ≠ 10; decide)) (m3_n)))))))
theorem ft2_3 (p q : Nat) : mons3 (ft2 p q) := m3_c (g3R (by show 1 ≠ 10; decide)) (m3_c (g3R (by show 1 ≠ 10; decide)) (m3_c (g3R (by show 1 ≠ 10; decide)) (m3_n)))
theorem ft3_3 (p q : Nat) : mons3 (ft3 p q) := m3_c (g3R (by show 17 ≠ 10; decide)) (m3_c (g3R (by show 1 ≠ 10; decide)) (m3_c (g3I _ _) (m3_n)))
theorem ft4_3 (p q : Nat) : mons3 (ft4 p q) := m3_c (g3R (by show 17 ≠ 10; decide)) (m3_c (g3R (by show 13 ≠ 10; decide)) (m3_c (g3P _) (m3_c (g3I _ _) (m3_c (g3R (by show 16 ≠ 10; decide)) (m3_n)))))
theorem ft5_3 (p q : Nat) : mons3 (ft5 p q) := m3_c (g3W) (m3_c (g3A) (m3_c (g3A) (m3_c (g3A) (m3_c (g3R (by show 1 ≠ 10; decide)) (m3_c (g3R (by show 1 ≠ 10; decide)) (m3_n))))))
theorem ft6_3 (p q : Nat) : mons3 (ft6 p q) := m3_c (g3A) (m3_c (g3A) (m3_c (g3A) (m3_c (g3A) (m3_c (g3R (by show 1 ≠ 10; decide)) (m3_c (g3R (by show 1 ≠ 10; decide)) (m3_n))))))
theorem ft8_3 (p q : Nat) : mons3 (ft8 p q) := m3_c (g3R (by show 2 ≠ 10; decide)) (m3_c (g3A) (m3_c (g3I _ _) (m3_n)))
theorem ft10_3 (p q : Nat) : mons3 (ft10 p q) := m3_c (g3R (by show 1 ≠ 10; decide)) (m3_c (g3R (by show 1 ≠ 10; decide)) (m3_c (g3I _ _) (m3_c (g3R (by show 2 ≠ 10; decide)) (m3_c (g3R (by show 1 ≠ 10; decide)) (m3_c (g3R (by show 1 ≠ 10; decide)) (m3_c (g3I _ _) (m3_n)))))))
theorem ft12_3 (p q : Nat) : mons3 (ft12 p q) := m3_c (g3A) (m3_c (g3R (by show 8 ≠ 10; decide)) (m3_c (g3R (by show 3 ≠ 10; decide)) (m3_c (g3R (by show 1 ≠ 10; decide)) (m3_c (g3R (by show 8 ≠ 10; decide)) (m3_c (g3TM _) (m3_c (g3A) (m3_c (g3A) (m3_c (g3A) (m3_c (g3A) (m3_c (g3I _ _) (m3_c (g3A) (m3_c (g3A) (m3_c (g3A) (m3_c (g3A) (m3_c (g3R (by show 1 ≠ 10; decide)) (m3_c (g3A) (m3_c (g3R (by show 9 ≠ 10; decide)) (m3_c (g3R (by show 9 ≠ 10; decide)) (m3_c (g3R (by show 1 ≠ 10; decide)) (m3_c (g3I _ _) (m3_c (g3R (by show 1 ≠ 10; decide)) (m3_c (g3R (by show 1 ≠ 10; decide)) (m3_c (g3A) (m3_c (g3A) (m3_c (g3A) (m3_c (g3R (by show 2 ≠ 10; decide)) (m3_c (g3R (by show 3 ≠ 10; decide)) (m3_c (g3R (by show 0 ≠ 10; decide)) (m3_c (g3R (by show 1 ≠ 10; decide)) (m3_c (g3R (by show 1 ≠ 10; decide)) (m3_c (g3R (by show 1 ≠ 10; decide)) (m3_c (g3A) (m3_c (g3R (by show 1 ≠ 10; decide)) (m3_c (g3R (by show 1 ≠ 10; decide)) (m3_c (g3R (by show 2 ≠ 10; decide)) (m3_n))))))))))))))))))))))))))))))))))))
theorem ft9w_3 (p q : Nat) : mons3 (ft9w p q) := m3_c (g3E _) (m3_c (g3E _) (m3_c (g3A) (m3_c (g3I _ _) (m3_c (g3I _ _) (m3_c (g3I _ _) (m3_c (g3R (by show 1 ≠ 10; decide)) (m3_c (g3R (by show 1 ≠ 10; decide)) (m3_c (g3R (by show 1 ≠ 10; decide)) (m3_c (g3R (by show 1 ≠ 10; decide)) (m3_c (g3R (by show 1 ≠ 10; decide)) (m3_c (g3L) (m3_c (g3I _ _) (m3_c (g3I _ _) (m3_n))))))))))))))
theorem ft9d_3 (p q : Nat) : mons3 (ft9d p q) := m3_c (g3I _ _) (m3_c (g3I _ _) (m3_c (g3A) (m3_c (g3I _ _) (m3_c (g3I _ _) (m3_c (g3I _ _) (m3_c (g3R (by show 1 ≠ 10; decide)) (m3_c (g3R (by show 1 ≠ 10; decide)) (m3_c (g3R (by show 1 ≠ 10; decide)) (m3_c (g3R (by show 1 ≠ 10; decide)) (m3_c (g3R (by show 1 ≠ 10; decide)) (m3_c (g3N) (m3_c (g3I _ _) (m3_c (g3I _ _) (m3_n))))))))))))))
theorem ft9_3 (p q : Nat) : mons3 (ft9 p q) := by
  unfold ft9
  split
  · exact ft9d_3 p q
  · exact ft9w_3 p q
theorem fts_3 (c p q : Nat) (hc : c ≠ 11) : mons3 (fts c p q) := by
  unfold fts
  split <;> first | exact ft1_3 p q | exact ft2_3 p q | exact ft3_3 p q | exact ft4_3 p q | exact ft5_3 p q | exact ft6_3 p q | exact ft8_3 p q | exact ft9_3 p q | exact ft10_3 p q | exact ft12_3 p q | exact absurd rfl hc | exact m3_n
theorem ob_gc {T T2 : TF} (h : Trc T T2) {c p q : Nat} (hc : c ≠ 11) {fs : List Value} (ho : ob T c p q fs) : ob T2 c p q fs := by
  unfold ob at ho ⊢
  split at ho
  · obtain ⟨b, b2, d, n, x, e1, t1, t2, t3, r⟩ := ho
    exact ⟨b, b2, d, n, x, e1, h _ _ t1 (by show 1 ≠ 10; decide), h _ _ t2 (by show 1 ≠ 10; decide), h _ _ t3 (by show 1 ≠ 10; decide), r⟩
  · obtain ⟨b, n, x1, x2, x3, x4, x5, x6, x7, e1, t, r⟩ := ho
    exact ⟨b, n, x1, x2, x3, x4, x5, x6, x7, e1, h _ _ t (by show 0 ≠ 10; decide), r⟩
  · exact ⟨ho.1, fun k P v h1 h2 => fts_3 _ _ _ hc P (List.mem_of_getElem? h1) T T2 v h (ho.2 k P v h1 h2)⟩
theorem sp_gc {cs : CS} {T T2 : TF} (h : Trc T T2) {tg : Tg} (h21 : tg.1 ≠ 21) {e : va_E} (hs : sp cs T tg e) : sp cs T2 tg e := by
  unfold sp at hs ⊢
  split at hs
  · exact hs
  · exact hs
  · exact hs
  · exact hs
  · obtain ⟨f, e1, g⟩ := hs
    exact ⟨f, e1, fun j hj => by obtain ⟨b, x, y⟩ := g j hj; exact ⟨b, x, h _ _ y (by show 16 ≠ 10; decide)⟩⟩
  · obtain ⟨f, e1, g⟩ := hs
    exact ⟨f, e1, fun j b hj => by obtain ⟨x, g2, y⟩ := g j b hj; exact ⟨x, g2, isW.gc h y⟩⟩
  · obtain ⟨f, e1, g⟩ := hs
    exact ⟨f, e1, fun j hj => by obtain ⟨b, x, y⟩ := g j hj; exact ⟨b, x, h _ _ y (by show 18 ≠ 10; decide)⟩⟩
  · obtain ⟨f, e1, g⟩ := hs
    exact ⟨f, e1, fun j hj => by obtain ⟨b, x, y⟩ := g j hj; exact ⟨b, x, h _ _ y (by show 15 ≠ 10; decide)⟩⟩
  · exact hs
  · exact hs
  · rename_i c p q
    obtain ⟨fs, e1, g⟩ := hs
    exact ⟨fs, e1, ob_gc h (fun z => h21 (by show c + 10 = 21; omega)) g⟩
theorem HT.gh {D : va_G} {cs : CS} {A : Nat → Prop} {T : TF} {O : List Nat} {X : va_W} {H : Heap} {a ch g g2 : Nat} (h : HT D cs A T O X H) (hc : T ch = some (10, g, 0)) (hU : ∀ (b : Nat) (tg : Tg), T b = some tg → tg.1 = 21 → b = a) (hcO : ch ∈ O) (haO : a ∈ O) : HT D cs A (Tadd T ch (10, g2, 0)) O X H := by
  have q3 : ∀ b, b ≠ ch → Tadd T ch (10, g2, 0) b = T b := fun b h1 => by unfold Tadd; rw [if_neg h1]
  have hk : Trc T (Tadd T ch (10, g2, 0)) := fun b tg hb k1 => by
    rw [q3 b (fun z => by rw [z, hc] at hb; cases hb; exact k1 rfl)]
    exact hb
  obtain ⟨ws, hP, hD, h3, h4⟩ := h
  refine ⟨ws, hP, hD, fun b tg hb hO => ?_, fun k q hq => ?_⟩
  · have h1 : b ≠ ch := fun z => hO (z ▸ hcO)
    have h2 : b ≠ a := fun z => hO (z ▸ haO)
    rw [q3 b h1] at hb
    obtain ⟨k, e1, hk1, hs⟩ := h3 b tg hb hO
    exact ⟨k, e1, hk1, sp_gc hk (fun z => h2 (hU b tg hb z)) hs⟩
  · obtain ⟨tg, ht⟩ := h4 k q hq
    by_cases h1 : q.1 = ch
    · exact ⟨_, by rw [h1]; exact Tadd_r⟩
    · exact ⟨tg, by rw [q3 _ h1]; exact ht⟩
theorem Trc.add {T : TF} {ch g g2 : Nat} (hc : T ch = some (10, g, 0)) : Trc T (Tadd T ch (10, g2, 0)) := fun b tg hb k1 => by
  unfold Tadd
  rw [if_neg (fun z => by rw [z, hc] at hb; cases hb; exact k1 rfl)]
  exact hb
