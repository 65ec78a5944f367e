/-- only the tape's length is told anew -/
def Tgc (T T2 : TF) : Prop := Trc T T2 ∧ ∀ (b : Nat) (tg : Tg), T2 b = some tg → T b = some tg ∨ tg.1 = 10
theorem Tgc.rf {T : TF} : Tgc T T := ⟨fun _ _ h _ => h, fun _ _ h => Or.inl h⟩
theorem Tgc.add {T : TF} {ch g g2 : Nat} (hc : T ch = some (10, g, 0)) : Tgc T (Tadd T ch (10, g2, 0)) := ⟨Trc.add hc, fun b tg hb => by
  unfold Tadd at hb
  split at hb
  · cases hb; exact Or.inr rfl
  · exact Or.inl hb⟩
/-- what stays when a wall is told -/
def Twl (T T2 : TF) (a : Nat) : Prop := (∀ (b : Nat) (tg : Tg), T b = some tg → tg.1 ≠ 21 → tg.1 ≠ 10 → T2 b = some tg) ∧ ∀ (b : Nat) (tg : Tg), T2 b = some tg → T b = some tg ∨ tg.1 = 1 ∨ tg.1 = 12 ∨ tg.1 = 19 ∨ (tg.1 = 21 ∧ b = a) ∨ tg.1 = 10
theorem Twl.of {T T1 T2 T3 : TF} {a : Nat} (h1 : Tgr T T1) (h2 : Tgc T1 T2) (h3 : Tre T2 T3 a) : Twl T T3 a := ⟨fun b tg hb k1 k2 => h3.1 b tg (h2.1 b tg (h1.1 b tg hb) k2) k1, fun b tg hb => by
  rcases h3.2 b tg hb with q | q
  · rcases h2.2 b tg q with q | q
    · rcases h1.2 b tg q with q | q
      · exact Or.inl q
      · exact Or.inr (by omega)
    · exact Or.inr (by omega)
  · exact Or.inr (by omega)⟩
/-- the tape's length behind a wall, the answer of feed -/
def WLF (g g2 : Nat) (x : Int) : Prop := (0 ≤ x ∧ x ≤ (g : Int) ∧ g2 = 0) ∨ (¬ (0 ≤ x ∧ x ≤ (g : Int)) ∧ g2 = g)
theorem WLF_eq {g a b : Nat} {x : Int} (h : WLF g a x) (k : WLF g b x) : a = b := by
  unfold WLF at h k
  omega
def FDF (g g2 : Nat) (r : Int) : Prop := (880 < g ∧ g2 = g ∧ r = -5) ∨ (g ≤ 880 ∧ g2 = g + 20 ∧ r = (g : Int) + 20)
theorem FDF_g {g a b : Nat} {r q : Int} (h : FDF g a r) (k : FDF g b q) : a = b := by
  unfold FDF at h k
  omega
theorem FDF_eq {g a b : Nat} {r q : Int32} (h : FDF g a r.toInt) (k : FDF g b q.toInt) : r = q := by
  apply Int32.toInt_inj.mp
  unfold FDF at h k
  omega
