/-! a world of exact cells laid into kinds -/
def tof : va_W → List Tg → TF
  | (b, _) :: w, t :: ts => fun a => if a = b then some t else tof w ts a
  | _, _ => fun _ => none
def agr (T : TF) : va_W → List Tg → Prop
  | (a, _) :: w, t :: ts => T a = some t ∧ agr T w ts
  | [], _ => True
  | _ :: _, [] => True
def sps (cs : CS) (T : TF) : va_W → List Tg → Prop
  | (_, e) :: w, t :: ts => sp cs T t e ∧ sps cs T w ts
  | [], [] => True
  | [], _ :: _ => False
  | _ :: _, [] => False
theorem sps_c {cs : CS} {T : TF} {a : Nat} {e : va_E} {w : va_W} {t : Tg} {ts : List Tg} (h : sp cs T t e) (k : sps cs T w ts) : sps cs T ((a, e) :: w) (t :: ts) := ⟨h, k⟩
theorem sps_n {cs : CS} {T : TF} : sps cs T [] [] := trivial
theorem tof_at : ∀ (W : va_W) (ts : List Tg), (∀ (i j : Nat) (p q : Nat × va_E), W[i]? = some p → W[j]? = some q → p.1 = q.1 → i = j) → ∀ (i a : Nat) (e : va_E) (t : Tg), W[i]? = some (a, e) → ts[i]? = some t → tof W ts a = some t
  | [], _, _, i, a, e, t, h, _ => by simp at h
  | (b, x) :: w, [], _, i, a, e, t, _, h => by simp at h
  | (b, x) :: w, u :: us, hD, 0, a, e, t, h1, h2 => by
    have h1 : some (b, x) = some (a, e) := h1
    have h2 : some u = some t := h2
    cases h1
    cases h2
    show (if b = b then some u else _) = some u
    rw [if_pos rfl]
  | (b, x) :: w, u :: us, hD, i + 1, a, e, t, h1, h2 => by
    have hne : a ≠ b := fun q => absurd (hD (i + 1) 0 (a, e) (b, x) h1 rfl q) (by omega)
    show (if a = b then some u else tof w us a) = some t
    rw [if_neg hne]
    exact tof_at w us (fun i j p q hp hq he => by have := hD (i + 1) (j + 1) p q hp hq he; omega) i a e t h1 h2
theorem tof_in : ∀ (W : va_W) (ts : List Tg) (b : Nat) (tg : Tg), tof W ts b = some tg → ∃ (i : Nat) (e : va_E), W[i]? = some (b, e) ∧ ts[i]? = some tg
  | [], [], b, tg, h => by cases h
  | [], _ :: _, b, tg, h => by cases h
  | _ :: _, [], b, tg, h => by cases h
  | (a, x) :: w, u :: us, b, tg, h => by
    have h : (if b = a then some u else tof w us b) = some tg := h
    by_cases q : b = a
    · rw [if_pos q] at h
      cases h
      exact ⟨0, x, by rw [q]; rfl, rfl⟩
    · rw [if_neg q] at h
      obtain ⟨i, e, h1, h2⟩ := tof_in w us b tg h
      exact ⟨i + 1, e, h1, h2⟩
theorem agr_of (T : TF) : ∀ (W : va_W) (ts : List Tg), (∀ (i a : Nat) (e : va_E) (t : Tg), W[i]? = some (a, e) → ts[i]? = some t → T a = some t) → agr T W ts
  | [], _, _ => by unfold agr; trivial
  | _ :: _, [], _ => by unfold agr; trivial
  | (a, x) :: w, u :: us, h => ⟨h 0 a x u rfl rfl, agr_of T w us (fun i b e t h1 h2 => h (i + 1) b e t h1 h2)⟩
theorem sps_at (cs : CS) (T : TF) : ∀ (W : va_W) (ts : List Tg), sps cs T W ts → ∀ (i a : Nat) (e : va_E) (t : Tg), W[i]? = some (a, e) → ts[i]? = some t → sp cs T t e
  | [], _, _, i, a, e, t, h, _ => by simp at h
  | _ :: _, [], h, _, _, _, _, _, _ => h.elim
  | (b, x) :: w, u :: us, hs, 0, a, e, t, h1, h2 => by
    have h1 : some (b, x) = some (a, e) := h1
    have h2 : some u = some t := h2
    cases h1
    cases h2
    exact hs.1
  | (b, x) :: w, u :: us, hs, i + 1, a, e, t, h1, h2 => sps_at cs T w us hs.2 i a e t h1 h2
theorem sps_len (cs : CS) (T : TF) : ∀ (W : va_W) (ts : List Tg), sps cs T W ts → ∀ (i : Nat) (q : Nat × va_E), W[i]? = some q → ∃ t, ts[i]? = some t
  | [], _, _, i, q, h => by simp at h
  | _ :: _, [], h, _, _, _ => h.elim
  | (b, x) :: w, u :: us, hs, 0, q, h => ⟨u, rfl⟩
  | (b, x) :: w, u :: us, hs, i + 1, q, h => sps_len cs T w us hs.2 i q h
/-- one cell stays exact, all others are laid into their kinds -/
theorem lay_all {D : va_G} {cs : CS} {A : Nat → Prop} {H : Heap} {c0 : Nat} {e0 : va_E} {ws : va_W} {t0 : Tg} {us : List Tg} (hP : va_P D cls ((c0, e0) :: ws) H) (hD : va_D A ((c0, e0) :: ws)) :
    ∃ T : TF, agr T ((c0, e0) :: ws) (t0 :: us) ∧ (sps cs T ws us → HT D cs A T [c0] [(c0, e0)] H) ∧ ∀ (b : Nat) (tg : Tg), T b = some tg → ∃ (i : Nat) (e : va_E), ((c0, e0) :: ws)[i]? = some (b, e) ∧ (t0 :: us)[i]? = some tg := by
  have hat := tof_at ((c0, e0) :: ws) (t0 :: us) hD.1
  have hin := tof_in ((c0, e0) :: ws) (t0 :: us)
  refine ⟨tof ((c0, e0) :: ws) (t0 :: us), agr_of _ _ _ hat, fun hs => ⟨ws, hP, hD, fun a tg ha ho => ?_, fun k q hk => ?_⟩, hin⟩
  · obtain ⟨i, e, h1, h2⟩ := hin a tg ha
    match i, h1, h2 with
    | 0, h1, _ =>
      have h1 : some (c0, e0) = some (a, e) := h1
      cases h1
      exact absurd (List.mem_cons_self) ho
    | i + 1, h1, h2 => exact ⟨i, e, h1, sps_at _ _ ws us hs i a e tg h1 h2⟩
  · obtain ⟨t, ht⟩ := sps_len _ _ ws us hs k q hk
    exact ⟨t, hat (k + 1) q.1 q.2 t hk ht⟩
theorem cz {k : Nat} (h : k < 9) : cp k 0 := by
  have : ∀ j, j < 9 → cpl j ≤ (0 : Int32).toInt ∧ (0 : Int32).toInt ≤ cph j := by decide
  exact this k h
theorem plc_0 {k : Nat} (h : k < 59 ∨ 87 ≤ k) : plc k = 0 := by
  unfold plc plh
  rw [if_neg (by omega)]
theorem B8_plc : B8 3906 plc := fun z hz => S8_plain (fun j _ h => plc_0 (by
  by_cases q : z = 0
  · subst q
    omega
  · omega))
theorem B8_0 : B8 1302 (fun _ => 0) := fun z hz => S8_plain (fun j _ h => rfl)
