/-! clones, casts, arrays of walls; shifts and powers -/
section ThRows7
variable {p : Program} {l : Launch} {e : Env} {R : Room} {s : State} {m : MethodId} {args : Array Value} {below : List Frame} {meth : Method} {c : Code} {H : Heap} {locs : List Loc} {cells slots : Nat} {Q : State → Prop}
variable {cc : ByteArray} {pc : Nat} {ls : Array Slot} {rest : List Value} {D : va_G} {A : Nat → Prop} {a : Nat} {cs : CS} {T : TF} {O : List Nat} {X : va_W} {H0 : Heap}
theorem fc_I (hkb : kb D (tyc cs) s) : s.vm.findClass "[I" = some cs.2.1 := (hkb.1.2 1 (cs.2.1, .int) rfl).2
theorem t_cloneI {own : String} {index n k : Nat} (hx : p.tables.exec = Jvm.exec) (hb : c.code = cc) (hml : c.maxLocals = ls.size) (hown : s.vm.findClass own = some m.cls)
    (hlink : (Cond.methodLink own index ⟨"[I", "clone", "()Ljava/lang/Object;"⟩).before args s = true) (hsame : (Cond.sameMethod "[I" "java/lang/Object" "clone" "()Ljava/lang/Object;").before args s = true)
    (hnat : (Cond.native ⟨"java/lang/Object", "clone", "()Ljava/lang/Object;"⟩).before args s = true) (hinst : (Cond.instanceMethod ⟨"java/lang/Object", "clone", "()Ljava/lang/Object;"⟩).before args s = true)
    (hsel : (Cond.selects "[I" ⟨"[I", "clone", "()Ljava/lang/Object;"⟩ ⟨"java/lang/Object", "clone", "()Ljava/lang/Object;"⟩).before args s = true)
    (hkb : kb D (tyc cs) s) (hH : HT D cs A T O X H) (hOX : ∀ o ∈ O, ∃ (k : Nat) (e : va_E), X[k]? = some (o, e)) (hS : va_S A H0 H locs) (hA : ∀ q, H0.size ≤ q → A q) (ha : T a = some (1, n, k)) (hno : a ∉ O)
    (hframes : 1 ≤ R.frames) (hlocals : (rest.map fun v => v.category).sum + 14 ≤ R.locals) (hcells : cells + 1 ≤ R.cells) (hslots : slots + n ≤ R.slots) (hdg : decode cc pc = .ok (.invokevirtual index, 3))
    (kk : ∀ (r : Nat) (T' : TF) (H1 : Heap), Tgr T T' → T' r = some (1, n, k) → HT D cs A T' O X H1 → va_S A H0 H1 locs → W p l e R s m args below meth c H1 locs (cells + 1) (slots + n) Q (F0 m (pc + 3) ls (.ref r :: rest))) : W p l e R s m args below meth c H locs cells slots Q (F0 m pc ls (.ref a :: rest)) := by
  obtain ⟨ws, hP, hD, h3, h4⟩ := hH
  obtain ⟨j, e0, hj, hs⟩ := h3 a _ ha hno
  obtain ⟨f, rfl, hf⟩ : ∃ f : Nat → Int32, e0 = .inl (cs.2.1, n, .inl f) ∧ ∀ j, cp k (f j) := hs
  refine va_clone hx hb hml hown hlink hsame hnat hinst hsel hkb.2.2.2.2.2.2.2.2.2.2 hkb.1 hP hD hS hA (X.length + j) 1 (ap_r hj) rfl (fc_I hkb) (fun i v h => ?_) hframes hlocals hcells hslots hdg (fun q H1 hK2 hP hD hS => ?_)
  · have hlt := (Array.getElem?_eq_some_iff.mp h).1
    rw [vp_cell_i, arrV_size] at hlt
    rw [vp_cell_i, arrV_read _ _ hlt] at h
    cases h
    rfl
  · exact kk q (Tadd T q (1, n, k)) H1 (Tgr_add (new_none hD hOX h3) (Or.inl rfl)) Tadd_r (HT.push hP hD hOX h3 h4 (show sp cs _ (1, n, k) _ from ⟨f, rfl, hf⟩)) hS
theorem t_castI {own : String} {index n k : Nat} (hx : p.tables.exec = Jvm.exec) (hb : c.code = cc) (hown : s.vm.findClass own = some m.cls) (hlink : (Cond.classLink own index "[I").before args s = true) (hkb : kb D (tyc cs) s) (hH : HT D cs A T O X H) (ha : T a = some (1, n, k)) (hno : a ∉ O) (hdg : decode cc pc = .ok (.checkcast index, 3))
    (kk : W p l e R s m args below meth c H locs cells slots Q (F0 m (pc + 3) ls (.ref a :: rest))) : W p l e R s m args below meth c H locs cells slots Q (F0 m pc ls (.ref a :: rest)) := by
  obtain ⟨ws, hP, hD, h3, h4⟩ := hH
  obtain ⟨j, e0, hj, hs⟩ := h3 a _ ha hno
  obtain ⟨f, rfl, hf⟩ : ∃ f : Nat → Int32, e0 = .inl (cs.2.1, n, .inl f) ∧ ∀ j, cp k (f j) := hs
  exact va_castA hx hb hown hlink hP (X.length + j) (ap_r hj) (fc_I hkb) hdg kk
theorem xa_wld {n : Nat} {f : Nat → Option Nat} {j : Int32} (hx : p.tables.exec = Jvm.exec) (hb : c.code = cc) (hkb : kb D (tyc cs) s) (hH : HT D cs A T O X H) (i : Nat) (hi : X[i]? = some (a, .inl (cs.2.2.2.2.2.1, n, .inr (.inr (.inr (.inr f)))))) (hsp : ∀ j a, f j = some a → ∃ h g, isW T a h g) (h0 : 0 ≤ j.toInt) (h1 : j.toInt < n) (hdg : decode cc pc = .ok (.aaload, 1))
    (k1 : f j.toNatClampNeg = none → W p l e R s m args below meth c H locs cells slots Q (F0 m (pc + 1) ls (.null :: rest))) (k2 : ∀ r h g : Nat, f j.toNatClampNeg = some r → isW T r h g → W p l e R s m args below meth c H locs cells slots Q (F0 m (pc + 1) ls (.ref r :: rest))) : W p l e R s m args below meth c H locs cells slots Q (F0 m pc ls (.int j :: .ref a :: rest)) := by
  obtain ⟨ws, hP, hD, h3, h4⟩ := hH
  refine va_aldq (C := RX9) hx hb hkb.1 hP i 5 (ap_l hi) rfl (in_t h0 h1) hdg ?_
  cases hr : f j.toNatClampNeg with
  | none => exact k1 hr
  | some r =>
    obtain ⟨h, g, hw⟩ := hsp _ r hr
    exact k2 r h g hr hw
theorem xa_wld1 {n r : Nat} {f : Nat → Option Nat} {j : Int32} (hx : p.tables.exec = Jvm.exec) (hb : c.code = cc) (hkb : kb D (tyc cs) s) (hH : HT D cs A T O X H) (i : Nat) (hi : X[i]? = some (a, .inl (cs.2.2.2.2.2.1, n, .inr (.inr (.inr (.inr f)))))) (h0 : 0 ≤ j.toInt) (h1 : j.toInt < n) (hr : f j.toNatClampNeg = some r) (hdg : decode cc pc = .ok (.aaload, 1))
    (kk : W p l e R s m args below meth c H locs cells slots Q (F0 m (pc + 1) ls (.ref r :: rest))) : W p l e R s m args below meth c H locs cells slots Q (F0 m pc ls (.int j :: .ref a :: rest)) := by
  obtain ⟨ws, hP, hD, h3, h4⟩ := hH
  refine va_aldq (C := RX9) hx hb hkb.1 hP i 5 (ap_l hi) rfl (in_t h0 h1) hdg ?_
  rw [hr]
  exact kk
theorem TK.mono {kf : KF} {y : MethodName} {b : ByteArray} {n : Nat} {r : Option FieldType} {rm : Room} {as : List Value} {post post' : Int32 → TX → Prop} (h : TK l D cs kf y b n r rm as T O X (Ti D cs post)) (hp : ∀ v u, post v u → post' v u) : TK l D cs kf y b n r rm as T O X (Ti D cs post') := by
  intro sz p e ha hc hk s m args below hf happ hP hK
  obtain ⟨z, o, h1, h2, h3, ⟨⟨⟨v, u, e1, e2, e3⟩, e4⟩, h5⟩⟩ := h sz p e ha hc hk s m args below hf happ hP hK
  exact ⟨z, o, h1, h2, h3, ⟨⟨v, u, e1, hp v u e2, e3⟩, e4⟩, h5⟩
end ThRows7
/-- all but the FootholdWall stay as they are -/
def Tre (T T2 : TF) (a : Nat) : Prop := (∀ (b : Nat) (tg : Tg), T b = some tg → tg.1 ≠ 21 → T2 b = some tg) ∧ ∀ (b : Nat) (tg : Tg), T2 b = some tg → T b = some tg ∨ tg.1 = 1 ∨ tg.1 = 12 ∨ tg.1 = 19 ∨ (tg.1 = 21 ∧ b = a)
theorem Tre.rf {T : TF} {a : Nat} : Tre T T a := ⟨fun _ _ h _ => h, fun _ _ h => Or.inl h⟩
theorem Tre.of {T T2 : TF} {a : Nat} (h : Tgr T T2) : Tre T T2 a := ⟨fun b tg hb _ => h.1 b tg hb, fun b tg hb => (h.2 b tg hb).elim Or.inl (fun q => Or.inr (by omega))⟩
theorem Tre.tr {T T1 T2 : TF} {a : Nat} (h1 : Tre T T1 a) (h2 : Tre T1 T2 a) : Tre T T2 a := ⟨fun b tg hb hk => h2.1 b tg (h1.1 b tg hb hk) hk, fun b tg hb => (h2.2 b tg hb).elim (h1.2 b tg) Or.inr⟩
theorem Tre.add {T : TF} {a w w2 q : Nat} (ha : T a = some (21, w, q)) : Tre T (Tadd T a (21, w2, q)) a := ⟨fun b tg hb hk => re_ne ha hk hb, fun b tg hb => by
  unfold Tadd at hb
  split at hb
  · rename_i hba
    cases hb
    exact Or.inr (Or.inr (Or.inr (Or.inr ⟨rfl, hba⟩)))
  · exact Or.inl hb⟩
theorem ushr_n {x y : Int32} (k : Nat) (hk : y.toUInt32 &&& Int32.toUInt32 31 = UInt32.ofNat k) (h31 : k < 32) (h : 0 ≤ x.toInt) : (x.toUInt32 >>> (y.toUInt32 &&& Int32.toUInt32 31)).toInt32.toInt = x.toInt / 2 ^ k := by
  rw [hk]
  obtain ⟨h1, h2⟩ := nn_i h
  have e : (x.toUInt32 >>> UInt32.ofNat k).toNat = x.toBitVec.toNat >>> k := by
    rw [UInt32.toNat_shiftRight]
    have : (UInt32.ofNat k).toNat % 32 = k := by rw [UInt32.toNat_ofNat']; omega
    rw [this]
    rfl
  have hb : ((x.toUInt32 >>> UInt32.ofNat k).toInt32).toBitVec.toNat = x.toBitVec.toNat >>> k := by
    show (x.toUInt32 >>> UInt32.ofNat k).toBitVec.toNat = _
    exact e
  have hle : x.toBitVec.toNat >>> k ≤ x.toBitVec.toNat := Nat.shiftRight_le _ _
  have := nn_of (x := (x.toUInt32 >>> UInt32.ofNat k).toInt32) (by rw [hb]; omega)
  rw [this, hb, h1, Nat.shiftRight_eq_div_pow]
  exact_mod_cast rfl
theorem nat_and_pow {n k : Nat} (h0 : 2 ^ k ≤ n) (h1 : n < 2 ^ (k + 1)) : n &&& 2 ^ k = 2 ^ k := by
  apply Nat.eq_of_testBit_eq
  intro i
  rw [Nat.testBit_and, Nat.testBit_two_pow]
  by_cases hi : k = i
  · subst hi
    rw [Nat.testBit_of_two_pow_le_and_two_pow_add_one_gt h0 h1]
    simp
  · simp [hi]
theorem and_pow {x c : Int32} (k : Nat) (hk : k ≤ 30) (hc : c.toInt = 2 ^ k) (h0 : (2 : Int) ^ k ≤ x.toInt) (h1 : x.toInt < 2 ^ (k + 1)) : (x &&& c).toInt = 2 ^ k := by
  have hp : (0 : Int) < 2 ^ k := Int.pow_pos (by decide)
  obtain ⟨a1, a2⟩ := nn_i (x := x) (by omega)
  obtain ⟨b1, b2⟩ := nn_i (x := c) (by omega)
  have ec : c.toBitVec.toNat = 2 ^ k := by
    have : (c.toBitVec.toNat : Int) = ((2 ^ k : Nat) : Int) := by rw [← b1, hc]; norm_cast
    exact_mod_cast this
  have g0 : 2 ^ k ≤ x.toBitVec.toNat := by
    have : ((2 ^ k : Nat) : Int) ≤ (x.toBitVec.toNat : Int) := by rw [← a1]; exact_mod_cast h0
    exact_mod_cast this
  have g1 : x.toBitVec.toNat < 2 ^ (k + 1) := by
    have : (x.toBitVec.toNat : Int) < ((2 ^ (k + 1) : Nat) : Int) := by rw [← a1]; exact_mod_cast h1
    exact_mod_cast this
  have e : (x &&& c).toBitVec.toNat = 2 ^ k := by rw [Int32.toBitVec_and, BitVec.toNat_and, ec, nat_and_pow g0 g1]
  have := nn_of (x := x &&& c) (by rw [e]; omega)
  rw [this, e]
  norm_cast
theorem a31_tab : ∀ k, k < 32 → nI k &&& 31 = nI k := by decide +kernel
/-- a bit of a number that isn't below 0 -/
theorem bit_le {x h v w : Int32} (hx : 0 ≤ x.toInt) (h0 : 0 ≤ h.toInt) (h1 : h.toInt ≤ 30) (ev : v = x >>> (h &&& 31)) (ew : w = v &&& 1) (hw : w.toInt ≠ 0) : ((1 : Int32) <<< (h &&& 31)).toInt ≤ x.toInt := by
  have e := is_nI h0
  have ek : h &&& 31 = nI h.toInt.toNat := by
    have := a31_tab h.toInt.toNat (by omega)
    rw [← e] at this
    rw [this]
    exact e
  have hv : v.toInt = x.toInt / 2 ^ h.toInt.toNat := by
    rw [ev]
    exact shr_c h.toInt.toNat ek (by omega)
  have hs : ((1 : Int32) <<< (h &&& 31)).toInt = 2 ^ h.toInt.toNat := by
    have := sh_tab h.toInt.toNat (by omega)
    rw [← e] at this
    exact this
  rw [hs]
  have hp : (0 : Int) < 2 ^ h.toInt.toNat := Int.pow_pos (by decide)
  rcases Int.lt_or_le x.toInt (2 ^ h.toInt.toNat) with q | q
  · exfalso
    rw [Int.ediv_eq_zero_of_lt hx q] at hv
    have v0 : v = 0 := Int32.toInt_inj.mp (by rw [hv]; decide)
    rw [ew, v0] at hw
    exact hw (by decide)
  · exact q
/-- a power of two above another one -/
theorem p2_lt {n m j i : Nat} (hn : n = 2 ^ j) (hm : m = 2 ^ i) (h : n < m) : j < i := by
  rw [hn, hm] at h
  exact (Nat.pow_lt_pow_iff_right (by decide)).mp h
theorem p2_le {n j : Nat} (hn : n = 2 ^ j) (hj : j ≤ 14) : 1 ≤ n ∧ n ≤ 16384 := by
  rw [hn]
  exact ⟨Nat.pow_pos (by decide), Nat.pow_le_pow_right (by decide) hj⟩
def hobP (x r : Int) : Prop := (x = 0 ∧ r = 0) ∨ ∃ j : Nat, j ≤ 13 ∧ r = 2 ^ j
/-- the room of a Chains: twice its highest bit, or one -/
theorem hob_size {x r v s0 : Int32} (h : hobP x.toInt r.toInt) (hv : v.toInt = 2 * r.toInt) (hs : s0.toInt = max 1 v.toInt) : ∃ j : Nat, j ≤ 14 ∧ s0.toInt.toNat = 2 ^ j := by
  rcases h with ⟨-, h⟩ | ⟨j, hj, h⟩
  · exact ⟨0, by omega, by omega⟩
  · have hp : (0 : Int) < 2 ^ j := Int.pow_pos (by decide)
    refine ⟨j + 1, by omega, ?_⟩
    have h2 : s0.toInt = ((2 ^ (j + 1) : Nat) : Int) := by
      rw [Nat.pow_succ]
      have : ((2 ^ j * 2 : Nat) : Int) = 2 ^ j * 2 := by norm_cast
      omega
    omega
