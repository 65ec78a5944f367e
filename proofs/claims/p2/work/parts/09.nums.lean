/-! bounds of numbers -/
theorem add_i {x y : Int32} {a b : Int} (hx : x.toInt = a) (hy : y.toInt = b) (h1 : -2147483648 ≤ a + b) (h2 : a + b ≤ 2147483647) : (x + y).toInt = a + b := by
  rw [Int32.toInt_add, hx, hy, Int.bmod_def]
  split <;> omega
theorem sub_i {x y : Int32} {a b : Int} (hx : x.toInt = a) (hy : y.toInt = b) (h1 : -2147483648 ≤ a - b) (h2 : a - b ≤ 2147483647) : (x - y).toInt = a - b := by
  rw [Int32.toInt_sub, hx, hy, Int.bmod_def]
  split <;> omega
theorem mul_i {x y : Int32} {a b : Int} (hx : x.toInt = a) (hy : y.toInt = b) (h1 : -2147483648 ≤ a * b) (h2 : a * b ≤ 2147483647) : (x * y).toInt = a * b := by
  rw [Int32.toInt_mul, hx, hy, Int.bmod_def]
  generalize a * b = z at h1 h2
  split <;> omega
theorem nn_i {x : Int32} (h : 0 ≤ x.toInt) : x.toInt = (x.toBitVec.toNat : Int) ∧ x.toBitVec.toNat < 2147483648 := by
  have e : x.toInt = x.toBitVec.toInt := rfl
  rw [e, BitVec.toInt_eq_toNat_cond] at h
  rw [e, BitVec.toInt_eq_toNat_cond]
  have hl := x.toBitVec.isLt
  split at h
  · rw [if_pos (by assumption)]
    omega
  · omega
theorem nn_of {x : Int32} (h : x.toBitVec.toNat < 2147483648) : x.toInt = (x.toBitVec.toNat : Int) := by
  have e : x.toInt = x.toBitVec.toInt := rfl
  rw [e, BitVec.toInt_eq_toNat_cond, if_pos (by omega)]
theorem and_l {x y : Int32} (h : 0 ≤ x.toInt) : 0 ≤ (x &&& y).toInt ∧ (x &&& y).toInt ≤ x.toInt := by
  obtain ⟨h1, h2⟩ := nn_i h
  have e : (x &&& y).toBitVec.toNat = x.toBitVec.toNat &&& y.toBitVec.toNat := by rw [Int32.toBitVec_and, BitVec.toNat_and]
  have hle : x.toBitVec.toNat &&& y.toBitVec.toNat ≤ x.toBitVec.toNat := Nat.and_le_left
  have := nn_of (x := x &&& y) (by omega)
  omega
theorem and_r {x y : Int32} (h : 0 ≤ y.toInt) : 0 ≤ (x &&& y).toInt ∧ (x &&& y).toInt ≤ y.toInt := by
  have := and_l (x := y) (y := x) h
  rw [Int32.and_comm] at this
  exact this
theorem or_b {x y : Int32} (k : Nat) (hk : k ≤ 31) (hx0 : 0 ≤ x.toInt) (hy0 : 0 ≤ y.toInt) (hx : x.toInt < 2 ^ k) (hy : y.toInt < 2 ^ k) : 0 ≤ (x ||| y).toInt ∧ (x ||| y).toInt < 2 ^ k := by
  obtain ⟨h1, h2⟩ := nn_i hx0
  obtain ⟨h3, h4⟩ := nn_i hy0
  have e : (x ||| y).toBitVec.toNat = x.toBitVec.toNat ||| y.toBitVec.toNat := by rw [Int32.toBitVec_or, BitVec.toNat_or]
  have g : x.toBitVec.toNat ||| y.toBitVec.toNat < 2 ^ k := Nat.or_lt_two_pow (by rw [h1] at hx; exact_mod_cast hx) (by rw [h3] at hy; exact_mod_cast hy)
  have hp : (2 : Nat) ^ k ≤ 2 ^ 31 := Nat.pow_le_pow_right (by decide) hk
  have := nn_of (x := x ||| y) (by omega)
  rw [this, e]
  exact ⟨by omega, by exact_mod_cast g⟩
theorem xor_b {x y : Int32} (k : Nat) (hk : k ≤ 31) (hx0 : 0 ≤ x.toInt) (hy0 : 0 ≤ y.toInt) (hx : x.toInt < 2 ^ k) (hy : y.toInt < 2 ^ k) : 0 ≤ (x ^^^ y).toInt ∧ (x ^^^ y).toInt < 2 ^ k := by
  obtain ⟨h1, h2⟩ := nn_i hx0
  obtain ⟨h3, h4⟩ := nn_i hy0
  have e : (x ^^^ y).toBitVec.toNat = x.toBitVec.toNat ^^^ y.toBitVec.toNat := by rw [Int32.toBitVec_xor, BitVec.toNat_xor]
  have g : x.toBitVec.toNat ^^^ y.toBitVec.toNat < 2 ^ k := Nat.xor_lt_two_pow (by rw [h1] at hx; exact_mod_cast hx) (by rw [h3] at hy; exact_mod_cast hy)
  have hp : (2 : Nat) ^ k ≤ 2 ^ 31 := Nat.pow_le_pow_right (by decide) hk
  have := nn_of (x := x ^^^ y) (by omega)
  rw [this, e]
  exact ⟨by omega, by exact_mod_cast g⟩
/-- an int by its number -/
theorem is_nI {x : Int32} (h0 : 0 ≤ x.toInt) : x = nI x.toInt.toNat := by
  apply Int32.toInt_inj.mp
  have h2 : x.toInt < 2 ^ 31 := Int32.toInt_lt x
  rw [nI_toInt (by omega)]
  omega
theorem sh_tab : ∀ k, k < 31 → ((1 : Int32) <<< (nI k &&& 31)).toInt = 2 ^ k := by decide +kernel
theorem shl_b {h : Int32} (k : Nat) (hk : k < 31) (h0 : 0 ≤ h.toInt) (h1 : h.toInt ≤ k) : 1 ≤ ((1 : Int32) <<< (h &&& 31)).toInt ∧ ((1 : Int32) <<< (h &&& 31)).toInt ≤ 2 ^ k := by
  have e := is_nI h0
  rw [e, sh_tab _ (by omega)]
  have hp : (2 : Nat) ^ h.toInt.toNat ≤ 2 ^ k := Nat.pow_le_pow_right (by decide) (by omega)
  have hq : 0 < (2 : Nat) ^ h.toInt.toNat := Nat.pow_pos (by decide)
  constructor
  · exact_mod_cast hq
  · exact_mod_cast hp
theorem shr_b {x y : Int32} (h : 0 ≤ x.toInt) : 0 ≤ (x >>> (y &&& 31)).toInt ∧ (x >>> (y &&& 31)).toInt ≤ x.toInt := by
  have e : (x >>> (y &&& 31)).toInt = x.toInt >>> ((y &&& 31).toBitVec.smod 32).toNat := by
    show (x >>> (y &&& 31)).toBitVec.toInt = _
    rw [Int32.toBitVec_shiftRight, BitVec.toInt_sshiftRight']
    rfl
  rw [e]
  constructor
  · rw [Int.shiftRight_eq_div_pow]
    exact Int.ediv_nonneg h (by exact_mod_cast Nat.zero_le _)
  · exact Int.shiftRight_le_of_nonneg h
theorem nar01 {v : Int32} (h0 : 0 ≤ v.toInt) (h1 : v.toInt ≤ 1) : narrow .boolean (.int v) = .int v := by
  have e := is_nI h0
  rcases (show v.toInt.toNat = 0 ∨ v.toInt.toNat = 1 by omega) with q | q <;> rw [e, q] <;> rfl
theorem g_lt {x y : Int32} (h : x < y) : x.toInt < y.toInt := Int32.lt_iff_toInt_lt.mp h
theorem g_nlt {x y : Int32} (h : ¬ x < y) : y.toInt ≤ x.toInt := Int.not_lt.mp (fun q => h (Int32.lt_iff_toInt_lt.mpr q))
theorem g_le {x y : Int32} (h : x ≤ y) : x.toInt ≤ y.toInt := Int32.le_iff_toInt_le.mp h
theorem g_nle {x y : Int32} (h : ¬ x ≤ y) : y.toInt < x.toInt := Int.not_le.mp (fun q => h (Int32.le_iff_toInt_le.mpr q))
theorem g_eq {x y : Int32} (h : x = y) : x.toInt = y.toInt := by rw [h]
theorem g_ne {x y : Int32} (h : ¬ x = y) : ¬ x.toInt = y.toInt := fun q => h (Int32.toInt_inj.mp q)
theorem full_i (x : Int32) : -2147483648 ≤ x.toInt ∧ x.toInt ≤ 2147483647 := by
  have h1 : -2 ^ 31 ≤ x.toInt := Int32.le_toInt x
  have h2 : x.toInt < 2 ^ 31 := Int32.toInt_lt x
  omega
theorem cp_0 (x : Int32) : cp 0 x := full_i x
theorem lt_l {x y : Int64} (h : lg_cmp x y < 0) : x.toInt < y.toInt := Int64.lt_iff_toInt_lt.mp ((lg_cmp_lt x y).mp h)
theorem nlt_l {x y : Int64} (h : ¬ lg_cmp x y < 0) : y.toInt ≤ x.toInt := Int.not_lt.mp (fun q => h ((lg_cmp_lt x y).mpr (Int64.lt_iff_toInt_lt.mpr q)))
theorem gt_l {x y : Int64} (h : 0 < lg_cmp x y) : y.toInt < x.toInt := Int64.lt_iff_toInt_lt.mp ((lg_cmp_gt x y).mp h)
theorem ngt_l {x y : Int64} (h : ¬ 0 < lg_cmp x y) : x.toInt ≤ y.toInt := Int.not_lt.mp (fun q => h ((lg_cmp_gt x y).mpr (Int64.lt_iff_toInt_lt.mpr q)))
theorem ge_l {x y : Int64} (h : 0 ≤ lg_cmp x y) : y.toInt ≤ x.toInt := Int64.le_iff_toInt_le.mp ((lg_cmp_ge x y).mp h)
theorem nge_l {x y : Int64} (h : ¬ 0 ≤ lg_cmp x y) : x.toInt < y.toInt := Int.not_le.mp (fun q => h ((lg_cmp_ge x y).mpr (Int64.le_iff_toInt_le.mpr q)))
theorem le_l {x y : Int64} (h : lg_cmp x y ≤ 0) : x.toInt ≤ y.toInt := Int64.le_iff_toInt_le.mp ((lg_cmp_le x y).mp h)
theorem nle_l {x y : Int64} (h : ¬ lg_cmp x y ≤ 0) : y.toInt < x.toInt := Int.not_le.mp (fun q => h ((lg_cmp_le x y).mpr (Int64.le_iff_toInt_le.mpr q)))
theorem eq_l {x y : Int64} (h : lg_cmp x y = 0) : x.toInt = y.toInt := by rw [(lg_cmp_eq x y).mp h]
theorem ne_l {x y : Int64} (h : ¬ lg_cmp x y = 0) : ¬ x.toInt = y.toInt := fun q => h ((lg_cmp_eq x y).mpr (Int64.toInt_inj.mp q))
theorem l2i_b {x : Int64} (h0 : -2147483648 ≤ x.toInt) (h1 : x.toInt ≤ 2147483647) : x.toInt32.toInt = x.toInt := by
  rw [Int64.toInt_toInt32, Int.bmod_def]
  split <;> omega
theorem tm_le {a b : Int} (ha : 0 ≤ a) (hb : 0 < b) : 0 ≤ a.tmod b ∧ a.tmod b ≤ a := by
  refine ⟨Int.tmod_nonneg b ha, ?_⟩
  have h2 := Int.mul_tdiv_add_tmod a b
  have h3 : 0 ≤ b * a.tdiv b := Int.mul_nonneg (by omega) (Int.tdiv_nonneg ha (by omega))
  omega
theorem tm_bd (a : Int) {b : Int} (hb : 0 < b) : (0 ≤ a → 0 ≤ a.tmod b ∧ a.tmod b ≤ a) ∧ (a ≤ 0 → a.tmod b ≤ 0 ∧ a ≤ a.tmod b) := by
  refine ⟨fun h => tm_le h hb, fun h => ?_⟩
  have e := tm_le (a := -a) (by omega) hb
  rw [Int.neg_tmod] at e
  omega
theorem irem_e {x y : Int32} {b : Int} (hy : y.toInt = b) (hb : 0 < b) : (x - x / y * y).toInt = x.toInt.tmod b := by
  have hne : y ≠ -1 := fun h => by
    rw [h] at hy
    have : (-1 : Int32).toInt = -1 := by decide
    omega
  have hd : (x / y).toInt = x.toInt.tdiv b := by rw [Int32.toInt_div_of_ne_right _ _ hne, hy]
  have h1 := full_i x
  have h2 := Int.mul_tdiv_add_tmod x.toInt b
  have h3 : x.toInt.tdiv b * b = x.toInt - x.toInt.tmod b := by rw [Int.mul_comm]; omega
  obtain ⟨h6, h7⟩ := tm_bd x.toInt hb
  have h8 : -2147483648 ≤ x.toInt - x.toInt.tmod b ∧ x.toInt - x.toInt.tmod b ≤ 2147483647 := by
    rcases Int.le_total 0 x.toInt with q | q
    · have := h6 q
      omega
    · have := h7 q
      omega
  have hm : (x / y * y).toInt = x.toInt - x.toInt.tmod b := by
    rw [← h3]
    exact mul_i hd hy (by rw [h3]; exact h8.1) (by rw [h3]; exact h8.2)
  have h9 : -2147483648 ≤ x.toInt.tmod b ∧ x.toInt.tmod b ≤ 2147483647 := by
    rcases Int.le_total 0 x.toInt with q | q
    · have := h6 q
      omega
    · have := h7 q
      omega
  rw [sub_i rfl hm (by omega) (by omega)]
  omega
theorem irem_b {x y : Int32} {b : Int} (hy : y.toInt = b) (hb : 0 < b) : (0 ≤ x.toInt → 0 ≤ (x - x / y * y).toInt) ∧ (x - x / y * y).toInt < b ∧ -b < (x - x / y * y).toInt ∧ (x.toInt ≤ 0 → (x - x / y * y).toInt ≤ 0) := by
  rw [irem_e hy hb]
  exact ⟨fun h => Int.tmod_nonneg b h, Int.tmod_lt_of_pos _ hb, Int.lt_tmod_of_pos _ hb, fun h => ((tm_bd x.toInt hb).2 h).1⟩
theorem shr_c {x y : Int32} (k : Nat) (hk : y &&& 31 = nI k) (h31 : k < 32) : (x >>> (y &&& 31)).toInt = x.toInt / 2 ^ k := by
  have e : (x >>> (y &&& 31)).toInt = x.toInt >>> ((y &&& 31).toBitVec.smod 32).toNat := by
    show (x >>> (y &&& 31)).toBitVec.toInt = _
    rw [Int32.toBitVec_shiftRight, BitVec.toInt_sshiftRight']
    rfl
  have hs : ((y &&& 31).toBitVec.smod 32).toNat = k := by
    rw [hk]
    have ht : ∀ j, j < 32 → ((nI j).toBitVec.smod 32).toNat = j := by decide +kernel
    exact ht k h31
  rw [e, hs, Int.shiftRight_eq_div_pow]
  rfl
theorem neg_b {x : Int32} : x.toInt < 0 ↔ x.toBitVec.msb = true := by
  have e : x.toInt = x.toBitVec.toInt := rfl
  rw [e, BitVec.msb_eq_toInt]
  simp
theorem xor_s {x y : Int32} (hy : 0 ≤ y.toInt) : (x ^^^ y).toInt < 0 ↔ x.toInt < 0 := by
  have h2 : y.toBitVec.msb = false := by
    cases hm : y.toBitVec.msb with
    | false => rfl
    | true => exact absurd (neg_b.mpr hm) (by omega)
  rw [neg_b, neg_b, Int32.toBitVec_xor, BitVec.msb_xor, h2]
  simp
theorem ushr_c {x y : Int32} (k : Nat) (hk : y.toUInt32 &&& Int32.toUInt32 31 = UInt32.ofNat k) (h0 : 0 < k) (h31 : k < 32) : 0 ≤ (x.toUInt32 >>> (y.toUInt32 &&& Int32.toUInt32 31)).toInt32.toInt ∧ (x.toUInt32 >>> (y.toUInt32 &&& Int32.toUInt32 31)).toInt32.toInt < 2 ^ (32 - k) := by
  rw [hk]
  have e : (x.toUInt32 >>> UInt32.ofNat k).toNat = x.toUInt32.toNat >>> k := by
    rw [UInt32.toNat_shiftRight]
    have : (UInt32.ofNat k).toNat % 32 = k := by rw [UInt32.toNat_ofNat']; omega
    rw [this]
  have hx : x.toUInt32.toNat < 2 ^ 32 := UInt32.toNat_lt _
  have hlt : x.toUInt32.toNat >>> k < 2 ^ (32 - k) := by
    rw [Nat.shiftRight_eq_div_pow]
    apply Nat.div_lt_of_lt_mul
    rw [← Nat.pow_add, show k + (32 - k) = 32 by omega]
    exact hx
  have hp : (2 : Nat) ^ (32 - k) ≤ 2 ^ 31 := Nat.pow_le_pow_right (by decide) (by omega)
  have hb : ((x.toUInt32 >>> UInt32.ofNat k).toInt32).toBitVec.toNat = x.toUInt32.toNat >>> k := by
    show (x.toUInt32 >>> UInt32.ofNat k).toBitVec.toNat = _
    exact e
  have := nn_of (x := (x.toUInt32 >>> UInt32.ofNat k).toInt32) (by rw [hb]; omega)
  rw [this, hb]
  exact ⟨by omega, by exact_mod_cast hlt⟩
