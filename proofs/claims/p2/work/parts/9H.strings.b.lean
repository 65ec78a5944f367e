/-! the String constants at the start -/
def stl : List (String × Nat) := [("FootholdWall$Tokens", 53), ("FootholdWall$Reader", 81), ("FootholdWall$Reader", 141), ("FootholdWall$Reader", 142), ("FootholdWall$Reader", 147), ("FootholdWall$Reader", 152), ("FootholdWall$Reader", 90), ("FootholdWall$Reader", 160), ("FootholdWall$Reader", 170), ("FootholdWall$Reader", 95), ("FootholdWall$LawReader", 65), ("FootholdWall$LawReader", 99), ("FootholdWall$LawReader", 101), ("FootholdWall$LawReader", 103), ("FootholdWall$LawReader", 111), ("FootholdWall$LawReader", 63), ("FootholdWall$LawReader", 41), ("FootholdWall$Reader", 103), ("FootholdWall$Reader", 178), ("FootholdWall$Reader", 108), ("FootholdWallModel", 88)]
def stm (i : Nat) : Term := Term.string (stl.getD i ("", 0)).1 (stl.getD i ("", 0)).2
abbrev FLs : List Jvm.Cond := flatC (Jvm.Cond.and given_1 narrow_1)
theorem fl_ex : ∀ i, i < 21 → Cond.exactly (stm i) "java/lang/String" ∈ FLs := by decide +kernel
theorem fl_co : ∀ i, i < 21 → Cond.eq (.field (stm i) "java/lang/String" "coder" "B") (.int 0) ∈ FLs := by decide +kernel
theorem fl_ar : ∀ i, i < 21 → Cond.arrayOf (.field (stm i) "java/lang/String" "value" "[B") .byte ∈ FLs := by decide +kernel
theorem fl_le : ∀ i, i < 21 → Cond.eq (.length (.field (stm i) "java/lang/String" "value" "[B")) (.int (Int32.ofNat (slen.getD i 0))) ∈ FLs := by decide +kernel
theorem fl_el_0_0 : ∀ j, j < 12 → FLs[65 + j]? = some (Cond.eq (.elem (.field (stm 0) "java/lang/String" "value" "[B") (.int (Int32.ofNat (0 + j)))) (.int ((sbyt.getD 0 []).getD (0 + j) 0))) := by decide +kernel
theorem fl_el_1_0 : ∀ j, j < 4 → FLs[81 + j]? = some (Cond.eq (.elem (.field (stm 1) "java/lang/String" "value" "[B") (.int (Int32.ofNat (0 + j)))) (.int ((sbyt.getD 1 []).getD (0 + j) 0))) := by decide +kernel
theorem fl_el_2_0 : ∀ j, j < 3 → FLs[89 + j]? = some (Cond.eq (.elem (.field (stm 2) "java/lang/String" "value" "[B") (.int (Int32.ofNat (0 + j)))) (.int ((sbyt.getD 2 []).getD (0 + j) 0))) := by decide +kernel
theorem fl_el_3_0 : ∀ j, j < 5 → FLs[96 + j]? = some (Cond.eq (.elem (.field (stm 3) "java/lang/String" "value" "[B") (.int (Int32.ofNat (0 + j)))) (.int ((sbyt.getD 3 []).getD (0 + j) 0))) := by decide +kernel
theorem fl_el_4_0 : ∀ j, j < 3 → FLs[105 + j]? = some (Cond.eq (.elem (.field (stm 4) "java/lang/String" "value" "[B") (.int (Int32.ofNat (0 + j)))) (.int ((sbyt.getD 4 []).getD (0 + j) 0))) := by decide +kernel
theorem fl_el_5_0 : ∀ j, j < 4 → FLs[112 + j]? = some (Cond.eq (.elem (.field (stm 5) "java/lang/String" "value" "[B") (.int (Int32.ofNat (0 + j)))) (.int ((sbyt.getD 5 []).getD (0 + j) 0))) := by decide +kernel
theorem fl_el_6_0 : ∀ j, j < 5 → FLs[120 + j]? = some (Cond.eq (.elem (.field (stm 6) "java/lang/String" "value" "[B") (.int (Int32.ofNat (0 + j)))) (.int ((sbyt.getD 6 []).getD (0 + j) 0))) := by decide +kernel
theorem fl_el_7_0 : ∀ j, j < 3 → FLs[129 + j]? = some (Cond.eq (.elem (.field (stm 7) "java/lang/String" "value" "[B") (.int (Int32.ofNat (0 + j)))) (.int ((sbyt.getD 7 []).getD (0 + j) 0))) := by decide +kernel
theorem fl_el_8_0 : ∀ j, j < 6 → FLs[136 + j]? = some (Cond.eq (.elem (.field (stm 8) "java/lang/String" "value" "[B") (.int (Int32.ofNat (0 + j)))) (.int ((sbyt.getD 8 []).getD (0 + j) 0))) := by decide +kernel
theorem fl_el_9_0 : ∀ j, j < 4 → FLs[146 + j]? = some (Cond.eq (.elem (.field (stm 9) "java/lang/String" "value" "[B") (.int (Int32.ofNat (0 + j)))) (.int ((sbyt.getD 9 []).getD (0 + j) 0))) := by decide +kernel
theorem fl_el_10_0 : ∀ j, j < 3 → FLs[154 + j]? = some (Cond.eq (.elem (.field (stm 10) "java/lang/String" "value" "[B") (.int (Int32.ofNat (0 + j)))) (.int ((sbyt.getD 10 []).getD (0 + j) 0))) := by decide +kernel
theorem fl_el_11_0 : ∀ j, j < 2 → FLs[161 + j]? = some (Cond.eq (.elem (.field (stm 11) "java/lang/String" "value" "[B") (.int (Int32.ofNat (0 + j)))) (.int ((sbyt.getD 11 []).getD (0 + j) 0))) := by decide +kernel
theorem fl_el_12_0 : ∀ j, j < 2 → FLs[167 + j]? = some (Cond.eq (.elem (.field (stm 12) "java/lang/String" "value" "[B") (.int (Int32.ofNat (0 + j)))) (.int ((sbyt.getD 12 []).getD (0 + j) 0))) := by decide +kernel
theorem fl_el_13_0 : ∀ j, j < 3 → FLs[173 + j]? = some (Cond.eq (.elem (.field (stm 13) "java/lang/String" "value" "[B") (.int (Int32.ofNat (0 + j)))) (.int ((sbyt.getD 13 []).getD (0 + j) 0))) := by decide +kernel
theorem fl_el_14_0 : ∀ j, j < 3 → FLs[208 + j]? = some (Cond.eq (.elem (.field (stm 14) "java/lang/String" "value" "[B") (.int (Int32.ofNat (0 + j)))) (.int ((sbyt.getD 14 []).getD (0 + j) 0))) := by decide +kernel
theorem fl_el_15_0 : ∀ j, j < 3 → FLs[215 + j]? = some (Cond.eq (.elem (.field (stm 15) "java/lang/String" "value" "[B") (.int (Int32.ofNat (0 + j)))) (.int ((sbyt.getD 15 []).getD (0 + j) 0))) := by decide +kernel
theorem fl_el_16_0 : ∀ j, j < 2 → FLs[222 + j]? = some (Cond.eq (.elem (.field (stm 16) "java/lang/String" "value" "[B") (.int (Int32.ofNat (0 + j)))) (.int ((sbyt.getD 16 []).getD (0 + j) 0))) := by decide +kernel
theorem fl_el_17_0 : ∀ j, j < 4 → FLs[228 + j]? = some (Cond.eq (.elem (.field (stm 17) "java/lang/String" "value" "[B") (.int (Int32.ofNat (0 + j)))) (.int ((sbyt.getD 17 []).getD (0 + j) 0))) := by decide +kernel
theorem fl_el_18_0 : ∀ j, j < 2 → FLs[236 + j]? = some (Cond.eq (.elem (.field (stm 18) "java/lang/String" "value" "[B") (.int (Int32.ofNat (0 + j)))) (.int ((sbyt.getD 18 []).getD (0 + j) 0))) := by decide +kernel
theorem fl_el_19_0 : ∀ j, j < 6 → FLs[242 + j]? = some (Cond.eq (.elem (.field (stm 19) "java/lang/String" "value" "[B") (.int (Int32.ofNat (0 + j)))) (.int ((sbyt.getD 19 []).getD (0 + j) 0))) := by decide +kernel
theorem fl_el_20_0 : ∀ j, j < 16 → FLs[260 + j]? = some (Cond.eq (.elem (.field (stm 20) "java/lang/String" "value" "[B") (.int (Int32.ofNat (0 + j)))) (.int ((sbyt.getD 20 []).getD (0 + j) 0))) := by decide +kernel
theorem fl_el_20_16 : ∀ j, j < 16 → FLs[276 + j]? = some (Cond.eq (.elem (.field (stm 20) "java/lang/String" "value" "[B") (.int (Int32.ofNat (16 + j)))) (.int ((sbyt.getD 20 []).getD (16 + j) 0))) := by decide +kernel
theorem fl_el_20_32 : ∀ j, j < 16 → FLs[292 + j]? = some (Cond.eq (.elem (.field (stm 20) "java/lang/String" "value" "[B") (.int (Int32.ofNat (32 + j)))) (.int ((sbyt.getD 20 []).getD (32 + j) 0))) := by decide +kernel
theorem fl_el_20_48 : ∀ j, j < 16 → FLs[308 + j]? = some (Cond.eq (.elem (.field (stm 20) "java/lang/String" "value" "[B") (.int (Int32.ofNat (48 + j)))) (.int ((sbyt.getD 20 []).getD (48 + j) 0))) := by decide +kernel
theorem fl_el_20_64 : ∀ j, j < 16 → FLs[324 + j]? = some (Cond.eq (.elem (.field (stm 20) "java/lang/String" "value" "[B") (.int (Int32.ofNat (64 + j)))) (.int ((sbyt.getD 20 []).getD (64 + j) 0))) := by decide +kernel
theorem fl_el_20_80 : ∀ j, j < 7 → FLs[340 + j]? = some (Cond.eq (.elem (.field (stm 20) "java/lang/String" "value" "[B") (.int (Int32.ofNat (80 + j)))) (.int ((sbyt.getD 20 []).getD (80 + j) 0))) := by decide +kernel
theorem fl_el : ∀ i, i < 21 → ∀ j, j < slen.getD i 0 → Cond.eq (.elem (.field (stm i) "java/lang/String" "value" "[B") (.int (Int32.ofNat j))) (.int ((sbyt.getD i []).getD j 0)) ∈ FLs := by
  intro i hi j hj
  match i, hi, hj with
  | 0, _, hj =>
    have hj : j < 12 := hj
    obtain ⟨k, rfl⟩ : ∃ k, j = 0 + k := ⟨j - 0, by omega⟩
    exact List.mem_of_getElem? (fl_el_0_0 k (by omega))
  | 1, _, hj =>
    have hj : j < 4 := hj
    obtain ⟨k, rfl⟩ : ∃ k, j = 0 + k := ⟨j - 0, by omega⟩
    exact List.mem_of_getElem? (fl_el_1_0 k (by omega))
  | 2, _, hj =>
    have hj : j < 3 := hj
    obtain ⟨k, rfl⟩ : ∃ k, j = 0 + k := ⟨j - 0, by omega⟩
    exact List.mem_of_getElem? (fl_el_2_0 k (by omega))
  | 3, _, hj =>
    have hj : j < 5 := hj
    obtain ⟨k, rfl⟩ : ∃ k, j = 0 + k := ⟨j - 0, by omega⟩
    exact List.mem_of_getElem? (fl_el_3_0 k (by omega))
  | 4, _, hj =>
    have hj : j < 3 := hj
    obtain ⟨k, rfl⟩ : ∃ k, j = 0 + k := ⟨j - 0, by omega⟩
    exact List.mem_of_getElem? (fl_el_4_0 k (by omega))
  | 5, _, hj =>
    have hj : j < 4 := hj
    obtain ⟨k, rfl⟩ : ∃ k, j = 0 + k := ⟨j - 0, by omega⟩
    exact List.mem_of_getElem? (fl_el_5_0 k (by omega))
  | 6, _, hj =>
    have hj : j < 5 := hj
    obtain ⟨k, rfl⟩ : ∃ k, j = 0 + k := ⟨j - 0, by omega⟩
    exact List.mem_of_getElem? (fl_el_6_0 k (by omega))
  | 7, _, hj =>
    have hj : j < 3 := hj
    obtain ⟨k, rfl⟩ : ∃ k, j = 0 + k := ⟨j - 0, by omega⟩
    exact List.mem_of_getElem? (fl_el_7_0 k (by omega))
  | 8, _, hj =>
    have hj : j < 6 := hj
    obtain ⟨k, rfl⟩ : ∃ k, j = 0 + k := ⟨j - 0, by omega⟩
    exact List.mem_of_getElem? (fl_el_8_0 k (by omega))
  | 9, _, hj =>
    have hj : j < 4 := hj
    obtain ⟨k, rfl⟩ : ∃ k, j = 0 + k := ⟨j - 0, by omega⟩
    exact List.mem_of_getElem? (fl_el_9_0 k (by omega))
  | 10, _, hj =>
    have hj : j < 3 := hj
    obtain ⟨k, rfl⟩ : ∃ k, j = 0 + k := ⟨j - 0, by omega⟩
    exact List.mem_of_getElem? (fl_el_10_0 k (by omega))
  | 11, _, hj =>
    have hj : j < 2 := hj
    obtain ⟨k, rfl⟩ : ∃ k, j = 0 + k := ⟨j - 0, by omega⟩
    exact List.mem_of_getElem? (fl_el_11_0 k (by omega))
  | 12, _, hj =>
    have hj : j < 2 := hj
    obtain ⟨k, rfl⟩ : ∃ k, j = 0 + k := ⟨j - 0, by omega⟩
    exact List.mem_of_getElem? (fl_el_12_0 k (by omega))
  | 13, _, hj =>
    have hj : j < 3 := hj
    obtain ⟨k, rfl⟩ : ∃ k, j = 0 + k := ⟨j - 0, by omega⟩
    exact List.mem_of_getElem? (fl_el_13_0 k (by omega))
  | 14, _, hj =>
    have hj : j < 3 := hj
    obtain ⟨k, rfl⟩ : ∃ k, j = 0 + k := ⟨j - 0, by omega⟩
    exact List.mem_of_getElem? (fl_el_14_0 k (by omega))
  | 15, _, hj =>
    have hj : j < 3 := hj
    obtain ⟨k, rfl⟩ : ∃ k, j = 0 + k := ⟨j - 0, by omega⟩
    exact List.mem_of_getElem? (fl_el_15_0 k (by omega))
  | 16, _, hj =>
    have hj : j < 2 := hj
    obtain ⟨k, rfl⟩ : ∃ k, j = 0 + k := ⟨j - 0, by omega⟩
    exact List.mem_of_getElem? (fl_el_16_0 k (by omega))
  | 17, _, hj =>
    have hj : j < 4 := hj
    obtain ⟨k, rfl⟩ : ∃ k, j = 0 + k := ⟨j - 0, by omega⟩
    exact List.mem_of_getElem? (fl_el_17_0 k (by omega))
  | 18, _, hj =>
    have hj : j < 2 := hj
    obtain ⟨k, rfl⟩ : ∃ k, j = 0 + k := ⟨j - 0, by omega⟩
    exact List.mem_of_getElem? (fl_el_18_0 k (by omega))
  | 19, _, hj =>
    have hj : j < 6 := hj
    obtain ⟨k, rfl⟩ : ∃ k, j = 0 + k := ⟨j - 0, by omega⟩
    exact List.mem_of_getElem? (fl_el_19_0 k (by omega))
  | 20, _, hj =>
    have hj : j < 87 := hj
    by_cases c0 : j < 16
    · obtain ⟨k, rfl⟩ : ∃ k, j = 0 + k := ⟨j - 0, by omega⟩
      exact List.mem_of_getElem? (fl_el_20_0 k (by omega))
    by_cases c16 : j < 32
    · obtain ⟨k, rfl⟩ : ∃ k, j = 16 + k := ⟨j - 16, by omega⟩
      exact List.mem_of_getElem? (fl_el_20_16 k (by omega))
    by_cases c32 : j < 48
    · obtain ⟨k, rfl⟩ : ∃ k, j = 32 + k := ⟨j - 32, by omega⟩
      exact List.mem_of_getElem? (fl_el_20_32 k (by omega))
    by_cases c48 : j < 64
    · obtain ⟨k, rfl⟩ : ∃ k, j = 48 + k := ⟨j - 48, by omega⟩
      exact List.mem_of_getElem? (fl_el_20_48 k (by omega))
    by_cases c64 : j < 80
    · obtain ⟨k, rfl⟩ : ∃ k, j = 64 + k := ⟨j - 64, by omega⟩
      exact List.mem_of_getElem? (fl_el_20_64 k (by omega))
    obtain ⟨k, rfl⟩ : ∃ k, j = 80 + k := ⟨j - 80, by omega⟩
    exact List.mem_of_getElem? (fl_el_20_80 k (by omega))
  | i + 21, hi, _ => exact absurd hi (by omega)
theorem st_dif : ∀ i, i < 21 → ∀ j, j < 21 → i ≠ j → Int32.ofNat (slen.getD i 0) ≠ Int32.ofNat (slen.getD j 0) ∨ ∃ k, k < slen.getD i 0 ∧ k < slen.getD j 0 ∧ (sbyt.getD i []).getD k 0 ≠ (sbyt.getD j []).getD k 0 := by decide +kernel
theorem eq_iv {args : Array Value} {s : State} {a : Term} {n : Int32} (h : (Cond.eq a (.int n)).before args s = true) : a.eval args s none [] s = some (.int n) := by
  have hb : (Term.int n).eval args s none [] s = some (.int n) := rfl
  simp only [Cond.before, Cond.holds, Cond.value, hb] at h
  cases ha : a.eval args s none [] s with
  | none => simp [ha] at h
  | some x => cases x <;> simp [ha] at h ⊢ <;> exact h
theorem eq_rv {args : Array Value} {s : State} {a b : Term} {x : Nat} (h : (Cond.eq a b).before args s = true) (ha : a.eval args s none [] s = some (.ref x)) : b.eval args s none [] s = some (.ref x) := by
  simp only [Cond.before, Cond.holds, Cond.value, ha] at h
  cases hb : b.eval args s none [] s with
  | none => simp [hb] at h
  | some y => cases y <;> simp [hb] at h ⊢ <;> exact h.symm
theorem st_ne {args : Array Value} {s : State} (hs : ∀ c ∈ FLs, c.before args s = true) (i j : Nat) (hi : i < 21) (hj : j < 21) (hne : i ≠ j) : (Cond.not (Cond.eq (stm i) (stm j))).before args s = true := by
  obtain ⟨a, -, -, -, ha, -⟩ := Cond.exactly_spec (hs _ (fl_ex i hi))
  obtain ⟨b, -, -, -, hb, -⟩ := Cond.exactly_spec (hs _ (fl_ex j hj))
  have hab : a ≠ b := by
    intro q
    subst q
    have he : (stm i).eval args s none [] s = (stm j).eval args s none [] s := ha.trans hb.symm
    rcases st_dif i hi j hj hne with h | ⟨k, h1, h2, h3⟩
    · have e1 := eq_iv (hs _ (fl_le i hi))
      have e2 := eq_iv (hs _ (fl_le j hj))
      have e3 : (Term.length (.field (stm i) "java/lang/String" "value" "[B")).eval args s none [] s = (Term.length (.field (stm j) "java/lang/String" "value" "[B")).eval args s none [] s := by simp only [Term.eval, he]
      rw [e1, e2] at e3
      exact h (Value.int.inj (Option.some.inj e3))
    · have e1 := eq_iv (hs _ (fl_el i hi k h1))
      have e2 := eq_iv (hs _ (fl_el j hj k h2))
      have e3 : (Term.elem (.field (stm i) "java/lang/String" "value" "[B") (.int (Int32.ofNat k))).eval args s none [] s = (Term.elem (.field (stm j) "java/lang/String" "value" "[B") (.int (Int32.ofNat k))).eval args s none [] s := by simp only [Term.eval, he]
      rw [e1, e2] at e3
      exact h3 (Value.int.inj (Option.some.inj e3))
  simp [Cond.before, Cond.holds, Cond.value, ha, hb, hab]
set_option maxRecDepth 100000 in
set_option maxHeartbeats 4000000 in
theorem str_start {args : Array Value} {s : State} {A : Nat → Prop} (hgv : (Jvm.Cond.and given_1 narrow_1).before args s = true) (hts0 : ∀ w ∈ lw_tbl, w.before args s = true) (hts : ∀ w ∈ gw, w.before args s = true) (hA : ∀ a : Nat, a < s.heap.size → ¬ A a) : ∃ kf : KF, kS kf s ∧ kE kf A s s.heap := by
  have hs : ∀ c ∈ FLs, c.before args s = true := flat_of_before _ hgv
  obtain ⟨adK, adV, hK, hev⟩ := vk_Sof (args := args) (s := s) (N := 21) (tm := stm) (len := slen) (byt := sbyt) (A := A) (fun i hi => by have := slen_b i; omega) (fun i hi => hs _ (fl_ex i hi)) (fun i hi => hs _ (fl_co i hi)) (fun i hi => hs _ (fl_ar i hi)) (fun i hi => hs _ (fl_le i hi)) (fun i hi j hj => hs _ (fl_el i hi j hj)) (fun i j hi hj hne => Or.inl (st_ne hs i j hi hj hne)) hA
  have e1 := eq_iv (hs (Cond.eq (.static "java/lang/String" "COMPACT_STRINGS" "Z") (.int 1)) (by decide +kernel))
  have z1 := va_Zof (A := A) (hts0 (Cond.laysStatic "java/lang/String" "COMPACT_STRINGS" "Z") (tb_of 476 (by decide +kernel))) (hts _ kw_14) e1 hA
  have z2 := va_Zqof (A := A) (hts0 (Cond.laysStatic "jdk/internal/util/Preconditions" "SIOOBE_FORMATTER" "Ljava/util/function/BiFunction;") (tb_of 515 (by decide +kernel))) (hts _ kw_17) (hs (Cond.isRef (.static "jdk/internal/util/Preconditions" "SIOOBE_FORMATTER" "Ljava/util/function/BiFunction;")) (by decide +kernel)) hA
  have z3 : ∃ fo : Option Nat, va_Z "jdk/internal/util/Preconditions" "SIOOBE_FORMATTER" "Ljava/util/function/BiFunction;" (va_rf fo) A s s.heap := by
    rcases z2 with z2 | ⟨t, z2⟩
    · exact ⟨none, z2⟩
    · exact ⟨some t, z2⟩
  refine ⟨(adK, adV), ?_, hK, z1, z3⟩
  have r0 := vk_R.of (hts0 (Cond.stringRef "FootholdWall$Tokens" 53 ";:+-*()[]=<>") (tb_of 462 (by decide +kernel))) (hev 0 (by decide))
  have r1 := vk_R.of (hts0 (Cond.stringRef "FootholdWall$Reader" 81 "hold") (tb_of 549 (by decide +kernel))) (hev 1 (by decide))
  have r2 := vk_R.of (hts0 (Cond.stringRef "FootholdWall$Reader" 141 "ice") (tb_of 593 (by decide +kernel))) (hev 2 (by decide))
  have r3 := vk_R.of (hts0 (Cond.stringRef "FootholdWall$Reader" 142 "start") (tb_of 594 (by decide +kernel))) (hev 3 (by decide))
  have r4 := vk_R.of (hts0 (Cond.stringRef "FootholdWall$Reader" 147 "top") (tb_of 595 (by decide +kernel))) (hev 4 (by decide))
  have r5 := vk_R.of (hts0 (Cond.stringRef "FootholdWall$Reader" 152 "wide") (tb_of 596 (by decide +kernel))) (hev 5 (by decide))
  have r6 := vk_R.of (hts0 (Cond.stringRef "FootholdWall$Reader" 90 "guide") (tb_of 597 (by decide +kernel))) (hev 6 (by decide))
  have r7 := vk_R.of (hts0 (Cond.stringRef "FootholdWall$Reader" 160 "leg") (tb_of 602 (by decide +kernel))) (hev 7 (by decide))
  have r8 := vk_R.of (hts0 (Cond.stringRef "FootholdWall$Reader" 170 "weight") (tb_of 608 (by decide +kernel))) (hev 8 (by decide))
  have r9 := vk_R.of (hts0 (Cond.stringRef "FootholdWall$Reader" 95 "step") (tb_of 609 (by decide +kernel))) (hev 9 (by decide))
  have r10 := vk_R.of (hts0 (Cond.stringRef "FootholdWall$LawReader" 65 "not") (tb_of 634 (by decide +kernel))) (hev 10 (by decide))
  have r11 := vk_R.of (hts0 (Cond.stringRef "FootholdWall$LawReader" 99 "dx") (tb_of 664 (by decide +kernel))) (hev 11 (by decide))
  have r12 := vk_R.of (hts0 (Cond.stringRef "FootholdWall$LawReader" 101 "up") (tb_of 665 (by decide +kernel))) (hev 12 (by decide))
  have r13 := vk_R.of (hts0 (Cond.stringRef "FootholdWall$LawReader" 103 "far") (tb_of 666 (by decide +kernel))) (hev 13 (by decide))
  have r14 := vk_R.of (hts0 (Cond.stringRef "FootholdWall$LawReader" 105 "leg") (tb_of 667 (by decide +kernel))) (eq_rv (hs (Cond.eq (.string "FootholdWall$Reader" 160) (.string "FootholdWall$LawReader" 105)) (by decide +kernel)) (hev 7 (by decide)))
  have r15 := vk_R.of (hts0 (Cond.stringRef "FootholdWall$LawReader" 107 "weight") (tb_of 668 (by decide +kernel))) (eq_rv (hs (Cond.eq (.string "FootholdWall$Reader" 170) (.string "FootholdWall$LawReader" 107)) (by decide +kernel)) (hev 8 (by decide)))
  have r16 := vk_R.of (hts0 (Cond.stringRef "FootholdWall$LawReader" 109 "wide") (tb_of 669 (by decide +kernel))) (eq_rv (hs (Cond.eq (.string "FootholdWall$Reader" 152) (.string "FootholdWall$LawReader" 109)) (by decide +kernel)) (hev 5 (by decide)))
  have r17 := vk_R.of (hts0 (Cond.stringRef "FootholdWall$LawReader" 111 "day") (tb_of 670 (by decide +kernel))) (hev 14 (by decide))
  have r18 := vk_R.of (hts0 (Cond.stringRef "FootholdWall$LawReader" 63 "and") (tb_of 671 (by decide +kernel))) (hev 15 (by decide))
  have r19 := vk_R.of (hts0 (Cond.stringRef "FootholdWall$LawReader" 41 "or") (tb_of 676 (by decide +kernel))) (hev 16 (by decide))
  have r20 := vk_R.of (hts0 (Cond.stringRef "FootholdWall$Reader" 103 "used") (tb_of 677 (by decide +kernel))) (hev 17 (by decide))
  have r21 := vk_R.of (hts0 (Cond.stringRef "FootholdWall$Reader" 178 "by") (tb_of 686 (by decide +kernel))) (hev 18 (by decide))
  have r22 := vk_R.of (hts0 (Cond.stringRef "FootholdWall$Reader" 108 "broken") (tb_of 697 (by decide +kernel))) (hev 19 (by decide))
  have r23 := vk_R.of (hts0 (Cond.stringRef "FootholdWall$Reader" 113 "day") (tb_of 706 (by decide +kernel))) (eq_rv (hs (Cond.eq (.string "FootholdWall$LawReader" 111) (.string "FootholdWall$Reader" 113)) (by decide +kernel)) (hev 14 (by decide)))
  have r24 := vk_R.of (hts0 (Cond.stringRef "FootholdWallModel" 88 " hold guide leg weight step used by broken day start top wide ice or and not dx up far ") (tb_of 1359 (by decide +kernel))) (hev 20 (by decide))
  have r25 := vk_R.of (hts0 (Cond.stringRef "FootholdWallModel" 126 ";:+-*()[]=<>") (tb_of 1365 (by decide +kernel))) (eq_rv (hs (Cond.eq (.string "FootholdWall$Tokens" 53) (.string "FootholdWallModel" 126)) (by decide +kernel)) (hev 0 (by decide)))
  exact (List.forall_mem_cons.mpr ⟨r0, (List.forall_mem_cons.mpr ⟨r1, (List.forall_mem_cons.mpr ⟨r2, (List.forall_mem_cons.mpr ⟨r3, (List.forall_mem_cons.mpr ⟨r4, (List.forall_mem_cons.mpr ⟨r5, (List.forall_mem_cons.mpr ⟨r6, (List.forall_mem_cons.mpr ⟨r7, (List.forall_mem_cons.mpr ⟨r8, (List.forall_mem_cons.mpr ⟨r9, (List.forall_mem_cons.mpr ⟨r10, (List.forall_mem_cons.mpr ⟨r11, (List.forall_mem_cons.mpr ⟨r12, (List.forall_mem_cons.mpr ⟨r13, (List.forall_mem_cons.mpr ⟨r14, (List.forall_mem_cons.mpr ⟨r15, (List.forall_mem_cons.mpr ⟨r16, (List.forall_mem_cons.mpr ⟨r17, (List.forall_mem_cons.mpr ⟨r18, (List.forall_mem_cons.mpr ⟨r19, (List.forall_mem_cons.mpr ⟨r20, (List.forall_mem_cons.mpr ⟨r21, (List.forall_mem_cons.mpr ⟨r22, (List.forall_mem_cons.mpr ⟨r23, (List.forall_mem_cons.mpr ⟨r24, (List.forall_mem_cons.mpr ⟨r25, (fun _ h => absurd h List.not_mem_nil)⟩)⟩)⟩)⟩)⟩)⟩)⟩)⟩)⟩)⟩)⟩)⟩)⟩)⟩)⟩)⟩)⟩)⟩)⟩)⟩)⟩)⟩)⟩)⟩)⟩)⟩)
