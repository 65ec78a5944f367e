/-! THE CLAIM OUT OF ONE WALK OF THE LAW'S BODY. Your part is whole_start (and what it stands on); all else here is the same for every law, but numbers. -/
def R_law : String := "FootholdWallLaw"
def lw_P (b : Addr) (xs : List Int32) (args : Array Value) (s : State) : Prop := args = #[.ref b] ∧ s.IntsAt b xs ∧ xs.length ≤ 3072 ∧ (Jvm.Cond.and given_1 narrow_1).before args s = true
def lw_Q (_ : Array Value) (s : State) (o : Outcome) (t : State) : Prop := o = .returned (some (.int 1)) ∧ Framed s o t [] 600000 7302250
def lw_Z (below : List Frame) (a : Array Value) (s : State) : State → Prop := fun t => ∃ o, t.status = .running ∧ Ended t below o ∧ lw_Q a s o t
/-- the law's own end, with 1 on the stack, nothing written that was there before, its room as the claim has it -/
theorem lw_ret {p : Program} {l : Launch} {e : Env} {s : State} {m : MethodId} {below : List Frame} {meth : Method} {c : Code} {b : Nat} (hx : p.tables.exec = Jvm.exec) (hb : c.code = code) (hr : meth.sig.returnType = ret) (hlocks : meth.locks = false) {pc : Nat} {H : Heap} {ls : Array Slot} (hdg : decode code pc = .ok (.ireturn, 1)) : W p l e room_1 s m #[Value.ref b] below meth c H [] 600000 7302250 (lw_Z below #[Value.ref b] s) (F0 m pc ls [.int 1]) := by
  intro T hT X
  obtain ⟨fs, hret, hrun, hended, hW, hframe⟩ := X.leave (v := some (.int 1)) (hlocks := hlocks) (fun h => by rw [hr] at h; cases h)
  have hmeth' : T.vm.method? m = some meth := X.method'
  refine ⟨T.setFrames fs, ?_, .returned (some (.int 1)), hrun, hended, rfl, ⟨_, rfl⟩, hW, hframe⟩
  jvm_step X.here [X.here.top, hx, hb, hdg, hmeth', hr, ret, narrow_b1]
  (try refine ⟨rfl, ?_⟩); (try refine ⟨rfl, ?_⟩)
  first | (intro acts; rw [hret _ acts rfl rfl rfl]) | rw [hret _ _ rfl rfl rfl]
  exact Steps.refl _
/-- what holds at the law's entry: the machine, the code, the tables' words (any of lw_tbl by 'hts w (by decide +kernel)'), the script of L ints xs at the cell b, what the Statement gives of the start (any of its parts by flat_of_before) -/
def lw_At (p : Program) (s : State) (m : MethodId) (meth : Method) (c : Code) (b L : Nat) (xs : Nat → Int32) : Prop :=
  p.tables.exec = Jvm.exec ∧ c.code = code ∧ meth.sig.returnType = ret ∧ c.maxLocals = 4 ∧ s.vm.findClass R_law = some m.cls ∧ (∀ w ∈ lw_tbl, w.before #[Value.ref b] s = true) ∧ va_X b L xs s s.heap ∧ b < s.heap.size ∧ meth.locks = false ∧ (Jvm.Cond.and given_1 narrow_1).before #[Value.ref b] s = true
/-- the kinds that calls use: all but Chains -/
abbrev KL : List Nat := [0, 1, 2, 3, 4, 5, 6, 7, 8, 9, 11, 12, 13, 14, 15, 16, 17, 18, 19, 20, 21, 22]
/-- what is known of the two objects between calls; G, M: how much lies on their tapes -/
def LV (T : TF) (xa ma ch w hw gw hg G M y0 y2 y3 nn j : Nat) (y1 : Int32) : Prop :=
  T xa = some (21, w, ch) ∧ isW T w hw gw ∧ T ma = some (22, hg, M) ∧ hg < 90 ∧ (∀ (b : Nat) (tg : Tg), T b = some tg → tg.1 = 22 → b = ma) ∧ (∀ (b : Nat) (tg : Tg), T b = some tg → tg.1 = 21 → b = xa) ∧ T ch = some (10, G, 0) ∧ T y0 = some (1, nn, 0) ∧ 0 ≤ y1.toInt ∧ y1.toInt ≤ 16383 ∧ T y2 = some (1, 14, 1) ∧ T y3 = some (1, 14, 0) ∧ nn = 2 ^ j ∧ j ≤ 14
/-- the room that n calls have taken -/
def RM (cells slots n j : Nat) : Prop := cells ≤ 200 + 10 * n + j ∧ slots ≤ 500000 + 1001 * n + 16384 * j
theorem RM.s {cells slots n j : Nat} (h : RM cells slots n j) : RM cells slots (n + 1) j := ⟨by have := h.1; omega, by have := h.2; omega⟩
theorem RM.d {cells slots n j kk ss j2 : Nat} (h : RM cells slots n j) (h1 : kk + j ≤ j2) (h2 : ss + 16384 * j ≤ 16384 * j2) : RM (cells + kk) (slots + ss) (n + 1) j2 := ⟨by have := h.1; omega, by have := h.2; omega⟩
theorem RM.w {cells slots n j : Nat} (h : RM cells slots n j) : RM (cells + 10) (slots + 1001) (n + 1) j := ⟨by have := h.1; omega, by have := h.2; omega⟩
theorem okc {T : TF} {O : List Nat} {ch g : Nat} (hO : O = []) (h : T ch = some (10, g, 0)) : okO T (ch :: O) KL := fun o ho => by
  subst hO
  rcases List.mem_cons.mp ho with rfl | ho
  · exact ⟨_, h, by show 10 ∉ KL; decide⟩
  · exact absurd ho List.not_mem_nil
theorem LV.gr {T T2 : TF} {xa ma ch w hw gw hg G M y0 y2 y3 nn j z0 n2 j2 : Nat} {y1 z1 : Int32} (h : LV T xa ma ch w hw gw hg G M y0 y2 y3 nn j y1) (ht : Tgr T T2) (h0 : T2 z0 = some (1, n2, 0)) (h1 : n2 = 2 ^ j2) (h2 : j2 ≤ 14) (h3 : 0 ≤ z1.toInt) (h4 : z1.toInt ≤ 16383) : LV T2 xa ma ch w hw gw hg G M z0 y2 y3 n2 j2 z1 := by
  obtain ⟨a1, a2, a3, a4, a5, a55, a6, a7, a8, a9, b1, b2, b3, b4⟩ := h
  refine ⟨ht.1 _ _ a1, isW.le ht.1 a2, ht.1 _ _ a3, a4, fun b tg hb hk => ?_, fun b tg hb hk => ?_, ht.1 _ _ a6, h0, h3, h4, ht.1 _ _ b1, ht.1 _ _ b2, h1, h2⟩
  · rcases ht.2 b tg hb with q | q | q | q
    · exact a5 b tg q hk
    · omega
    · omega
    · omega
  · rcases ht.2 b tg hb with q | q | q | q
    · exact a55 b tg q hk
    · omega
    · omega
    · omega
theorem LV.wl {T T2 : TF} {xa ma ch w hw gw hg G M y0 y2 y3 nn j w2 h2 g2 G2 : Nat} {y1 : Int32} (h : LV T xa ma ch w hw gw hg G M y0 y2 y3 nn j y1) (ht : Twl T T2 xa) (h0 : T2 xa = some (21, w2, ch)) (h1 : isW T2 w2 h2 g2) (hc : T2 ch = some (10, G2, 0)) : LV T2 xa ma ch w2 h2 g2 hg G2 M y0 y2 y3 nn j y1 := by
  obtain ⟨a1, a2, a3, a4, a5, a55, a6, a7, a8, a9, b1, b2, b3, b4⟩ := h
  refine ⟨h0, h1, ht.1 _ _ a3 (by show 22 ≠ 21; decide) (by show 22 ≠ 10; decide), a4, fun b tg hb hk => ?_, fun b tg hb hk => ?_, hc, ht.1 _ _ a7 (by show 1 ≠ 21; decide) (by show 1 ≠ 10; decide), a8, a9, ht.1 _ _ b1 (by show 1 ≠ 21; decide) (by show 1 ≠ 10; decide), ht.1 _ _ b2 (by show 1 ≠ 21; decide) (by show 1 ≠ 10; decide), b3, b4⟩
  · rcases ht.2 b tg hb with q | q | q | q | q | q
    · exact a5 b tg q hk
    all_goals omega
  · rcases ht.2 b tg hb with q | q | q | q | q | q
    · exact a55 b tg q hk
    · omega
    · omega
    · omega
    · exact q.2
    · omega
theorem LV.re {T T2 : TF} {xa ma ch w hw gw hg G M y0 y2 y3 nn j w2 h2 g2 : Nat} {y1 : Int32} (h : LV T xa ma ch w hw gw hg G M y0 y2 y3 nn j y1) (ht : Tre T T2 xa) (h0 : T2 xa = some (21, w2, ch)) (h1 : isW T2 w2 h2 g2) : LV T2 xa ma ch w2 h2 g2 hg G M y0 y2 y3 nn j y1 :=
  h.wl (Twl.of (T1 := T) (T2 := T) ⟨fun _ _ q => q, fun _ _ q => Or.inl q⟩ Tgc.rf ht) h0 h1 (ht.1 _ _ h.2.2.2.2.2.2.1 (by show 10 ≠ 21; decide))
theorem LV.gc {T T2 : TF} {xa ma ch w hw gw hg G M y0 y2 y3 nn j G2 : Nat} {y1 : Int32} (h : LV T xa ma ch w hw gw hg G M y0 y2 y3 nn j y1) (ht : Tgc T T2) (hc : T2 ch = some (10, G2, 0)) : LV T2 xa ma ch w hw gw hg G2 M y0 y2 y3 nn j y1 :=
  h.wl (Twl.of (T1 := T) ⟨fun _ _ q => q, fun _ _ q => Or.inl q⟩ ht Tre.rf) (ht.1 _ _ h.1 (by show 21 ≠ 10; decide)) (isW.gc ht.1 h.2.1) hc
theorem LV.rm {T T2 : TF} {xa ma ch w hw gw hg G M y0 y2 y3 nn j hg2 M2 : Nat} {y1 : Int32} (h : LV T xa ma ch w hw gw hg G M y0 y2 y3 nn j y1) (ht : Trm T T2 ma) (h0 : T2 ma = some (22, hg2, M2)) (h1 : hg2 < 90) : LV T2 xa ma ch w hw gw hg2 G M2 y0 y2 y3 nn j y1 := by
  obtain ⟨a1, a2, a3, a4, a5, a55, a6, a7, a8, a9, b1, b2, b3, b4⟩ := h
  refine ⟨ht.1 _ _ a1 (by show 21 ≠ 22; decide) (by show 21 ≠ 8; decide), ⟨ht.1 _ _ a2.1 (by show 19 ≠ 22; decide) (by show 19 ≠ 8; decide), a2.2⟩, h0, h1, fun b tg hb hk => ?_, fun b tg hb hk => ?_, ht.1 _ _ a6 (by show 10 ≠ 22; decide) (by show 10 ≠ 8; decide), ht.1 _ _ a7 (by show 1 ≠ 22; decide) (by show 1 ≠ 8; decide), a8, a9, ht.1 _ _ b1 (by show 1 ≠ 22; decide) (by show 1 ≠ 8; decide), ht.1 _ _ b2 (by show 1 ≠ 22; decide) (by show 1 ≠ 8; decide), b3, b4⟩
  · rcases ht.2 b tg hb with q | q | q
    · exact a5 b tg q hk
    · omega
    · exact q.2
  · rcases ht.2 b tg hb with q | q | q
    · exact a55 b tg q hk
    · omega
    · omega
