/-! ===== the model: small parts ===== -/
def inB (v lo hi : Int32) : Bool := decide (lo ≤ v) && decide (v ≤ hi)
set_option maxRecDepth 100000 in
set_option maxHeartbeats 4000000 in
theorem ev_M_in (d : Nat) (v lo hi : Int32) (h : xH) : Ev xT (d + 1) N_M_in [.int v, .int lo, .int hi] h (Rt (some (.int (bI (inB v lo hi)))) h) NX := by
  refine Ev_intro t_M_in (Nat.le_of_ble_eq_true rfl) ?_
  intro Q X hQ hX K hK
  show K 0 [some (.int v), some (.int lo), some (.int hi)] [] _ 0 0
  have hq := hQ _ _ ⟨rfl, rfl⟩
  have f1 : inB v lo hi = false → K 1 [some (.int v), some (.int lo), some (.int hi)] [] h 0 0 := by
    intro e
    rw [e] at hq
    refine hK 1 _ _ _ _ _ _ _ _ rfl ?_
    dsimp only [k_M_in_1, hN1, hB, wpI, xop, xcall, xli, xlj, xlf, xld, xla, xlg, xst, xst2, xc1, pI, pJ, pF, pD, pR, pA, p1, p0, xpop, xpush, xsm, xhas, xif, xic, xsw, xai, xal, xhi, xhv, xrf, xret, xrtl, xrtf, xrtd, xrta, xrtv, xfit, xnew, cond_true, cond_false, f40, f41, f42, f43, List.length_cons, List.length_nil, Nat.reduceAdd, Nat.reduceSub, Nat.reduceMul, Nat.reduceBEq, List.map_cons, List.map_nil, List.headD_cons, List.getElem?_cons_zero, List.getElem?_cons_succ, List.set_cons_zero, List.set_cons_succ]
    refine hK 2 _ _ _ _ _ _ _ _ rfl ?_
    dsimp only [k_M_in_2, hN1, hB, wpI, xop, xcall, xli, xlj, xlf, xld, xla, xlg, xst, xst2, xc1, pI, pJ, pF, pD, pR, pA, p1, p0, xpop, xpush, xsm, xhas, xif, xic, xsw, xai, xal, xhi, xhv, xrf, xret, xrtl, xrtf, xrtd, xrta, xrtv, xfit, xnew, cond_true, cond_false, f40, f41, f42, f43, List.length_cons, List.length_nil, Nat.reduceAdd, Nat.reduceSub, Nat.reduceMul, Nat.reduceBEq, List.map_cons, List.map_nil, List.headD_cons, List.getElem?_cons_zero, List.getElem?_cons_succ, List.set_cons_zero, List.set_cons_succ]
    exact ⟨Or.inl rfl, Nat.le_refl _, Nat.le_refl _, hq⟩
  refine hK 0 _ _ _ _ _ _ _ _ rfl ?_
  dsimp only [k_M_in_0, hN1, hB, wpI, xop, xcall, xli, xlj, xlf, xld, xla, xlg, xst, xst2, xc1, pI, pJ, pF, pD, pR, pA, p1, p0, xpop, xpush, xsm, xhas, xif, xic, xsw, xai, xal, xhi, xhv, xrf, xret, xrtl, xrtf, xrtd, xrta, xrtv, xfit, xnew, cond_true, cond_false, f40, f41, f42, f43, List.length_cons, List.length_nil, Nat.reduceAdd, Nat.reduceSub, Nat.reduceMul, Nat.reduceBEq, List.map_cons, List.map_nil, List.headD_cons, List.getElem?_cons_zero, List.getElem?_cons_succ, List.set_cons_zero, List.set_cons_succ]
  refine ⟨fun z => f1 ?_, fun z => ⟨fun z2 => f1 ?_, fun z2 => ?_⟩⟩
  · unfold inB
    rw [decide_eq_false (Int32.not_le.mpr z)]
    rfl
  · unfold inB
    rw [decide_eq_false (Int32.not_le.mpr z2), Bool.and_false]
  · have e : inB v lo hi = true := by
      unfold inB
      rw [decide_eq_true (Int32.not_lt.mp z), decide_eq_true (Int32.not_lt.mp z2)]
      rfl
    rw [e] at hq
    refine hK 2 _ _ _ _ _ _ _ _ rfl ?_
    dsimp only [k_M_in_2, hN1, hB, wpI, xop, xcall, xli, xlj, xlf, xld, xla, xlg, xst, xst2, xc1, pI, pJ, pF, pD, pR, pA, p1, p0, xpop, xpush, xsm, xhas, xif, xic, xsw, xai, xal, xhi, xhv, xrf, xret, xrtl, xrtf, xrtd, xrta, xrtv, xfit, xnew, cond_true, cond_false, f40, f41, f42, f43, List.length_cons, List.length_nil, Nat.reduceAdd, Nat.reduceSub, Nat.reduceMul, Nat.reduceBEq, List.map_cons, List.map_nil, List.headD_cons, List.getElem?_cons_zero, List.getElem?_cons_succ, List.set_cons_zero, List.set_cons_succ]
    exact ⟨Or.inr rfl, Nat.le_refl _, Nat.le_refl _, hq⟩
set_option maxRecDepth 100000 in
set_option maxHeartbeats 4000000 in
theorem ev_M_isRow (d : Nat) (x : Int32) (h : xH) : Ev xT (d + 2) N_M_isRow [.int x] h (Rt (some (.int (bI (inB x (nI 0) (nI 4))))) h) NX := by
  refine Ev_intro t_M_isRow (Nat.le_of_ble_eq_true rfl) ?_
  intro Q X hQ hX K hK
  show K 0 [some (.int x)] [] _ 0 0
  have hq := hQ _ _ ⟨rfl, rfl⟩
  refine hK 0 _ _ _ _ _ _ _ _ rfl ?_
  dsimp only [k_M_isRow_0, hN1, hB, wpI, xop, xcall, xli, xlj, xlf, xld, xla, xlg, xst, xst2, xc1, pI, pJ, pF, pD, pR, pA, p1, p0, xpop, xpush, xsm, xhas, xif, xic, xsw, xai, xal, xhi, xhv, xrf, xret, xrtl, xrtf, xrtd, xrta, xrtv, xfit, xnew, cond_true, cond_false, f40, f41, f42, f43, List.length_cons, List.length_nil, Nat.reduceAdd, Nat.reduceSub, Nat.reduceMul, Nat.reduceBEq, List.map_cons, List.map_nil, List.headD_cons, List.getElem?_cons_zero, List.getElem?_cons_succ, List.set_cons_zero, List.set_cons_succ]
  refine Ev_use (ev_M_in _ x (nI 0) (nI 4) h) ?_
  dsimp only [hN1, hB, wpI, xop, xcall, xli, xlj, xlf, xld, xla, xlg, xst, xst2, xc1, pI, pJ, pF, pD, pR, pA, p1, p0, xpop, xpush, xsm, xhas, xif, xic, xsw, xai, xal, xhi, xhv, xrf, xret, xrtl, xrtf, xrtd, xrta, xrtv, xfit, xnew, cond_true, cond_false, f40, f41, f42, f43, List.length_cons, List.length_nil, Nat.reduceAdd, Nat.reduceSub, Nat.reduceMul, Nat.reduceBEq, List.map_cons, List.map_nil, List.headD_cons, List.getElem?_cons_zero, List.getElem?_cons_succ, List.set_cons_zero, List.set_cons_succ]
  exact ⟨bI_01 _, Nat.le_refl _, Nat.le_refl _, hq⟩
set_option maxRecDepth 100000 in
set_option maxHeartbeats 4000000 in
theorem ev_M_first (d r : Nat) (h : xH) (hr : r < 5) : Ev xT (d + 1) N_M_first [.int (nI r)] h (Rt (some (.int (nI (rsN r)))) h) NX := by
  refine Ev_intro t_M_first (Nat.le_of_ble_eq_true rfl) ?_
  intro Q X hQ hX K hK
  show K 0 [some (.int (nI r))] [] _ 0 0
  have hq := hQ _ _ ⟨rfl, rfl⟩
  have key : ∀ r, r < 5 → nI r * (nI 11 - nI r) / nI 2 = nI (rsN r) := by decide +kernel
  refine hK 0 _ _ _ _ _ _ _ _ rfl ?_
  dsimp only [k_M_first_0, hN1, hB, wpI, xop, xcall, xli, xlj, xlf, xld, xla, xlg, xst, xst2, xc1, pI, pJ, pF, pD, pR, pA, p1, p0, xpop, xpush, xsm, xhas, xif, xic, xsw, xai, xal, xhi, xhv, xrf, xret, xrtl, xrtf, xrtd, xrta, xrtv, xfit, xnew, cond_true, cond_false, f40, f41, f42, f43, List.length_cons, List.length_nil, Nat.reduceAdd, Nat.reduceSub, Nat.reduceMul, Nat.reduceBEq, List.map_cons, List.map_nil, List.headD_cons, List.getElem?_cons_zero, List.getElem?_cons_succ, List.set_cons_zero, List.set_cons_succ]
  rw [key r hr]
  exact ⟨by decide, Nat.le_refl _, Nat.le_refl _, hq⟩
def bitsL (m : Nat) : Nat → Nat → Nat → Nat
  | 0, _, s => s
  | j + 1, k, s => bitsL m j (k + 1) (s + (m >>> k &&& 1))
set_option maxRecDepth 100000 in
set_option maxHeartbeats 4000000 in
theorem ev_M_bits (d m : Nat) (h : xH) (hm : m < 32768) : Ev xT (d + 1) N_M_bits [.int (nI m)] h (Rt (some (.int (nI (bitsL m 15 0 0)))) h) NX := by
  refine Ev_intro t_M_bits (Nat.le_of_ble_eq_true rfl) ?_
  intro Q X hQ hX K hK
  show K 0 [some (.int (nI m)), none, none] [] _ 0 0
  have hq := hQ _ _ ⟨rfl, rfl⟩
  have loop : ∀ (j k s : Nat), k + j = 15 → Q (some (.int (nI (bitsL m j k s)))) h → K 1 [some (.int (nI m)), some (.int (nI s)), some (.int (nI k))] [] h 0 0 := by
    intro j
    induction j with
    | zero =>
      intro k s hk hq
      obtain rfl : k = 15 := by omega
      refine hK 1 _ _ _ _ _ _ _ _ rfl ?_
      dsimp only [k_M_bits_1, hN1, hB, wpI, xop, xcall, xli, xlj, xlf, xld, xla, xlg, xst, xst2, xc1, pI, pJ, pF, pD, pR, pA, p1, p0, xpop, xpush, xsm, xhas, xif, xic, xsw, xai, xal, xhi, xhv, xrf, xret, xrtl, xrtf, xrtd, xrta, xrtv, xfit, xnew, cond_true, cond_false, f40, f41, f42, f43, List.length_cons, List.length_nil, Nat.reduceAdd, Nat.reduceSub, Nat.reduceMul, Nat.reduceBEq, List.map_cons, List.map_nil, List.headD_cons, List.getElem?_cons_zero, List.getElem?_cons_succ, List.set_cons_zero, List.set_cons_succ]
      refine br_t (by decide) ?_
      refine hK 2 _ _ _ _ _ _ _ _ rfl ?_
      dsimp only [k_M_bits_2, hN1, hB, wpI, xop, xcall, xli, xlj, xlf, xld, xla, xlg, xst, xst2, xc1, pI, pJ, pF, pD, pR, pA, p1, p0, xpop, xpush, xsm, xhas, xif, xic, xsw, xai, xal, xhi, xhv, xrf, xret, xrtl, xrtf, xrtd, xrta, xrtv, xfit, xnew, cond_true, cond_false, f40, f41, f42, f43, List.length_cons, List.length_nil, Nat.reduceAdd, Nat.reduceSub, Nat.reduceMul, Nat.reduceBEq, List.map_cons, List.map_nil, List.headD_cons, List.getElem?_cons_zero, List.getElem?_cons_succ, List.set_cons_zero, List.set_cons_succ]
      exact ⟨Nat.le_refl _, Nat.le_refl _, hq⟩
    | succ j ih =>
      intro k s hk hq
      rw [bitsL] at hq
      refine hK 1 _ _ _ _ _ _ _ _ rfl ?_
      dsimp only [k_M_bits_1, hN1, hB, wpI, xop, xcall, xli, xlj, xlf, xld, xla, xlg, xst, xst2, xc1, pI, pJ, pF, pD, pR, pA, p1, p0, xpop, xpush, xsm, xhas, xif, xic, xsw, xai, xal, xhi, xhv, xrf, xret, xrtl, xrtf, xrtd, xrta, xrtv, xfit, xnew, cond_true, cond_false, f40, f41, f42, f43, List.length_cons, List.length_nil, Nat.reduceAdd, Nat.reduceSub, Nat.reduceMul, Nat.reduceBEq, List.map_cons, List.map_nil, List.headD_cons, List.getElem?_cons_zero, List.getElem?_cons_succ, List.set_cons_zero, List.set_cons_succ]
      try simp (disch := omega) only [nI_add, n_and, n_or, n_xor, n_i31, nI_leI, nI_ltI, n_e0, n_eq, n_m1e, n_l0, n_g0, n_p0, n_q0, n_cl, n_in, n_sub, n_shr, n_shl, n_div, bI_0, n_01, n_11, bI_or, not_false_eq_true, forall_const, not_true_eq_false, false_imp_iff, true_imp_iff]
      refine br_f (by omega) ?_
      exact ih (k + 1) _ (by omega) hq
  refine hK 0 _ _ _ _ _ _ _ _ rfl ?_
  dsimp only [k_M_bits_0, hN1, hB, wpI, xop, xcall, xli, xlj, xlf, xld, xla, xlg, xst, xst2, xc1, pI, pJ, pF, pD, pR, pA, p1, p0, xpop, xpush, xsm, xhas, xif, xic, xsw, xai, xal, xhi, xhv, xrf, xret, xrtl, xrtf, xrtd, xrta, xrtv, xfit, xnew, cond_true, cond_false, f40, f41, f42, f43, List.length_cons, List.length_nil, Nat.reduceAdd, Nat.reduceSub, Nat.reduceMul, Nat.reduceBEq, List.map_cons, List.map_nil, List.headD_cons, List.getElem?_cons_zero, List.getElem?_cons_succ, List.set_cons_zero, List.set_cons_succ]
  exact loop 15 0 0 rfl hq
