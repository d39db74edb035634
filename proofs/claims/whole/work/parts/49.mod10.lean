/-! the model: what changes its row of numbers -/
theorem sub_and (l m x : Nat) (h : l &&& m = l) : (l &&& x) &&& m = l &&& x := by
  rw [Nat.and_assoc, Nat.and_comm x m, ← Nat.and_assoc, h]
theorem mfS_sub {r p l m : Nat} (h : l &&& m = l) : mfS r p l &&& m = mfS r p l := by
  unfold mfS
  split
  · exact h
  · exact sub_and _ _ _ h
theorem mfP_sub (r m : Nat) : ∀ (j p l : Nat), l &&& m = l → mfP r j p l &&& m = mfP r j p l
  | 0, _, _, h => h
  | j + 1, _, _, h => mfP_sub r m j _ _ (mfS_sub h)
theorem mfR_sub (m : Nat) : ∀ (j r l : Nat), l &&& m = l → mfR j r l &&& m = mfR j r l
  | 0, _, _, h => h
  | j + 1, r, l, h => mfR_sub m j _ _ (mfP_sub r m _ _ _ h)
theorem mf_sub (m : Nat) : mfN m &&& m = mfN m := mfR_sub m 4 1 m (Nat.and_self m)
theorem pop_mf (m : Nat) : pop (mfN m) ≤ pop m := popN_mono _ _ (mf_sub m) 15
theorem bits_sub {a b : Nat} (h : a &&& b = a) (r : Nat) : bitsN a r &&& bitsN b r = bitsN a r := by
  unfold bitsN
  apply Nat.eq_of_testBit_eq
  intro i
  have e := congrArg (fun x => x.testBit (rsN r + i)) h
  simp only [Nat.testBit_and] at e
  simp only [Nat.testBit_and, Nat.testBit_shiftRight]
  revert e
  cases a.testBit (rsN r + i) <;> cases b.testBit (rsN r + i) <;> simp
theorem pop_bits {a b : Nat} (h : a &&& b = a) (r : Nat) : pop (bitsN a r) ≤ pop (bitsN b r) := popN_mono _ _ (bits_sub h r) 15
def brkM (f t : Nat) : Nat → Nat → List Nat → List Nat
  | 0, _, N => N
  | j + 1, r, N => brkM f t j (r + 1) ((N.set (14 + r) (N.getD (14 + r) 0 + (pop (bitsN f r) - pop (bitsN t r)))).set 4 (N.getD 4 0 + (pop (bitsN f r) - pop (bitsN t r))))
set_option maxRecDepth 100000 in
set_option maxHeartbeats 4000000 in
theorem ev_M_breaks (d f t : Nat) (z : Nat → xC) (N : List Nat) (vs : List Value) (g : xH) (hN : N.length = 19) (hf : f < 32768) (ht : t < 32768) (hs : t &&& f = t) :
    Ev xT (d + 3) N_M_breaks [.ref 7, .int (nI f), .int (nI t)] (hM1 z N vs g) (Rt (some (.int (nI (pop f - pop t)))) (hM1 z ((brkM f t 5 0 N).set 0 t) vs g)) NX := by
  refine Ev_intro t_M_breaks (Nat.le_of_ble_eq_true rfl) ?_
  intro Q X hQ hX K hK
  show K 0 [some (.ref 7), some (.int (nI f)), some (.int (nI t)), none, none] [] _ 0 0
  have hq := hQ _ _ ⟨rfl, rfl⟩
  have loop : ∀ (j r : Nat) (N : List Nat) (L4 : Option Value), r + j = 5 → N.length = 19 → Q (some (.int (nI (pop f - pop t)))) (hM1 z ((brkM f t j r N).set 0 t) vs g) →
      K 1 [some (.ref 7), some (.int (nI f)), some (.int (nI t)), some (.int (nI r)), L4] [] (hM1 z N vs g) 0 0 := by
    intro j
    induction j with
    | zero =>
      intro r N L4 hr hN hq
      obtain rfl : r = 5 := by omega
      have hp : pop t ≤ pop f := popN_mono _ _ hs 15
      refine hK 1 _ _ _ _ _ _ _ _ rfl ?_
      dsimp only [k_M_breaks_1, hN1, hB, hM1, hM, wpI, xop, xcall, xli, xlj, xlf, xld, xla, xlg, xst, xst2, xc1, pI, pJ, pF, pD, pR, pA, p1, p0, xpop, xpush, xsm, xhas, xif, xic, xsw, xai, xal, xhi, xhv, xrf, xret, xrtl, xrtf, xrtd, xrta, xrtv, xfit, xnew, cond_true, cond_false, f40, f41, f42, f43, List.length_cons, List.length_nil, Nat.reduceAdd, Nat.reduceSub, Nat.reduceMul, Nat.reduceBEq, List.map_cons, List.map_nil, List.headD_cons, List.getElem?_cons_zero, List.getElem?_cons_succ, List.set_cons_zero, List.set_cons_succ]
      refine br_t (by decide) ?_
      refine hK 2 _ _ _ _ _ _ _ _ rfl ?_
      dsimp only [k_M_breaks_2, hN1, hB, hM1, hM, wpI, xop, xcall, xli, xlj, xlf, xld, xla, xlg, xst, xst2, xc1, pI, pJ, pF, pD, pR, pA, p1, p0, xpop, xpush, xsm, xhas, xif, xic, xsw, xai, xal, xhi, xhv, xrf, xret, xrtl, xrtf, xrtd, xrta, xrtv, xfit, xnew, cond_true, cond_false, f40, f41, f42, f43, List.length_cons, List.length_nil, Nat.reduceAdd, Nat.reduceSub, Nat.reduceMul, Nat.reduceBEq, List.map_cons, List.map_nil, List.headD_cons, List.getElem?_cons_zero, List.getElem?_cons_succ, List.set_cons_zero, List.set_cons_succ]
      try simp (disch := first | omega | (simp only [List.length_set]; omega)) only [nI_add, n_and, n_or, n_xor, n_i31, nI_leI, nI_ltI, n_e0, n_eq, n_m1e, n_l0, n_g0, n_p0, n_q0, n_cl, n_in, n_sub, n_shr, n_shl, n_div, bI_0, n_01, n_11, bI_or, not_false_eq_true, forall_const, not_true_eq_false, false_imp_iff, true_imp_iff, List.length_map, List.length_set, hN, nL_u, gs_eq, gs_ne, nI_set, Nat.reduceLT, true_and, and_true, pk_mul]
      refine Ev_use (ev_M_bits _ f _ hf) ?_
      dsimp only [hN1, hB, hM1, hM, wpI, xop, xcall, xli, xlj, xlf, xld, xla, xlg, xst, xst2, xc1, pI, pJ, pF, pD, pR, pA, p1, p0, xpop, xpush, xsm, xhas, xif, xic, xsw, xai, xal, xhi, xhv, xrf, xret, xrtl, xrtf, xrtd, xrta, xrtv, xfit, xnew, cond_true, cond_false, f40, f41, f42, f43, List.length_cons, List.length_nil, Nat.reduceAdd, Nat.reduceSub, Nat.reduceMul, Nat.reduceBEq, List.map_cons, List.map_nil, List.headD_cons, List.getElem?_cons_zero, List.getElem?_cons_succ, List.set_cons_zero, List.set_cons_succ]
      refine Ev_use (ev_M_bits _ t _ ht) ?_
      dsimp only [hN1, hB, hM1, hM, wpI, xop, xcall, xli, xlj, xlf, xld, xla, xlg, xst, xst2, xc1, pI, pJ, pF, pD, pR, pA, p1, p0, xpop, xpush, xsm, xhas, xif, xic, xsw, xai, xal, xhi, xhv, xrf, xret, xrtl, xrtf, xrtd, xrta, xrtv, xfit, xnew, cond_true, cond_false, f40, f41, f42, f43, List.length_cons, List.length_nil, Nat.reduceAdd, Nat.reduceSub, Nat.reduceMul, Nat.reduceBEq, List.map_cons, List.map_nil, List.headD_cons, List.getElem?_cons_zero, List.getElem?_cons_succ, List.set_cons_zero, List.set_cons_succ]
      rw [bitsL_pop f hf, bitsL_pop t ht]
      try simp (disch := first | omega | (simp only [List.length_set]; omega)) only [nI_add, n_and, n_or, n_xor, n_i31, nI_leI, nI_ltI, n_e0, n_eq, n_m1e, n_l0, n_g0, n_p0, n_q0, n_cl, n_in, n_sub, n_shr, n_shl, n_div, bI_0, n_01, n_11, bI_or, not_false_eq_true, forall_const, not_true_eq_false, false_imp_iff, true_imp_iff, List.length_map, List.length_set, hN, nL_u, gs_eq, gs_ne, nI_set, Nat.reduceLT, true_and, and_true, pk_mul]
      exact ⟨Nat.le_refl _, Nat.le_refl _, hq⟩
    | succ j ih =>
      intro r N L4 hr hN hq
      rw [brkM] at hq
      have hp := pop_bits hs r
      refine hK 1 _ _ _ _ _ _ _ _ rfl ?_
      dsimp only [k_M_breaks_1, hN1, hB, hM1, hM, wpI, xop, xcall, xli, xlj, xlf, xld, xla, xlg, xst, xst2, xc1, pI, pJ, pF, pD, pR, pA, p1, p0, xpop, xpush, xsm, xhas, xif, xic, xsw, xai, xal, xhi, xhv, xrf, xret, xrtl, xrtf, xrtd, xrta, xrtv, xfit, xnew, cond_true, cond_false, f40, f41, f42, f43, List.length_cons, List.length_nil, Nat.reduceAdd, Nat.reduceSub, Nat.reduceMul, Nat.reduceBEq, List.map_cons, List.map_nil, List.headD_cons, List.getElem?_cons_zero, List.getElem?_cons_succ, List.set_cons_zero, List.set_cons_succ]
      try simp (disch := first | omega | (simp only [List.length_set]; omega)) only [nI_add, n_and, n_or, n_xor, n_i31, nI_leI, nI_ltI, n_e0, n_eq, n_m1e, n_l0, n_g0, n_p0, n_q0, n_cl, n_in, n_sub, n_shr, n_shl, n_div, bI_0, n_01, n_11, bI_or, not_false_eq_true, forall_const, not_true_eq_false, false_imp_iff, true_imp_iff, List.length_map, List.length_set, hN, nL_u, gs_eq, gs_ne, nI_set, Nat.reduceLT, true_and, and_true, pk_mul]
      refine br_f (by omega) ?_
      refine Ev_use (ev_M_inRow _ f r _ hf (by omega)) ?_
      dsimp only [hN1, hB, hM1, hM, wpI, xop, xcall, xli, xlj, xlf, xld, xla, xlg, xst, xst2, xc1, pI, pJ, pF, pD, pR, pA, p1, p0, xpop, xpush, xsm, xhas, xif, xic, xsw, xai, xal, xhi, xhv, xrf, xret, xrtl, xrtf, xrtd, xrta, xrtv, xfit, xnew, cond_true, cond_false, f40, f41, f42, f43, List.length_cons, List.length_nil, Nat.reduceAdd, Nat.reduceSub, Nat.reduceMul, Nat.reduceBEq, List.map_cons, List.map_nil, List.headD_cons, List.getElem?_cons_zero, List.getElem?_cons_succ, List.set_cons_zero, List.set_cons_succ]
      refine Ev_use (ev_M_inRow _ t r _ ht (by omega)) ?_
      dsimp only [hN1, hB, hM1, hM, wpI, xop, xcall, xli, xlj, xlf, xld, xla, xlg, xst, xst2, xc1, pI, pJ, pF, pD, pR, pA, p1, p0, xpop, xpush, xsm, xhas, xif, xic, xsw, xai, xal, xhi, xhv, xrf, xret, xrtl, xrtf, xrtd, xrta, xrtv, xfit, xnew, cond_true, cond_false, f40, f41, f42, f43, List.length_cons, List.length_nil, Nat.reduceAdd, Nat.reduceSub, Nat.reduceMul, Nat.reduceBEq, List.map_cons, List.map_nil, List.headD_cons, List.getElem?_cons_zero, List.getElem?_cons_succ, List.set_cons_zero, List.set_cons_succ]
      try simp (disch := first | omega | (simp only [List.length_set]; omega)) only [nI_add, n_and, n_or, n_xor, n_i31, nI_leI, nI_ltI, n_e0, n_eq, n_m1e, n_l0, n_g0, n_p0, n_q0, n_cl, n_in, n_sub, n_shr, n_shl, n_div, bI_0, n_01, n_11, bI_or, not_false_eq_true, forall_const, not_true_eq_false, false_imp_iff, true_imp_iff, List.length_map, List.length_set, hN, nL_u, gs_eq, gs_ne, nI_set, Nat.reduceLT, true_and, and_true, pk_mul]
      refine ⟨by omega, by omega, ?_⟩
      try simp (disch := first | omega | (simp only [List.length_set]; omega)) only [nI_add, n_and, n_or, n_xor, n_i31, nI_leI, nI_ltI, n_e0, n_eq, n_m1e, n_l0, n_g0, n_p0, n_q0, n_cl, n_in, n_sub, n_shr, n_shl, n_div, bI_0, n_01, n_11, bI_or, not_false_eq_true, forall_const, not_true_eq_false, false_imp_iff, true_imp_iff, List.length_map, List.length_set, hN, nL_u, gs_eq, gs_ne, nI_set, Nat.reduceLT, true_and, and_true, pk_mul]
      exact ih (r + 1) _ _ (by omega) (by simp only [List.length_set]; exact hN) hq
  refine hK 0 _ _ _ _ _ _ _ _ rfl ?_
  dsimp only [k_M_breaks_0, hN1, hB, hM1, hM, wpI, xop, xcall, xli, xlj, xlf, xld, xla, xlg, xst, xst2, xc1, pI, pJ, pF, pD, pR, pA, p1, p0, xpop, xpush, xsm, xhas, xif, xic, xsw, xai, xal, xhi, xhv, xrf, xret, xrtl, xrtf, xrtd, xrta, xrtv, xfit, xnew, cond_true, cond_false, f40, f41, f42, f43, List.length_cons, List.length_nil, Nat.reduceAdd, Nat.reduceSub, Nat.reduceMul, Nat.reduceBEq, List.map_cons, List.map_nil, List.headD_cons, List.getElem?_cons_zero, List.getElem?_cons_succ, List.set_cons_zero, List.set_cons_succ]
  exact loop 5 0 N _ rfl hN hq
