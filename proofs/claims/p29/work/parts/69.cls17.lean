/-! the class: brokenShare, and the bits of a share -/
def bsF (b g : Nat) : UInt64 := if nI g = 0 then FP.dconst0 else FP.ddiv (FP.i2d (nI b)) (FP.i2d (nI g))
theorem bsF_n (b g : Nat) (h : ¬ nI g = 0) : vf_n64 (FP.ddiv (FP.i2d (nI b)) (FP.i2d (nI g))) := sh_n64 h
set_option maxRecDepth 100000 in
set_option maxHeartbeats 4000000 in
theorem ev_brokenShare (d : Nat) (N : List Nat) (vs : List Value) (g : xH) (hN : N.length = 18) :
    Ev xT (d + 2) N_B_brokenShare [.ref 0] (hN1 N vs g) (Rt (some (.double (bsF (brkS N 5 0 0) (brkS N 5 0 0 + N.getD 16 0 + N.getD 17 0)))) (hN1 N vs g)) NX := by
  refine Ev_intro t_B_brokenShare (Nat.le_of_ble_eq_true rfl) ?_
  intro Q X hQ hX K hK
  show K 0 [some (.ref 0), none, none] [] _ 0 0
  have hq := hQ _ _ ⟨rfl, rfl⟩
  unfold bsF at hq
  refine hK 0 _ _ _ _ _ _ _ _ rfl ?_
  dsimp only [k_B_brokenShare_0, hN1, hB, wpI, xop, xcall, xli, xlj, xlf, xld, xla, xlg, xst, xst2, xc1, pI, pJ, pF, pD, pR, pA, p1, p0, xpop, xpush, xsm, xhas, xif, xic, xsw, xai, xal, xhi, xhv, xrf, xret, xrtl, xrtf, xrtd, xrta, xrtv, xfit, xnew, cond_true, cond_false, f40, f41, f42, f43, List.length_cons, List.length_nil, Nat.reduceAdd, Nat.reduceSub, Nat.reduceMul, Nat.reduceBEq, List.map_cons, List.map_nil, List.headD_cons, List.getElem?_cons_zero, List.getElem?_cons_succ, List.set_cons_zero, List.set_cons_succ]
  refine Ev_use (ev_brokenInAll _ N _ _ hN) ?_
  dsimp only [hN1, hB, wpI, xop, xcall, xli, xlj, xlf, xld, xla, xlg, xst, xst2, xc1, pI, pJ, pF, pD, pR, pA, p1, p0, xpop, xpush, xsm, xhas, xif, xic, xsw, xai, xal, xhi, xhv, xrf, xret, xrtl, xrtf, xrtd, xrta, xrtv, xfit, xnew, cond_true, cond_false, f40, f41, f42, f43, List.length_cons, List.length_nil, Nat.reduceAdd, Nat.reduceSub, Nat.reduceMul, Nat.reduceBEq, List.map_cons, List.map_nil, List.headD_cons, List.getElem?_cons_zero, List.getElem?_cons_succ, List.set_cons_zero, List.set_cons_succ]
  try simp (disch := first | omega | (simp only [List.length_set]; omega)) only [nI_add, n_and, n_or, n_xor, n_i31, nI_leI, nI_ltI, n_e0, n_eq, n_m1e, n_l0, n_g0, n_p0, n_q0, n_cl, n_in, n_sub, n_shr, n_shl, n_div, bI_0, n_01, n_11, bI_or, not_false_eq_true, forall_const, not_true_eq_false, false_imp_iff, true_imp_iff, List.length_map, List.length_set, hN, nL_u, gs_eq, gs_ne, nI_set, Nat.reduceLT, true_and, and_true, pk_mul]
  refine ⟨fun y => ?_, fun y => ?_⟩
  · rw [if_neg y] at hq
    refine hK 1 _ _ _ _ _ _ _ _ rfl ?_
    dsimp only [k_B_brokenShare_1, hN1, hB, wpI, xop, xcall, xli, xlj, xlf, xld, xla, xlg, xst, xst2, xc1, pI, pJ, pF, pD, pR, pA, p1, p0, xpop, xpush, xsm, xhas, xif, xic, xsw, xai, xal, xhi, xhv, xrf, xret, xrtl, xrtf, xrtd, xrta, xrtv, xfit, xnew, cond_true, cond_false, f40, f41, f42, f43, List.length_cons, List.length_nil, Nat.reduceAdd, Nat.reduceSub, Nat.reduceMul, Nat.reduceBEq, List.map_cons, List.map_nil, List.headD_cons, List.getElem?_cons_zero, List.getElem?_cons_succ, List.set_cons_zero, List.set_cons_succ]
    refine ⟨bsF_n _ _ y, ?_⟩
    refine hK 2 _ _ _ _ _ _ _ _ rfl ?_
    dsimp only [k_B_brokenShare_2, hN1, hB, wpI, xop, xcall, xli, xlj, xlf, xld, xla, xlg, xst, xst2, xc1, pI, pJ, pF, pD, pR, pA, p1, p0, xpop, xpush, xsm, xhas, xif, xic, xsw, xai, xal, xhi, xhv, xrf, xret, xrtl, xrtf, xrtd, xrta, xrtv, xfit, xnew, cond_true, cond_false, f40, f41, f42, f43, List.length_cons, List.length_nil, Nat.reduceAdd, Nat.reduceSub, Nat.reduceMul, Nat.reduceBEq, List.map_cons, List.map_nil, List.headD_cons, List.getElem?_cons_zero, List.getElem?_cons_succ, List.set_cons_zero, List.set_cons_succ]
    first | exact hq | exact ⟨Nat.le_refl _, hq⟩ | exact ⟨Nat.le_refl _, Nat.le_refl _, hq⟩ | exact ⟨Or.inl rfl, Nat.le_refl _, Nat.le_refl _, hq⟩ | exact ⟨Or.inr rfl, Nat.le_refl _, Nat.le_refl _, hq⟩
  · rw [if_pos y] at hq
    refine hK 2 _ _ _ _ _ _ _ _ rfl ?_
    dsimp only [k_B_brokenShare_2, hN1, hB, wpI, xop, xcall, xli, xlj, xlf, xld, xla, xlg, xst, xst2, xc1, pI, pJ, pF, pD, pR, pA, p1, p0, xpop, xpush, xsm, xhas, xif, xic, xsw, xai, xal, xhi, xhv, xrf, xret, xrtl, xrtf, xrtd, xrta, xrtv, xfit, xnew, cond_true, cond_false, f40, f41, f42, f43, List.length_cons, List.length_nil, Nat.reduceAdd, Nat.reduceSub, Nat.reduceMul, Nat.reduceBEq, List.map_cons, List.map_nil, List.headD_cons, List.getElem?_cons_zero, List.getElem?_cons_succ, List.set_cons_zero, List.set_cons_succ]
    first | exact hq | exact ⟨Nat.le_refl _, hq⟩ | exact ⟨Nat.le_refl _, Nat.le_refl _, hq⟩ | exact ⟨Or.inl rfl, Nat.le_refl _, Nat.le_refl _, hq⟩ | exact ⟨Or.inr rfl, Nat.le_refl _, Nat.le_refl _, hq⟩
