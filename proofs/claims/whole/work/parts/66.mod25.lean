/-! the model: a new object -/
def sM00 : List Nat := ((List.replicate 19 0).set 0 32767).set 6 1
theorem chk_step {j k f : Nat} (h : chk (j + 1) k f = some 132) : (mfN k = k ∧ shL.getD f 0 = k ∧ f < 132 ∧ chk j (k + 1) (f + 1) = some 132) ∨ (¬ mfN k = k ∧ chk j (k + 1) f = some 132) := by
  rw [chk] at h
  cases c1 : Nat.beq (mfN k) k
  · rw [c1] at h
    exact Or.inr ⟨fun q => by rw [q, Nat.beq_refl] at c1; exact Bool.noConfusion c1, h⟩
  · rw [c1] at h
    cases c2 : Nat.beq (shL.getD f 0) k && Nat.blt f 132
    · rw [c2] at h
      exact nomatch (show (none : Option Nat) = some 132 from h)
    · rw [c2] at h
      rw [Bool.and_eq_true] at c2
      exact Or.inl ⟨Nat.eq_of_beq_eq_true c1, Nat.eq_of_beq_eq_true c2.1, Nat.le_of_ble_eq_true c2.2, h⟩
theorem ext_D {l m : List Nat} (h : l.length = m.length) (e : ∀ i, i < l.length → l.getD i 0 = m.getD i 0) : l = m := by
  apply List.ext_getElem h
  intro i h1 h2
  have := e i h1
  rw [List.getD_eq_getElem?_getD, List.getD_eq_getElem?_getD, List.getElem?_eq_getElem h1, List.getElem?_eq_getElem h2] at this
  exact this
set_option maxRecDepth 100000 in
set_option maxHeartbeats 4000000 in
theorem ev_M_init (d : Nat) (z : Nat → xC) (hz : xwH 8 [z 0, z 1, z 2, z 3, z 4, z 5, z 6]) :
    Ev xT (d + 4) N_M_init [.ref 7] [z 0, z 1, z 2, z 3, z 4, z 5, z 6, (7, [], [.null, .null, .null, .null, .null, .null, .null, .int 0, .int 0, .int 0, .int 0, .int 0, .int 0, .int 0])]
      (Rt none (hM z sM00 (List.replicate 114 0) (List.replicate 19 0) (List.replicate 60 0) (List.replicate 120 0) shapesN (List.replicate 1056 0) (-1) 0 0 0 0 0 false [])) NX := by
  refine Ev_intro t_M_init (Nat.le_of_ble_eq_true rfl) ?_
  intro Q X hQ hX K hK
  show K 0 [some (.ref 7), none, none] [] _ 0 0
  have hq := hQ _ _ ⟨rfl, rfl⟩
  have c19 : (nI 19).toNatClampNeg = 19 := by decide +kernel
  have c114 : (nI 114).toNatClampNeg = 114 := by decide +kernel
  have c60 : (nI 60).toNatClampNeg = 60 := by decide +kernel
  have c120 : (nI 120).toNatClampNeg = 120 := by decide +kernel
  have c132 : (nI 132).toNatClampNeg = 132 := by decide +kernel
  have c1056 : (nI 1056).toNatClampNeg = 1056 := by decide +kernel
  have loop : ∀ (j k f : Nat) (R : List Nat), k + j = 32768 → chk j k f = some 132 → R.length = 132 → f ≤ 132 → (∀ i, i < f → R.getD i 0 = shL.getD i 0) → ∀ c s, c ≤ 7 → s ≤ 1520 →
      K 1 [some (.ref 7), some (.int (nI f)), some (.int (nI k))] [] (hM z sM00 (List.replicate 114 0) (List.replicate 19 0) (List.replicate 60 0) (List.replicate 120 0) R (List.replicate 1056 0) (-1) 0 0 0 0 0 false []) c s := by
    intro j
    induction j with
    | zero =>
      intro k f R hk hc hR hf hi c s h1 h2
      obtain rfl : k = 32768 := by omega
      rw [chk] at hc
      have ef := Option.some.inj hc
      subst ef
      have eR : R = shapesN := by
        rw [shapes_L]
        exact ext_D hR (fun i q => hi i (by omega))
      subst eR
      refine hK 1 _ _ _ _ _ _ _ _ rfl ?_
      dsimp only [k_M_init_1, hN1, hB, hM1, hM, wpI, xop, xcall, xli, xlj, xlf, xld, xla, xlg, xst, xst2, xc1, pI, pJ, pF, pD, pR, pA, p1, p0, xpop, xpush, xsm, xhas, xif, xic, xsw, xai, xal, xhi, xhv, xrf, xret, xrtl, xrtf, xrtd, xrta, xrtv, xfit, xnew, cond_true, cond_false, f40, f41, f42, f43, List.length_cons, List.length_nil, Nat.reduceAdd, Nat.reduceSub, Nat.reduceMul, Nat.reduceBEq, List.map_cons, List.map_nil, List.headD_cons, List.getElem?_cons_zero, List.getElem?_cons_succ, List.set_cons_zero, List.set_cons_succ]
      refine br_t (by decide) ?_
      refine hK 3 _ _ _ _ _ _ _ _ rfl ?_
      dsimp only [k_M_init_3, hN1, hB, hM1, hM, wpI, xop, xcall, xli, xlj, xlf, xld, xla, xlg, xst, xst2, xc1, pI, pJ, pF, pD, pR, pA, p1, p0, xpop, xpush, xsm, xhas, xif, xic, xsw, xai, xal, xhi, xhv, xrf, xret, xrtl, xrtf, xrtd, xrta, xrtv, xfit, xnew, cond_true, cond_false, f40, f41, f42, f43, List.length_cons, List.length_nil, Nat.reduceAdd, Nat.reduceSub, Nat.reduceMul, Nat.reduceBEq, List.map_cons, List.map_nil, List.headD_cons, List.getElem?_cons_zero, List.getElem?_cons_succ, List.set_cons_zero, List.set_cons_succ]
      exact ⟨h1, h2, hq⟩
    | succ j ih =>
      intro k f R hk hc hR hf hi c s h1 h2
      have hN := hR
      have hml := mfN_lt (m := k) (by omega)
      refine hK 1 _ _ _ _ _ _ _ _ rfl ?_
      dsimp only [k_M_init_1, hN1, hB, hM1, hM, wpI, xop, xcall, xli, xlj, xlf, xld, xla, xlg, xst, xst2, xc1, pI, pJ, pF, pD, pR, pA, p1, p0, xpop, xpush, xsm, xhas, xif, xic, xsw, xai, xal, xhi, xhv, xrf, xret, xrtl, xrtf, xrtd, xrta, xrtv, xfit, xnew, cond_true, cond_false, f40, f41, f42, f43, List.length_cons, List.length_nil, Nat.reduceAdd, Nat.reduceSub, Nat.reduceMul, Nat.reduceBEq, List.map_cons, List.map_nil, List.headD_cons, List.getElem?_cons_zero, List.getElem?_cons_succ, List.set_cons_zero, List.set_cons_succ]
      try simp (disch := first | omega | (simp only [List.length_set]; omega)) only [nI_add, n_and, n_or, n_xor, n_i31, nI_leI, nI_ltI, n_e0, n_eq, n_m1e, n_l0, n_g0, n_p0, n_q0, n_cl, n_in, n_sub, n_shr, n_shl, n_div, bI_0, n_01, n_11, bI_or, not_false_eq_true, forall_const, not_true_eq_false, false_imp_iff, true_imp_iff, List.length_map, List.length_set, hN, nL_u, gs_eq, gs_ne, nI_set, Nat.reduceLT, true_and, and_true, pk_mul]
      refine br_f (by omega) ?_
      refine Ev_use (ev_M_fallen _ k _ (by omega)) ?_
      dsimp only [hN1, hB, hM1, hM, wpI, xop, xcall, xli, xlj, xlf, xld, xla, xlg, xst, xst2, xc1, pI, pJ, pF, pD, pR, pA, p1, p0, xpop, xpush, xsm, xhas, xif, xic, xsw, xai, xal, xhi, xhv, xrf, xret, xrtl, xrtf, xrtd, xrta, xrtv, xfit, xnew, cond_true, cond_false, f40, f41, f42, f43, List.length_cons, List.length_nil, Nat.reduceAdd, Nat.reduceSub, Nat.reduceMul, Nat.reduceBEq, List.map_cons, List.map_nil, List.headD_cons, List.getElem?_cons_zero, List.getElem?_cons_succ, List.set_cons_zero, List.set_cons_succ]
      try simp (disch := omega) only [nI_add, n_and, n_or, n_xor, n_i31, nI_leI, nI_ltI, n_e0, n_eq, n_m1e, n_l0, n_g0, n_p0, n_q0, n_cl, n_in, n_sub, n_shr, n_shl, n_div, bI_0, n_01, n_11, bI_or, not_false_eq_true, forall_const, not_true_eq_false, false_imp_iff, true_imp_iff]
      rcases chk_step hc with ⟨e, e2, hf2, hc2⟩ | ⟨e, hc2⟩
      · refine ⟨fun q => (q e).elim, fun _ => ?_⟩
        try simp (disch := first | omega | (simp only [List.length_set]; omega)) only [nI_add, n_and, n_or, n_xor, n_i31, nI_leI, nI_ltI, n_e0, n_eq, n_m1e, n_l0, n_g0, n_p0, n_q0, n_cl, n_in, n_sub, n_shr, n_shl, n_div, bI_0, n_01, n_11, bI_or, not_false_eq_true, forall_const, not_true_eq_false, false_imp_iff, true_imp_iff, List.length_map, List.length_set, hN, nL_u, gs_eq, gs_ne, nI_set, Nat.reduceLT, true_and, and_true, pk_mul]
        refine ⟨by omega, ?_⟩
        refine hK 2 _ _ _ _ _ _ _ _ rfl ?_
        dsimp only [k_M_init_2, hN1, hB, hM1, hM, wpI, xop, xcall, xli, xlj, xlf, xld, xla, xlg, xst, xst2, xc1, pI, pJ, pF, pD, pR, pA, p1, p0, xpop, xpush, xsm, xhas, xif, xic, xsw, xai, xal, xhi, xhv, xrf, xret, xrtl, xrtf, xrtd, xrta, xrtv, xfit, xnew, cond_true, cond_false, f40, f41, f42, f43, List.length_cons, List.length_nil, Nat.reduceAdd, Nat.reduceSub, Nat.reduceMul, Nat.reduceBEq, List.map_cons, List.map_nil, List.headD_cons, List.getElem?_cons_zero, List.getElem?_cons_succ, List.set_cons_zero, List.set_cons_succ]
        try simp (disch := omega) only [nI_add, n_and, n_or, n_xor, n_i31, nI_leI, nI_ltI, n_e0, n_eq, n_m1e, n_l0, n_g0, n_p0, n_q0, n_cl, n_in, n_sub, n_shr, n_shl, n_div, bI_0, n_01, n_11, bI_or, not_false_eq_true, forall_const, not_true_eq_false, false_imp_iff, true_imp_iff]
        refine ih (k + 1) (f + 1) _ (by omega) hc2 (List.length_set.trans hR) (by omega) (fun i q => ?_) c s h1 h2
        by_cases ei : i = f
        · subst ei
          rw [gs_eq (by omega)]
          exact e2.symm
        · rw [gs_ne (by omega)]
          exact hi i (by omega)
      · refine ⟨fun _ => ?_, fun q => (e q).elim⟩
        refine hK 2 _ _ _ _ _ _ _ _ rfl ?_
        dsimp only [k_M_init_2, hN1, hB, hM1, hM, wpI, xop, xcall, xli, xlj, xlf, xld, xla, xlg, xst, xst2, xc1, pI, pJ, pF, pD, pR, pA, p1, p0, xpop, xpush, xsm, xhas, xif, xic, xsw, xai, xal, xhi, xhv, xrf, xret, xrtl, xrtf, xrtd, xrta, xrtv, xfit, xnew, cond_true, cond_false, f40, f41, f42, f43, List.length_cons, List.length_nil, Nat.reduceAdd, Nat.reduceSub, Nat.reduceMul, Nat.reduceBEq, List.map_cons, List.map_nil, List.headD_cons, List.getElem?_cons_zero, List.getElem?_cons_succ, List.set_cons_zero, List.set_cons_succ]
        try simp (disch := omega) only [nI_add, n_and, n_or, n_xor, n_i31, nI_leI, nI_ltI, n_e0, n_eq, n_m1e, n_l0, n_g0, n_p0, n_q0, n_cl, n_in, n_sub, n_shr, n_shl, n_div, bI_0, n_01, n_11, bI_or, not_false_eq_true, forall_const, not_true_eq_false, false_imp_iff, true_imp_iff]
        exact ih (k + 1) f R (by omega) hc2 hR hf hi c s h1 h2
  refine hK 0 _ _ _ _ _ _ _ _ rfl ?_
  dsimp only [k_M_init_0, hN1, hB, hM1, hM, wpI, xop, xcall, xli, xlj, xlf, xld, xla, xlg, xst, xst2, xc1, pI, pJ, pF, pD, pR, pA, p1, p0, xpop, xpush, xsm, xhas, xif, xic, xsw, xai, xal, xhi, xhv, xrf, xret, xrtl, xrtf, xrtd, xrta, xrtv, xfit, xnew, cond_true, cond_false, f40, f41, f42, f43, List.length_cons, List.length_nil, Nat.reduceAdd, Nat.reduceSub, Nat.reduceMul, Nat.reduceBEq, List.map_cons, List.map_nil, List.headD_cons, List.getElem?_cons_zero, List.getElem?_cons_succ, List.set_cons_zero, List.set_cons_succ, xtag, List.cons_append, List.nil_append]
  rw [c19, c114, c60, c120, c132, c1056]
  obtain ⟨z0, z1, z2, z3, z4, z5, z6, _⟩ := hz
  have w : ∀ n, 8 ≤ n → ∀ l : xH, xwH n l → xwH n (z 0 :: z 1 :: z 2 :: z 3 :: z 4 :: z 5 :: z 6 :: l) := fun n hn l hl => ⟨xwS_le hn z0, xwS_le hn z1, xwS_le hn z2, xwS_le hn z3, xwS_le hn z4, xwS_le hn z5, xwS_le hn z6, hl⟩
  have s0 : (hM z sM00 (List.replicate 114 0) (List.replicate 19 0) (List.replicate 60 0) (List.replicate 120 0) (List.replicate 132 0) (List.replicate 1056 0) (-1) 0 0 0 0 0 false []) = (hM z sM00 (List.replicate 114 0) (List.replicate 19 0) (List.replicate 60 0) (List.replicate 120 0) (List.replicate 132 0) (List.replicate 1056 0) (-1) 0 0 0 0 0 false []) := rfl
  refine ⟨by decide, by decide, by trivial, by decide, by decide, by decide, ⟨wr (by decide), trivial⟩, ⟨wr (by decide), trivial⟩, w _ (by decide) _ (by simp [xwH, xwS, wfv]), ?_⟩
  refine ⟨by decide, by decide, by trivial, by decide, by decide, by decide, ⟨wr (by decide), trivial⟩, ⟨wr (by decide), trivial⟩, w _ (by decide) _ (by simp [xwH, xwS, wfv]), ?_⟩
  refine ⟨by decide, by decide, by trivial, by decide, by decide, by decide, ⟨wr (by decide), trivial⟩, ⟨wr (by decide), trivial⟩, w _ (by decide) _ (by simp [xwH, xwS, wfv]), ?_⟩
  refine ⟨by decide, by decide, by trivial, by decide, by decide, by decide, ⟨wr (by decide), trivial⟩, ⟨wr (by decide), trivial⟩, w _ (by decide) _ (by simp [xwH, xwS, wfv]), ?_⟩
  refine ⟨by decide, by decide, by trivial, by decide, by decide, by decide, ⟨wr (by decide), trivial⟩, ⟨wr (by decide), trivial⟩, w _ (by decide) _ (by simp [xwH, xwS, wfv]), ?_⟩
  refine ⟨by decide, by decide, by trivial, by decide, by decide, by decide, ⟨wr (by decide), trivial⟩, ⟨wr (by decide), trivial⟩, w _ (by decide) _ (by simp [xwH, xwS, wfv]), ?_⟩
  refine ⟨by decide, by decide, by trivial, by decide, by decide, by decide, ⟨wr (by decide), trivial⟩, ⟨wr (by decide), trivial⟩, w _ (by decide) _ (by simp [xwH, xwS, wfv]), ?_⟩
  have e1 : ((List.replicate 19 (0 : Int32)).set (nI 0).toNatClampNeg (nI 32767)).set (nI 6).toNatClampNeg (nI 1) = sM00.map nI := by decide +kernel
  have e2 : ∀ n, List.replicate n (0 : Int32) = (List.replicate n 0).map nI := fun n => by rw [List.map_replicate]; rfl
  refine ⟨(n_in (by decide)).mpr (by decide), (n_in (by decide)).mpr (by decide), ?_⟩
  rw [e1, e2 114, e2 19, e2 60, e2 120, e2 132, e2 1056]
  exact loop 32768 0 0 _ rfl chk_all (by simp) (by decide) (fun i q => absurd q (Nat.not_lt_zero i)) _ _ (by decide) (by decide)
