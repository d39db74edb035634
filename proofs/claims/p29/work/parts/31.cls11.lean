theorem chN_lt {N : List Nat} (ok : stN N) : chN N < 12 := by
  obtain ⟨hN, h0, h1, h3, h3', h4, h5⟩ := ok
  unfold chN
  omega
theorem chN_3 {N : List Nat} (ok : stN N) : chN N / 4 + 1 = N.getD 3 0 := by
  obtain ⟨hN, h0, h1, h3, h3', h4, h5⟩ := ok
  unfold chN
  omega
theorem chN_4 {N : List Nat} (ok : stN N) : chN N / 2 % 2 = N.getD 4 0 := by
  obtain ⟨hN, h0, h1, h3, h3', h4, h5⟩ := ok
  unfold chN
  omega
theorem chN_5 {N : List Nat} (ok : stN N) : chN N % 2 = N.getD 5 0 := by
  obtain ⟨hN, h0, h1, h3, h3', h4, h5⟩ := ok
  unfold chN
  omega
/-- what a call of play() leaves: the Play, and the heap behind it -/
def playQ (N V S C : List Nat) (sv tl : Nat) (has : Bool) (g : xH) : Option Value → xH → Prop := fun v h' => ∃ p w lg sh P' g', v = some (.ref p) ∧ h' = hB N V S C P' sv tl has g' ∧ gOk P' g' ∧ PlA h' p 5 w lg sh (N.getD 3 0) (N.getD 4 0 == 1) (N.getD 5 0 == 1) (plN N) ∧ ∃ k, g' = g ++ k
set_option maxRecDepth 100000 in
set_option maxHeartbeats 4000000 in
theorem ev_play (d : Nat) (N V S C : List Nat) (P : List Value) (sv tl : Nat) (has : Bool) (g : xH) (ok : stN N) (gk : gOk P g) :
    Ev xT (d + 5) N_B_play [.ref 0] (hB N V S C P sv tl has g) (playQ N V S C sv tl has g) NX := by
  refine Ev_intro t_B_play (Nat.le_of_ble_eq_true rfl) ?_
  intro Q X hQ hX K hK
  show K 0 [some (.ref 0), none, none] [] _ 0 0
  have ok' := ok
  have hci := chN_lt ok
  obtain ⟨hN, h0, h1, h3, h3', h4, h5⟩ := ok
  have hch : nI 4 * (nI (N.getD 3 0) - nI 1) + nI 2 * nI (N.getD 4 0) + nI (N.getD 5 0) = nI (chN N) := by
    rw [n_sub h3, pk_mul, pk_mul, nI_add, nI_add]
    rfl
  have hP := gk.1
  refine hK 0 _ _ _ _ _ _ _ _ rfl ?_
  dsimp only [k_B_play_0, hN1, hB, wpI, xop, xcall, xli, xlj, xlf, xld, xla, xlg, xst, xst2, xc1, pI, pJ, pF, pD, pR, pA, p1, p0, xpop, xpush, xsm, xhas, xif, xic, xsw, xrf, xret, xrtl, xrtf, xrtd, xrta, xrtv, xfit, xnew, cond_true, cond_false, f40, f41, f42, f43, List.length_cons, List.length_nil, Nat.reduceAdd, Nat.reduceSub, Nat.reduceMul, Nat.reduceBEq, List.map_cons, List.map_nil, List.headD_cons, List.getElem?_cons_zero, List.getElem?_cons_succ, List.set_cons_zero, List.set_cons_succ]
  refine xhv_of rfl ?_
  dsimp only [hN1, hB, wpI, xop, xcall, xli, xlj, xlf, xld, xla, xlg, xst, xst2, xc1, pI, pJ, pF, pD, pR, pA, p1, p0, xpop, xpush, xsm, xhas, xif, xic, xsw, xrf, xret, xrtl, xrtf, xrtd, xrta, xrtv, xfit, xnew, cond_true, cond_false, f40, f41, f42, f43, List.length_cons, List.length_nil, Nat.reduceAdd, Nat.reduceSub, Nat.reduceMul, Nat.reduceBEq, List.map_cons, List.map_nil, List.headD_cons, List.getElem?_cons_zero, List.getElem?_cons_succ, List.set_cons_zero, List.set_cons_succ]
  refine xai_of (by decide) rfl ?_
  try simp (disch := first | omega | (simp only [List.length_set]; omega)) only [nI_add, n_and, n_or, n_xor, n_i31, nI_leI, nI_ltI, n_e0, n_eq, n_m1e, n_l0, n_g0, n_p0, n_q0, n_cl, n_in, n_sub, n_shr, n_shl, n_div, bI_0, n_01, n_11, bI_or, not_false_eq_true, forall_const, not_true_eq_false, false_imp_iff, true_imp_iff, List.length_map, List.length_set, hN, nL_u, gs_eq, gs_ne, nI_set, Nat.reduceLT, true_and, and_true, pk_mul]
  refine xhv_of rfl ?_
  dsimp only [hN1, hB, wpI, xop, xcall, xli, xlj, xlf, xld, xla, xlg, xst, xst2, xc1, pI, pJ, pF, pD, pR, pA, p1, p0, xpop, xpush, xsm, xhas, xif, xic, xsw, xrf, xret, xrtl, xrtf, xrtd, xrta, xrtv, xfit, xnew, cond_true, cond_false, f40, f41, f42, f43, List.length_cons, List.length_nil, Nat.reduceAdd, Nat.reduceSub, Nat.reduceMul, Nat.reduceBEq, List.map_cons, List.map_nil, List.headD_cons, List.getElem?_cons_zero, List.getElem?_cons_succ, List.set_cons_zero, List.set_cons_succ]
  refine xai_of (by decide) rfl ?_
  try simp (disch := first | omega | (simp only [List.length_set]; omega)) only [nI_add, n_and, n_or, n_xor, n_i31, nI_leI, nI_ltI, n_e0, n_eq, n_m1e, n_l0, n_g0, n_p0, n_q0, n_cl, n_in, n_sub, n_shr, n_shl, n_div, bI_0, n_01, n_11, bI_or, not_false_eq_true, forall_const, not_true_eq_false, false_imp_iff, true_imp_iff, List.length_map, List.length_set, hN, nL_u, gs_eq, gs_ne, nI_set, Nat.reduceLT, true_and, and_true, pk_mul]
  refine xhv_of rfl ?_
  dsimp only [hN1, hB, wpI, xop, xcall, xli, xlj, xlf, xld, xla, xlg, xst, xst2, xc1, pI, pJ, pF, pD, pR, pA, p1, p0, xpop, xpush, xsm, xhas, xif, xic, xsw, xrf, xret, xrtl, xrtf, xrtd, xrta, xrtv, xfit, xnew, cond_true, cond_false, f40, f41, f42, f43, List.length_cons, List.length_nil, Nat.reduceAdd, Nat.reduceSub, Nat.reduceMul, Nat.reduceBEq, List.map_cons, List.map_nil, List.headD_cons, List.getElem?_cons_zero, List.getElem?_cons_succ, List.set_cons_zero, List.set_cons_succ]
  refine xai_of (by decide) rfl ?_
  try simp (disch := first | omega | (simp only [List.length_set]; omega)) only [nI_add, n_and, n_or, n_xor, n_i31, nI_leI, nI_ltI, n_e0, n_eq, n_m1e, n_l0, n_g0, n_p0, n_q0, n_cl, n_in, n_sub, n_shr, n_shl, n_div, bI_0, n_01, n_11, bI_or, not_false_eq_true, forall_const, not_true_eq_false, false_imp_iff, true_imp_iff, List.length_map, List.length_set, hN, nL_u, gs_eq, gs_ne, nI_set, Nat.reduceLT, true_and, and_true, pk_mul]
  have hc : 4 * (N.getD 3 0 - 1) + 2 * N.getD 4 0 + N.getD 5 0 = chN N := rfl
  rw [hc]
  refine xhv_of rfl ?_
  dsimp only [hN1, hB, wpI, xop, xcall, xli, xlj, xlf, xld, xla, xlg, xst, xst2, xc1, pI, pJ, pF, pD, pR, pA, p1, p0, xpop, xpush, xsm, xhas, xif, xic, xsw, xrf, xret, xrtl, xrtf, xrtd, xrta, xrtv, xfit, xnew, cond_true, cond_false, f40, f41, f42, f43, List.length_cons, List.length_nil, Nat.reduceAdd, Nat.reduceSub, Nat.reduceMul, Nat.reduceBEq, List.map_cons, List.map_nil, List.headD_cons, List.getElem?_cons_zero, List.getElem?_cons_succ, List.set_cons_zero, List.set_cons_succ]
  refine xhv_of rfl ?_
  rw [hP]
  refine ⟨hci, ?_⟩
  rcases gk.2.1 (chN N) hci with e | ⟨p, w, lg, sh, e, pl⟩
  · rw [e]
    dsimp only [hN1, hB, wpI, xop, xcall, xli, xlj, xlf, xld, xla, xlg, xst, xst2, xc1, pI, pJ, pF, pD, pR, pA, p1, p0, xpop, xpush, xsm, xhas, xif, xic, xsw, xrf, xret, xrtl, xrtf, xrtd, xrta, xrtv, xfit, xnew, cond_true, cond_false, f40, f41, f42, f43, List.length_cons, List.length_nil, Nat.reduceAdd, Nat.reduceSub, Nat.reduceMul, Nat.reduceBEq, List.map_cons, List.map_nil, List.headD_cons, List.getElem?_cons_zero, List.getElem?_cons_succ, List.set_cons_zero, List.set_cons_succ]
    have hl : g.length ≤ 700 := by have := gk.2.2.2.2; omega
    have hwf : xwH (hB N V S C P sv tl has g).length (hB N V S C P sv tl has g) := by
      simp only [List.length_cons]
      exact ⟨⟨wr (by omega), wr (by omega), trivial, wr (by omega), trivial, wr (by omega), trivial, wr (by omega), wr (by omega), trivial⟩, trivial, trivial, trivial, trivial, trivial, gk.2.2.1, gk.2.2.2.1⟩
    have go2 : ∀ wo, wo = (N.getD 5 0 == 1) → K 2 [some (.ref 0), some (.int (nI (chN N))), some .null] [.int (bI wo), .int (bI (barB N)), .int (nI (N.getD 3 0)), .ref 5, .ref (g.length + 7), .ref (g.length + 7)] (hB N V S C P sv tl has (g ++ [(5, [], [.null, .int 0, .int 0, .int 0, .null, .null, .null])])) 1 7 := by
      intro wo hw
      refine hK 2 _ _ _ _ _ _ _ _ rfl ?_
      dsimp only [k_B_play_2, hN1, hB, wpI, xop, xcall, xli, xlj, xlf, xld, xla, xlg, xst, xst2, xc1, pI, pJ, pF, pD, pR, pA, p1, p0, xpop, xpush, xsm, xhas, xif, xic, xsw, xrf, xret, xrtl, xrtf, xrtd, xrta, xrtv, xfit, xnew, cond_true, cond_false, f40, f41, f42, f43, List.length_cons, List.length_nil, Nat.reduceAdd, Nat.reduceSub, Nat.reduceMul, Nat.reduceBEq, List.map_cons, List.map_nil, List.headD_cons, List.getElem?_cons_zero, List.getElem?_cons_succ, List.set_cons_zero, List.set_cons_succ]
      simp only [List.length_append, List.length_cons, List.length_nil]
      refine ⟨trivial, by decide, by decide, ⟨wr (by omega), trivial, trivial, trivial⟩, ⟨wr (by omega), trivial⟩, ?_⟩
      refine Ev_use (ev_L_init _ 5 (N.getD 3 0) (barB N) wo (hB N V S C P sv tl has g) rfl (by simp only [List.length_cons]; omega) hwf (by omega)) ?_
      dsimp only [hN1, hB, wpI, xop, xcall, xli, xlj, xlf, xld, xla, xlg, xst, xst2, xc1, pI, pJ, pF, pD, pR, pA, p1, p0, xpop, xpush, xsm, xhas, xif, xic, xsw, xrf, xret, xrtl, xrtf, xrtd, xrta, xrtv, xfit, xnew, cond_true, cond_false, f40, f41, f42, f43, List.length_cons, List.length_nil, Nat.reduceAdd, Nat.reduceSub, Nat.reduceMul, Nat.reduceBEq, List.map_cons, List.map_nil, List.headD_cons, List.getElem?_cons_zero, List.getElem?_cons_succ, List.set_cons_zero, List.set_cons_succ]
      refine xhv_of rfl ?_
      dsimp only [hN1, hB, wpI, xop, xcall, xli, xlj, xlf, xld, xla, xlg, xst, xst2, xc1, pI, pJ, pF, pD, pR, pA, p1, p0, xpop, xpush, xsm, xhas, xif, xic, xsw, xrf, xret, xrtl, xrtf, xrtd, xrta, xrtv, xfit, xnew, cond_true, cond_false, f40, f41, f42, f43, List.length_cons, List.length_nil, Nat.reduceAdd, Nat.reduceSub, Nat.reduceMul, Nat.reduceBEq, List.map_cons, List.map_nil, List.headD_cons, List.getElem?_cons_zero, List.getElem?_cons_succ, List.set_cons_zero, List.set_cons_succ]
      refine xhv_of rfl ?_
      refine xhv_of (g_0 (hB N V S C P sv tl has g) _ _) ?_
      rw [hP]
      try simp (disch := first | omega | (simp only [List.length_set]; omega)) only [nI_add, n_and, n_or, n_xor, n_i31, nI_leI, nI_ltI, n_e0, n_eq, n_m1e, n_l0, n_g0, n_p0, n_q0, n_cl, n_in, n_sub, n_shr, n_shl, n_div, bI_0, n_01, n_11, bI_or, not_false_eq_true, forall_const, not_true_eq_false, false_imp_iff, true_imp_iff, List.length_map, List.length_set, hN, nL_u, gs_eq, gs_ne, nI_set, Nat.reduceLT, true_and, and_true, pk_mul]
      refine ⟨hci, ?_⟩
      have gn := gOk_new gk hci e
      rw [chN_3 ok', chN_4 ok', chN_5 ok'] at gn
      have pl := hP_A (h0 := hB N V S C (P.set (chN N) (.ref (g.length + 7))) sv tl has g) (a := 5) (most := N.getD 3 0) (bar := N.getD 4 0 == 1) (wo := N.getD 5 0 == 1) (T := plT (N.getD 3 0) (N.getD 4 0 == 1) (N.getD 5 0 == 1)) rfl (by simp only [List.length_cons]; omega) (plT_3 _ _ _)
      subst hw
      refine hK 3 _ _ _ _ _ _ _ _ rfl ?_
      dsimp only [k_B_play_3, hN1, hB, wpI, xop, xcall, xli, xlj, xlf, xld, xla, xlg, xst, xst2, xc1, pI, pJ, pF, pD, pR, pA, p1, p0, xpop, xpush, xsm, xhas, xif, xic, xsw, xrf, xret, xrtl, xrtf, xrtd, xrta, xrtv, xfit, xnew, cond_true, cond_false, f40, f41, f42, f43, List.length_cons, List.length_nil, Nat.reduceAdd, Nat.reduceSub, Nat.reduceMul, Nat.reduceBEq, List.map_cons, List.map_nil, List.headD_cons, List.getElem?_cons_zero, List.getElem?_cons_succ, List.set_cons_zero, List.set_cons_succ]
      exact ⟨by decide, by decide, hQ _ _ ⟨_, _, _, _, P.set (chN N) (.ref (g.length + 7)), _, rfl, rfl, gn, pl, _, rfl⟩⟩
    refine ⟨by decide, by decide, by omega, ⟨wr (by omega), trivial, trivial, trivial⟩, trivial, ⟨⟨wr (by omega), wr (by omega), trivial, wr (by omega), trivial, wr (by omega), trivial, wr (by omega), wr (by omega), trivial⟩, trivial, trivial, trivial, trivial, trivial, gk.2.2.1, gk.2.2.2.1⟩, ?_⟩
    simp only [List.cons_append, xdef]
    refine xhv_of rfl ?_
    dsimp only [hN1, hB, wpI, xop, xcall, xli, xlj, xlf, xld, xla, xlg, xst, xst2, xc1, pI, pJ, pF, pD, pR, pA, p1, p0, xpop, xpush, xsm, xhas, xif, xic, xsw, xrf, xret, xrtl, xrtf, xrtd, xrta, xrtv, xfit, xnew, cond_true, cond_false, f40, f41, f42, f43, List.length_cons, List.length_nil, Nat.reduceAdd, Nat.reduceSub, Nat.reduceMul, Nat.reduceBEq, List.map_cons, List.map_nil, List.headD_cons, List.getElem?_cons_zero, List.getElem?_cons_succ, List.set_cons_zero, List.set_cons_succ]
    refine xhv_of rfl ?_
    dsimp only [hN1, hB, wpI, xop, xcall, xli, xlj, xlf, xld, xla, xlg, xst, xst2, xc1, pI, pJ, pF, pD, pR, pA, p1, p0, xpop, xpush, xsm, xhas, xif, xic, xsw, xrf, xret, xrtl, xrtf, xrtd, xrta, xrtv, xfit, xnew, cond_true, cond_false, f40, f41, f42, f43, List.length_cons, List.length_nil, Nat.reduceAdd, Nat.reduceSub, Nat.reduceMul, Nat.reduceBEq, List.map_cons, List.map_nil, List.headD_cons, List.getElem?_cons_zero, List.getElem?_cons_succ, List.set_cons_zero, List.set_cons_succ]
    refine xai_of (by decide) rfl ?_
    try simp (disch := first | omega | (simp only [List.length_set]; omega)) only [nI_add, n_and, n_or, n_xor, n_i31, nI_leI, nI_ltI, n_e0, n_eq, n_m1e, n_l0, n_g0, n_p0, n_q0, n_cl, n_in, n_sub, n_shr, n_shl, n_div, bI_0, n_01, n_11, bI_or, not_false_eq_true, forall_const, not_true_eq_false, false_imp_iff, true_imp_iff, List.length_map, List.length_set, hN, nL_u, gs_eq, gs_ne, nI_set, Nat.reduceLT, true_and, and_true, pk_mul]
    refine xhv_of rfl ?_
    refine Ev_use (ev_isBarring _ N _ _ ok') ?_
    dsimp only [hN1, hB, wpI, xop, xcall, xli, xlj, xlf, xld, xla, xlg, xst, xst2, xc1, pI, pJ, pF, pD, pR, pA, p1, p0, xpop, xpush, xsm, xhas, xif, xic, xsw, xai, xal, xhi, xhv, xrf, xret, xrtl, xrtf, xrtd, xrta, xrtv, xfit, xnew, cond_true, cond_false, f40, f41, f42, f43, List.length_cons, List.length_nil, Nat.reduceAdd, Nat.reduceSub, Nat.reduceMul, Nat.reduceBEq, List.map_cons, List.map_nil, List.headD_cons, List.getElem?_cons_zero, List.getElem?_cons_succ, List.set_cons_zero, List.set_cons_succ]
    try simp (disch := first | omega | (simp only [List.length_set]; omega)) only [nI_add, n_and, n_or, n_xor, n_i31, nI_leI, nI_ltI, n_e0, n_eq, n_m1e, n_l0, n_g0, n_p0, n_q0, n_cl, n_in, n_sub, n_shr, n_shl, n_div, bI_0, n_01, n_11, bI_or, not_false_eq_true, forall_const, not_true_eq_false, false_imp_iff, true_imp_iff, List.length_map, List.length_set, hN, nL_u, gs_eq, gs_ne, nI_set, Nat.reduceLT, true_and, and_true, pk_mul]
    refine ⟨fun z => ?_, fun z => ?_⟩
    · refine hK 1 _ _ _ _ _ _ _ _ rfl ?_
      dsimp only [k_B_play_1, hN1, hB, wpI, xop, xcall, xli, xlj, xlf, xld, xla, xlg, xst, xst2, xc1, pI, pJ, pF, pD, pR, pA, p1, p0, xpop, xpush, xsm, xhas, xif, xic, xsw, xrf, xret, xrtl, xrtf, xrtd, xrta, xrtv, xfit, xnew, cond_true, cond_false, f40, f41, f42, f43, List.length_cons, List.length_nil, Nat.reduceAdd, Nat.reduceSub, Nat.reduceMul, Nat.reduceBEq, List.map_cons, List.map_nil, List.headD_cons, List.getElem?_cons_zero, List.getElem?_cons_succ, List.set_cons_zero, List.set_cons_succ]
      exact go2 false (by rw [beq_eq_false_iff_ne.mpr z])
    · exact go2 true (by rw [beq_iff_eq.mpr z])
  · rw [chN_3 ok', chN_4 ok', chN_5 ok'] at pl
    have pl := PlA_mono (N := N) (V := V) (S := S) (C := C) (P := P) (sv := sv) (tl := tl) (has := has) (k := []) pl
    rw [List.append_nil] at pl
    rw [e]
    dsimp only [hN1, hB, wpI, xop, xcall, xli, xlj, xlf, xld, xla, xlg, xst, xst2, xc1, pI, pJ, pF, pD, pR, pA, p1, p0, xpop, xpush, xsm, xhas, xif, xic, xsw, xrf, xret, xrtl, xrtf, xrtd, xrta, xrtv, xfit, xnew, cond_true, cond_false, f40, f41, f42, f43, List.length_cons, List.length_nil, Nat.reduceAdd, Nat.reduceSub, Nat.reduceMul, Nat.reduceBEq, List.map_cons, List.map_nil, List.headD_cons, List.getElem?_cons_zero, List.getElem?_cons_succ, List.set_cons_zero, List.set_cons_succ]
    refine ⟨fun z => (nomatch z), fun _ => ?_⟩
    refine hK 3 _ _ _ _ _ _ _ _ rfl ?_
    dsimp only [k_B_play_3, hN1, hB, wpI, xop, xcall, xli, xlj, xlf, xld, xla, xlg, xst, xst2, xc1, pI, pJ, pF, pD, pR, pA, p1, p0, xpop, xpush, xsm, xhas, xif, xic, xsw, xrf, xret, xrtl, xrtf, xrtd, xrta, xrtv, xfit, xnew, cond_true, cond_false, f40, f41, f42, f43, List.length_cons, List.length_nil, Nat.reduceAdd, Nat.reduceSub, Nat.reduceMul, Nat.reduceBEq, List.map_cons, List.map_nil, List.headD_cons, List.getElem?_cons_zero, List.getElem?_cons_succ, List.set_cons_zero, List.set_cons_succ]
    exact ⟨Nat.zero_le _, Nat.zero_le _, hQ _ _ ⟨_, _, _, _, P, g, rfl, rfl, gk, pl, [], (List.append_nil g).symm⟩⟩
