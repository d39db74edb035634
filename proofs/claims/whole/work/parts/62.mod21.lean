/-! the model: looks at a row -/
def edP (r : Nat) (lw : Bool) (k : Nat) : Nat := if lw = true then 4 - r - k else k
def edM (m r : Nat) (lw : Bool) : Nat → Nat → Int32 → Int32
  | 0, _, f => f
  | j + 1, k, f => edM m r lw j (k + 1) (if hasN m r (edP r lw k) = true then nI (edP r lw k) else f)
set_option maxRecDepth 100000 in
set_option maxHeartbeats 4000000 in
theorem ev_M_edge (d r : Nat) (lw : Bool) (z : Nat → xC) (N : List Nat) (vs : List Value) (g : xH) (hN : N.length = 19) (h0 : N.getD 0 0 < 32768) (hr : r < 5) :
    Ev xT (d + 3) N_M_edge [.ref 7, .int (nI r), .int (bI lw)] (hM1 z N vs g) (Rt (some (.int (edM (N.getD 0 0) r lw (5 - r) 0 (-1)))) (hM1 z N vs g)) NX := by
  refine Ev_intro t_M_edge (Nat.le_of_ble_eq_true rfl) ?_
  intro Q X hQ hX K hK
  show K 0 [some (.ref 7), some (.int (nI r)), some (.int (bI lw)), none, none, none] [] _ 0 0
  have hq := hQ _ _ ⟨rfl, rfl⟩
  have loop : ∀ (j k : Nat) (f : Int32) (L5 : Option Value), k + j = 5 - r → Q (some (.int (edM (N.getD 0 0) r lw j k f))) (hM1 z N vs g) → K 1 [some (.ref 7), some (.int (nI r)), some (.int (bI lw)), some (.int f), some (.int (nI k)), L5] [] (hM1 z N vs g) 0 0 := by
    intro j
    induction j with
    | zero =>
      intro k f L5 hk hq
      rw [edM] at hq
      refine hK 1 _ _ _ _ _ _ _ _ rfl ?_
      dsimp only [k_M_edge_1, hN1, hB, hM1, hM, wpI, xop, xcall, xli, xlj, xlf, xld, xla, xlg, xst, xst2, xc1, pI, pJ, pF, pD, pR, pA, p1, p0, xpop, xpush, xsm, xhas, xif, xic, xsw, xai, xal, xhi, xhv, xrf, xret, xrtl, xrtf, xrtd, xrta, xrtv, xfit, xnew, cond_true, cond_false, f40, f41, f42, f43, List.length_cons, List.length_nil, Nat.reduceAdd, Nat.reduceSub, Nat.reduceMul, Nat.reduceBEq, List.map_cons, List.map_nil, List.headD_cons, List.getElem?_cons_zero, List.getElem?_cons_succ, List.set_cons_zero, List.set_cons_succ]
      try simp (disch := first | omega | (simp only [List.length_set]; omega)) only [nI_add, n_and, n_or, n_xor, n_i31, nI_leI, nI_ltI, n_e0, n_eq, n_m1e, n_l0, n_g0, n_p0, n_q0, n_cl, n_in, n_sub, n_shr, n_shl, n_div, bI_0, n_01, n_11, bI_or, not_false_eq_true, forall_const, not_true_eq_false, false_imp_iff, true_imp_iff, List.length_map, List.length_set, hN, nL_u, gs_eq, gs_ne, nI_set, Nat.reduceLT, true_and, and_true, pk_mul]
      refine br_t (by omega) ?_
      refine hK 6 _ _ _ _ _ _ _ _ rfl ?_
      dsimp only [k_M_edge_6, hN1, hB, hM1, hM, wpI, xop, xcall, xli, xlj, xlf, xld, xla, xlg, xst, xst2, xc1, pI, pJ, pF, pD, pR, pA, p1, p0, xpop, xpush, xsm, xhas, xif, xic, xsw, xai, xal, xhi, xhv, xrf, xret, xrtl, xrtf, xrtd, xrta, xrtv, xfit, xnew, cond_true, cond_false, f40, f41, f42, f43, List.length_cons, List.length_nil, Nat.reduceAdd, Nat.reduceSub, Nat.reduceMul, Nat.reduceBEq, List.map_cons, List.map_nil, List.headD_cons, List.getElem?_cons_zero, List.getElem?_cons_succ, List.set_cons_zero, List.set_cons_succ]
      first | exact hq | exact ⟨Nat.le_refl _, hq⟩ | exact ⟨Nat.le_refl _, Nat.le_refl _, hq⟩ | exact ⟨Or.inl rfl, Nat.le_refl _, Nat.le_refl _, hq⟩ | exact ⟨Or.inr rfl, Nat.le_refl _, Nat.le_refl _, hq⟩
    | succ j ih =>
      intro k f L5 hk hq
      rw [edM] at hq
      have hp : edP r lw k < 5 - r := by unfold edP; split <;> omega
      have go3 : K 3 [some (.ref 7), some (.int (nI r)), some (.int (bI lw)), some (.int f), some (.int (nI k)), L5] [.int (nI (edP r lw k))] (hM1 z N vs g) 0 0 := by
        refine hK 3 _ _ _ _ _ _ _ _ rfl ?_
        dsimp only [k_M_edge_3, hN1, hB, hM1, hM, wpI, xop, xcall, xli, xlj, xlf, xld, xla, xlg, xst, xst2, xc1, pI, pJ, pF, pD, pR, pA, p1, p0, xpop, xpush, xsm, xhas, xif, xic, xsw, xai, xal, xhi, xhv, xrf, xret, xrtl, xrtf, xrtd, xrta, xrtv, xfit, xnew, cond_true, cond_false, f40, f41, f42, f43, List.length_cons, List.length_nil, Nat.reduceAdd, Nat.reduceSub, Nat.reduceMul, Nat.reduceBEq, List.map_cons, List.map_nil, List.headD_cons, List.getElem?_cons_zero, List.getElem?_cons_succ, List.set_cons_zero, List.set_cons_succ]
        try simp (disch := first | omega | (simp only [List.length_set]; omega)) only [nI_add, n_and, n_or, n_xor, n_i31, nI_leI, nI_ltI, n_e0, n_eq, n_m1e, n_l0, n_g0, n_p0, n_q0, n_cl, n_in, n_sub, n_shr, n_shl, n_div, bI_0, n_01, n_11, bI_or, not_false_eq_true, forall_const, not_true_eq_false, false_imp_iff, true_imp_iff, List.length_map, List.length_set, hN, nL_u, gs_eq, gs_ne, nI_set, Nat.reduceLT, true_and, and_true, pk_mul]
        refine Ev_use (ev_M_has _ _ r (edP r lw k) _ h0 hr (by omega)) ?_
        dsimp only [hN1, hB, hM1, hM, wpI, xop, xcall, xli, xlj, xlf, xld, xla, xlg, xst, xst2, xc1, pI, pJ, pF, pD, pR, pA, p1, p0, xpop, xpush, xsm, xhas, xif, xic, xsw, xai, xal, xhi, xhv, xrf, xret, xrtl, xrtf, xrtd, xrta, xrtv, xfit, xnew, cond_true, cond_false, f40, f41, f42, f43, List.length_cons, List.length_nil, Nat.reduceAdd, Nat.reduceSub, Nat.reduceMul, Nat.reduceBEq, List.map_cons, List.map_nil, List.headD_cons, List.getElem?_cons_zero, List.getElem?_cons_succ, List.set_cons_zero, List.set_cons_succ]
        rw [bI_0]
        refine ⟨fun y => ?_, fun y => ?_⟩
        · rw [if_neg (by rw [y]; decide)] at hq
          refine hK 4 _ _ _ _ _ _ _ _ rfl ?_
          dsimp only [k_M_edge_4, hN1, hB, hM1, hM, wpI, xop, xcall, xli, xlj, xlf, xld, xla, xlg, xst, xst2, xc1, pI, pJ, pF, pD, pR, pA, p1, p0, xpop, xpush, xsm, xhas, xif, xic, xsw, xai, xal, xhi, xhv, xrf, xret, xrtl, xrtf, xrtd, xrta, xrtv, xfit, xnew, cond_true, cond_false, f40, f41, f42, f43, List.length_cons, List.length_nil, Nat.reduceAdd, Nat.reduceSub, Nat.reduceMul, Nat.reduceBEq, List.map_cons, List.map_nil, List.headD_cons, List.getElem?_cons_zero, List.getElem?_cons_succ, List.set_cons_zero, List.set_cons_succ]
          refine hK 5 _ _ _ _ _ _ _ _ rfl ?_
          dsimp only [k_M_edge_5, hN1, hB, hM1, hM, wpI, xop, xcall, xli, xlj, xlf, xld, xla, xlg, xst, xst2, xc1, pI, pJ, pF, pD, pR, pA, p1, p0, xpop, xpush, xsm, xhas, xif, xic, xsw, xai, xal, xhi, xhv, xrf, xret, xrtl, xrtf, xrtd, xrta, xrtv, xfit, xnew, cond_true, cond_false, f40, f41, f42, f43, List.length_cons, List.length_nil, Nat.reduceAdd, Nat.reduceSub, Nat.reduceMul, Nat.reduceBEq, List.map_cons, List.map_nil, List.headD_cons, List.getElem?_cons_zero, List.getElem?_cons_succ, List.set_cons_zero, List.set_cons_succ]
          try simp (disch := omega) only [nI_add, n_and, n_or, n_xor, n_i31, nI_leI, nI_ltI, n_e0, n_eq, n_m1e, n_l0, n_g0, n_p0, n_q0, n_cl, n_in, n_sub, n_shr, n_shl, n_div, bI_0, n_01, n_11, bI_or, not_false_eq_true, forall_const, not_true_eq_false, false_imp_iff, true_imp_iff]
          exact ih (k + 1) f _ (by omega) hq
        · rw [if_pos (b_nf y)] at hq
          refine hK 5 _ _ _ _ _ _ _ _ rfl ?_
          dsimp only [k_M_edge_5, hN1, hB, hM1, hM, wpI, xop, xcall, xli, xlj, xlf, xld, xla, xlg, xst, xst2, xc1, pI, pJ, pF, pD, pR, pA, p1, p0, xpop, xpush, xsm, xhas, xif, xic, xsw, xai, xal, xhi, xhv, xrf, xret, xrtl, xrtf, xrtd, xrta, xrtv, xfit, xnew, cond_true, cond_false, f40, f41, f42, f43, List.length_cons, List.length_nil, Nat.reduceAdd, Nat.reduceSub, Nat.reduceMul, Nat.reduceBEq, List.map_cons, List.map_nil, List.headD_cons, List.getElem?_cons_zero, List.getElem?_cons_succ, List.set_cons_zero, List.set_cons_succ]
          try simp (disch := omega) only [nI_add, n_and, n_or, n_xor, n_i31, nI_leI, nI_ltI, n_e0, n_eq, n_m1e, n_l0, n_g0, n_p0, n_q0, n_cl, n_in, n_sub, n_shr, n_shl, n_div, bI_0, n_01, n_11, bI_or, not_false_eq_true, forall_const, not_true_eq_false, false_imp_iff, true_imp_iff]
          exact ih (k + 1) _ _ (by omega) hq
      refine hK 1 _ _ _ _ _ _ _ _ rfl ?_
      dsimp only [k_M_edge_1, hN1, hB, hM1, hM, wpI, xop, xcall, xli, xlj, xlf, xld, xla, xlg, xst, xst2, xc1, pI, pJ, pF, pD, pR, pA, p1, p0, xpop, xpush, xsm, xhas, xif, xic, xsw, xai, xal, xhi, xhv, xrf, xret, xrtl, xrtf, xrtd, xrta, xrtv, xfit, xnew, cond_true, cond_false, f40, f41, f42, f43, List.length_cons, List.length_nil, Nat.reduceAdd, Nat.reduceSub, Nat.reduceMul, Nat.reduceBEq, List.map_cons, List.map_nil, List.headD_cons, List.getElem?_cons_zero, List.getElem?_cons_succ, List.set_cons_zero, List.set_cons_succ]
      try simp (disch := first | omega | (simp only [List.length_set]; omega)) only [nI_add, n_and, n_or, n_xor, n_i31, nI_leI, nI_ltI, n_e0, n_eq, n_m1e, n_l0, n_g0, n_p0, n_q0, n_cl, n_in, n_sub, n_shr, n_shl, n_div, bI_0, n_01, n_11, bI_or, not_false_eq_true, forall_const, not_true_eq_false, false_imp_iff, true_imp_iff, List.length_map, List.length_set, hN, nL_u, gs_eq, gs_ne, nI_set, Nat.reduceLT, true_and, and_true, pk_mul]
      refine br_f (by omega) ?_
      refine ⟨fun y => ?_, fun y => ?_⟩
      · subst y
        refine hK 2 _ _ _ _ _ _ _ _ rfl ?_
        dsimp only [k_M_edge_2, hN1, hB, hM1, hM, wpI, xop, xcall, xli, xlj, xlf, xld, xla, xlg, xst, xst2, xc1, pI, pJ, pF, pD, pR, pA, p1, p0, xpop, xpush, xsm, xhas, xif, xic, xsw, xai, xal, xhi, xhv, xrf, xret, xrtl, xrtf, xrtd, xrta, xrtv, xfit, xnew, cond_true, cond_false, f40, f41, f42, f43, List.length_cons, List.length_nil, Nat.reduceAdd, Nat.reduceSub, Nat.reduceMul, Nat.reduceBEq, List.map_cons, List.map_nil, List.headD_cons, List.getElem?_cons_zero, List.getElem?_cons_succ, List.set_cons_zero, List.set_cons_succ]
        exact go3
      · obtain rfl := b_nf y
        exact go3
  refine hK 0 _ _ _ _ _ _ _ _ rfl ?_
  dsimp only [k_M_edge_0, hN1, hB, hM1, hM, wpI, xop, xcall, xli, xlj, xlf, xld, xla, xlg, xst, xst2, xc1, pI, pJ, pF, pD, pR, pA, p1, p0, xpop, xpush, xsm, xhas, xif, xic, xsw, xai, xal, xhi, xhv, xrf, xret, xrtl, xrtf, xrtd, xrta, xrtv, xfit, xnew, cond_true, cond_false, f40, f41, f42, f43, List.length_cons, List.length_nil, Nat.reduceAdd, Nat.reduceSub, Nat.reduceMul, Nat.reduceBEq, List.map_cons, List.map_nil, List.headD_cons, List.getElem?_cons_zero, List.getElem?_cons_succ, List.set_cons_zero, List.set_cons_succ]
  exact loop (5 - r) 0 (-1) _ (by omega) hq
def moM (N : List Nat) (r : Nat) : Nat → Nat → Nat → Nat
  | 0, _, s => s
  | j + 1, b, s => moM N r j (b + 1) (if mrsN N (N.getD 0 0) (N.getD 1 0) r b = 0 then b else s)
set_option maxRecDepth 100000 in
set_option maxHeartbeats 4000000 in
theorem ev_M_mostIn (d r : Nat) (z : Nat → xC) (N : List Nat) (vs : List Value) (g : xH) (ok : stM N) (hr : r < 5) :
    Ev xT (d + 5) N_M_mostIn [.ref 7, .int (nI r)] (hM1 z N vs g) (Rt (some (.int (nI (moM N r 3 1 0)))) (hM1 z N vs g)) NX := by
  refine Ev_intro t_M_mostIn (Nat.le_of_ble_eq_true rfl) ?_
  intro Q X hQ hX K hK
  show K 0 [some (.ref 7), some (.int (nI r)), none, none] [] _ 0 0
  obtain ⟨hN, h0, h1, h6, h6', h7, h8⟩ := ok
  have hq := hQ _ _ ⟨rfl, rfl⟩
  have loop : ∀ (j b s : Nat), b + j = 4 → Q (some (.int (nI (moM N r j b s)))) (hM1 z N vs g) → K 1 [some (.ref 7), some (.int (nI r)), some (.int (nI s)), some (.int (nI b))] [] (hM1 z N vs g) 0 0 := by
    intro j
    induction j with
    | zero =>
      intro b s hb hq
      obtain rfl : b = 4 := by omega
      rw [moM] at hq
      refine hK 1 _ _ _ _ _ _ _ _ rfl ?_
      dsimp only [k_M_mostIn_1, hN1, hB, hM1, hM, wpI, xop, xcall, xli, xlj, xlf, xld, xla, xlg, xst, xst2, xc1, pI, pJ, pF, pD, pR, pA, p1, p0, xpop, xpush, xsm, xhas, xif, xic, xsw, xai, xal, xhi, xhv, xrf, xret, xrtl, xrtf, xrtd, xrta, xrtv, xfit, xnew, cond_true, cond_false, f40, f41, f42, f43, List.length_cons, List.length_nil, Nat.reduceAdd, Nat.reduceSub, Nat.reduceMul, Nat.reduceBEq, List.map_cons, List.map_nil, List.headD_cons, List.getElem?_cons_zero, List.getElem?_cons_succ, List.set_cons_zero, List.set_cons_succ]
      refine br_t (by decide) ?_
      refine hK 4 _ _ _ _ _ _ _ _ rfl ?_
      dsimp only [k_M_mostIn_4, hN1, hB, hM1, hM, wpI, xop, xcall, xli, xlj, xlf, xld, xla, xlg, xst, xst2, xc1, pI, pJ, pF, pD, pR, pA, p1, p0, xpop, xpush, xsm, xhas, xif, xic, xsw, xai, xal, xhi, xhv, xrf, xret, xrtl, xrtf, xrtd, xrta, xrtv, xfit, xnew, cond_true, cond_false, f40, f41, f42, f43, List.length_cons, List.length_nil, Nat.reduceAdd, Nat.reduceSub, Nat.reduceMul, Nat.reduceBEq, List.map_cons, List.map_nil, List.headD_cons, List.getElem?_cons_zero, List.getElem?_cons_succ, List.set_cons_zero, List.set_cons_succ]
      first | exact hq | exact ⟨Nat.le_refl _, hq⟩ | exact ⟨Nat.le_refl _, Nat.le_refl _, hq⟩ | exact ⟨Or.inl rfl, Nat.le_refl _, Nat.le_refl _, hq⟩ | exact ⟨Or.inr rfl, Nat.le_refl _, Nat.le_refl _, hq⟩
    | succ j ih =>
      intro b s hb hq
      rw [moM] at hq
      have hz := mrs_lt N (N.getD 0 0) (N.getD 1 0) r b
      refine hK 1 _ _ _ _ _ _ _ _ rfl ?_
      dsimp only [k_M_mostIn_1, hN1, hB, hM1, hM, wpI, xop, xcall, xli, xlj, xlf, xld, xla, xlg, xst, xst2, xc1, pI, pJ, pF, pD, pR, pA, p1, p0, xpop, xpush, xsm, xhas, xif, xic, xsw, xai, xal, xhi, xhv, xrf, xret, xrtl, xrtf, xrtd, xrta, xrtv, xfit, xnew, cond_true, cond_false, f40, f41, f42, f43, List.length_cons, List.length_nil, Nat.reduceAdd, Nat.reduceSub, Nat.reduceMul, Nat.reduceBEq, List.map_cons, List.map_nil, List.headD_cons, List.getElem?_cons_zero, List.getElem?_cons_succ, List.set_cons_zero, List.set_cons_succ]
      try simp (disch := first | omega | (simp only [List.length_set]; omega)) only [nI_add, n_and, n_or, n_xor, n_i31, nI_leI, nI_ltI, n_e0, n_eq, n_m1e, n_l0, n_g0, n_p0, n_q0, n_cl, n_in, n_sub, n_shr, n_shl, n_div, bI_0, n_01, n_11, bI_or, not_false_eq_true, forall_const, not_true_eq_false, false_imp_iff, true_imp_iff, List.length_map, List.length_set, hN, nL_u, gs_eq, gs_ne, nI_set, Nat.reduceLT, true_and, and_true, pk_mul]
      refine br_f (by omega) ?_
      refine Ev_use (ev_M_reason _ _ _ r b z N _ _ hN h6' h7 h0 h1 hr (by omega)) ?_
      dsimp only [hN1, hB, hM1, hM, wpI, xop, xcall, xli, xlj, xlf, xld, xla, xlg, xst, xst2, xc1, pI, pJ, pF, pD, pR, pA, p1, p0, xpop, xpush, xsm, xhas, xif, xic, xsw, xai, xal, xhi, xhv, xrf, xret, xrtl, xrtf, xrtd, xrta, xrtv, xfit, xnew, cond_true, cond_false, f40, f41, f42, f43, List.length_cons, List.length_nil, Nat.reduceAdd, Nat.reduceSub, Nat.reduceMul, Nat.reduceBEq, List.map_cons, List.map_nil, List.headD_cons, List.getElem?_cons_zero, List.getElem?_cons_succ, List.set_cons_zero, List.set_cons_succ]
      try simp (disch := first | omega | (simp only [List.length_set]; omega)) only [nI_add, n_and, n_or, n_xor, n_i31, nI_leI, nI_ltI, n_e0, n_eq, n_m1e, n_l0, n_g0, n_p0, n_q0, n_cl, n_in, n_sub, n_shr, n_shl, n_div, bI_0, n_01, n_11, bI_or, not_false_eq_true, forall_const, not_true_eq_false, false_imp_iff, true_imp_iff, List.length_map, List.length_set, hN, nL_u, gs_eq, gs_ne, nI_set, Nat.reduceLT, true_and, and_true, pk_mul]
      refine ⟨fun y => ?_, fun y => ?_⟩
      · rw [if_neg y] at hq
        refine hK 2 _ _ _ _ _ _ _ _ rfl ?_
        dsimp only [k_M_mostIn_2, hN1, hB, hM1, hM, wpI, xop, xcall, xli, xlj, xlf, xld, xla, xlg, xst, xst2, xc1, pI, pJ, pF, pD, pR, pA, p1, p0, xpop, xpush, xsm, xhas, xif, xic, xsw, xai, xal, xhi, xhv, xrf, xret, xrtl, xrtf, xrtd, xrta, xrtv, xfit, xnew, cond_true, cond_false, f40, f41, f42, f43, List.length_cons, List.length_nil, Nat.reduceAdd, Nat.reduceSub, Nat.reduceMul, Nat.reduceBEq, List.map_cons, List.map_nil, List.headD_cons, List.getElem?_cons_zero, List.getElem?_cons_succ, List.set_cons_zero, List.set_cons_succ]
        refine hK 3 _ _ _ _ _ _ _ _ rfl ?_
        dsimp only [k_M_mostIn_3, hN1, hB, hM1, hM, wpI, xop, xcall, xli, xlj, xlf, xld, xla, xlg, xst, xst2, xc1, pI, pJ, pF, pD, pR, pA, p1, p0, xpop, xpush, xsm, xhas, xif, xic, xsw, xai, xal, xhi, xhv, xrf, xret, xrtl, xrtf, xrtd, xrta, xrtv, xfit, xnew, cond_true, cond_false, f40, f41, f42, f43, List.length_cons, List.length_nil, Nat.reduceAdd, Nat.reduceSub, Nat.reduceMul, Nat.reduceBEq, List.map_cons, List.map_nil, List.headD_cons, List.getElem?_cons_zero, List.getElem?_cons_succ, List.set_cons_zero, List.set_cons_succ]
        try simp (disch := omega) only [nI_add, n_and, n_or, n_xor, n_i31, nI_leI, nI_ltI, n_e0, n_eq, n_m1e, n_l0, n_g0, n_p0, n_q0, n_cl, n_in, n_sub, n_shr, n_shl, n_div, bI_0, n_01, n_11, bI_or, not_false_eq_true, forall_const, not_true_eq_false, false_imp_iff, true_imp_iff]
        exact ih (b + 1) s (by omega) hq
      · rw [if_pos y] at hq
        refine hK 3 _ _ _ _ _ _ _ _ rfl ?_
        dsimp only [k_M_mostIn_3, hN1, hB, hM1, hM, wpI, xop, xcall, xli, xlj, xlf, xld, xla, xlg, xst, xst2, xc1, pI, pJ, pF, pD, pR, pA, p1, p0, xpop, xpush, xsm, xhas, xif, xic, xsw, xai, xal, xhi, xhv, xrf, xret, xrtl, xrtf, xrtd, xrta, xrtv, xfit, xnew, cond_true, cond_false, f40, f41, f42, f43, List.length_cons, List.length_nil, Nat.reduceAdd, Nat.reduceSub, Nat.reduceMul, Nat.reduceBEq, List.map_cons, List.map_nil, List.headD_cons, List.getElem?_cons_zero, List.getElem?_cons_succ, List.set_cons_zero, List.set_cons_succ]
        try simp (disch := omega) only [nI_add, n_and, n_or, n_xor, n_i31, nI_leI, nI_ltI, n_e0, n_eq, n_m1e, n_l0, n_g0, n_p0, n_q0, n_cl, n_in, n_sub, n_shr, n_shl, n_div, bI_0, n_01, n_11, bI_or, not_false_eq_true, forall_const, not_true_eq_false, false_imp_iff, true_imp_iff]
        exact ih (b + 1) b (by omega) hq
  refine hK 0 _ _ _ _ _ _ _ _ rfl ?_
  dsimp only [k_M_mostIn_0, hN1, hB, hM1, hM, wpI, xop, xcall, xli, xlj, xlf, xld, xla, xlg, xst, xst2, xc1, pI, pJ, pF, pD, pR, pA, p1, p0, xpop, xpush, xsm, xhas, xif, xic, xsw, xai, xal, xhi, xhv, xrf, xret, xrtl, xrtf, xrtd, xrta, xrtv, xfit, xnew, cond_true, cond_false, f40, f41, f42, f43, List.length_cons, List.length_nil, Nat.reduceAdd, Nat.reduceSub, Nat.reduceMul, Nat.reduceBEq, List.map_cons, List.map_nil, List.headD_cons, List.getElem?_cons_zero, List.getElem?_cons_succ, List.set_cons_zero, List.set_cons_succ]
  exact loop 3 1 0 rfl hq
def mroE (x y : Int32) : Nat := if inB x (nI 0) (nI 4) = true then (if inB y (nI 0) (nI 5) = true then 0 else 2) else 1
def mroR (N : List Nat) (r w : Nat) : Int32 := if w = 0 then nI (pop (bitsN (N.getD 0 0) r)) else if w = 1 then edM (N.getD 0 0) r true (5 - r) 0 (-1) else if w = 2 then edM (N.getD 0 0) r false (5 - r) 0 (-1) else if w = 3 then nI (moM N r 3 1 0) else if w = 4 then nI (N.getD (9 + r) 0) else nI (N.getD (14 + r) 0)
set_option maxRecDepth 100000 in
set_option maxHeartbeats 4000000 in
theorem ev_M_row (d : Nat) (x y : Int32) (z : Nat → xC) (N B K' T O R D : List Nat) (laid : Int32) (len st many at' thr : Nat) (isK : Bool) (g : xH) (ok : stM N) :
    Ev xT (d + 6) N_M_row [.ref 7, .int x, .int y] (hM z N B K' T O R D laid len st many at' thr isK g) (Mr (mroE x y) (some (.int (mroR N x.toNatClampNeg y.toNatClampNeg))) (hM z N B K' T O R D laid len st many at' 0 isK g) (hM z N B K' T O R D laid len st many at' (mroE x y) isK g)) NX := by
  refine Ev_intro t_M_row (Nat.le_of_ble_eq_true rfl) ?_
  intro Q X hQ hX K hK
  show K 0 [some (.ref 7), some (.int x), some (.int y)] [] _ 0 0
  have ok' := ok
  obtain ⟨hN, h0, h1, h6, h6', h7, h8⟩ := ok
  have hq1 := fun e => hQ _ _ (Or.inl ⟨e, rfl, rfl⟩)
  have hq0 := fun e => hQ _ _ (Or.inr ⟨e, rfl, rfl⟩)
  have go4 : ∀ e, e < 4 → e = mroE x y → K 3 [some (.ref 7), some (.int x), some (.int y)] [.int (nI e), .ref 7] (hM z N B K' T O R D laid len st many at' thr isK g) 0 0 := by
    intro e he ee
    rw [← ee] at hq0 hq1
    refine hK 3 _ _ _ _ _ _ _ _ rfl ?_
    dsimp only [k_M_row_3, hN1, hB, hM1, hM, wpI, xop, xcall, xli, xlj, xlf, xld, xla, xlg, xst, xst2, xc1, pI, pJ, pF, pD, pR, pA, p1, p0, xpop, xpush, xsm, xhas, xif, xic, xsw, xai, xal, xhi, xhv, xrf, xret, xrtl, xrtf, xrtd, xrta, xrtv, xfit, xnew, cond_true, cond_false, f40, f41, f42, f43, List.length_cons, List.length_nil, Nat.reduceAdd, Nat.reduceSub, Nat.reduceMul, Nat.reduceBEq, List.map_cons, List.map_nil, List.headD_cons, List.getElem?_cons_zero, List.getElem?_cons_succ, List.set_cons_zero, List.set_cons_succ]
    refine Ev_use (ev_M_goes _ e z N B K' T O R D laid len st many at' thr isK g (by omega)) ?_
    dsimp only [hN1, hB, hM1, hM, wpI, xop, xcall, xli, xlj, xlf, xld, xla, xlg, xst, xst2, xc1, pI, pJ, pF, pD, pR, pA, p1, p0, xpop, xpush, xsm, xhas, xif, xic, xsw, xai, xal, xhi, xhv, xrf, xret, xrtl, xrtf, xrtd, xrta, xrtv, xfit, xnew, cond_true, cond_false, f40, f41, f42, f43, List.length_cons, List.length_nil, Nat.reduceAdd, Nat.reduceSub, Nat.reduceMul, Nat.reduceBEq, List.map_cons, List.map_nil, List.headD_cons, List.getElem?_cons_zero, List.getElem?_cons_succ, List.set_cons_zero, List.set_cons_succ]
    rw [bI_0]
    refine ⟨fun y1 => ?_, fun y1 => ?_⟩
    · have e0 := beq_iff_eq.mp (b_nf y1)
      subst e0
      have hq := hq1 rfl
      unfold mroE at ee
      by_cases i1 : inB x (nI 0) (nI 4) = true
      · rw [if_pos i1] at ee
        by_cases i2 : inB y (nI 0) (nI 5) = true
        · obtain ⟨r, hr, rfl⟩ := inB_of (by decide) i1
          obtain ⟨w, hw, rfl⟩ := inB_of (by decide) i2
          rw [n_cl (by omega), n_cl (by omega)] at hq
          unfold mroR at hq
          have f8 : ∀ lw : Bool, Q (some (.int (edM (N.getD 0 0) r lw (5 - r) 0 (-1)))) (hM z N B K' T O R D laid len st many at' 0 isK g) → K 8 [some (.ref 7), some (.int (nI r)), some (.int (nI w))] [.int (bI lw), .int (nI r), .ref 7] (hM z N B K' T O R D laid len st many at' 0 isK g) 0 0 := by
            intro lw hq
            refine hK 8 _ _ _ _ _ _ _ _ rfl ?_
            dsimp only [k_M_row_8, hN1, hB, hM1, hM, wpI, xop, xcall, xli, xlj, xlf, xld, xla, xlg, xst, xst2, xc1, pI, pJ, pF, pD, pR, pA, p1, p0, xpop, xpush, xsm, xhas, xif, xic, xsw, xai, xal, xhi, xhv, xrf, xret, xrtl, xrtf, xrtd, xrta, xrtv, xfit, xnew, cond_true, cond_false, f40, f41, f42, f43, List.length_cons, List.length_nil, Nat.reduceAdd, Nat.reduceSub, Nat.reduceMul, Nat.reduceBEq, List.map_cons, List.map_nil, List.headD_cons, List.getElem?_cons_zero, List.getElem?_cons_succ, List.set_cons_zero, List.set_cons_succ]
            refine Ev_use (ev_M_edge _ r lw z N _ _ hN h0 (by omega)) ?_
            dsimp only [hN1, hB, hM1, hM, wpI, xop, xcall, xli, xlj, xlf, xld, xla, xlg, xst, xst2, xc1, pI, pJ, pF, pD, pR, pA, p1, p0, xpop, xpush, xsm, xhas, xif, xic, xsw, xai, xal, xhi, xhv, xrf, xret, xrtl, xrtf, xrtd, xrta, xrtv, xfit, xnew, cond_true, cond_false, f40, f41, f42, f43, List.length_cons, List.length_nil, Nat.reduceAdd, Nat.reduceSub, Nat.reduceMul, Nat.reduceBEq, List.map_cons, List.map_nil, List.headD_cons, List.getElem?_cons_zero, List.getElem?_cons_succ, List.set_cons_zero, List.set_cons_succ]
            first | exact hq | exact ⟨Nat.le_refl _, hq⟩ | exact ⟨Nat.le_refl _, Nat.le_refl _, hq⟩ | exact ⟨Or.inl rfl, Nat.le_refl _, Nat.le_refl _, hq⟩ | exact ⟨Or.inr rfl, Nat.le_refl _, Nat.le_refl _, hq⟩
          have hz := mrs_lt N (N.getD 0 0) (N.getD 1 0)
          refine hK 4 _ _ _ _ _ _ _ _ rfl ?_
          dsimp only [k_M_row_4, hN1, hB, hM1, hM, wpI, xop, xcall, xli, xlj, xlf, xld, xla, xlg, xst, xst2, xc1, pI, pJ, pF, pD, pR, pA, p1, p0, xpop, xpush, xsm, xhas, xif, xic, xsw, xai, xal, xhi, xhv, xrf, xret, xrtl, xrtf, xrtd, xrta, xrtv, xfit, xnew, cond_true, cond_false, f40, f41, f42, f43, List.length_cons, List.length_nil, Nat.reduceAdd, Nat.reduceSub, Nat.reduceMul, Nat.reduceBEq, List.map_cons, List.map_nil, List.headD_cons, List.getElem?_cons_zero, List.getElem?_cons_succ, List.set_cons_zero, List.set_cons_succ, List.map]
          try simp (disch := first | omega | (simp only [List.length_set]; omega)) only [nI_add, n_and, n_or, n_xor, n_i31, nI_leI, nI_ltI, n_e0, n_eq, n_m1e, n_l0, n_g0, n_p0, n_q0, n_cl, n_in, n_sub, n_shr, n_shl, n_div, bI_0, n_01, n_11, bI_or, not_false_eq_true, forall_const, not_true_eq_false, false_imp_iff, true_imp_iff, List.length_map, List.length_set, hN, nL_u, gs_eq, gs_ne, nI_set, Nat.reduceLT, true_and, and_true, pk_mul]
          refine ⟨fun y => ?_, fun y0 => ⟨fun y => ?_, fun y1 => ⟨fun y => ?_, fun y2 => ⟨fun y => ?_, fun y3 => ⟨fun y => ?_, fun y4 => ?_⟩⟩⟩⟩⟩
          · rw [if_pos y] at hq
            refine hK 5 _ _ _ _ _ _ _ _ rfl ?_
            dsimp only [k_M_row_5, hN1, hB, hM1, hM, wpI, xop, xcall, xli, xlj, xlf, xld, xla, xlg, xst, xst2, xc1, pI, pJ, pF, pD, pR, pA, p1, p0, xpop, xpush, xsm, xhas, xif, xic, xsw, xai, xal, xhi, xhv, xrf, xret, xrtl, xrtf, xrtd, xrta, xrtv, xfit, xnew, cond_true, cond_false, f40, f41, f42, f43, List.length_cons, List.length_nil, Nat.reduceAdd, Nat.reduceSub, Nat.reduceMul, Nat.reduceBEq, List.map_cons, List.map_nil, List.headD_cons, List.getElem?_cons_zero, List.getElem?_cons_succ, List.set_cons_zero, List.set_cons_succ]
            try simp (disch := first | omega | (simp only [List.length_set]; omega)) only [nI_add, n_and, n_or, n_xor, n_i31, nI_leI, nI_ltI, n_e0, n_eq, n_m1e, n_l0, n_g0, n_p0, n_q0, n_cl, n_in, n_sub, n_shr, n_shl, n_div, bI_0, n_01, n_11, bI_or, not_false_eq_true, forall_const, not_true_eq_false, false_imp_iff, true_imp_iff, List.length_map, List.length_set, hN, nL_u, gs_eq, gs_ne, nI_set, Nat.reduceLT, true_and, and_true, pk_mul]
            refine Ev_use (ev_M_inRow _ _ r _ h0 (by omega)) ?_
            dsimp only [hN1, hB, hM1, hM, wpI, xop, xcall, xli, xlj, xlf, xld, xla, xlg, xst, xst2, xc1, pI, pJ, pF, pD, pR, pA, p1, p0, xpop, xpush, xsm, xhas, xif, xic, xsw, xai, xal, xhi, xhv, xrf, xret, xrtl, xrtf, xrtd, xrta, xrtv, xfit, xnew, cond_true, cond_false, f40, f41, f42, f43, List.length_cons, List.length_nil, Nat.reduceAdd, Nat.reduceSub, Nat.reduceMul, Nat.reduceBEq, List.map_cons, List.map_nil, List.headD_cons, List.getElem?_cons_zero, List.getElem?_cons_succ, List.set_cons_zero, List.set_cons_succ]
            first | exact hq | exact ⟨Nat.le_refl _, hq⟩ | exact ⟨Nat.le_refl _, Nat.le_refl _, hq⟩ | exact ⟨Or.inl rfl, Nat.le_refl _, Nat.le_refl _, hq⟩ | exact ⟨Or.inr rfl, Nat.le_refl _, Nat.le_refl _, hq⟩
          · rw [if_neg y0, if_pos y] at hq
            subst y
            refine hK 6 _ _ _ _ _ _ _ _ rfl ?_
            dsimp only [k_M_row_6, hN1, hB, hM1, hM, wpI, xop, xcall, xli, xlj, xlf, xld, xla, xlg, xst, xst2, xc1, pI, pJ, pF, pD, pR, pA, p1, p0, xpop, xpush, xsm, xhas, xif, xic, xsw, xai, xal, xhi, xhv, xrf, xret, xrtl, xrtf, xrtd, xrta, xrtv, xfit, xnew, cond_true, cond_false, f40, f41, f42, f43, List.length_cons, List.length_nil, Nat.reduceAdd, Nat.reduceSub, Nat.reduceMul, Nat.reduceBEq, List.map_cons, List.map_nil, List.headD_cons, List.getElem?_cons_zero, List.getElem?_cons_succ, List.set_cons_zero, List.set_cons_succ]
            refine ⟨fun y => absurd (by decide) y, fun _ => ?_⟩
            exact f8 true hq
          · rw [if_neg y0, if_neg y1, if_pos y] at hq
            subst y
            refine hK 6 _ _ _ _ _ _ _ _ rfl ?_
            dsimp only [k_M_row_6, hN1, hB, hM1, hM, wpI, xop, xcall, xli, xlj, xlf, xld, xla, xlg, xst, xst2, xc1, pI, pJ, pF, pD, pR, pA, p1, p0, xpop, xpush, xsm, xhas, xif, xic, xsw, xai, xal, xhi, xhv, xrf, xret, xrtl, xrtf, xrtd, xrta, xrtv, xfit, xnew, cond_true, cond_false, f40, f41, f42, f43, List.length_cons, List.length_nil, Nat.reduceAdd, Nat.reduceSub, Nat.reduceMul, Nat.reduceBEq, List.map_cons, List.map_nil, List.headD_cons, List.getElem?_cons_zero, List.getElem?_cons_succ, List.set_cons_zero, List.set_cons_succ]
            refine ⟨fun _ => ?_, fun y => absurd y (by decide)⟩
            refine hK 7 _ _ _ _ _ _ _ _ rfl ?_
            dsimp only [k_M_row_7, hN1, hB, hM1, hM, wpI, xop, xcall, xli, xlj, xlf, xld, xla, xlg, xst, xst2, xc1, pI, pJ, pF, pD, pR, pA, p1, p0, xpop, xpush, xsm, xhas, xif, xic, xsw, xai, xal, xhi, xhv, xrf, xret, xrtl, xrtf, xrtd, xrta, xrtv, xfit, xnew, cond_true, cond_false, f40, f41, f42, f43, List.length_cons, List.length_nil, Nat.reduceAdd, Nat.reduceSub, Nat.reduceMul, Nat.reduceBEq, List.map_cons, List.map_nil, List.headD_cons, List.getElem?_cons_zero, List.getElem?_cons_succ, List.set_cons_zero, List.set_cons_succ]
            exact f8 false hq
          · rw [if_neg y0, if_neg y1, if_neg y2, if_pos y] at hq
            refine hK 9 _ _ _ _ _ _ _ _ rfl ?_
            dsimp only [k_M_row_9, hN1, hB, hM1, hM, wpI, xop, xcall, xli, xlj, xlf, xld, xla, xlg, xst, xst2, xc1, pI, pJ, pF, pD, pR, pA, p1, p0, xpop, xpush, xsm, xhas, xif, xic, xsw, xai, xal, xhi, xhv, xrf, xret, xrtl, xrtf, xrtd, xrta, xrtv, xfit, xnew, cond_true, cond_false, f40, f41, f42, f43, List.length_cons, List.length_nil, Nat.reduceAdd, Nat.reduceSub, Nat.reduceMul, Nat.reduceBEq, List.map_cons, List.map_nil, List.headD_cons, List.getElem?_cons_zero, List.getElem?_cons_succ, List.set_cons_zero, List.set_cons_succ]
            refine Ev_use (ev_M_mostIn _ r z N _ _ ok' (by omega)) ?_
            dsimp only [hN1, hB, hM1, hM, wpI, xop, xcall, xli, xlj, xlf, xld, xla, xlg, xst, xst2, xc1, pI, pJ, pF, pD, pR, pA, p1, p0, xpop, xpush, xsm, xhas, xif, xic, xsw, xai, xal, xhi, xhv, xrf, xret, xrtl, xrtf, xrtd, xrta, xrtv, xfit, xnew, cond_true, cond_false, f40, f41, f42, f43, List.length_cons, List.length_nil, Nat.reduceAdd, Nat.reduceSub, Nat.reduceMul, Nat.reduceBEq, List.map_cons, List.map_nil, List.headD_cons, List.getElem?_cons_zero, List.getElem?_cons_succ, List.set_cons_zero, List.set_cons_succ]
            first | exact hq | exact ⟨Nat.le_refl _, hq⟩ | exact ⟨Nat.le_refl _, Nat.le_refl _, hq⟩ | exact ⟨Or.inl rfl, Nat.le_refl _, Nat.le_refl _, hq⟩ | exact ⟨Or.inr rfl, Nat.le_refl _, Nat.le_refl _, hq⟩
          · rw [if_neg y0, if_neg y1, if_neg y2, if_neg y3, if_pos y] at hq
            refine hK 10 _ _ _ _ _ _ _ _ rfl ?_
            dsimp only [k_M_row_10, hN1, hB, hM1, hM, wpI, xop, xcall, xli, xlj, xlf, xld, xla, xlg, xst, xst2, xc1, pI, pJ, pF, pD, pR, pA, p1, p0, xpop, xpush, xsm, xhas, xif, xic, xsw, xai, xal, xhi, xhv, xrf, xret, xrtl, xrtf, xrtd, xrta, xrtv, xfit, xnew, cond_true, cond_false, f40, f41, f42, f43, List.length_cons, List.length_nil, Nat.reduceAdd, Nat.reduceSub, Nat.reduceMul, Nat.reduceBEq, List.map_cons, List.map_nil, List.headD_cons, List.getElem?_cons_zero, List.getElem?_cons_succ, List.set_cons_zero, List.set_cons_succ]
            try simp (disch := first | omega | (simp only [List.length_set]; omega)) only [nI_add, n_and, n_or, n_xor, n_i31, nI_leI, nI_ltI, n_e0, n_eq, n_m1e, n_l0, n_g0, n_p0, n_q0, n_cl, n_in, n_sub, n_shr, n_shl, n_div, bI_0, n_01, n_11, bI_or, not_false_eq_true, forall_const, not_true_eq_false, false_imp_iff, true_imp_iff, List.length_map, List.length_set, hN, nL_u, gs_eq, gs_ne, nI_set, Nat.reduceLT, true_and, and_true, pk_mul]
            refine ⟨by omega, ?_⟩
            first | exact hq | exact ⟨Nat.le_refl _, hq⟩ | exact ⟨Nat.le_refl _, Nat.le_refl _, hq⟩ | exact ⟨Or.inl rfl, Nat.le_refl _, Nat.le_refl _, hq⟩ | exact ⟨Or.inr rfl, Nat.le_refl _, Nat.le_refl _, hq⟩
          · rw [if_neg y0, if_neg y1, if_neg y2, if_neg y3, if_neg y4] at hq
            refine hK 11 _ _ _ _ _ _ _ _ rfl ?_
            dsimp only [k_M_row_11, hN1, hB, hM1, hM, wpI, xop, xcall, xli, xlj, xlf, xld, xla, xlg, xst, xst2, xc1, pI, pJ, pF, pD, pR, pA, p1, p0, xpop, xpush, xsm, xhas, xif, xic, xsw, xai, xal, xhi, xhv, xrf, xret, xrtl, xrtf, xrtd, xrta, xrtv, xfit, xnew, cond_true, cond_false, f40, f41, f42, f43, List.length_cons, List.length_nil, Nat.reduceAdd, Nat.reduceSub, Nat.reduceMul, Nat.reduceBEq, List.map_cons, List.map_nil, List.headD_cons, List.getElem?_cons_zero, List.getElem?_cons_succ, List.set_cons_zero, List.set_cons_succ]
            try simp (disch := first | omega | (simp only [List.length_set]; omega)) only [nI_add, n_and, n_or, n_xor, n_i31, nI_leI, nI_ltI, n_e0, n_eq, n_m1e, n_l0, n_g0, n_p0, n_q0, n_cl, n_in, n_sub, n_shr, n_shl, n_div, bI_0, n_01, n_11, bI_or, not_false_eq_true, forall_const, not_true_eq_false, false_imp_iff, true_imp_iff, List.length_map, List.length_set, hN, nL_u, gs_eq, gs_ne, nI_set, Nat.reduceLT, true_and, and_true, pk_mul]
            refine ⟨by omega, ?_⟩
            first | exact hq | exact ⟨Nat.le_refl _, hq⟩ | exact ⟨Nat.le_refl _, Nat.le_refl _, hq⟩ | exact ⟨Or.inl rfl, Nat.le_refl _, Nat.le_refl _, hq⟩ | exact ⟨Or.inr rfl, Nat.le_refl _, Nat.le_refl _, hq⟩
        · rw [if_neg i2] at ee
          exact Nat.noConfusion ee
      · rw [if_neg i1] at ee
        exact Nat.noConfusion ee
    · have hq := hq0 (beq_eq_false_iff_ne.mp y1)
      first | exact hq | exact ⟨Nat.le_refl _, hq⟩ | exact ⟨Nat.le_refl _, Nat.le_refl _, hq⟩ | exact ⟨Or.inl rfl, Nat.le_refl _, Nat.le_refl _, hq⟩ | exact ⟨Or.inr rfl, Nat.le_refl _, Nat.le_refl _, hq⟩
  unfold mroE at go4
  refine hK 0 _ _ _ _ _ _ _ _ rfl ?_
  dsimp only [k_M_row_0, hN1, hB, hM1, hM, wpI, xop, xcall, xli, xlj, xlf, xld, xla, xlg, xst, xst2, xc1, pI, pJ, pF, pD, pR, pA, p1, p0, xpop, xpush, xsm, xhas, xif, xic, xsw, xai, xal, xhi, xhv, xrf, xret, xrtl, xrtf, xrtd, xrta, xrtv, xfit, xnew, cond_true, cond_false, f40, f41, f42, f43, List.length_cons, List.length_nil, Nat.reduceAdd, Nat.reduceSub, Nat.reduceMul, Nat.reduceBEq, List.map_cons, List.map_nil, List.headD_cons, List.getElem?_cons_zero, List.getElem?_cons_succ, List.set_cons_zero, List.set_cons_succ]
  refine Ev_use (ev_M_isRow _ x _) ?_
  dsimp only [hN1, hB, hM1, hM, wpI, xop, xcall, xli, xlj, xlf, xld, xla, xlg, xst, xst2, xc1, pI, pJ, pF, pD, pR, pA, p1, p0, xpop, xpush, xsm, xhas, xif, xic, xsw, xai, xal, xhi, xhv, xrf, xret, xrtl, xrtf, xrtd, xrta, xrtv, xfit, xnew, cond_true, cond_false, f40, f41, f42, f43, List.length_cons, List.length_nil, Nat.reduceAdd, Nat.reduceSub, Nat.reduceMul, Nat.reduceBEq, List.map_cons, List.map_nil, List.headD_cons, List.getElem?_cons_zero, List.getElem?_cons_succ, List.set_cons_zero, List.set_cons_succ]
  rw [bI_0]
  refine ⟨fun y1 => ?_, fun y1 => ?_⟩
  · rw [if_pos (b_nf y1)] at go4
    refine hK 1 _ _ _ _ _ _ _ _ rfl ?_
    dsimp only [k_M_row_1, hN1, hB, hM1, hM, wpI, xop, xcall, xli, xlj, xlf, xld, xla, xlg, xst, xst2, xc1, pI, pJ, pF, pD, pR, pA, p1, p0, xpop, xpush, xsm, xhas, xif, xic, xsw, xai, xal, xhi, xhv, xrf, xret, xrtl, xrtf, xrtd, xrta, xrtv, xfit, xnew, cond_true, cond_false, f40, f41, f42, f43, List.length_cons, List.length_nil, Nat.reduceAdd, Nat.reduceSub, Nat.reduceMul, Nat.reduceBEq, List.map_cons, List.map_nil, List.headD_cons, List.getElem?_cons_zero, List.getElem?_cons_succ, List.set_cons_zero, List.set_cons_succ]
    refine Ev_use (ev_M_in _ y _ _ _) ?_
    dsimp only [hN1, hB, hM1, hM, wpI, xop, xcall, xli, xlj, xlf, xld, xla, xlg, xst, xst2, xc1, pI, pJ, pF, pD, pR, pA, p1, p0, xpop, xpush, xsm, xhas, xif, xic, xsw, xai, xal, xhi, xhv, xrf, xret, xrtl, xrtf, xrtd, xrta, xrtv, xfit, xnew, cond_true, cond_false, f40, f41, f42, f43, List.length_cons, List.length_nil, Nat.reduceAdd, Nat.reduceSub, Nat.reduceMul, Nat.reduceBEq, List.map_cons, List.map_nil, List.headD_cons, List.getElem?_cons_zero, List.getElem?_cons_succ, List.set_cons_zero, List.set_cons_succ]
    rw [bI_0]
    refine ⟨fun y2 => ?_, fun y2 => ?_⟩
    · rw [if_neg (by rw [y2]; decide)] at go4
      refine hK 2 _ _ _ _ _ _ _ _ rfl ?_
      dsimp only [k_M_row_2, hN1, hB, hM1, hM, wpI, xop, xcall, xli, xlj, xlf, xld, xla, xlg, xst, xst2, xc1, pI, pJ, pF, pD, pR, pA, p1, p0, xpop, xpush, xsm, xhas, xif, xic, xsw, xai, xal, xhi, xhv, xrf, xret, xrtl, xrtf, xrtd, xrta, xrtv, xfit, xnew, cond_true, cond_false, f40, f41, f42, f43, List.length_cons, List.length_nil, Nat.reduceAdd, Nat.reduceSub, Nat.reduceMul, Nat.reduceBEq, List.map_cons, List.map_nil, List.headD_cons, List.getElem?_cons_zero, List.getElem?_cons_succ, List.set_cons_zero, List.set_cons_succ]
      exact go4 2 (by decide) rfl
    · rw [if_pos (b_nf y2)] at go4
      exact go4 0 (by decide) rfl
  · rw [if_neg (by rw [y1]; decide)] at go4
    exact go4 1 (by decide) rfl
def msgE (x : Int32) : Nat := if inB x (nI 0) (nI 2) = true then 0 else 1
set_option maxRecDepth 100000 in
set_option maxHeartbeats 4000000 in
theorem ev_M_setting (d : Nat) (x : Int32) (z : Nat → xC) (N B K' T O R D : List Nat) (laid : Int32) (len st many at' thr : Nat) (isK : Bool) (g : xH) (hN : N.length = 19) :
    Ev xT (d + 2) N_M_setting [.ref 7, .int x] (hM z N B K' T O R D laid len st many at' thr isK g) (Mr (msgE x) (some (.int (nI (N.getD (6 + x.toNatClampNeg) 0)))) (hM z N B K' T O R D laid len st many at' 0 isK g) (hM z N B K' T O R D laid len st many at' (msgE x) isK g)) NX := by
  refine Ev_intro t_M_setting (Nat.le_of_ble_eq_true rfl) ?_
  intro Q X hQ hX K hK
  show K 0 [some (.ref 7), some (.int x)] [] _ 0 0
  have hq1 := fun e => hQ _ _ (Or.inl ⟨e, rfl, rfl⟩)
  have hq0 := fun e => hQ _ _ (Or.inr ⟨e, rfl, rfl⟩)
  have go4 : ∀ e, e < 4 → e = msgE x → K 2 [some (.ref 7), some (.int x)] [.int (nI e), .ref 7] (hM z N B K' T O R D laid len st many at' thr isK g) 0 0 := by
    intro e he ee
    rw [← ee] at hq0 hq1
    refine hK 2 _ _ _ _ _ _ _ _ rfl ?_
    dsimp only [k_M_setting_2, hN1, hB, hM1, hM, wpI, xop, xcall, xli, xlj, xlf, xld, xla, xlg, xst, xst2, xc1, pI, pJ, pF, pD, pR, pA, p1, p0, xpop, xpush, xsm, xhas, xif, xic, xsw, xai, xal, xhi, xhv, xrf, xret, xrtl, xrtf, xrtd, xrta, xrtv, xfit, xnew, cond_true, cond_false, f40, f41, f42, f43, List.length_cons, List.length_nil, Nat.reduceAdd, Nat.reduceSub, Nat.reduceMul, Nat.reduceBEq, List.map_cons, List.map_nil, List.headD_cons, List.getElem?_cons_zero, List.getElem?_cons_succ, List.set_cons_zero, List.set_cons_succ]
    refine Ev_use (ev_M_goes _ e z N B K' T O R D laid len st many at' thr isK g (by omega)) ?_
    dsimp only [hN1, hB, hM1, hM, wpI, xop, xcall, xli, xlj, xlf, xld, xla, xlg, xst, xst2, xc1, pI, pJ, pF, pD, pR, pA, p1, p0, xpop, xpush, xsm, xhas, xif, xic, xsw, xai, xal, xhi, xhv, xrf, xret, xrtl, xrtf, xrtd, xrta, xrtv, xfit, xnew, cond_true, cond_false, f40, f41, f42, f43, List.length_cons, List.length_nil, Nat.reduceAdd, Nat.reduceSub, Nat.reduceMul, Nat.reduceBEq, List.map_cons, List.map_nil, List.headD_cons, List.getElem?_cons_zero, List.getElem?_cons_succ, List.set_cons_zero, List.set_cons_succ]
    rw [bI_0]
    refine ⟨fun y1 => ?_, fun y1 => ?_⟩
    · have hq := hq0 (beq_eq_false_iff_ne.mp y1)
      refine hK 3 _ _ _ _ _ _ _ _ rfl ?_
      dsimp only [k_M_setting_3, hN1, hB, hM1, hM, wpI, xop, xcall, xli, xlj, xlf, xld, xla, xlg, xst, xst2, xc1, pI, pJ, pF, pD, pR, pA, p1, p0, xpop, xpush, xsm, xhas, xif, xic, xsw, xai, xal, xhi, xhv, xrf, xret, xrtl, xrtf, xrtd, xrta, xrtv, xfit, xnew, cond_true, cond_false, f40, f41, f42, f43, List.length_cons, List.length_nil, Nat.reduceAdd, Nat.reduceSub, Nat.reduceMul, Nat.reduceBEq, List.map_cons, List.map_nil, List.headD_cons, List.getElem?_cons_zero, List.getElem?_cons_succ, List.set_cons_zero, List.set_cons_succ]
      refine hK 4 _ _ _ _ _ _ _ _ rfl ?_
      dsimp only [k_M_setting_4, hN1, hB, hM1, hM, wpI, xop, xcall, xli, xlj, xlf, xld, xla, xlg, xst, xst2, xc1, pI, pJ, pF, pD, pR, pA, p1, p0, xpop, xpush, xsm, xhas, xif, xic, xsw, xai, xal, xhi, xhv, xrf, xret, xrtl, xrtf, xrtd, xrta, xrtv, xfit, xnew, cond_true, cond_false, f40, f41, f42, f43, List.length_cons, List.length_nil, Nat.reduceAdd, Nat.reduceSub, Nat.reduceMul, Nat.reduceBEq, List.map_cons, List.map_nil, List.headD_cons, List.getElem?_cons_zero, List.getElem?_cons_succ, List.set_cons_zero, List.set_cons_succ]
      first | exact hq | exact ⟨Nat.le_refl _, hq⟩ | exact ⟨Nat.le_refl _, Nat.le_refl _, hq⟩ | exact ⟨Or.inl rfl, Nat.le_refl _, Nat.le_refl _, hq⟩ | exact ⟨Or.inr rfl, Nat.le_refl _, Nat.le_refl _, hq⟩
    · have e0 := beq_iff_eq.mp (b_nf y1)
      subst e0
      have hq := hq1 rfl
      unfold msgE at ee
      by_cases i1 : inB x (nI 0) (nI 2) = true
      · obtain ⟨r, hr, rfl⟩ := inB_of (by decide) i1
        rw [n_cl (by omega)] at hq
        try simp (disch := first | omega | (simp only [List.length_set]; omega)) only [nI_add, n_and, n_or, n_xor, n_i31, nI_leI, nI_ltI, n_e0, n_eq, n_m1e, n_l0, n_g0, n_p0, n_q0, n_cl, n_in, n_sub, n_shr, n_shl, n_div, bI_0, n_01, n_11, bI_or, not_false_eq_true, forall_const, not_true_eq_false, false_imp_iff, true_imp_iff, List.length_map, List.length_set, hN, nL_u, gs_eq, gs_ne, nI_set, Nat.reduceLT, true_and, and_true, pk_mul]
        refine ⟨by omega, ?_⟩
        refine hK 4 _ _ _ _ _ _ _ _ rfl ?_
        dsimp only [k_M_setting_4, hN1, hB, hM1, hM, wpI, xop, xcall, xli, xlj, xlf, xld, xla, xlg, xst, xst2, xc1, pI, pJ, pF, pD, pR, pA, p1, p0, xpop, xpush, xsm, xhas, xif, xic, xsw, xai, xal, xhi, xhv, xrf, xret, xrtl, xrtf, xrtd, xrta, xrtv, xfit, xnew, cond_true, cond_false, f40, f41, f42, f43, List.length_cons, List.length_nil, Nat.reduceAdd, Nat.reduceSub, Nat.reduceMul, Nat.reduceBEq, List.map_cons, List.map_nil, List.headD_cons, List.getElem?_cons_zero, List.getElem?_cons_succ, List.set_cons_zero, List.set_cons_succ]
        first | exact hq | exact ⟨Nat.le_refl _, hq⟩ | exact ⟨Nat.le_refl _, Nat.le_refl _, hq⟩ | exact ⟨Or.inl rfl, Nat.le_refl _, Nat.le_refl _, hq⟩ | exact ⟨Or.inr rfl, Nat.le_refl _, Nat.le_refl _, hq⟩
      · rw [if_neg i1] at ee
        exact Nat.noConfusion ee
  unfold msgE at go4
  refine hK 0 _ _ _ _ _ _ _ _ rfl ?_
  dsimp only [k_M_setting_0, hN1, hB, hM1, hM, wpI, xop, xcall, xli, xlj, xlf, xld, xla, xlg, xst, xst2, xc1, pI, pJ, pF, pD, pR, pA, p1, p0, xpop, xpush, xsm, xhas, xif, xic, xsw, xai, xal, xhi, xhv, xrf, xret, xrtl, xrtf, xrtd, xrta, xrtv, xfit, xnew, cond_true, cond_false, f40, f41, f42, f43, List.length_cons, List.length_nil, Nat.reduceAdd, Nat.reduceSub, Nat.reduceMul, Nat.reduceBEq, List.map_cons, List.map_nil, List.headD_cons, List.getElem?_cons_zero, List.getElem?_cons_succ, List.set_cons_zero, List.set_cons_succ]
  refine Ev_use (ev_M_in _ x _ _ _) ?_
  dsimp only [hN1, hB, hM1, hM, wpI, xop, xcall, xli, xlj, xlf, xld, xla, xlg, xst, xst2, xc1, pI, pJ, pF, pD, pR, pA, p1, p0, xpop, xpush, xsm, xhas, xif, xic, xsw, xai, xal, xhi, xhv, xrf, xret, xrtl, xrtf, xrtd, xrta, xrtv, xfit, xnew, cond_true, cond_false, f40, f41, f42, f43, List.length_cons, List.length_nil, Nat.reduceAdd, Nat.reduceSub, Nat.reduceMul, Nat.reduceBEq, List.map_cons, List.map_nil, List.headD_cons, List.getElem?_cons_zero, List.getElem?_cons_succ, List.set_cons_zero, List.set_cons_succ]
  rw [bI_0]
  refine ⟨fun y1 => ?_, fun y1 => ?_⟩
  · rw [if_neg (by rw [y1]; decide)] at go4
    refine hK 1 _ _ _ _ _ _ _ _ rfl ?_
    dsimp only [k_M_setting_1, hN1, hB, hM1, hM, wpI, xop, xcall, xli, xlj, xlf, xld, xla, xlg, xst, xst2, xc1, pI, pJ, pF, pD, pR, pA, p1, p0, xpop, xpush, xsm, xhas, xif, xic, xsw, xai, xal, xhi, xhv, xrf, xret, xrtl, xrtf, xrtd, xrta, xrtv, xfit, xnew, cond_true, cond_false, f40, f41, f42, f43, List.length_cons, List.length_nil, Nat.reduceAdd, Nat.reduceSub, Nat.reduceMul, Nat.reduceBEq, List.map_cons, List.map_nil, List.headD_cons, List.getElem?_cons_zero, List.getElem?_cons_succ, List.set_cons_zero, List.set_cons_succ]
    exact go4 1 (by decide) rfl
  · rw [if_pos (b_nf y1)] at go4
    exact go4 0 (by decide) rfl
def mwyE (x y : Int32) : Nat := if inB x (nI 0) (nI 4) = true then (if inB y (nI 1) (nI 5) = true then 0 else 2) else 1
set_option maxRecDepth 100000 in
set_option maxHeartbeats 4000000 in
theorem ev_M_why (d : Nat) (x y : Int32) (z : Nat → xC) (N B K' T O R D : List Nat) (laid : Int32) (len st many at' thr : Nat) (isK : Bool) (g : xH) (ok : stM N) :
    Ev xT (d + 5) N_M_why [.ref 7, .int x, .int y] (hM z N B K' T O R D laid len st many at' thr isK g) (Mr (mwyE x y) (some (.int (nI (mrsN N (N.getD 0 0) (N.getD 1 0) x.toNatClampNeg y.toNatClampNeg)))) (hM z N B K' T O R D laid len st many at' 0 isK g) (hM z N B K' T O R D laid len st many at' (mwyE x y) isK g)) NX := by
  refine Ev_intro t_M_why (Nat.le_of_ble_eq_true rfl) ?_
  intro Q X hQ hX K hK
  show K 0 [some (.ref 7), some (.int x), some (.int y)] [] _ 0 0
  obtain ⟨hN, h0, h1, h6, h6', h7, h8⟩ := ok
  have hq1 := fun e => hQ _ _ (Or.inl ⟨e, rfl, rfl⟩)
  have hq0 := fun e => hQ _ _ (Or.inr ⟨e, rfl, rfl⟩)
  have go4 : ∀ e, e < 4 → e = mwyE x y → K 3 [some (.ref 7), some (.int x), some (.int y)] [.int (nI e), .ref 7] (hM z N B K' T O R D laid len st many at' thr isK g) 0 0 := by
    intro e he ee
    rw [← ee] at hq0 hq1
    refine hK 3 _ _ _ _ _ _ _ _ rfl ?_
    dsimp only [k_M_why_3, hN1, hB, hM1, hM, wpI, xop, xcall, xli, xlj, xlf, xld, xla, xlg, xst, xst2, xc1, pI, pJ, pF, pD, pR, pA, p1, p0, xpop, xpush, xsm, xhas, xif, xic, xsw, xai, xal, xhi, xhv, xrf, xret, xrtl, xrtf, xrtd, xrta, xrtv, xfit, xnew, cond_true, cond_false, f40, f41, f42, f43, List.length_cons, List.length_nil, Nat.reduceAdd, Nat.reduceSub, Nat.reduceMul, Nat.reduceBEq, List.map_cons, List.map_nil, List.headD_cons, List.getElem?_cons_zero, List.getElem?_cons_succ, List.set_cons_zero, List.set_cons_succ]
    refine Ev_use (ev_M_goes _ e z N B K' T O R D laid len st many at' thr isK g (by omega)) ?_
    dsimp only [hN1, hB, hM1, hM, wpI, xop, xcall, xli, xlj, xlf, xld, xla, xlg, xst, xst2, xc1, pI, pJ, pF, pD, pR, pA, p1, p0, xpop, xpush, xsm, xhas, xif, xic, xsw, xai, xal, xhi, xhv, xrf, xret, xrtl, xrtf, xrtd, xrta, xrtv, xfit, xnew, cond_true, cond_false, f40, f41, f42, f43, List.length_cons, List.length_nil, Nat.reduceAdd, Nat.reduceSub, Nat.reduceMul, Nat.reduceBEq, List.map_cons, List.map_nil, List.headD_cons, List.getElem?_cons_zero, List.getElem?_cons_succ, List.set_cons_zero, List.set_cons_succ]
    rw [bI_0]
    refine ⟨fun y1 => ?_, fun y1 => ?_⟩
    · have hq := hq0 (beq_eq_false_iff_ne.mp y1)
      refine hK 4 _ _ _ _ _ _ _ _ rfl ?_
      dsimp only [k_M_why_4, hN1, hB, hM1, hM, wpI, xop, xcall, xli, xlj, xlf, xld, xla, xlg, xst, xst2, xc1, pI, pJ, pF, pD, pR, pA, p1, p0, xpop, xpush, xsm, xhas, xif, xic, xsw, xai, xal, xhi, xhv, xrf, xret, xrtl, xrtf, xrtd, xrta, xrtv, xfit, xnew, cond_true, cond_false, f40, f41, f42, f43, List.length_cons, List.length_nil, Nat.reduceAdd, Nat.reduceSub, Nat.reduceMul, Nat.reduceBEq, List.map_cons, List.map_nil, List.headD_cons, List.getElem?_cons_zero, List.getElem?_cons_succ, List.set_cons_zero, List.set_cons_succ]
      refine hK 5 _ _ _ _ _ _ _ _ rfl ?_
      dsimp only [k_M_why_5, hN1, hB, hM1, hM, wpI, xop, xcall, xli, xlj, xlf, xld, xla, xlg, xst, xst2, xc1, pI, pJ, pF, pD, pR, pA, p1, p0, xpop, xpush, xsm, xhas, xif, xic, xsw, xai, xal, xhi, xhv, xrf, xret, xrtl, xrtf, xrtd, xrta, xrtv, xfit, xnew, cond_true, cond_false, f40, f41, f42, f43, List.length_cons, List.length_nil, Nat.reduceAdd, Nat.reduceSub, Nat.reduceMul, Nat.reduceBEq, List.map_cons, List.map_nil, List.headD_cons, List.getElem?_cons_zero, List.getElem?_cons_succ, List.set_cons_zero, List.set_cons_succ]
      first | exact hq | exact ⟨Nat.le_refl _, hq⟩ | exact ⟨Nat.le_refl _, Nat.le_refl _, hq⟩ | exact ⟨Or.inl rfl, Nat.le_refl _, Nat.le_refl _, hq⟩ | exact ⟨Or.inr rfl, Nat.le_refl _, Nat.le_refl _, hq⟩
    · have e0 := beq_iff_eq.mp (b_nf y1)
      subst e0
      have hq := hq1 rfl
      unfold mwyE at ee
      by_cases i1 : inB x (nI 0) (nI 4) = true
      · rw [if_pos i1] at ee
        by_cases i2 : inB y (nI 1) (nI 5) = true
        · obtain ⟨r, hr, rfl⟩ := inB_of (by decide) i1
          obtain ⟨b, hb1, hb, rfl⟩ := inB_of1 (by decide) i2
          rw [n_cl (by omega), n_cl (by omega)] at hq
          try simp (disch := first | omega | (simp only [List.length_set]; omega)) only [nI_add, n_and, n_or, n_xor, n_i31, nI_leI, nI_ltI, n_e0, n_eq, n_m1e, n_l0, n_g0, n_p0, n_q0, n_cl, n_in, n_sub, n_shr, n_shl, n_div, bI_0, n_01, n_11, bI_or, not_false_eq_true, forall_const, not_true_eq_false, false_imp_iff, true_imp_iff, List.length_map, List.length_set, hN, nL_u, gs_eq, gs_ne, nI_set, Nat.reduceLT, true_and, and_true, pk_mul]
          refine Ev_use (ev_M_reason _ _ _ r b z N _ _ hN h6' h7 h0 h1 (by omega) (by omega)) ?_
          dsimp only [hN1, hB, hM1, hM, wpI, xop, xcall, xli, xlj, xlf, xld, xla, xlg, xst, xst2, xc1, pI, pJ, pF, pD, pR, pA, p1, p0, xpop, xpush, xsm, xhas, xif, xic, xsw, xai, xal, xhi, xhv, xrf, xret, xrtl, xrtf, xrtd, xrta, xrtv, xfit, xnew, cond_true, cond_false, f40, f41, f42, f43, List.length_cons, List.length_nil, Nat.reduceAdd, Nat.reduceSub, Nat.reduceMul, Nat.reduceBEq, List.map_cons, List.map_nil, List.headD_cons, List.getElem?_cons_zero, List.getElem?_cons_succ, List.set_cons_zero, List.set_cons_succ]
          refine hK 5 _ _ _ _ _ _ _ _ rfl ?_
          dsimp only [k_M_why_5, hN1, hB, hM1, hM, wpI, xop, xcall, xli, xlj, xlf, xld, xla, xlg, xst, xst2, xc1, pI, pJ, pF, pD, pR, pA, p1, p0, xpop, xpush, xsm, xhas, xif, xic, xsw, xai, xal, xhi, xhv, xrf, xret, xrtl, xrtf, xrtd, xrta, xrtv, xfit, xnew, cond_true, cond_false, f40, f41, f42, f43, List.length_cons, List.length_nil, Nat.reduceAdd, Nat.reduceSub, Nat.reduceMul, Nat.reduceBEq, List.map_cons, List.map_nil, List.headD_cons, List.getElem?_cons_zero, List.getElem?_cons_succ, List.set_cons_zero, List.set_cons_succ]
          first | exact hq | exact ⟨Nat.le_refl _, hq⟩ | exact ⟨Nat.le_refl _, Nat.le_refl _, hq⟩ | exact ⟨Or.inl rfl, Nat.le_refl _, Nat.le_refl _, hq⟩ | exact ⟨Or.inr rfl, Nat.le_refl _, Nat.le_refl _, hq⟩
        · rw [if_neg i2] at ee
          exact Nat.noConfusion ee
      · rw [if_neg i1] at ee
        exact Nat.noConfusion ee
  unfold mwyE at go4
  refine hK 0 _ _ _ _ _ _ _ _ rfl ?_
  dsimp only [k_M_why_0, hN1, hB, hM1, hM, wpI, xop, xcall, xli, xlj, xlf, xld, xla, xlg, xst, xst2, xc1, pI, pJ, pF, pD, pR, pA, p1, p0, xpop, xpush, xsm, xhas, xif, xic, xsw, xai, xal, xhi, xhv, xrf, xret, xrtl, xrtf, xrtd, xrta, xrtv, xfit, xnew, cond_true, cond_false, f40, f41, f42, f43, List.length_cons, List.length_nil, Nat.reduceAdd, Nat.reduceSub, Nat.reduceMul, Nat.reduceBEq, List.map_cons, List.map_nil, List.headD_cons, List.getElem?_cons_zero, List.getElem?_cons_succ, List.set_cons_zero, List.set_cons_succ]
  refine Ev_use (ev_M_isRow _ x _) ?_
  dsimp only [hN1, hB, hM1, hM, wpI, xop, xcall, xli, xlj, xlf, xld, xla, xlg, xst, xst2, xc1, pI, pJ, pF, pD, pR, pA, p1, p0, xpop, xpush, xsm, xhas, xif, xic, xsw, xai, xal, xhi, xhv, xrf, xret, xrtl, xrtf, xrtd, xrta, xrtv, xfit, xnew, cond_true, cond_false, f40, f41, f42, f43, List.length_cons, List.length_nil, Nat.reduceAdd, Nat.reduceSub, Nat.reduceMul, Nat.reduceBEq, List.map_cons, List.map_nil, List.headD_cons, List.getElem?_cons_zero, List.getElem?_cons_succ, List.set_cons_zero, List.set_cons_succ]
  rw [bI_0]
  refine ⟨fun y1 => ?_, fun y1 => ?_⟩
  · rw [if_pos (b_nf y1)] at go4
    refine hK 1 _ _ _ _ _ _ _ _ rfl ?_
    dsimp only [k_M_why_1, hN1, hB, hM1, hM, wpI, xop, xcall, xli, xlj, xlf, xld, xla, xlg, xst, xst2, xc1, pI, pJ, pF, pD, pR, pA, p1, p0, xpop, xpush, xsm, xhas, xif, xic, xsw, xai, xal, xhi, xhv, xrf, xret, xrtl, xrtf, xrtd, xrta, xrtv, xfit, xnew, cond_true, cond_false, f40, f41, f42, f43, List.length_cons, List.length_nil, Nat.reduceAdd, Nat.reduceSub, Nat.reduceMul, Nat.reduceBEq, List.map_cons, List.map_nil, List.headD_cons, List.getElem?_cons_zero, List.getElem?_cons_succ, List.set_cons_zero, List.set_cons_succ]
    refine Ev_use (ev_M_in _ y _ _ _) ?_
    dsimp only [hN1, hB, hM1, hM, wpI, xop, xcall, xli, xlj, xlf, xld, xla, xlg, xst, xst2, xc1, pI, pJ, pF, pD, pR, pA, p1, p0, xpop, xpush, xsm, xhas, xif, xic, xsw, xai, xal, xhi, xhv, xrf, xret, xrtl, xrtf, xrtd, xrta, xrtv, xfit, xnew, cond_true, cond_false, f40, f41, f42, f43, List.length_cons, List.length_nil, Nat.reduceAdd, Nat.reduceSub, Nat.reduceMul, Nat.reduceBEq, List.map_cons, List.map_nil, List.headD_cons, List.getElem?_cons_zero, List.getElem?_cons_succ, List.set_cons_zero, List.set_cons_succ]
    rw [bI_0]
    refine ⟨fun y2 => ?_, fun y2 => ?_⟩
    · rw [if_neg (by rw [y2]; decide)] at go4
      refine hK 2 _ _ _ _ _ _ _ _ rfl ?_
      dsimp only [k_M_why_2, hN1, hB, hM1, hM, wpI, xop, xcall, xli, xlj, xlf, xld, xla, xlg, xst, xst2, xc1, pI, pJ, pF, pD, pR, pA, p1, p0, xpop, xpush, xsm, xhas, xif, xic, xsw, xai, xal, xhi, xhv, xrf, xret, xrtl, xrtf, xrtd, xrta, xrtv, xfit, xnew, cond_true, cond_false, f40, f41, f42, f43, List.length_cons, List.length_nil, Nat.reduceAdd, Nat.reduceSub, Nat.reduceMul, Nat.reduceBEq, List.map_cons, List.map_nil, List.headD_cons, List.getElem?_cons_zero, List.getElem?_cons_succ, List.set_cons_zero, List.set_cons_succ]
      exact go4 2 (by decide) rfl
    · rw [if_pos (b_nf y2)] at go4
      exact go4 0 (by decide) rfl
  · rw [if_neg (by rw [y1]; decide)] at go4
    exact go4 1 (by decide) rfl
def mfaI (N : List Nat) (r b : Nat) : Int32 := if pop (bitsN (N.getD 0 0) r) < b then -1 else nI (pop (mrN (N.getD 0 0) (N.getD 1 0) r b) - pop (mfN (mrN (N.getD 0 0) (N.getD 1 0) r b)))
set_option maxRecDepth 100000 in
set_option maxHeartbeats 4000000 in
theorem ev_M_falls (d : Nat) (x y : Int32) (z : Nat → xC) (N B K' T O R D : List Nat) (laid : Int32) (len st many at' thr : Nat) (isK : Bool) (g : xH) (ok : stM N) :
    Ev xT (d + 5) N_M_falls [.ref 7, .int x, .int y] (hM z N B K' T O R D laid len st many at' thr isK g) (Mr (mwyE x y) (some (.int (mfaI N x.toNatClampNeg y.toNatClampNeg))) (hM z N B K' T O R D laid len st many at' 0 isK g) (hM z N B K' T O R D laid len st many at' (mwyE x y) isK g)) NX := by
  refine Ev_intro t_M_falls (Nat.le_of_ble_eq_true rfl) ?_
  intro Q X hQ hX K hK
  show K 0 [some (.ref 7), some (.int x), some (.int y), none] [] _ 0 0
  obtain ⟨hN, h0, h1, h6, h6', h7, h8⟩ := ok
  have hq1 := fun e => hQ _ _ (Or.inl ⟨e, rfl, rfl⟩)
  have hq0 := fun e => hQ _ _ (Or.inr ⟨e, rfl, rfl⟩)
  have go4 : ∀ e, e < 4 → e = mwyE x y → K 3 [some (.ref 7), some (.int x), some (.int y), none] [.int (nI e), .ref 7] (hM z N B K' T O R D laid len st many at' thr isK g) 0 0 := by
    intro e he ee
    rw [← ee] at hq0 hq1
    refine hK 3 _ _ _ _ _ _ _ _ rfl ?_
    dsimp only [k_M_falls_3, hN1, hB, hM1, hM, wpI, xop, xcall, xli, xlj, xlf, xld, xla, xlg, xst, xst2, xc1, pI, pJ, pF, pD, pR, pA, p1, p0, xpop, xpush, xsm, xhas, xif, xic, xsw, xai, xal, xhi, xhv, xrf, xret, xrtl, xrtf, xrtd, xrta, xrtv, xfit, xnew, cond_true, cond_false, f40, f41, f42, f43, List.length_cons, List.length_nil, Nat.reduceAdd, Nat.reduceSub, Nat.reduceMul, Nat.reduceBEq, List.map_cons, List.map_nil, List.headD_cons, List.getElem?_cons_zero, List.getElem?_cons_succ, List.set_cons_zero, List.set_cons_succ]
    refine Ev_use (ev_M_goes _ e z N B K' T O R D laid len st many at' thr isK g (by omega)) ?_
    dsimp only [hN1, hB, hM1, hM, wpI, xop, xcall, xli, xlj, xlf, xld, xla, xlg, xst, xst2, xc1, pI, pJ, pF, pD, pR, pA, p1, p0, xpop, xpush, xsm, xhas, xif, xic, xsw, xai, xal, xhi, xhv, xrf, xret, xrtl, xrtf, xrtd, xrta, xrtv, xfit, xnew, cond_true, cond_false, f40, f41, f42, f43, List.length_cons, List.length_nil, Nat.reduceAdd, Nat.reduceSub, Nat.reduceMul, Nat.reduceBEq, List.map_cons, List.map_nil, List.headD_cons, List.getElem?_cons_zero, List.getElem?_cons_succ, List.set_cons_zero, List.set_cons_succ]
    rw [bI_0]
    refine ⟨fun y1 => ?_, fun y1 => ?_⟩
    · have e0 := beq_iff_eq.mp (b_nf y1)
      subst e0
      have hq := hq1 rfl
      unfold mwyE at ee
      by_cases i1 : inB x (nI 0) (nI 4) = true
      · rw [if_pos i1] at ee
        by_cases i2 : inB y (nI 1) (nI 5) = true
        · obtain ⟨r, hr, rfl⟩ := inB_of (by decide) i1
          obtain ⟨b, hb1, hb, rfl⟩ := inB_of1 (by decide) i2
          rw [n_cl (by omega), n_cl (by omega)] at hq
          unfold mfaI at hq
          have hp := pop_le (bitsN_lt (r := r) h0)
          have hl := mrN_lt (t := N.getD 1 0) (r := r) (b := b) h0
          have hpm := pop_mf (mrN (N.getD 0 0) (N.getD 1 0) r b)
          refine hK 4 _ _ _ _ _ _ _ _ rfl ?_
          dsimp only [k_M_falls_4, hN1, hB, hM1, hM, wpI, xop, xcall, xli, xlj, xlf, xld, xla, xlg, xst, xst2, xc1, pI, pJ, pF, pD, pR, pA, p1, p0, xpop, xpush, xsm, xhas, xif, xic, xsw, xai, xal, xhi, xhv, xrf, xret, xrtl, xrtf, xrtd, xrta, xrtv, xfit, xnew, cond_true, cond_false, f40, f41, f42, f43, List.length_cons, List.length_nil, Nat.reduceAdd, Nat.reduceSub, Nat.reduceMul, Nat.reduceBEq, List.map_cons, List.map_nil, List.headD_cons, List.getElem?_cons_zero, List.getElem?_cons_succ, List.set_cons_zero, List.set_cons_succ]
          try simp (disch := first | omega | (simp only [List.length_set]; omega)) only [nI_add, n_and, n_or, n_xor, n_i31, nI_leI, nI_ltI, n_e0, n_eq, n_m1e, n_l0, n_g0, n_p0, n_q0, n_cl, n_in, n_sub, n_shr, n_shl, n_div, bI_0, n_01, n_11, bI_or, not_false_eq_true, forall_const, not_true_eq_false, false_imp_iff, true_imp_iff, List.length_map, List.length_set, hN, nL_u, gs_eq, gs_ne, nI_set, Nat.reduceLT, true_and, and_true, pk_mul]
          refine Ev_use (ev_M_inRow _ _ r _ h0 (by omega)) ?_
          dsimp only [hN1, hB, hM1, hM, wpI, xop, xcall, xli, xlj, xlf, xld, xla, xlg, xst, xst2, xc1, pI, pJ, pF, pD, pR, pA, p1, p0, xpop, xpush, xsm, xhas, xif, xic, xsw, xai, xal, xhi, xhv, xrf, xret, xrtl, xrtf, xrtd, xrta, xrtv, xfit, xnew, cond_true, cond_false, f40, f41, f42, f43, List.length_cons, List.length_nil, Nat.reduceAdd, Nat.reduceSub, Nat.reduceMul, Nat.reduceBEq, List.map_cons, List.map_nil, List.headD_cons, List.getElem?_cons_zero, List.getElem?_cons_succ, List.set_cons_zero, List.set_cons_succ]
          try simp (disch := omega) only [nI_add, n_and, n_or, n_xor, n_i31, nI_leI, nI_ltI, n_e0, n_eq, n_m1e, n_l0, n_g0, n_p0, n_q0, n_cl, n_in, n_sub, n_shr, n_shl, n_div, bI_0, n_01, n_11, bI_or, not_false_eq_true, forall_const, not_true_eq_false, false_imp_iff, true_imp_iff]
          refine ⟨fun y2 => ?_, fun y2 => ?_⟩
          · rw [if_neg (by omega)] at hq
            refine hK 5 _ _ _ _ _ _ _ _ rfl ?_
            dsimp only [k_M_falls_5, hN1, hB, hM1, hM, wpI, xop, xcall, xli, xlj, xlf, xld, xla, xlg, xst, xst2, xc1, pI, pJ, pF, pD, pR, pA, p1, p0, xpop, xpush, xsm, xhas, xif, xic, xsw, xai, xal, xhi, xhv, xrf, xret, xrtl, xrtf, xrtd, xrta, xrtv, xfit, xnew, cond_true, cond_false, f40, f41, f42, f43, List.length_cons, List.length_nil, Nat.reduceAdd, Nat.reduceSub, Nat.reduceMul, Nat.reduceBEq, List.map_cons, List.map_nil, List.headD_cons, List.getElem?_cons_zero, List.getElem?_cons_succ, List.set_cons_zero, List.set_cons_succ]
            try simp (disch := first | omega | (simp only [List.length_set]; omega)) only [nI_add, n_and, n_or, n_xor, n_i31, nI_leI, nI_ltI, n_e0, n_eq, n_m1e, n_l0, n_g0, n_p0, n_q0, n_cl, n_in, n_sub, n_shr, n_shl, n_div, bI_0, n_01, n_11, bI_or, not_false_eq_true, forall_const, not_true_eq_false, false_imp_iff, true_imp_iff, List.length_map, List.length_set, hN, nL_u, gs_eq, gs_ne, nI_set, Nat.reduceLT, true_and, and_true, pk_mul]
            refine Ev_use (ev_M_robbed _ _ _ r b _ h0 h1 (by omega) (by omega)) ?_
            dsimp only [hN1, hB, hM1, hM, wpI, xop, xcall, xli, xlj, xlf, xld, xla, xlg, xst, xst2, xc1, pI, pJ, pF, pD, pR, pA, p1, p0, xpop, xpush, xsm, xhas, xif, xic, xsw, xai, xal, xhi, xhv, xrf, xret, xrtl, xrtf, xrtd, xrta, xrtv, xfit, xnew, cond_true, cond_false, f40, f41, f42, f43, List.length_cons, List.length_nil, Nat.reduceAdd, Nat.reduceSub, Nat.reduceMul, Nat.reduceBEq, List.map_cons, List.map_nil, List.headD_cons, List.getElem?_cons_zero, List.getElem?_cons_succ, List.set_cons_zero, List.set_cons_succ]
            refine Ev_use (ev_M_bits _ _ _ hl) ?_
            dsimp only [hN1, hB, hM1, hM, wpI, xop, xcall, xli, xlj, xlf, xld, xla, xlg, xst, xst2, xc1, pI, pJ, pF, pD, pR, pA, p1, p0, xpop, xpush, xsm, xhas, xif, xic, xsw, xai, xal, xhi, xhv, xrf, xret, xrtl, xrtf, xrtd, xrta, xrtv, xfit, xnew, cond_true, cond_false, f40, f41, f42, f43, List.length_cons, List.length_nil, Nat.reduceAdd, Nat.reduceSub, Nat.reduceMul, Nat.reduceBEq, List.map_cons, List.map_nil, List.headD_cons, List.getElem?_cons_zero, List.getElem?_cons_succ, List.set_cons_zero, List.set_cons_succ]
            refine Ev_use (ev_M_fallen _ _ _ hl) ?_
            dsimp only [hN1, hB, hM1, hM, wpI, xop, xcall, xli, xlj, xlf, xld, xla, xlg, xst, xst2, xc1, pI, pJ, pF, pD, pR, pA, p1, p0, xpop, xpush, xsm, xhas, xif, xic, xsw, xai, xal, xhi, xhv, xrf, xret, xrtl, xrtf, xrtd, xrta, xrtv, xfit, xnew, cond_true, cond_false, f40, f41, f42, f43, List.length_cons, List.length_nil, Nat.reduceAdd, Nat.reduceSub, Nat.reduceMul, Nat.reduceBEq, List.map_cons, List.map_nil, List.headD_cons, List.getElem?_cons_zero, List.getElem?_cons_succ, List.set_cons_zero, List.set_cons_succ]
            refine Ev_use (ev_M_bits _ _ _ (mfN_lt hl)) ?_
            dsimp only [hN1, hB, hM1, hM, wpI, xop, xcall, xli, xlj, xlf, xld, xla, xlg, xst, xst2, xc1, pI, pJ, pF, pD, pR, pA, p1, p0, xpop, xpush, xsm, xhas, xif, xic, xsw, xai, xal, xhi, xhv, xrf, xret, xrtl, xrtf, xrtd, xrta, xrtv, xfit, xnew, cond_true, cond_false, f40, f41, f42, f43, List.length_cons, List.length_nil, Nat.reduceAdd, Nat.reduceSub, Nat.reduceMul, Nat.reduceBEq, List.map_cons, List.map_nil, List.headD_cons, List.getElem?_cons_zero, List.getElem?_cons_succ, List.set_cons_zero, List.set_cons_succ]
            rw [bitsL_pop _ hl, bitsL_pop _ (mfN_lt hl)]
            try simp (disch := omega) only [nI_add, n_and, n_or, n_xor, n_i31, nI_leI, nI_ltI, n_e0, n_eq, n_m1e, n_l0, n_g0, n_p0, n_q0, n_cl, n_in, n_sub, n_shr, n_shl, n_div, bI_0, n_01, n_11, bI_or, not_false_eq_true, forall_const, not_true_eq_false, false_imp_iff, true_imp_iff]
            first | exact hq | exact ⟨Nat.le_refl _, hq⟩ | exact ⟨Nat.le_refl _, Nat.le_refl _, hq⟩ | exact ⟨Or.inl rfl, Nat.le_refl _, Nat.le_refl _, hq⟩ | exact ⟨Or.inr rfl, Nat.le_refl _, Nat.le_refl _, hq⟩
          · rw [if_pos (by omega)] at hq
            first | exact hq | exact ⟨Nat.le_refl _, hq⟩ | exact ⟨Nat.le_refl _, Nat.le_refl _, hq⟩ | exact ⟨Or.inl rfl, Nat.le_refl _, Nat.le_refl _, hq⟩ | exact ⟨Or.inr rfl, Nat.le_refl _, Nat.le_refl _, hq⟩
        · rw [if_neg i2] at ee
          exact Nat.noConfusion ee
      · rw [if_neg i1] at ee
        exact Nat.noConfusion ee
    · have hq := hq0 (beq_eq_false_iff_ne.mp y1)
      first | exact hq | exact ⟨Nat.le_refl _, hq⟩ | exact ⟨Nat.le_refl _, Nat.le_refl _, hq⟩ | exact ⟨Or.inl rfl, Nat.le_refl _, Nat.le_refl _, hq⟩ | exact ⟨Or.inr rfl, Nat.le_refl _, Nat.le_refl _, hq⟩
  unfold mwyE at go4
  refine hK 0 _ _ _ _ _ _ _ _ rfl ?_
  dsimp only [k_M_falls_0, hN1, hB, hM1, hM, wpI, xop, xcall, xli, xlj, xlf, xld, xla, xlg, xst, xst2, xc1, pI, pJ, pF, pD, pR, pA, p1, p0, xpop, xpush, xsm, xhas, xif, xic, xsw, xai, xal, xhi, xhv, xrf, xret, xrtl, xrtf, xrtd, xrta, xrtv, xfit, xnew, cond_true, cond_false, f40, f41, f42, f43, List.length_cons, List.length_nil, Nat.reduceAdd, Nat.reduceSub, Nat.reduceMul, Nat.reduceBEq, List.map_cons, List.map_nil, List.headD_cons, List.getElem?_cons_zero, List.getElem?_cons_succ, List.set_cons_zero, List.set_cons_succ]
  refine Ev_use (ev_M_isRow _ x _) ?_
  dsimp only [hN1, hB, hM1, hM, wpI, xop, xcall, xli, xlj, xlf, xld, xla, xlg, xst, xst2, xc1, pI, pJ, pF, pD, pR, pA, p1, p0, xpop, xpush, xsm, xhas, xif, xic, xsw, xai, xal, xhi, xhv, xrf, xret, xrtl, xrtf, xrtd, xrta, xrtv, xfit, xnew, cond_true, cond_false, f40, f41, f42, f43, List.length_cons, List.length_nil, Nat.reduceAdd, Nat.reduceSub, Nat.reduceMul, Nat.reduceBEq, List.map_cons, List.map_nil, List.headD_cons, List.getElem?_cons_zero, List.getElem?_cons_succ, List.set_cons_zero, List.set_cons_succ]
  rw [bI_0]
  refine ⟨fun y1 => ?_, fun y1 => ?_⟩
  · rw [if_pos (b_nf y1)] at go4
    refine hK 1 _ _ _ _ _ _ _ _ rfl ?_
    dsimp only [k_M_falls_1, hN1, hB, hM1, hM, wpI, xop, xcall, xli, xlj, xlf, xld, xla, xlg, xst, xst2, xc1, pI, pJ, pF, pD, pR, pA, p1, p0, xpop, xpush, xsm, xhas, xif, xic, xsw, xai, xal, xhi, xhv, xrf, xret, xrtl, xrtf, xrtd, xrta, xrtv, xfit, xnew, cond_true, cond_false, f40, f41, f42, f43, List.length_cons, List.length_nil, Nat.reduceAdd, Nat.reduceSub, Nat.reduceMul, Nat.reduceBEq, List.map_cons, List.map_nil, List.headD_cons, List.getElem?_cons_zero, List.getElem?_cons_succ, List.set_cons_zero, List.set_cons_succ]
    refine Ev_use (ev_M_in _ y _ _ _) ?_
    dsimp only [hN1, hB, hM1, hM, wpI, xop, xcall, xli, xlj, xlf, xld, xla, xlg, xst, xst2, xc1, pI, pJ, pF, pD, pR, pA, p1, p0, xpop, xpush, xsm, xhas, xif, xic, xsw, xai, xal, xhi, xhv, xrf, xret, xrtl, xrtf, xrtd, xrta, xrtv, xfit, xnew, cond_true, cond_false, f40, f41, f42, f43, List.length_cons, List.length_nil, Nat.reduceAdd, Nat.reduceSub, Nat.reduceMul, Nat.reduceBEq, List.map_cons, List.map_nil, List.headD_cons, List.getElem?_cons_zero, List.getElem?_cons_succ, List.set_cons_zero, List.set_cons_succ]
    rw [bI_0]
    refine ⟨fun y2 => ?_, fun y2 => ?_⟩
    · rw [if_neg (by rw [y2]; decide)] at go4
      refine hK 2 _ _ _ _ _ _ _ _ rfl ?_
      dsimp only [k_M_falls_2, hN1, hB, hM1, hM, wpI, xop, xcall, xli, xlj, xlf, xld, xla, xlg, xst, xst2, xc1, pI, pJ, pF, pD, pR, pA, p1, p0, xpop, xpush, xsm, xhas, xif, xic, xsw, xai, xal, xhi, xhv, xrf, xret, xrtl, xrtf, xrtd, xrta, xrtv, xfit, xnew, cond_true, cond_false, f40, f41, f42, f43, List.length_cons, List.length_nil, Nat.reduceAdd, Nat.reduceSub, Nat.reduceMul, Nat.reduceBEq, List.map_cons, List.map_nil, List.headD_cons, List.getElem?_cons_zero, List.getElem?_cons_succ, List.set_cons_zero, List.set_cons_succ]
      exact go4 2 (by decide) rfl
    · rw [if_pos (b_nf y2)] at go4
      exact go4 0 (by decide) rfl
  · rw [if_neg (by rw [y1]; decide)] at go4
    exact go4 1 (by decide) rfl
set_option maxRecDepth 100000 in
set_option maxHeartbeats 4000000 in
theorem ev_M_thrown (d : Nat) (z : Nat → xC) (N B K' T O R D : List Nat) (laid : Int32) (len st many at' thr : Nat) (isK : Bool) (g : xH) :
    Ev xT (d + 1) N_M_thrown [.ref 7] (hM z N B K' T O R D laid len st many at' thr isK g) (Rt (some (.int (nI thr))) (hM z N B K' T O R D laid len st many at' thr isK g)) NX := by
  refine Ev_intro t_M_thrown (Nat.le_of_ble_eq_true rfl) ?_
  intro Q X hQ hX K hK
  show K 0 [some (.ref 7)] [] _ 0 0
  have hq := hQ _ _ ⟨rfl, rfl⟩
  refine hK 0 _ _ _ _ _ _ _ _ rfl ?_
  dsimp only [k_M_thrown_0, hN1, hB, hM1, hM, wpI, xop, xcall, xli, xlj, xlf, xld, xla, xlg, xst, xst2, xc1, pI, pJ, pF, pD, pR, pA, p1, p0, xpop, xpush, xsm, xhas, xif, xic, xsw, xai, xal, xhi, xhv, xrf, xret, xrtl, xrtf, xrtd, xrta, xrtv, xfit, xnew, cond_true, cond_false, f40, f41, f42, f43, List.length_cons, List.length_nil, Nat.reduceAdd, Nat.reduceSub, Nat.reduceMul, Nat.reduceBEq, List.map_cons, List.map_nil, List.headD_cons, List.getElem?_cons_zero, List.getElem?_cons_succ, List.set_cons_zero, List.set_cons_succ]
  first | exact hq | exact ⟨Nat.le_refl _, hq⟩ | exact ⟨Nat.le_refl _, Nat.le_refl _, hq⟩ | exact ⟨Or.inl rfl, Nat.le_refl _, Nat.le_refl _, hq⟩ | exact ⟨Or.inr rfl, Nat.le_refl _, Nat.le_refl _, hq⟩
