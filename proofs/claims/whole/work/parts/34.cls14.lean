/-! ===== the class: parts of the digest ===== -/
set_option maxRecDepth 100000 in
set_option maxHeartbeats 4000000 in
theorem ev_row0 (d : Nat) (N : List Nat) (vs : List Value) (g : xH) (r k : Nat) (ok : stN N) (hr : r < 5) (hk : k < 6) : Ev xT (d + 5) N_B_row [.ref 0, .int (nI r), .int (nI k)] (hN1 N vs g) (Rt (some (.int (rowR N r (nI k)))) (hN1 N vs g)) NX := by
  have key : ∀ r, r < 5 → ∀ k, k < 6 → rowE (nI r) (nI k) = 0 := by decide +kernel
  have h := ev_row d N vs g (nI r) (nI k) ok
  rw [n_cl (by omega)] at h
  exact Ev_mono h (fun v g q => ⟨q.2.1, q.2.2⟩) (fun _ g q => absurd (key r hr k hk) q.1)
set_option maxRecDepth 100000 in
set_option maxHeartbeats 4000000 in
theorem ev_why0 (d : Nat) (N : List Nat) (vs : List Value) (g : xH) (r k : Nat) (ok : stN N) (hr : r < 5) (hk : k < 3) : Ev xT (d + 4) N_B_why [.ref 0, .int (nI r), .int (nI (k + 1))] (hN1 N vs g) (Rt (some (.int (nI (rsnN N r (k + 1))))) (hN1 N vs g)) NX := by
  have key : ∀ r, r < 5 → ∀ k, k < 3 → whyE (nI r) (nI (k + 1)) = 0 := by decide +kernel
  have h := ev_why d N vs g (nI r) (nI (k + 1)) ok
  rw [n_cl (by omega), n_cl (by omega)] at h
  exact Ev_mono h (fun v g q => ⟨q.2.1, q.2.2⟩) (fun _ g q => absurd (key r hr k hk) q.1)
set_option maxRecDepth 100000 in
set_option maxHeartbeats 4000000 in
theorem ev_falls0 (d : Nat) (N : List Nat) (vs : List Value) (g : xH) (r k : Nat) (ok : stN N) (hr : r < 5) (hk : k < 3) : Ev xT (d + 4) N_B_falls [.ref 0, .int (nI r), .int (nI (k + 1))] (hN1 N vs g) (Rt (some (.int (fallI (N.getD 0 0) (N.getD 1 0) r (k + 1)))) (hN1 N vs g)) NX := by
  have key : ∀ r, r < 5 → ∀ k, k < 3 → whyE (nI r) (nI (k + 1)) = 0 := by decide +kernel
  have h := ev_falls d N vs g (nI r) (nI (k + 1)) ok
  rw [n_cl (by omega), n_cl (by omega)] at h
  exact Ev_mono h (fun v g q => ⟨q.2.1, q.2.2⟩) (fun _ g q => absurd (key r hr k hk) q.1)
def hbL (C : List Nat) : Nat → Nat → Int64 → Int64
  | 0, _, h => h
  | j + 1, i, h => hbL C j (i + 1) (lN 31 * h + (nI (C.getD i 0)).toInt64)
set_option maxRecDepth 100000 in
set_option maxHeartbeats 4000000 in
theorem ev_hashBuffer (d : Nat) (N V S C : List Nat) (P : List Value) (sv tl : Nat) (has : Bool) (g : xH) (z : Int64) (hC : C.length = 60) (ht : tl ≤ 60) :
    Ev xT (d + 1) N_B_hashBuffer [.ref 0, .long z] (hB N V S C P sv tl has g) (Rt (some (.long (hbL C tl 0 (lN 31 * z + (nI tl).toInt64)))) (hB N V S C P sv tl has g)) NX := by
  refine Ev_intro t_B_hashBuffer (Nat.le_of_ble_eq_true rfl) ?_
  intro Q X hQ hX K hK
  show K 0 [some (.ref 0), some (.long z), none, none, none, none] [] _ 0 0
  have hq := hQ _ _ ⟨rfl, rfl⟩
  have hN := hC
  have loop : ∀ (j i : Nat) (y : Int64), i + j = tl → Q (some (.long (hbL C j i y))) (hB N V S C P sv tl has g) → K 1 [some (.ref 0), some (.long z), none, some (.long y), none, some (.int (nI i))] [] (hB N V S C P sv tl has g) 0 0 := by
    intro j
    induction j with
    | zero =>
      intro i y hi hq
      refine hK 1 _ _ _ _ _ _ _ _ rfl ?_
      dsimp only [k_B_hashBuffer_1, hN1, hB, wpI, xop, xcall, xli, xlj, xlf, xld, xla, xlg, xst, xst2, xc1, pI, pJ, pF, pD, pR, pA, p1, p0, xpop, xpush, xsm, xhas, xif, xic, xsw, xai, xal, xhi, xhv, xrf, xret, xrtl, xrtf, xrtd, xrta, xrtv, xfit, xnew, cond_true, cond_false, f40, f41, f42, f43, List.length_cons, List.length_nil, Nat.reduceAdd, Nat.reduceSub, Nat.reduceMul, Nat.reduceBEq, List.map_cons, List.map_nil, List.headD_cons, List.getElem?_cons_zero, List.getElem?_cons_succ, List.set_cons_zero, List.set_cons_succ]
      try simp (disch := first | omega | (simp only [List.length_set]; omega)) only [nI_add, n_and, n_or, n_xor, n_i31, nI_leI, nI_ltI, n_e0, n_eq, n_m1e, n_l0, n_g0, n_p0, n_q0, n_cl, n_in, n_sub, n_shr, n_shl, n_div, bI_0, n_01, n_11, bI_or, not_false_eq_true, forall_const, not_true_eq_false, false_imp_iff, true_imp_iff, List.length_map, List.length_set, hN, nL_u, gs_eq, gs_ne, nI_set, Nat.reduceLT, true_and, and_true, pk_mul]
      refine br_t (by omega) ?_
      refine hK 2 _ _ _ _ _ _ _ _ rfl ?_
      dsimp only [k_B_hashBuffer_2, hN1, hB, wpI, xop, xcall, xli, xlj, xlf, xld, xla, xlg, xst, xst2, xc1, pI, pJ, pF, pD, pR, pA, p1, p0, xpop, xpush, xsm, xhas, xif, xic, xsw, xai, xal, xhi, xhv, xrf, xret, xrtl, xrtf, xrtd, xrta, xrtv, xfit, xnew, cond_true, cond_false, f40, f41, f42, f43, List.length_cons, List.length_nil, Nat.reduceAdd, Nat.reduceSub, Nat.reduceMul, Nat.reduceBEq, List.map_cons, List.map_nil, List.headD_cons, List.getElem?_cons_zero, List.getElem?_cons_succ, List.set_cons_zero, List.set_cons_succ]
      exact ⟨Nat.le_refl _, Nat.le_refl _, hq⟩
    | succ j ih =>
      intro i y hi hq
      rw [hbL] at hq
      refine hK 1 _ _ _ _ _ _ _ _ rfl ?_
      dsimp only [k_B_hashBuffer_1, hN1, hB, wpI, xop, xcall, xli, xlj, xlf, xld, xla, xlg, xst, xst2, xc1, pI, pJ, pF, pD, pR, pA, p1, p0, xpop, xpush, xsm, xhas, xif, xic, xsw, xai, xal, xhi, xhv, xrf, xret, xrtl, xrtf, xrtd, xrta, xrtv, xfit, xnew, cond_true, cond_false, f40, f41, f42, f43, List.length_cons, List.length_nil, Nat.reduceAdd, Nat.reduceSub, Nat.reduceMul, Nat.reduceBEq, List.map_cons, List.map_nil, List.headD_cons, List.getElem?_cons_zero, List.getElem?_cons_succ, List.set_cons_zero, List.set_cons_succ]
      try simp (disch := first | omega | (simp only [List.length_set]; omega)) only [nI_add, n_and, n_or, n_xor, n_i31, nI_leI, nI_ltI, n_e0, n_eq, n_m1e, n_l0, n_g0, n_p0, n_q0, n_cl, n_in, n_sub, n_shr, n_shl, n_div, bI_0, n_01, n_11, bI_or, not_false_eq_true, forall_const, not_true_eq_false, false_imp_iff, true_imp_iff, List.length_map, List.length_set, hN, nL_u, gs_eq, gs_ne, nI_set, Nat.reduceLT, true_and, and_true, pk_mul]
      refine br_f (by omega) ⟨by omega, ?_⟩
      exact ih (i + 1) _ (by omega) hq
  refine hK 0 _ _ _ _ _ _ _ _ rfl ?_
  dsimp only [k_B_hashBuffer_0, hN1, hB, wpI, xop, xcall, xli, xlj, xlf, xld, xla, xlg, xst, xst2, xc1, pI, pJ, pF, pD, pR, pA, p1, p0, xpop, xpush, xsm, xhas, xif, xic, xsw, xai, xal, xhi, xhv, xrf, xret, xrtl, xrtf, xrtd, xrta, xrtv, xfit, xnew, cond_true, cond_false, f40, f41, f42, f43, List.length_cons, List.length_nil, Nat.reduceAdd, Nat.reduceSub, Nat.reduceMul, Nat.reduceBEq, List.map_cons, List.map_nil, List.headD_cons, List.getElem?_cons_zero, List.getElem?_cons_succ, List.set_cons_zero, List.set_cons_succ]
  exact loop tl 0 _ (by omega) hq
def hrL (N : List Nat) (r : Nat) : Nat → Nat → Int64 → Int64
  | 0, _, h => h
  | j + 1, k, h => hrL N r j (k + 1) (lN 31 * h + (rowR N r (nI k)).toInt64)
def hwL (N : List Nat) (r : Nat) : Nat → Nat → Int64 → Int64
  | 0, _, h => h
  | j + 1, k, h => hwL N r j (k + 1) (lN 31 * (lN 31 * h + (nI (rsnN N r (k + 1))).toInt64) + (fallI (N.getD 0 0) (N.getD 1 0) r (k + 1)).toInt64)
set_option maxRecDepth 100000 in
set_option maxHeartbeats 4000000 in
theorem ev_hashRow (d : Nat) (N : List Nat) (vs : List Value) (g : xH) (z : Int64) (r : Nat) (ok : stN N) (hr : r < 5) :
    Ev xT (d + 6) N_B_hashRow [.ref 0, .long z, .int (nI r)] (hN1 N vs g) (Rt (some (.long (hwL N r 3 0 (hrL N r 6 0 z)))) (hN1 N vs g)) NX := by
  refine Ev_intro t_B_hashRow (Nat.le_of_ble_eq_true rfl) ?_
  intro Q X hQ hX K hK
  show K 0 [some (.ref 0), some (.long z), none, some (.int (nI r)), none, none, none] [] _ 0 0
  have hq := hQ _ _ ⟨rfl, rfl⟩
  have hN := ok.1
  have loop2 : ∀ (j k : Nat) (y : Int64), k + j = 3 → Q (some (.long (hwL N r j k y))) (hN1 N vs g) → K 3 [some (.ref 0), some (.long z), none, some (.int (nI r)), some (.long y), none, some (.int (nI (k + 1)))] [] (hN1 N vs g) (6 + 2 * k) (36 + 12 * k) := by
    intro j
    induction j with
    | zero =>
      intro k y hk hq
      obtain rfl : k = 3 := by omega
      refine hK 3 _ _ _ _ _ _ _ _ rfl ?_
      dsimp only [k_B_hashRow_3, hN1, hB, wpI, xop, xcall, xli, xlj, xlf, xld, xla, xlg, xst, xst2, xc1, pI, pJ, pF, pD, pR, pA, p1, p0, xpop, xpush, xsm, xhas, xif, xic, xsw, xai, xal, xhi, xhv, xrf, xret, xrtl, xrtf, xrtd, xrta, xrtv, xfit, xnew, cond_true, cond_false, f40, f41, f42, f43, List.length_cons, List.length_nil, Nat.reduceAdd, Nat.reduceSub, Nat.reduceMul, Nat.reduceBEq, List.map_cons, List.map_nil, List.headD_cons, List.getElem?_cons_zero, List.getElem?_cons_succ, List.set_cons_zero, List.set_cons_succ]
      refine br_t (by decide) ?_
      refine hK 4 _ _ _ _ _ _ _ _ rfl ?_
      dsimp only [k_B_hashRow_4, hN1, hB, wpI, xop, xcall, xli, xlj, xlf, xld, xla, xlg, xst, xst2, xc1, pI, pJ, pF, pD, pR, pA, p1, p0, xpop, xpush, xsm, xhas, xif, xic, xsw, xai, xal, xhi, xhv, xrf, xret, xrtl, xrtf, xrtd, xrta, xrtv, xfit, xnew, cond_true, cond_false, f40, f41, f42, f43, List.length_cons, List.length_nil, Nat.reduceAdd, Nat.reduceSub, Nat.reduceMul, Nat.reduceBEq, List.map_cons, List.map_nil, List.headD_cons, List.getElem?_cons_zero, List.getElem?_cons_succ, List.set_cons_zero, List.set_cons_succ]
      exact ⟨by decide, by decide, hq⟩
    | succ j ih =>
      intro k y hk hq
      rw [hwL] at hq
      refine hK 3 _ _ _ _ _ _ _ _ rfl ?_
      dsimp only [k_B_hashRow_3, hN1, hB, wpI, xop, xcall, xli, xlj, xlf, xld, xla, xlg, xst, xst2, xc1, pI, pJ, pF, pD, pR, pA, p1, p0, xpop, xpush, xsm, xhas, xif, xic, xsw, xai, xal, xhi, xhv, xrf, xret, xrtl, xrtf, xrtd, xrta, xrtv, xfit, xnew, cond_true, cond_false, f40, f41, f42, f43, List.length_cons, List.length_nil, Nat.reduceAdd, Nat.reduceSub, Nat.reduceMul, Nat.reduceBEq, List.map_cons, List.map_nil, List.headD_cons, List.getElem?_cons_zero, List.getElem?_cons_succ, List.set_cons_zero, List.set_cons_succ]
      try simp (disch := first | omega | (simp only [List.length_set]; omega)) only [nI_add, n_and, n_or, n_xor, n_i31, nI_leI, nI_ltI, n_e0, n_eq, n_m1e, n_l0, n_g0, n_p0, n_q0, n_cl, n_in, n_sub, n_shr, n_shl, n_div, bI_0, n_01, n_11, bI_or, not_false_eq_true, forall_const, not_true_eq_false, false_imp_iff, true_imp_iff, List.length_map, List.length_set, hN, nL_u, gs_eq, gs_ne, nI_set, Nat.reduceLT, true_and, and_true, pk_mul]
      refine br_f (by omega) ⟨by omega, by omega, ?_⟩
      refine Ev_use (ev_why0 _ N vs g r k ok hr (by omega)) ?_
      dsimp only [hN1, hB, wpI, xop, xcall, xli, xlj, xlf, xld, xla, xlg, xst, xst2, xc1, pI, pJ, pF, pD, pR, pA, p1, p0, xpop, xpush, xsm, xhas, xif, xic, xsw, xai, xal, xhi, xhv, xrf, xret, xrtl, xrtf, xrtd, xrta, xrtv, xfit, xnew, cond_true, cond_false, f40, f41, f42, f43, List.length_cons, List.length_nil, Nat.reduceAdd, Nat.reduceSub, Nat.reduceMul, Nat.reduceBEq, List.map_cons, List.map_nil, List.headD_cons, List.getElem?_cons_zero, List.getElem?_cons_succ, List.set_cons_zero, List.set_cons_succ]
      refine ⟨by omega, by omega, ?_⟩
      refine Ev_use (ev_falls0 _ N vs g r k ok hr (by omega)) ?_
      dsimp only [hN1, hB, wpI, xop, xcall, xli, xlj, xlf, xld, xla, xlg, xst, xst2, xc1, pI, pJ, pF, pD, pR, pA, p1, p0, xpop, xpush, xsm, xhas, xif, xic, xsw, xai, xal, xhi, xhv, xrf, xret, xrtl, xrtf, xrtd, xrta, xrtv, xfit, xnew, cond_true, cond_false, f40, f41, f42, f43, List.length_cons, List.length_nil, Nat.reduceAdd, Nat.reduceSub, Nat.reduceMul, Nat.reduceBEq, List.map_cons, List.map_nil, List.headD_cons, List.getElem?_cons_zero, List.getElem?_cons_succ, List.set_cons_zero, List.set_cons_succ]
      try simp (disch := first | omega | (simp only [List.length_set]; omega)) only [nI_add, n_and, n_or, n_xor, n_i31, nI_leI, nI_ltI, n_e0, n_eq, n_m1e, n_l0, n_g0, n_p0, n_q0, n_cl, n_in, n_sub, n_shr, n_shl, n_div, bI_0, n_01, n_11, bI_or, not_false_eq_true, forall_const, not_true_eq_false, false_imp_iff, true_imp_iff, List.length_map, List.length_set, hN, nL_u, gs_eq, gs_ne, nI_set, Nat.reduceLT, true_and, and_true, pk_mul]
      have h := ih (k + 1) _ (by omega) hq
      rw [show 6 + 2 * (k + 1) = 6 + 2 * k + 1 + 1 by omega, show 36 + 12 * (k + 1) = 36 + 12 * k + 6 + 6 by omega] at h
      exact h
  have loop1 : ∀ (j k : Nat) (y : Int64), k + j = 6 → Q (some (.long (hwL N r 3 0 (hrL N r j k y)))) (hN1 N vs g) → K 1 [some (.ref 0), some (.long z), none, some (.int (nI r)), some (.long y), none, some (.int (nI k))] [] (hN1 N vs g) k (6 * k) := by
    intro j
    induction j with
    | zero =>
      intro k y hk hq
      obtain rfl : k = 6 := by omega
      refine hK 1 _ _ _ _ _ _ _ _ rfl ?_
      dsimp only [k_B_hashRow_1, hN1, hB, wpI, xop, xcall, xli, xlj, xlf, xld, xla, xlg, xst, xst2, xc1, pI, pJ, pF, pD, pR, pA, p1, p0, xpop, xpush, xsm, xhas, xif, xic, xsw, xai, xal, xhi, xhv, xrf, xret, xrtl, xrtf, xrtd, xrta, xrtv, xfit, xnew, cond_true, cond_false, f40, f41, f42, f43, List.length_cons, List.length_nil, Nat.reduceAdd, Nat.reduceSub, Nat.reduceMul, Nat.reduceBEq, List.map_cons, List.map_nil, List.headD_cons, List.getElem?_cons_zero, List.getElem?_cons_succ, List.set_cons_zero, List.set_cons_succ]
      refine br_t (by decide) ?_
      refine hK 2 _ _ _ _ _ _ _ _ rfl ?_
      dsimp only [k_B_hashRow_2, hN1, hB, wpI, xop, xcall, xli, xlj, xlf, xld, xla, xlg, xst, xst2, xc1, pI, pJ, pF, pD, pR, pA, p1, p0, xpop, xpush, xsm, xhas, xif, xic, xsw, xai, xal, xhi, xhv, xrf, xret, xrtl, xrtf, xrtd, xrta, xrtv, xfit, xnew, cond_true, cond_false, f40, f41, f42, f43, List.length_cons, List.length_nil, Nat.reduceAdd, Nat.reduceSub, Nat.reduceMul, Nat.reduceBEq, List.map_cons, List.map_nil, List.headD_cons, List.getElem?_cons_zero, List.getElem?_cons_succ, List.set_cons_zero, List.set_cons_succ]
      exact loop2 3 0 y rfl hq
    | succ j ih =>
      intro k y hk hq
      rw [hrL] at hq
      refine hK 1 _ _ _ _ _ _ _ _ rfl ?_
      dsimp only [k_B_hashRow_1, hN1, hB, wpI, xop, xcall, xli, xlj, xlf, xld, xla, xlg, xst, xst2, xc1, pI, pJ, pF, pD, pR, pA, p1, p0, xpop, xpush, xsm, xhas, xif, xic, xsw, xai, xal, xhi, xhv, xrf, xret, xrtl, xrtf, xrtd, xrta, xrtv, xfit, xnew, cond_true, cond_false, f40, f41, f42, f43, List.length_cons, List.length_nil, Nat.reduceAdd, Nat.reduceSub, Nat.reduceMul, Nat.reduceBEq, List.map_cons, List.map_nil, List.headD_cons, List.getElem?_cons_zero, List.getElem?_cons_succ, List.set_cons_zero, List.set_cons_succ]
      try simp (disch := first | omega | (simp only [List.length_set]; omega)) only [nI_add, n_and, n_or, n_xor, n_i31, nI_leI, nI_ltI, n_e0, n_eq, n_m1e, n_l0, n_g0, n_p0, n_q0, n_cl, n_in, n_sub, n_shr, n_shl, n_div, bI_0, n_01, n_11, bI_or, not_false_eq_true, forall_const, not_true_eq_false, false_imp_iff, true_imp_iff, List.length_map, List.length_set, hN, nL_u, gs_eq, gs_ne, nI_set, Nat.reduceLT, true_and, and_true, pk_mul]
      refine br_f (by omega) ⟨by omega, by omega, ?_⟩
      refine Ev_use (ev_row0 _ N vs g r k ok hr (by omega)) ?_
      dsimp only [hN1, hB, wpI, xop, xcall, xli, xlj, xlf, xld, xla, xlg, xst, xst2, xc1, pI, pJ, pF, pD, pR, pA, p1, p0, xpop, xpush, xsm, xhas, xif, xic, xsw, xai, xal, xhi, xhv, xrf, xret, xrtl, xrtf, xrtd, xrta, xrtv, xfit, xnew, cond_true, cond_false, f40, f41, f42, f43, List.length_cons, List.length_nil, Nat.reduceAdd, Nat.reduceSub, Nat.reduceMul, Nat.reduceBEq, List.map_cons, List.map_nil, List.headD_cons, List.getElem?_cons_zero, List.getElem?_cons_succ, List.set_cons_zero, List.set_cons_succ]
      try simp (disch := first | omega | (simp only [List.length_set]; omega)) only [nI_add, n_and, n_or, n_xor, n_i31, nI_leI, nI_ltI, n_e0, n_eq, n_m1e, n_l0, n_g0, n_p0, n_q0, n_cl, n_in, n_sub, n_shr, n_shl, n_div, bI_0, n_01, n_11, bI_or, not_false_eq_true, forall_const, not_true_eq_false, false_imp_iff, true_imp_iff, List.length_map, List.length_set, hN, nL_u, gs_eq, gs_ne, nI_set, Nat.reduceLT, true_and, and_true, pk_mul]
      have h := ih (k + 1) _ (by omega) hq
      rw [show 6 * (k + 1) = 6 * k + 6 by omega] at h
      exact h
  refine hK 0 _ _ _ _ _ _ _ _ rfl ?_
  dsimp only [k_B_hashRow_0, hN1, hB, wpI, xop, xcall, xli, xlj, xlf, xld, xla, xlg, xst, xst2, xc1, pI, pJ, pF, pD, pR, pA, p1, p0, xpop, xpush, xsm, xhas, xif, xic, xsw, xai, xal, xhi, xhv, xrf, xret, xrtl, xrtf, xrtd, xrta, xrtv, xfit, xnew, cond_true, cond_false, f40, f41, f42, f43, List.length_cons, List.length_nil, Nat.reduceAdd, Nat.reduceSub, Nat.reduceMul, Nat.reduceBEq, List.map_cons, List.map_nil, List.headD_cons, List.getElem?_cons_zero, List.getElem?_cons_succ, List.set_cons_zero, List.set_cons_succ]
  exact loop1 6 0 z rfl hq
