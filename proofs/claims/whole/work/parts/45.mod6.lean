/-! the model: its heap, and why a theft is refused -/
/-- seven cells of the class, the model's object at place 7, its row of numbers, and what else lies there -/
abbrev hM1 (z : Nat → xC) (N : List Nat) (vs : List Value) (g : xH) : xH := z 0 :: z 1 :: z 2 :: z 3 :: z 4 :: z 5 :: z 6 :: (7, [], .ref 8 :: vs) :: (0, N.map nI, []) :: g
abbrev hM (z : Nat → xC) (N B K T O R D : List Nat) (laid : Int32) (len st many at' thr : Nat) (isK : Bool) (g : xH) : xH := z 0 :: z 1 :: z 2 :: z 3 :: z 4 :: z 5 :: z 6 ::
  (7, [], [.ref 8, .ref 9, .ref 10, .ref 11, .ref 12, .ref 13, .ref 14, .int laid, .int (nI len), .int (nI st), .int (nI many), .int (nI at'), .int (bI isK), .int (nI thr)]) ::
  (0, N.map nI, []) :: (0, B.map nI, []) :: (0, K.map nI, []) :: (1, T.map nI, []) :: (0, O.map nI, []) :: (0, R.map nI, []) :: (0, D.map nI, []) :: g
theorem mrL_lt (t r b : Nat) : ∀ (j k l n : Nat), l < 32768 → mrL t r b j k l n < 32768
  | 0, _, _, _, h => h
  | j + 1, k, l, n, h => by
    rw [mrL]
    by_cases e : n < b ∧ hasN l r (if t = 0 then k else 4 - r - k) = true
    · rw [if_pos e]
      exact mrL_lt t r b j _ _ _ (Nat.lt_of_le_of_lt Nat.and_le_left h)
    · rw [if_neg e]
      exact mrL_lt t r b j _ _ _ h
theorem mrN_lt {m t r b : Nat} (h : m < 32768) : mrN m t r b < 32768 := mrL_lt _ _ _ _ _ _ _ h
theorem mfR_lt : ∀ (j r l : Nat), l < 32768 → mfR j r l < 32768
  | 0, _, _, h => h
  | j + 1, r, l, h => mfR_lt j _ _ (mfP_lt r _ _ _ h)
theorem mfN_lt {m : Nat} (h : m < 32768) : mfN m < 32768 := mfR_lt _ _ _ h
def mrsN (N : List Nat) (m t r b : Nat) : Nat := if N.getD 6 0 < b then 1 else if pop (bitsN m r) < b then 2 else if N.getD 7 0 = 1 ∧ ¬ mfN (mrN m t r b) = mrN m t r b then 3 else 0
set_option maxRecDepth 100000 in
set_option maxHeartbeats 4000000 in
theorem ev_M_reason (d m t r b : Nat) (z : Nat → xC) (N : List Nat) (vs : List Value) (g : xH) (hN : N.length = 19) (h6 : N.getD 6 0 < 4) (h7 : N.getD 7 0 < 2) (hm : m < 32768) (ht : t < 2) (hr : r < 5) (hb : b < 100) :
    Ev xT (d + 4) N_M_reason [.ref 7, .int (nI m), .int (nI t), .int (nI r), .int (nI b)] (hM1 z N vs g) (Rt (some (.int (nI (mrsN N m t r b)))) (hM1 z N vs g)) NX := by
  refine Ev_intro t_M_reason (Nat.le_of_ble_eq_true rfl) ?_
  intro Q X hQ hX K hK
  show K 0 [some (.ref 7), some (.int (nI m)), some (.int (nI t)), some (.int (nI r)), some (.int (nI b)), none] [] _ 0 0
  have hq := hQ _ _ ⟨rfl, rfl⟩
  unfold mrsN at hq
  have hp := pop_le (bitsN_lt (r := r) hm)
  have hl := mrN_lt (t := t) (r := r) (b := b) hm
  have hf := mfN_lt hl
  refine hK 0 _ _ _ _ _ _ _ _ rfl ?_
  dsimp only [k_M_reason_0, hN1, hB, hM1, hM, wpI, xop, xcall, xli, xlj, xlf, xld, xla, xlg, xst, xst2, xc1, pI, pJ, pF, pD, pR, pA, p1, p0, xpop, xpush, xsm, xhas, xif, xic, xsw, xai, xal, xhi, xhv, xrf, xret, xrtl, xrtf, xrtd, xrta, xrtv, xfit, xnew, cond_true, cond_false, f40, f41, f42, f43, List.length_cons, List.length_nil, Nat.reduceAdd, Nat.reduceSub, Nat.reduceMul, Nat.reduceBEq, List.map_cons, List.map_nil, List.headD_cons, List.getElem?_cons_zero, List.getElem?_cons_succ, List.set_cons_zero, List.set_cons_succ]
  try simp (disch := first | omega | (simp only [List.length_set]; omega)) only [nI_add, n_and, n_or, n_xor, n_i31, nI_leI, nI_ltI, n_e0, n_eq, n_m1e, n_l0, n_g0, n_p0, n_q0, n_cl, n_in, n_sub, n_shr, n_shl, n_div, bI_0, n_01, n_11, bI_or, not_false_eq_true, forall_const, not_true_eq_false, false_imp_iff, true_imp_iff, List.length_map, List.length_set, hN, nL_u, gs_eq, gs_ne, nI_set, Nat.reduceLT, true_and, and_true, pk_mul]
  refine ⟨fun y => ?_, fun y => ?_⟩
  · rw [if_neg (by omega)] at hq
    refine hK 1 _ _ _ _ _ _ _ _ rfl ?_
    dsimp only [k_M_reason_1, hN1, hB, hM1, hM, wpI, xop, xcall, xli, xlj, xlf, xld, xla, xlg, xst, xst2, xc1, pI, pJ, pF, pD, pR, pA, p1, p0, xpop, xpush, xsm, xhas, xif, xic, xsw, xai, xal, xhi, xhv, xrf, xret, xrtl, xrtf, xrtd, xrta, xrtv, xfit, xnew, cond_true, cond_false, f40, f41, f42, f43, List.length_cons, List.length_nil, Nat.reduceAdd, Nat.reduceSub, Nat.reduceMul, Nat.reduceBEq, List.map_cons, List.map_nil, List.headD_cons, List.getElem?_cons_zero, List.getElem?_cons_succ, List.set_cons_zero, List.set_cons_succ]
    refine Ev_use (ev_M_inRow _ m r _ hm hr) ?_
    dsimp only [hN1, hB, hM1, hM, wpI, xop, xcall, xli, xlj, xlf, xld, xla, xlg, xst, xst2, xc1, pI, pJ, pF, pD, pR, pA, p1, p0, xpop, xpush, xsm, xhas, xif, xic, xsw, xai, xal, xhi, xhv, xrf, xret, xrtl, xrtf, xrtd, xrta, xrtv, xfit, xnew, cond_true, cond_false, f40, f41, f42, f43, List.length_cons, List.length_nil, Nat.reduceAdd, Nat.reduceSub, Nat.reduceMul, Nat.reduceBEq, List.map_cons, List.map_nil, List.headD_cons, List.getElem?_cons_zero, List.getElem?_cons_succ, List.set_cons_zero, List.set_cons_succ]
    try simp (disch := first | omega | (simp only [List.length_set]; omega)) only [nI_add, n_and, n_or, n_xor, n_i31, nI_leI, nI_ltI, n_e0, n_eq, n_m1e, n_l0, n_g0, n_p0, n_q0, n_cl, n_in, n_sub, n_shr, n_shl, n_div, bI_0, n_01, n_11, bI_or, not_false_eq_true, forall_const, not_true_eq_false, false_imp_iff, true_imp_iff, List.length_map, List.length_set, hN, nL_u, gs_eq, gs_ne, nI_set, Nat.reduceLT, true_and, and_true, pk_mul]
    refine ⟨fun y2 => ?_, fun y2 => ?_⟩
    · rw [if_neg (by omega)] at hq
      have f3 : ¬ (N.getD 7 0 = 1 ∧ ¬ mfN (mrN m t r b) = mrN m t r b) → ∀ L5, K 3 [some (.ref 7), some (.int (nI m)), some (.int (nI t)), some (.int (nI r)), some (.int (nI b)), L5] [] (hM1 z N vs g) 0 0 := by
        intro e L5
        rw [if_neg e] at hq
        refine hK 3 _ _ _ _ _ _ _ _ rfl ?_
        dsimp only [k_M_reason_3, hN1, hB, hM1, hM, wpI, xop, xcall, xli, xlj, xlf, xld, xla, xlg, xst, xst2, xc1, pI, pJ, pF, pD, pR, pA, p1, p0, xpop, xpush, xsm, xhas, xif, xic, xsw, xai, xal, xhi, xhv, xrf, xret, xrtl, xrtf, xrtd, xrta, xrtv, xfit, xnew, cond_true, cond_false, f40, f41, f42, f43, List.length_cons, List.length_nil, Nat.reduceAdd, Nat.reduceSub, Nat.reduceMul, Nat.reduceBEq, List.map_cons, List.map_nil, List.headD_cons, List.getElem?_cons_zero, List.getElem?_cons_succ, List.set_cons_zero, List.set_cons_succ]
        refine hK 4 _ _ _ _ _ _ _ _ rfl ?_
        dsimp only [k_M_reason_4, hN1, hB, hM1, hM, wpI, xop, xcall, xli, xlj, xlf, xld, xla, xlg, xst, xst2, xc1, pI, pJ, pF, pD, pR, pA, p1, p0, xpop, xpush, xsm, xhas, xif, xic, xsw, xai, xal, xhi, xhv, xrf, xret, xrtl, xrtf, xrtd, xrta, xrtv, xfit, xnew, cond_true, cond_false, f40, f41, f42, f43, List.length_cons, List.length_nil, Nat.reduceAdd, Nat.reduceSub, Nat.reduceMul, Nat.reduceBEq, List.map_cons, List.map_nil, List.headD_cons, List.getElem?_cons_zero, List.getElem?_cons_succ, List.set_cons_zero, List.set_cons_succ]
        exact ⟨Nat.le_refl _, Nat.le_refl _, hq⟩
      refine hK 2 _ _ _ _ _ _ _ _ rfl ?_
      dsimp only [k_M_reason_2, hN1, hB, hM1, hM, wpI, xop, xcall, xli, xlj, xlf, xld, xla, xlg, xst, xst2, xc1, pI, pJ, pF, pD, pR, pA, p1, p0, xpop, xpush, xsm, xhas, xif, xic, xsw, xai, xal, xhi, xhv, xrf, xret, xrtl, xrtf, xrtd, xrta, xrtv, xfit, xnew, cond_true, cond_false, f40, f41, f42, f43, List.length_cons, List.length_nil, Nat.reduceAdd, Nat.reduceSub, Nat.reduceMul, Nat.reduceBEq, List.map_cons, List.map_nil, List.headD_cons, List.getElem?_cons_zero, List.getElem?_cons_succ, List.set_cons_zero, List.set_cons_succ]
      refine Ev_use (ev_M_robbed _ m t r b _ hm ht hr hb) ?_
      dsimp only [hN1, hB, hM1, hM, wpI, xop, xcall, xli, xlj, xlf, xld, xla, xlg, xst, xst2, xc1, pI, pJ, pF, pD, pR, pA, p1, p0, xpop, xpush, xsm, xhas, xif, xic, xsw, xai, xal, xhi, xhv, xrf, xret, xrtl, xrtf, xrtd, xrta, xrtv, xfit, xnew, cond_true, cond_false, f40, f41, f42, f43, List.length_cons, List.length_nil, Nat.reduceAdd, Nat.reduceSub, Nat.reduceMul, Nat.reduceBEq, List.map_cons, List.map_nil, List.headD_cons, List.getElem?_cons_zero, List.getElem?_cons_succ, List.set_cons_zero, List.set_cons_succ]
      try simp (disch := first | omega | (simp only [List.length_set]; omega)) only [nI_add, n_and, n_or, n_xor, n_i31, nI_leI, nI_ltI, n_e0, n_eq, n_m1e, n_l0, n_g0, n_p0, n_q0, n_cl, n_in, n_sub, n_shr, n_shl, n_div, bI_0, n_01, n_11, bI_or, not_false_eq_true, forall_const, not_true_eq_false, false_imp_iff, true_imp_iff, List.length_map, List.length_set, hN, nL_u, gs_eq, gs_ne, nI_set, Nat.reduceLT, true_and, and_true, pk_mul]
      refine ⟨fun y3 => f3 (fun q => y3 q.1) _, fun y3 => ?_⟩
      refine Ev_use (ev_M_fallen _ _ _ hl) ?_
      dsimp only [hN1, hB, hM1, hM, wpI, xop, xcall, xli, xlj, xlf, xld, xla, xlg, xst, xst2, xc1, pI, pJ, pF, pD, pR, pA, p1, p0, xpop, xpush, xsm, xhas, xif, xic, xsw, xai, xal, xhi, xhv, xrf, xret, xrtl, xrtf, xrtd, xrta, xrtv, xfit, xnew, cond_true, cond_false, f40, f41, f42, f43, List.length_cons, List.length_nil, Nat.reduceAdd, Nat.reduceSub, Nat.reduceMul, Nat.reduceBEq, List.map_cons, List.map_nil, List.headD_cons, List.getElem?_cons_zero, List.getElem?_cons_succ, List.set_cons_zero, List.set_cons_succ]
      try simp (disch := first | omega | (simp only [List.length_set]; omega)) only [nI_add, n_and, n_or, n_xor, n_i31, nI_leI, nI_ltI, n_e0, n_eq, n_m1e, n_l0, n_g0, n_p0, n_q0, n_cl, n_in, n_sub, n_shr, n_shl, n_div, bI_0, n_01, n_11, bI_or, not_false_eq_true, forall_const, not_true_eq_false, false_imp_iff, true_imp_iff, List.length_map, List.length_set, hN, nL_u, gs_eq, gs_ne, nI_set, Nat.reduceLT, true_and, and_true, pk_mul]
      refine ⟨fun y4 => f3 (fun q => q.2 y4) _, fun y4 => ?_⟩
      rw [if_pos ⟨y3, y4⟩] at hq
      refine hK 4 _ _ _ _ _ _ _ _ rfl ?_
      dsimp only [k_M_reason_4, hN1, hB, hM1, hM, wpI, xop, xcall, xli, xlj, xlf, xld, xla, xlg, xst, xst2, xc1, pI, pJ, pF, pD, pR, pA, p1, p0, xpop, xpush, xsm, xhas, xif, xic, xsw, xai, xal, xhi, xhv, xrf, xret, xrtl, xrtf, xrtd, xrta, xrtv, xfit, xnew, cond_true, cond_false, f40, f41, f42, f43, List.length_cons, List.length_nil, Nat.reduceAdd, Nat.reduceSub, Nat.reduceMul, Nat.reduceBEq, List.map_cons, List.map_nil, List.headD_cons, List.getElem?_cons_zero, List.getElem?_cons_succ, List.set_cons_zero, List.set_cons_succ]
      exact ⟨Nat.le_refl _, Nat.le_refl _, hq⟩
    · rw [if_pos (by omega)] at hq
      exact ⟨Nat.le_refl _, Nat.le_refl _, hq⟩
  · rw [if_pos (by omega)] at hq
    exact ⟨Nat.le_refl _, Nat.le_refl _, hq⟩
