/-! the model: what a text's next character is -/
def ltr (T : List Nat) (len at' : Nat) : Nat := if at' < len then T.getD at' 0 else 0
def acB (T : List Nat) (len at' lo hi : Nat) : Bool := decide (lo ≤ ltr T len at') && decide (ltr T len at' ≤ hi)
def acN (T : List Nat) (len at' lo hi : Nat) : Nat := if acB T len at' lo hi = true then at' + 1 else at'
theorem ltr_lt {T : List Nat} {len at' : Nat} (hC : ∀ j, T.getD j 0 < 128) : ltr T len at' < 128 := by
  unfold ltr
  split
  · exact hC _
  · decide
theorem inB_nI {c lo hi : Nat} (h1 : c < 2 ^ 31) (h2 : lo < 2 ^ 31) (h3 : hi < 2 ^ 31) : inB (nI c) (nI lo) (nI hi) = (decide (lo ≤ c) && decide (c ≤ hi)) := by
  unfold inB
  rw [decide_eq_decide.mpr (nI_leI h2 h1), decide_eq_decide.mpr (nI_leI h1 h3)]
set_option maxRecDepth 100000 in
set_option maxHeartbeats 4000000 in
theorem ev_M_accepts (d lo hi : Nat) (z : Nat → xC) (N B K' T O R D : List Nat) (laid : Int32) (len st many at' thr : Nat) (isK : Bool) (g : xH) (hT : T.length = 60) (hC : ∀ j, T.getD j 0 < 128) (hl : len ≤ 60) (ha : at' < 1000) (h1 : 0 < lo) (h2 : lo < 1000) (h3 : hi < 1000) :
    Ev xT (d + 2) N_M_accepts [.ref 7, .int (nI lo), .int (nI hi)] (hM z N B K' T O R D laid len st many at' thr isK g) (Rt (some (.int (bI (acB T len at' lo hi)))) (hM z N B K' T O R D laid len st many (acN T len at' lo hi) thr isK g)) NX := by
  refine Ev_intro t_M_accepts (Nat.le_of_ble_eq_true rfl) ?_
  intro Q X hQ hX K hK
  show K 0 [some (.ref 7), some (.int (nI lo)), some (.int (nI hi)), none] [] _ 0 0
  have hq := hQ _ _ ⟨rfl, rfl⟩
  have hN := hT
  unfold acN at hq
  have go2 : ∀ b : Bool, b = acB T len at' lo hi → K 2 [some (.ref 7), some (.int (nI lo)), some (.int (nI hi)), none] [.int (bI b)] (hM z N B K' T O R D laid len st many at' thr isK g) 0 0 := by
    intro b hb
    rw [← hb] at hq
    refine hK 2 _ _ _ _ _ _ _ _ rfl ?_
    dsimp only [k_M_accepts_2, hN1, hB, hM1, hM, wpI, xop, xcall, xli, xlj, xlf, xld, xla, xlg, xst, xst2, xc1, pI, pJ, pF, pD, pR, pA, p1, p0, xpop, xpush, xsm, xhas, xif, xic, xsw, xai, xal, xhi, xhv, xrf, xret, xrtl, xrtf, xrtd, xrta, xrtv, xfit, xnew, cond_true, cond_false, f40, f41, f42, f43, List.length_cons, List.length_nil, Nat.reduceAdd, Nat.reduceSub, Nat.reduceMul, Nat.reduceBEq, List.map_cons, List.map_nil, List.headD_cons, List.getElem?_cons_zero, List.getElem?_cons_succ, List.set_cons_zero, List.set_cons_succ]
    rw [bI_0]
    refine ⟨fun y => ?_, fun y => ?_⟩
    · subst y
      refine hK 3 _ _ _ _ _ _ _ _ rfl ?_
      dsimp only [k_M_accepts_3, hN1, hB, hM1, hM, wpI, xop, xcall, xli, xlj, xlf, xld, xla, xlg, xst, xst2, xc1, pI, pJ, pF, pD, pR, pA, p1, p0, xpop, xpush, xsm, xhas, xif, xic, xsw, xai, xal, xhi, xhv, xrf, xret, xrtl, xrtf, xrtd, xrta, xrtv, xfit, xnew, cond_true, cond_false, f40, f41, f42, f43, List.length_cons, List.length_nil, Nat.reduceAdd, Nat.reduceSub, Nat.reduceMul, Nat.reduceBEq, List.map_cons, List.map_nil, List.headD_cons, List.getElem?_cons_zero, List.getElem?_cons_succ, List.set_cons_zero, List.set_cons_succ]
      refine hK 4 _ _ _ _ _ _ _ _ rfl ?_
      dsimp only [k_M_accepts_4, hN1, hB, hM1, hM, wpI, xop, xcall, xli, xlj, xlf, xld, xla, xlg, xst, xst2, xc1, pI, pJ, pF, pD, pR, pA, p1, p0, xpop, xpush, xsm, xhas, xif, xic, xsw, xai, xal, xhi, xhv, xrf, xret, xrtl, xrtf, xrtd, xrta, xrtv, xfit, xnew, cond_true, cond_false, f40, f41, f42, f43, List.length_cons, List.length_nil, Nat.reduceAdd, Nat.reduceSub, Nat.reduceMul, Nat.reduceBEq, List.map_cons, List.map_nil, List.headD_cons, List.getElem?_cons_zero, List.getElem?_cons_succ, List.set_cons_zero, List.set_cons_succ]
      try simp (disch := omega) only [nI_add, n_and, n_or, n_xor, n_i31, nI_leI, nI_ltI, n_e0, n_eq, n_m1e, n_l0, n_g0, n_p0, n_q0, n_cl, n_in, n_sub, n_shr, n_shl, n_div, bI_0, n_01, n_11, bI_or, not_false_eq_true, forall_const, not_true_eq_false, false_imp_iff, true_imp_iff]
      exact ⟨by decide, Nat.le_refl _, Nat.le_refl _, hq⟩
    · obtain rfl := b_nf y
      refine hK 4 _ _ _ _ _ _ _ _ rfl ?_
      dsimp only [k_M_accepts_4, hN1, hB, hM1, hM, wpI, xop, xcall, xli, xlj, xlf, xld, xla, xlg, xst, xst2, xc1, pI, pJ, pF, pD, pR, pA, p1, p0, xpop, xpush, xsm, xhas, xif, xic, xsw, xai, xal, xhi, xhv, xrf, xret, xrtl, xrtf, xrtd, xrta, xrtv, xfit, xnew, cond_true, cond_false, f40, f41, f42, f43, List.length_cons, List.length_nil, Nat.reduceAdd, Nat.reduceSub, Nat.reduceMul, Nat.reduceBEq, List.map_cons, List.map_nil, List.headD_cons, List.getElem?_cons_zero, List.getElem?_cons_succ, List.set_cons_zero, List.set_cons_succ]
      try simp (disch := omega) only [nI_add, n_and, n_or, n_xor, n_i31, nI_leI, nI_ltI, n_e0, n_eq, n_m1e, n_l0, n_g0, n_p0, n_q0, n_cl, n_in, n_sub, n_shr, n_shl, n_div, bI_0, n_01, n_11, bI_or, not_false_eq_true, forall_const, not_true_eq_false, false_imp_iff, true_imp_iff]
      exact ⟨by decide, Nat.le_refl _, Nat.le_refl _, hq⟩
  have f1 : acB T len at' lo hi = false → K 1 [some (.ref 7), some (.int (nI lo)), some (.int (nI hi)), none] [] (hM z N B K' T O R D laid len st many at' thr isK g) 0 0 := by
    intro e
    refine hK 1 _ _ _ _ _ _ _ _ rfl ?_
    dsimp only [k_M_accepts_1, hN1, hB, hM1, hM, wpI, xop, xcall, xli, xlj, xlf, xld, xla, xlg, xst, xst2, xc1, pI, pJ, pF, pD, pR, pA, p1, p0, xpop, xpush, xsm, xhas, xif, xic, xsw, xai, xal, xhi, xhv, xrf, xret, xrtl, xrtf, xrtd, xrta, xrtv, xfit, xnew, cond_true, cond_false, f40, f41, f42, f43, List.length_cons, List.length_nil, Nat.reduceAdd, Nat.reduceSub, Nat.reduceMul, Nat.reduceBEq, List.map_cons, List.map_nil, List.headD_cons, List.getElem?_cons_zero, List.getElem?_cons_succ, List.set_cons_zero, List.set_cons_succ]
    exact go2 false e.symm
  refine hK 0 _ _ _ _ _ _ _ _ rfl ?_
  dsimp only [k_M_accepts_0, hN1, hB, hM1, hM, wpI, xop, xcall, xli, xlj, xlf, xld, xla, xlg, xst, xst2, xc1, pI, pJ, pF, pD, pR, pA, p1, p0, xpop, xpush, xsm, xhas, xif, xic, xsw, xai, xal, xhi, xhv, xrf, xret, xrtl, xrtf, xrtd, xrta, xrtv, xfit, xnew, cond_true, cond_false, f40, f41, f42, f43, List.length_cons, List.length_nil, Nat.reduceAdd, Nat.reduceSub, Nat.reduceMul, Nat.reduceBEq, List.map_cons, List.map_nil, List.headD_cons, List.getElem?_cons_zero, List.getElem?_cons_succ, List.set_cons_zero, List.set_cons_succ]
  try simp (disch := first | omega | (simp only [List.length_set]; omega)) only [nI_add, n_and, n_or, n_xor, n_i31, nI_leI, nI_ltI, n_e0, n_eq, n_m1e, n_l0, n_g0, n_p0, n_q0, n_cl, n_in, n_sub, n_shr, n_shl, n_div, bI_0, n_01, n_11, bI_or, not_false_eq_true, forall_const, not_true_eq_false, false_imp_iff, true_imp_iff, List.length_map, List.length_set, hN, nL_u, gs_eq, gs_ne, nI_set, Nat.reduceLT, true_and, and_true, pk_mul]
  refine ⟨fun y => f1 ?_, fun y => ?_⟩
  · unfold acB ltr
    rw [if_neg (by omega), decide_eq_false (by omega)]
    rfl
  · refine ⟨by omega, ?_⟩
    have hc := hC at'
    have e : acB T len at' lo hi = inB (nI (T.getD at' 0)) (nI lo) (nI hi) := by
      rw [inB_nI (by omega) (by omega) (by omega)]
      unfold acB ltr
      rw [if_pos (by omega)]
    refine Ev_use (ev_M_in _ _ _ _ _) ?_
    dsimp only [hN1, hB, hM1, hM, wpI, xop, xcall, xli, xlj, xlf, xld, xla, xlg, xst, xst2, xc1, pI, pJ, pF, pD, pR, pA, p1, p0, xpop, xpush, xsm, xhas, xif, xic, xsw, xai, xal, xhi, xhv, xrf, xret, xrtl, xrtf, xrtd, xrta, xrtv, xfit, xnew, cond_true, cond_false, f40, f41, f42, f43, List.length_cons, List.length_nil, Nat.reduceAdd, Nat.reduceSub, Nat.reduceMul, Nat.reduceBEq, List.map_cons, List.map_nil, List.headD_cons, List.getElem?_cons_zero, List.getElem?_cons_succ, List.set_cons_zero, List.set_cons_succ]
    rw [← e, bI_0]
    exact ⟨fun y2 => f1 y2, fun y2 => go2 true (b_nf y2).symm⟩
/-! the model: a part of the text -/
def rdM (T : List Nat) (len at' many : Nat) (O : List Nat) : Bool × Nat × List Nat :=
  if ltr T len at' = 109 ∨ ltr T len at' = 114 then (true, at' + 1, O.set (3 * many) (ltr T len at'))
  else if ltr T len at' = 116 ∨ ltr T len at' = 107 ∨ ltr T len at' = 112 then
    (if 48 ≤ ltr T len (at' + 1) ∧ ltr T len (at' + 1) ≤ 52 then
      (if (if ltr T len at' = 116 then 49 ≤ ltr T len (at' + 2) ∧ ltr T len (at' + 2) ≤ 51 else 48 ≤ ltr T len (at' + 2) ∧ ltr T len (at' + 2) ≤ 52 - (ltr T len (at' + 1) - 48)) then
        (true, at' + 3, ((O.set (3 * many) (ltr T len at')).set (3 * many + 1) (ltr T len (at' + 1) - 48)).set (3 * many + 2) (ltr T len (at' + 2) - 48))
      else (false, at' + 2, ((O.set (3 * many) (ltr T len at')).set (3 * many + 1) (ltr T len (at' + 1) - 48)).set (3 * many + 2) 0))
    else (false, at' + 1, O.set (3 * many) (ltr T len at')))
  else (false, at', O.set (3 * many) (ltr T len at'))
theorem acB_t {T : List Nat} {len at' lo hi : Nat} (h : lo ≤ ltr T len at' ∧ ltr T len at' ≤ hi) : acB T len at' lo hi = true := by
  unfold acB
  rw [decide_eq_true h.1, decide_eq_true h.2]
  rfl
theorem acB_f {T : List Nat} {len at' lo hi : Nat} (h : ¬ (lo ≤ ltr T len at' ∧ ltr T len at' ≤ hi)) : acB T len at' lo hi = false := by
  unfold acB
  by_cases h1 : lo ≤ ltr T len at'
  · rw [decide_eq_false (fun q => h ⟨h1, q⟩), Bool.and_false]
  · rw [decide_eq_false h1, Bool.false_and]
theorem acN_t {T : List Nat} {len at' lo hi : Nat} (h : lo ≤ ltr T len at' ∧ ltr T len at' ≤ hi) : acN T len at' lo hi = at' + 1 := by
  unfold acN
  rw [if_pos (acB_t h)]
theorem acN_f {T : List Nat} {len at' lo hi : Nat} (h : ¬ (lo ≤ ltr T len at' ∧ ltr T len at' ≤ hi)) : acN T len at' lo hi = at' := by
  unfold acN
  rw [if_neg (by rw [acB_f h]; decide)]
theorem ltr_in {T : List Nat} {len at' : Nat} (h : 0 < ltr T len at') : at' < len ∧ ltr T len at' = T.getD at' 0 := by
  unfold ltr at h ⊢
  by_cases e : at' < len
  · rw [if_pos e]
    exact ⟨e, rfl⟩
  · rw [if_neg e] at h
    exact absurd h (by decide)
set_option maxRecDepth 100000 in
set_option maxHeartbeats 4000000 in
theorem ev_M_reads (d : Nat) (z : Nat → xC) (N B K' T O R D : List Nat) (laid : Int32) (len st many at' thr : Nat) (isK : Bool) (g : xH) (hT : T.length = 60) (hC : ∀ j, T.getD j 0 < 128) (hl : len ≤ 60) (ha : at' ≤ 60) (hO : O.length = 120) (hm : many ≤ 30) :
    Ev xT (d + 3) N_M_reads [.ref 7] (hM z N B K' T O R D laid len st many at' thr isK g) (Rt (some (.int (bI (rdM T len at' many O).1))) (hM z N B K' T ((rdM T len at' many O).2.2) R D laid len st (if (rdM T len at' many O).1 = true then many + 1 else many) ((rdM T len at' many O).2.1) thr isK g)) NX := by
  refine Ev_intro t_M_reads (Nat.le_of_ble_eq_true rfl) ?_
  intro Q X hQ hX K hK
  show K 0 [some (.ref 7), none, none] [] _ 0 0
  have hq := hQ _ _ ⟨rfl, rfl⟩
  have hN := hT
  have go13 : ∀ (b : Bool) (O : List Nat) (at' : Nat) (L1 : Option Value), Q (some (.int (bI b))) (hM z N B K' T O R D laid len st (if b = true then many + 1 else many) at' thr isK g) → K 11 [some (.ref 7), L1, some (.int (bI b))] [] (hM z N B K' T O R D laid len st many at' thr isK g) 0 0 := by
    intro b O at' L1 hq
    refine hK 11 _ _ _ _ _ _ _ _ rfl ?_
    dsimp only [k_M_reads_11, hN1, hB, hM1, hM, wpI, xop, xcall, xli, xlj, xlf, xld, xla, xlg, xst, xst2, xc1, pI, pJ, pF, pD, pR, pA, p1, p0, xpop, xpush, xsm, xhas, xif, xic, xsw, xai, xal, xhi, xhv, xrf, xret, xrtl, xrtf, xrtd, xrta, xrtv, xfit, xnew, cond_true, cond_false, f40, f41, f42, f43, List.length_cons, List.length_nil, Nat.reduceAdd, Nat.reduceSub, Nat.reduceMul, Nat.reduceBEq, List.map_cons, List.map_nil, List.headD_cons, List.getElem?_cons_zero, List.getElem?_cons_succ, List.set_cons_zero, List.set_cons_succ]
    rw [bI_0]
    refine ⟨fun y => ?_, fun y => ?_⟩
    · subst y
      refine hK 12 _ _ _ _ _ _ _ _ rfl ?_
      dsimp only [k_M_reads_12, hN1, hB, hM1, hM, wpI, xop, xcall, xli, xlj, xlf, xld, xla, xlg, xst, xst2, xc1, pI, pJ, pF, pD, pR, pA, p1, p0, xpop, xpush, xsm, xhas, xif, xic, xsw, xai, xal, xhi, xhv, xrf, xret, xrtl, xrtf, xrtd, xrta, xrtv, xfit, xnew, cond_true, cond_false, f40, f41, f42, f43, List.length_cons, List.length_nil, Nat.reduceAdd, Nat.reduceSub, Nat.reduceMul, Nat.reduceBEq, List.map_cons, List.map_nil, List.headD_cons, List.getElem?_cons_zero, List.getElem?_cons_succ, List.set_cons_zero, List.set_cons_succ]
      refine hK 13 _ _ _ _ _ _ _ _ rfl ?_
      dsimp only [k_M_reads_13, hN1, hB, hM1, hM, wpI, xop, xcall, xli, xlj, xlf, xld, xla, xlg, xst, xst2, xc1, pI, pJ, pF, pD, pR, pA, p1, p0, xpop, xpush, xsm, xhas, xif, xic, xsw, xai, xal, xhi, xhv, xrf, xret, xrtl, xrtf, xrtd, xrta, xrtv, xfit, xnew, cond_true, cond_false, f40, f41, f42, f43, List.length_cons, List.length_nil, Nat.reduceAdd, Nat.reduceSub, Nat.reduceMul, Nat.reduceBEq, List.map_cons, List.map_nil, List.headD_cons, List.getElem?_cons_zero, List.getElem?_cons_succ, List.set_cons_zero, List.set_cons_succ]
      try simp (disch := omega) only [nI_add, n_and, n_or, n_xor, n_i31, nI_leI, nI_ltI, n_e0, n_eq, n_m1e, n_l0, n_g0, n_p0, n_q0, n_cl, n_in, n_sub, n_shr, n_shl, n_div, bI_0, n_01, n_11, bI_or, not_false_eq_true, forall_const, not_true_eq_false, false_imp_iff, true_imp_iff]
      exact ⟨by decide, Nat.le_refl _, Nat.le_refl _, hq⟩
    · obtain rfl := b_nf y
      refine hK 13 _ _ _ _ _ _ _ _ rfl ?_
      dsimp only [k_M_reads_13, hN1, hB, hM1, hM, wpI, xop, xcall, xli, xlj, xlf, xld, xla, xlg, xst, xst2, xc1, pI, pJ, pF, pD, pR, pA, p1, p0, xpop, xpush, xsm, xhas, xif, xic, xsw, xai, xal, xhi, xhv, xrf, xret, xrtl, xrtf, xrtd, xrta, xrtv, xfit, xnew, cond_true, cond_false, f40, f41, f42, f43, List.length_cons, List.length_nil, Nat.reduceAdd, Nat.reduceSub, Nat.reduceMul, Nat.reduceBEq, List.map_cons, List.map_nil, List.headD_cons, List.getElem?_cons_zero, List.getElem?_cons_succ, List.set_cons_zero, List.set_cons_succ]
      try simp (disch := omega) only [nI_add, n_and, n_or, n_xor, n_i31, nI_leI, nI_ltI, n_e0, n_eq, n_m1e, n_l0, n_g0, n_p0, n_q0, n_cl, n_in, n_sub, n_shr, n_shl, n_div, bI_0, n_01, n_11, bI_or, not_false_eq_true, forall_const, not_true_eq_false, false_imp_iff, true_imp_iff]
      exact ⟨by decide, Nat.le_refl _, Nat.le_refl _, hq⟩
  unfold rdM at hq
  have hc := ltr_lt (len := len) (at' := at') hC
  have he := ltr_lt (len := len) (at' := at' + 1) hC
  have hf := ltr_lt (len := len) (at' := at' + 2) hC
  have f5 : ltr T len at' = 109 ∨ ltr T len at' = 114 → K 3 [some (.ref 7), some (.int (nI (3 * many))), none] [] (hM z N B K' T (O.set (3 * many) (ltr T len at')) R D laid len st many (at' + 1) thr isK g) 0 0 := by
    intro e
    rw [if_pos e] at hq
    refine hK 3 _ _ _ _ _ _ _ _ rfl ?_
    dsimp only [k_M_reads_3, hN1, hB, hM1, hM, wpI, xop, xcall, xli, xlj, xlf, xld, xla, xlg, xst, xst2, xc1, pI, pJ, pF, pD, pR, pA, p1, p0, xpop, xpush, xsm, xhas, xif, xic, xsw, xai, xal, xhi, xhv, xrf, xret, xrtl, xrtf, xrtd, xrta, xrtv, xfit, xnew, cond_true, cond_false, f40, f41, f42, f43, List.length_cons, List.length_nil, Nat.reduceAdd, Nat.reduceSub, Nat.reduceMul, Nat.reduceBEq, List.map_cons, List.map_nil, List.headD_cons, List.getElem?_cons_zero, List.getElem?_cons_succ, List.set_cons_zero, List.set_cons_succ]
    refine hK 5 _ _ _ _ _ _ _ _ rfl ?_
    dsimp only [k_M_reads_5, hN1, hB, hM1, hM, wpI, xop, xcall, xli, xlj, xlf, xld, xla, xlg, xst, xst2, xc1, pI, pJ, pF, pD, pR, pA, p1, p0, xpop, xpush, xsm, xhas, xif, xic, xsw, xai, xal, xhi, xhv, xrf, xret, xrtl, xrtf, xrtd, xrta, xrtv, xfit, xnew, cond_true, cond_false, f40, f41, f42, f43, List.length_cons, List.length_nil, Nat.reduceAdd, Nat.reduceSub, Nat.reduceMul, Nat.reduceBEq, List.map_cons, List.map_nil, List.headD_cons, List.getElem?_cons_zero, List.getElem?_cons_succ, List.set_cons_zero, List.set_cons_succ]
    refine ⟨fun _ => ?_, fun y => absurd y (by decide)⟩
    exact go13 true _ _ _ hq
  have f6 : (ltr T len at' = 116 ∨ ltr T len at' = 107 ∨ ltr T len at' = 112) → K 6 [some (.ref 7), some (.int (nI (3 * many))), some (.int (nI 0))] [] (hM z N B K' T (O.set (3 * many) (ltr T len at')) R D laid len st many (at' + 1) thr isK g) 0 0 := by
    intro e
    rw [if_neg (by omega), if_pos e] at hq
    refine hK 6 _ _ _ _ _ _ _ _ rfl ?_
    dsimp only [k_M_reads_6, hN1, hB, hM1, hM, wpI, xop, xcall, xli, xlj, xlf, xld, xla, xlg, xst, xst2, xc1, pI, pJ, pF, pD, pR, pA, p1, p0, xpop, xpush, xsm, xhas, xif, xic, xsw, xai, xal, xhi, xhv, xrf, xret, xrtl, xrtf, xrtd, xrta, xrtv, xfit, xnew, cond_true, cond_false, f40, f41, f42, f43, List.length_cons, List.length_nil, Nat.reduceAdd, Nat.reduceSub, Nat.reduceMul, Nat.reduceBEq, List.map_cons, List.map_nil, List.headD_cons, List.getElem?_cons_zero, List.getElem?_cons_succ, List.set_cons_zero, List.set_cons_succ]
    refine Ev_use (ev_M_accepts _ 48 52 z N B K' T (O.set (3 * many) (ltr T len at')) R D laid len st many (at' + 1) thr isK g hT hC hl (by omega) (by decide) (by decide) (by decide)) ?_
    dsimp only [hN1, hB, hM1, hM, wpI, xop, xcall, xli, xlj, xlf, xld, xla, xlg, xst, xst2, xc1, pI, pJ, pF, pD, pR, pA, p1, p0, xpop, xpush, xsm, xhas, xif, xic, xsw, xai, xal, xhi, xhv, xrf, xret, xrtl, xrtf, xrtd, xrta, xrtv, xfit, xnew, cond_true, cond_false, f40, f41, f42, f43, List.length_cons, List.length_nil, Nat.reduceAdd, Nat.reduceSub, Nat.reduceMul, Nat.reduceBEq, List.map_cons, List.map_nil, List.headD_cons, List.getElem?_cons_zero, List.getElem?_cons_succ, List.set_cons_zero, List.set_cons_succ]
    by_cases e1 : 48 ≤ ltr T len (at' + 1) ∧ ltr T len (at' + 1) ≤ 52
    · rw [if_pos e1] at hq
      rw [acB_t e1, acN_t e1]
      refine ⟨fun y => absurd y (by decide), fun _ => ?_⟩
      obtain ⟨hi1, ei1⟩ := ltr_in (T := T) (len := len) (at' := at' + 1) (by omega)
      have ei2 : T.getD (at' + 1 + 1 - 1) 0 = ltr T len (at' + 1) := ei1.symm
      have f8 : ∀ b : Bool, (b = true ↔ (if ltr T len at' = 116 then 49 ≤ ltr T len (at' + 2) ∧ ltr T len (at' + 2) ≤ 51 else 48 ≤ ltr T len (at' + 2) ∧ ltr T len (at' + 2) ≤ 52 - (ltr T len (at' + 1) - 48))) →
          K 8 [some (.ref 7), some (.int (nI (3 * many))), some (.int (nI 0))] [.int (bI b)] (hM z N B K' T ((O.set (3 * many) (ltr T len at')).set (3 * many + 1) (ltr T len (at' + 1) - 48)) R D laid len st many (if b = true then at' + 3 else at' + 2) thr isK g) 0 0 := by
        intro b hb
        refine hK 8 _ _ _ _ _ _ _ _ rfl ?_
        dsimp only [k_M_reads_8, hN1, hB, hM1, hM, wpI, xop, xcall, xli, xlj, xlf, xld, xla, xlg, xst, xst2, xc1, pI, pJ, pF, pD, pR, pA, p1, p0, xpop, xpush, xsm, xhas, xif, xic, xsw, xai, xal, xhi, xhv, xrf, xret, xrtl, xrtf, xrtd, xrta, xrtv, xfit, xnew, cond_true, cond_false, f40, f41, f42, f43, List.length_cons, List.length_nil, Nat.reduceAdd, Nat.reduceSub, Nat.reduceMul, Nat.reduceBEq, List.map_cons, List.map_nil, List.headD_cons, List.getElem?_cons_zero, List.getElem?_cons_succ, List.set_cons_zero, List.set_cons_succ]
        rw [bI_0]
        refine ⟨fun y => ?_, fun y => ?_⟩
        · subst y
          rw [if_neg (fun q => Bool.noConfusion (hb.mpr q))] at hq
          refine hK 9 _ _ _ _ _ _ _ _ rfl ?_
          dsimp only [k_M_reads_9, hN1, hB, hM1, hM, wpI, xop, xcall, xli, xlj, xlf, xld, xla, xlg, xst, xst2, xc1, pI, pJ, pF, pD, pR, pA, p1, p0, xpop, xpush, xsm, xhas, xif, xic, xsw, xai, xal, xhi, xhv, xrf, xret, xrtl, xrtf, xrtd, xrta, xrtv, xfit, xnew, cond_true, cond_false, f40, f41, f42, f43, List.length_cons, List.length_nil, Nat.reduceAdd, Nat.reduceSub, Nat.reduceMul, Nat.reduceBEq, List.map_cons, List.map_nil, List.headD_cons, List.getElem?_cons_zero, List.getElem?_cons_succ, List.set_cons_zero, List.set_cons_succ]
          refine hK 10 _ _ _ _ _ _ _ _ rfl ?_
          dsimp only [k_M_reads_10, hN1, hB, hM1, hM, wpI, xop, xcall, xli, xlj, xlf, xld, xla, xlg, xst, xst2, xc1, pI, pJ, pF, pD, pR, pA, p1, p0, xpop, xpush, xsm, xhas, xif, xic, xsw, xai, xal, xhi, xhv, xrf, xret, xrtl, xrtf, xrtd, xrta, xrtv, xfit, xnew, cond_true, cond_false, f40, f41, f42, f43, List.length_cons, List.length_nil, Nat.reduceAdd, Nat.reduceSub, Nat.reduceMul, Nat.reduceBEq, List.map_cons, List.map_nil, List.headD_cons, List.getElem?_cons_zero, List.getElem?_cons_succ, List.set_cons_zero, List.set_cons_succ]
          try simp (disch := first | omega | (simp only [List.length_set]; omega)) only [nI_add, n_and, n_or, n_xor, n_i31, nI_leI, nI_ltI, n_e0, n_eq, n_m1e, n_l0, n_g0, n_p0, n_q0, n_cl, n_in, n_sub, n_shr, n_shl, n_div, bI_0, n_01, n_11, bI_or, not_false_eq_true, forall_const, not_true_eq_false, false_imp_iff, true_imp_iff, List.length_map, List.length_set, hN, nL_u, gs_eq, gs_ne, nI_set, Nat.reduceLT, true_and, and_true, pk_mul, hO]
          refine ⟨by omega, ?_⟩
          exact go13 false _ _ _ hq
        · obtain rfl := b_nf y
          have hb := hb.mp rfl
          rw [if_pos hb] at hq
          have hb2 : 48 ≤ ltr T len (at' + 2) := by
            by_cases q : ltr T len at' = 116
            · rw [if_pos q] at hb
              omega
            · rw [if_neg q] at hb
              exact hb.1
          obtain ⟨hi2, ej1⟩ := ltr_in (T := T) (len := len) (at' := at' + 2) (by omega)
          have ej2 : T.getD (at' + 3 - 1) 0 = ltr T len (at' + 2) := ej1.symm
          rw [if_pos rfl]
          try simp (disch := first | omega | (simp only [List.length_set]; omega)) only [nI_add, n_and, n_or, n_xor, n_i31, nI_leI, nI_ltI, n_e0, n_eq, n_m1e, n_l0, n_g0, n_p0, n_q0, n_cl, n_in, n_sub, n_shr, n_shl, n_div, bI_0, n_01, n_11, bI_or, not_false_eq_true, forall_const, not_true_eq_false, false_imp_iff, true_imp_iff, List.length_map, List.length_set, hN, nL_u, gs_eq, gs_ne, nI_set, Nat.reduceLT, true_and, and_true, pk_mul, ej2]
          refine ⟨by omega, ?_⟩
          refine hK 10 _ _ _ _ _ _ _ _ rfl ?_
          dsimp only [k_M_reads_10, hN1, hB, hM1, hM, wpI, xop, xcall, xli, xlj, xlf, xld, xla, xlg, xst, xst2, xc1, pI, pJ, pF, pD, pR, pA, p1, p0, xpop, xpush, xsm, xhas, xif, xic, xsw, xai, xal, xhi, xhv, xrf, xret, xrtl, xrtf, xrtd, xrta, xrtv, xfit, xnew, cond_true, cond_false, f40, f41, f42, f43, List.length_cons, List.length_nil, Nat.reduceAdd, Nat.reduceSub, Nat.reduceMul, Nat.reduceBEq, List.map_cons, List.map_nil, List.headD_cons, List.getElem?_cons_zero, List.getElem?_cons_succ, List.set_cons_zero, List.set_cons_succ]
          try simp (disch := first | omega | (simp only [List.length_set]; omega)) only [nI_add, n_and, n_or, n_xor, n_i31, nI_leI, nI_ltI, n_e0, n_eq, n_m1e, n_l0, n_g0, n_p0, n_q0, n_cl, n_in, n_sub, n_shr, n_shl, n_div, bI_0, n_01, n_11, bI_or, not_false_eq_true, forall_const, not_true_eq_false, false_imp_iff, true_imp_iff, List.length_map, List.length_set, hN, nL_u, gs_eq, gs_ne, nI_set, Nat.reduceLT, true_and, and_true, pk_mul, hO]
          refine ⟨by omega, ?_⟩
          exact go13 true _ _ _ hq
      try simp (disch := first | omega | (simp only [List.length_set]; omega)) only [nI_add, n_and, n_or, n_xor, n_i31, nI_leI, nI_ltI, n_e0, n_eq, n_m1e, n_l0, n_g0, n_p0, n_q0, n_cl, n_in, n_sub, n_shr, n_shl, n_div, bI_0, n_01, n_11, bI_or, not_false_eq_true, forall_const, not_true_eq_false, false_imp_iff, true_imp_iff, List.length_map, List.length_set, hN, nL_u, gs_eq, gs_ne, nI_set, Nat.reduceLT, true_and, and_true, pk_mul, ei2, hO]
      refine ⟨by omega, by omega, by omega, ?_⟩
      refine ⟨fun y => ?_, fun y => ?_⟩
      · have f8 := fun b q => f8 b (by rw [if_neg y]; exact q)
        refine hK 7 _ _ _ _ _ _ _ _ rfl ?_
        dsimp only [k_M_reads_7, hN1, hB, hM1, hM, wpI, xop, xcall, xli, xlj, xlf, xld, xla, xlg, xst, xst2, xc1, pI, pJ, pF, pD, pR, pA, p1, p0, xpop, xpush, xsm, xhas, xif, xic, xsw, xai, xal, xhi, xhv, xrf, xret, xrtl, xrtf, xrtd, xrta, xrtv, xfit, xnew, cond_true, cond_false, f40, f41, f42, f43, List.length_cons, List.length_nil, Nat.reduceAdd, Nat.reduceSub, Nat.reduceMul, Nat.reduceBEq, List.map_cons, List.map_nil, List.headD_cons, List.getElem?_cons_zero, List.getElem?_cons_succ, List.set_cons_zero, List.set_cons_succ]
        try simp (disch := first | omega | (simp only [List.length_set]; omega)) only [nI_add, n_and, n_or, n_xor, n_i31, nI_leI, nI_ltI, n_e0, n_eq, n_m1e, n_l0, n_g0, n_p0, n_q0, n_cl, n_in, n_sub, n_shr, n_shl, n_div, bI_0, n_01, n_11, bI_or, not_false_eq_true, forall_const, not_true_eq_false, false_imp_iff, true_imp_iff, List.length_map, List.length_set, hN, nL_u, gs_eq, gs_ne, nI_set, Nat.reduceLT, true_and, and_true, pk_mul, hO]
        refine ⟨by omega, ?_⟩
        refine Ev_use (ev_M_accepts _ 48 (52 - (ltr T len (at' + 1) - 48)) z N B K' T ((O.set (3 * many) (ltr T len at')).set (3 * many + 1) (ltr T len (at' + 1) - 48)) R D laid len st many (at' + 2) thr isK g hT hC hl (by omega) (by decide) (by decide) (by omega)) ?_
        dsimp only [hN1, hB, hM1, hM, wpI, xop, xcall, xli, xlj, xlf, xld, xla, xlg, xst, xst2, xc1, pI, pJ, pF, pD, pR, pA, p1, p0, xpop, xpush, xsm, xhas, xif, xic, xsw, xai, xal, xhi, xhv, xrf, xret, xrtl, xrtf, xrtd, xrta, xrtv, xfit, xnew, cond_true, cond_false, f40, f41, f42, f43, List.length_cons, List.length_nil, Nat.reduceAdd, Nat.reduceSub, Nat.reduceMul, Nat.reduceBEq, List.map_cons, List.map_nil, List.headD_cons, List.getElem?_cons_zero, List.getElem?_cons_succ, List.set_cons_zero, List.set_cons_succ]
        by_cases e2 : 48 ≤ ltr T len (at' + 2) ∧ ltr T len (at' + 2) ≤ 52 - (ltr T len (at' + 1) - 48)
        · rw [acB_t e2, acN_t e2]
          exact f8 true ⟨fun _ => e2, fun _ => rfl⟩
        · rw [acB_f e2, acN_f e2]
          exact f8 false ⟨fun q => Bool.noConfusion q, fun q => (e2 q).elim⟩
      · have f8 := fun b q => f8 b (by rw [if_pos y]; exact q)
        refine Ev_use (ev_M_accepts _ 49 51 z N B K' T ((O.set (3 * many) (ltr T len at')).set (3 * many + 1) (ltr T len (at' + 1) - 48)) R D laid len st many (at' + 2) thr isK g hT hC hl (by omega) (by decide) (by decide) (by omega)) ?_
        dsimp only [hN1, hB, hM1, hM, wpI, xop, xcall, xli, xlj, xlf, xld, xla, xlg, xst, xst2, xc1, pI, pJ, pF, pD, pR, pA, p1, p0, xpop, xpush, xsm, xhas, xif, xic, xsw, xai, xal, xhi, xhv, xrf, xret, xrtl, xrtf, xrtd, xrta, xrtv, xfit, xnew, cond_true, cond_false, f40, f41, f42, f43, List.length_cons, List.length_nil, Nat.reduceAdd, Nat.reduceSub, Nat.reduceMul, Nat.reduceBEq, List.map_cons, List.map_nil, List.headD_cons, List.getElem?_cons_zero, List.getElem?_cons_succ, List.set_cons_zero, List.set_cons_succ]
        by_cases e2 : 49 ≤ ltr T len (at' + 2) ∧ ltr T len (at' + 2) ≤ 51
        · rw [acB_t e2, acN_t e2]
          exact f8 true ⟨fun _ => e2, fun _ => rfl⟩
        · rw [acB_f e2, acN_f e2]
          exact f8 false ⟨fun q => Bool.noConfusion q, fun q => (e2 q).elim⟩
    · rw [if_neg e1] at hq
      rw [acB_f e1, acN_f e1]
      refine ⟨fun _ => ?_, fun y => absurd (by decide) y⟩
      exact go13 false _ _ _ hq
  have go2 : K 2 [some (.ref 7), some (.int (nI (3 * many))), none] [.int (nI (ltr T len at')), .int (nI (3 * many)), .ref 12] (hM z N B K' T O R D laid len st many at' thr isK g) 0 0 := by
    have acc := fun c (hc : 0 < c) (hc2 : c < 1000) => fun at' (ha : at' < 1000) => ev_M_accepts d c c z N B K' T (O.set (3 * many) (ltr T len at')) R D laid len st many at' thr isK g hT hC hl ha hc hc2 hc2
    refine hK 2 _ _ _ _ _ _ _ _ rfl ?_
    dsimp only [k_M_reads_2, hN1, hB, hM1, hM, wpI, xop, xcall, xli, xlj, xlf, xld, xla, xlg, xst, xst2, xc1, pI, pJ, pF, pD, pR, pA, p1, p0, xpop, xpush, xsm, xhas, xif, xic, xsw, xai, xal, xhi, xhv, xrf, xret, xrtl, xrtf, xrtd, xrta, xrtv, xfit, xnew, cond_true, cond_false, f40, f41, f42, f43, List.length_cons, List.length_nil, Nat.reduceAdd, Nat.reduceSub, Nat.reduceMul, Nat.reduceBEq, List.map_cons, List.map_nil, List.headD_cons, List.getElem?_cons_zero, List.getElem?_cons_succ, List.set_cons_zero, List.set_cons_succ]
    try simp (disch := first | omega | (simp only [List.length_set]; omega)) only [nI_add, n_and, n_or, n_xor, n_i31, nI_leI, nI_ltI, n_e0, n_eq, n_m1e, n_l0, n_g0, n_p0, n_q0, n_cl, n_in, n_sub, n_shr, n_shl, n_div, bI_0, n_01, n_11, bI_or, not_false_eq_true, forall_const, not_true_eq_false, false_imp_iff, true_imp_iff, List.length_map, List.length_set, hN, nL_u, gs_eq, gs_ne, nI_set, Nat.reduceLT, true_and, and_true, pk_mul, hO]
    refine ⟨by omega, ?_⟩
    refine Ev_use (acc 109 (by decide) (by decide) at' (by omega)) ?_
    dsimp only [hN1, hB, hM1, hM, wpI, xop, xcall, xli, xlj, xlf, xld, xla, xlg, xst, xst2, xc1, pI, pJ, pF, pD, pR, pA, p1, p0, xpop, xpush, xsm, xhas, xif, xic, xsw, xai, xal, xhi, xhv, xrf, xret, xrtl, xrtf, xrtd, xrta, xrtv, xfit, xnew, cond_true, cond_false, f40, f41, f42, f43, List.length_cons, List.length_nil, Nat.reduceAdd, Nat.reduceSub, Nat.reduceMul, Nat.reduceBEq, List.map_cons, List.map_nil, List.headD_cons, List.getElem?_cons_zero, List.getElem?_cons_succ, List.set_cons_zero, List.set_cons_succ]
    by_cases e1 : ltr T len at' = 109
    · rw [acB_t (by omega), acN_t (by omega)]
      refine ⟨fun _ => ?_, fun y => absurd y (by decide)⟩
      exact f5 (Or.inl e1)
    rw [acB_f (by omega), acN_f (by omega)]
    refine ⟨fun y => absurd (by decide) y, fun _ => ?_⟩
    refine Ev_use (acc 114 (by decide) (by decide) at' (by omega)) ?_
    dsimp only [hN1, hB, hM1, hM, wpI, xop, xcall, xli, xlj, xlf, xld, xla, xlg, xst, xst2, xc1, pI, pJ, pF, pD, pR, pA, p1, p0, xpop, xpush, xsm, xhas, xif, xic, xsw, xai, xal, xhi, xhv, xrf, xret, xrtl, xrtf, xrtd, xrta, xrtv, xfit, xnew, cond_true, cond_false, f40, f41, f42, f43, List.length_cons, List.length_nil, Nat.reduceAdd, Nat.reduceSub, Nat.reduceMul, Nat.reduceBEq, List.map_cons, List.map_nil, List.headD_cons, List.getElem?_cons_zero, List.getElem?_cons_succ, List.set_cons_zero, List.set_cons_succ]
    by_cases e2 : ltr T len at' = 114
    · rw [acB_t (by omega), acN_t (by omega)]
      refine ⟨fun y => absurd y (by decide), fun _ => ?_⟩
      exact f5 (Or.inr e2)
    rw [acB_f (by omega), acN_f (by omega)]
    refine ⟨fun _ => ?_, fun y => absurd (by decide) y⟩
    refine hK 4 _ _ _ _ _ _ _ _ rfl ?_
    dsimp only [k_M_reads_4, hN1, hB, hM1, hM, wpI, xop, xcall, xli, xlj, xlf, xld, xla, xlg, xst, xst2, xc1, pI, pJ, pF, pD, pR, pA, p1, p0, xpop, xpush, xsm, xhas, xif, xic, xsw, xai, xal, xhi, xhv, xrf, xret, xrtl, xrtf, xrtd, xrta, xrtv, xfit, xnew, cond_true, cond_false, f40, f41, f42, f43, List.length_cons, List.length_nil, Nat.reduceAdd, Nat.reduceSub, Nat.reduceMul, Nat.reduceBEq, List.map_cons, List.map_nil, List.headD_cons, List.getElem?_cons_zero, List.getElem?_cons_succ, List.set_cons_zero, List.set_cons_succ]
    refine hK 5 _ _ _ _ _ _ _ _ rfl ?_
    dsimp only [k_M_reads_5, hN1, hB, hM1, hM, wpI, xop, xcall, xli, xlj, xlf, xld, xla, xlg, xst, xst2, xc1, pI, pJ, pF, pD, pR, pA, p1, p0, xpop, xpush, xsm, xhas, xif, xic, xsw, xai, xal, xhi, xhv, xrf, xret, xrtl, xrtf, xrtd, xrta, xrtv, xfit, xnew, cond_true, cond_false, f40, f41, f42, f43, List.length_cons, List.length_nil, Nat.reduceAdd, Nat.reduceSub, Nat.reduceMul, Nat.reduceBEq, List.map_cons, List.map_nil, List.headD_cons, List.getElem?_cons_zero, List.getElem?_cons_succ, List.set_cons_zero, List.set_cons_succ]
    refine ⟨fun y => absurd (by decide) y, fun _ => ?_⟩
    refine Ev_use (acc 116 (by decide) (by decide) at' (by omega)) ?_
    dsimp only [hN1, hB, hM1, hM, wpI, xop, xcall, xli, xlj, xlf, xld, xla, xlg, xst, xst2, xc1, pI, pJ, pF, pD, pR, pA, p1, p0, xpop, xpush, xsm, xhas, xif, xic, xsw, xai, xal, xhi, xhv, xrf, xret, xrtl, xrtf, xrtd, xrta, xrtv, xfit, xnew, cond_true, cond_false, f40, f41, f42, f43, List.length_cons, List.length_nil, Nat.reduceAdd, Nat.reduceSub, Nat.reduceMul, Nat.reduceBEq, List.map_cons, List.map_nil, List.headD_cons, List.getElem?_cons_zero, List.getElem?_cons_succ, List.set_cons_zero, List.set_cons_succ]
    by_cases e3 : ltr T len at' = 116
    · rw [acB_t (by omega), acN_t (by omega)]
      refine ⟨fun _ => ?_, fun y => absurd y (by decide)⟩
      exact f6 (Or.inl e3)
    rw [acB_f (by omega), acN_f (by omega)]
    refine ⟨fun y => absurd (by decide) y, fun _ => ?_⟩
    refine Ev_use (acc 107 (by decide) (by decide) at' (by omega)) ?_
    dsimp only [hN1, hB, hM1, hM, wpI, xop, xcall, xli, xlj, xlf, xld, xla, xlg, xst, xst2, xc1, pI, pJ, pF, pD, pR, pA, p1, p0, xpop, xpush, xsm, xhas, xif, xic, xsw, xai, xal, xhi, xhv, xrf, xret, xrtl, xrtf, xrtd, xrta, xrtv, xfit, xnew, cond_true, cond_false, f40, f41, f42, f43, List.length_cons, List.length_nil, Nat.reduceAdd, Nat.reduceSub, Nat.reduceMul, Nat.reduceBEq, List.map_cons, List.map_nil, List.headD_cons, List.getElem?_cons_zero, List.getElem?_cons_succ, List.set_cons_zero, List.set_cons_succ]
    by_cases e4 : ltr T len at' = 107
    · rw [acB_t (by omega), acN_t (by omega)]
      refine ⟨fun _ => ?_, fun y => absurd y (by decide)⟩
      exact f6 (Or.inr (Or.inl e4))
    rw [acB_f (by omega), acN_f (by omega)]
    refine ⟨fun y => absurd (by decide) y, fun _ => ?_⟩
    refine Ev_use (acc 112 (by decide) (by decide) at' (by omega)) ?_
    dsimp only [hN1, hB, hM1, hM, wpI, xop, xcall, xli, xlj, xlf, xld, xla, xlg, xst, xst2, xc1, pI, pJ, pF, pD, pR, pA, p1, p0, xpop, xpush, xsm, xhas, xif, xic, xsw, xai, xal, xhi, xhv, xrf, xret, xrtl, xrtf, xrtd, xrta, xrtv, xfit, xnew, cond_true, cond_false, f40, f41, f42, f43, List.length_cons, List.length_nil, Nat.reduceAdd, Nat.reduceSub, Nat.reduceMul, Nat.reduceBEq, List.map_cons, List.map_nil, List.headD_cons, List.getElem?_cons_zero, List.getElem?_cons_succ, List.set_cons_zero, List.set_cons_succ]
    by_cases e5 : ltr T len at' = 112
    · rw [acB_t (by omega), acN_t (by omega)]
      refine ⟨fun y => absurd y (by decide), fun _ => ?_⟩
      exact f6 (Or.inr (Or.inr e5))
    rw [acB_f (by omega), acN_f (by omega)]
    refine ⟨fun _ => ?_, fun y => absurd (by decide) y⟩
    rw [if_neg (by omega), if_neg (by omega)] at hq
    exact go13 false _ _ _ hq
  refine hK 0 _ _ _ _ _ _ _ _ rfl ?_
  dsimp only [k_M_reads_0, hN1, hB, hM1, hM, wpI, xop, xcall, xli, xlj, xlf, xld, xla, xlg, xst, xst2, xc1, pI, pJ, pF, pD, pR, pA, p1, p0, xpop, xpush, xsm, xhas, xif, xic, xsw, xai, xal, xhi, xhv, xrf, xret, xrtl, xrtf, xrtd, xrta, xrtv, xfit, xnew, cond_true, cond_false, f40, f41, f42, f43, List.length_cons, List.length_nil, Nat.reduceAdd, Nat.reduceSub, Nat.reduceMul, Nat.reduceBEq, List.map_cons, List.map_nil, List.headD_cons, List.getElem?_cons_zero, List.getElem?_cons_succ, List.set_cons_zero, List.set_cons_succ]
  try simp (disch := first | omega | (simp only [List.length_set]; omega)) only [nI_add, n_and, n_or, n_xor, n_i31, nI_leI, nI_ltI, n_e0, n_eq, n_m1e, n_l0, n_g0, n_p0, n_q0, n_cl, n_in, n_sub, n_shr, n_shl, n_div, bI_0, n_01, n_11, bI_or, not_false_eq_true, forall_const, not_true_eq_false, false_imp_iff, true_imp_iff, List.length_map, List.length_set, hN, nL_u, gs_eq, gs_ne, nI_set, Nat.reduceLT, true_and, and_true, pk_mul]
  refine ⟨fun y => ?_, fun y => ?_⟩
  · have e : ltr T len at' = 0 := by unfold ltr; rw [if_neg (by omega)]
    rw [e] at go2
    refine hK 1 _ _ _ _ _ _ _ _ rfl ?_
    dsimp only [k_M_reads_1, hN1, hB, hM1, hM, wpI, xop, xcall, xli, xlj, xlf, xld, xla, xlg, xst, xst2, xc1, pI, pJ, pF, pD, pR, pA, p1, p0, xpop, xpush, xsm, xhas, xif, xic, xsw, xai, xal, xhi, xhv, xrf, xret, xrtl, xrtf, xrtd, xrta, xrtv, xfit, xnew, cond_true, cond_false, f40, f41, f42, f43, List.length_cons, List.length_nil, Nat.reduceAdd, Nat.reduceSub, Nat.reduceMul, Nat.reduceBEq, List.map_cons, List.map_nil, List.headD_cons, List.getElem?_cons_zero, List.getElem?_cons_succ, List.set_cons_zero, List.set_cons_succ]
    exact go2
  · have e : ltr T len at' = T.getD at' 0 := by unfold ltr; rw [if_pos (by omega)]
    rw [e] at go2
    refine ⟨by omega, ?_⟩
    exact go2
