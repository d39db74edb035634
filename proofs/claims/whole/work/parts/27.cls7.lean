/-! ===== the class: the texts read ===== -/
def nxN (s c : Nat) : Option Nat := if s = 0 then (if c = 116 then some 2 else if c = 107 ∨ c = 112 then some 3 else if c = 109 ∨ c = 114 then some 1 else none) else if s = 1 then (if c = 59 then some 0 else none) else
  if s = 2 then (if digB c 0 4 then some 4 else none) else if s = 3 then (if digB c 0 4 then some (10 + (c - 48)) else none) else if s = 4 then (if digB c 1 3 then some 1 else none) else if s < 10 then none else
  if digB c 0 (14 - s) then some 1 else none
theorem oI_ite (p : Prop) [Decidable p] (a b : Option Nat) : oI (if p then a else b) = if p then oI a else oI b := by
  by_cases h : p
  · rw [if_pos h, if_pos h]
  · rw [if_neg h, if_neg h]
theorem nxt_oI (s c : Nat) : nxtI s c = oI (nxN s c) := by
  unfold nxtI nxN aftI
  simp only [oI_ite]
  rfl
theorem dig_le {c lo hi : Nat} (h : digB c lo hi = true) : 48 + lo ≤ c ∧ c ≤ 48 + hi := by
  unfold digB at h
  rw [Bool.and_eq_true, decide_eq_true_eq, decide_eq_true_eq] at h
  exact h
theorem nxN_lt {s c t : Nat} (h : nxN s c = some t) : t < 15 := by
  unfold nxN at h
  repeat' split at h
  all_goals first
    | (have h := Option.some.inj h; subst h; first | decide | (rename_i q; have := dig_le q; omega))
    | exact absurd h (by simp)
def nxB (s : Option Nat) (c : Nat) : Option Nat := s.bind fun s => nxN s c
def okS (s : Option Nat) : Prop := ∀ t, s = some t → t < 15
theorem okS_0 : okS (some 0) := fun t h => by
  have h := Option.some.inj h
  omega
theorem okS_n {s : Option Nat} {c : Nat} : okS (nxB s c) := by
  intro t h
  cases s with
  | none => exact absurd h (by simp [nxB])
  | some s => exact nxN_lt h
set_option maxRecDepth 100000 in
set_option maxHeartbeats 4000000 in
theorem ev_nextO (d c : Nat) (s : Option Nat) (h : xH) (hs : okS s) (hc : c < 65536) : Ev xT (d + 2) N_G_next [.int (oI s), .int (nI c)] h (Rt (some (.int (oI (nxB s c)))) h) NX := by
  cases s with
  | none => exact ev_next_m1 d c h
  | some s =>
    have e := ev_next d s c h (hs s rfl) hc
    rw [nxt_oI] at e
    exact e
theorem oI_m1 {s : Option Nat} (h : okS s) : oI s = -1 ↔ s = none := by
  cases s with
  | none => exact ⟨fun _ => rfl, fun _ => rfl⟩
  | some s =>
    have := h s rfl
    exact ⟨fun q => ((n_m1e (by omega)).mp q).elim, fun q => absurd q (by simp)⟩
theorem oI_k {s : Option Nat} (h : okS s) {k : Nat} (hk : k < 15) : oI s = nI k ↔ s = some k := by
  cases s with
  | none => exact ⟨fun q => ((n_m1e (a := k) (by omega)).mp q.symm).elim, fun q => absurd q (by simp)⟩
  | some s =>
    have := h s rfl
    constructor
    · intro q
      have q : nI s = nI k := q
      rw [n_eq (by omega) (by omega)] at q
      rw [q]
    · intro q
      rw [q]
      rfl
def feN (C : List Nat) : Nat → Nat → Option Nat → Nat
  | 0, i, _ => i
  | j + 1, i, s => if nxB s (C.getD i 0) = none then i else feN C j (i + 1) (nxB s (C.getD i 0))
set_option maxRecDepth 100000 in
set_option maxHeartbeats 4000000 in
theorem ev_firstError (d : Nat) (N V S C : List Nat) (P : List Value) (sv tl : Nat) (has : Bool) (g : xH) (hC : C.length = 60) (hc : ∀ i, C.getD i 0 < 65536) (ht : tl ≤ 60) :
    Ev xT (d + 3) N_B_firstError [.ref 0] (hB N V S C P sv tl has g) (Rt (some (.int (nI (feN C tl 0 (some 0))))) (hB N V S C P sv tl has g)) NX := by
  refine Ev_intro t_B_firstError (Nat.le_of_ble_eq_true rfl) ?_
  intro Q X hQ hX K hK
  show K 0 [some (.ref 0), none, none] [] _ 0 0
  have hq := hQ _ _ ⟨rfl, rfl⟩
  have hN := hC
  have loop : ∀ (j i : Nat) (s : Option Nat), i + j = tl → okS s → Q (some (.int (nI (feN C j i s)))) (hB N V S C P sv tl has g) → K 1 [some (.ref 0), some (.int (oI s)), some (.int (nI i))] [] (hB N V S C P sv tl has g) 0 0 := by
    intro j
    induction j with
    | zero =>
      intro i s hi hs hq
      obtain rfl : i = tl := by omega
      refine hK 1 _ _ _ _ _ _ _ _ rfl ?_
      dsimp only [k_B_firstError_1, hN1, hB, wpI, xop, xcall, xli, xlj, xlf, xld, xla, xlg, xst, xst2, xc1, pI, pJ, pF, pD, pR, pA, p1, p0, xpop, xpush, xsm, xhas, xif, xic, xsw, xai, xal, xhi, xhv, xrf, xret, xrtl, xrtf, xrtd, xrta, xrtv, xfit, xnew, cond_true, cond_false, f40, f41, f42, f43, List.length_cons, List.length_nil, Nat.reduceAdd, Nat.reduceSub, Nat.reduceMul, Nat.reduceBEq, List.map_cons, List.map_nil, List.headD_cons, List.getElem?_cons_zero, List.getElem?_cons_succ, List.set_cons_zero, List.set_cons_succ]
      try simp (disch := first | omega | (simp only [List.length_set]; omega)) only [nI_add, n_and, n_or, n_xor, n_i31, nI_leI, nI_ltI, n_e0, n_eq, n_m1e, n_l0, n_g0, n_p0, n_q0, n_cl, n_in, n_sub, n_shr, n_shl, n_div, bI_0, n_01, n_11, bI_or, not_false_eq_true, forall_const, not_true_eq_false, false_imp_iff, true_imp_iff, List.length_map, List.length_set, hN, nL_u, gs_eq, gs_ne, nI_set, Nat.reduceLT, true_and, and_true, pk_mul]
      refine br_t (Nat.le_refl _) ?_
      refine hK 3 _ _ _ _ _ _ _ _ rfl ?_
      dsimp only [k_B_firstError_3, hN1, hB, wpI, xop, xcall, xli, xlj, xlf, xld, xla, xlg, xst, xst2, xc1, pI, pJ, pF, pD, pR, pA, p1, p0, xpop, xpush, xsm, xhas, xif, xic, xsw, xai, xal, xhi, xhv, xrf, xret, xrtl, xrtf, xrtd, xrta, xrtv, xfit, xnew, cond_true, cond_false, f40, f41, f42, f43, List.length_cons, List.length_nil, Nat.reduceAdd, Nat.reduceSub, Nat.reduceMul, Nat.reduceBEq, List.map_cons, List.map_nil, List.headD_cons, List.getElem?_cons_zero, List.getElem?_cons_succ, List.set_cons_zero, List.set_cons_succ]
      exact ⟨Nat.le_refl _, Nat.le_refl _, hq⟩
    | succ j ih =>
      intro i s hi hs hq
      rw [feN] at hq
      refine hK 1 _ _ _ _ _ _ _ _ rfl ?_
      dsimp only [k_B_firstError_1, hN1, hB, wpI, xop, xcall, xli, xlj, xlf, xld, xla, xlg, xst, xst2, xc1, pI, pJ, pF, pD, pR, pA, p1, p0, xpop, xpush, xsm, xhas, xif, xic, xsw, xai, xal, xhi, xhv, xrf, xret, xrtl, xrtf, xrtd, xrta, xrtv, xfit, xnew, cond_true, cond_false, f40, f41, f42, f43, List.length_cons, List.length_nil, Nat.reduceAdd, Nat.reduceSub, Nat.reduceMul, Nat.reduceBEq, List.map_cons, List.map_nil, List.headD_cons, List.getElem?_cons_zero, List.getElem?_cons_succ, List.set_cons_zero, List.set_cons_succ]
      try simp (disch := first | omega | (simp only [List.length_set]; omega)) only [nI_add, n_and, n_or, n_xor, n_i31, nI_leI, nI_ltI, n_e0, n_eq, n_m1e, n_l0, n_g0, n_p0, n_q0, n_cl, n_in, n_sub, n_shr, n_shl, n_div, bI_0, n_01, n_11, bI_or, not_false_eq_true, forall_const, not_true_eq_false, false_imp_iff, true_imp_iff, List.length_map, List.length_set, hN, nL_u, gs_eq, gs_ne, nI_set, Nat.reduceLT, true_and, and_true, pk_mul]
      refine br_f (by omega) ⟨by omega, ?_⟩
      refine Ev_use (ev_nextO _ _ s _ hs (hc i)) ?_
      dsimp only [hN1, hB, wpI, xop, xcall, xli, xlj, xlf, xld, xla, xlg, xst, xst2, xc1, pI, pJ, pF, pD, pR, pA, p1, p0, xpop, xpush, xsm, xhas, xif, xic, xsw, xai, xal, xhi, xhv, xrf, xret, xrtl, xrtf, xrtd, xrta, xrtv, xfit, xnew, cond_true, cond_false, f40, f41, f42, f43, List.length_cons, List.length_nil, Nat.reduceAdd, Nat.reduceSub, Nat.reduceMul, Nat.reduceBEq, List.map_cons, List.map_nil, List.headD_cons, List.getElem?_cons_zero, List.getElem?_cons_succ, List.set_cons_zero, List.set_cons_succ]
      rw [oI_m1 okS_n]
      refine ⟨fun z => ?_, fun z => ?_⟩
      · rw [if_neg z] at hq
        refine hK 2 _ _ _ _ _ _ _ _ rfl ?_
        dsimp only [k_B_firstError_2, hN1, hB, wpI, xop, xcall, xli, xlj, xlf, xld, xla, xlg, xst, xst2, xc1, pI, pJ, pF, pD, pR, pA, p1, p0, xpop, xpush, xsm, xhas, xif, xic, xsw, xai, xal, xhi, xhv, xrf, xret, xrtl, xrtf, xrtd, xrta, xrtv, xfit, xnew, cond_true, cond_false, f40, f41, f42, f43, List.length_cons, List.length_nil, Nat.reduceAdd, Nat.reduceSub, Nat.reduceMul, Nat.reduceBEq, List.map_cons, List.map_nil, List.headD_cons, List.getElem?_cons_zero, List.getElem?_cons_succ, List.set_cons_zero, List.set_cons_succ]
        try simp (disch := first | omega | (simp only [List.length_set]; omega)) only [nI_add, n_and, n_or, n_xor, n_i31, nI_leI, nI_ltI, n_e0, n_eq, n_m1e, n_l0, n_g0, n_p0, n_q0, n_cl, n_in, n_sub, n_shr, n_shl, n_div, bI_0, n_01, n_11, bI_or, not_false_eq_true, forall_const, not_true_eq_false, false_imp_iff, true_imp_iff, List.length_map, List.length_set, hN, nL_u, gs_eq, gs_ne, nI_set, Nat.reduceLT, true_and, and_true, pk_mul]
        exact ih (i + 1) _ (by omega) okS_n hq
      · rw [if_pos z] at hq
        exact ⟨Nat.le_refl _, Nat.le_refl _, hq⟩
  refine hK 0 _ _ _ _ _ _ _ _ rfl ?_
  dsimp only [k_B_firstError_0, hN1, hB, wpI, xop, xcall, xli, xlj, xlf, xld, xla, xlg, xst, xst2, xc1, pI, pJ, pF, pD, pR, pA, p1, p0, xpop, xpush, xsm, xhas, xif, xic, xsw, xai, xal, xhi, xhv, xrf, xret, xrtl, xrtf, xrtd, xrta, xrtv, xfit, xnew, cond_true, cond_false, f40, f41, f42, f43, List.length_cons, List.length_nil, Nat.reduceAdd, Nat.reduceSub, Nat.reduceMul, Nat.reduceBEq, List.map_cons, List.map_nil, List.headD_cons, List.getElem?_cons_zero, List.getElem?_cons_succ, List.set_cons_zero, List.set_cons_succ]
  exact loop tl 0 (some 0) (by omega) okS_0 hq
def rdN (C : List Nat) : Nat → Nat → Option Nat → Option Nat
  | 0, _, s => s
  | j + 1, i, s => rdN C j (i + 1) (nxB s (C.getD i 0))
set_option maxRecDepth 100000 in
set_option maxHeartbeats 4000000 in
theorem ev_isComplete (d : Nat) (N V S C : List Nat) (P : List Value) (sv tl : Nat) (has : Bool) (g : xH) (hC : C.length = 60) (hc : ∀ i, C.getD i 0 < 65536) (ht : tl ≤ 60) :
    Ev xT (d + 3) N_B_isComplete [.ref 0] (hB N V S C P sv tl has g) (Rt (some (.int (bI (rdN C tl 0 (some 0) == some 1)))) (hB N V S C P sv tl has g)) NX := by
  refine Ev_intro t_B_isComplete (Nat.le_of_ble_eq_true rfl) ?_
  intro Q X hQ hX K hK
  show K 0 [some (.ref 0), none, none] [] _ 0 0
  have hq := hQ _ _ ⟨rfl, rfl⟩
  have hN := hC
  have loop : ∀ (j i : Nat) (s : Option Nat), i + j = tl → okS s → Q (some (.int (bI (rdN C j i s == some 1)))) (hB N V S C P sv tl has g) → K 1 [some (.ref 0), some (.int (oI s)), some (.int (nI i))] [] (hB N V S C P sv tl has g) 0 0 := by
    intro j
    induction j with
    | zero =>
      intro i s hi hs hq
      obtain rfl : i = tl := by omega
      rw [rdN] at hq
      refine hK 1 _ _ _ _ _ _ _ _ rfl ?_
      dsimp only [k_B_isComplete_1, hN1, hB, wpI, xop, xcall, xli, xlj, xlf, xld, xla, xlg, xst, xst2, xc1, pI, pJ, pF, pD, pR, pA, p1, p0, xpop, xpush, xsm, xhas, xif, xic, xsw, xai, xal, xhi, xhv, xrf, xret, xrtl, xrtf, xrtd, xrta, xrtv, xfit, xnew, cond_true, cond_false, f40, f41, f42, f43, List.length_cons, List.length_nil, Nat.reduceAdd, Nat.reduceSub, Nat.reduceMul, Nat.reduceBEq, List.map_cons, List.map_nil, List.headD_cons, List.getElem?_cons_zero, List.getElem?_cons_succ, List.set_cons_zero, List.set_cons_succ]
      try simp (disch := first | omega | (simp only [List.length_set]; omega)) only [nI_add, n_and, n_or, n_xor, n_i31, nI_leI, nI_ltI, n_e0, n_eq, n_m1e, n_l0, n_g0, n_p0, n_q0, n_cl, n_in, n_sub, n_shr, n_shl, n_div, bI_0, n_01, n_11, bI_or, not_false_eq_true, forall_const, not_true_eq_false, false_imp_iff, true_imp_iff, List.length_map, List.length_set, hN, nL_u, gs_eq, gs_ne, nI_set, Nat.reduceLT, true_and, and_true, pk_mul]
      refine br_t (Nat.le_refl _) ?_
      refine hK 2 _ _ _ _ _ _ _ _ rfl ?_
      dsimp only [k_B_isComplete_2, hN1, hB, wpI, xop, xcall, xli, xlj, xlf, xld, xla, xlg, xst, xst2, xc1, pI, pJ, pF, pD, pR, pA, p1, p0, xpop, xpush, xsm, xhas, xif, xic, xsw, xai, xal, xhi, xhv, xrf, xret, xrtl, xrtf, xrtd, xrta, xrtv, xfit, xnew, cond_true, cond_false, f40, f41, f42, f43, List.length_cons, List.length_nil, Nat.reduceAdd, Nat.reduceSub, Nat.reduceMul, Nat.reduceBEq, List.map_cons, List.map_nil, List.headD_cons, List.getElem?_cons_zero, List.getElem?_cons_succ, List.set_cons_zero, List.set_cons_succ]
      rw [oI_k hs (by decide)]
      refine ⟨fun z => ?_, fun z => ?_⟩
      · rw [beq_eq_false_iff_ne.mpr z] at hq
        refine hK 3 _ _ _ _ _ _ _ _ rfl ?_
        dsimp only [k_B_isComplete_3, hN1, hB, wpI, xop, xcall, xli, xlj, xlf, xld, xla, xlg, xst, xst2, xc1, pI, pJ, pF, pD, pR, pA, p1, p0, xpop, xpush, xsm, xhas, xif, xic, xsw, xai, xal, xhi, xhv, xrf, xret, xrtl, xrtf, xrtd, xrta, xrtv, xfit, xnew, cond_true, cond_false, f40, f41, f42, f43, List.length_cons, List.length_nil, Nat.reduceAdd, Nat.reduceSub, Nat.reduceMul, Nat.reduceBEq, List.map_cons, List.map_nil, List.headD_cons, List.getElem?_cons_zero, List.getElem?_cons_succ, List.set_cons_zero, List.set_cons_succ]
        refine hK 4 _ _ _ _ _ _ _ _ rfl ?_
        dsimp only [k_B_isComplete_4, hN1, hB, wpI, xop, xcall, xli, xlj, xlf, xld, xla, xlg, xst, xst2, xc1, pI, pJ, pF, pD, pR, pA, p1, p0, xpop, xpush, xsm, xhas, xif, xic, xsw, xai, xal, xhi, xhv, xrf, xret, xrtl, xrtf, xrtd, xrta, xrtv, xfit, xnew, cond_true, cond_false, f40, f41, f42, f43, List.length_cons, List.length_nil, Nat.reduceAdd, Nat.reduceSub, Nat.reduceMul, Nat.reduceBEq, List.map_cons, List.map_nil, List.headD_cons, List.getElem?_cons_zero, List.getElem?_cons_succ, List.set_cons_zero, List.set_cons_succ]
        exact ⟨Or.inl rfl, Nat.le_refl _, Nat.le_refl _, hq⟩
      · rw [beq_iff_eq.mpr z] at hq
        refine hK 4 _ _ _ _ _ _ _ _ rfl ?_
        dsimp only [k_B_isComplete_4, hN1, hB, wpI, xop, xcall, xli, xlj, xlf, xld, xla, xlg, xst, xst2, xc1, pI, pJ, pF, pD, pR, pA, p1, p0, xpop, xpush, xsm, xhas, xif, xic, xsw, xai, xal, xhi, xhv, xrf, xret, xrtl, xrtf, xrtd, xrta, xrtv, xfit, xnew, cond_true, cond_false, f40, f41, f42, f43, List.length_cons, List.length_nil, Nat.reduceAdd, Nat.reduceSub, Nat.reduceMul, Nat.reduceBEq, List.map_cons, List.map_nil, List.headD_cons, List.getElem?_cons_zero, List.getElem?_cons_succ, List.set_cons_zero, List.set_cons_succ]
        exact ⟨Or.inr rfl, Nat.le_refl _, Nat.le_refl _, hq⟩
    | succ j ih =>
      intro i s hi hs hq
      rw [rdN] at hq
      refine hK 1 _ _ _ _ _ _ _ _ rfl ?_
      dsimp only [k_B_isComplete_1, hN1, hB, wpI, xop, xcall, xli, xlj, xlf, xld, xla, xlg, xst, xst2, xc1, pI, pJ, pF, pD, pR, pA, p1, p0, xpop, xpush, xsm, xhas, xif, xic, xsw, xai, xal, xhi, xhv, xrf, xret, xrtl, xrtf, xrtd, xrta, xrtv, xfit, xnew, cond_true, cond_false, f40, f41, f42, f43, List.length_cons, List.length_nil, Nat.reduceAdd, Nat.reduceSub, Nat.reduceMul, Nat.reduceBEq, List.map_cons, List.map_nil, List.headD_cons, List.getElem?_cons_zero, List.getElem?_cons_succ, List.set_cons_zero, List.set_cons_succ]
      try simp (disch := first | omega | (simp only [List.length_set]; omega)) only [nI_add, n_and, n_or, n_xor, n_i31, nI_leI, nI_ltI, n_e0, n_eq, n_m1e, n_l0, n_g0, n_p0, n_q0, n_cl, n_in, n_sub, n_shr, n_shl, n_div, bI_0, n_01, n_11, bI_or, not_false_eq_true, forall_const, not_true_eq_false, false_imp_iff, true_imp_iff, List.length_map, List.length_set, hN, nL_u, gs_eq, gs_ne, nI_set, Nat.reduceLT, true_and, and_true, pk_mul]
      refine br_f (by omega) ⟨by omega, ?_⟩
      refine Ev_use (ev_nextO _ _ s _ hs (hc i)) ?_
      dsimp only [hN1, hB, wpI, xop, xcall, xli, xlj, xlf, xld, xla, xlg, xst, xst2, xc1, pI, pJ, pF, pD, pR, pA, p1, p0, xpop, xpush, xsm, xhas, xif, xic, xsw, xai, xal, xhi, xhv, xrf, xret, xrtl, xrtf, xrtd, xrta, xrtv, xfit, xnew, cond_true, cond_false, f40, f41, f42, f43, List.length_cons, List.length_nil, Nat.reduceAdd, Nat.reduceSub, Nat.reduceMul, Nat.reduceBEq, List.map_cons, List.map_nil, List.headD_cons, List.getElem?_cons_zero, List.getElem?_cons_succ, List.set_cons_zero, List.set_cons_succ]
      try simp (disch := first | omega | (simp only [List.length_set]; omega)) only [nI_add, n_and, n_or, n_xor, n_i31, nI_leI, nI_ltI, n_e0, n_eq, n_m1e, n_l0, n_g0, n_p0, n_q0, n_cl, n_in, n_sub, n_shr, n_shl, n_div, bI_0, n_01, n_11, bI_or, not_false_eq_true, forall_const, not_true_eq_false, false_imp_iff, true_imp_iff, List.length_map, List.length_set, hN, nL_u, gs_eq, gs_ne, nI_set, Nat.reduceLT, true_and, and_true, pk_mul]
      exact ih (i + 1) _ (by omega) okS_n hq
  refine hK 0 _ _ _ _ _ _ _ _ rfl ?_
  dsimp only [k_B_isComplete_0, hN1, hB, wpI, xop, xcall, xli, xlj, xlf, xld, xla, xlg, xst, xst2, xc1, pI, pJ, pF, pD, pR, pA, p1, p0, xpop, xpush, xsm, xhas, xif, xic, xsw, xai, xal, xhi, xhv, xrf, xret, xrtl, xrtf, xrtd, xrta, xrtv, xfit, xnew, cond_true, cond_false, f40, f41, f42, f43, List.length_cons, List.length_nil, Nat.reduceAdd, Nat.reduceSub, Nat.reduceMul, Nat.reduceBEq, List.map_cons, List.map_nil, List.headD_cons, List.getElem?_cons_zero, List.getElem?_cons_succ, List.set_cons_zero, List.set_cons_succ]
  exact loop tl 0 (some 0) (by omega) okS_0 hq
