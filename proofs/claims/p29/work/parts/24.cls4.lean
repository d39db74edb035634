/-! ===== the class: the calls that change something ===== -/
/-- an answer, if nothing is thrown; else what is thrown, and nothing has changed -/
def Ro (e : Nat) (r : Option Value) (h' : xH) : Option Value → xH → Prop := fun v g => e = 0 ∧ v = r ∧ g = h'
def Xo (e : Nat) (h : xH) : Nat → xH → Prop := fun k g => e ≠ 0 ∧ k = e ∧ g = h
theorem row_of {x : Int32} (h : isRowB x = true) : ∃ r, r < 5 ∧ x = nI r := by
  unfold isRowB at h
  rw [Bool.and_eq_true, decide_eq_true_eq, decide_eq_true_eq] at h
  obtain ⟨r, hr, rfl⟩ := nI_of (Int32.not_lt.mpr h.1)
  exact ⟨r, (nI_ltI hr (by omega)).mp h.2, rfl⟩
theorem place_of {x y : Int32} (h : isPlaceB x y = true) : ∃ r p, r < 5 ∧ p < 5 - r ∧ x = nI r ∧ y = nI p := by
  unfold isPlaceB at h
  rw [Bool.and_eq_true, Bool.and_eq_true, decide_eq_true_eq, decide_eq_true_eq] at h
  obtain ⟨r, hr, rfl⟩ := row_of h.1
  obtain ⟨p, hp, rfl⟩ := nI_of (Int32.not_lt.mpr h.2.1)
  have h2 := h.2.2
  rw [n_sub (by omega), nI_ltI hp (by omega)] at h2
  exact ⟨r, p, hr, h2, rfl, rfl⟩
theorem set_of {x : Int32} (h : isSettingB x = true) : ∃ r, r < 3 ∧ x = nI r := by
  unfold isSettingB at h
  rw [Bool.and_eq_true, decide_eq_true_eq, decide_eq_true_eq] at h
  obtain ⟨r, hr, rfl⟩ := nI_of (Int32.not_lt.mpr h.1)
  exact ⟨r, Nat.lt_succ_of_le ((nI_leI hr (by omega)).mp h.2), rfl⟩
theorem rsn_z {N : List Nat} {r b : Nat} (h : rsnN N r b = 0) : (robN (N.getD 0 0) (N.getD 1 0) r b).2 = 0 := by
  unfold rsnN at h
  by_cases z : N.getD 3 0 < b
  · rw [if_pos z] at h; exact absurd h (by decide)
  · rw [if_neg z] at h
    by_cases z2 : (robN (N.getD 0 0) (N.getD 1 0) r b).2 = 0
    · exact z2
    · rw [if_neg z2] at h; exact absurd h (by decide)
def takeE (N : List Nat) (x y : Int32) : Nat := if isRowB x = false then 10 else if y < nI 1 ∨ nI (N.getD 3 0) < y then 11 else if rsnN N x.toNatClampNeg y.toNatClampNeg = 0 then 0 else 12
set_option maxRecDepth 100000 in
set_option maxHeartbeats 4000000 in
theorem ev_take (d : Nat) (N V S C : List Nat) (P : List Value) (sv tl : Nat) (has : Bool) (g : xH) (x y : Int32) (ok : stN N) (hV : V.length = 108) (hs : sv ≤ 6) :
    Ev xT (d + 4) N_B_take [.ref 0, .int x, .int y] (hB N V S C P sv tl has g)
      (Ro (takeE N x y) (some (.int (nI (pop (fallM (robN (N.getD 0 0) (N.getD 1 0) x.toNatClampNeg y.toNatClampNeg).1))))) (hB (stealN N x.toNatClampNeg y.toNatClampNeg) (saveV N V sv) S C P (saveS sv) tl has g))
      (Xo (takeE N x y) (hB N V S C P sv tl has g)) := by
  refine Ev_intro t_B_take (Nat.le_of_ble_eq_true rfl) ?_
  intro Q X hQ hX K hK
  show K 0 [some (.ref 0), some (.int x), some (.int y)] [] _ 0 0
  have ok' := ok
  obtain ⟨hN, h0, h1, h3, h3', h4, h5⟩ := ok
  refine hK 0 _ _ _ _ _ _ _ _ rfl ?_
  dsimp only [k_B_take_0, hN1, hB, wpI, xop, xcall, xli, xlj, xlf, xld, xla, xlg, xst, xst2, xc1, pI, pJ, pF, pD, pR, pA, p1, p0, xpop, xpush, xsm, xhas, xif, xic, xsw, xai, xal, xhi, xhv, xrf, xret, xrtl, xrtf, xrtd, xrta, xrtv, xfit, xnew, cond_true, cond_false, f40, f41, f42, f43, List.length_cons, List.length_nil, Nat.reduceAdd, Nat.reduceSub, Nat.reduceMul, Nat.reduceBEq, List.map_cons, List.map_nil, List.headD_cons, List.getElem?_cons_zero, List.getElem?_cons_succ, List.set_cons_zero, List.set_cons_succ]
  refine Ev_use (ev_isRow _ x _) ?_
  dsimp only [hN1, hB, wpI, xop, xcall, xli, xlj, xlf, xld, xla, xlg, xst, xst2, xc1, pI, pJ, pF, pD, pR, pA, p1, p0, xpop, xpush, xsm, xhas, xif, xic, xsw, xai, xal, xhi, xhv, xrf, xret, xrtl, xrtf, xrtd, xrta, xrtv, xfit, xnew, cond_true, cond_false, f40, f41, f42, f43, List.length_cons, List.length_nil, Nat.reduceAdd, Nat.reduceSub, Nat.reduceMul, Nat.reduceBEq, List.map_cons, List.map_nil, List.headD_cons, List.getElem?_cons_zero, List.getElem?_cons_succ, List.set_cons_zero, List.set_cons_succ]
  rw [bI_0]
  refine ⟨fun z => ?_, fun z => ?_⟩
  · obtain ⟨r, hr, rfl⟩ := row_of (b_nf z)
    have f2 : y < nI 1 ∨ nI (N.getD 3 0) < y → K 2 [some (.ref 0), some (.int (nI r)), some (.int y)] [] (hB N V S C P sv tl has g) 0 0 := by
      intro z2
      have e : takeE N (nI r) y = 11 := by unfold takeE; rw [if_neg z, if_pos z2]
      refine hK 2 _ _ _ _ _ _ _ _ rfl ?_
      dsimp only [k_B_take_2, hN1, hB, wpI, xop, xcall, xli, xlj, xlf, xld, xla, xlg, xst, xst2, xc1, pI, pJ, pF, pD, pR, pA, p1, p0, xpop, xpush, xsm, xhas, xif, xic, xsw, xai, xal, xhi, xhv, xrf, xret, xrtl, xrtf, xrtd, xrta, xrtv, xfit, xnew, cond_true, cond_false, f40, f41, f42, f43, List.length_cons, List.length_nil, Nat.reduceAdd, Nat.reduceSub, Nat.reduceMul, Nat.reduceBEq, List.map_cons, List.map_nil, List.headD_cons, List.getElem?_cons_zero, List.getElem?_cons_succ, List.set_cons_zero, List.set_cons_succ]
      exact ⟨Nat.le_refl _, Nat.le_refl _, hX _ _ ⟨by rw [e]; decide, e.symm, rfl⟩⟩
    refine hK 1 _ _ _ _ _ _ _ _ rfl ?_
    dsimp only [k_B_take_1, hN1, hB, wpI, xop, xcall, xli, xlj, xlf, xld, xla, xlg, xst, xst2, xc1, pI, pJ, pF, pD, pR, pA, p1, p0, xpop, xpush, xsm, xhas, xif, xic, xsw, xai, xal, xhi, xhv, xrf, xret, xrtl, xrtf, xrtd, xrta, xrtv, xfit, xnew, cond_true, cond_false, f40, f41, f42, f43, List.length_cons, List.length_nil, Nat.reduceAdd, Nat.reduceSub, Nat.reduceMul, Nat.reduceBEq, List.map_cons, List.map_nil, List.headD_cons, List.getElem?_cons_zero, List.getElem?_cons_succ, List.set_cons_zero, List.set_cons_succ]
    refine ⟨fun z2 => f2 (Or.inl z2), fun z2 => ?_⟩
    try simp (disch := first | omega | (simp only [List.length_set]; omega)) only [nI_add, n_and, n_or, n_xor, n_i31, nI_leI, nI_ltI, n_e0, n_eq, n_m1e, n_l0, n_g0, n_p0, n_q0, n_cl, n_in, n_sub, n_shr, n_shl, n_div, bI_0, n_01, n_11, bI_or, not_false_eq_true, forall_const, not_true_eq_false, false_imp_iff, true_imp_iff, List.length_map, List.length_set, hN, nL_u, gs_eq, gs_ne, nI_set, Nat.reduceLT, true_and, and_true, pk_mul]
    refine ⟨fun z3 => ?_, fun z3 => f2 (Or.inr (Int32.not_le.mp z3))⟩
    have y0 : ¬ y < 0 := fun q => z2 (Int32.lt_trans q (by decide))
    obtain ⟨b, hb, rfl⟩ := nI_of y0
    rw [nI_leI hb (by omega)] at z3
    rw [nI_ltI hb (by omega)] at z2
    have z4 : ¬ (nI b < nI 1 ∨ nI (N.getD 3 0) < nI b) := by
      rw [nI_ltI hb (by omega), nI_ltI (by omega) hb]
      omega
    have hz := rsn_lt N r b
    refine hK 3 _ _ _ _ _ _ _ _ rfl ?_
    dsimp only [k_B_take_3, hN1, hB, wpI, xop, xcall, xli, xlj, xlf, xld, xla, xlg, xst, xst2, xc1, pI, pJ, pF, pD, pR, pA, p1, p0, xpop, xpush, xsm, xhas, xif, xic, xsw, xai, xal, xhi, xhv, xrf, xret, xrtl, xrtf, xrtd, xrta, xrtv, xfit, xnew, cond_true, cond_false, f40, f41, f42, f43, List.length_cons, List.length_nil, Nat.reduceAdd, Nat.reduceSub, Nat.reduceMul, Nat.reduceBEq, List.map_cons, List.map_nil, List.headD_cons, List.getElem?_cons_zero, List.getElem?_cons_succ, List.set_cons_zero, List.set_cons_succ]
    refine Ev_use (ev_reasonAgainst _ N _ _ r b ok' hr (by omega)) ?_
    dsimp only [hN1, hB, wpI, xop, xcall, xli, xlj, xlf, xld, xla, xlg, xst, xst2, xc1, pI, pJ, pF, pD, pR, pA, p1, p0, xpop, xpush, xsm, xhas, xif, xic, xsw, xai, xal, xhi, xhv, xrf, xret, xrtl, xrtf, xrtd, xrta, xrtv, xfit, xnew, cond_true, cond_false, f40, f41, f42, f43, List.length_cons, List.length_nil, Nat.reduceAdd, Nat.reduceSub, Nat.reduceMul, Nat.reduceBEq, List.map_cons, List.map_nil, List.headD_cons, List.getElem?_cons_zero, List.getElem?_cons_succ, List.set_cons_zero, List.set_cons_succ]
    try simp (disch := first | omega | (simp only [List.length_set]; omega)) only [nI_add, n_and, n_or, n_xor, n_i31, nI_leI, nI_ltI, n_e0, n_eq, n_m1e, n_l0, n_g0, n_p0, n_q0, n_cl, n_in, n_sub, n_shr, n_shl, n_div, bI_0, n_01, n_11, bI_or, not_false_eq_true, forall_const, not_true_eq_false, false_imp_iff, true_imp_iff, List.length_map, List.length_set, hN, nL_u, gs_eq, gs_ne, nI_set, Nat.reduceLT, true_and, and_true, pk_mul]
    refine ⟨fun z5 => ?_, fun z5 => ?_⟩
    · have hq := hQ _ _ ⟨by unfold takeE; rw [if_neg z, if_neg z4, n_cl (by omega), n_cl (by omega), if_pos z5], rfl, rfl⟩
      rw [n_cl (by omega), n_cl (by omega)] at hq
      refine hK 4 _ _ _ _ _ _ _ _ rfl ?_
      dsimp only [k_B_take_4, hN1, hB, wpI, xop, xcall, xli, xlj, xlf, xld, xla, xlg, xst, xst2, xc1, pI, pJ, pF, pD, pR, pA, p1, p0, xpop, xpush, xsm, xhas, xif, xic, xsw, xai, xal, xhi, xhv, xrf, xret, xrtl, xrtf, xrtd, xrta, xrtv, xfit, xnew, cond_true, cond_false, f40, f41, f42, f43, List.length_cons, List.length_nil, Nat.reduceAdd, Nat.reduceSub, Nat.reduceMul, Nat.reduceBEq, List.map_cons, List.map_nil, List.headD_cons, List.getElem?_cons_zero, List.getElem?_cons_succ, List.set_cons_zero, List.set_cons_succ]
      refine Ev_use (ev_save _ N V S C P sv tl has g hN hV hs) ?_
      dsimp only [hN1, hB, wpI, xop, xcall, xli, xlj, xlf, xld, xla, xlg, xst, xst2, xc1, pI, pJ, pF, pD, pR, pA, p1, p0, xpop, xpush, xsm, xhas, xif, xic, xsw, xai, xal, xhi, xhv, xrf, xret, xrtl, xrtf, xrtd, xrta, xrtv, xfit, xnew, cond_true, cond_false, f40, f41, f42, f43, List.length_cons, List.length_nil, Nat.reduceAdd, Nat.reduceSub, Nat.reduceMul, Nat.reduceBEq, List.map_cons, List.map_nil, List.headD_cons, List.getElem?_cons_zero, List.getElem?_cons_succ, List.set_cons_zero, List.set_cons_succ]
      refine Ev_use (ev_steal _ N _ _ r b ok' hr (by omega) (rsn_z z5)) ?_
      dsimp only [hN1, hB, wpI, xop, xcall, xli, xlj, xlf, xld, xla, xlg, xst, xst2, xc1, pI, pJ, pF, pD, pR, pA, p1, p0, xpop, xpush, xsm, xhas, xif, xic, xsw, xai, xal, xhi, xhv, xrf, xret, xrtl, xrtf, xrtd, xrta, xrtv, xfit, xnew, cond_true, cond_false, f40, f41, f42, f43, List.length_cons, List.length_nil, Nat.reduceAdd, Nat.reduceSub, Nat.reduceMul, Nat.reduceBEq, List.map_cons, List.map_nil, List.headD_cons, List.getElem?_cons_zero, List.getElem?_cons_succ, List.set_cons_zero, List.set_cons_succ]
      exact ⟨Nat.zero_le _, Nat.zero_le _, hq⟩
    · have e : takeE N (nI r) (nI b) = 12 := by unfold takeE; rw [if_neg z, if_neg z4, n_cl (by omega), n_cl (by omega), if_neg z5]
      exact ⟨Nat.le_refl _, Nat.le_refl _, hX _ _ ⟨by rw [e]; decide, e.symm, rfl⟩⟩
  · have e : takeE N x y = 10 := by unfold takeE; rw [if_pos z]
    exact ⟨Nat.le_refl _, Nat.le_refl _, hX _ _ ⟨by rw [e]; decide, e.symm, rfl⟩⟩
def turnE (x : Int32) : Nat := if x < 0 ∨ nI 1 < x then 11 else 0
set_option maxRecDepth 100000 in
set_option maxHeartbeats 4000000 in
theorem ev_turn (d : Nat) (N V S C : List Nat) (P : List Value) (sv tl : Nat) (has : Bool) (g : xH) (x : Int32) (ok : stN N) (hV : V.length = 108) (hs : sv ≤ 6) :
    Ev xT (d + 2) N_B_turn [.ref 0, .int x] (hB N V S C P sv tl has g)
      (Ro (turnE x) (some (.int (nI (N.getD 1 0)))) (hB (N.set 1 x.toNatClampNeg) (saveV N V sv) S C P (saveS sv) tl has g))
      (Xo (turnE x) (hB N V S C P sv tl has g)) := by
  refine Ev_intro t_B_turn (Nat.le_of_ble_eq_true rfl) ?_
  intro Q X hQ hX K hK
  show K 0 [some (.ref 0), some (.int x), none] [] _ 0 0
  obtain ⟨hN, h0, h1, h3, h3', h4, h5⟩ := ok
  have f1 : x < 0 ∨ nI 1 < x → K 1 [some (.ref 0), some (.int x), none] [] (hB N V S C P sv tl has g) 0 0 := by
    intro z
    have e : turnE x = 11 := by unfold turnE; rw [if_pos z]
    refine hK 1 _ _ _ _ _ _ _ _ rfl ?_
    dsimp only [k_B_turn_1, hN1, hB, wpI, xop, xcall, xli, xlj, xlf, xld, xla, xlg, xst, xst2, xc1, pI, pJ, pF, pD, pR, pA, p1, p0, xpop, xpush, xsm, xhas, xif, xic, xsw, xai, xal, xhi, xhv, xrf, xret, xrtl, xrtf, xrtd, xrta, xrtv, xfit, xnew, cond_true, cond_false, f40, f41, f42, f43, List.length_cons, List.length_nil, Nat.reduceAdd, Nat.reduceSub, Nat.reduceMul, Nat.reduceBEq, List.map_cons, List.map_nil, List.headD_cons, List.getElem?_cons_zero, List.getElem?_cons_succ, List.set_cons_zero, List.set_cons_succ]
    exact ⟨Nat.le_refl _, Nat.le_refl _, hX _ _ ⟨by rw [e]; decide, e.symm, rfl⟩⟩
  refine hK 0 _ _ _ _ _ _ _ _ rfl ?_
  dsimp only [k_B_turn_0, hN1, hB, wpI, xop, xcall, xli, xlj, xlf, xld, xla, xlg, xst, xst2, xc1, pI, pJ, pF, pD, pR, pA, p1, p0, xpop, xpush, xsm, xhas, xif, xic, xsw, xai, xal, xhi, xhv, xrf, xret, xrtl, xrtf, xrtd, xrta, xrtv, xfit, xnew, cond_true, cond_false, f40, f41, f42, f43, List.length_cons, List.length_nil, Nat.reduceAdd, Nat.reduceSub, Nat.reduceMul, Nat.reduceBEq, List.map_cons, List.map_nil, List.headD_cons, List.getElem?_cons_zero, List.getElem?_cons_succ, List.set_cons_zero, List.set_cons_succ]
  refine ⟨fun z => f1 (Or.inl z), fun z => ⟨fun z2 => ?_, fun z2 => f1 (Or.inr (Int32.not_le.mp z2))⟩⟩
  have e : turnE x = 0 := by
    unfold turnE
    rw [if_neg]
    rintro (q | q)
    · exact z q
    · exact Int32.not_lt.mpr z2 q
  obtain ⟨t, ht, rfl⟩ := nI_of z
  have hq := hQ _ _ ⟨e, rfl, rfl⟩
  rw [n_cl ht] at hq
  refine hK 2 _ _ _ _ _ _ _ _ rfl ?_
  dsimp only [k_B_turn_2, hN1, hB, wpI, xop, xcall, xli, xlj, xlf, xld, xla, xlg, xst, xst2, xc1, pI, pJ, pF, pD, pR, pA, p1, p0, xpop, xpush, xsm, xhas, xif, xic, xsw, xai, xal, xhi, xhv, xrf, xret, xrtl, xrtf, xrtd, xrta, xrtv, xfit, xnew, cond_true, cond_false, f40, f41, f42, f43, List.length_cons, List.length_nil, Nat.reduceAdd, Nat.reduceSub, Nat.reduceMul, Nat.reduceBEq, List.map_cons, List.map_nil, List.headD_cons, List.getElem?_cons_zero, List.getElem?_cons_succ, List.set_cons_zero, List.set_cons_succ]
  refine Ev_use (ev_save _ N V S C P sv tl has g hN hV hs) ?_
  dsimp only [hN1, hB, wpI, xop, xcall, xli, xlj, xlf, xld, xla, xlg, xst, xst2, xc1, pI, pJ, pF, pD, pR, pA, p1, p0, xpop, xpush, xsm, xhas, xif, xic, xsw, xai, xal, xhi, xhv, xrf, xret, xrtl, xrtf, xrtd, xrta, xrtv, xfit, xnew, cond_true, cond_false, f40, f41, f42, f43, List.length_cons, List.length_nil, Nat.reduceAdd, Nat.reduceSub, Nat.reduceMul, Nat.reduceBEq, List.map_cons, List.map_nil, List.headD_cons, List.getElem?_cons_zero, List.getElem?_cons_succ, List.set_cons_zero, List.set_cons_succ]
  try simp (disch := first | omega | (simp only [List.length_set]; omega)) only [nI_add, n_and, n_or, n_xor, n_i31, nI_leI, nI_ltI, n_e0, n_eq, n_m1e, n_l0, n_g0, n_p0, n_q0, n_cl, n_in, n_sub, n_shr, n_shl, n_div, bI_0, n_01, n_11, bI_or, not_false_eq_true, forall_const, not_true_eq_false, false_imp_iff, true_imp_iff, List.length_map, List.length_set, hN, nL_u, gs_eq, gs_ne, nI_set, Nat.reduceLT, true_and, and_true, pk_mul]
  exact ⟨Nat.zero_le _, Nat.zero_le _, hq⟩
def knockE (N : List Nat) (x y : Int32) : Nat := if isPlaceB x y = false then 10 else if hasN (N.getD 0 0) x.toNatClampNeg y.toNatClampNeg = true then 0 else 12
set_option maxRecDepth 100000 in
set_option maxHeartbeats 4000000 in
theorem ev_knock (d : Nat) (N V S C : List Nat) (P : List Value) (sv tl : Nat) (has : Bool) (g : xH) (x y : Int32) (ok : stN N) (hV : V.length = 108) (hs : sv ≤ 6) :
    Ev xT (d + 4) N_B_knock [.ref 0, .int x, .int y] (hB N V S C P sv tl has g)
      (Ro (knockE N x y) (some (.int (nI (pop (fallM (N.getD 0 0 &&& ((1 <<< (rsN x.toNatClampNeg + y.toNatClampNeg)) ^^^ 4294967295))))))) (hB (knockN N x.toNatClampNeg y.toNatClampNeg) (saveV N V sv) S C P (saveS sv) tl has g))
      (Xo (knockE N x y) (hB N V S C P sv tl has g)) := by
  refine Ev_intro t_B_knock (Nat.le_of_ble_eq_true rfl) ?_
  intro Q X hQ hX K hK
  show K 0 [some (.ref 0), some (.int x), some (.int y)] [] _ 0 0
  have ok' := ok
  obtain ⟨hN, h0, h1, h3, h3', h4, h5⟩ := ok
  refine hK 0 _ _ _ _ _ _ _ _ rfl ?_
  dsimp only [k_B_knock_0, hN1, hB, wpI, xop, xcall, xli, xlj, xlf, xld, xla, xlg, xst, xst2, xc1, pI, pJ, pF, pD, pR, pA, p1, p0, xpop, xpush, xsm, xhas, xif, xic, xsw, xai, xal, xhi, xhv, xrf, xret, xrtl, xrtf, xrtd, xrta, xrtv, xfit, xnew, cond_true, cond_false, f40, f41, f42, f43, List.length_cons, List.length_nil, Nat.reduceAdd, Nat.reduceSub, Nat.reduceMul, Nat.reduceBEq, List.map_cons, List.map_nil, List.headD_cons, List.getElem?_cons_zero, List.getElem?_cons_succ, List.set_cons_zero, List.set_cons_succ]
  refine Ev_use (ev_isPlace _ x y _) ?_
  dsimp only [hN1, hB, wpI, xop, xcall, xli, xlj, xlf, xld, xla, xlg, xst, xst2, xc1, pI, pJ, pF, pD, pR, pA, p1, p0, xpop, xpush, xsm, xhas, xif, xic, xsw, xai, xal, xhi, xhv, xrf, xret, xrtl, xrtf, xrtd, xrta, xrtv, xfit, xnew, cond_true, cond_false, f40, f41, f42, f43, List.length_cons, List.length_nil, Nat.reduceAdd, Nat.reduceSub, Nat.reduceMul, Nat.reduceBEq, List.map_cons, List.map_nil, List.headD_cons, List.getElem?_cons_zero, List.getElem?_cons_succ, List.set_cons_zero, List.set_cons_succ]
  rw [bI_0]
  refine ⟨fun z => ?_, fun z => ?_⟩
  · obtain ⟨r, p, hr, hp, rfl, rfl⟩ := place_of (b_nf z)
    refine hK 1 _ _ _ _ _ _ _ _ rfl ?_
    dsimp only [k_B_knock_1, hN1, hB, wpI, xop, xcall, xli, xlj, xlf, xld, xla, xlg, xst, xst2, xc1, pI, pJ, pF, pD, pR, pA, p1, p0, xpop, xpush, xsm, xhas, xif, xic, xsw, xai, xal, xhi, xhv, xrf, xret, xrtl, xrtf, xrtd, xrta, xrtv, xfit, xnew, cond_true, cond_false, f40, f41, f42, f43, List.length_cons, List.length_nil, Nat.reduceAdd, Nat.reduceSub, Nat.reduceMul, Nat.reduceBEq, List.map_cons, List.map_nil, List.headD_cons, List.getElem?_cons_zero, List.getElem?_cons_succ, List.set_cons_zero, List.set_cons_succ]
    try simp (disch := first | omega | (simp only [List.length_set]; omega)) only [nI_add, n_and, n_or, n_xor, n_i31, nI_leI, nI_ltI, n_e0, n_eq, n_m1e, n_l0, n_g0, n_p0, n_q0, n_cl, n_in, n_sub, n_shr, n_shl, n_div, bI_0, n_01, n_11, bI_or, not_false_eq_true, forall_const, not_true_eq_false, false_imp_iff, true_imp_iff, List.length_map, List.length_set, hN, nL_u, gs_eq, gs_ne, nI_set, Nat.reduceLT, true_and, and_true, pk_mul]
    refine Ev_use (ev_hasBottle _ _ r p _ h0 hr (by omega)) ?_
    dsimp only [hN1, hB, wpI, xop, xcall, xli, xlj, xlf, xld, xla, xlg, xst, xst2, xc1, pI, pJ, pF, pD, pR, pA, p1, p0, xpop, xpush, xsm, xhas, xif, xic, xsw, xai, xal, xhi, xhv, xrf, xret, xrtl, xrtf, xrtd, xrta, xrtv, xfit, xnew, cond_true, cond_false, f40, f41, f42, f43, List.length_cons, List.length_nil, Nat.reduceAdd, Nat.reduceSub, Nat.reduceMul, Nat.reduceBEq, List.map_cons, List.map_nil, List.headD_cons, List.getElem?_cons_zero, List.getElem?_cons_succ, List.set_cons_zero, List.set_cons_succ]
    rw [bI_0]
    refine ⟨fun z2 => ?_, fun z2 => ?_⟩
    · have hq := hQ _ _ ⟨by unfold knockE; rw [if_neg z, n_cl (by omega), n_cl (by omega), if_pos (b_nf z2)], rfl, rfl⟩
      rw [n_cl (by omega), n_cl (by omega)] at hq
      refine hK 2 _ _ _ _ _ _ _ _ rfl ?_
      dsimp only [k_B_knock_2, hN1, hB, wpI, xop, xcall, xli, xlj, xlf, xld, xla, xlg, xst, xst2, xc1, pI, pJ, pF, pD, pR, pA, p1, p0, xpop, xpush, xsm, xhas, xif, xic, xsw, xai, xal, xhi, xhv, xrf, xret, xrtl, xrtf, xrtd, xrta, xrtv, xfit, xnew, cond_true, cond_false, f40, f41, f42, f43, List.length_cons, List.length_nil, Nat.reduceAdd, Nat.reduceSub, Nat.reduceMul, Nat.reduceBEq, List.map_cons, List.map_nil, List.headD_cons, List.getElem?_cons_zero, List.getElem?_cons_succ, List.set_cons_zero, List.set_cons_succ]
      refine Ev_use (ev_save _ N V S C P sv tl has g hN hV hs) ?_
      dsimp only [hN1, hB, wpI, xop, xcall, xli, xlj, xlf, xld, xla, xlg, xst, xst2, xc1, pI, pJ, pF, pD, pR, pA, p1, p0, xpop, xpush, xsm, xhas, xif, xic, xsw, xai, xal, xhi, xhv, xrf, xret, xrtl, xrtf, xrtd, xrta, xrtv, xfit, xnew, cond_true, cond_false, f40, f41, f42, f43, List.length_cons, List.length_nil, Nat.reduceAdd, Nat.reduceSub, Nat.reduceMul, Nat.reduceBEq, List.map_cons, List.map_nil, List.headD_cons, List.getElem?_cons_zero, List.getElem?_cons_succ, List.set_cons_zero, List.set_cons_succ]
      refine Ev_use (ev_knockOut _ N _ _ r p hN h0 hr hp) ?_
      dsimp only [hN1, hB, wpI, xop, xcall, xli, xlj, xlf, xld, xla, xlg, xst, xst2, xc1, pI, pJ, pF, pD, pR, pA, p1, p0, xpop, xpush, xsm, xhas, xif, xic, xsw, xai, xal, xhi, xhv, xrf, xret, xrtl, xrtf, xrtd, xrta, xrtv, xfit, xnew, cond_true, cond_false, f40, f41, f42, f43, List.length_cons, List.length_nil, Nat.reduceAdd, Nat.reduceSub, Nat.reduceMul, Nat.reduceBEq, List.map_cons, List.map_nil, List.headD_cons, List.getElem?_cons_zero, List.getElem?_cons_succ, List.set_cons_zero, List.set_cons_succ]
      exact ⟨Nat.zero_le _, Nat.zero_le _, hq⟩
    · have e : knockE N (nI r) (nI p) = 12 := by unfold knockE; rw [if_neg z, n_cl (by omega), n_cl (by omega), z2]; rfl
      exact ⟨Nat.le_refl _, Nat.le_refl _, hX _ _ ⟨by rw [e]; decide, e.symm, rfl⟩⟩
  · have e : knockE N x y = 10 := by unfold knockE; rw [if_pos z]
    exact ⟨Nat.le_refl _, Nat.le_refl _, hX _ _ ⟨by rw [e]; decide, e.symm, rfl⟩⟩
def putE (N : List Nat) (x y : Int32) : Nat := if isPlaceB x y = false then 10 else if hasRoomN (N.getD 0 0) x.toNatClampNeg y.toNatClampNeg = true then 0 else 12
set_option maxRecDepth 100000 in
set_option maxHeartbeats 4000000 in
theorem ev_put (d : Nat) (N V S C : List Nat) (P : List Value) (sv tl : Nat) (has : Bool) (g : xH) (x y : Int32) (ok : stN N) (hV : V.length = 108) (hs : sv ≤ 6) :
    Ev xT (d + 4) N_B_put [.ref 0, .int x, .int y] (hB N V S C P sv tl has g)
      (Ro (putE N x y) (some (.int (nI (pop (N.getD 0 0 ||| 1 <<< (rsN x.toNatClampNeg + y.toNatClampNeg)))))) (hB (N.set 0 (N.getD 0 0 ||| 1 <<< (rsN x.toNatClampNeg + y.toNatClampNeg))) (saveV N V sv) S C P (saveS sv) tl has g))
      (Xo (putE N x y) (hB N V S C P sv tl has g)) := by
  refine Ev_intro t_B_put (Nat.le_of_ble_eq_true rfl) ?_
  intro Q X hQ hX K hK
  show K 0 [some (.ref 0), some (.int x), some (.int y)] [] _ 0 0
  have ok' := ok
  obtain ⟨hN, h0, h1, h3, h3', h4, h5⟩ := ok
  refine hK 0 _ _ _ _ _ _ _ _ rfl ?_
  dsimp only [k_B_put_0, hN1, hB, wpI, xop, xcall, xli, xlj, xlf, xld, xla, xlg, xst, xst2, xc1, pI, pJ, pF, pD, pR, pA, p1, p0, xpop, xpush, xsm, xhas, xif, xic, xsw, xai, xal, xhi, xhv, xrf, xret, xrtl, xrtf, xrtd, xrta, xrtv, xfit, xnew, cond_true, cond_false, f40, f41, f42, f43, List.length_cons, List.length_nil, Nat.reduceAdd, Nat.reduceSub, Nat.reduceMul, Nat.reduceBEq, List.map_cons, List.map_nil, List.headD_cons, List.getElem?_cons_zero, List.getElem?_cons_succ, List.set_cons_zero, List.set_cons_succ]
  refine Ev_use (ev_isPlace _ x y _) ?_
  dsimp only [hN1, hB, wpI, xop, xcall, xli, xlj, xlf, xld, xla, xlg, xst, xst2, xc1, pI, pJ, pF, pD, pR, pA, p1, p0, xpop, xpush, xsm, xhas, xif, xic, xsw, xai, xal, xhi, xhv, xrf, xret, xrtl, xrtf, xrtd, xrta, xrtv, xfit, xnew, cond_true, cond_false, f40, f41, f42, f43, List.length_cons, List.length_nil, Nat.reduceAdd, Nat.reduceSub, Nat.reduceMul, Nat.reduceBEq, List.map_cons, List.map_nil, List.headD_cons, List.getElem?_cons_zero, List.getElem?_cons_succ, List.set_cons_zero, List.set_cons_succ]
  rw [bI_0]
  refine ⟨fun z => ?_, fun z => ?_⟩
  · obtain ⟨r, p, hr, hp, rfl, rfl⟩ := place_of (b_nf z)
    refine hK 1 _ _ _ _ _ _ _ _ rfl ?_
    dsimp only [k_B_put_1, hN1, hB, wpI, xop, xcall, xli, xlj, xlf, xld, xla, xlg, xst, xst2, xc1, pI, pJ, pF, pD, pR, pA, p1, p0, xpop, xpush, xsm, xhas, xif, xic, xsw, xai, xal, xhi, xhv, xrf, xret, xrtl, xrtf, xrtd, xrta, xrtv, xfit, xnew, cond_true, cond_false, f40, f41, f42, f43, List.length_cons, List.length_nil, Nat.reduceAdd, Nat.reduceSub, Nat.reduceMul, Nat.reduceBEq, List.map_cons, List.map_nil, List.headD_cons, List.getElem?_cons_zero, List.getElem?_cons_succ, List.set_cons_zero, List.set_cons_succ]
    try simp (disch := first | omega | (simp only [List.length_set]; omega)) only [nI_add, n_and, n_or, n_xor, n_i31, nI_leI, nI_ltI, n_e0, n_eq, n_m1e, n_l0, n_g0, n_p0, n_q0, n_cl, n_in, n_sub, n_shr, n_shl, n_div, bI_0, n_01, n_11, bI_or, not_false_eq_true, forall_const, not_true_eq_false, false_imp_iff, true_imp_iff, List.length_map, List.length_set, hN, nL_u, gs_eq, gs_ne, nI_set, Nat.reduceLT, true_and, and_true, pk_mul]
    refine Ev_use (ev_hasRoom _ _ r p _ h0 hr (by omega)) ?_
    dsimp only [hN1, hB, wpI, xop, xcall, xli, xlj, xlf, xld, xla, xlg, xst, xst2, xc1, pI, pJ, pF, pD, pR, pA, p1, p0, xpop, xpush, xsm, xhas, xif, xic, xsw, xai, xal, xhi, xhv, xrf, xret, xrtl, xrtf, xrtd, xrta, xrtv, xfit, xnew, cond_true, cond_false, f40, f41, f42, f43, List.length_cons, List.length_nil, Nat.reduceAdd, Nat.reduceSub, Nat.reduceMul, Nat.reduceBEq, List.map_cons, List.map_nil, List.headD_cons, List.getElem?_cons_zero, List.getElem?_cons_succ, List.set_cons_zero, List.set_cons_succ]
    rw [bI_0]
    refine ⟨fun z2 => ?_, fun z2 => ?_⟩
    · have hq := hQ _ _ ⟨by unfold putE; rw [if_neg z, n_cl (by omega), n_cl (by omega), if_pos (b_nf z2)], rfl, rfl⟩
      rw [n_cl (by omega), n_cl (by omega)] at hq
      refine hK 2 _ _ _ _ _ _ _ _ rfl ?_
      dsimp only [k_B_put_2, hN1, hB, wpI, xop, xcall, xli, xlj, xlf, xld, xla, xlg, xst, xst2, xc1, pI, pJ, pF, pD, pR, pA, p1, p0, xpop, xpush, xsm, xhas, xif, xic, xsw, xai, xal, xhi, xhv, xrf, xret, xrtl, xrtf, xrtd, xrta, xrtv, xfit, xnew, cond_true, cond_false, f40, f41, f42, f43, List.length_cons, List.length_nil, Nat.reduceAdd, Nat.reduceSub, Nat.reduceMul, Nat.reduceBEq, List.map_cons, List.map_nil, List.headD_cons, List.getElem?_cons_zero, List.getElem?_cons_succ, List.set_cons_zero, List.set_cons_succ]
      refine Ev_use (ev_save _ N V S C P sv tl has g hN hV hs) ?_
      dsimp only [hN1, hB, wpI, xop, xcall, xli, xlj, xlf, xld, xla, xlg, xst, xst2, xc1, pI, pJ, pF, pD, pR, pA, p1, p0, xpop, xpush, xsm, xhas, xif, xic, xsw, xai, xal, xhi, xhv, xrf, xret, xrtl, xrtf, xrtd, xrta, xrtv, xfit, xnew, cond_true, cond_false, f40, f41, f42, f43, List.length_cons, List.length_nil, Nat.reduceAdd, Nat.reduceSub, Nat.reduceMul, Nat.reduceBEq, List.map_cons, List.map_nil, List.headD_cons, List.getElem?_cons_zero, List.getElem?_cons_succ, List.set_cons_zero, List.set_cons_succ]
      refine Ev_use (ev_addBottle _ N _ _ r p hN h0 hr hp) ?_
      dsimp only [hN1, hB, wpI, xop, xcall, xli, xlj, xlf, xld, xla, xlg, xst, xst2, xc1, pI, pJ, pF, pD, pR, pA, p1, p0, xpop, xpush, xsm, xhas, xif, xic, xsw, xai, xal, xhi, xhv, xrf, xret, xrtl, xrtf, xrtd, xrta, xrtv, xfit, xnew, cond_true, cond_false, f40, f41, f42, f43, List.length_cons, List.length_nil, Nat.reduceAdd, Nat.reduceSub, Nat.reduceMul, Nat.reduceBEq, List.map_cons, List.map_nil, List.headD_cons, List.getElem?_cons_zero, List.getElem?_cons_succ, List.set_cons_zero, List.set_cons_succ]
      exact ⟨Nat.zero_le _, Nat.zero_le _, hq⟩
    · have e : putE N (nI r) (nI p) = 12 := by unfold putE; rw [if_neg z, n_cl (by omega), n_cl (by omega), z2]; rfl
      exact ⟨Nat.le_refl _, Nat.le_refl _, hX _ _ ⟨by rw [e]; decide, e.symm, rfl⟩⟩
  · have e : putE N x y = 10 := by unfold putE; rw [if_pos z]
    exact ⟨Nat.le_refl _, Nat.le_refl _, hX _ _ ⟨by rw [e]; decide, e.symm, rfl⟩⟩
set_option maxRecDepth 100000 in
set_option maxHeartbeats 4000000 in
theorem ev_mirror (d : Nat) (N V S C : List Nat) (P : List Value) (sv tl : Nat) (has : Bool) (g : xH) (ok : stN N) (hV : V.length = 108) (hs : sv ≤ 6) :
    Ev xT (d + 5) N_B_mirror [.ref 0] (hB N V S C P sv tl has g) (Rt (some (.int (nI (mirN (N.getD 0 0))))) (hB (swapN N) (saveV N V sv) S C P (saveS sv) tl has g)) NX := by
  refine Ev_intro t_B_mirror (Nat.le_of_ble_eq_true rfl) ?_
  intro Q X hQ hX K hK
  show K 0 [some (.ref 0)] [] _ 0 0
  have hq := hQ _ _ ⟨rfl, rfl⟩
  refine hK 0 _ _ _ _ _ _ _ _ rfl ?_
  dsimp only [k_B_mirror_0, hN1, hB, wpI, xop, xcall, xli, xlj, xlf, xld, xla, xlg, xst, xst2, xc1, pI, pJ, pF, pD, pR, pA, p1, p0, xpop, xpush, xsm, xhas, xif, xic, xsw, xai, xal, xhi, xhv, xrf, xret, xrtl, xrtf, xrtd, xrta, xrtv, xfit, xnew, cond_true, cond_false, f40, f41, f42, f43, List.length_cons, List.length_nil, Nat.reduceAdd, Nat.reduceSub, Nat.reduceMul, Nat.reduceBEq, List.map_cons, List.map_nil, List.headD_cons, List.getElem?_cons_zero, List.getElem?_cons_succ, List.set_cons_zero, List.set_cons_succ]
  refine Ev_use (ev_save _ N V S C P sv tl has g ok.1 hV hs) ?_
  dsimp only [hN1, hB, wpI, xop, xcall, xli, xlj, xlf, xld, xla, xlg, xst, xst2, xc1, pI, pJ, pF, pD, pR, pA, p1, p0, xpop, xpush, xsm, xhas, xif, xic, xsw, xai, xal, xhi, xhv, xrf, xret, xrtl, xrtf, xrtd, xrta, xrtv, xfit, xnew, cond_true, cond_false, f40, f41, f42, f43, List.length_cons, List.length_nil, Nat.reduceAdd, Nat.reduceSub, Nat.reduceMul, Nat.reduceBEq, List.map_cons, List.map_nil, List.headD_cons, List.getElem?_cons_zero, List.getElem?_cons_succ, List.set_cons_zero, List.set_cons_succ]
  refine Ev_use (ev_swapSides _ N _ _ ok) ?_
  dsimp only [hN1, hB, wpI, xop, xcall, xli, xlj, xlf, xld, xla, xlg, xst, xst2, xc1, pI, pJ, pF, pD, pR, pA, p1, p0, xpop, xpush, xsm, xhas, xif, xic, xsw, xai, xal, xhi, xhv, xrf, xret, xrtl, xrtf, xrtd, xrta, xrtv, xfit, xnew, cond_true, cond_false, f40, f41, f42, f43, List.length_cons, List.length_nil, Nat.reduceAdd, Nat.reduceSub, Nat.reduceMul, Nat.reduceBEq, List.map_cons, List.map_nil, List.headD_cons, List.getElem?_cons_zero, List.getElem?_cons_succ, List.set_cons_zero, List.set_cons_succ]
  exact ⟨Nat.zero_le _, Nat.zero_le _, hq⟩
set_option maxRecDepth 100000 in
set_option maxHeartbeats 4000000 in
theorem ev_refill (d : Nat) (N V S C : List Nat) (P : List Value) (sv tl : Nat) (has : Bool) (g : xH) (ok : stN N) (hV : V.length = 108) (hs : sv ≤ 6) :
    Ev xT (d + 5) N_B_refill [.ref 0] (hB N V S C P sv tl has g) (Rt (some (.int (nI (15 - pop (N.getD 0 0))))) (hB (fillN N) (saveV N V sv) S C P (saveS sv) tl has g)) NX := by
  refine Ev_intro t_B_refill (Nat.le_of_ble_eq_true rfl) ?_
  intro Q X hQ hX K hK
  show K 0 [some (.ref 0)] [] _ 0 0
  have hq := hQ _ _ ⟨rfl, rfl⟩
  refine hK 0 _ _ _ _ _ _ _ _ rfl ?_
  dsimp only [k_B_refill_0, hN1, hB, wpI, xop, xcall, xli, xlj, xlf, xld, xla, xlg, xst, xst2, xc1, pI, pJ, pF, pD, pR, pA, p1, p0, xpop, xpush, xsm, xhas, xif, xic, xsw, xai, xal, xhi, xhv, xrf, xret, xrtl, xrtf, xrtd, xrta, xrtv, xfit, xnew, cond_true, cond_false, f40, f41, f42, f43, List.length_cons, List.length_nil, Nat.reduceAdd, Nat.reduceSub, Nat.reduceMul, Nat.reduceBEq, List.map_cons, List.map_nil, List.headD_cons, List.getElem?_cons_zero, List.getElem?_cons_succ, List.set_cons_zero, List.set_cons_succ]
  refine Ev_use (ev_save _ N V S C P sv tl has g ok.1 hV hs) ?_
  dsimp only [hN1, hB, wpI, xop, xcall, xli, xlj, xlf, xld, xla, xlg, xst, xst2, xc1, pI, pJ, pF, pD, pR, pA, p1, p0, xpop, xpush, xsm, xhas, xif, xic, xsw, xai, xal, xhi, xhv, xrf, xret, xrtl, xrtf, xrtd, xrta, xrtv, xfit, xnew, cond_true, cond_false, f40, f41, f42, f43, List.length_cons, List.length_nil, Nat.reduceAdd, Nat.reduceSub, Nat.reduceMul, Nat.reduceBEq, List.map_cons, List.map_nil, List.headD_cons, List.getElem?_cons_zero, List.getElem?_cons_succ, List.set_cons_zero, List.set_cons_succ]
  refine Ev_use (ev_fillUp _ N _ _ ok) ?_
  dsimp only [hN1, hB, wpI, xop, xcall, xli, xlj, xlf, xld, xla, xlg, xst, xst2, xc1, pI, pJ, pF, pD, pR, pA, p1, p0, xpop, xpush, xsm, xhas, xif, xic, xsw, xai, xal, xhi, xhv, xrf, xret, xrtl, xrtf, xrtd, xrta, xrtv, xfit, xnew, cond_true, cond_false, f40, f41, f42, f43, List.length_cons, List.length_nil, Nat.reduceAdd, Nat.reduceSub, Nat.reduceMul, Nat.reduceBEq, List.map_cons, List.map_nil, List.headD_cons, List.getElem?_cons_zero, List.getElem?_cons_succ, List.set_cons_zero, List.set_cons_succ]
  exact ⟨Nat.zero_le _, Nat.zero_le _, hq⟩
