/-! ===== the wrappers: what they answer ===== -/
def wV (Qf Q : Option Value → xH → Prop) : Prop := ∀ v h', Qf v h' → ∃ (r : Int32) (l : List Int32) (u : Value), v = some (.int r) ∧ h'[15]? = some (3, l, [u]) ∧ Q (some (.int (nI 0))) (h'.set 15 (3, [], [.long r.toInt64]))
theorem nI0_0 : (nI 0).toNatClampNeg = 0 := by decide +kernel
theorem vp_in1 : vp_in (nI 0) 1 := (n_in (by decide)).mpr (by decide)
set_option maxRecDepth 100000 in
set_option maxHeartbeats 4000000 in
theorem w_take {d : Nat} {x y : Int32} {h : xH} {Qf Q : Option Value → xH → Prop} {Xf : Nat → xH → Prop} (h0 : ∃ (l0 : List Int32) (vs : List Value), h[0]? = some (6, l0, vs)) (h15 : 15 < h.length) (hE : Ev xT d N_B_take [.ref 0, .int x, .int y] h Qf Xf) (hv : wV Qf Q) (hx : ∀ k h', Xf k h' → (k = 10 ∧ Q (some (.int (nI 1))) h') ∨ (k = 11 ∧ Q (some (.int (nI 2))) h') ∨ (k = 12 ∧ Q (some (.int (nI 3))) h')) :
    EvW d b_W_take hb_take 30 2 4 5 1 6 false [.ref 0, .int x, .int y, .ref 15] h Q := by
  intro K hK hC
  show K 0 [some (.ref 0), some (.int x), some (.int y), some (.ref 15), none] [] h 0 0
  refine hK 0 _ _ _ _ _ _ rfl (by decide) ?_
  dsimp only [k_W_take_0, hN1, hB, hM1, hM, wpI, xop, xcall, xli, xlj, xlf, xld, xla, xlg, xst, xst2, xc1, pI, pJ, pF, pD, pR, pA, p1, p0, xpop, xpush, xsm, xhas, xif, xic, xsw, xai, xal, xhi, xhv, xrf, xret, xrtl, xrtf, xrtd, xrta, xrtv, xfit, xnew, cond_true, cond_false, f40, f41, f42, f43, List.length_cons, List.length_nil, Nat.reduceAdd, Nat.reduceSub, Nat.reduceMul, Nat.reduceBEq, List.map_cons, List.map_nil, List.headD_cons, List.getElem?_cons_zero, List.getElem?_cons_succ, List.set_cons_zero, List.set_cons_succ]
  refine hC [some (.ref 0), some (.int x), some (.int y), some (.ref 15), none] [.int x, .int y] [.int (nI 0), .ref 15] h Qf Xf rfl (by decide) h0 ?_ ?_ ?_ hE ?_ ?_
  · simp only [xwL, wfv, true_and, and_true]; exact ⟨Or.inl (Nat.lt_of_le_of_lt (Nat.zero_le _) h15), Or.inl h15⟩
  · simp only [xwS, wfv, true_and, and_true]; exact Or.inl h15
  · intro j v hj
    have hj2 : j < 5 := (List.getElem?_eq_some_iff.mp hj).1
    have hj3 : j = 0 ∨ j = 1 ∨ j = 2 ∨ j = 3 ∨ j = 4 := by omega
    rcases hj3 with rfl | rfl | rfl | rfl | rfl
    · obtain rfl := Option.some.inj (Option.some.inj hj)
      exact ⟨by decide, by simp [Value.category]⟩
    · obtain rfl := Option.some.inj (Option.some.inj hj)
      exact ⟨by decide, by simp [Value.category]⟩
    · obtain rfl := Option.some.inj (Option.some.inj hj)
      exact ⟨by decide, by simp [Value.category]⟩
    · obtain rfl := Option.some.inj (Option.some.inj hj)
      exact ⟨by decide, by simp [Value.category]⟩
    · exact nomatch hj
  · intro v h' q
    obtain ⟨r, l, u, rfl, e, hq⟩ := hv v h' q
    refine hK 2 _ _ _ _ _ _ rfl (by decide) ?_
    dsimp only [k_W_take_2, hN1, hB, hM1, hM, wpI, xop, xcall, xli, xlj, xlf, xld, xla, xlg, xst, xst2, xc1, pI, pJ, pF, pD, pR, pA, p1, p0, xpop, xpush, xsm, xhas, xif, xic, xsw, xrf, xret, xrtl, xrtf, xrtd, xrta, xrtv, xfit, xnew, cond_true, cond_false, f40, f41, f42, f43, List.length_cons, List.length_nil, Nat.reduceAdd, Nat.reduceSub, Nat.reduceMul, Nat.reduceBEq, List.map_cons, List.map_nil, List.headD_cons, List.getElem?_cons_zero, List.getElem?_cons_succ, List.set_cons_zero, List.set_cons_succ]
    refine xhv_of e ?_
    refine ⟨vp_in1, ?_⟩
    rw [nI0_0]
    refine hK 6 _ _ _ _ _ _ rfl (by decide) ?_
    dsimp only [k_W_take_6, hN1, hB, hM1, hM, wpI, xop, xcall, xli, xlj, xlf, xld, xla, xlg, xst, xst2, xc1, pI, pJ, pF, pD, pR, pA, p1, p0, xpop, xpush, xsm, xhas, xif, xic, xsw, xai, xal, xhi, xhv, xrf, xret, xrtl, xrtf, xrtd, xrta, xrtv, xfit, xnew, cond_true, cond_false, f40, f41, f42, f43, List.length_cons, List.length_nil, Nat.reduceAdd, Nat.reduceSub, Nat.reduceMul, Nat.reduceBEq, List.map_cons, List.map_nil, List.headD_cons, List.getElem?_cons_zero, List.getElem?_cons_succ, List.set_cons_zero, List.set_cons_succ]
    exact ⟨Nat.le_refl _, Nat.le_refl _, hq⟩
  · intro k h' q
    rcases hx k h' q with ⟨rfl, hq⟩ | ⟨rfl, hq⟩ | ⟨rfl, hq⟩
    · refine ⟨3, rfl, ?_⟩
      refine hK 3 _ _ _ _ _ _ rfl (by decide) ?_
      dsimp only [k_W_take_3, hN1, hB, hM1, hM, wpI, xop, xcall, xli, xlj, xlf, xld, xla, xlg, xst, xst2, xc1, pI, pJ, pF, pD, pR, pA, p1, p0, xpop, xpush, xsm, xhas, xif, xic, xsw, xai, xal, xhi, xhv, xrf, xret, xrtl, xrtf, xrtd, xrta, xrtv, xfit, xnew, cond_true, cond_false, f40, f41, f42, f43, List.length_cons, List.length_nil, Nat.reduceAdd, Nat.reduceSub, Nat.reduceMul, Nat.reduceBEq, List.map_cons, List.map_nil, List.headD_cons, List.getElem?_cons_zero, List.getElem?_cons_succ, List.set_cons_zero, List.set_cons_succ]
      exact ⟨Nat.le_refl _, Nat.le_refl _, hq⟩
    · refine ⟨4, rfl, ?_⟩
      refine hK 4 _ _ _ _ _ _ rfl (by decide) ?_
      dsimp only [k_W_take_4, hN1, hB, hM1, hM, wpI, xop, xcall, xli, xlj, xlf, xld, xla, xlg, xst, xst2, xc1, pI, pJ, pF, pD, pR, pA, p1, p0, xpop, xpush, xsm, xhas, xif, xic, xsw, xai, xal, xhi, xhv, xrf, xret, xrtl, xrtf, xrtd, xrta, xrtv, xfit, xnew, cond_true, cond_false, f40, f41, f42, f43, List.length_cons, List.length_nil, Nat.reduceAdd, Nat.reduceSub, Nat.reduceMul, Nat.reduceBEq, List.map_cons, List.map_nil, List.headD_cons, List.getElem?_cons_zero, List.getElem?_cons_succ, List.set_cons_zero, List.set_cons_succ]
      exact ⟨Nat.le_refl _, Nat.le_refl _, hq⟩
    · refine ⟨5, rfl, ?_⟩
      refine hK 5 _ _ _ _ _ _ rfl (by decide) ?_
      dsimp only [k_W_take_5, hN1, hB, hM1, hM, wpI, xop, xcall, xli, xlj, xlf, xld, xla, xlg, xst, xst2, xc1, pI, pJ, pF, pD, pR, pA, p1, p0, xpop, xpush, xsm, xhas, xif, xic, xsw, xai, xal, xhi, xhv, xrf, xret, xrtl, xrtf, xrtd, xrta, xrtv, xfit, xnew, cond_true, cond_false, f40, f41, f42, f43, List.length_cons, List.length_nil, Nat.reduceAdd, Nat.reduceSub, Nat.reduceMul, Nat.reduceBEq, List.map_cons, List.map_nil, List.headD_cons, List.getElem?_cons_zero, List.getElem?_cons_succ, List.set_cons_zero, List.set_cons_succ]
      exact ⟨Nat.le_refl _, Nat.le_refl _, hq⟩
set_option maxRecDepth 100000 in
set_option maxHeartbeats 4000000 in
theorem w_turn {d : Nat} {x : Int32} {h : xH} {Qf Q : Option Value → xH → Prop} {Xf : Nat → xH → Prop} (h0 : ∃ (l0 : List Int32) (vs : List Value), h[0]? = some (6, l0, vs)) (h15 : 15 < h.length) (hE : Ev xT d N_B_turn [.ref 0, .int x] h Qf Xf) (hv : wV Qf Q) (hx : ∀ k h', Xf k h' → (k = 11 ∧ Q (some (.int (nI 1))) h')) :
    EvW d b_W_turn hb_turn 31 1 3 4 1 6 false [.ref 0, .int x, .ref 15] h Q := by
  intro K hK hC
  show K 0 [some (.ref 0), some (.int x), some (.ref 15), none] [] h 0 0
  refine hK 0 _ _ _ _ _ _ rfl (by decide) ?_
  dsimp only [k_W_turn_0, hN1, hB, hM1, hM, wpI, xop, xcall, xli, xlj, xlf, xld, xla, xlg, xst, xst2, xc1, pI, pJ, pF, pD, pR, pA, p1, p0, xpop, xpush, xsm, xhas, xif, xic, xsw, xai, xal, xhi, xhv, xrf, xret, xrtl, xrtf, xrtd, xrta, xrtv, xfit, xnew, cond_true, cond_false, f40, f41, f42, f43, List.length_cons, List.length_nil, Nat.reduceAdd, Nat.reduceSub, Nat.reduceMul, Nat.reduceBEq, List.map_cons, List.map_nil, List.headD_cons, List.getElem?_cons_zero, List.getElem?_cons_succ, List.set_cons_zero, List.set_cons_succ]
  refine hC [some (.ref 0), some (.int x), some (.ref 15), none] [.int x] [.int (nI 0), .ref 15] h Qf Xf rfl (by decide) h0 ?_ ?_ ?_ hE ?_ ?_
  · simp only [xwL, wfv, true_and, and_true]; exact ⟨Or.inl (Nat.lt_of_le_of_lt (Nat.zero_le _) h15), Or.inl h15⟩
  · simp only [xwS, wfv, true_and, and_true]; exact Or.inl h15
  · intro j v hj
    have hj2 : j < 4 := (List.getElem?_eq_some_iff.mp hj).1
    have hj3 : j = 0 ∨ j = 1 ∨ j = 2 ∨ j = 3 := by omega
    rcases hj3 with rfl | rfl | rfl | rfl
    · obtain rfl := Option.some.inj (Option.some.inj hj)
      exact ⟨by decide, by simp [Value.category]⟩
    · obtain rfl := Option.some.inj (Option.some.inj hj)
      exact ⟨by decide, by simp [Value.category]⟩
    · obtain rfl := Option.some.inj (Option.some.inj hj)
      exact ⟨by decide, by simp [Value.category]⟩
    · exact nomatch hj
  · intro v h' q
    obtain ⟨r, l, u, rfl, e, hq⟩ := hv v h' q
    refine hK 2 _ _ _ _ _ _ rfl (by decide) ?_
    dsimp only [k_W_turn_2, hN1, hB, hM1, hM, wpI, xop, xcall, xli, xlj, xlf, xld, xla, xlg, xst, xst2, xc1, pI, pJ, pF, pD, pR, pA, p1, p0, xpop, xpush, xsm, xhas, xif, xic, xsw, xrf, xret, xrtl, xrtf, xrtd, xrta, xrtv, xfit, xnew, cond_true, cond_false, f40, f41, f42, f43, List.length_cons, List.length_nil, Nat.reduceAdd, Nat.reduceSub, Nat.reduceMul, Nat.reduceBEq, List.map_cons, List.map_nil, List.headD_cons, List.getElem?_cons_zero, List.getElem?_cons_succ, List.set_cons_zero, List.set_cons_succ]
    refine xhv_of e ?_
    refine ⟨vp_in1, ?_⟩
    rw [nI0_0]
    refine hK 4 _ _ _ _ _ _ rfl (by decide) ?_
    dsimp only [k_W_turn_4, hN1, hB, hM1, hM, wpI, xop, xcall, xli, xlj, xlf, xld, xla, xlg, xst, xst2, xc1, pI, pJ, pF, pD, pR, pA, p1, p0, xpop, xpush, xsm, xhas, xif, xic, xsw, xai, xal, xhi, xhv, xrf, xret, xrtl, xrtf, xrtd, xrta, xrtv, xfit, xnew, cond_true, cond_false, f40, f41, f42, f43, List.length_cons, List.length_nil, Nat.reduceAdd, Nat.reduceSub, Nat.reduceMul, Nat.reduceBEq, List.map_cons, List.map_nil, List.headD_cons, List.getElem?_cons_zero, List.getElem?_cons_succ, List.set_cons_zero, List.set_cons_succ]
    exact ⟨Nat.le_refl _, Nat.le_refl _, hq⟩
  · intro k h' q
    obtain ⟨rfl, hq⟩ := hx k h' q
    refine ⟨3, rfl, ?_⟩
    refine hK 3 _ _ _ _ _ _ rfl (by decide) ?_
    dsimp only [k_W_turn_3, hN1, hB, hM1, hM, wpI, xop, xcall, xli, xlj, xlf, xld, xla, xlg, xst, xst2, xc1, pI, pJ, pF, pD, pR, pA, p1, p0, xpop, xpush, xsm, xhas, xif, xic, xsw, xai, xal, xhi, xhv, xrf, xret, xrtl, xrtf, xrtd, xrta, xrtv, xfit, xnew, cond_true, cond_false, f40, f41, f42, f43, List.length_cons, List.length_nil, Nat.reduceAdd, Nat.reduceSub, Nat.reduceMul, Nat.reduceBEq, List.map_cons, List.map_nil, List.headD_cons, List.getElem?_cons_zero, List.getElem?_cons_succ, List.set_cons_zero, List.set_cons_succ]
    exact ⟨Nat.le_refl _, Nat.le_refl _, hq⟩
set_option maxRecDepth 100000 in
set_option maxHeartbeats 4000000 in
theorem w_knock {d : Nat} {x y : Int32} {h : xH} {Qf Q : Option Value → xH → Prop} {Xf : Nat → xH → Prop} (h0 : ∃ (l0 : List Int32) (vs : List Value), h[0]? = some (6, l0, vs)) (h15 : 15 < h.length) (hE : Ev xT d N_B_knock [.ref 0, .int x, .int y] h Qf Xf) (hv : wV Qf Q) (hx : ∀ k h', Xf k h' → (k = 10 ∧ Q (some (.int (nI 1))) h') ∨ (k = 12 ∧ Q (some (.int (nI 2))) h')) :
    EvW d b_W_knock hb_knock 32 2 4 5 1 6 false [.ref 0, .int x, .int y, .ref 15] h Q := by
  intro K hK hC
  show K 0 [some (.ref 0), some (.int x), some (.int y), some (.ref 15), none] [] h 0 0
  refine hK 0 _ _ _ _ _ _ rfl (by decide) ?_
  dsimp only [k_W_knock_0, hN1, hB, hM1, hM, wpI, xop, xcall, xli, xlj, xlf, xld, xla, xlg, xst, xst2, xc1, pI, pJ, pF, pD, pR, pA, p1, p0, xpop, xpush, xsm, xhas, xif, xic, xsw, xai, xal, xhi, xhv, xrf, xret, xrtl, xrtf, xrtd, xrta, xrtv, xfit, xnew, cond_true, cond_false, f40, f41, f42, f43, List.length_cons, List.length_nil, Nat.reduceAdd, Nat.reduceSub, Nat.reduceMul, Nat.reduceBEq, List.map_cons, List.map_nil, List.headD_cons, List.getElem?_cons_zero, List.getElem?_cons_succ, List.set_cons_zero, List.set_cons_succ]
  refine hC [some (.ref 0), some (.int x), some (.int y), some (.ref 15), none] [.int x, .int y] [.int (nI 0), .ref 15] h Qf Xf rfl (by decide) h0 ?_ ?_ ?_ hE ?_ ?_
  · simp only [xwL, wfv, true_and, and_true]; exact ⟨Or.inl (Nat.lt_of_le_of_lt (Nat.zero_le _) h15), Or.inl h15⟩
  · simp only [xwS, wfv, true_and, and_true]; exact Or.inl h15
  · intro j v hj
    have hj2 : j < 5 := (List.getElem?_eq_some_iff.mp hj).1
    have hj3 : j = 0 ∨ j = 1 ∨ j = 2 ∨ j = 3 ∨ j = 4 := by omega
    rcases hj3 with rfl | rfl | rfl | rfl | rfl
    · obtain rfl := Option.some.inj (Option.some.inj hj)
      exact ⟨by decide, by simp [Value.category]⟩
    · obtain rfl := Option.some.inj (Option.some.inj hj)
      exact ⟨by decide, by simp [Value.category]⟩
    · obtain rfl := Option.some.inj (Option.some.inj hj)
      exact ⟨by decide, by simp [Value.category]⟩
    · obtain rfl := Option.some.inj (Option.some.inj hj)
      exact ⟨by decide, by simp [Value.category]⟩
    · exact nomatch hj
  · intro v h' q
    obtain ⟨r, l, u, rfl, e, hq⟩ := hv v h' q
    refine hK 2 _ _ _ _ _ _ rfl (by decide) ?_
    dsimp only [k_W_knock_2, hN1, hB, hM1, hM, wpI, xop, xcall, xli, xlj, xlf, xld, xla, xlg, xst, xst2, xc1, pI, pJ, pF, pD, pR, pA, p1, p0, xpop, xpush, xsm, xhas, xif, xic, xsw, xrf, xret, xrtl, xrtf, xrtd, xrta, xrtv, xfit, xnew, cond_true, cond_false, f40, f41, f42, f43, List.length_cons, List.length_nil, Nat.reduceAdd, Nat.reduceSub, Nat.reduceMul, Nat.reduceBEq, List.map_cons, List.map_nil, List.headD_cons, List.getElem?_cons_zero, List.getElem?_cons_succ, List.set_cons_zero, List.set_cons_succ]
    refine xhv_of e ?_
    refine ⟨vp_in1, ?_⟩
    rw [nI0_0]
    refine hK 5 _ _ _ _ _ _ rfl (by decide) ?_
    dsimp only [k_W_knock_5, hN1, hB, hM1, hM, wpI, xop, xcall, xli, xlj, xlf, xld, xla, xlg, xst, xst2, xc1, pI, pJ, pF, pD, pR, pA, p1, p0, xpop, xpush, xsm, xhas, xif, xic, xsw, xai, xal, xhi, xhv, xrf, xret, xrtl, xrtf, xrtd, xrta, xrtv, xfit, xnew, cond_true, cond_false, f40, f41, f42, f43, List.length_cons, List.length_nil, Nat.reduceAdd, Nat.reduceSub, Nat.reduceMul, Nat.reduceBEq, List.map_cons, List.map_nil, List.headD_cons, List.getElem?_cons_zero, List.getElem?_cons_succ, List.set_cons_zero, List.set_cons_succ]
    exact ⟨Nat.le_refl _, Nat.le_refl _, hq⟩
  · intro k h' q
    rcases hx k h' q with ⟨rfl, hq⟩ | ⟨rfl, hq⟩
    · refine ⟨3, rfl, ?_⟩
      refine hK 3 _ _ _ _ _ _ rfl (by decide) ?_
      dsimp only [k_W_knock_3, hN1, hB, hM1, hM, wpI, xop, xcall, xli, xlj, xlf, xld, xla, xlg, xst, xst2, xc1, pI, pJ, pF, pD, pR, pA, p1, p0, xpop, xpush, xsm, xhas, xif, xic, xsw, xai, xal, xhi, xhv, xrf, xret, xrtl, xrtf, xrtd, xrta, xrtv, xfit, xnew, cond_true, cond_false, f40, f41, f42, f43, List.length_cons, List.length_nil, Nat.reduceAdd, Nat.reduceSub, Nat.reduceMul, Nat.reduceBEq, List.map_cons, List.map_nil, List.headD_cons, List.getElem?_cons_zero, List.getElem?_cons_succ, List.set_cons_zero, List.set_cons_succ]
      exact ⟨Nat.le_refl _, Nat.le_refl _, hq⟩
    · refine ⟨4, rfl, ?_⟩
      refine hK 4 _ _ _ _ _ _ rfl (by decide) ?_
      dsimp only [k_W_knock_4, hN1, hB, hM1, hM, wpI, xop, xcall, xli, xlj, xlf, xld, xla, xlg, xst, xst2, xc1, pI, pJ, pF, pD, pR, pA, p1, p0, xpop, xpush, xsm, xhas, xif, xic, xsw, xai, xal, xhi, xhv, xrf, xret, xrtl, xrtf, xrtd, xrta, xrtv, xfit, xnew, cond_true, cond_false, f40, f41, f42, f43, List.length_cons, List.length_nil, Nat.reduceAdd, Nat.reduceSub, Nat.reduceMul, Nat.reduceBEq, List.map_cons, List.map_nil, List.headD_cons, List.getElem?_cons_zero, List.getElem?_cons_succ, List.set_cons_zero, List.set_cons_succ]
      exact ⟨Nat.le_refl _, Nat.le_refl _, hq⟩
set_option maxRecDepth 100000 in
set_option maxHeartbeats 4000000 in
theorem w_put {d : Nat} {x y : Int32} {h : xH} {Qf Q : Option Value → xH → Prop} {Xf : Nat → xH → Prop} (h0 : ∃ (l0 : List Int32) (vs : List Value), h[0]? = some (6, l0, vs)) (h15 : 15 < h.length) (hE : Ev xT d N_B_put [.ref 0, .int x, .int y] h Qf Xf) (hv : wV Qf Q) (hx : ∀ k h', Xf k h' → (k = 10 ∧ Q (some (.int (nI 1))) h') ∨ (k = 12 ∧ Q (some (.int (nI 2))) h')) :
    EvW d b_W_put hb_put 33 2 4 5 1 6 false [.ref 0, .int x, .int y, .ref 15] h Q := by
  intro K hK hC
  show K 0 [some (.ref 0), some (.int x), some (.int y), some (.ref 15), none] [] h 0 0
  refine hK 0 _ _ _ _ _ _ rfl (by decide) ?_
  dsimp only [k_W_put_0, hN1, hB, hM1, hM, wpI, xop, xcall, xli, xlj, xlf, xld, xla, xlg, xst, xst2, xc1, pI, pJ, pF, pD, pR, pA, p1, p0, xpop, xpush, xsm, xhas, xif, xic, xsw, xai, xal, xhi, xhv, xrf, xret, xrtl, xrtf, xrtd, xrta, xrtv, xfit, xnew, cond_true, cond_false, f40, f41, f42, f43, List.length_cons, List.length_nil, Nat.reduceAdd, Nat.reduceSub, Nat.reduceMul, Nat.reduceBEq, List.map_cons, List.map_nil, List.headD_cons, List.getElem?_cons_zero, List.getElem?_cons_succ, List.set_cons_zero, List.set_cons_succ]
  refine hC [some (.ref 0), some (.int x), some (.int y), some (.ref 15), none] [.int x, .int y] [.int (nI 0), .ref 15] h Qf Xf rfl (by decide) h0 ?_ ?_ ?_ hE ?_ ?_
  · simp only [xwL, wfv, true_and, and_true]; exact ⟨Or.inl (Nat.lt_of_le_of_lt (Nat.zero_le _) h15), Or.inl h15⟩
  · simp only [xwS, wfv, true_and, and_true]; exact Or.inl h15
  · intro j v hj
    have hj2 : j < 5 := (List.getElem?_eq_some_iff.mp hj).1
    have hj3 : j = 0 ∨ j = 1 ∨ j = 2 ∨ j = 3 ∨ j = 4 := by omega
    rcases hj3 with rfl | rfl | rfl | rfl | rfl
    · obtain rfl := Option.some.inj (Option.some.inj hj)
      exact ⟨by decide, by simp [Value.category]⟩
    · obtain rfl := Option.some.inj (Option.some.inj hj)
      exact ⟨by decide, by simp [Value.category]⟩
    · obtain rfl := Option.some.inj (Option.some.inj hj)
      exact ⟨by decide, by simp [Value.category]⟩
    · obtain rfl := Option.some.inj (Option.some.inj hj)
      exact ⟨by decide, by simp [Value.category]⟩
    · exact nomatch hj
  · intro v h' q
    obtain ⟨r, l, u, rfl, e, hq⟩ := hv v h' q
    refine hK 2 _ _ _ _ _ _ rfl (by decide) ?_
    dsimp only [k_W_put_2, hN1, hB, hM1, hM, wpI, xop, xcall, xli, xlj, xlf, xld, xla, xlg, xst, xst2, xc1, pI, pJ, pF, pD, pR, pA, p1, p0, xpop, xpush, xsm, xhas, xif, xic, xsw, xrf, xret, xrtl, xrtf, xrtd, xrta, xrtv, xfit, xnew, cond_true, cond_false, f40, f41, f42, f43, List.length_cons, List.length_nil, Nat.reduceAdd, Nat.reduceSub, Nat.reduceMul, Nat.reduceBEq, List.map_cons, List.map_nil, List.headD_cons, List.getElem?_cons_zero, List.getElem?_cons_succ, List.set_cons_zero, List.set_cons_succ]
    refine xhv_of e ?_
    refine ⟨vp_in1, ?_⟩
    rw [nI0_0]
    refine hK 5 _ _ _ _ _ _ rfl (by decide) ?_
    dsimp only [k_W_put_5, hN1, hB, hM1, hM, wpI, xop, xcall, xli, xlj, xlf, xld, xla, xlg, xst, xst2, xc1, pI, pJ, pF, pD, pR, pA, p1, p0, xpop, xpush, xsm, xhas, xif, xic, xsw, xai, xal, xhi, xhv, xrf, xret, xrtl, xrtf, xrtd, xrta, xrtv, xfit, xnew, cond_true, cond_false, f40, f41, f42, f43, List.length_cons, List.length_nil, Nat.reduceAdd, Nat.reduceSub, Nat.reduceMul, Nat.reduceBEq, List.map_cons, List.map_nil, List.headD_cons, List.getElem?_cons_zero, List.getElem?_cons_succ, List.set_cons_zero, List.set_cons_succ]
    exact ⟨Nat.le_refl _, Nat.le_refl _, hq⟩
  · intro k h' q
    rcases hx k h' q with ⟨rfl, hq⟩ | ⟨rfl, hq⟩
    · refine ⟨3, rfl, ?_⟩
      refine hK 3 _ _ _ _ _ _ rfl (by decide) ?_
      dsimp only [k_W_put_3, hN1, hB, hM1, hM, wpI, xop, xcall, xli, xlj, xlf, xld, xla, xlg, xst, xst2, xc1, pI, pJ, pF, pD, pR, pA, p1, p0, xpop, xpush, xsm, xhas, xif, xic, xsw, xai, xal, xhi, xhv, xrf, xret, xrtl, xrtf, xrtd, xrta, xrtv, xfit, xnew, cond_true, cond_false, f40, f41, f42, f43, List.length_cons, List.length_nil, Nat.reduceAdd, Nat.reduceSub, Nat.reduceMul, Nat.reduceBEq, List.map_cons, List.map_nil, List.headD_cons, List.getElem?_cons_zero, List.getElem?_cons_succ, List.set_cons_zero, List.set_cons_succ]
      exact ⟨Nat.le_refl _, Nat.le_refl _, hq⟩
    · refine ⟨4, rfl, ?_⟩
      refine hK 4 _ _ _ _ _ _ rfl (by decide) ?_
      dsimp only [k_W_put_4, hN1, hB, hM1, hM, wpI, xop, xcall, xli, xlj, xlf, xld, xla, xlg, xst, xst2, xc1, pI, pJ, pF, pD, pR, pA, p1, p0, xpop, xpush, xsm, xhas, xif, xic, xsw, xai, xal, xhi, xhv, xrf, xret, xrtl, xrtf, xrtd, xrta, xrtv, xfit, xnew, cond_true, cond_false, f40, f41, f42, f43, List.length_cons, List.length_nil, Nat.reduceAdd, Nat.reduceSub, Nat.reduceMul, Nat.reduceBEq, List.map_cons, List.map_nil, List.headD_cons, List.getElem?_cons_zero, List.getElem?_cons_succ, List.set_cons_zero, List.set_cons_succ]
      exact ⟨Nat.le_refl _, Nat.le_refl _, hq⟩
set_option maxRecDepth 100000 in
set_option maxHeartbeats 4000000 in
theorem w_set {d : Nat} {x y : Int32} {h : xH} {Qf Q : Option Value → xH → Prop} {Xf : Nat → xH → Prop} (h0 : ∃ (l0 : List Int32) (vs : List Value), h[0]? = some (6, l0, vs)) (h15 : 15 < h.length) (hE : Ev xT d N_B_set [.ref 0, .int x, .int y] h Qf Xf) (hv : wV Qf Q) (hx : ∀ k h', Xf k h' → (k = 10 ∧ Q (some (.int (nI 1))) h') ∨ (k = 11 ∧ Q (some (.int (nI 2))) h')) :
    EvW d b_W_set hb_set 36 2 4 5 1 6 false [.ref 0, .int x, .int y, .ref 15] h Q := by
  intro K hK hC
  show K 0 [some (.ref 0), some (.int x), some (.int y), some (.ref 15), none] [] h 0 0
  refine hK 0 _ _ _ _ _ _ rfl (by decide) ?_
  dsimp only [k_W_set_0, hN1, hB, hM1, hM, wpI, xop, xcall, xli, xlj, xlf, xld, xla, xlg, xst, xst2, xc1, pI, pJ, pF, pD, pR, pA, p1, p0, xpop, xpush, xsm, xhas, xif, xic, xsw, xai, xal, xhi, xhv, xrf, xret, xrtl, xrtf, xrtd, xrta, xrtv, xfit, xnew, cond_true, cond_false, f40, f41, f42, f43, List.length_cons, List.length_nil, Nat.reduceAdd, Nat.reduceSub, Nat.reduceMul, Nat.reduceBEq, List.map_cons, List.map_nil, List.headD_cons, List.getElem?_cons_zero, List.getElem?_cons_succ, List.set_cons_zero, List.set_cons_succ]
  refine hC [some (.ref 0), some (.int x), some (.int y), some (.ref 15), none] [.int x, .int y] [.int (nI 0), .ref 15] h Qf Xf rfl (by decide) h0 ?_ ?_ ?_ hE ?_ ?_
  · simp only [xwL, wfv, true_and, and_true]; exact ⟨Or.inl (Nat.lt_of_le_of_lt (Nat.zero_le _) h15), Or.inl h15⟩
  · simp only [xwS, wfv, true_and, and_true]; exact Or.inl h15
  · intro j v hj
    have hj2 : j < 5 := (List.getElem?_eq_some_iff.mp hj).1
    have hj3 : j = 0 ∨ j = 1 ∨ j = 2 ∨ j = 3 ∨ j = 4 := by omega
    rcases hj3 with rfl | rfl | rfl | rfl | rfl
    · obtain rfl := Option.some.inj (Option.some.inj hj)
      exact ⟨by decide, by simp [Value.category]⟩
    · obtain rfl := Option.some.inj (Option.some.inj hj)
      exact ⟨by decide, by simp [Value.category]⟩
    · obtain rfl := Option.some.inj (Option.some.inj hj)
      exact ⟨by decide, by simp [Value.category]⟩
    · obtain rfl := Option.some.inj (Option.some.inj hj)
      exact ⟨by decide, by simp [Value.category]⟩
    · exact nomatch hj
  · intro v h' q
    obtain ⟨r, l, u, rfl, e, hq⟩ := hv v h' q
    refine hK 2 _ _ _ _ _ _ rfl (by decide) ?_
    dsimp only [k_W_set_2, hN1, hB, hM1, hM, wpI, xop, xcall, xli, xlj, xlf, xld, xla, xlg, xst, xst2, xc1, pI, pJ, pF, pD, pR, pA, p1, p0, xpop, xpush, xsm, xhas, xif, xic, xsw, xrf, xret, xrtl, xrtf, xrtd, xrta, xrtv, xfit, xnew, cond_true, cond_false, f40, f41, f42, f43, List.length_cons, List.length_nil, Nat.reduceAdd, Nat.reduceSub, Nat.reduceMul, Nat.reduceBEq, List.map_cons, List.map_nil, List.headD_cons, List.getElem?_cons_zero, List.getElem?_cons_succ, List.set_cons_zero, List.set_cons_succ]
    refine xhv_of e ?_
    refine ⟨vp_in1, ?_⟩
    rw [nI0_0]
    refine hK 5 _ _ _ _ _ _ rfl (by decide) ?_
    dsimp only [k_W_set_5, hN1, hB, hM1, hM, wpI, xop, xcall, xli, xlj, xlf, xld, xla, xlg, xst, xst2, xc1, pI, pJ, pF, pD, pR, pA, p1, p0, xpop, xpush, xsm, xhas, xif, xic, xsw, xai, xal, xhi, xhv, xrf, xret, xrtl, xrtf, xrtd, xrta, xrtv, xfit, xnew, cond_true, cond_false, f40, f41, f42, f43, List.length_cons, List.length_nil, Nat.reduceAdd, Nat.reduceSub, Nat.reduceMul, Nat.reduceBEq, List.map_cons, List.map_nil, List.headD_cons, List.getElem?_cons_zero, List.getElem?_cons_succ, List.set_cons_zero, List.set_cons_succ]
    exact ⟨Nat.le_refl _, Nat.le_refl _, hq⟩
  · intro k h' q
    rcases hx k h' q with ⟨rfl, hq⟩ | ⟨rfl, hq⟩
    · refine ⟨3, rfl, ?_⟩
      refine hK 3 _ _ _ _ _ _ rfl (by decide) ?_
      dsimp only [k_W_set_3, hN1, hB, hM1, hM, wpI, xop, xcall, xli, xlj, xlf, xld, xla, xlg, xst, xst2, xc1, pI, pJ, pF, pD, pR, pA, p1, p0, xpop, xpush, xsm, xhas, xif, xic, xsw, xai, xal, xhi, xhv, xrf, xret, xrtl, xrtf, xrtd, xrta, xrtv, xfit, xnew, cond_true, cond_false, f40, f41, f42, f43, List.length_cons, List.length_nil, Nat.reduceAdd, Nat.reduceSub, Nat.reduceMul, Nat.reduceBEq, List.map_cons, List.map_nil, List.headD_cons, List.getElem?_cons_zero, List.getElem?_cons_succ, List.set_cons_zero, List.set_cons_succ]
      exact ⟨Nat.le_refl _, Nat.le_refl _, hq⟩
    · refine ⟨4, rfl, ?_⟩
      refine hK 4 _ _ _ _ _ _ rfl (by decide) ?_
      dsimp only [k_W_set_4, hN1, hB, hM1, hM, wpI, xop, xcall, xli, xlj, xlf, xld, xla, xlg, xst, xst2, xc1, pI, pJ, pF, pD, pR, pA, p1, p0, xpop, xpush, xsm, xhas, xif, xic, xsw, xai, xal, xhi, xhv, xrf, xret, xrtl, xrtf, xrtd, xrta, xrtv, xfit, xnew, cond_true, cond_false, f40, f41, f42, f43, List.length_cons, List.length_nil, Nat.reduceAdd, Nat.reduceSub, Nat.reduceMul, Nat.reduceBEq, List.map_cons, List.map_nil, List.headD_cons, List.getElem?_cons_zero, List.getElem?_cons_succ, List.set_cons_zero, List.set_cons_succ]
      exact ⟨Nat.le_refl _, Nat.le_refl _, hq⟩
set_option maxRecDepth 100000 in
set_option maxHeartbeats 4000000 in
theorem w_append {d : Nat} {x : Int32} {h : xH} {Qf Q : Option Value → xH → Prop} {Xf : Nat → xH → Prop} (h0 : ∃ (l0 : List Int32) (vs : List Value), h[0]? = some (6, l0, vs)) (h15 : 15 < h.length) (hE : Ev xT d N_B_append [.ref 0, .int x] h Qf Xf) (hv : wV Qf Q) (hx : ∀ k h', Xf k h' → (k = 11 ∧ Q (some (.int (nI 1))) h') ∨ (k = 12 ∧ Q (some (.int (nI 2))) h')) :
    EvW d b_W_append hb_append 37 1 3 4 1 6 false [.ref 0, .int x, .ref 15] h Q := by
  intro K hK hC
  show K 0 [some (.ref 0), some (.int x), some (.ref 15), none] [] h 0 0
  refine hK 0 _ _ _ _ _ _ rfl (by decide) ?_
  dsimp only [k_W_append_0, hN1, hB, hM1, hM, wpI, xop, xcall, xli, xlj, xlf, xld, xla, xlg, xst, xst2, xc1, pI, pJ, pF, pD, pR, pA, p1, p0, xpop, xpush, xsm, xhas, xif, xic, xsw, xai, xal, xhi, xhv, xrf, xret, xrtl, xrtf, xrtd, xrta, xrtv, xfit, xnew, cond_true, cond_false, f40, f41, f42, f43, List.length_cons, List.length_nil, Nat.reduceAdd, Nat.reduceSub, Nat.reduceMul, Nat.reduceBEq, List.map_cons, List.map_nil, List.headD_cons, List.getElem?_cons_zero, List.getElem?_cons_succ, List.set_cons_zero, List.set_cons_succ]
  refine hC [some (.ref 0), some (.int x), some (.ref 15), none] [.int x] [.int (nI 0), .ref 15] h Qf Xf rfl (by decide) h0 ?_ ?_ ?_ hE ?_ ?_
  · simp only [xwL, wfv, true_and, and_true]; exact ⟨Or.inl (Nat.lt_of_le_of_lt (Nat.zero_le _) h15), Or.inl h15⟩
  · simp only [xwS, wfv, true_and, and_true]; exact Or.inl h15
  · intro j v hj
    have hj2 : j < 4 := (List.getElem?_eq_some_iff.mp hj).1
    have hj3 : j = 0 ∨ j = 1 ∨ j = 2 ∨ j = 3 := by omega
    rcases hj3 with rfl | rfl | rfl | rfl
    · obtain rfl := Option.some.inj (Option.some.inj hj)
      exact ⟨by decide, by simp [Value.category]⟩
    · obtain rfl := Option.some.inj (Option.some.inj hj)
      exact ⟨by decide, by simp [Value.category]⟩
    · obtain rfl := Option.some.inj (Option.some.inj hj)
      exact ⟨by decide, by simp [Value.category]⟩
    · exact nomatch hj
  · intro v h' q
    obtain ⟨r, l, u, rfl, e, hq⟩ := hv v h' q
    refine hK 2 _ _ _ _ _ _ rfl (by decide) ?_
    dsimp only [k_W_append_2, hN1, hB, hM1, hM, wpI, xop, xcall, xli, xlj, xlf, xld, xla, xlg, xst, xst2, xc1, pI, pJ, pF, pD, pR, pA, p1, p0, xpop, xpush, xsm, xhas, xif, xic, xsw, xrf, xret, xrtl, xrtf, xrtd, xrta, xrtv, xfit, xnew, cond_true, cond_false, f40, f41, f42, f43, List.length_cons, List.length_nil, Nat.reduceAdd, Nat.reduceSub, Nat.reduceMul, Nat.reduceBEq, List.map_cons, List.map_nil, List.headD_cons, List.getElem?_cons_zero, List.getElem?_cons_succ, List.set_cons_zero, List.set_cons_succ]
    refine xhv_of e ?_
    refine ⟨vp_in1, ?_⟩
    rw [nI0_0]
    refine hK 5 _ _ _ _ _ _ rfl (by decide) ?_
    dsimp only [k_W_append_5, hN1, hB, hM1, hM, wpI, xop, xcall, xli, xlj, xlf, xld, xla, xlg, xst, xst2, xc1, pI, pJ, pF, pD, pR, pA, p1, p0, xpop, xpush, xsm, xhas, xif, xic, xsw, xai, xal, xhi, xhv, xrf, xret, xrtl, xrtf, xrtd, xrta, xrtv, xfit, xnew, cond_true, cond_false, f40, f41, f42, f43, List.length_cons, List.length_nil, Nat.reduceAdd, Nat.reduceSub, Nat.reduceMul, Nat.reduceBEq, List.map_cons, List.map_nil, List.headD_cons, List.getElem?_cons_zero, List.getElem?_cons_succ, List.set_cons_zero, List.set_cons_succ]
    exact ⟨Nat.le_refl _, Nat.le_refl _, hq⟩
  · intro k h' q
    rcases hx k h' q with ⟨rfl, hq⟩ | ⟨rfl, hq⟩
    · refine ⟨3, rfl, ?_⟩
      refine hK 3 _ _ _ _ _ _ rfl (by decide) ?_
      dsimp only [k_W_append_3, hN1, hB, hM1, hM, wpI, xop, xcall, xli, xlj, xlf, xld, xla, xlg, xst, xst2, xc1, pI, pJ, pF, pD, pR, pA, p1, p0, xpop, xpush, xsm, xhas, xif, xic, xsw, xai, xal, xhi, xhv, xrf, xret, xrtl, xrtf, xrtd, xrta, xrtv, xfit, xnew, cond_true, cond_false, f40, f41, f42, f43, List.length_cons, List.length_nil, Nat.reduceAdd, Nat.reduceSub, Nat.reduceMul, Nat.reduceBEq, List.map_cons, List.map_nil, List.headD_cons, List.getElem?_cons_zero, List.getElem?_cons_succ, List.set_cons_zero, List.set_cons_succ]
      exact ⟨Nat.le_refl _, Nat.le_refl _, hq⟩
    · refine ⟨4, rfl, ?_⟩
      refine hK 4 _ _ _ _ _ _ rfl (by decide) ?_
      dsimp only [k_W_append_4, hN1, hB, hM1, hM, wpI, xop, xcall, xli, xlj, xlf, xld, xla, xlg, xst, xst2, xc1, pI, pJ, pF, pD, pR, pA, p1, p0, xpop, xpush, xsm, xhas, xif, xic, xsw, xai, xal, xhi, xhv, xrf, xret, xrtl, xrtf, xrtd, xrta, xrtv, xfit, xnew, cond_true, cond_false, f40, f41, f42, f43, List.length_cons, List.length_nil, Nat.reduceAdd, Nat.reduceSub, Nat.reduceMul, Nat.reduceBEq, List.map_cons, List.map_nil, List.headD_cons, List.getElem?_cons_zero, List.getElem?_cons_succ, List.set_cons_zero, List.set_cons_succ]
      exact ⟨Nat.le_refl _, Nat.le_refl _, hq⟩
set_option maxRecDepth 100000 in
set_option maxHeartbeats 4000000 in
theorem w_obey {d : Nat} {h : xH} {Qf Q : Option Value → xH → Prop} {Xf : Nat → xH → Prop} (h0 : ∃ (l0 : List Int32) (vs : List Value), h[0]? = some (6, l0, vs)) (h15 : 15 < h.length) (hE : Ev xT d N_B_obey [.ref 0] h Qf Xf) (hv : wV Qf Q) (hx : ∀ k h', Xf k h' → (k = 11 ∧ Q (some (.int (nI 1))) h')) :
    EvW d b_W_obey hb_obey 40 0 2 3 1 6 false [.ref 0, .ref 15] h Q := by
  intro K hK hC
  show K 0 [some (.ref 0), some (.ref 15), none] [] h 0 0
  refine hK 0 _ _ _ _ _ _ rfl (by decide) ?_
  dsimp only [k_W_obey_0, hN1, hB, hM1, hM, wpI, xop, xcall, xli, xlj, xlf, xld, xla, xlg, xst, xst2, xc1, pI, pJ, pF, pD, pR, pA, p1, p0, xpop, xpush, xsm, xhas, xif, xic, xsw, xai, xal, xhi, xhv, xrf, xret, xrtl, xrtf, xrtd, xrta, xrtv, xfit, xnew, cond_true, cond_false, f40, f41, f42, f43, List.length_cons, List.length_nil, Nat.reduceAdd, Nat.reduceSub, Nat.reduceMul, Nat.reduceBEq, List.map_cons, List.map_nil, List.headD_cons, List.getElem?_cons_zero, List.getElem?_cons_succ, List.set_cons_zero, List.set_cons_succ]
  refine hC [some (.ref 0), some (.ref 15), none] [] [.int (nI 0), .ref 15] h Qf Xf rfl (by decide) h0 ?_ ?_ ?_ hE ?_ ?_
  · simp only [xwL, wfv, true_and, and_true]; exact ⟨Or.inl (Nat.lt_of_le_of_lt (Nat.zero_le _) h15), Or.inl h15⟩
  · simp only [xwS, wfv, true_and, and_true]; exact Or.inl h15
  · intro j v hj
    have hj2 : j < 3 := (List.getElem?_eq_some_iff.mp hj).1
    have hj3 : j = 0 ∨ j = 1 ∨ j = 2 := by omega
    rcases hj3 with rfl | rfl | rfl
    · obtain rfl := Option.some.inj (Option.some.inj hj)
      exact ⟨by decide, by simp [Value.category]⟩
    · obtain rfl := Option.some.inj (Option.some.inj hj)
      exact ⟨by decide, by simp [Value.category]⟩
    · exact nomatch hj
  · intro v h' q
    obtain ⟨r, l, u, rfl, e, hq⟩ := hv v h' q
    refine hK 2 _ _ _ _ _ _ rfl (by decide) ?_
    dsimp only [k_W_obey_2, hN1, hB, hM1, hM, wpI, xop, xcall, xli, xlj, xlf, xld, xla, xlg, xst, xst2, xc1, pI, pJ, pF, pD, pR, pA, p1, p0, xpop, xpush, xsm, xhas, xif, xic, xsw, xrf, xret, xrtl, xrtf, xrtd, xrta, xrtv, xfit, xnew, cond_true, cond_false, f40, f41, f42, f43, List.length_cons, List.length_nil, Nat.reduceAdd, Nat.reduceSub, Nat.reduceMul, Nat.reduceBEq, List.map_cons, List.map_nil, List.headD_cons, List.getElem?_cons_zero, List.getElem?_cons_succ, List.set_cons_zero, List.set_cons_succ]
    refine xhv_of e ?_
    refine ⟨vp_in1, ?_⟩
    rw [nI0_0]
    refine hK 4 _ _ _ _ _ _ rfl (by decide) ?_
    dsimp only [k_W_obey_4, hN1, hB, hM1, hM, wpI, xop, xcall, xli, xlj, xlf, xld, xla, xlg, xst, xst2, xc1, pI, pJ, pF, pD, pR, pA, p1, p0, xpop, xpush, xsm, xhas, xif, xic, xsw, xai, xal, xhi, xhv, xrf, xret, xrtl, xrtf, xrtd, xrta, xrtv, xfit, xnew, cond_true, cond_false, f40, f41, f42, f43, List.length_cons, List.length_nil, Nat.reduceAdd, Nat.reduceSub, Nat.reduceMul, Nat.reduceBEq, List.map_cons, List.map_nil, List.headD_cons, List.getElem?_cons_zero, List.getElem?_cons_succ, List.set_cons_zero, List.set_cons_succ]
    exact ⟨Nat.le_refl _, Nat.le_refl _, hq⟩
  · intro k h' q
    obtain ⟨rfl, hq⟩ := hx k h' q
    refine ⟨3, rfl, ?_⟩
    refine hK 3 _ _ _ _ _ _ rfl (by decide) ?_
    dsimp only [k_W_obey_3, hN1, hB, hM1, hM, wpI, xop, xcall, xli, xlj, xlf, xld, xla, xlg, xst, xst2, xc1, pI, pJ, pF, pD, pR, pA, p1, p0, xpop, xpush, xsm, xhas, xif, xic, xsw, xai, xal, xhi, xhv, xrf, xret, xrtl, xrtf, xrtd, xrta, xrtv, xfit, xnew, cond_true, cond_false, f40, f41, f42, f43, List.length_cons, List.length_nil, Nat.reduceAdd, Nat.reduceSub, Nat.reduceMul, Nat.reduceBEq, List.map_cons, List.map_nil, List.headD_cons, List.getElem?_cons_zero, List.getElem?_cons_succ, List.set_cons_zero, List.set_cons_succ]
    exact ⟨Nat.le_refl _, Nat.le_refl _, hq⟩
set_option maxRecDepth 100000 in
set_option maxHeartbeats 4000000 in
theorem w_goBack {d : Nat} {h : xH} {Qf Q : Option Value → xH → Prop} {Xf : Nat → xH → Prop} (h0 : ∃ (l0 : List Int32) (vs : List Value), h[0]? = some (6, l0, vs)) (h15 : 15 < h.length) (hE : Ev xT d N_B_goBack [.ref 0] h Qf Xf) (hv : wV Qf Q) (hx : ∀ k h', Xf k h' → (k = 12 ∧ Q (some (.int (nI 1))) h')) :
    EvW d b_W_goBack hb_goBack 42 0 2 3 1 6 false [.ref 0, .ref 15] h Q := by
  intro K hK hC
  show K 0 [some (.ref 0), some (.ref 15), none] [] h 0 0
  refine hK 0 _ _ _ _ _ _ rfl (by decide) ?_
  dsimp only [k_W_goBack_0, hN1, hB, hM1, hM, wpI, xop, xcall, xli, xlj, xlf, xld, xla, xlg, xst, xst2, xc1, pI, pJ, pF, pD, pR, pA, p1, p0, xpop, xpush, xsm, xhas, xif, xic, xsw, xai, xal, xhi, xhv, xrf, xret, xrtl, xrtf, xrtd, xrta, xrtv, xfit, xnew, cond_true, cond_false, f40, f41, f42, f43, List.length_cons, List.length_nil, Nat.reduceAdd, Nat.reduceSub, Nat.reduceMul, Nat.reduceBEq, List.map_cons, List.map_nil, List.headD_cons, List.getElem?_cons_zero, List.getElem?_cons_succ, List.set_cons_zero, List.set_cons_succ]
  refine hC [some (.ref 0), some (.ref 15), none] [] [.int (nI 0), .ref 15] h Qf Xf rfl (by decide) h0 ?_ ?_ ?_ hE ?_ ?_
  · simp only [xwL, wfv, true_and, and_true]; exact ⟨Or.inl (Nat.lt_of_le_of_lt (Nat.zero_le _) h15), Or.inl h15⟩
  · simp only [xwS, wfv, true_and, and_true]; exact Or.inl h15
  · intro j v hj
    have hj2 : j < 3 := (List.getElem?_eq_some_iff.mp hj).1
    have hj3 : j = 0 ∨ j = 1 ∨ j = 2 := by omega
    rcases hj3 with rfl | rfl | rfl
    · obtain rfl := Option.some.inj (Option.some.inj hj)
      exact ⟨by decide, by simp [Value.category]⟩
    · obtain rfl := Option.some.inj (Option.some.inj hj)
      exact ⟨by decide, by simp [Value.category]⟩
    · exact nomatch hj
  · intro v h' q
    obtain ⟨r, l, u, rfl, e, hq⟩ := hv v h' q
    refine hK 2 _ _ _ _ _ _ rfl (by decide) ?_
    dsimp only [k_W_goBack_2, hN1, hB, hM1, hM, wpI, xop, xcall, xli, xlj, xlf, xld, xla, xlg, xst, xst2, xc1, pI, pJ, pF, pD, pR, pA, p1, p0, xpop, xpush, xsm, xhas, xif, xic, xsw, xrf, xret, xrtl, xrtf, xrtd, xrta, xrtv, xfit, xnew, cond_true, cond_false, f40, f41, f42, f43, List.length_cons, List.length_nil, Nat.reduceAdd, Nat.reduceSub, Nat.reduceMul, Nat.reduceBEq, List.map_cons, List.map_nil, List.headD_cons, List.getElem?_cons_zero, List.getElem?_cons_succ, List.set_cons_zero, List.set_cons_succ]
    refine xhv_of e ?_
    refine ⟨vp_in1, ?_⟩
    rw [nI0_0]
    refine hK 4 _ _ _ _ _ _ rfl (by decide) ?_
    dsimp only [k_W_goBack_4, hN1, hB, hM1, hM, wpI, xop, xcall, xli, xlj, xlf, xld, xla, xlg, xst, xst2, xc1, pI, pJ, pF, pD, pR, pA, p1, p0, xpop, xpush, xsm, xhas, xif, xic, xsw, xai, xal, xhi, xhv, xrf, xret, xrtl, xrtf, xrtd, xrta, xrtv, xfit, xnew, cond_true, cond_false, f40, f41, f42, f43, List.length_cons, List.length_nil, Nat.reduceAdd, Nat.reduceSub, Nat.reduceMul, Nat.reduceBEq, List.map_cons, List.map_nil, List.headD_cons, List.getElem?_cons_zero, List.getElem?_cons_succ, List.set_cons_zero, List.set_cons_succ]
    exact ⟨Nat.le_refl _, Nat.le_refl _, hq⟩
  · intro k h' q
    obtain ⟨rfl, hq⟩ := hx k h' q
    refine ⟨3, rfl, ?_⟩
    refine hK 3 _ _ _ _ _ _ rfl (by decide) ?_
    dsimp only [k_W_goBack_3, hN1, hB, hM1, hM, wpI, xop, xcall, xli, xlj, xlf, xld, xla, xlg, xst, xst2, xc1, pI, pJ, pF, pD, pR, pA, p1, p0, xpop, xpush, xsm, xhas, xif, xic, xsw, xai, xal, xhi, xhv, xrf, xret, xrtl, xrtf, xrtd, xrta, xrtv, xfit, xnew, cond_true, cond_false, f40, f41, f42, f43, List.length_cons, List.length_nil, Nat.reduceAdd, Nat.reduceSub, Nat.reduceMul, Nat.reduceBEq, List.map_cons, List.map_nil, List.headD_cons, List.getElem?_cons_zero, List.getElem?_cons_succ, List.set_cons_zero, List.set_cons_succ]
    exact ⟨Nat.le_refl _, Nat.le_refl _, hq⟩
set_option maxRecDepth 100000 in
set_option maxHeartbeats 4000000 in
theorem w_undo {d : Nat} {h : xH} {Qf Q : Option Value → xH → Prop} {Xf : Nat → xH → Prop} (h0 : ∃ (l0 : List Int32) (vs : List Value), h[0]? = some (6, l0, vs)) (h15 : 15 < h.length) (hE : Ev xT d N_B_undo [.ref 0] h Qf Xf) (hv : wV Qf Q) (hx : ∀ k h', Xf k h' → (k = 12 ∧ Q (some (.int (nI 1))) h')) :
    EvW d b_W_undo hb_undo 43 0 2 3 1 6 false [.ref 0, .ref 15] h Q := by
  intro K hK hC
  show K 0 [some (.ref 0), some (.ref 15), none] [] h 0 0
  refine hK 0 _ _ _ _ _ _ rfl (by decide) ?_
  dsimp only [k_W_undo_0, hN1, hB, hM1, hM, wpI, xop, xcall, xli, xlj, xlf, xld, xla, xlg, xst, xst2, xc1, pI, pJ, pF, pD, pR, pA, p1, p0, xpop, xpush, xsm, xhas, xif, xic, xsw, xai, xal, xhi, xhv, xrf, xret, xrtl, xrtf, xrtd, xrta, xrtv, xfit, xnew, cond_true, cond_false, f40, f41, f42, f43, List.length_cons, List.length_nil, Nat.reduceAdd, Nat.reduceSub, Nat.reduceMul, Nat.reduceBEq, List.map_cons, List.map_nil, List.headD_cons, List.getElem?_cons_zero, List.getElem?_cons_succ, List.set_cons_zero, List.set_cons_succ]
  refine hC [some (.ref 0), some (.ref 15), none] [] [.int (nI 0), .ref 15] h Qf Xf rfl (by decide) h0 ?_ ?_ ?_ hE ?_ ?_
  · simp only [xwL, wfv, true_and, and_true]; exact ⟨Or.inl (Nat.lt_of_le_of_lt (Nat.zero_le _) h15), Or.inl h15⟩
  · simp only [xwS, wfv, true_and, and_true]; exact Or.inl h15
  · intro j v hj
    have hj2 : j < 3 := (List.getElem?_eq_some_iff.mp hj).1
    have hj3 : j = 0 ∨ j = 1 ∨ j = 2 := by omega
    rcases hj3 with rfl | rfl | rfl
    · obtain rfl := Option.some.inj (Option.some.inj hj)
      exact ⟨by decide, by simp [Value.category]⟩
    · obtain rfl := Option.some.inj (Option.some.inj hj)
      exact ⟨by decide, by simp [Value.category]⟩
    · exact nomatch hj
  · intro v h' q
    obtain ⟨r, l, u, rfl, e, hq⟩ := hv v h' q
    refine hK 2 _ _ _ _ _ _ rfl (by decide) ?_
    dsimp only [k_W_undo_2, hN1, hB, hM1, hM, wpI, xop, xcall, xli, xlj, xlf, xld, xla, xlg, xst, xst2, xc1, pI, pJ, pF, pD, pR, pA, p1, p0, xpop, xpush, xsm, xhas, xif, xic, xsw, xrf, xret, xrtl, xrtf, xrtd, xrta, xrtv, xfit, xnew, cond_true, cond_false, f40, f41, f42, f43, List.length_cons, List.length_nil, Nat.reduceAdd, Nat.reduceSub, Nat.reduceMul, Nat.reduceBEq, List.map_cons, List.map_nil, List.headD_cons, List.getElem?_cons_zero, List.getElem?_cons_succ, List.set_cons_zero, List.set_cons_succ]
    refine xhv_of e ?_
    refine ⟨vp_in1, ?_⟩
    rw [nI0_0]
    refine hK 4 _ _ _ _ _ _ rfl (by decide) ?_
    dsimp only [k_W_undo_4, hN1, hB, hM1, hM, wpI, xop, xcall, xli, xlj, xlf, xld, xla, xlg, xst, xst2, xc1, pI, pJ, pF, pD, pR, pA, p1, p0, xpop, xpush, xsm, xhas, xif, xic, xsw, xai, xal, xhi, xhv, xrf, xret, xrtl, xrtf, xrtd, xrta, xrtv, xfit, xnew, cond_true, cond_false, f40, f41, f42, f43, List.length_cons, List.length_nil, Nat.reduceAdd, Nat.reduceSub, Nat.reduceMul, Nat.reduceBEq, List.map_cons, List.map_nil, List.headD_cons, List.getElem?_cons_zero, List.getElem?_cons_succ, List.set_cons_zero, List.set_cons_succ]
    exact ⟨Nat.le_refl _, Nat.le_refl _, hq⟩
  · intro k h' q
    obtain ⟨rfl, hq⟩ := hx k h' q
    refine ⟨3, rfl, ?_⟩
    refine hK 3 _ _ _ _ _ _ rfl (by decide) ?_
    dsimp only [k_W_undo_3, hN1, hB, hM1, hM, wpI, xop, xcall, xli, xlj, xlf, xld, xla, xlg, xst, xst2, xc1, pI, pJ, pF, pD, pR, pA, p1, p0, xpop, xpush, xsm, xhas, xif, xic, xsw, xai, xal, xhi, xhv, xrf, xret, xrtl, xrtf, xrtd, xrta, xrtv, xfit, xnew, cond_true, cond_false, f40, f41, f42, f43, List.length_cons, List.length_nil, Nat.reduceAdd, Nat.reduceSub, Nat.reduceMul, Nat.reduceBEq, List.map_cons, List.map_nil, List.headD_cons, List.getElem?_cons_zero, List.getElem?_cons_succ, List.set_cons_zero, List.set_cons_succ]
    exact ⟨Nat.le_refl _, Nat.le_refl _, hq⟩
set_option maxRecDepth 100000 in
set_option maxHeartbeats 4000000 in
theorem w_row {d : Nat} {x y : Int32} {h : xH} {Qf Q : Option Value → xH → Prop} {Xf : Nat → xH → Prop} (h0 : ∃ (l0 : List Int32) (vs : List Value), h[0]? = some (6, l0, vs)) (h15 : 15 < h.length) (hE : Ev xT d N_B_row [.ref 0, .int x, .int y] h Qf Xf) (hv : wV Qf Q) (hx : ∀ k h', Xf k h' → (k = 10 ∧ Q (some (.int (nI 1))) h') ∨ (k = 11 ∧ Q (some (.int (nI 2))) h')) :
    EvW d b_W_row hb_row 44 2 4 5 1 6 false [.ref 0, .int x, .int y, .ref 15] h Q := by
  intro K hK hC
  show K 0 [some (.ref 0), some (.int x), some (.int y), some (.ref 15), none] [] h 0 0
  refine hK 0 _ _ _ _ _ _ rfl (by decide) ?_
  dsimp only [k_W_row_0, hN1, hB, hM1, hM, wpI, xop, xcall, xli, xlj, xlf, xld, xla, xlg, xst, xst2, xc1, pI, pJ, pF, pD, pR, pA, p1, p0, xpop, xpush, xsm, xhas, xif, xic, xsw, xai, xal, xhi, xhv, xrf, xret, xrtl, xrtf, xrtd, xrta, xrtv, xfit, xnew, cond_true, cond_false, f40, f41, f42, f43, List.length_cons, List.length_nil, Nat.reduceAdd, Nat.reduceSub, Nat.reduceMul, Nat.reduceBEq, List.map_cons, List.map_nil, List.headD_cons, List.getElem?_cons_zero, List.getElem?_cons_succ, List.set_cons_zero, List.set_cons_succ]
  refine hC [some (.ref 0), some (.int x), some (.int y), some (.ref 15), none] [.int x, .int y] [.int (nI 0), .ref 15] h Qf Xf rfl (by decide) h0 ?_ ?_ ?_ hE ?_ ?_
  · simp only [xwL, wfv, true_and, and_true]; exact ⟨Or.inl (Nat.lt_of_le_of_lt (Nat.zero_le _) h15), Or.inl h15⟩
  · simp only [xwS, wfv, true_and, and_true]; exact Or.inl h15
  · intro j v hj
    have hj2 : j < 5 := (List.getElem?_eq_some_iff.mp hj).1
    have hj3 : j = 0 ∨ j = 1 ∨ j = 2 ∨ j = 3 ∨ j = 4 := by omega
    rcases hj3 with rfl | rfl | rfl | rfl | rfl
    · obtain rfl := Option.some.inj (Option.some.inj hj)
      exact ⟨by decide, by simp [Value.category]⟩
    · obtain rfl := Option.some.inj (Option.some.inj hj)
      exact ⟨by decide, by simp [Value.category]⟩
    · obtain rfl := Option.some.inj (Option.some.inj hj)
      exact ⟨by decide, by simp [Value.category]⟩
    · obtain rfl := Option.some.inj (Option.some.inj hj)
      exact ⟨by decide, by simp [Value.category]⟩
    · exact nomatch hj
  · intro v h' q
    obtain ⟨r, l, u, rfl, e, hq⟩ := hv v h' q
    refine hK 2 _ _ _ _ _ _ rfl (by decide) ?_
    dsimp only [k_W_row_2, hN1, hB, hM1, hM, wpI, xop, xcall, xli, xlj, xlf, xld, xla, xlg, xst, xst2, xc1, pI, pJ, pF, pD, pR, pA, p1, p0, xpop, xpush, xsm, xhas, xif, xic, xsw, xrf, xret, xrtl, xrtf, xrtd, xrta, xrtv, xfit, xnew, cond_true, cond_false, f40, f41, f42, f43, List.length_cons, List.length_nil, Nat.reduceAdd, Nat.reduceSub, Nat.reduceMul, Nat.reduceBEq, List.map_cons, List.map_nil, List.headD_cons, List.getElem?_cons_zero, List.getElem?_cons_succ, List.set_cons_zero, List.set_cons_succ]
    refine xhv_of e ?_
    refine ⟨vp_in1, ?_⟩
    rw [nI0_0]
    refine hK 5 _ _ _ _ _ _ rfl (by decide) ?_
    dsimp only [k_W_row_5, hN1, hB, hM1, hM, wpI, xop, xcall, xli, xlj, xlf, xld, xla, xlg, xst, xst2, xc1, pI, pJ, pF, pD, pR, pA, p1, p0, xpop, xpush, xsm, xhas, xif, xic, xsw, xai, xal, xhi, xhv, xrf, xret, xrtl, xrtf, xrtd, xrta, xrtv, xfit, xnew, cond_true, cond_false, f40, f41, f42, f43, List.length_cons, List.length_nil, Nat.reduceAdd, Nat.reduceSub, Nat.reduceMul, Nat.reduceBEq, List.map_cons, List.map_nil, List.headD_cons, List.getElem?_cons_zero, List.getElem?_cons_succ, List.set_cons_zero, List.set_cons_succ]
    exact ⟨Nat.le_refl _, Nat.le_refl _, hq⟩
  · intro k h' q
    rcases hx k h' q with ⟨rfl, hq⟩ | ⟨rfl, hq⟩
    · refine ⟨3, rfl, ?_⟩
      refine hK 3 _ _ _ _ _ _ rfl (by decide) ?_
      dsimp only [k_W_row_3, hN1, hB, hM1, hM, wpI, xop, xcall, xli, xlj, xlf, xld, xla, xlg, xst, xst2, xc1, pI, pJ, pF, pD, pR, pA, p1, p0, xpop, xpush, xsm, xhas, xif, xic, xsw, xai, xal, xhi, xhv, xrf, xret, xrtl, xrtf, xrtd, xrta, xrtv, xfit, xnew, cond_true, cond_false, f40, f41, f42, f43, List.length_cons, List.length_nil, Nat.reduceAdd, Nat.reduceSub, Nat.reduceMul, Nat.reduceBEq, List.map_cons, List.map_nil, List.headD_cons, List.getElem?_cons_zero, List.getElem?_cons_succ, List.set_cons_zero, List.set_cons_succ]
      exact ⟨Nat.le_refl _, Nat.le_refl _, hq⟩
    · refine ⟨4, rfl, ?_⟩
      refine hK 4 _ _ _ _ _ _ rfl (by decide) ?_
      dsimp only [k_W_row_4, hN1, hB, hM1, hM, wpI, xop, xcall, xli, xlj, xlf, xld, xla, xlg, xst, xst2, xc1, pI, pJ, pF, pD, pR, pA, p1, p0, xpop, xpush, xsm, xhas, xif, xic, xsw, xai, xal, xhi, xhv, xrf, xret, xrtl, xrtf, xrtd, xrta, xrtv, xfit, xnew, cond_true, cond_false, f40, f41, f42, f43, List.length_cons, List.length_nil, Nat.reduceAdd, Nat.reduceSub, Nat.reduceMul, Nat.reduceBEq, List.map_cons, List.map_nil, List.headD_cons, List.getElem?_cons_zero, List.getElem?_cons_succ, List.set_cons_zero, List.set_cons_succ]
      exact ⟨Nat.le_refl _, Nat.le_refl _, hq⟩
set_option maxRecDepth 100000 in
set_option maxHeartbeats 4000000 in
theorem w_count {d : Nat} {x : Int32} {h : xH} {Qf Q : Option Value → xH → Prop} {Xf : Nat → xH → Prop} (h0 : ∃ (l0 : List Int32) (vs : List Value), h[0]? = some (6, l0, vs)) (h15 : 15 < h.length) (hE : Ev xT d N_B_count [.ref 0, .int x] h Qf Xf) (hv : wV Qf Q) (hx : ∀ k h', Xf k h' → (k = 11 ∧ Q (some (.int (nI 1))) h')) :
    EvW d b_W_count hb_count 45 1 3 4 1 6 false [.ref 0, .int x, .ref 15] h Q := by
  intro K hK hC
  show K 0 [some (.ref 0), some (.int x), some (.ref 15), none] [] h 0 0
  refine hK 0 _ _ _ _ _ _ rfl (by decide) ?_
  dsimp only [k_W_count_0, hN1, hB, hM1, hM, wpI, xop, xcall, xli, xlj, xlf, xld, xla, xlg, xst, xst2, xc1, pI, pJ, pF, pD, pR, pA, p1, p0, xpop, xpush, xsm, xhas, xif, xic, xsw, xai, xal, xhi, xhv, xrf, xret, xrtl, xrtf, xrtd, xrta, xrtv, xfit, xnew, cond_true, cond_false, f40, f41, f42, f43, List.length_cons, List.length_nil, Nat.reduceAdd, Nat.reduceSub, Nat.reduceMul, Nat.reduceBEq, List.map_cons, List.map_nil, List.headD_cons, List.getElem?_cons_zero, List.getElem?_cons_succ, List.set_cons_zero, List.set_cons_succ]
  refine hC [some (.ref 0), some (.int x), some (.ref 15), none] [.int x] [.int (nI 0), .ref 15] h Qf Xf rfl (by decide) h0 ?_ ?_ ?_ hE ?_ ?_
  · simp only [xwL, wfv, true_and, and_true]; exact ⟨Or.inl (Nat.lt_of_le_of_lt (Nat.zero_le _) h15), Or.inl h15⟩
  · simp only [xwS, wfv, true_and, and_true]; exact Or.inl h15
  · intro j v hj
    have hj2 : j < 4 := (List.getElem?_eq_some_iff.mp hj).1
    have hj3 : j = 0 ∨ j = 1 ∨ j = 2 ∨ j = 3 := by omega
    rcases hj3 with rfl | rfl | rfl | rfl
    · obtain rfl := Option.some.inj (Option.some.inj hj)
      exact ⟨by decide, by simp [Value.category]⟩
    · obtain rfl := Option.some.inj (Option.some.inj hj)
      exact ⟨by decide, by simp [Value.category]⟩
    · obtain rfl := Option.some.inj (Option.some.inj hj)
      exact ⟨by decide, by simp [Value.category]⟩
    · exact nomatch hj
  · intro v h' q
    obtain ⟨r, l, u, rfl, e, hq⟩ := hv v h' q
    refine hK 2 _ _ _ _ _ _ rfl (by decide) ?_
    dsimp only [k_W_count_2, hN1, hB, hM1, hM, wpI, xop, xcall, xli, xlj, xlf, xld, xla, xlg, xst, xst2, xc1, pI, pJ, pF, pD, pR, pA, p1, p0, xpop, xpush, xsm, xhas, xif, xic, xsw, xrf, xret, xrtl, xrtf, xrtd, xrta, xrtv, xfit, xnew, cond_true, cond_false, f40, f41, f42, f43, List.length_cons, List.length_nil, Nat.reduceAdd, Nat.reduceSub, Nat.reduceMul, Nat.reduceBEq, List.map_cons, List.map_nil, List.headD_cons, List.getElem?_cons_zero, List.getElem?_cons_succ, List.set_cons_zero, List.set_cons_succ]
    refine xhv_of e ?_
    refine ⟨vp_in1, ?_⟩
    rw [nI0_0]
    refine hK 4 _ _ _ _ _ _ rfl (by decide) ?_
    dsimp only [k_W_count_4, hN1, hB, hM1, hM, wpI, xop, xcall, xli, xlj, xlf, xld, xla, xlg, xst, xst2, xc1, pI, pJ, pF, pD, pR, pA, p1, p0, xpop, xpush, xsm, xhas, xif, xic, xsw, xai, xal, xhi, xhv, xrf, xret, xrtl, xrtf, xrtd, xrta, xrtv, xfit, xnew, cond_true, cond_false, f40, f41, f42, f43, List.length_cons, List.length_nil, Nat.reduceAdd, Nat.reduceSub, Nat.reduceMul, Nat.reduceBEq, List.map_cons, List.map_nil, List.headD_cons, List.getElem?_cons_zero, List.getElem?_cons_succ, List.set_cons_zero, List.set_cons_succ]
    exact ⟨Nat.le_refl _, Nat.le_refl _, hq⟩
  · intro k h' q
    obtain ⟨rfl, hq⟩ := hx k h' q
    refine ⟨3, rfl, ?_⟩
    refine hK 3 _ _ _ _ _ _ rfl (by decide) ?_
    dsimp only [k_W_count_3, hN1, hB, hM1, hM, wpI, xop, xcall, xli, xlj, xlf, xld, xla, xlg, xst, xst2, xc1, pI, pJ, pF, pD, pR, pA, p1, p0, xpop, xpush, xsm, xhas, xif, xic, xsw, xai, xal, xhi, xhv, xrf, xret, xrtl, xrtf, xrtd, xrta, xrtv, xfit, xnew, cond_true, cond_false, f40, f41, f42, f43, List.length_cons, List.length_nil, Nat.reduceAdd, Nat.reduceSub, Nat.reduceMul, Nat.reduceBEq, List.map_cons, List.map_nil, List.headD_cons, List.getElem?_cons_zero, List.getElem?_cons_succ, List.set_cons_zero, List.set_cons_succ]
    exact ⟨Nat.le_refl _, Nat.le_refl _, hq⟩
set_option maxRecDepth 100000 in
set_option maxHeartbeats 4000000 in
theorem w_setting {d : Nat} {x : Int32} {h : xH} {Qf Q : Option Value → xH → Prop} {Xf : Nat → xH → Prop} (h0 : ∃ (l0 : List Int32) (vs : List Value), h[0]? = some (6, l0, vs)) (h15 : 15 < h.length) (hE : Ev xT d N_B_setting [.ref 0, .int x] h Qf Xf) (hv : wV Qf Q) (hx : ∀ k h', Xf k h' → (k = 10 ∧ Q (some (.int (nI 1))) h')) :
    EvW d b_W_setting hb_setting 46 1 3 4 1 6 false [.ref 0, .int x, .ref 15] h Q := by
  intro K hK hC
  show K 0 [some (.ref 0), some (.int x), some (.ref 15), none] [] h 0 0
  refine hK 0 _ _ _ _ _ _ rfl (by decide) ?_
  dsimp only [k_W_setting_0, hN1, hB, hM1, hM, wpI, xop, xcall, xli, xlj, xlf, xld, xla, xlg, xst, xst2, xc1, pI, pJ, pF, pD, pR, pA, p1, p0, xpop, xpush, xsm, xhas, xif, xic, xsw, xai, xal, xhi, xhv, xrf, xret, xrtl, xrtf, xrtd, xrta, xrtv, xfit, xnew, cond_true, cond_false, f40, f41, f42, f43, List.length_cons, List.length_nil, Nat.reduceAdd, Nat.reduceSub, Nat.reduceMul, Nat.reduceBEq, List.map_cons, List.map_nil, List.headD_cons, List.getElem?_cons_zero, List.getElem?_cons_succ, List.set_cons_zero, List.set_cons_succ]
  refine hC [some (.ref 0), some (.int x), some (.ref 15), none] [.int x] [.int (nI 0), .ref 15] h Qf Xf rfl (by decide) h0 ?_ ?_ ?_ hE ?_ ?_
  · simp only [xwL, wfv, true_and, and_true]; exact ⟨Or.inl (Nat.lt_of_le_of_lt (Nat.zero_le _) h15), Or.inl h15⟩
  · simp only [xwS, wfv, true_and, and_true]; exact Or.inl h15
  · intro j v hj
    have hj2 : j < 4 := (List.getElem?_eq_some_iff.mp hj).1
    have hj3 : j = 0 ∨ j = 1 ∨ j = 2 ∨ j = 3 := by omega
    rcases hj3 with rfl | rfl | rfl | rfl
    · obtain rfl := Option.some.inj (Option.some.inj hj)
      exact ⟨by decide, by simp [Value.category]⟩
    · obtain rfl := Option.some.inj (Option.some.inj hj)
      exact ⟨by decide, by simp [Value.category]⟩
    · obtain rfl := Option.some.inj (Option.some.inj hj)
      exact ⟨by decide, by simp [Value.category]⟩
    · exact nomatch hj
  · intro v h' q
    obtain ⟨r, l, u, rfl, e, hq⟩ := hv v h' q
    refine hK 2 _ _ _ _ _ _ rfl (by decide) ?_
    dsimp only [k_W_setting_2, hN1, hB, hM1, hM, wpI, xop, xcall, xli, xlj, xlf, xld, xla, xlg, xst, xst2, xc1, pI, pJ, pF, pD, pR, pA, p1, p0, xpop, xpush, xsm, xhas, xif, xic, xsw, xrf, xret, xrtl, xrtf, xrtd, xrta, xrtv, xfit, xnew, cond_true, cond_false, f40, f41, f42, f43, List.length_cons, List.length_nil, Nat.reduceAdd, Nat.reduceSub, Nat.reduceMul, Nat.reduceBEq, List.map_cons, List.map_nil, List.headD_cons, List.getElem?_cons_zero, List.getElem?_cons_succ, List.set_cons_zero, List.set_cons_succ]
    refine xhv_of e ?_
    refine ⟨vp_in1, ?_⟩
    rw [nI0_0]
    refine hK 4 _ _ _ _ _ _ rfl (by decide) ?_
    dsimp only [k_W_setting_4, hN1, hB, hM1, hM, wpI, xop, xcall, xli, xlj, xlf, xld, xla, xlg, xst, xst2, xc1, pI, pJ, pF, pD, pR, pA, p1, p0, xpop, xpush, xsm, xhas, xif, xic, xsw, xai, xal, xhi, xhv, xrf, xret, xrtl, xrtf, xrtd, xrta, xrtv, xfit, xnew, cond_true, cond_false, f40, f41, f42, f43, List.length_cons, List.length_nil, Nat.reduceAdd, Nat.reduceSub, Nat.reduceMul, Nat.reduceBEq, List.map_cons, List.map_nil, List.headD_cons, List.getElem?_cons_zero, List.getElem?_cons_succ, List.set_cons_zero, List.set_cons_succ]
    exact ⟨Nat.le_refl _, Nat.le_refl _, hq⟩
  · intro k h' q
    obtain ⟨rfl, hq⟩ := hx k h' q
    refine ⟨3, rfl, ?_⟩
    refine hK 3 _ _ _ _ _ _ rfl (by decide) ?_
    dsimp only [k_W_setting_3, hN1, hB, hM1, hM, wpI, xop, xcall, xli, xlj, xlf, xld, xla, xlg, xst, xst2, xc1, pI, pJ, pF, pD, pR, pA, p1, p0, xpop, xpush, xsm, xhas, xif, xic, xsw, xai, xal, xhi, xhv, xrf, xret, xrtl, xrtf, xrtd, xrta, xrtv, xfit, xnew, cond_true, cond_false, f40, f41, f42, f43, List.length_cons, List.length_nil, Nat.reduceAdd, Nat.reduceSub, Nat.reduceMul, Nat.reduceBEq, List.map_cons, List.map_nil, List.headD_cons, List.getElem?_cons_zero, List.getElem?_cons_succ, List.set_cons_zero, List.set_cons_succ]
    exact ⟨Nat.le_refl _, Nat.le_refl _, hq⟩
set_option maxRecDepth 100000 in
set_option maxHeartbeats 4000000 in
theorem w_why {d : Nat} {x y : Int32} {h : xH} {Qf Q : Option Value → xH → Prop} {Xf : Nat → xH → Prop} (h0 : ∃ (l0 : List Int32) (vs : List Value), h[0]? = some (6, l0, vs)) (h15 : 15 < h.length) (hE : Ev xT d N_B_why [.ref 0, .int x, .int y] h Qf Xf) (hv : wV Qf Q) (hx : ∀ k h', Xf k h' → (k = 10 ∧ Q (some (.int (nI 1))) h') ∨ (k = 11 ∧ Q (some (.int (nI 2))) h')) :
    EvW d b_W_why hb_why 47 2 4 5 1 6 false [.ref 0, .int x, .int y, .ref 15] h Q := by
  intro K hK hC
  show K 0 [some (.ref 0), some (.int x), some (.int y), some (.ref 15), none] [] h 0 0
  refine hK 0 _ _ _ _ _ _ rfl (by decide) ?_
  dsimp only [k_W_why_0, hN1, hB, hM1, hM, wpI, xop, xcall, xli, xlj, xlf, xld, xla, xlg, xst, xst2, xc1, pI, pJ, pF, pD, pR, pA, p1, p0, xpop, xpush, xsm, xhas, xif, xic, xsw, xai, xal, xhi, xhv, xrf, xret, xrtl, xrtf, xrtd, xrta, xrtv, xfit, xnew, cond_true, cond_false, f40, f41, f42, f43, List.length_cons, List.length_nil, Nat.reduceAdd, Nat.reduceSub, Nat.reduceMul, Nat.reduceBEq, List.map_cons, List.map_nil, List.headD_cons, List.getElem?_cons_zero, List.getElem?_cons_succ, List.set_cons_zero, List.set_cons_succ]
  refine hC [some (.ref 0), some (.int x), some (.int y), some (.ref 15), none] [.int x, .int y] [.int (nI 0), .ref 15] h Qf Xf rfl (by decide) h0 ?_ ?_ ?_ hE ?_ ?_
  · simp only [xwL, wfv, true_and, and_true]; exact ⟨Or.inl (Nat.lt_of_le_of_lt (Nat.zero_le _) h15), Or.inl h15⟩
  · simp only [xwS, wfv, true_and, and_true]; exact Or.inl h15
  · intro j v hj
    have hj2 : j < 5 := (List.getElem?_eq_some_iff.mp hj).1
    have hj3 : j = 0 ∨ j = 1 ∨ j = 2 ∨ j = 3 ∨ j = 4 := by omega
    rcases hj3 with rfl | rfl | rfl | rfl | rfl
    · obtain rfl := Option.some.inj (Option.some.inj hj)
      exact ⟨by decide, by simp [Value.category]⟩
    · obtain rfl := Option.some.inj (Option.some.inj hj)
      exact ⟨by decide, by simp [Value.category]⟩
    · obtain rfl := Option.some.inj (Option.some.inj hj)
      exact ⟨by decide, by simp [Value.category]⟩
    · obtain rfl := Option.some.inj (Option.some.inj hj)
      exact ⟨by decide, by simp [Value.category]⟩
    · exact nomatch hj
  · intro v h' q
    obtain ⟨r, l, u, rfl, e, hq⟩ := hv v h' q
    refine hK 2 _ _ _ _ _ _ rfl (by decide) ?_
    dsimp only [k_W_why_2, hN1, hB, hM1, hM, wpI, xop, xcall, xli, xlj, xlf, xld, xla, xlg, xst, xst2, xc1, pI, pJ, pF, pD, pR, pA, p1, p0, xpop, xpush, xsm, xhas, xif, xic, xsw, xrf, xret, xrtl, xrtf, xrtd, xrta, xrtv, xfit, xnew, cond_true, cond_false, f40, f41, f42, f43, List.length_cons, List.length_nil, Nat.reduceAdd, Nat.reduceSub, Nat.reduceMul, Nat.reduceBEq, List.map_cons, List.map_nil, List.headD_cons, List.getElem?_cons_zero, List.getElem?_cons_succ, List.set_cons_zero, List.set_cons_succ]
    refine xhv_of e ?_
    refine ⟨vp_in1, ?_⟩
    rw [nI0_0]
    refine hK 5 _ _ _ _ _ _ rfl (by decide) ?_
    dsimp only [k_W_why_5, hN1, hB, hM1, hM, wpI, xop, xcall, xli, xlj, xlf, xld, xla, xlg, xst, xst2, xc1, pI, pJ, pF, pD, pR, pA, p1, p0, xpop, xpush, xsm, xhas, xif, xic, xsw, xai, xal, xhi, xhv, xrf, xret, xrtl, xrtf, xrtd, xrta, xrtv, xfit, xnew, cond_true, cond_false, f40, f41, f42, f43, List.length_cons, List.length_nil, Nat.reduceAdd, Nat.reduceSub, Nat.reduceMul, Nat.reduceBEq, List.map_cons, List.map_nil, List.headD_cons, List.getElem?_cons_zero, List.getElem?_cons_succ, List.set_cons_zero, List.set_cons_succ]
    exact ⟨Nat.le_refl _, Nat.le_refl _, hq⟩
  · intro k h' q
    rcases hx k h' q with ⟨rfl, hq⟩ | ⟨rfl, hq⟩
    · refine ⟨3, rfl, ?_⟩
      refine hK 3 _ _ _ _ _ _ rfl (by decide) ?_
      dsimp only [k_W_why_3, hN1, hB, hM1, hM, wpI, xop, xcall, xli, xlj, xlf, xld, xla, xlg, xst, xst2, xc1, pI, pJ, pF, pD, pR, pA, p1, p0, xpop, xpush, xsm, xhas, xif, xic, xsw, xai, xal, xhi, xhv, xrf, xret, xrtl, xrtf, xrtd, xrta, xrtv, xfit, xnew, cond_true, cond_false, f40, f41, f42, f43, List.length_cons, List.length_nil, Nat.reduceAdd, Nat.reduceSub, Nat.reduceMul, Nat.reduceBEq, List.map_cons, List.map_nil, List.headD_cons, List.getElem?_cons_zero, List.getElem?_cons_succ, List.set_cons_zero, List.set_cons_succ]
      exact ⟨Nat.le_refl _, Nat.le_refl _, hq⟩
    · refine ⟨4, rfl, ?_⟩
      refine hK 4 _ _ _ _ _ _ rfl (by decide) ?_
      dsimp only [k_W_why_4, hN1, hB, hM1, hM, wpI, xop, xcall, xli, xlj, xlf, xld, xla, xlg, xst, xst2, xc1, pI, pJ, pF, pD, pR, pA, p1, p0, xpop, xpush, xsm, xhas, xif, xic, xsw, xai, xal, xhi, xhv, xrf, xret, xrtl, xrtf, xrtd, xrta, xrtv, xfit, xnew, cond_true, cond_false, f40, f41, f42, f43, List.length_cons, List.length_nil, Nat.reduceAdd, Nat.reduceSub, Nat.reduceMul, Nat.reduceBEq, List.map_cons, List.map_nil, List.headD_cons, List.getElem?_cons_zero, List.getElem?_cons_succ, List.set_cons_zero, List.set_cons_succ]
      exact ⟨Nat.le_refl _, Nat.le_refl _, hq⟩
set_option maxRecDepth 100000 in
set_option maxHeartbeats 4000000 in
theorem w_falls {d : Nat} {x y : Int32} {h : xH} {Qf Q : Option Value → xH → Prop} {Xf : Nat → xH → Prop} (h0 : ∃ (l0 : List Int32) (vs : List Value), h[0]? = some (6, l0, vs)) (h15 : 15 < h.length) (hE : Ev xT d N_B_falls [.ref 0, .int x, .int y] h Qf Xf) (hv : wV Qf Q) (hx : ∀ k h', Xf k h' → (k = 10 ∧ Q (some (.int (nI 1))) h') ∨ (k = 11 ∧ Q (some (.int (nI 2))) h')) :
    EvW d b_W_falls hb_falls 48 2 4 5 1 6 false [.ref 0, .int x, .int y, .ref 15] h Q := by
  intro K hK hC
  show K 0 [some (.ref 0), some (.int x), some (.int y), some (.ref 15), none] [] h 0 0
  refine hK 0 _ _ _ _ _ _ rfl (by decide) ?_
  dsimp only [k_W_falls_0, hN1, hB, hM1, hM, wpI, xop, xcall, xli, xlj, xlf, xld, xla, xlg, xst, xst2, xc1, pI, pJ, pF, pD, pR, pA, p1, p0, xpop, xpush, xsm, xhas, xif, xic, xsw, xai, xal, xhi, xhv, xrf, xret, xrtl, xrtf, xrtd, xrta, xrtv, xfit, xnew, cond_true, cond_false, f40, f41, f42, f43, List.length_cons, List.length_nil, Nat.reduceAdd, Nat.reduceSub, Nat.reduceMul, Nat.reduceBEq, List.map_cons, List.map_nil, List.headD_cons, List.getElem?_cons_zero, List.getElem?_cons_succ, List.set_cons_zero, List.set_cons_succ]
  refine hC [some (.ref 0), some (.int x), some (.int y), some (.ref 15), none] [.int x, .int y] [.int (nI 0), .ref 15] h Qf Xf rfl (by decide) h0 ?_ ?_ ?_ hE ?_ ?_
  · simp only [xwL, wfv, true_and, and_true]; exact ⟨Or.inl (Nat.lt_of_le_of_lt (Nat.zero_le _) h15), Or.inl h15⟩
  · simp only [xwS, wfv, true_and, and_true]; exact Or.inl h15
  · intro j v hj
    have hj2 : j < 5 := (List.getElem?_eq_some_iff.mp hj).1
    have hj3 : j = 0 ∨ j = 1 ∨ j = 2 ∨ j = 3 ∨ j = 4 := by omega
    rcases hj3 with rfl | rfl | rfl | rfl | rfl
    · obtain rfl := Option.some.inj (Option.some.inj hj)
      exact ⟨by decide, by simp [Value.category]⟩
    · obtain rfl := Option.some.inj (Option.some.inj hj)
      exact ⟨by decide, by simp [Value.category]⟩
    · obtain rfl := Option.some.inj (Option.some.inj hj)
      exact ⟨by decide, by simp [Value.category]⟩
    · obtain rfl := Option.some.inj (Option.some.inj hj)
      exact ⟨by decide, by simp [Value.category]⟩
    · exact nomatch hj
  · intro v h' q
    obtain ⟨r, l, u, rfl, e, hq⟩ := hv v h' q
    refine hK 2 _ _ _ _ _ _ rfl (by decide) ?_
    dsimp only [k_W_falls_2, hN1, hB, hM1, hM, wpI, xop, xcall, xli, xlj, xlf, xld, xla, xlg, xst, xst2, xc1, pI, pJ, pF, pD, pR, pA, p1, p0, xpop, xpush, xsm, xhas, xif, xic, xsw, xrf, xret, xrtl, xrtf, xrtd, xrta, xrtv, xfit, xnew, cond_true, cond_false, f40, f41, f42, f43, List.length_cons, List.length_nil, Nat.reduceAdd, Nat.reduceSub, Nat.reduceMul, Nat.reduceBEq, List.map_cons, List.map_nil, List.headD_cons, List.getElem?_cons_zero, List.getElem?_cons_succ, List.set_cons_zero, List.set_cons_succ]
    refine xhv_of e ?_
    refine ⟨vp_in1, ?_⟩
    rw [nI0_0]
    refine hK 5 _ _ _ _ _ _ rfl (by decide) ?_
    dsimp only [k_W_falls_5, hN1, hB, hM1, hM, wpI, xop, xcall, xli, xlj, xlf, xld, xla, xlg, xst, xst2, xc1, pI, pJ, pF, pD, pR, pA, p1, p0, xpop, xpush, xsm, xhas, xif, xic, xsw, xai, xal, xhi, xhv, xrf, xret, xrtl, xrtf, xrtd, xrta, xrtv, xfit, xnew, cond_true, cond_false, f40, f41, f42, f43, List.length_cons, List.length_nil, Nat.reduceAdd, Nat.reduceSub, Nat.reduceMul, Nat.reduceBEq, List.map_cons, List.map_nil, List.headD_cons, List.getElem?_cons_zero, List.getElem?_cons_succ, List.set_cons_zero, List.set_cons_succ]
    exact ⟨Nat.le_refl _, Nat.le_refl _, hq⟩
  · intro k h' q
    rcases hx k h' q with ⟨rfl, hq⟩ | ⟨rfl, hq⟩
    · refine ⟨3, rfl, ?_⟩
      refine hK 3 _ _ _ _ _ _ rfl (by decide) ?_
      dsimp only [k_W_falls_3, hN1, hB, hM1, hM, wpI, xop, xcall, xli, xlj, xlf, xld, xla, xlg, xst, xst2, xc1, pI, pJ, pF, pD, pR, pA, p1, p0, xpop, xpush, xsm, xhas, xif, xic, xsw, xai, xal, xhi, xhv, xrf, xret, xrtl, xrtf, xrtd, xrta, xrtv, xfit, xnew, cond_true, cond_false, f40, f41, f42, f43, List.length_cons, List.length_nil, Nat.reduceAdd, Nat.reduceSub, Nat.reduceMul, Nat.reduceBEq, List.map_cons, List.map_nil, List.headD_cons, List.getElem?_cons_zero, List.getElem?_cons_succ, List.set_cons_zero, List.set_cons_succ]
      exact ⟨Nat.le_refl _, Nat.le_refl _, hq⟩
    · refine ⟨4, rfl, ?_⟩
      refine hK 4 _ _ _ _ _ _ rfl (by decide) ?_
      dsimp only [k_W_falls_4, hN1, hB, hM1, hM, wpI, xop, xcall, xli, xlj, xlf, xld, xla, xlg, xst, xst2, xc1, pI, pJ, pF, pD, pR, pA, p1, p0, xpop, xpush, xsm, xhas, xif, xic, xsw, xai, xal, xhi, xhv, xrf, xret, xrtl, xrtf, xrtd, xrta, xrtv, xfit, xnew, cond_true, cond_false, f40, f41, f42, f43, List.length_cons, List.length_nil, Nat.reduceAdd, Nat.reduceSub, Nat.reduceMul, Nat.reduceBEq, List.map_cons, List.map_nil, List.headD_cons, List.getElem?_cons_zero, List.getElem?_cons_succ, List.set_cons_zero, List.set_cons_succ]
      exact ⟨Nat.le_refl _, Nat.le_refl _, hq⟩
set_option maxRecDepth 100000 in
set_option maxHeartbeats 4000000 in
theorem w_wins {d : Nat} {x : Int32} {h : xH} {Qf Q : Option Value → xH → Prop} {Xf : Nat → xH → Prop} (h0 : ∃ (l0 : List Int32) (vs : List Value), h[0]? = some (6, l0, vs)) (h15 : 15 < h.length) (hE : Ev xT d N_B_wins [.ref 0, .int x] h Qf Xf) (hv : wV Qf Q) (hx : ∀ k h', Xf k h' → (k = 11 ∧ Q (some (.int (nI 1))) h')) :
    EvW d b_W_wins hb_wins 49 1 3 4 4 799 true [.ref 0, .int x, .ref 15] h Q := by
  intro K hK hC
  show K 0 [some (.ref 0), some (.int x), some (.ref 15), none] [] h 0 0
  refine hK 0 _ _ _ _ _ _ rfl (by decide) ?_
  dsimp only [k_W_wins_0, hN1, hB, hM1, hM, wpI, xop, xcall, xli, xlj, xlf, xld, xla, xlg, xst, xst2, xc1, pI, pJ, pF, pD, pR, pA, p1, p0, xpop, xpush, xsm, xhas, xif, xic, xsw, xai, xal, xhi, xhv, xrf, xret, xrtl, xrtf, xrtd, xrta, xrtv, xfit, xnew, cond_true, cond_false, f40, f41, f42, f43, List.length_cons, List.length_nil, Nat.reduceAdd, Nat.reduceSub, Nat.reduceMul, Nat.reduceBEq, List.map_cons, List.map_nil, List.headD_cons, List.getElem?_cons_zero, List.getElem?_cons_succ, List.set_cons_zero, List.set_cons_succ]
  refine hC [some (.ref 0), some (.int x), some (.ref 15), none] [.int x] [.int (nI 0), .ref 15] h Qf Xf rfl (by decide) h0 ?_ ?_ ?_ hE ?_ ?_
  · simp only [xwL, wfv, true_and, and_true]; exact ⟨Or.inl (Nat.lt_of_le_of_lt (Nat.zero_le _) h15), Or.inl h15⟩
  · simp only [xwS, wfv, true_and, and_true]; exact Or.inl h15
  · intro j v hj
    have hj2 : j < 4 := (List.getElem?_eq_some_iff.mp hj).1
    have hj3 : j = 0 ∨ j = 1 ∨ j = 2 ∨ j = 3 := by omega
    rcases hj3 with rfl | rfl | rfl | rfl
    · obtain rfl := Option.some.inj (Option.some.inj hj)
      exact ⟨by decide, by simp [Value.category]⟩
    · obtain rfl := Option.some.inj (Option.some.inj hj)
      exact ⟨by decide, by simp [Value.category]⟩
    · obtain rfl := Option.some.inj (Option.some.inj hj)
      exact ⟨by decide, by simp [Value.category]⟩
    · exact nomatch hj
  · intro v h' q
    obtain ⟨r, l, u, rfl, e, hq⟩ := hv v h' q
    refine hK 2 _ _ _ _ _ _ rfl (by decide) ?_
    dsimp only [k_W_wins_2, hN1, hB, hM1, hM, wpI, xop, xcall, xli, xlj, xlf, xld, xla, xlg, xst, xst2, xc1, pI, pJ, pF, pD, pR, pA, p1, p0, xpop, xpush, xsm, xhas, xif, xic, xsw, xrf, xret, xrtl, xrtf, xrtd, xrta, xrtv, xfit, xnew, cond_true, cond_false, f40, f41, f42, f43, List.length_cons, List.length_nil, Nat.reduceAdd, Nat.reduceSub, Nat.reduceMul, Nat.reduceBEq, List.map_cons, List.map_nil, List.headD_cons, List.getElem?_cons_zero, List.getElem?_cons_succ, List.set_cons_zero, List.set_cons_succ]
    refine xhv_of e ?_
    refine ⟨vp_in1, ?_⟩
    rw [nI0_0]
    refine hK 4 _ _ _ _ _ _ rfl (by decide) ?_
    dsimp only [k_W_wins_4, hN1, hB, hM1, hM, wpI, xop, xcall, xli, xlj, xlf, xld, xla, xlg, xst, xst2, xc1, pI, pJ, pF, pD, pR, pA, p1, p0, xpop, xpush, xsm, xhas, xif, xic, xsw, xai, xal, xhi, xhv, xrf, xret, xrtl, xrtf, xrtd, xrta, xrtv, xfit, xnew, cond_true, cond_false, f40, f41, f42, f43, List.length_cons, List.length_nil, Nat.reduceAdd, Nat.reduceSub, Nat.reduceMul, Nat.reduceBEq, List.map_cons, List.map_nil, List.headD_cons, List.getElem?_cons_zero, List.getElem?_cons_succ, List.set_cons_zero, List.set_cons_succ]
    exact ⟨Nat.le_refl _, Nat.le_refl _, hq⟩
  · intro k h' q
    obtain ⟨rfl, hq⟩ := hx k h' q
    refine ⟨3, rfl, ?_⟩
    refine hK 3 _ _ _ _ _ _ rfl (by decide) ?_
    dsimp only [k_W_wins_3, hN1, hB, hM1, hM, wpI, xop, xcall, xli, xlj, xlf, xld, xla, xlg, xst, xst2, xc1, pI, pJ, pF, pD, pR, pA, p1, p0, xpop, xpush, xsm, xhas, xif, xic, xsw, xai, xal, xhi, xhv, xrf, xret, xrtl, xrtf, xrtd, xrta, xrtv, xfit, xnew, cond_true, cond_false, f40, f41, f42, f43, List.length_cons, List.length_nil, Nat.reduceAdd, Nat.reduceSub, Nat.reduceMul, Nat.reduceBEq, List.map_cons, List.map_nil, List.headD_cons, List.getElem?_cons_zero, List.getElem?_cons_succ, List.set_cons_zero, List.set_cons_succ]
    exact ⟨Nat.le_refl _, Nat.le_refl _, hq⟩
set_option maxRecDepth 100000 in
set_option maxHeartbeats 4000000 in
theorem w_length {d : Nat} {x : Int32} {h : xH} {Qf Q : Option Value → xH → Prop} {Xf : Nat → xH → Prop} (h0 : ∃ (l0 : List Int32) (vs : List Value), h[0]? = some (6, l0, vs)) (h15 : 15 < h.length) (hE : Ev xT d N_B_length [.ref 0, .int x] h Qf Xf) (hv : wV Qf Q) (hx : ∀ k h', Xf k h' → (k = 11 ∧ Q (some (.int (nI 1))) h')) :
    EvW d b_W_length hb_length 51 1 3 4 4 799 true [.ref 0, .int x, .ref 15] h Q := by
  intro K hK hC
  show K 0 [some (.ref 0), some (.int x), some (.ref 15), none] [] h 0 0
  refine hK 0 _ _ _ _ _ _ rfl (by decide) ?_
  dsimp only [k_W_length_0, hN1, hB, hM1, hM, wpI, xop, xcall, xli, xlj, xlf, xld, xla, xlg, xst, xst2, xc1, pI, pJ, pF, pD, pR, pA, p1, p0, xpop, xpush, xsm, xhas, xif, xic, xsw, xai, xal, xhi, xhv, xrf, xret, xrtl, xrtf, xrtd, xrta, xrtv, xfit, xnew, cond_true, cond_false, f40, f41, f42, f43, List.length_cons, List.length_nil, Nat.reduceAdd, Nat.reduceSub, Nat.reduceMul, Nat.reduceBEq, List.map_cons, List.map_nil, List.headD_cons, List.getElem?_cons_zero, List.getElem?_cons_succ, List.set_cons_zero, List.set_cons_succ]
  refine hC [some (.ref 0), some (.int x), some (.ref 15), none] [.int x] [.int (nI 0), .ref 15] h Qf Xf rfl (by decide) h0 ?_ ?_ ?_ hE ?_ ?_
  · simp only [xwL, wfv, true_and, and_true]; exact ⟨Or.inl (Nat.lt_of_le_of_lt (Nat.zero_le _) h15), Or.inl h15⟩
  · simp only [xwS, wfv, true_and, and_true]; exact Or.inl h15
  · intro j v hj
    have hj2 : j < 4 := (List.getElem?_eq_some_iff.mp hj).1
    have hj3 : j = 0 ∨ j = 1 ∨ j = 2 ∨ j = 3 := by omega
    rcases hj3 with rfl | rfl | rfl | rfl
    · obtain rfl := Option.some.inj (Option.some.inj hj)
      exact ⟨by decide, by simp [Value.category]⟩
    · obtain rfl := Option.some.inj (Option.some.inj hj)
      exact ⟨by decide, by simp [Value.category]⟩
    · obtain rfl := Option.some.inj (Option.some.inj hj)
      exact ⟨by decide, by simp [Value.category]⟩
    · exact nomatch hj
  · intro v h' q
    obtain ⟨r, l, u, rfl, e, hq⟩ := hv v h' q
    refine hK 2 _ _ _ _ _ _ rfl (by decide) ?_
    dsimp only [k_W_length_2, hN1, hB, hM1, hM, wpI, xop, xcall, xli, xlj, xlf, xld, xla, xlg, xst, xst2, xc1, pI, pJ, pF, pD, pR, pA, p1, p0, xpop, xpush, xsm, xhas, xif, xic, xsw, xrf, xret, xrtl, xrtf, xrtd, xrta, xrtv, xfit, xnew, cond_true, cond_false, f40, f41, f42, f43, List.length_cons, List.length_nil, Nat.reduceAdd, Nat.reduceSub, Nat.reduceMul, Nat.reduceBEq, List.map_cons, List.map_nil, List.headD_cons, List.getElem?_cons_zero, List.getElem?_cons_succ, List.set_cons_zero, List.set_cons_succ]
    refine xhv_of e ?_
    refine ⟨vp_in1, ?_⟩
    rw [nI0_0]
    refine hK 4 _ _ _ _ _ _ rfl (by decide) ?_
    dsimp only [k_W_length_4, hN1, hB, hM1, hM, wpI, xop, xcall, xli, xlj, xlf, xld, xla, xlg, xst, xst2, xc1, pI, pJ, pF, pD, pR, pA, p1, p0, xpop, xpush, xsm, xhas, xif, xic, xsw, xai, xal, xhi, xhv, xrf, xret, xrtl, xrtf, xrtd, xrta, xrtv, xfit, xnew, cond_true, cond_false, f40, f41, f42, f43, List.length_cons, List.length_nil, Nat.reduceAdd, Nat.reduceSub, Nat.reduceMul, Nat.reduceBEq, List.map_cons, List.map_nil, List.headD_cons, List.getElem?_cons_zero, List.getElem?_cons_succ, List.set_cons_zero, List.set_cons_succ]
    exact ⟨Nat.le_refl _, Nat.le_refl _, hq⟩
  · intro k h' q
    obtain ⟨rfl, hq⟩ := hx k h' q
    refine ⟨3, rfl, ?_⟩
    refine hK 3 _ _ _ _ _ _ rfl (by decide) ?_
    dsimp only [k_W_length_3, hN1, hB, hM1, hM, wpI, xop, xcall, xli, xlj, xlf, xld, xla, xlg, xst, xst2, xc1, pI, pJ, pF, pD, pR, pA, p1, p0, xpop, xpush, xsm, xhas, xif, xic, xsw, xai, xal, xhi, xhv, xrf, xret, xrtl, xrtf, xrtd, xrta, xrtv, xfit, xnew, cond_true, cond_false, f40, f41, f42, f43, List.length_cons, List.length_nil, Nat.reduceAdd, Nat.reduceSub, Nat.reduceMul, Nat.reduceBEq, List.map_cons, List.map_nil, List.headD_cons, List.getElem?_cons_zero, List.getElem?_cons_succ, List.set_cons_zero, List.set_cons_succ]
    exact ⟨Nat.le_refl _, Nat.le_refl _, hq⟩
set_option maxRecDepth 100000 in
set_option maxHeartbeats 4000000 in
theorem w_pyramids {d : Nat} {x : Int32} {h : xH} {Qf Q : Option Value → xH → Prop} {Xf : Nat → xH → Prop} (h0 : ∃ (l0 : List Int32) (vs : List Value), h[0]? = some (6, l0, vs)) (h15 : 15 < h.length) (hE : Ev xT d N_B_pyramids [.ref 0, .int x] h Qf Xf) (hv : wV Qf Q) (hx : ∀ k h', Xf k h' → (k = 11 ∧ Q (some (.int (nI 1))) h')) :
    EvW d b_W_pyramids hb_pyramids 52 1 3 4 4 799 true [.ref 0, .int x, .ref 15] h Q := by
  intro K hK hC
  show K 0 [some (.ref 0), some (.int x), some (.ref 15), none] [] h 0 0
  refine hK 0 _ _ _ _ _ _ rfl (by decide) ?_
  dsimp only [k_W_pyramids_0, hN1, hB, hM1, hM, wpI, xop, xcall, xli, xlj, xlf, xld, xla, xlg, xst, xst2, xc1, pI, pJ, pF, pD, pR, pA, p1, p0, xpop, xpush, xsm, xhas, xif, xic, xsw, xai, xal, xhi, xhv, xrf, xret, xrtl, xrtf, xrtd, xrta, xrtv, xfit, xnew, cond_true, cond_false, f40, f41, f42, f43, List.length_cons, List.length_nil, Nat.reduceAdd, Nat.reduceSub, Nat.reduceMul, Nat.reduceBEq, List.map_cons, List.map_nil, List.headD_cons, List.getElem?_cons_zero, List.getElem?_cons_succ, List.set_cons_zero, List.set_cons_succ]
  refine hC [some (.ref 0), some (.int x), some (.ref 15), none] [.int x] [.int (nI 0), .ref 15] h Qf Xf rfl (by decide) h0 ?_ ?_ ?_ hE ?_ ?_
  · simp only [xwL, wfv, true_and, and_true]; exact ⟨Or.inl (Nat.lt_of_le_of_lt (Nat.zero_le _) h15), Or.inl h15⟩
  · simp only [xwS, wfv, true_and, and_true]; exact Or.inl h15
  · intro j v hj
    have hj2 : j < 4 := (List.getElem?_eq_some_iff.mp hj).1
    have hj3 : j = 0 ∨ j = 1 ∨ j = 2 ∨ j = 3 := by omega
    rcases hj3 with rfl | rfl | rfl | rfl
    · obtain rfl := Option.some.inj (Option.some.inj hj)
      exact ⟨by decide, by simp [Value.category]⟩
    · obtain rfl := Option.some.inj (Option.some.inj hj)
      exact ⟨by decide, by simp [Value.category]⟩
    · obtain rfl := Option.some.inj (Option.some.inj hj)
      exact ⟨by decide, by simp [Value.category]⟩
    · exact nomatch hj
  · intro v h' q
    obtain ⟨r, l, u, rfl, e, hq⟩ := hv v h' q
    refine hK 2 _ _ _ _ _ _ rfl (by decide) ?_
    dsimp only [k_W_pyramids_2, hN1, hB, hM1, hM, wpI, xop, xcall, xli, xlj, xlf, xld, xla, xlg, xst, xst2, xc1, pI, pJ, pF, pD, pR, pA, p1, p0, xpop, xpush, xsm, xhas, xif, xic, xsw, xrf, xret, xrtl, xrtf, xrtd, xrta, xrtv, xfit, xnew, cond_true, cond_false, f40, f41, f42, f43, List.length_cons, List.length_nil, Nat.reduceAdd, Nat.reduceSub, Nat.reduceMul, Nat.reduceBEq, List.map_cons, List.map_nil, List.headD_cons, List.getElem?_cons_zero, List.getElem?_cons_succ, List.set_cons_zero, List.set_cons_succ]
    refine xhv_of e ?_
    refine ⟨vp_in1, ?_⟩
    rw [nI0_0]
    refine hK 4 _ _ _ _ _ _ rfl (by decide) ?_
    dsimp only [k_W_pyramids_4, hN1, hB, hM1, hM, wpI, xop, xcall, xli, xlj, xlf, xld, xla, xlg, xst, xst2, xc1, pI, pJ, pF, pD, pR, pA, p1, p0, xpop, xpush, xsm, xhas, xif, xic, xsw, xai, xal, xhi, xhv, xrf, xret, xrtl, xrtf, xrtd, xrta, xrtv, xfit, xnew, cond_true, cond_false, f40, f41, f42, f43, List.length_cons, List.length_nil, Nat.reduceAdd, Nat.reduceSub, Nat.reduceMul, Nat.reduceBEq, List.map_cons, List.map_nil, List.headD_cons, List.getElem?_cons_zero, List.getElem?_cons_succ, List.set_cons_zero, List.set_cons_succ]
    exact ⟨Nat.le_refl _, Nat.le_refl _, hq⟩
  · intro k h' q
    obtain ⟨rfl, hq⟩ := hx k h' q
    refine ⟨3, rfl, ?_⟩
    refine hK 3 _ _ _ _ _ _ rfl (by decide) ?_
    dsimp only [k_W_pyramids_3, hN1, hB, hM1, hM, wpI, xop, xcall, xli, xlj, xlf, xld, xla, xlg, xst, xst2, xc1, pI, pJ, pF, pD, pR, pA, p1, p0, xpop, xpush, xsm, xhas, xif, xic, xsw, xai, xal, xhi, xhv, xrf, xret, xrtl, xrtf, xrtd, xrta, xrtv, xfit, xnew, cond_true, cond_false, f40, f41, f42, f43, List.length_cons, List.length_nil, Nat.reduceAdd, Nat.reduceSub, Nat.reduceMul, Nat.reduceBEq, List.map_cons, List.map_nil, List.headD_cons, List.getElem?_cons_zero, List.getElem?_cons_succ, List.set_cons_zero, List.set_cons_succ]
    exact ⟨Nat.le_refl _, Nat.le_refl _, hq⟩
