/-! ===== the wrappers: what they answer ===== -/
set_option maxRecDepth 100000 in
set_option maxHeartbeats 4000000 in
theorem w_take {d : Nat} {x y : Int32} {h : xH} {Qf Q : Option Value → xH → Prop} {Xf : Nat → xH → Prop} (h0 : ∃ (l0 : List Int32) (vs : List Value), h[0]? = some (6, l0, vs)) (hE : Ev xT d N_B_take [.ref 0, .int x, .int y] h Qf Xf) (hv : ∀ v h', Qf v h' → ∃ r : Int32, v = some (.int r) ∧ Q (some (.int r)) h') (hx : ∀ k h', Xf k h' → (k = 10 ∧ Q (some (.int (-101))) h') ∨ (k = 11 ∧ Q (some (.int (-102))) h') ∨ (k = 12 ∧ Q (some (.int (-103))) h')) :
    EvW d b_W_take hb_take N_B_take 2 3 4 1 6 false [.ref 0, .int x, .int y] h Q := by
  intro K hK hC
  have hlt : 0 < h.length := by
    obtain ⟨_, _, h0⟩ := h0
    exact (List.getElem?_eq_some_iff.mp h0).1
  show K 0 [some (.ref 0), some (.int x), some (.int y), none] [] h 0 0
  refine hK 0 _ _ _ _ _ _ rfl (by decide) ?_
  dsimp only [k_W_take_0, hN1, hB, wpI, xop, xcall, xli, xlj, xlf, xld, xla, xlg, xst, xst2, xc1, pI, pJ, pF, pD, pR, pA, p1, p0, xpop, xpush, xsm, xhas, xif, xic, xsw, xai, xal, xhi, xhv, xrf, xret, xrtl, xrtf, xrtd, xrta, xrtv, xfit, xnew, cond_true, cond_false, f40, f41, f42, f43, List.length_cons, List.length_nil, Nat.reduceAdd, Nat.reduceSub, Nat.reduceMul, Nat.reduceBEq, List.map_cons, List.map_nil, List.headD_cons, List.getElem?_cons_zero, List.getElem?_cons_succ, List.set_cons_zero, List.set_cons_succ]
  refine hC [some (.ref 0), some (.int x), some (.int y), none] [.int x, .int y] [] h Qf Xf rfl (by decide) h0 ?_ ?_ ?_ hE ?_ ?_
  · simp only [xwL, wfv, true_and, and_true]; exact Or.inl hlt
  · exact trivial
  · intro j v hj
    have hj2 : j < 4 := (List.getElem?_eq_some_iff.mp hj).1
    have hj3 : j = 0 ∨ j = 1 ∨ j = 2 ∨ j = 3 := by omega
    rcases hj3 with rfl | rfl | rfl | rfl
    · obtain rfl := Option.some.inj (Option.some.inj hj)
      exact ⟨by decide, by simp [Value.category]⟩
    · obtain rfl := Option.some.inj (Option.some.inj hj)
      exact ⟨by decide, by simp [Value.category]⟩
    · obtain rfl := Option.some.inj (Option.some.inj hj)
      exact ⟨by decide, by simp [Value.category]⟩
    · exact nomatch hj
  · intro v h' q
    obtain ⟨r, rfl, hq⟩ := hv v h' q
    refine hK 2 _ _ _ _ _ _ rfl (by decide) ?_
    dsimp only [k_W_take_2, hN1, hB, wpI, xop, xcall, xli, xlj, xlf, xld, xla, xlg, xst, xst2, xc1, pI, pJ, pF, pD, pR, pA, p1, p0, xpop, xpush, xsm, xhas, xif, xic, xsw, xai, xal, xhi, xhv, xrf, xret, xrtl, xrtf, xrtd, xrta, xrtv, xfit, xnew, cond_true, cond_false, f40, f41, f42, f43, List.length_cons, List.length_nil, Nat.reduceAdd, Nat.reduceSub, Nat.reduceMul, Nat.reduceBEq, List.map_cons, List.map_nil, List.headD_cons, List.getElem?_cons_zero, List.getElem?_cons_succ, List.set_cons_zero, List.set_cons_succ]
    exact ⟨Nat.le_refl _, Nat.le_refl _, hq⟩
  · intro k h' q
    rcases hx k h' q with ⟨rfl, hq⟩ | ⟨rfl, hq⟩ | ⟨rfl, hq⟩
    · refine ⟨3, rfl, ?_⟩
      refine hK 3 _ _ _ _ _ _ rfl (by decide) ?_
      dsimp only [k_W_take_3, hN1, hB, wpI, xop, xcall, xli, xlj, xlf, xld, xla, xlg, xst, xst2, xc1, pI, pJ, pF, pD, pR, pA, p1, p0, xpop, xpush, xsm, xhas, xif, xic, xsw, xai, xal, xhi, xhv, xrf, xret, xrtl, xrtf, xrtd, xrta, xrtv, xfit, xnew, cond_true, cond_false, f40, f41, f42, f43, List.length_cons, List.length_nil, Nat.reduceAdd, Nat.reduceSub, Nat.reduceMul, Nat.reduceBEq, List.map_cons, List.map_nil, List.headD_cons, List.getElem?_cons_zero, List.getElem?_cons_succ, List.set_cons_zero, List.set_cons_succ]
      exact ⟨Nat.le_refl _, Nat.le_refl _, hq⟩
    · refine ⟨4, rfl, ?_⟩
      refine hK 4 _ _ _ _ _ _ rfl (by decide) ?_
      dsimp only [k_W_take_4, hN1, hB, wpI, xop, xcall, xli, xlj, xlf, xld, xla, xlg, xst, xst2, xc1, pI, pJ, pF, pD, pR, pA, p1, p0, xpop, xpush, xsm, xhas, xif, xic, xsw, xai, xal, xhi, xhv, xrf, xret, xrtl, xrtf, xrtd, xrta, xrtv, xfit, xnew, cond_true, cond_false, f40, f41, f42, f43, List.length_cons, List.length_nil, Nat.reduceAdd, Nat.reduceSub, Nat.reduceMul, Nat.reduceBEq, List.map_cons, List.map_nil, List.headD_cons, List.getElem?_cons_zero, List.getElem?_cons_succ, List.set_cons_zero, List.set_cons_succ]
      exact ⟨Nat.le_refl _, Nat.le_refl _, hq⟩
    · refine ⟨5, rfl, ?_⟩
      refine hK 5 _ _ _ _ _ _ rfl (by decide) ?_
      dsimp only [k_W_take_5, hN1, hB, wpI, xop, xcall, xli, xlj, xlf, xld, xla, xlg, xst, xst2, xc1, pI, pJ, pF, pD, pR, pA, p1, p0, xpop, xpush, xsm, xhas, xif, xic, xsw, xai, xal, xhi, xhv, xrf, xret, xrtl, xrtf, xrtd, xrta, xrtv, xfit, xnew, cond_true, cond_false, f40, f41, f42, f43, List.length_cons, List.length_nil, Nat.reduceAdd, Nat.reduceSub, Nat.reduceMul, Nat.reduceBEq, List.map_cons, List.map_nil, List.headD_cons, List.getElem?_cons_zero, List.getElem?_cons_succ, List.set_cons_zero, List.set_cons_succ]
      exact ⟨Nat.le_refl _, Nat.le_refl _, hq⟩
set_option maxRecDepth 100000 in
set_option maxHeartbeats 4000000 in
theorem w_knock {d : Nat} {x y : Int32} {h : xH} {Qf Q : Option Value → xH → Prop} {Xf : Nat → xH → Prop} (h0 : ∃ (l0 : List Int32) (vs : List Value), h[0]? = some (6, l0, vs)) (hE : Ev xT d N_B_knock [.ref 0, .int x, .int y] h Qf Xf) (hv : ∀ v h', Qf v h' → ∃ r : Int32, v = some (.int r) ∧ Q (some (.int r)) h') (hx : ∀ k h', Xf k h' → (k = 10 ∧ Q (some (.int (-101))) h') ∨ (k = 12 ∧ Q (some (.int (-103))) h')) :
    EvW d b_W_knock hb_knock N_B_knock 2 3 4 1 6 false [.ref 0, .int x, .int y] h Q := by
  intro K hK hC
  have hlt : 0 < h.length := by
    obtain ⟨_, _, h0⟩ := h0
    exact (List.getElem?_eq_some_iff.mp h0).1
  show K 0 [some (.ref 0), some (.int x), some (.int y), none] [] h 0 0
  refine hK 0 _ _ _ _ _ _ rfl (by decide) ?_
  dsimp only [k_W_knock_0, hN1, hB, wpI, xop, xcall, xli, xlj, xlf, xld, xla, xlg, xst, xst2, xc1, pI, pJ, pF, pD, pR, pA, p1, p0, xpop, xpush, xsm, xhas, xif, xic, xsw, xai, xal, xhi, xhv, xrf, xret, xrtl, xrtf, xrtd, xrta, xrtv, xfit, xnew, cond_true, cond_false, f40, f41, f42, f43, List.length_cons, List.length_nil, Nat.reduceAdd, Nat.reduceSub, Nat.reduceMul, Nat.reduceBEq, List.map_cons, List.map_nil, List.headD_cons, List.getElem?_cons_zero, List.getElem?_cons_succ, List.set_cons_zero, List.set_cons_succ]
  refine hC [some (.ref 0), some (.int x), some (.int y), none] [.int x, .int y] [] h Qf Xf rfl (by decide) h0 ?_ ?_ ?_ hE ?_ ?_
  · simp only [xwL, wfv, true_and, and_true]; exact Or.inl hlt
  · exact trivial
  · intro j v hj
    have hj2 : j < 4 := (List.getElem?_eq_some_iff.mp hj).1
    have hj3 : j = 0 ∨ j = 1 ∨ j = 2 ∨ j = 3 := by omega
    rcases hj3 with rfl | rfl | rfl | rfl
    · obtain rfl := Option.some.inj (Option.some.inj hj)
      exact ⟨by decide, by simp [Value.category]⟩
    · obtain rfl := Option.some.inj (Option.some.inj hj)
      exact ⟨by decide, by simp [Value.category]⟩
    · obtain rfl := Option.some.inj (Option.some.inj hj)
      exact ⟨by decide, by simp [Value.category]⟩
    · exact nomatch hj
  · intro v h' q
    obtain ⟨r, rfl, hq⟩ := hv v h' q
    refine hK 2 _ _ _ _ _ _ rfl (by decide) ?_
    dsimp only [k_W_knock_2, hN1, hB, wpI, xop, xcall, xli, xlj, xlf, xld, xla, xlg, xst, xst2, xc1, pI, pJ, pF, pD, pR, pA, p1, p0, xpop, xpush, xsm, xhas, xif, xic, xsw, xai, xal, xhi, xhv, xrf, xret, xrtl, xrtf, xrtd, xrta, xrtv, xfit, xnew, cond_true, cond_false, f40, f41, f42, f43, List.length_cons, List.length_nil, Nat.reduceAdd, Nat.reduceSub, Nat.reduceMul, Nat.reduceBEq, List.map_cons, List.map_nil, List.headD_cons, List.getElem?_cons_zero, List.getElem?_cons_succ, List.set_cons_zero, List.set_cons_succ]
    exact ⟨Nat.le_refl _, Nat.le_refl _, hq⟩
  · intro k h' q
    rcases hx k h' q with ⟨rfl, hq⟩ | ⟨rfl, hq⟩
    · refine ⟨3, rfl, ?_⟩
      refine hK 3 _ _ _ _ _ _ rfl (by decide) ?_
      dsimp only [k_W_knock_3, hN1, hB, wpI, xop, xcall, xli, xlj, xlf, xld, xla, xlg, xst, xst2, xc1, pI, pJ, pF, pD, pR, pA, p1, p0, xpop, xpush, xsm, xhas, xif, xic, xsw, xai, xal, xhi, xhv, xrf, xret, xrtl, xrtf, xrtd, xrta, xrtv, xfit, xnew, cond_true, cond_false, f40, f41, f42, f43, List.length_cons, List.length_nil, Nat.reduceAdd, Nat.reduceSub, Nat.reduceMul, Nat.reduceBEq, List.map_cons, List.map_nil, List.headD_cons, List.getElem?_cons_zero, List.getElem?_cons_succ, List.set_cons_zero, List.set_cons_succ]
      exact ⟨Nat.le_refl _, Nat.le_refl _, hq⟩
    · refine ⟨4, rfl, ?_⟩
      refine hK 4 _ _ _ _ _ _ rfl (by decide) ?_
      dsimp only [k_W_knock_4, hN1, hB, wpI, xop, xcall, xli, xlj, xlf, xld, xla, xlg, xst, xst2, xc1, pI, pJ, pF, pD, pR, pA, p1, p0, xpop, xpush, xsm, xhas, xif, xic, xsw, xai, xal, xhi, xhv, xrf, xret, xrtl, xrtf, xrtd, xrta, xrtv, xfit, xnew, cond_true, cond_false, f40, f41, f42, f43, List.length_cons, List.length_nil, Nat.reduceAdd, Nat.reduceSub, Nat.reduceMul, Nat.reduceBEq, List.map_cons, List.map_nil, List.headD_cons, List.getElem?_cons_zero, List.getElem?_cons_succ, List.set_cons_zero, List.set_cons_succ]
      exact ⟨Nat.le_refl _, Nat.le_refl _, hq⟩
set_option maxRecDepth 100000 in
set_option maxHeartbeats 4000000 in
theorem w_put {d : Nat} {x y : Int32} {h : xH} {Qf Q : Option Value → xH → Prop} {Xf : Nat → xH → Prop} (h0 : ∃ (l0 : List Int32) (vs : List Value), h[0]? = some (6, l0, vs)) (hE : Ev xT d N_B_put [.ref 0, .int x, .int y] h Qf Xf) (hv : ∀ v h', Qf v h' → ∃ r : Int32, v = some (.int r) ∧ Q (some (.int r)) h') (hx : ∀ k h', Xf k h' → (k = 10 ∧ Q (some (.int (-101))) h') ∨ (k = 12 ∧ Q (some (.int (-103))) h')) :
    EvW d b_W_put hb_put N_B_put 2 3 4 1 6 false [.ref 0, .int x, .int y] h Q := by
  intro K hK hC
  have hlt : 0 < h.length := by
    obtain ⟨_, _, h0⟩ := h0
    exact (List.getElem?_eq_some_iff.mp h0).1
  show K 0 [some (.ref 0), some (.int x), some (.int y), none] [] h 0 0
  refine hK 0 _ _ _ _ _ _ rfl (by decide) ?_
  dsimp only [k_W_put_0, hN1, hB, wpI, xop, xcall, xli, xlj, xlf, xld, xla, xlg, xst, xst2, xc1, pI, pJ, pF, pD, pR, pA, p1, p0, xpop, xpush, xsm, xhas, xif, xic, xsw, xai, xal, xhi, xhv, xrf, xret, xrtl, xrtf, xrtd, xrta, xrtv, xfit, xnew, cond_true, cond_false, f40, f41, f42, f43, List.length_cons, List.length_nil, Nat.reduceAdd, Nat.reduceSub, Nat.reduceMul, Nat.reduceBEq, List.map_cons, List.map_nil, List.headD_cons, List.getElem?_cons_zero, List.getElem?_cons_succ, List.set_cons_zero, List.set_cons_succ]
  refine hC [some (.ref 0), some (.int x), some (.int y), none] [.int x, .int y] [] h Qf Xf rfl (by decide) h0 ?_ ?_ ?_ hE ?_ ?_
  · simp only [xwL, wfv, true_and, and_true]; exact Or.inl hlt
  · exact trivial
  · intro j v hj
    have hj2 : j < 4 := (List.getElem?_eq_some_iff.mp hj).1
    have hj3 : j = 0 ∨ j = 1 ∨ j = 2 ∨ j = 3 := by omega
    rcases hj3 with rfl | rfl | rfl | rfl
    · obtain rfl := Option.some.inj (Option.some.inj hj)
      exact ⟨by decide, by simp [Value.category]⟩
    · obtain rfl := Option.some.inj (Option.some.inj hj)
      exact ⟨by decide, by simp [Value.category]⟩
    · obtain rfl := Option.some.inj (Option.some.inj hj)
      exact ⟨by decide, by simp [Value.category]⟩
    · exact nomatch hj
  · intro v h' q
    obtain ⟨r, rfl, hq⟩ := hv v h' q
    refine hK 2 _ _ _ _ _ _ rfl (by decide) ?_
    dsimp only [k_W_put_2, hN1, hB, wpI, xop, xcall, xli, xlj, xlf, xld, xla, xlg, xst, xst2, xc1, pI, pJ, pF, pD, pR, pA, p1, p0, xpop, xpush, xsm, xhas, xif, xic, xsw, xai, xal, xhi, xhv, xrf, xret, xrtl, xrtf, xrtd, xrta, xrtv, xfit, xnew, cond_true, cond_false, f40, f41, f42, f43, List.length_cons, List.length_nil, Nat.reduceAdd, Nat.reduceSub, Nat.reduceMul, Nat.reduceBEq, List.map_cons, List.map_nil, List.headD_cons, List.getElem?_cons_zero, List.getElem?_cons_succ, List.set_cons_zero, List.set_cons_succ]
    exact ⟨Nat.le_refl _, Nat.le_refl _, hq⟩
  · intro k h' q
    rcases hx k h' q with ⟨rfl, hq⟩ | ⟨rfl, hq⟩
    · refine ⟨3, rfl, ?_⟩
      refine hK 3 _ _ _ _ _ _ rfl (by decide) ?_
      dsimp only [k_W_put_3, hN1, hB, wpI, xop, xcall, xli, xlj, xlf, xld, xla, xlg, xst, xst2, xc1, pI, pJ, pF, pD, pR, pA, p1, p0, xpop, xpush, xsm, xhas, xif, xic, xsw, xai, xal, xhi, xhv, xrf, xret, xrtl, xrtf, xrtd, xrta, xrtv, xfit, xnew, cond_true, cond_false, f40, f41, f42, f43, List.length_cons, List.length_nil, Nat.reduceAdd, Nat.reduceSub, Nat.reduceMul, Nat.reduceBEq, List.map_cons, List.map_nil, List.headD_cons, List.getElem?_cons_zero, List.getElem?_cons_succ, List.set_cons_zero, List.set_cons_succ]
      exact ⟨Nat.le_refl _, Nat.le_refl _, hq⟩
    · refine ⟨4, rfl, ?_⟩
      refine hK 4 _ _ _ _ _ _ rfl (by decide) ?_
      dsimp only [k_W_put_4, hN1, hB, wpI, xop, xcall, xli, xlj, xlf, xld, xla, xlg, xst, xst2, xc1, pI, pJ, pF, pD, pR, pA, p1, p0, xpop, xpush, xsm, xhas, xif, xic, xsw, xai, xal, xhi, xhv, xrf, xret, xrtl, xrtf, xrtd, xrta, xrtv, xfit, xnew, cond_true, cond_false, f40, f41, f42, f43, List.length_cons, List.length_nil, Nat.reduceAdd, Nat.reduceSub, Nat.reduceMul, Nat.reduceBEq, List.map_cons, List.map_nil, List.headD_cons, List.getElem?_cons_zero, List.getElem?_cons_succ, List.set_cons_zero, List.set_cons_succ]
      exact ⟨Nat.le_refl _, Nat.le_refl _, hq⟩
set_option maxRecDepth 100000 in
set_option maxHeartbeats 4000000 in
theorem w_set {d : Nat} {x y : Int32} {h : xH} {Qf Q : Option Value → xH → Prop} {Xf : Nat → xH → Prop} (h0 : ∃ (l0 : List Int32) (vs : List Value), h[0]? = some (6, l0, vs)) (hE : Ev xT d N_B_set [.ref 0, .int x, .int y] h Qf Xf) (hv : ∀ v h', Qf v h' → ∃ r : Int32, v = some (.int r) ∧ Q (some (.int r)) h') (hx : ∀ k h', Xf k h' → (k = 10 ∧ Q (some (.int (-101))) h') ∨ (k = 11 ∧ Q (some (.int (-102))) h')) :
    EvW d b_W_set hb_set N_B_set 2 3 4 1 6 false [.ref 0, .int x, .int y] h Q := by
  intro K hK hC
  have hlt : 0 < h.length := by
    obtain ⟨_, _, h0⟩ := h0
    exact (List.getElem?_eq_some_iff.mp h0).1
  show K 0 [some (.ref 0), some (.int x), some (.int y), none] [] h 0 0
  refine hK 0 _ _ _ _ _ _ rfl (by decide) ?_
  dsimp only [k_W_set_0, hN1, hB, wpI, xop, xcall, xli, xlj, xlf, xld, xla, xlg, xst, xst2, xc1, pI, pJ, pF, pD, pR, pA, p1, p0, xpop, xpush, xsm, xhas, xif, xic, xsw, xai, xal, xhi, xhv, xrf, xret, xrtl, xrtf, xrtd, xrta, xrtv, xfit, xnew, cond_true, cond_false, f40, f41, f42, f43, List.length_cons, List.length_nil, Nat.reduceAdd, Nat.reduceSub, Nat.reduceMul, Nat.reduceBEq, List.map_cons, List.map_nil, List.headD_cons, List.getElem?_cons_zero, List.getElem?_cons_succ, List.set_cons_zero, List.set_cons_succ]
  refine hC [some (.ref 0), some (.int x), some (.int y), none] [.int x, .int y] [] h Qf Xf rfl (by decide) h0 ?_ ?_ ?_ hE ?_ ?_
  · simp only [xwL, wfv, true_and, and_true]; exact Or.inl hlt
  · exact trivial
  · intro j v hj
    have hj2 : j < 4 := (List.getElem?_eq_some_iff.mp hj).1
    have hj3 : j = 0 ∨ j = 1 ∨ j = 2 ∨ j = 3 := by omega
    rcases hj3 with rfl | rfl | rfl | rfl
    · obtain rfl := Option.some.inj (Option.some.inj hj)
      exact ⟨by decide, by simp [Value.category]⟩
    · obtain rfl := Option.some.inj (Option.some.inj hj)
      exact ⟨by decide, by simp [Value.category]⟩
    · obtain rfl := Option.some.inj (Option.some.inj hj)
      exact ⟨by decide, by simp [Value.category]⟩
    · exact nomatch hj
  · intro v h' q
    obtain ⟨r, rfl, hq⟩ := hv v h' q
    refine hK 2 _ _ _ _ _ _ rfl (by decide) ?_
    dsimp only [k_W_set_2, hN1, hB, wpI, xop, xcall, xli, xlj, xlf, xld, xla, xlg, xst, xst2, xc1, pI, pJ, pF, pD, pR, pA, p1, p0, xpop, xpush, xsm, xhas, xif, xic, xsw, xai, xal, xhi, xhv, xrf, xret, xrtl, xrtf, xrtd, xrta, xrtv, xfit, xnew, cond_true, cond_false, f40, f41, f42, f43, List.length_cons, List.length_nil, Nat.reduceAdd, Nat.reduceSub, Nat.reduceMul, Nat.reduceBEq, List.map_cons, List.map_nil, List.headD_cons, List.getElem?_cons_zero, List.getElem?_cons_succ, List.set_cons_zero, List.set_cons_succ]
    exact ⟨Nat.le_refl _, Nat.le_refl _, hq⟩
  · intro k h' q
    rcases hx k h' q with ⟨rfl, hq⟩ | ⟨rfl, hq⟩
    · refine ⟨3, rfl, ?_⟩
      refine hK 3 _ _ _ _ _ _ rfl (by decide) ?_
      dsimp only [k_W_set_3, hN1, hB, wpI, xop, xcall, xli, xlj, xlf, xld, xla, xlg, xst, xst2, xc1, pI, pJ, pF, pD, pR, pA, p1, p0, xpop, xpush, xsm, xhas, xif, xic, xsw, xai, xal, xhi, xhv, xrf, xret, xrtl, xrtf, xrtd, xrta, xrtv, xfit, xnew, cond_true, cond_false, f40, f41, f42, f43, List.length_cons, List.length_nil, Nat.reduceAdd, Nat.reduceSub, Nat.reduceMul, Nat.reduceBEq, List.map_cons, List.map_nil, List.headD_cons, List.getElem?_cons_zero, List.getElem?_cons_succ, List.set_cons_zero, List.set_cons_succ]
      exact ⟨Nat.le_refl _, Nat.le_refl _, hq⟩
    · refine ⟨4, rfl, ?_⟩
      refine hK 4 _ _ _ _ _ _ rfl (by decide) ?_
      dsimp only [k_W_set_4, hN1, hB, wpI, xop, xcall, xli, xlj, xlf, xld, xla, xlg, xst, xst2, xc1, pI, pJ, pF, pD, pR, pA, p1, p0, xpop, xpush, xsm, xhas, xif, xic, xsw, xai, xal, xhi, xhv, xrf, xret, xrtl, xrtf, xrtd, xrta, xrtv, xfit, xnew, cond_true, cond_false, f40, f41, f42, f43, List.length_cons, List.length_nil, Nat.reduceAdd, Nat.reduceSub, Nat.reduceMul, Nat.reduceBEq, List.map_cons, List.map_nil, List.headD_cons, List.getElem?_cons_zero, List.getElem?_cons_succ, List.set_cons_zero, List.set_cons_succ]
      exact ⟨Nat.le_refl _, Nat.le_refl _, hq⟩
set_option maxRecDepth 100000 in
set_option maxHeartbeats 4000000 in
theorem w_turn {d : Nat} {x : Int32} {h : xH} {Qf Q : Option Value → xH → Prop} {Xf : Nat → xH → Prop} (h0 : ∃ (l0 : List Int32) (vs : List Value), h[0]? = some (6, l0, vs)) (hE : Ev xT d N_B_turn [.ref 0, .int x] h Qf Xf) (hv : ∀ v h', Qf v h' → ∃ r : Int32, v = some (.int r) ∧ Q (some (.int r)) h') (hx : ∀ k h', Xf k h' → (k = 11 ∧ Q (some (.int (-102))) h')) :
    EvW d b_W_turn hb_turn N_B_turn 1 2 3 1 6 false [.ref 0, .int x] h Q := by
  intro K hK hC
  have hlt : 0 < h.length := by
    obtain ⟨_, _, h0⟩ := h0
    exact (List.getElem?_eq_some_iff.mp h0).1
  show K 0 [some (.ref 0), some (.int x), none] [] h 0 0
  refine hK 0 _ _ _ _ _ _ rfl (by decide) ?_
  dsimp only [k_W_turn_0, hN1, hB, wpI, xop, xcall, xli, xlj, xlf, xld, xla, xlg, xst, xst2, xc1, pI, pJ, pF, pD, pR, pA, p1, p0, xpop, xpush, xsm, xhas, xif, xic, xsw, xai, xal, xhi, xhv, xrf, xret, xrtl, xrtf, xrtd, xrta, xrtv, xfit, xnew, cond_true, cond_false, f40, f41, f42, f43, List.length_cons, List.length_nil, Nat.reduceAdd, Nat.reduceSub, Nat.reduceMul, Nat.reduceBEq, List.map_cons, List.map_nil, List.headD_cons, List.getElem?_cons_zero, List.getElem?_cons_succ, List.set_cons_zero, List.set_cons_succ]
  refine hC [some (.ref 0), some (.int x), none] [.int x] [] h Qf Xf rfl (by decide) h0 ?_ ?_ ?_ hE ?_ ?_
  · simp only [xwL, wfv, true_and, and_true]; exact Or.inl hlt
  · exact trivial
  · intro j v hj
    have hj2 : j < 3 := (List.getElem?_eq_some_iff.mp hj).1
    have hj3 : j = 0 ∨ j = 1 ∨ j = 2 := by omega
    rcases hj3 with rfl | rfl | rfl
    · obtain rfl := Option.some.inj (Option.some.inj hj)
      exact ⟨by decide, by simp [Value.category]⟩
    · obtain rfl := Option.some.inj (Option.some.inj hj)
      exact ⟨by decide, by simp [Value.category]⟩
    · exact nomatch hj
  · intro v h' q
    obtain ⟨r, rfl, hq⟩ := hv v h' q
    refine hK 2 _ _ _ _ _ _ rfl (by decide) ?_
    dsimp only [k_W_turn_2, hN1, hB, wpI, xop, xcall, xli, xlj, xlf, xld, xla, xlg, xst, xst2, xc1, pI, pJ, pF, pD, pR, pA, p1, p0, xpop, xpush, xsm, xhas, xif, xic, xsw, xai, xal, xhi, xhv, xrf, xret, xrtl, xrtf, xrtd, xrta, xrtv, xfit, xnew, cond_true, cond_false, f40, f41, f42, f43, List.length_cons, List.length_nil, Nat.reduceAdd, Nat.reduceSub, Nat.reduceMul, Nat.reduceBEq, List.map_cons, List.map_nil, List.headD_cons, List.getElem?_cons_zero, List.getElem?_cons_succ, List.set_cons_zero, List.set_cons_succ]
    exact ⟨Nat.le_refl _, Nat.le_refl _, hq⟩
  · intro k h' q
    obtain ⟨rfl, hq⟩ := hx k h' q
    refine ⟨3, rfl, ?_⟩
    refine hK 3 _ _ _ _ _ _ rfl (by decide) ?_
    dsimp only [k_W_turn_3, hN1, hB, wpI, xop, xcall, xli, xlj, xlf, xld, xla, xlg, xst, xst2, xc1, pI, pJ, pF, pD, pR, pA, p1, p0, xpop, xpush, xsm, xhas, xif, xic, xsw, xai, xal, xhi, xhv, xrf, xret, xrtl, xrtf, xrtd, xrta, xrtv, xfit, xnew, cond_true, cond_false, f40, f41, f42, f43, List.length_cons, List.length_nil, Nat.reduceAdd, Nat.reduceSub, Nat.reduceMul, Nat.reduceBEq, List.map_cons, List.map_nil, List.headD_cons, List.getElem?_cons_zero, List.getElem?_cons_succ, List.set_cons_zero, List.set_cons_succ]
    exact ⟨Nat.le_refl _, Nat.le_refl _, hq⟩
set_option maxRecDepth 100000 in
set_option maxHeartbeats 4000000 in
theorem w_goBack {d : Nat} {h : xH} {Qf Q : Option Value → xH → Prop} {Xf : Nat → xH → Prop} (h0 : ∃ (l0 : List Int32) (vs : List Value), h[0]? = some (6, l0, vs)) (hE : Ev xT d N_B_goBack [.ref 0] h Qf Xf) (hv : ∀ v h', Qf v h' → ∃ r : Int32, v = some (.int r) ∧ Q (some (.int r)) h') (hx : ∀ k h', Xf k h' → (k = 12 ∧ Q (some (.int (-103))) h')) :
    EvW d b_W_goBack hb_goBack N_B_goBack 0 1 2 1 6 false [.ref 0] h Q := by
  intro K hK hC
  have hlt : 0 < h.length := by
    obtain ⟨_, _, h0⟩ := h0
    exact (List.getElem?_eq_some_iff.mp h0).1
  show K 0 [some (.ref 0), none] [] h 0 0
  refine hK 0 _ _ _ _ _ _ rfl (by decide) ?_
  dsimp only [k_W_goBack_0, hN1, hB, wpI, xop, xcall, xli, xlj, xlf, xld, xla, xlg, xst, xst2, xc1, pI, pJ, pF, pD, pR, pA, p1, p0, xpop, xpush, xsm, xhas, xif, xic, xsw, xai, xal, xhi, xhv, xrf, xret, xrtl, xrtf, xrtd, xrta, xrtv, xfit, xnew, cond_true, cond_false, f40, f41, f42, f43, List.length_cons, List.length_nil, Nat.reduceAdd, Nat.reduceSub, Nat.reduceMul, Nat.reduceBEq, List.map_cons, List.map_nil, List.headD_cons, List.getElem?_cons_zero, List.getElem?_cons_succ, List.set_cons_zero, List.set_cons_succ]
  refine hC [some (.ref 0), none] [] [] h Qf Xf rfl (by decide) h0 ?_ ?_ ?_ hE ?_ ?_
  · simp only [xwL, wfv, true_and, and_true]; exact Or.inl hlt
  · exact trivial
  · intro j v hj
    have hj2 : j < 2 := (List.getElem?_eq_some_iff.mp hj).1
    have hj3 : j = 0 ∨ j = 1 := by omega
    rcases hj3 with rfl | rfl
    · obtain rfl := Option.some.inj (Option.some.inj hj)
      exact ⟨by decide, by simp [Value.category]⟩
    · exact nomatch hj
  · intro v h' q
    obtain ⟨r, rfl, hq⟩ := hv v h' q
    refine hK 2 _ _ _ _ _ _ rfl (by decide) ?_
    dsimp only [k_W_goBack_2, hN1, hB, wpI, xop, xcall, xli, xlj, xlf, xld, xla, xlg, xst, xst2, xc1, pI, pJ, pF, pD, pR, pA, p1, p0, xpop, xpush, xsm, xhas, xif, xic, xsw, xai, xal, xhi, xhv, xrf, xret, xrtl, xrtf, xrtd, xrta, xrtv, xfit, xnew, cond_true, cond_false, f40, f41, f42, f43, List.length_cons, List.length_nil, Nat.reduceAdd, Nat.reduceSub, Nat.reduceMul, Nat.reduceBEq, List.map_cons, List.map_nil, List.headD_cons, List.getElem?_cons_zero, List.getElem?_cons_succ, List.set_cons_zero, List.set_cons_succ]
    exact ⟨Nat.le_refl _, Nat.le_refl _, hq⟩
  · intro k h' q
    obtain ⟨rfl, hq⟩ := hx k h' q
    refine ⟨3, rfl, ?_⟩
    refine hK 3 _ _ _ _ _ _ rfl (by decide) ?_
    dsimp only [k_W_goBack_3, hN1, hB, wpI, xop, xcall, xli, xlj, xlf, xld, xla, xlg, xst, xst2, xc1, pI, pJ, pF, pD, pR, pA, p1, p0, xpop, xpush, xsm, xhas, xif, xic, xsw, xai, xal, xhi, xhv, xrf, xret, xrtl, xrtf, xrtd, xrta, xrtv, xfit, xnew, cond_true, cond_false, f40, f41, f42, f43, List.length_cons, List.length_nil, Nat.reduceAdd, Nat.reduceSub, Nat.reduceMul, Nat.reduceBEq, List.map_cons, List.map_nil, List.headD_cons, List.getElem?_cons_zero, List.getElem?_cons_succ, List.set_cons_zero, List.set_cons_succ]
    exact ⟨Nat.le_refl _, Nat.le_refl _, hq⟩
set_option maxRecDepth 100000 in
set_option maxHeartbeats 4000000 in
theorem w_undo {d : Nat} {h : xH} {Qf Q : Option Value → xH → Prop} {Xf : Nat → xH → Prop} (h0 : ∃ (l0 : List Int32) (vs : List Value), h[0]? = some (6, l0, vs)) (hE : Ev xT d N_B_undo [.ref 0] h Qf Xf) (hv : ∀ v h', Qf v h' → ∃ r : Int32, v = some (.int r) ∧ Q (some (.int r)) h') (hx : ∀ k h', Xf k h' → (k = 12 ∧ Q (some (.int (-103))) h')) :
    EvW d b_W_undo hb_undo N_B_undo 0 1 2 1 6 false [.ref 0] h Q := by
  intro K hK hC
  have hlt : 0 < h.length := by
    obtain ⟨_, _, h0⟩ := h0
    exact (List.getElem?_eq_some_iff.mp h0).1
  show K 0 [some (.ref 0), none] [] h 0 0
  refine hK 0 _ _ _ _ _ _ rfl (by decide) ?_
  dsimp only [k_W_undo_0, hN1, hB, wpI, xop, xcall, xli, xlj, xlf, xld, xla, xlg, xst, xst2, xc1, pI, pJ, pF, pD, pR, pA, p1, p0, xpop, xpush, xsm, xhas, xif, xic, xsw, xai, xal, xhi, xhv, xrf, xret, xrtl, xrtf, xrtd, xrta, xrtv, xfit, xnew, cond_true, cond_false, f40, f41, f42, f43, List.length_cons, List.length_nil, Nat.reduceAdd, Nat.reduceSub, Nat.reduceMul, Nat.reduceBEq, List.map_cons, List.map_nil, List.headD_cons, List.getElem?_cons_zero, List.getElem?_cons_succ, List.set_cons_zero, List.set_cons_succ]
  refine hC [some (.ref 0), none] [] [] h Qf Xf rfl (by decide) h0 ?_ ?_ ?_ hE ?_ ?_
  · simp only [xwL, wfv, true_and, and_true]; exact Or.inl hlt
  · exact trivial
  · intro j v hj
    have hj2 : j < 2 := (List.getElem?_eq_some_iff.mp hj).1
    have hj3 : j = 0 ∨ j = 1 := by omega
    rcases hj3 with rfl | rfl
    · obtain rfl := Option.some.inj (Option.some.inj hj)
      exact ⟨by decide, by simp [Value.category]⟩
    · exact nomatch hj
  · intro v h' q
    obtain ⟨r, rfl, hq⟩ := hv v h' q
    refine hK 2 _ _ _ _ _ _ rfl (by decide) ?_
    dsimp only [k_W_undo_2, hN1, hB, wpI, xop, xcall, xli, xlj, xlf, xld, xla, xlg, xst, xst2, xc1, pI, pJ, pF, pD, pR, pA, p1, p0, xpop, xpush, xsm, xhas, xif, xic, xsw, xai, xal, xhi, xhv, xrf, xret, xrtl, xrtf, xrtd, xrta, xrtv, xfit, xnew, cond_true, cond_false, f40, f41, f42, f43, List.length_cons, List.length_nil, Nat.reduceAdd, Nat.reduceSub, Nat.reduceMul, Nat.reduceBEq, List.map_cons, List.map_nil, List.headD_cons, List.getElem?_cons_zero, List.getElem?_cons_succ, List.set_cons_zero, List.set_cons_succ]
    exact ⟨Nat.le_refl _, Nat.le_refl _, hq⟩
  · intro k h' q
    obtain ⟨rfl, hq⟩ := hx k h' q
    refine ⟨3, rfl, ?_⟩
    refine hK 3 _ _ _ _ _ _ rfl (by decide) ?_
    dsimp only [k_W_undo_3, hN1, hB, wpI, xop, xcall, xli, xlj, xlf, xld, xla, xlg, xst, xst2, xc1, pI, pJ, pF, pD, pR, pA, p1, p0, xpop, xpush, xsm, xhas, xif, xic, xsw, xai, xal, xhi, xhv, xrf, xret, xrtl, xrtf, xrtd, xrta, xrtv, xfit, xnew, cond_true, cond_false, f40, f41, f42, f43, List.length_cons, List.length_nil, Nat.reduceAdd, Nat.reduceSub, Nat.reduceMul, Nat.reduceBEq, List.map_cons, List.map_nil, List.headD_cons, List.getElem?_cons_zero, List.getElem?_cons_succ, List.set_cons_zero, List.set_cons_succ]
    exact ⟨Nat.le_refl _, Nat.le_refl _, hq⟩
