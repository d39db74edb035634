/-! ===== Play: what lies behind a theft, and what is asked of the tables ===== -/
set_option maxRecDepth 100000 in
set_option maxHeartbeats 4000000 in
theorem ev_max (d a b : Nat) (h : xH) (ha : a < 2 ^ 31) (hb : b < 2 ^ 31) : Ev xT (d + 1) N_J_max [.int (nI a), .int (nI b)] h (Rt (some (.int (nI (max a b)))) h) NX := by
  refine Ev_intro t_J_max (Nat.le_of_ble_eq_true rfl) ?_
  intro Q X hQ hX K hK
  show K 0 [some (.int (nI a)), some (.int (nI b))] [] _ 0 0
  have hq := hQ _ _ ⟨rfl, rfl⟩
  refine hK 0 _ _ _ _ _ _ _ _ rfl ?_
  dsimp only [k_J_max_0, wpI, xop, xcall, xli, xlj, xlf, xld, xla, xlg, xst, xst2, xc1, pI, pJ, pF, pD, pR, pA, p1, p0, xpop, xpush, xsm, xhas, xif, xic, xsw, xai, xal, xhi, xhv, xrf, xret, xrtl, xrtf, xrtd, xrta, xrtv, xfit, xnew, cond_true, cond_false, f40, f41, f42, f43, List.length_cons, List.length_nil, Nat.reduceAdd, Nat.reduceSub, Nat.reduceMul, Nat.reduceBEq, List.map_cons, List.map_nil, List.headD_cons, List.getElem?_cons_zero, List.getElem?_cons_succ, List.set_cons_zero, List.set_cons_succ]
  try simp (disch := omega) only [nI_add, n_and, n_or, n_xor, n_i31, nI_leI, nI_ltI, n_e0, n_eq, n_m1e, n_l0, n_g0, n_p0, n_q0, n_cl, n_in, n_sub, n_shr, n_shl, n_div, bI_0, n_01, n_11, bI_or, not_false_eq_true, forall_const, not_true_eq_false, false_imp_iff, true_imp_iff]
  refine ⟨fun z => ?_, fun z => ?_⟩
  · rw [Nat.max_eq_right (by omega)] at hq
    refine hK 1 _ _ _ _ _ _ _ _ rfl ?_
    dsimp only [k_J_max_1, wpI, xop, xcall, xli, xlj, xlf, xld, xla, xlg, xst, xst2, xc1, pI, pJ, pF, pD, pR, pA, p1, p0, xpop, xpush, xsm, xhas, xif, xic, xsw, xai, xal, xhi, xhv, xrf, xret, xrtl, xrtf, xrtd, xrta, xrtv, xfit, xnew, cond_true, cond_false, f40, f41, f42, f43, List.length_cons, List.length_nil, Nat.reduceAdd, Nat.reduceSub, Nat.reduceMul, Nat.reduceBEq, List.map_cons, List.map_nil, List.headD_cons, List.getElem?_cons_zero, List.getElem?_cons_succ, List.set_cons_zero, List.set_cons_succ]
    refine hK 2 _ _ _ _ _ _ _ _ rfl ?_
    dsimp only [k_J_max_2, wpI, xop, xcall, xli, xlj, xlf, xld, xla, xlg, xst, xst2, xc1, pI, pJ, pF, pD, pR, pA, p1, p0, xpop, xpush, xsm, xhas, xif, xic, xsw, xai, xal, xhi, xhv, xrf, xret, xrtl, xrtf, xrtd, xrta, xrtv, xfit, xnew, cond_true, cond_false, f40, f41, f42, f43, List.length_cons, List.length_nil, Nat.reduceAdd, Nat.reduceSub, Nat.reduceMul, Nat.reduceBEq, List.map_cons, List.map_nil, List.headD_cons, List.getElem?_cons_zero, List.getElem?_cons_succ, List.set_cons_zero, List.set_cons_succ]
    exact ⟨Nat.le_refl _, Nat.le_refl _, hq⟩
  · rw [Nat.max_eq_left (by omega)] at hq
    refine hK 2 _ _ _ _ _ _ _ _ rfl ?_
    dsimp only [k_J_max_2, wpI, xop, xcall, xli, xlj, xlf, xld, xla, xlg, xst, xst2, xc1, pI, pJ, pF, pD, pR, pA, p1, p0, xpop, xpush, xsm, xhas, xif, xic, xsw, xai, xal, xhi, xhv, xrf, xret, xrtl, xrtf, xrtd, xrta, xrtv, xfit, xnew, cond_true, cond_false, f40, f41, f42, f43, List.length_cons, List.length_nil, Nat.reduceAdd, Nat.reduceSub, Nat.reduceMul, Nat.reduceBEq, List.map_cons, List.map_nil, List.headD_cons, List.getElem?_cons_zero, List.getElem?_cons_succ, List.set_cons_zero, List.set_cons_succ]
    exact ⟨Nat.le_refl _, Nat.le_refl _, hq⟩
set_option maxRecDepth 100000 in
set_option maxHeartbeats 4000000 in
theorem ev_min (d a b : Nat) (h : xH) (ha : a < 2 ^ 31) (hb : b < 2 ^ 31) : Ev xT (d + 1) N_J_min [.int (nI a), .int (nI b)] h (Rt (some (.int (nI (min a b)))) h) NX := by
  refine Ev_intro t_J_min (Nat.le_of_ble_eq_true rfl) ?_
  intro Q X hQ hX K hK
  show K 0 [some (.int (nI a)), some (.int (nI b))] [] _ 0 0
  have hq := hQ _ _ ⟨rfl, rfl⟩
  refine hK 0 _ _ _ _ _ _ _ _ rfl ?_
  dsimp only [k_J_min_0, wpI, xop, xcall, xli, xlj, xlf, xld, xla, xlg, xst, xst2, xc1, pI, pJ, pF, pD, pR, pA, p1, p0, xpop, xpush, xsm, xhas, xif, xic, xsw, xai, xal, xhi, xhv, xrf, xret, xrtl, xrtf, xrtd, xrta, xrtv, xfit, xnew, cond_true, cond_false, f40, f41, f42, f43, List.length_cons, List.length_nil, Nat.reduceAdd, Nat.reduceSub, Nat.reduceMul, Nat.reduceBEq, List.map_cons, List.map_nil, List.headD_cons, List.getElem?_cons_zero, List.getElem?_cons_succ, List.set_cons_zero, List.set_cons_succ]
  try simp (disch := omega) only [nI_add, n_and, n_or, n_xor, n_i31, nI_leI, nI_ltI, n_e0, n_eq, n_m1e, n_l0, n_g0, n_p0, n_q0, n_cl, n_in, n_sub, n_shr, n_shl, n_div, bI_0, n_01, n_11, bI_or, not_false_eq_true, forall_const, not_true_eq_false, false_imp_iff, true_imp_iff]
  refine ⟨fun z => ?_, fun z => ?_⟩
  · rw [Nat.min_eq_right (by omega)] at hq
    refine hK 1 _ _ _ _ _ _ _ _ rfl ?_
    dsimp only [k_J_min_1, wpI, xop, xcall, xli, xlj, xlf, xld, xla, xlg, xst, xst2, xc1, pI, pJ, pF, pD, pR, pA, p1, p0, xpop, xpush, xsm, xhas, xif, xic, xsw, xai, xal, xhi, xhv, xrf, xret, xrtl, xrtf, xrtd, xrta, xrtv, xfit, xnew, cond_true, cond_false, f40, f41, f42, f43, List.length_cons, List.length_nil, Nat.reduceAdd, Nat.reduceSub, Nat.reduceMul, Nat.reduceBEq, List.map_cons, List.map_nil, List.headD_cons, List.getElem?_cons_zero, List.getElem?_cons_succ, List.set_cons_zero, List.set_cons_succ]
    refine hK 2 _ _ _ _ _ _ _ _ rfl ?_
    dsimp only [k_J_min_2, wpI, xop, xcall, xli, xlj, xlf, xld, xla, xlg, xst, xst2, xc1, pI, pJ, pF, pD, pR, pA, p1, p0, xpop, xpush, xsm, xhas, xif, xic, xsw, xai, xal, xhi, xhv, xrf, xret, xrtl, xrtf, xrtd, xrta, xrtv, xfit, xnew, cond_true, cond_false, f40, f41, f42, f43, List.length_cons, List.length_nil, Nat.reduceAdd, Nat.reduceSub, Nat.reduceMul, Nat.reduceBEq, List.map_cons, List.map_nil, List.headD_cons, List.getElem?_cons_zero, List.getElem?_cons_succ, List.set_cons_zero, List.set_cons_succ]
    exact ⟨Nat.le_refl _, Nat.le_refl _, hq⟩
  · rw [Nat.min_eq_left (by omega)] at hq
    refine hK 2 _ _ _ _ _ _ _ _ rfl ?_
    dsimp only [k_J_min_2, wpI, xop, xcall, xli, xlj, xlf, xld, xla, xlg, xst, xst2, xc1, pI, pJ, pF, pD, pR, pA, p1, p0, xpop, xpush, xsm, xhas, xif, xic, xsw, xai, xal, xhi, xhv, xrf, xret, xrtl, xrtf, xrtd, xrta, xrtv, xfit, xnew, cond_true, cond_false, f40, f41, f42, f43, List.length_cons, List.length_nil, Nat.reduceAdd, Nat.reduceSub, Nat.reduceMul, Nat.reduceBEq, List.map_cons, List.map_nil, List.headD_cons, List.getElem?_cons_zero, List.getElem?_cons_succ, List.set_cons_zero, List.set_cons_succ]
    exact ⟨Nat.le_refl _, Nat.le_refl _, hq⟩
/-- the tables of a Play: won, longest, shortest -/
abbrev xTb : Type := List Bool × List Nat × List Nat
def PlA (h : xH) (p a w lg sh most : Nat) (bar wo : Bool) (T : xTb) : Prop :=
  h[p]? = some (5, [], [.ref a, .int (nI most), .int (bI bar), .int (bI wo), .ref w, .ref lg, .ref sh]) ∧
  h[a]? = some (0, shapesN.map nI, []) ∧
  h[w]? = some (2, T.1.map bI, []) ∧
  h[lg]? = some (0, T.2.1.map nI, []) ∧
  h[sh]? = some (0, T.2.2.map nI, []) ∧
  a < 1000 ∧
  lg < 1000 ∧
  sh < 1000 ∧
  T.1.length = 264 ∧
  T.2.1.length = 264 ∧
  T.2.2.length = 264
theorem PlA.obj {h : xH} {p a w lg sh most : Nat} {bar wo : Bool} {T : xTb} (x : PlA h p a w lg sh most bar wo T) : h[p]? = some (5, [], [.ref a, .int (nI most), .int (bI bar), .int (bI wo), .ref w, .ref lg, .ref sh]) := x.1
theorem PlA.shp {h : xH} {p a w lg sh most : Nat} {bar wo : Bool} {T : xTb} (x : PlA h p a w lg sh most bar wo T) : h[a]? = some (0, shapesN.map nI, []) := x.2.1
theorem PlA.won {h : xH} {p a w lg sh most : Nat} {bar wo : Bool} {T : xTb} (x : PlA h p a w lg sh most bar wo T) : h[w]? = some (2, T.1.map bI, []) := x.2.2.1
theorem PlA.lon {h : xH} {p a w lg sh most : Nat} {bar wo : Bool} {T : xTb} (x : PlA h p a w lg sh most bar wo T) : h[lg]? = some (0, T.2.1.map nI, []) := x.2.2.2.1
theorem PlA.sho {h : xH} {p a w lg sh most : Nat} {bar wo : Bool} {T : xTb} (x : PlA h p a w lg sh most bar wo T) : h[sh]? = some (0, T.2.2.map nI, []) := x.2.2.2.2.1
theorem PlA.la {h : xH} {p a w lg sh most : Nat} {bar wo : Bool} {T : xTb} (x : PlA h p a w lg sh most bar wo T) : a < 1000 := x.2.2.2.2.2.1
theorem PlA.ll {h : xH} {p a w lg sh most : Nat} {bar wo : Bool} {T : xTb} (x : PlA h p a w lg sh most bar wo T) : lg < 1000 := x.2.2.2.2.2.2.1
theorem PlA.ls {h : xH} {p a w lg sh most : Nat} {bar wo : Bool} {T : xTb} (x : PlA h p a w lg sh most bar wo T) : sh < 1000 := x.2.2.2.2.2.2.2.1
theorem PlA.n1 {h : xH} {p a w lg sh most : Nat} {bar wo : Bool} {T : xTb} (x : PlA h p a w lg sh most bar wo T) : T.1.length = 264 := x.2.2.2.2.2.2.2.2.1
theorem PlA.n2 {h : xH} {p a w lg sh most : Nat} {bar wo : Bool} {T : xTb} (x : PlA h p a w lg sh most bar wo T) : T.2.1.length = 264 := x.2.2.2.2.2.2.2.2.2.1
theorem PlA.n3 {h : xH} {p a w lg sh most : Nat} {bar wo : Bool} {T : xTb} (x : PlA h p a w lg sh most bar wo T) : T.2.2.length = 264 := x.2.2.2.2.2.2.2.2.2.2
theorem nL_at {l : List Nat} {i : Nat} (h : i < l.length) : (l.map nI).getD i 0 = nI (l.getD i 0) := by
  rw [List.getD_eq_getElem?_getD, List.getElem?_map, List.getD_eq_getElem?_getD, List.getElem?_eq_getElem h]
  rfl
theorem bL_at {l : List Bool} {i : Nat} (h : i < l.length) : (l.map bI).getD i 0 = bI (l.getD i false) := by
  rw [List.getD_eq_getElem?_getD, List.getElem?_map, List.getD_eq_getElem?_getD, List.getElem?_eq_getElem h]
  rfl
def sbO (bar : Bool) (t m r b : Nat) : Option Nat := if (robN m t r b).2 = 0 then
    (if bar = true ∧ settledN (robN m t r b).1 ≠ (robN m t r b).1 then none else (slotN (settledN (robN m t r b).1)).map fun i => 2 * i + (1 - t)) else none
def oI : Option Nat → Int32
  | some s => nI s
  | none => -1
theorem slotO_map (t : Nat) (o : Option Nat) : slotO t o = oI (o.map fun i => 2 * i + t) := by cases o <;> rfl
theorem slotN_lt {m i : Nat} (h : slotN m = some i) : i < 132 := (bsN_lt m 132 0 132 i (Nat.le_refl _) h).1
theorem sbO_lt {bar : Bool} {t m r b s : Nat} (h : sbO bar t m r b = some s) : s < 264 := by
  unfold sbO at h
  by_cases z : (robN m t r b).2 = 0
  · rw [if_pos z] at h
    by_cases z2 : bar = true ∧ settledN (robN m t r b).1 ≠ (robN m t r b).1
    · rw [if_pos z2] at h; simp at h
    · rw [if_neg z2] at h
      rw [Option.map_eq_some_iff] at h
      obtain ⟨i, e, rfl⟩ := h
      have := slotN_lt e
      omega
  · rw [if_neg z] at h; simp at h
set_option maxRecDepth 100000 in
set_option maxHeartbeats 4000000 in
theorem ev_slotBehind (d p a w lg sh most t m r b : Nat) (bar wo : Bool) (T : xTb) (h : xH) (pl : PlA h p a w lg sh most bar wo T) (ht : t < 2) (hm : m < 32768) (hr : r < 5) (hb : b < 100) :
    Ev xT (d + 2) N_L_slotBehind [.ref p, .int (nI t), .int (nI m), .int (nI r), .int (nI b)] h (Rt (some (.int (oI (sbO bar t m r b)))) h) NX := by
  refine Ev_intro t_L_slotBehind (Nat.le_of_ble_eq_true rfl) ?_
  intro Q X hQ hX K hK
  show K 0 [some (.ref p), some (.int (nI t)), some (.int (nI m)), some (.int (nI r)), some (.int (nI b)), none, none] [] _ 0 0
  have hq := hQ _ _ ⟨rfl, rfl⟩
  unfold sbO at hq
  have hl : (robN m t r b).1 < 32768 := rob_lt hm
  have hs := settled_lt hl
  refine hK 0 _ _ _ _ _ _ _ _ rfl ?_
  dsimp only [k_L_slotBehind_0, wpI, xop, xcall, xli, xlj, xlf, xld, xla, xlg, xst, xst2, xc1, pI, pJ, pF, pD, pR, pA, p1, p0, xpop, xpush, xsm, xhas, xif, xic, xsw, xrf, xret, xrtl, xrtf, xrtd, xrta, xrtv, xfit, xnew, cond_true, cond_false, f40, f41, f42, f43, List.length_cons, List.length_nil, Nat.reduceAdd, Nat.reduceSub, Nat.reduceMul, Nat.reduceBEq, List.map_cons, List.map_nil, List.headD_cons, List.getElem?_cons_zero, List.getElem?_cons_succ, List.set_cons_zero, List.set_cons_succ]
  refine Ev_use (ev_robbed _ m t r b h hm ht hr hb) ?_
  by_cases z : (robN m t r b).2 = 0
  · rw [if_pos z] at hq ⊢
    dsimp only [wpI, xop, xcall, xli, xlj, xlf, xld, xla, xlg, xst, xst2, xc1, pI, pJ, pF, pD, pR, pA, p1, p0, xpop, xpush, xsm, xhas, xif, xic, xsw, xrf, xret, xrtl, xrtf, xrtd, xrta, xrtv, xfit, xnew, cond_true, cond_false, f40, f41, f42, f43, List.length_cons, List.length_nil, Nat.reduceAdd, Nat.reduceSub, Nat.reduceMul, Nat.reduceBEq, List.map_cons, List.map_nil, List.headD_cons, List.getElem?_cons_zero, List.getElem?_cons_succ, List.set_cons_zero, List.set_cons_succ]
    refine ⟨fun _ => ?_, fun z2 => ((n_m1e (by omega)).mp z2).elim⟩
    refine hK 1 _ _ _ _ _ _ _ _ rfl ?_
    dsimp only [k_L_slotBehind_1, wpI, xop, xcall, xli, xlj, xlf, xld, xla, xlg, xst, xst2, xc1, pI, pJ, pF, pD, pR, pA, p1, p0, xpop, xpush, xsm, xhas, xif, xic, xsw, xrf, xret, xrtl, xrtf, xrtd, xrta, xrtv, xfit, xnew, cond_true, cond_false, f40, f41, f42, f43, List.length_cons, List.length_nil, Nat.reduceAdd, Nat.reduceSub, Nat.reduceMul, Nat.reduceBEq, List.map_cons, List.map_nil, List.headD_cons, List.getElem?_cons_zero, List.getElem?_cons_succ, List.set_cons_zero, List.set_cons_succ]
    refine Ev_use (ev_settled _ _ h hl) ?_
    dsimp only [wpI, xop, xcall, xli, xlj, xlf, xld, xla, xlg, xst, xst2, xc1, pI, pJ, pF, pD, pR, pA, p1, p0, xpop, xpush, xsm, xhas, xif, xic, xsw, xrf, xret, xrtl, xrtf, xrtd, xrta, xrtv, xfit, xnew, cond_true, cond_false, f40, f41, f42, f43, List.length_cons, List.length_nil, Nat.reduceAdd, Nat.reduceSub, Nat.reduceMul, Nat.reduceBEq, List.map_cons, List.map_nil, List.headD_cons, List.getElem?_cons_zero, List.getElem?_cons_succ, List.set_cons_zero, List.set_cons_succ]
    refine xhv_of pl.obj ?_
    dsimp only [wpI, xop, xcall, xli, xlj, xlf, xld, xla, xlg, xst, xst2, xc1, pI, pJ, pF, pD, pR, pA, p1, p0, xpop, xpush, xsm, xhas, xif, xic, xsw, xrf, xret, xrtl, xrtf, xrtd, xrta, xrtv, xfit, xnew, cond_true, cond_false, f40, f41, f42, f43, List.length_cons, List.length_nil, Nat.reduceAdd, Nat.reduceSub, Nat.reduceMul, Nat.reduceBEq, List.map_cons, List.map_nil, List.headD_cons, List.getElem?_cons_zero, List.getElem?_cons_succ, List.set_cons_zero, List.set_cons_succ]
    have go2 : Q (some (.int (oI ((slotN (settledN (robN m t r b).1)).map fun i => 2 * i + (1 - t))))) h → K 2 [some (.ref p), some (.int (nI t)), some (.int (nI m)), some (.int (nI r)), some (.int (nI b)), some (.int (nI (robN m t r b).1)), some (.int (nI (settledN (robN m t r b).1)))] [] h 0 0 := by
      intro hq
      refine hK 2 _ _ _ _ _ _ _ _ rfl ?_
      dsimp only [k_L_slotBehind_2, wpI, xop, xcall, xli, xlj, xlf, xld, xla, xlg, xst, xst2, xc1, pI, pJ, pF, pD, pR, pA, p1, p0, xpop, xpush, xsm, xhas, xif, xic, xsw, xrf, xret, xrtl, xrtf, xrtd, xrta, xrtv, xfit, xnew, cond_true, cond_false, f40, f41, f42, f43, List.length_cons, List.length_nil, Nat.reduceAdd, Nat.reduceSub, Nat.reduceMul, Nat.reduceBEq, List.map_cons, List.map_nil, List.headD_cons, List.getElem?_cons_zero, List.getElem?_cons_succ, List.set_cons_zero, List.set_cons_succ]
      try simp (disch := omega) only [nI_add, n_and, n_or, n_xor, n_i31, nI_leI, nI_ltI, n_e0, n_eq, n_m1e, n_l0, n_g0, n_p0, n_q0, n_cl, n_in, n_sub, n_shr, n_shl, n_div, bI_0, n_01, n_11, bI_or, not_false_eq_true, forall_const, not_true_eq_false, false_imp_iff, true_imp_iff]
      refine xhv_of pl.obj ?_
      refine Ev_use (ev_slotOf _ p a (1 - t) _ h _ pl.obj pl.shp pl.la (by omega) hs) ?_
      unfold slotI
      rw [slotO_map]
      dsimp only [wpI, xop, xcall, xli, xlj, xlf, xld, xla, xlg, xst, xst2, xc1, pI, pJ, pF, pD, pR, pA, p1, p0, xpop, xpush, xsm, xhas, xif, xic, xsw, xrf, xret, xrtl, xrtf, xrtd, xrta, xrtv, xfit, xnew, cond_true, cond_false, f40, f41, f42, f43, List.length_cons, List.length_nil, Nat.reduceAdd, Nat.reduceSub, Nat.reduceMul, Nat.reduceBEq, List.map_cons, List.map_nil, List.headD_cons, List.getElem?_cons_zero, List.getElem?_cons_succ, List.set_cons_zero, List.set_cons_succ]
      refine hK 3 _ _ _ _ _ _ _ _ rfl ?_
      dsimp only [k_L_slotBehind_3, wpI, xop, xcall, xli, xlj, xlf, xld, xla, xlg, xst, xst2, xc1, pI, pJ, pF, pD, pR, pA, p1, p0, xpop, xpush, xsm, xhas, xif, xic, xsw, xrf, xret, xrtl, xrtf, xrtd, xrta, xrtv, xfit, xnew, cond_true, cond_false, f40, f41, f42, f43, List.length_cons, List.length_nil, Nat.reduceAdd, Nat.reduceSub, Nat.reduceMul, Nat.reduceBEq, List.map_cons, List.map_nil, List.headD_cons, List.getElem?_cons_zero, List.getElem?_cons_succ, List.set_cons_zero, List.set_cons_succ]
      exact ⟨Nat.le_refl _, Nat.le_refl _, hq⟩
    cases bar with
    | false =>
      refine ⟨fun _ => ?_, fun z2 => (z2 rfl).elim⟩
      rw [if_neg (by simp)] at hq
      exact go2 hq
    | true =>
      refine ⟨fun z2 => ?_, fun _ => ?_⟩
      · exact absurd z2 (by decide)
      · try simp (disch := omega) only [nI_add, n_and, n_or, n_xor, n_i31, nI_leI, nI_ltI, n_e0, n_eq, n_m1e, n_l0, n_g0, n_p0, n_q0, n_cl, n_in, n_sub, n_shr, n_shl, n_div, bI_0, n_01, n_11, bI_or, not_false_eq_true, forall_const, not_true_eq_false, false_imp_iff, true_imp_iff]
        refine ⟨fun z3 => ?_, fun z3 => ?_⟩
        · rw [if_neg (by rintro ⟨_, z4⟩; exact z4 z3)] at hq
          exact go2 hq
        · rw [if_pos ⟨rfl, z3⟩] at hq
          refine hK 3 _ _ _ _ _ _ _ _ rfl ?_
          dsimp only [k_L_slotBehind_3, wpI, xop, xcall, xli, xlj, xlf, xld, xla, xlg, xst, xst2, xc1, pI, pJ, pF, pD, pR, pA, p1, p0, xpop, xpush, xsm, xhas, xif, xic, xsw, xrf, xret, xrtl, xrtf, xrtd, xrta, xrtv, xfit, xnew, cond_true, cond_false, f40, f41, f42, f43, List.length_cons, List.length_nil, Nat.reduceAdd, Nat.reduceSub, Nat.reduceMul, Nat.reduceBEq, List.map_cons, List.map_nil, List.headD_cons, List.getElem?_cons_zero, List.getElem?_cons_succ, List.set_cons_zero, List.set_cons_succ]
          exact ⟨Nat.le_refl _, Nat.le_refl _, hq⟩
  · rw [if_neg z] at hq ⊢
    dsimp only [wpI, xop, xcall, xli, xlj, xlf, xld, xla, xlg, xst, xst2, xc1, pI, pJ, pF, pD, pR, pA, p1, p0, xpop, xpush, xsm, xhas, xif, xic, xsw, xrf, xret, xrtl, xrtf, xrtd, xrta, xrtv, xfit, xnew, cond_true, cond_false, f40, f41, f42, f43, List.length_cons, List.length_nil, Nat.reduceAdd, Nat.reduceSub, Nat.reduceMul, Nat.reduceBEq, List.map_cons, List.map_nil, List.headD_cons, List.getElem?_cons_zero, List.getElem?_cons_succ, List.set_cons_zero, List.set_cons_succ]
    refine ⟨fun z => (z rfl).elim, fun _ => ?_⟩
    exact ⟨Nat.le_refl _, Nat.le_refl _, hq⟩
