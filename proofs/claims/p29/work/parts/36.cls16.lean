/-! ===== the class: wonShare ===== -/
theorem cW_le (T : xTb) (t : Nat) : ∀ (j i s : Nat), cW T t j i s ≤ s + j
  | 0, _, _ => Nat.le_refl _
  | j + 1, i, s => by
    have h := cW_le T t j (i + 1) (s + if T.1.getD (2 * i + t) false then 1 else 0)
    rw [cW]
    refine Nat.le_trans h ?_
    split <;> omega
def wsF (k : Nat) : UInt32 := FP.fdiv (FP.i2f (nI k)) (FP.i2f (nI 132))
theorem wsF_n {k : Nat} (h : k ≤ 132) : vf_n32 (wsF k) := by
  have key : (List.range 133).all (fun k => decide (wsF k &&& 0x7fffffff ≤ 0x7f800000)) = true := by decide +kernel
  exact of_decide_eq_true (p := wsF k &&& 0x7fffffff ≤ 0x7f800000) (List.all_eq_true.mp key k (List.mem_range.mpr (by omega)))
set_option maxRecDepth 100000 in
set_option maxHeartbeats 4000000 in
theorem ev_wonShare (d : Nat) (N V S C : List Nat) (P : List Value) (sv tl : Nat) (has : Bool) (g : xH) (ok : stN N) (gk : gOk P g) :
    Ev xT (d + 6) N_B_wonShare [.ref 0] (hB N V S C P sv tl has g) (clQ N V S C sv tl has g 0 (some (.float (wsF (cW (plN N) (N.getD 1 0) 132 0 0))))) NX := by
  refine Ev_intro t_B_wonShare (Nat.le_of_ble_eq_true rfl) ?_
  intro Q X hQ hX K hK
  show K 0 [some (.ref 0), none] [] _ 0 0
  have ok' := ok
  obtain ⟨hN, h0, h1, h3, h3', h4, h5⟩ := ok
  have hq := fun h' q => hQ (some (.float (wsF (cW (plN N) (N.getD 1 0) 132 0 0)))) h' ⟨rfl, rfl, q⟩
  have hw := wsF_n (cW_le (plN N) (N.getD 1 0) 132 0 0)
  refine hK 0 _ _ _ _ _ _ _ _ rfl ?_
  dsimp only [k_B_wonShare_0, hN1, hB, wpI, xop, xcall, xli, xlj, xlf, xld, xla, xlg, xst, xst2, xc1, pI, pJ, pF, pD, pR, pA, p1, p0, xpop, xpush, xsm, xhas, xif, xic, xsw, xrf, xret, xrtl, xrtf, xrtd, xrta, xrtv, xfit, xnew, cond_true, cond_false, f40, f41, f42, f43, List.length_cons, List.length_nil, Nat.reduceAdd, Nat.reduceSub, Nat.reduceMul, Nat.reduceBEq, List.map_cons, List.map_nil, List.headD_cons, List.getElem?_cons_zero, List.getElem?_cons_succ, List.set_cons_zero, List.set_cons_succ]
  refine xhv_of rfl ?_
  dsimp only [hN1, hB, wpI, xop, xcall, xli, xlj, xlf, xld, xla, xlg, xst, xst2, xc1, pI, pJ, pF, pD, pR, pA, p1, p0, xpop, xpush, xsm, xhas, xif, xic, xsw, xrf, xret, xrtl, xrtf, xrtd, xrta, xrtv, xfit, xnew, cond_true, cond_false, f40, f41, f42, f43, List.length_cons, List.length_nil, Nat.reduceAdd, Nat.reduceSub, Nat.reduceMul, Nat.reduceBEq, List.map_cons, List.map_nil, List.headD_cons, List.getElem?_cons_zero, List.getElem?_cons_succ, List.set_cons_zero, List.set_cons_succ]
  refine xal_of (by decide) rfl ?_
  rw [List.length_map, shapes_len]
  refine ⟨fun _ => ?_, fun z => absurd z (by decide)⟩
  refine hK 1 _ _ _ _ _ _ _ _ rfl ?_
  dsimp only [k_B_wonShare_1, hN1, hB, wpI, xop, xcall, xli, xlj, xlf, xld, xla, xlg, xst, xst2, xc1, pI, pJ, pF, pD, pR, pA, p1, p0, xpop, xpush, xsm, xhas, xif, xic, xsw, xrf, xret, xrtl, xrtf, xrtd, xrta, xrtv, xfit, xnew, cond_true, cond_false, f40, f41, f42, f43, List.length_cons, List.length_nil, Nat.reduceAdd, Nat.reduceSub, Nat.reduceMul, Nat.reduceBEq, List.map_cons, List.map_nil, List.headD_cons, List.getElem?_cons_zero, List.getElem?_cons_succ, List.set_cons_zero, List.set_cons_succ]
  refine ⟨by trivial, by decide, by decide, ⟨wr (by omega), trivial, trivial⟩, trivial, ?_⟩
  refine Ev_of (ev_play _ N V S C P sv tl has g ok' gk) ?_
  rintro v h' ⟨p, w, lg, sh, P', g', rfl, rfl, gk', pl, ex⟩
  dsimp only [hN1, hB, wpI, xop, xcall, xli, xlj, xlf, xld, xla, xlg, xst, xst2, xc1, pI, pJ, pF, pD, pR, pA, p1, p0, xpop, xpush, xsm, xhas, xif, xic, xsw, xrf, xret, xrtl, xrtf, xrtd, xrta, xrtv, xfit, xnew, cond_true, cond_false, f40, f41, f42, f43, List.length_cons, List.length_nil, Nat.reduceAdd, Nat.reduceSub, Nat.reduceMul, Nat.reduceBEq, List.map_cons, List.map_nil, List.headD_cons, List.getElem?_cons_zero, List.getElem?_cons_succ, List.set_cons_zero, List.set_cons_succ]
  refine xhv_of rfl ?_
  dsimp only [hN1, hB, wpI, xop, xcall, xli, xlj, xlf, xld, xla, xlg, xst, xst2, xc1, pI, pJ, pF, pD, pR, pA, p1, p0, xpop, xpush, xsm, xhas, xif, xic, xsw, xrf, xret, xrtl, xrtf, xrtd, xrta, xrtv, xfit, xnew, cond_true, cond_false, f40, f41, f42, f43, List.length_cons, List.length_nil, Nat.reduceAdd, Nat.reduceSub, Nat.reduceMul, Nat.reduceBEq, List.map_cons, List.map_nil, List.headD_cons, List.getElem?_cons_zero, List.getElem?_cons_succ, List.set_cons_zero, List.set_cons_succ]
  refine xai_of (by decide) rfl ?_
  try simp (disch := first | omega | (simp only [List.length_set]; omega)) only [nI_add, n_and, n_or, n_xor, n_i31, nI_leI, nI_ltI, n_e0, n_eq, n_m1e, n_l0, n_g0, n_p0, n_q0, n_cl, n_in, n_sub, n_shr, n_shl, n_div, bI_0, n_01, n_11, bI_or, not_false_eq_true, forall_const, not_true_eq_false, false_imp_iff, true_imp_iff, List.length_map, List.length_set, hN, nL_u, gs_eq, gs_ne, nI_set, Nat.reduceLT, true_and, and_true, pk_mul]
  refine xhv_of pl.obj ?_
  refine Ev_use (ev_shapesWonBy _ p 5 w lg sh _ _ _ _ _ _ pl h1) ?_
  refine ⟨hw, ?_⟩
  refine hK 2 _ _ _ _ _ _ _ _ rfl ?_
  dsimp only [k_B_wonShare_2, hN1, hB, wpI, xop, xcall, xli, xlj, xlf, xld, xla, xlg, xst, xst2, xc1, pI, pJ, pF, pD, pR, pA, p1, p0, xpop, xpush, xsm, xhas, xif, xic, xsw, xrf, xret, xrtl, xrtf, xrtd, xrta, xrtv, xfit, xnew, cond_true, cond_false, f40, f41, f42, f43, List.length_cons, List.length_nil, Nat.reduceAdd, Nat.reduceSub, Nat.reduceMul, Nat.reduceBEq, List.map_cons, List.map_nil, List.headD_cons, List.getElem?_cons_zero, List.getElem?_cons_succ, List.set_cons_zero, List.set_cons_succ]
  exact ⟨by decide, by decide, hq _ ⟨P', g', rfl, gk', ex⟩⟩
