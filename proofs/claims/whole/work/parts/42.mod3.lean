theorem bitsL_pop (m : Nat) (hm : m < 32768) : bitsL m 15 0 0 = pop m := by
  have key : ∀ (j k s : Nat), bitsL m j k s = s + (popN (k + j) m - popN k m) ∧ popN k m ≤ popN (k + j) m := by
    intro j
    induction j with
    | zero => intro k s; exact ⟨by rw [bitsL, Nat.add_zero]; omega, Nat.le_refl _⟩
    | succ j ih =>
      intro k s
      have h := ih (k + 1) (s + (m >>> k &&& 1))
      have e : popN (k + 1) m = popN k m + (m >>> k &&& 1) := rfl
      have e2 : k + 1 + j = k + (j + 1) := by omega
      rw [e2] at h
      rw [bitsL]
      omega
  have h := key 15 0 0
  have e : popN 0 m = 0 := rfl
  rw [h.1, Nat.zero_add, Nat.zero_add, e, Nat.sub_zero]
set_option maxRecDepth 100000 in
set_option maxHeartbeats 4000000 in
theorem ev_M_inRow (d m r : Nat) (h : xH) (hm : m < 32768) (hr : r < 5) : Ev xT (d + 2) N_M_inRow [.int (nI m), .int (nI r)] h (Rt (some (.int (nI (pop (bitsN m r))))) h) NX := by
  refine Ev_intro t_M_inRow (Nat.le_of_ble_eq_true rfl) ?_
  intro Q X hQ hX K hK
  show K 0 [some (.int (nI m)), some (.int (nI r))] [] _ 0 0
  have hq := hQ _ _ ⟨rfl, rfl⟩
  have hb := bitsN_lt (r := r) hm
  rw [← bitsL_pop _ hb] at hq
  have h1 := rs_lt r
  have h2 : 1 <<< (5 - r) < 2 ^ 6 := by
    rw [Nat.shiftLeft_eq, Nat.one_mul]
    exact Nat.pow_lt_pow_right (by decide) (by omega)
  have h3 : 1 ≤ 1 <<< (5 - r) := by rw [Nat.shiftLeft_eq, Nat.one_mul]; exact Nat.two_pow_pos _
  refine hK 0 _ _ _ _ _ _ _ _ rfl ?_
  dsimp only [k_M_inRow_0, hN1, hB, wpI, xop, xcall, xli, xlj, xlf, xld, xla, xlg, xst, xst2, xc1, pI, pJ, pF, pD, pR, pA, p1, p0, xpop, xpush, xsm, xhas, xif, xic, xsw, xai, xal, xhi, xhv, xrf, xret, xrtl, xrtf, xrtd, xrta, xrtv, xfit, xnew, cond_true, cond_false, f40, f41, f42, f43, List.length_cons, List.length_nil, Nat.reduceAdd, Nat.reduceSub, Nat.reduceMul, Nat.reduceBEq, List.map_cons, List.map_nil, List.headD_cons, List.getElem?_cons_zero, List.getElem?_cons_succ, List.set_cons_zero, List.set_cons_succ]
  refine Ev_use (ev_M_first _ r h hr) ?_
  dsimp only [hN1, hB, wpI, xop, xcall, xli, xlj, xlf, xld, xla, xlg, xst, xst2, xc1, pI, pJ, pF, pD, pR, pA, p1, p0, xpop, xpush, xsm, xhas, xif, xic, xsw, xai, xal, xhi, xhv, xrf, xret, xrtl, xrtf, xrtd, xrta, xrtv, xfit, xnew, cond_true, cond_false, f40, f41, f42, f43, List.length_cons, List.length_nil, Nat.reduceAdd, Nat.reduceSub, Nat.reduceMul, Nat.reduceBEq, List.map_cons, List.map_nil, List.headD_cons, List.getElem?_cons_zero, List.getElem?_cons_succ, List.set_cons_zero, List.set_cons_succ]
  try simp (disch := omega) only [nI_add, n_and, n_or, n_xor, n_i31, nI_leI, nI_ltI, n_e0, n_eq, n_m1e, n_l0, n_g0, n_p0, n_q0, n_cl, n_in, n_sub, n_shr, n_shl, n_div, bI_0, n_01, n_11, bI_or, not_false_eq_true, forall_const, not_true_eq_false, false_imp_iff, true_imp_iff]
  have e : m >>> rsN r &&& (1 <<< (5 - r) - 1) = bitsN m r := rfl
  rw [e]
  refine Ev_use (ev_M_bits _ _ h hb) ?_
  dsimp only [hN1, hB, wpI, xop, xcall, xli, xlj, xlf, xld, xla, xlg, xst, xst2, xc1, pI, pJ, pF, pD, pR, pA, p1, p0, xpop, xpush, xsm, xhas, xif, xic, xsw, xai, xal, xhi, xhv, xrf, xret, xrtl, xrtf, xrtd, xrta, xrtv, xfit, xnew, cond_true, cond_false, f40, f41, f42, f43, List.length_cons, List.length_nil, Nat.reduceAdd, Nat.reduceSub, Nat.reduceMul, Nat.reduceBEq, List.map_cons, List.map_nil, List.headD_cons, List.getElem?_cons_zero, List.getElem?_cons_succ, List.set_cons_zero, List.set_cons_succ]
  exact ⟨Nat.le_refl _, Nat.le_refl _, hq⟩
