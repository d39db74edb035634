/-! what falls -/
theorem stl_lt : ∀ (j i l b m : Nat), l < 32768 → m < 32768 → stl m j i l b < 32768
  | 0, _, _, _, _, h, _ => h
  | j + 1, i, l, b, m, h, hm => stl_lt j _ _ _ m (Nat.or_lt_two_pow (n := 15) h (Nat.lt_of_le_of_lt (sh_le m (rsN i) _ _) hm)) hm
theorem settled_lt {m : Nat} (h : m < 32768) : settledN m < 32768 := stl_lt _ _ _ _ _ (Nat.lt_of_le_of_lt Nat.and_le_left h) h
theorem popN_mono (a b : Nat) (h : a &&& b = a) : ∀ k, popN k a ≤ popN k b
  | 0 => Nat.le_refl _
  | k + 1 => by
    have ih := popN_mono a b h k
    have e : a >>> k &&& 1 ≤ b >>> k &&& 1 := by
      rw [← h, Nat.shiftRight_and_distrib, Nat.and_assoc]
      exact Nat.and_le_right
    exact Nat.add_le_add ih e
theorem sh_sub (m r x y : Nat) : ((m >>> r &&& x &&& y) <<< r) &&& m = (m >>> r &&& x &&& y) <<< r := by
  apply Nat.eq_of_testBit_eq
  intro i
  simp only [Nat.testBit_and, Nat.testBit_shiftLeft, Nat.testBit_shiftRight]
  by_cases hi : r ≤ i
  · rw [Nat.add_sub_cancel' hi]
    cases m.testBit i <;> simp
  · simp [hi]
theorem stl_sub : ∀ (j i l b m : Nat), l &&& m = l → stl m j i l b &&& m = stl m j i l b
  | 0, _, _, _, _, h => h
  | j + 1, i, l, b, m, h => stl_sub j _ _ _ m (by rw [Nat.and_or_distrib_right, h, sh_sub])
theorem settled_sub (m : Nat) : settledN m &&& m = settledN m := stl_sub _ _ _ _ _ (by rw [Nat.and_assoc, Nat.and_comm 31 m, ← Nat.and_assoc, Nat.and_self])
theorem pop_settled (m : Nat) : pop (settledN m) ≤ pop m := popN_mono _ _ (settled_sub m) 15
theorem pop_le {m : Nat} (h : m < 32768) : pop m ≤ 15 := by
  have key : (List.range 32768).all (fun n => Nat.ble (pop n) 15) = true := by decide +kernel
  exact Nat.le_of_ble_eq_true (List.all_eq_true.mp key m (List.mem_range.mpr h))
def fallI (m t r b : Nat) : Int32 := if (robN m t r b).2 = 0 then nI (pop (robN m t r b).1 - pop (settledN (robN m t r b).1)) else -1
set_option maxRecDepth 100000 in
set_option maxHeartbeats 4000000 in
theorem ev_fallenBy (d m t r b : Nat) (h : xH) (hm : m < 32768) (ht : t < 2) (hr : r < 5) (hb : b < 100) : Ev xT (d + 2) N_P_fallenBy [.int (nI m), .int (nI t), .int (nI r), .int (nI b)] h (Rt (some (.int (fallI m t r b))) h) NX := by
  refine Ev_intro t_P_fallenBy (Nat.le_of_ble_eq_true rfl) ?_
  intro Q X hQ hX K hK
  show K 0 [some (.int (nI m)), some (.int (nI t)), some (.int (nI r)), some (.int (nI b)), none] [] _ 0 0
  have hq := hQ _ _ ⟨rfl, rfl⟩
  unfold fallI at hq
  have hl : (robN m t r b).1 < 32768 := rob_lt hm
  have hs := settled_lt hl
  have hp := pop_settled (robN m t r b).1
  have hp2 := pop_le hl
  refine hK 0 _ _ _ _ _ _ _ _ rfl ?_
  dsimp only [k_P_fallenBy_0, wpI, xop, xcall, xli, xlj, xlf, xld, xla, xlg, xst, xst2, xc1, pI, pJ, pF, pD, pR, pA, p1, p0, xpop, xpush, xsm, xhas, xif, xic, xsw, xai, xal, xhi, xhv, xrf, xret, xrtl, xrtf, xrtd, xrta, xrtv, xfit, xnew, cond_true, cond_false, f40, f41, f42, f43, List.length_cons, List.length_nil, Nat.reduceAdd, Nat.reduceSub, Nat.reduceMul, Nat.reduceBEq, List.map_cons, List.map_nil, List.headD_cons, List.getElem?_cons_zero, List.getElem?_cons_succ, List.set_cons_zero, List.set_cons_succ]
  refine Ev_use (ev_robbed _ m t r b h hm ht hr hb) ?_
  dsimp only [wpI, xop, xcall, xli, xlj, xlf, xld, xla, xlg, xst, xst2, xc1, pI, pJ, pF, pD, pR, pA, p1, p0, xpop, xpush, xsm, xhas, xif, xic, xsw, xai, xal, xhi, xhv, xrf, xret, xrtl, xrtf, xrtd, xrta, xrtv, xfit, xnew, cond_true, cond_false, f40, f41, f42, f43, List.length_cons, List.length_nil, Nat.reduceAdd, Nat.reduceSub, Nat.reduceMul, Nat.reduceBEq, List.map_cons, List.map_nil, List.headD_cons, List.getElem?_cons_zero, List.getElem?_cons_succ, List.set_cons_zero, List.set_cons_succ]
  by_cases z : (robN m t r b).2 = 0
  · rw [if_pos z] at hq ⊢
    simp (disch := omega) only [nI_add, n_and, n_or, n_xor, n_i31, nI_leI, nI_ltI, n_e0, n_eq, n_m1e, n_l0, n_g0, n_p0, n_q0, n_cl, n_in, n_sub, n_shr, n_shl, n_div, bI_0, n_01, n_11, bI_or, not_false_eq_true, forall_const, not_true_eq_false, false_imp_iff, true_imp_iff]
    refine ⟨?_, trivial⟩
    refine hK 1 _ _ _ _ _ _ _ _ rfl ?_
    dsimp only [k_P_fallenBy_1, wpI, xop, xcall, xli, xlj, xlf, xld, xla, xlg, xst, xst2, xc1, pI, pJ, pF, pD, pR, pA, p1, p0, xpop, xpush, xsm, xhas, xif, xic, xsw, xai, xal, xhi, xhv, xrf, xret, xrtl, xrtf, xrtd, xrta, xrtv, xfit, xnew, cond_true, cond_false, f40, f41, f42, f43, List.length_cons, List.length_nil, Nat.reduceAdd, Nat.reduceSub, Nat.reduceMul, Nat.reduceBEq, List.map_cons, List.map_nil, List.headD_cons, List.getElem?_cons_zero, List.getElem?_cons_succ, List.set_cons_zero, List.set_cons_succ]
    refine Ev_use (ev_bitCount _ _ h hl) ?_
    dsimp only [wpI, xop, xcall, xli, xlj, xlf, xld, xla, xlg, xst, xst2, xc1, pI, pJ, pF, pD, pR, pA, p1, p0, xpop, xpush, xsm, xhas, xif, xic, xsw, xai, xal, xhi, xhv, xrf, xret, xrtl, xrtf, xrtd, xrta, xrtv, xfit, xnew, cond_true, cond_false, f40, f41, f42, f43, List.length_cons, List.length_nil, Nat.reduceAdd, Nat.reduceSub, Nat.reduceMul, Nat.reduceBEq, List.map_cons, List.map_nil, List.headD_cons, List.getElem?_cons_zero, List.getElem?_cons_succ, List.set_cons_zero, List.set_cons_succ]
    refine Ev_use (ev_settled _ _ h hl) ?_
    dsimp only [wpI, xop, xcall, xli, xlj, xlf, xld, xla, xlg, xst, xst2, xc1, pI, pJ, pF, pD, pR, pA, p1, p0, xpop, xpush, xsm, xhas, xif, xic, xsw, xai, xal, xhi, xhv, xrf, xret, xrtl, xrtf, xrtd, xrta, xrtv, xfit, xnew, cond_true, cond_false, f40, f41, f42, f43, List.length_cons, List.length_nil, Nat.reduceAdd, Nat.reduceSub, Nat.reduceMul, Nat.reduceBEq, List.map_cons, List.map_nil, List.headD_cons, List.getElem?_cons_zero, List.getElem?_cons_succ, List.set_cons_zero, List.set_cons_succ]
    refine Ev_use (ev_bitCount _ _ h hs) ?_
    dsimp only [wpI, xop, xcall, xli, xlj, xlf, xld, xla, xlg, xst, xst2, xc1, pI, pJ, pF, pD, pR, pA, p1, p0, xpop, xpush, xsm, xhas, xif, xic, xsw, xai, xal, xhi, xhv, xrf, xret, xrtl, xrtf, xrtd, xrta, xrtv, xfit, xnew, cond_true, cond_false, f40, f41, f42, f43, List.length_cons, List.length_nil, Nat.reduceAdd, Nat.reduceSub, Nat.reduceMul, Nat.reduceBEq, List.map_cons, List.map_nil, List.headD_cons, List.getElem?_cons_zero, List.getElem?_cons_succ, List.set_cons_zero, List.set_cons_succ]
    simp (disch := omega) only [nI_add, n_and, n_or, n_xor, n_i31, nI_leI, nI_ltI, n_e0, n_eq, n_m1e, n_l0, n_g0, n_p0, n_q0, n_cl, n_in, n_sub, n_shr, n_shl, n_div, bI_0, n_01, n_11, bI_or, not_false_eq_true, forall_const, not_true_eq_false, false_imp_iff, true_imp_iff]
    refine hK 2 _ _ _ _ _ _ _ _ rfl ?_
    dsimp only [k_P_fallenBy_2, wpI, xop, xcall, xli, xlj, xlf, xld, xla, xlg, xst, xst2, xc1, pI, pJ, pF, pD, pR, pA, p1, p0, xpop, xpush, xsm, xhas, xif, xic, xsw, xai, xal, xhi, xhv, xrf, xret, xrtl, xrtf, xrtd, xrta, xrtv, xfit, xnew, cond_true, cond_false, f40, f41, f42, f43, List.length_cons, List.length_nil, Nat.reduceAdd, Nat.reduceSub, Nat.reduceMul, Nat.reduceBEq, List.map_cons, List.map_nil, List.headD_cons, List.getElem?_cons_zero, List.getElem?_cons_succ, List.set_cons_zero, List.set_cons_succ]
    exact ⟨Nat.le_refl _, Nat.le_refl _, hq⟩
  · rw [if_neg z] at hq ⊢
    refine ⟨fun z => (z rfl).elim, fun z => ?_⟩
    refine hK 2 _ _ _ _ _ _ _ _ rfl ?_
    dsimp only [k_P_fallenBy_2, wpI, xop, xcall, xli, xlj, xlf, xld, xla, xlg, xst, xst2, xc1, pI, pJ, pF, pD, pR, pA, p1, p0, xpop, xpush, xsm, xhas, xif, xic, xsw, xai, xal, xhi, xhv, xrf, xret, xrtl, xrtf, xrtd, xrta, xrtv, xfit, xnew, cond_true, cond_false, f40, f41, f42, f43, List.length_cons, List.length_nil, Nat.reduceAdd, Nat.reduceSub, Nat.reduceMul, Nat.reduceBEq, List.map_cons, List.map_nil, List.headD_cons, List.getElem?_cons_zero, List.getElem?_cons_succ, List.set_cons_zero, List.set_cons_succ]
    exact ⟨Nat.le_refl _, Nat.le_refl _, hq⟩
/-! mirrored -/
def mirP (m r : Nat) : Nat → Nat → Nat → Nat
  | 0, _, a => a
  | j + 1, p, a => mirP m r j (p + 1) (if hasN m r p then a ||| 1 <<< (rsN r + (4 - r - p)) else a)
def mirR (m : Nat) : Nat → Nat → Nat → Nat
  | 0, _, a => a
  | j + 1, r, a => mirR m j (r + 1) (mirP m r (5 - r) 0 a)
def mirN (m : Nat) : Nat := mirR m 5 0 0
set_option maxRecDepth 100000 in
set_option maxHeartbeats 4000000 in
theorem ev_mirrored (d m : Nat) (h : xH) (hm : m < 32768) : Ev xT (d + 3) N_P_mirrored [.int (nI m)] h (Rt (some (.int (nI (mirN m)))) h) NX := by
  refine Ev_intro t_P_mirrored (Nat.le_of_ble_eq_true rfl) ?_
  intro Q X hQ hX K hK
  show K 0 [some (.int (nI m)), none, none, none] [] _ 0 0
  have loop2 : ∀ (j p r a : Nat), r < 5 → p + j = 5 - r → (∀ L3, K 4 [some (.int (nI m)), some (.int (nI (mirP m r j p a))), some (.int (nI r)), L3] [] h 0 0) → K 2 [some (.int (nI m)), some (.int (nI a)), some (.int (nI r)), some (.int (nI p))] [] h 0 0 := by
    intro j
    induction j with
    | zero =>
      intro p r a hr hp hk
      refine hK 2 _ _ _ _ _ _ _ _ rfl ?_
      dsimp only [k_P_mirrored_2, wpI, xop, xcall, xli, xlj, xlf, xld, xla, xlg, xst, xst2, xc1, pI, pJ, pF, pD, pR, pA, p1, p0, xpop, xpush, xsm, xhas, xif, xic, xsw, xai, xal, xhi, xhv, xrf, xret, xrtl, xrtf, xrtd, xrta, xrtv, xfit, xnew, cond_true, cond_false, f40, f41, f42, f43, List.length_cons, List.length_nil, Nat.reduceAdd, Nat.reduceSub, Nat.reduceMul, Nat.reduceBEq, List.map_cons, List.map_nil, List.headD_cons, List.getElem?_cons_zero, List.getElem?_cons_succ, List.set_cons_zero, List.set_cons_succ]
      simp (disch := omega) only [nI_add, n_and, n_or, n_xor, n_i31, nI_leI, nI_ltI, n_e0, n_eq, n_m1e, n_l0, n_g0, n_p0, n_q0, n_cl, n_in, n_sub, n_shr, n_shl, n_div, bI_0, n_01, n_11, bI_or, not_false_eq_true, forall_const, not_true_eq_false, false_imp_iff, true_imp_iff]
      exact br_t (by omega) (hk _)
    | succ j ih =>
      intro p r a hr hp hk
      refine hK 2 _ _ _ _ _ _ _ _ rfl ?_
      dsimp only [k_P_mirrored_2, wpI, xop, xcall, xli, xlj, xlf, xld, xla, xlg, xst, xst2, xc1, pI, pJ, pF, pD, pR, pA, p1, p0, xpop, xpush, xsm, xhas, xif, xic, xsw, xai, xal, xhi, xhv, xrf, xret, xrtl, xrtf, xrtd, xrta, xrtv, xfit, xnew, cond_true, cond_false, f40, f41, f42, f43, List.length_cons, List.length_nil, Nat.reduceAdd, Nat.reduceSub, Nat.reduceMul, Nat.reduceBEq, List.map_cons, List.map_nil, List.headD_cons, List.getElem?_cons_zero, List.getElem?_cons_succ, List.set_cons_zero, List.set_cons_succ]
      simp (disch := omega) only [nI_add, n_and, n_or, n_xor, n_i31, nI_leI, nI_ltI, n_e0, n_eq, n_m1e, n_l0, n_g0, n_p0, n_q0, n_cl, n_in, n_sub, n_shr, n_shl, n_div, bI_0, n_01, n_11, bI_or, not_false_eq_true, forall_const, not_true_eq_false, false_imp_iff, true_imp_iff]
      refine br_f (by omega) ?_
      refine Ev_use (ev_hasBottle _ m r p h hm hr (by omega)) ?_
      dsimp only [wpI, xop, xcall, xli, xlj, xlf, xld, xla, xlg, xst, xst2, xc1, pI, pJ, pF, pD, pR, pA, p1, p0, xpop, xpush, xsm, xhas, xif, xic, xsw, xai, xal, xhi, xhv, xrf, xret, xrtl, xrtf, xrtd, xrta, xrtv, xfit, xnew, cond_true, cond_false, f40, f41, f42, f43, List.length_cons, List.length_nil, Nat.reduceAdd, Nat.reduceSub, Nat.reduceMul, Nat.reduceBEq, List.map_cons, List.map_nil, List.headD_cons, List.getElem?_cons_zero, List.getElem?_cons_succ, List.set_cons_zero, List.set_cons_succ]
      simp (disch := omega) only [nI_add, n_and, n_or, n_xor, n_i31, nI_leI, nI_ltI, n_e0, n_eq, n_m1e, n_l0, n_g0, n_p0, n_q0, n_cl, n_in, n_sub, n_shr, n_shl, n_div, bI_0, n_01, n_11, bI_or, not_false_eq_true, forall_const, not_true_eq_false, false_imp_iff, true_imp_iff]
      unfold mirP at hk
      refine ⟨fun z => ?_, fun z => ?_⟩
      · simp only [z, Bool.false_eq_true, if_false] at hk
        refine hK 3 _ _ _ _ _ _ _ _ rfl ?_
        dsimp only [k_P_mirrored_3, wpI, xop, xcall, xli, xlj, xlf, xld, xla, xlg, xst, xst2, xc1, pI, pJ, pF, pD, pR, pA, p1, p0, xpop, xpush, xsm, xhas, xif, xic, xsw, xai, xal, xhi, xhv, xrf, xret, xrtl, xrtf, xrtd, xrta, xrtv, xfit, xnew, cond_true, cond_false, f40, f41, f42, f43, List.length_cons, List.length_nil, Nat.reduceAdd, Nat.reduceSub, Nat.reduceMul, Nat.reduceBEq, List.map_cons, List.map_nil, List.headD_cons, List.getElem?_cons_zero, List.getElem?_cons_succ, List.set_cons_zero, List.set_cons_succ]
        simp (disch := omega) only [nI_add, n_and, n_or, n_xor, n_i31, nI_leI, nI_ltI, n_e0, n_eq, n_m1e, n_l0, n_g0, n_p0, n_q0, n_cl, n_in, n_sub, n_shr, n_shl, n_div, bI_0, n_01, n_11, bI_or, not_false_eq_true, forall_const, not_true_eq_false, false_imp_iff, true_imp_iff]
        exact ih (p + 1) r a hr (by omega) hk
      · simp only [b_nf z, if_true] at hk
        refine Ev_use (ev_bit _ r (4 - r - p) h hr (by omega)) ?_
        dsimp only [wpI, xop, xcall, xli, xlj, xlf, xld, xla, xlg, xst, xst2, xc1, pI, pJ, pF, pD, pR, pA, p1, p0, xpop, xpush, xsm, xhas, xif, xic, xsw, xai, xal, xhi, xhv, xrf, xret, xrtl, xrtf, xrtd, xrta, xrtv, xfit, xnew, cond_true, cond_false, f40, f41, f42, f43, List.length_cons, List.length_nil, Nat.reduceAdd, Nat.reduceSub, Nat.reduceMul, Nat.reduceBEq, List.map_cons, List.map_nil, List.headD_cons, List.getElem?_cons_zero, List.getElem?_cons_succ, List.set_cons_zero, List.set_cons_succ]
        simp (disch := omega) only [nI_add, n_and, n_or, n_xor, n_i31, nI_leI, nI_ltI, n_e0, n_eq, n_m1e, n_l0, n_g0, n_p0, n_q0, n_cl, n_in, n_sub, n_shr, n_shl, n_div, bI_0, n_01, n_11, bI_or, not_false_eq_true, forall_const, not_true_eq_false, false_imp_iff, true_imp_iff]
        refine hK 3 _ _ _ _ _ _ _ _ rfl ?_
        dsimp only [k_P_mirrored_3, wpI, xop, xcall, xli, xlj, xlf, xld, xla, xlg, xst, xst2, xc1, pI, pJ, pF, pD, pR, pA, p1, p0, xpop, xpush, xsm, xhas, xif, xic, xsw, xai, xal, xhi, xhv, xrf, xret, xrtl, xrtf, xrtd, xrta, xrtv, xfit, xnew, cond_true, cond_false, f40, f41, f42, f43, List.length_cons, List.length_nil, Nat.reduceAdd, Nat.reduceSub, Nat.reduceMul, Nat.reduceBEq, List.map_cons, List.map_nil, List.headD_cons, List.getElem?_cons_zero, List.getElem?_cons_succ, List.set_cons_zero, List.set_cons_succ]
        simp (disch := omega) only [nI_add, n_and, n_or, n_xor, n_i31, nI_leI, nI_ltI, n_e0, n_eq, n_m1e, n_l0, n_g0, n_p0, n_q0, n_cl, n_in, n_sub, n_shr, n_shl, n_div, bI_0, n_01, n_11, bI_or, not_false_eq_true, forall_const, not_true_eq_false, false_imp_iff, true_imp_iff]
        exact ih (p + 1) r _ hr (by omega) hk
  have loop1 : ∀ (j r a : Nat) (L3 : Option Value), r + j = 5 → Q (some (.int (nI (mirR m j r a)))) h → K 1 [some (.int (nI m)), some (.int (nI a)), some (.int (nI r)), L3] [] h 0 0 := by
    intro j
    induction j with
    | zero =>
      intro r a L3 hr hq
      obtain rfl : r = 5 := by omega
      refine hK 1 _ _ _ _ _ _ _ _ rfl ?_
      dsimp only [k_P_mirrored_1, wpI, xop, xcall, xli, xlj, xlf, xld, xla, xlg, xst, xst2, xc1, pI, pJ, pF, pD, pR, pA, p1, p0, xpop, xpush, xsm, xhas, xif, xic, xsw, xai, xal, xhi, xhv, xrf, xret, xrtl, xrtf, xrtd, xrta, xrtv, xfit, xnew, cond_true, cond_false, f40, f41, f42, f43, List.length_cons, List.length_nil, Nat.reduceAdd, Nat.reduceSub, Nat.reduceMul, Nat.reduceBEq, List.map_cons, List.map_nil, List.headD_cons, List.getElem?_cons_zero, List.getElem?_cons_succ, List.set_cons_zero, List.set_cons_succ]
      refine br_t (by decide) ?_
      refine hK 5 _ _ _ _ _ _ _ _ rfl ?_
      dsimp only [k_P_mirrored_5, wpI, xop, xcall, xli, xlj, xlf, xld, xla, xlg, xst, xst2, xc1, pI, pJ, pF, pD, pR, pA, p1, p0, xpop, xpush, xsm, xhas, xif, xic, xsw, xai, xal, xhi, xhv, xrf, xret, xrtl, xrtf, xrtd, xrta, xrtv, xfit, xnew, cond_true, cond_false, f40, f41, f42, f43, List.length_cons, List.length_nil, Nat.reduceAdd, Nat.reduceSub, Nat.reduceMul, Nat.reduceBEq, List.map_cons, List.map_nil, List.headD_cons, List.getElem?_cons_zero, List.getElem?_cons_succ, List.set_cons_zero, List.set_cons_succ]
      exact ⟨Nat.le_refl _, Nat.le_refl _, hq⟩
    | succ j ih =>
      intro r a L3 hr hq
      unfold mirR at hq
      refine hK 1 _ _ _ _ _ _ _ _ rfl ?_
      dsimp only [k_P_mirrored_1, wpI, xop, xcall, xli, xlj, xlf, xld, xla, xlg, xst, xst2, xc1, pI, pJ, pF, pD, pR, pA, p1, p0, xpop, xpush, xsm, xhas, xif, xic, xsw, xai, xal, xhi, xhv, xrf, xret, xrtl, xrtf, xrtd, xrta, xrtv, xfit, xnew, cond_true, cond_false, f40, f41, f42, f43, List.length_cons, List.length_nil, Nat.reduceAdd, Nat.reduceSub, Nat.reduceMul, Nat.reduceBEq, List.map_cons, List.map_nil, List.headD_cons, List.getElem?_cons_zero, List.getElem?_cons_succ, List.set_cons_zero, List.set_cons_succ]
      simp (disch := omega) only [nI_add, n_and, n_or, n_xor, n_i31, nI_leI, nI_ltI, n_e0, n_eq, n_m1e, n_l0, n_g0, n_p0, n_q0, n_cl, n_in, n_sub, n_shr, n_shl, n_div, bI_0, n_01, n_11, bI_or, not_false_eq_true, forall_const, not_true_eq_false, false_imp_iff, true_imp_iff]
      refine br_f (by omega) ?_
      refine loop2 (5 - r) 0 r a (by omega) (by omega) fun L3 => ?_
      refine hK 4 _ _ _ _ _ _ _ _ rfl ?_
      dsimp only [k_P_mirrored_4, wpI, xop, xcall, xli, xlj, xlf, xld, xla, xlg, xst, xst2, xc1, pI, pJ, pF, pD, pR, pA, p1, p0, xpop, xpush, xsm, xhas, xif, xic, xsw, xai, xal, xhi, xhv, xrf, xret, xrtl, xrtf, xrtd, xrta, xrtv, xfit, xnew, cond_true, cond_false, f40, f41, f42, f43, List.length_cons, List.length_nil, Nat.reduceAdd, Nat.reduceSub, Nat.reduceMul, Nat.reduceBEq, List.map_cons, List.map_nil, List.headD_cons, List.getElem?_cons_zero, List.getElem?_cons_succ, List.set_cons_zero, List.set_cons_succ]
      simp (disch := omega) only [nI_add, n_and, n_or, n_xor, n_i31, nI_leI, nI_ltI, n_e0, n_eq, n_m1e, n_l0, n_g0, n_p0, n_q0, n_cl, n_in, n_sub, n_shr, n_shl, n_div, bI_0, n_01, n_11, bI_or, not_false_eq_true, forall_const, not_true_eq_false, false_imp_iff, true_imp_iff]
      exact ih (r + 1) _ _ (by omega) hq
  refine hK 0 _ _ _ _ _ _ _ _ rfl ?_
  dsimp only [k_P_mirrored_0, wpI, xop, xcall, xli, xlj, xlf, xld, xla, xlg, xst, xst2, xc1, pI, pJ, pF, pD, pR, pA, p1, p0, xpop, xpush, xsm, xhas, xif, xic, xsw, xai, xal, xhi, xhv, xrf, xret, xrtl, xrtf, xrtd, xrta, xrtv, xfit, xnew, cond_true, cond_false, f40, f41, f42, f43, List.length_cons, List.length_nil, Nat.reduceAdd, Nat.reduceSub, Nat.reduceMul, Nat.reduceBEq, List.map_cons, List.map_nil, List.headD_cons, List.getElem?_cons_zero, List.getElem?_cons_succ, List.set_cons_zero, List.set_cons_succ]
  exact loop1 5 0 0 _ rfl (hQ _ _ ⟨rfl, rfl⟩)
/-! all shapes -/
theorem xhi_of {h : xH} {a t : Nat} {l : List Int32} {v : List Value} {k : List Int32 → Prop} (e : h[a]? = some (t, l, v)) (hk : k l) : xhi h a t k := by
  unfold xhi
  rw [e]
  simp only [beq_self_eq_true, cond_true]
  exact hk
theorem xhv_of {h : xH} {a t : Nat} {l : List Int32} {v : List Value} {k : List Value → Prop} (e : h[a]? = some (t, l, v)) (hk : k v) : xhv h a t k := by
  unfold xhv
  rw [e]
  simp only [beq_self_eq_true, cond_true]
  exact hk
theorem xai_of {sc : Option (List Int32)} {h : xH} {a : Nat} {l : List Int32} {v : List Value} {k : List Int32 → Prop} (ha : a < 1000) (e : h[a]? = some (0, l, v)) (hk : k l) : xai sc h a k := by
  unfold xai
  rw [beq_eq_false_iff_ne.mpr (show a ≠ 1000 by omega), beq_eq_false_iff_ne.mpr (show a ≠ 1001 by omega)]
  exact xhi_of e hk
theorem xai_r {sc : Option (List Int32)} {h : xH} {k : List Int32 → Prop} (hk : k [0, 5, 9, 12, 14]) : xai sc h 1000 k := hk
theorem xal_of {sc : Option (List Int32)} {h : xH} {a : Nat} {l : List Int32} {v : List Value} {k : Nat → Prop} (ha : a < 1000) (e : h[a]? = some (0, l, v)) (hk : k l.length) : xal sc h a k := by
  unfold xal
  rw [beq_eq_false_iff_ne.mpr (show a ≠ 1001 by omega), e]
  exact hk
def carN (k ab : Nat) : Nat := if k = 4 then 0 else (ab >>> rsN (k + 1)) &&& ((1 <<< (5 - (k + 1))) - 1)
def needN (k ab : Nat) : Nat := carN k ab ||| carN k ab <<< 1
def addN : Nat → Nat → Nat × List Nat → Nat × List Nat
  | 0, ab, s => (s.1 + 1, s.2.set s.1 ab)
  | k + 1, ab, s => (List.range' 0 (1 <<< (5 - k))).foldl (fun s b => if b &&& needN k ab = needN k ab then addN k (ab ||| b <<< rsN k) s else s) s
def addL (k ab : Nat) (s : Nat × List Nat) (l : List Nat) : Nat × List Nat := l.foldl (fun s b => if b &&& needN k ab = needN k ab then addN k (ab ||| b <<< rsN k) s else s) s
theorem addN_s (k ab : Nat) (s : Nat × List Nat) : addN (k + 1) ab s = addL k ab s (List.range' 0 (1 <<< (5 - k))) := rfl
theorem addL_c (k ab : Nat) (s : Nat × List Nat) (b : Nat) (l : List Nat) : addL k ab s (b :: l) = addL k ab (if b &&& needN k ab = needN k ab then addN k (ab ||| b <<< rsN k) s else s) l := rfl
theorem addN_le : ∀ (k ab : Nat) (s : Nat × List Nat), (addN k ab s).1 ≤ s.1 + 32 ^ k ∧ (addN k ab s).2.length = s.2.length
  | 0, _, _ => ⟨Nat.le_refl _, List.length_set⟩
  | k + 1, ab, s => by
    have key : ∀ (l : List Nat) (s : Nat × List Nat), (addL k ab s l).1 ≤ s.1 + l.length * 32 ^ k ∧ (addL k ab s l).2.length = s.2.length := by
      intro l
      induction l with
      | nil => intro s; exact ⟨by simp [addL], rfl⟩
      | cons b l ih =>
        intro s
        rw [addL_c]
        split
        · have h1 := addN_le k (ab ||| b <<< rsN k) s
          have h2 := ih (addN k (ab ||| b <<< rsN k) s)
          rw [List.length_cons, Nat.add_mul]
          exact ⟨by omega, h2.2.trans h1.2⟩
        · have h2 := ih s
          rw [List.length_cons, Nat.add_mul]
          exact ⟨by omega, h2.2⟩
    have h := key (List.range' 0 (1 <<< (5 - k))) s
    rw [addN_s]
    refine ⟨Nat.le_trans h.1 (Nat.add_le_add_left ?_ _), h.2⟩
    rw [List.length_range', Nat.pow_succ, Nat.mul_comm]
    refine Nat.mul_le_mul_left _ ?_
    rw [Nat.shiftLeft_eq, Nat.one_mul]
    exact Nat.pow_le_pow_right (n := 2) (by decide) (show 5 - k ≤ 5 by omega)
def rowI : Nat → Int32
  | 0 => -1
  | k + 1 => nI k
theorem rowI_p (k : Nat) : nI k - nI 1 = rowI k := by
  cases k with
  | zero => rfl
  | succ k => exact n_sub (by omega)
theorem row_lt {k b : Nat} (hk : k < 5) (hb : b < 1 <<< (5 - k)) : b <<< rsN k < 32768 := by
  have key : ∀ k, k < 5 → ∀ b, b < 32 → b < 1 <<< (5 - k) → b <<< rsN k < 32768 := by decide +kernel
  refine key k hk b (Nat.lt_of_lt_of_le hb ?_) hb
  rw [Nat.shiftLeft_eq, Nat.one_mul]
  exact Nat.pow_le_pow_right (n := 2) (by decide) (show 5 - k ≤ 5 by omega)
theorem car_lt (k ab : Nat) : carN k ab < 32 := by
  unfold carN
  split
  · decide
  · refine Nat.lt_of_le_of_lt Nat.and_le_right ?_
    have : 1 <<< (5 - (k + 1)) ≤ 2 ^ 5 := by
      rw [Nat.shiftLeft_eq, Nat.one_mul]
      exact Nat.pow_le_pow_right (n := 2) (by decide) (show 5 - (k + 1) ≤ 5 by omega)
    omega
theorem need_lt (k ab : Nat) : needN k ab < 64 := by
  have h := car_lt k ab
  have h2 : carN k ab <<< 1 < 64 := by rw [Nat.shiftLeft_eq]; omega
  exact Nat.or_lt_two_pow (n := 6) (by omega) h2
abbrev hS (h : xH) (a : Nat) (l : List Nat) : xH := h.set a (0, l.map nI, [])
theorem hS_at {h : xH} {a : Nat} (l : List Nat) (ha : a < h.length) : (hS h a l)[a]? = some (0, l.map nI, []) := List.getElem?_set_self ha
set_option maxRecDepth 100000 in
set_option maxHeartbeats 4000000 in
theorem ev_addShapes (h : xH) (a : Nat) (ha : a < h.length) (ha2 : a < 1000) : ∀ (k d ab : Nat) (s : Nat × List Nat), k ≤ 5 → ab < 32768 → s.1 + 32 ^ k < 2 ^ 30 → s.2.length < 2 ^ 30 →
    Ev xT (d + k + 2) N_P_addShapes [.ref a, .int (nI s.1), .int (rowI k), .int (nI ab)] (hS h a s.2) (Rt (some (.int (nI (addN k ab s).1))) (hS h a (addN k ab s).2)) NX := by
  intro k
  induction k with
  | zero =>
    intro d ab s _ hab hs1 hs2
    refine Ev_intro t_P_addShapes (Nat.le_of_ble_eq_true rfl) ?_
    intro Q X hQ hX K hK
    show K 0 [some (.ref a), some (.int (nI s.1)), some (.int (-1)), some (.int (nI ab)), none, none, none, none] [] _ 0 0
    have hq := hQ _ _ ⟨rfl, rfl⟩
    have hat := hS_at s.2 ha
    refine hK 0 _ _ _ _ _ _ _ _ rfl ?_
    dsimp only [k_P_addShapes_0, wpI, xop, xcall, xli, xlj, xlf, xld, xla, xlg, xst, xst2, xc1, pI, pJ, pF, pD, pR, pA, p1, p0, xpop, xpush, xsm, xhas, xif, xic, xsw, xrf, xret, xrtl, xrtf, xrtd, xrta, xrtv, xfit, xnew, cond_true, cond_false, f40, f41, f42, f43, List.length_cons, List.length_nil, Nat.reduceAdd, Nat.reduceSub, Nat.reduceMul, Nat.reduceBEq, List.map_cons, List.map_nil, List.headD_cons, List.getElem?_cons_zero, List.getElem?_cons_succ, List.set_cons_zero, List.set_cons_succ]
    refine br_f (by decide) ?_
    refine xal_of ha2 hat ?_
    rw [List.length_map]
    simp (disch := omega) only [nI_add, n_and, n_or, n_xor, n_i31, nI_leI, nI_ltI, n_e0, n_eq, n_m1e, n_l0, n_g0, n_p0, n_q0, n_cl, n_in, n_sub, n_shr, n_shl, n_div, bI_0, n_01, n_11, bI_or, not_false_eq_true, forall_const, not_true_eq_false, false_imp_iff, true_imp_iff]
    have hs1' : s.1 < 2 ^ 31 := by omega
    refine ⟨fun z => ?_, fun z => ?_⟩
    · refine hK 1 _ _ _ _ _ _ _ _ rfl ?_
      dsimp only [k_P_addShapes_1, wpI, xop, xcall, xli, xlj, xlf, xld, xla, xlg, xst, xst2, xc1, pI, pJ, pF, pD, pR, pA, p1, p0, xpop, xpush, xsm, xhas, xif, xic, xsw, xrf, xret, xrtl, xrtf, xrtd, xrta, xrtv, xfit, xnew, cond_true, cond_false, f40, f41, f42, f43, List.length_cons, List.length_nil, Nat.reduceAdd, Nat.reduceSub, Nat.reduceMul, Nat.reduceBEq, List.map_cons, List.map_nil, List.headD_cons, List.getElem?_cons_zero, List.getElem?_cons_succ, List.set_cons_zero, List.set_cons_succ]
      have e : s.2.set s.1 ab = s.2 := List.set_eq_of_length_le z
      unfold addN at hq
      rw [e] at hq
      simp (disch := omega) only [nI_add, n_and, n_or, n_xor, n_i31, nI_leI, nI_ltI, n_e0, n_eq, n_m1e, n_l0, n_g0, n_p0, n_q0, n_cl, n_in, n_sub, n_shr, n_shl, n_div, bI_0, n_01, n_11, bI_or, not_false_eq_true, forall_const, not_true_eq_false, false_imp_iff, true_imp_iff]
      exact ⟨Nat.le_refl _, Nat.le_refl _, hq⟩
    · refine xhi_of hat ?_
      refine ⟨by rw [List.length_map]; omega, ?_⟩
      refine hK 1 _ _ _ _ _ _ _ _ rfl ?_
      dsimp only [k_P_addShapes_1, wpI, xop, xcall, xli, xlj, xlf, xld, xla, xlg, xst, xst2, xc1, pI, pJ, pF, pD, pR, pA, p1, p0, xpop, xpush, xsm, xhas, xif, xic, xsw, xrf, xret, xrtl, xrtf, xrtd, xrta, xrtv, xfit, xnew, cond_true, cond_false, f40, f41, f42, f43, List.length_cons, List.length_nil, Nat.reduceAdd, Nat.reduceSub, Nat.reduceMul, Nat.reduceBEq, List.map_cons, List.map_nil, List.headD_cons, List.getElem?_cons_zero, List.getElem?_cons_succ, List.set_cons_zero, List.set_cons_succ]
      unfold addN at hq
      rw [List.set_set, ← List.map_set]
      simp (disch := omega) only [nI_add, n_and, n_or, n_xor, n_i31, nI_leI, nI_ltI, n_e0, n_eq, n_m1e, n_l0, n_g0, n_p0, n_q0, n_cl, n_in, n_sub, n_shr, n_shl, n_div, bI_0, n_01, n_11, bI_or, not_false_eq_true, forall_const, not_true_eq_false, false_imp_iff, true_imp_iff]
      exact ⟨Nat.le_refl _, Nat.le_refl _, hq⟩
  | succ k ih =>
    intro d ab s hk hab hs1 hs2
    refine Ev_intro t_P_addShapes (Nat.le_of_ble_eq_true rfl) ?_
    intro Q X hQ hX K hK
    show K 0 [some (.ref a), some (.int (nI s.1)), some (.int (nI k)), some (.int (nI ab)), none, none, none, none] [] _ 0 0
    have hq := hQ _ _ ⟨rfl, rfl⟩
    rw [addN_s] at hq
    have hc := car_lt k ab
    have hn := need_lt k ab
    have h2 : carN k ab <<< 1 < 64 := by rw [Nat.shiftLeft_eq]; omega
    have hw : 1 <<< (5 - k) ≤ 32 := by
      rw [Nat.shiftLeft_eq, Nat.one_mul]
      exact Nat.pow_le_pow_right (n := 2) (by decide) (show 5 - k ≤ 5 by omega)
    have hw2 : 1 <<< (5 - k) < 2 ^ 32 := by omega
    have loop : ∀ (j i : Nat) (s : Nat × List Nat), i + j = 1 <<< (5 - k) → s.1 + j * 32 ^ k < 2 ^ 30 → s.2.length < 2 ^ 30 → ∀ s0, Q (some (.int (nI (addL k ab s (List.range' i j)).1))) (hS h a (addL k ab s (List.range' i j)).2) →
        K 5 [some (.ref a), some (.int (nI s0)), some (.int (nI k)), some (.int (nI ab)), some (.int (nI (carN k ab))), some (.int (nI (needN k ab))), some (.int (nI s.1)), some (.int (nI i))] [] (hS h a s.2) 0 0 := by
      intro j
      induction j with
      | zero =>
        intro i s hi hs1 hs2 s0 hq
        refine hK 5 _ _ _ _ _ _ _ _ rfl ?_
        dsimp only [k_P_addShapes_5, wpI, xop, xcall, xli, xlj, xlf, xld, xla, xlg, xst, xst2, xc1, pI, pJ, pF, pD, pR, pA, p1, p0, xpop, xpush, xsm, xhas, xif, xic, xsw, xrf, xret, xrtl, xrtf, xrtd, xrta, xrtv, xfit, xnew, cond_true, cond_false, f40, f41, f42, f43, List.length_cons, List.length_nil, Nat.reduceAdd, Nat.reduceSub, Nat.reduceMul, Nat.reduceBEq, List.map_cons, List.map_nil, List.headD_cons, List.getElem?_cons_zero, List.getElem?_cons_succ, List.set_cons_zero, List.set_cons_succ]
        simp (disch := omega) only [nI_add, n_and, n_or, n_xor, n_i31, nI_leI, nI_ltI, n_e0, n_eq, n_m1e, n_l0, n_g0, n_p0, n_q0, n_cl, n_in, n_sub, n_shr, n_shl, n_div, bI_0, n_01, n_11, bI_or, not_false_eq_true, forall_const, not_true_eq_false, false_imp_iff, true_imp_iff]
        refine br_t (by omega) ?_
        refine hK 7 _ _ _ _ _ _ _ _ rfl ?_
        dsimp only [k_P_addShapes_7, wpI, xop, xcall, xli, xlj, xlf, xld, xla, xlg, xst, xst2, xc1, pI, pJ, pF, pD, pR, pA, p1, p0, xpop, xpush, xsm, xhas, xif, xic, xsw, xrf, xret, xrtl, xrtf, xrtd, xrta, xrtv, xfit, xnew, cond_true, cond_false, f40, f41, f42, f43, List.length_cons, List.length_nil, Nat.reduceAdd, Nat.reduceSub, Nat.reduceMul, Nat.reduceBEq, List.map_cons, List.map_nil, List.headD_cons, List.getElem?_cons_zero, List.getElem?_cons_succ, List.set_cons_zero, List.set_cons_succ]
        exact ⟨Nat.le_refl _, Nat.le_refl _, hq⟩
      | succ j ih2 =>
        intro i s hi hs1 hs2 s0 hq
        rw [List.range'_succ, addL_c] at hq
        rw [Nat.add_mul] at hs1
        have hb := row_lt (k := k) (b := i) (by omega) (by omega)
        have hand : i &&& needN k ab < 64 := Nat.lt_of_le_of_lt Nat.and_le_right hn
        have hr := rs_lt k
        refine hK 5 _ _ _ _ _ _ _ _ rfl ?_
        dsimp only [k_P_addShapes_5, wpI, xop, xcall, xli, xlj, xlf, xld, xla, xlg, xst, xst2, xc1, pI, pJ, pF, pD, pR, pA, p1, p0, xpop, xpush, xsm, xhas, xif, xic, xsw, xrf, xret, xrtl, xrtf, xrtd, xrta, xrtv, xfit, xnew, cond_true, cond_false, f40, f41, f42, f43, List.length_cons, List.length_nil, Nat.reduceAdd, Nat.reduceSub, Nat.reduceMul, Nat.reduceBEq, List.map_cons, List.map_nil, List.headD_cons, List.getElem?_cons_zero, List.getElem?_cons_succ, List.set_cons_zero, List.set_cons_succ]
        simp (disch := omega) only [nI_add, n_and, n_or, n_xor, n_i31, nI_leI, nI_ltI, n_e0, n_eq, n_m1e, n_l0, n_g0, n_p0, n_q0, n_cl, n_in, n_sub, n_shr, n_shl, n_div, bI_0, n_01, n_11, bI_or, not_false_eq_true, forall_const, not_true_eq_false, false_imp_iff, true_imp_iff]
        refine br_f (by omega) ?_
        refine ⟨fun z => ?_, fun z => ?_⟩
        · rw [if_neg z] at hq
          refine hK 6 _ _ _ _ _ _ _ _ rfl ?_
          dsimp only [k_P_addShapes_6, wpI, xop, xcall, xli, xlj, xlf, xld, xla, xlg, xst, xst2, xc1, pI, pJ, pF, pD, pR, pA, p1, p0, xpop, xpush, xsm, xhas, xif, xic, xsw, xrf, xret, xrtl, xrtf, xrtd, xrta, xrtv, xfit, xnew, cond_true, cond_false, f40, f41, f42, f43, List.length_cons, List.length_nil, Nat.reduceAdd, Nat.reduceSub, Nat.reduceMul, Nat.reduceBEq, List.map_cons, List.map_nil, List.headD_cons, List.getElem?_cons_zero, List.getElem?_cons_succ, List.set_cons_zero, List.set_cons_succ]
          simp (disch := omega) only [nI_add, n_and, n_or, n_xor, n_i31, nI_leI, nI_ltI, n_e0, n_eq, n_m1e, n_l0, n_g0, n_p0, n_q0, n_cl, n_in, n_sub, n_shr, n_shl, n_div, bI_0, n_01, n_11, bI_or, not_false_eq_true, forall_const, not_true_eq_false, false_imp_iff, true_imp_iff]
          exact ih2 (i + 1) s (by omega) (by omega) hs2 s0 hq
        · rw [if_pos z] at hq
          refine xai_r ?_
          dsimp only [wpI, xop, xcall, xli, xlj, xlf, xld, xla, xlg, xst, xst2, xc1, pI, pJ, pF, pD, pR, pA, p1, p0, xpop, xpush, xsm, xhas, xif, xic, xsw, xrf, xret, xrtl, xrtf, xrtd, xrta, xrtv, xfit, xnew, cond_true, cond_false, f40, f41, f42, f43, List.length_cons, List.length_nil, Nat.reduceAdd, Nat.reduceSub, Nat.reduceMul, Nat.reduceBEq, List.map_cons, List.map_nil, List.headD_cons, List.getElem?_cons_zero, List.getElem?_cons_succ, List.set_cons_zero, List.set_cons_succ]
          rw [rowI_p]
          simp (disch := omega) only [nI_add, n_and, n_or, n_xor, n_i31, nI_leI, nI_ltI, n_e0, n_eq, n_m1e, n_l0, n_g0, n_p0, n_q0, n_cl, n_in, n_sub, n_shr, n_shl, n_div, bI_0, n_01, n_11, bI_or, not_false_eq_true, forall_const, not_true_eq_false, false_imp_iff, true_imp_iff, rs_at]
          refine ⟨by omega, ?_⟩
          have hle := addN_le k (ab ||| i <<< rsN k) s
          refine Ev_use (ih d (ab ||| i <<< rsN k) s (by omega) (Nat.or_lt_two_pow (n := 15) hab hb) (by omega) hs2) ?_
          dsimp only [wpI, xop, xcall, xli, xlj, xlf, xld, xla, xlg, xst, xst2, xc1, pI, pJ, pF, pD, pR, pA, p1, p0, xpop, xpush, xsm, xhas, xif, xic, xsw, xrf, xret, xrtl, xrtf, xrtd, xrta, xrtv, xfit, xnew, cond_true, cond_false, f40, f41, f42, f43, List.length_cons, List.length_nil, Nat.reduceAdd, Nat.reduceSub, Nat.reduceMul, Nat.reduceBEq, List.map_cons, List.map_nil, List.headD_cons, List.getElem?_cons_zero, List.getElem?_cons_succ, List.set_cons_zero, List.set_cons_succ]
          refine hK 6 _ _ _ _ _ _ _ _ rfl ?_
          dsimp only [k_P_addShapes_6, wpI, xop, xcall, xli, xlj, xlf, xld, xla, xlg, xst, xst2, xc1, pI, pJ, pF, pD, pR, pA, p1, p0, xpop, xpush, xsm, xhas, xif, xic, xsw, xrf, xret, xrtl, xrtf, xrtd, xrta, xrtv, xfit, xnew, cond_true, cond_false, f40, f41, f42, f43, List.length_cons, List.length_nil, Nat.reduceAdd, Nat.reduceSub, Nat.reduceMul, Nat.reduceBEq, List.map_cons, List.map_nil, List.headD_cons, List.getElem?_cons_zero, List.getElem?_cons_succ, List.set_cons_zero, List.set_cons_succ]
          simp (disch := omega) only [nI_add, n_and, n_or, n_xor, n_i31, nI_leI, nI_ltI, n_e0, n_eq, n_m1e, n_l0, n_g0, n_p0, n_q0, n_cl, n_in, n_sub, n_shr, n_shl, n_div, bI_0, n_01, n_11, bI_or, not_false_eq_true, forall_const, not_true_eq_false, false_imp_iff, true_imp_iff]
          exact ih2 (i + 1) _ (by omega) (by omega) (by rw [hle.2]; exact hs2) s0 hq
    have go4 : K 4 [some (.ref a), some (.int (nI s.1)), some (.int (nI k)), some (.int (nI ab)), none, none, none, none] [.int (nI (carN k ab))] (hS h a s.2) 0 0 := by
      refine hK 4 _ _ _ _ _ _ _ _ rfl ?_
      dsimp only [k_P_addShapes_4, wpI, xop, xcall, xli, xlj, xlf, xld, xla, xlg, xst, xst2, xc1, pI, pJ, pF, pD, pR, pA, p1, p0, xpop, xpush, xsm, xhas, xif, xic, xsw, xrf, xret, xrtl, xrtf, xrtd, xrta, xrtv, xfit, xnew, cond_true, cond_false, f40, f41, f42, f43, List.length_cons, List.length_nil, Nat.reduceAdd, Nat.reduceSub, Nat.reduceMul, Nat.reduceBEq, List.map_cons, List.map_nil, List.headD_cons, List.getElem?_cons_zero, List.getElem?_cons_succ, List.set_cons_zero, List.set_cons_succ]
      simp (disch := omega) only [nI_add, n_and, n_or, n_xor, n_i31, nI_leI, nI_ltI, n_e0, n_eq, n_m1e, n_l0, n_g0, n_p0, n_q0, n_cl, n_in, n_sub, n_shr, n_shl, n_div, bI_0, n_01, n_11, bI_or, not_false_eq_true, forall_const, not_true_eq_false, false_imp_iff, true_imp_iff]
      refine loop (1 <<< (5 - k)) 0 s (by omega) ?_ hs2 s.1 hq
      refine Nat.lt_of_le_of_lt (Nat.add_le_add_left ?_ _) hs1
      rw [Nat.pow_succ, Nat.mul_comm]
      exact Nat.mul_le_mul_left _ hw
    have hr31 : k < 2 ^ 31 := by omega
    refine hK 0 _ _ _ _ _ _ _ _ rfl ?_
    dsimp only [k_P_addShapes_0, wpI, xop, xcall, xli, xlj, xlf, xld, xla, xlg, xst, xst2, xc1, pI, pJ, pF, pD, pR, pA, p1, p0, xpop, xpush, xsm, xhas, xif, xic, xsw, xrf, xret, xrtl, xrtf, xrtd, xrta, xrtv, xfit, xnew, cond_true, cond_false, f40, f41, f42, f43, List.length_cons, List.length_nil, Nat.reduceAdd, Nat.reduceSub, Nat.reduceMul, Nat.reduceBEq, List.map_cons, List.map_nil, List.headD_cons, List.getElem?_cons_zero, List.getElem?_cons_succ, List.set_cons_zero, List.set_cons_succ]
    simp (disch := omega) only [nI_add, n_and, n_or, n_xor, n_i31, nI_leI, nI_ltI, n_e0, n_eq, n_m1e, n_l0, n_g0, n_p0, n_q0, n_cl, n_in, n_sub, n_shr, n_shl, n_div, bI_0, n_01, n_11, bI_or, not_false_eq_true, forall_const, not_true_eq_false, false_imp_iff, true_imp_iff]
    refine ⟨?_, trivial⟩
    refine hK 2 _ _ _ _ _ _ _ _ rfl ?_
    dsimp only [k_P_addShapes_2, wpI, xop, xcall, xli, xlj, xlf, xld, xla, xlg, xst, xst2, xc1, pI, pJ, pF, pD, pR, pA, p1, p0, xpop, xpush, xsm, xhas, xif, xic, xsw, xrf, xret, xrtl, xrtf, xrtd, xrta, xrtv, xfit, xnew, cond_true, cond_false, f40, f41, f42, f43, List.length_cons, List.length_nil, Nat.reduceAdd, Nat.reduceSub, Nat.reduceMul, Nat.reduceBEq, List.map_cons, List.map_nil, List.headD_cons, List.getElem?_cons_zero, List.getElem?_cons_succ, List.set_cons_zero, List.set_cons_succ]
    simp (disch := omega) only [nI_add, n_and, n_or, n_xor, n_i31, nI_leI, nI_ltI, n_e0, n_eq, n_m1e, n_l0, n_g0, n_p0, n_q0, n_cl, n_in, n_sub, n_shr, n_shl, n_div, bI_0, n_01, n_11, bI_or, not_false_eq_true, forall_const, not_true_eq_false, false_imp_iff, true_imp_iff]
    refine ⟨fun z => ?_, fun z => ?_⟩
    · refine hK 3 _ _ _ _ _ _ _ _ rfl ?_
      dsimp only [k_P_addShapes_3, wpI, xop, xcall, xli, xlj, xlf, xld, xla, xlg, xst, xst2, xc1, pI, pJ, pF, pD, pR, pA, p1, p0, xpop, xpush, xsm, xhas, xif, xic, xsw, xrf, xret, xrtl, xrtf, xrtd, xrta, xrtv, xfit, xnew, cond_true, cond_false, f40, f41, f42, f43, List.length_cons, List.length_nil, Nat.reduceAdd, Nat.reduceSub, Nat.reduceMul, Nat.reduceBEq, List.map_cons, List.map_nil, List.headD_cons, List.getElem?_cons_zero, List.getElem?_cons_succ, List.set_cons_zero, List.set_cons_succ]
      simp (disch := omega) only [nI_add, n_and, n_or, n_xor, n_i31, nI_leI, nI_ltI, n_e0, n_eq, n_m1e, n_l0, n_g0, n_p0, n_q0, n_cl, n_in, n_sub, n_shr, n_shl, n_div, bI_0, n_01, n_11, bI_or, not_false_eq_true, forall_const, not_true_eq_false, false_imp_iff, true_imp_iff]
      refine Ev_use (ev_bitsOf _ ab (k + 1) _ hab (by omega)) ?_
      dsimp only [wpI, xop, xcall, xli, xlj, xlf, xld, xla, xlg, xst, xst2, xc1, pI, pJ, pF, pD, pR, pA, p1, p0, xpop, xpush, xsm, xhas, xif, xic, xsw, xrf, xret, xrtl, xrtf, xrtd, xrta, xrtv, xfit, xnew, cond_true, cond_false, f40, f41, f42, f43, List.length_cons, List.length_nil, Nat.reduceAdd, Nat.reduceSub, Nat.reduceMul, Nat.reduceBEq, List.map_cons, List.map_nil, List.headD_cons, List.getElem?_cons_zero, List.getElem?_cons_succ, List.set_cons_zero, List.set_cons_succ]
      have e : carN k ab = (ab >>> rsN (k + 1)) &&& ((1 <<< (5 - (k + 1))) - 1) := by unfold carN; rw [if_neg z]
      rw [← e]
      exact go4
    · have e : carN k ab = 0 := by unfold carN; rw [if_pos z]
      rw [e] at go4
      exact go4
def shapesN : List Nat := (addN 5 0 (0, List.replicate 132 0)).2
theorem shapes_len : shapesN.length = 132 := (addN_le 5 0 _).2.trans (by simp)
set_option maxRecDepth 100000 in
set_option maxHeartbeats 4000000 in
theorem ev_allShapes (d : Nat) (h : xH) (hh : h.length < 1000) (hw : xwH h.length h) : Ev xT (d + 8) N_P_allShapes [] h (Rt (some (.ref h.length)) (h ++ [(0, shapesN.map nI, [])])) NX := by
  refine Ev_intro t_P_allShapes (Nat.le_of_ble_eq_true rfl) ?_
  intro Q X hQ hX K hK
  show K 0 [none] [] _ 0 0
  have hq := hQ _ _ ⟨rfl, rfl⟩
  have e0 : hS (h ++ [(0, List.replicate 132 0, [])]) h.length (List.replicate 132 0) = h ++ [(0, List.replicate 132 0, [])] := by
    unfold hS
    rw [List.set_append_right _ _ (Nat.le_refl _), Nat.sub_self]
    rfl
  have e1 : hS (h ++ [(0, List.replicate 132 0, [])]) h.length shapesN = h ++ [(0, shapesN.map nI, [])] := by
    unfold hS
    rw [List.set_append_right _ _ (Nat.le_refl _), Nat.sub_self]
    rfl
  have key := ev_addShapes (h ++ [(0, List.replicate 132 0, [])]) h.length (by simp) hh 5 d 0 (0, List.replicate 132 0) (by decide) (by decide) (by decide) (by simp)
  rw [e0] at key
  refine hK 0 _ _ _ _ _ _ _ _ rfl ?_
  dsimp only [k_P_allShapes_0, wpI, xop, xcall, xli, xlj, xlf, xld, xla, xlg, xst, xst2, xc1, pI, pJ, pF, pD, pR, pA, p1, p0, xpop, xpush, xsm, xhas, xif, xic, xsw, xrf, xret, xrtl, xrtf, xrtd, xrta, xrtv, xfit, xnew, cond_true, cond_false, f40, f41, f42, f43, List.length_cons, List.length_nil, Nat.reduceAdd, Nat.reduceSub, Nat.reduceMul, Nat.reduceBEq, List.map_cons, List.map_nil, List.headD_cons, List.getElem?_cons_zero, List.getElem?_cons_succ, List.set_cons_zero, List.set_cons_succ]
  refine ⟨by decide, by decide, rfl, by decide, by decide, hh, trivial, trivial, hw, ?_⟩
  refine Ev_use key ?_
  dsimp only [wpI, xop, xcall, xli, xlj, xlf, xld, xla, xlg, xst, xst2, xc1, pI, pJ, pF, pD, pR, pA, p1, p0, xpop, xpush, xsm, xhas, xif, xic, xsw, xrf, xret, xrtl, xrtf, xrtd, xrta, xrtv, xfit, xnew, cond_true, cond_false, f40, f41, f42, f43, List.length_cons, List.length_nil, Nat.reduceAdd, Nat.reduceSub, Nat.reduceMul, Nat.reduceBEq, List.map_cons, List.map_nil, List.headD_cons, List.getElem?_cons_zero, List.getElem?_cons_succ, List.set_cons_zero, List.set_cons_succ]
  have e2 : (addN 5 0 (0, List.replicate 132 0)).2 = shapesN := rfl
  rw [e2, e1]
  exact ⟨by decide, by decide, hq⟩
