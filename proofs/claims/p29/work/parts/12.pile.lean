/-! ===== Pile ===== -/
def rsN (r : Nat) : Nat := [0, 5, 9, 12, 14].getD r 0
theorem rs_at {r : Nat} (h : r < 5) : ([0, 5, 9, 12, 14] : List Int32).getD r 0 = nI (rsN r) := by
  have key : ∀ r, r < 5 → ([0, 5, 9, 12, 14] : List Int32).getD r 0 = nI (rsN r) := by decide +kernel
  exact key r h
theorem rs_lt (r : Nat) : rsN r < 15 := by
  have key : ∀ r, r < 5 → rsN r < 15 := by decide +kernel
  rcases Nat.lt_or_ge r 5 with h | h
  · exact key r h
  · unfold rsN
    rw [List.getD_eq_getElem?_getD, List.getElem?_eq_none (by simpa using h)]
    decide
theorem sh_le (m r x y : Nat) : ((m >>> r) &&& x &&& y) <<< r ≤ m := by
  rw [Nat.shiftLeft_eq]
  refine Nat.le_trans (Nat.mul_le_mul_right _ (Nat.le_trans Nat.and_le_left Nat.and_le_left)) ?_
  rw [Nat.shiftRight_eq_div_pow]
  exact Nat.div_mul_le_self _ _
theorem bit_lt {r p : Nat} (hp : p < 5) : 1 <<< (rsN r + p) < 2 ^ 19 := by
  have := rs_lt r
  rw [Nat.shiftLeft_eq, Nat.one_mul]
  exact Nat.pow_lt_pow_right (by decide) (by omega)
theorem and_bit (m k : Nat) : (m &&& (1 <<< k)) = 0 ↔ m.testBit k = false := by
  rw [Nat.shiftLeft_eq, Nat.one_mul]
  constructor
  · intro h
    have := congrArg (fun z => z.testBit k) h
    simpa [Nat.testBit_and, Nat.testBit_two_pow_self] using this
  · intro h
    apply Nat.eq_of_testBit_eq
    intro i
    rw [Nat.testBit_and, Nat.testBit_two_pow, Nat.zero_testBit]
    by_cases e : k = i
    · subst e; rw [h]; rfl
    · simp [e]
def hasN (m r p : Nat) : Bool := m.testBit (rsN r + p)
set_option maxRecDepth 100000 in
set_option maxHeartbeats 4000000 in
theorem ev_bit (d r p : Nat) (h : xH) (hr : r < 5) (hp : p < 5) : Ev xT (d + 1) N_P_bit [.int (nI r), .int (nI p)] h (Rt (some (.int (nI (1 <<< (rsN r + p))))) h) NX := by
  refine Ev_intro t_P_bit (Nat.le_of_ble_eq_true rfl) ?_
  intro Q X hQ hX K hK
  show K 0 [some (.int (nI r)), some (.int (nI p))] [] _ 0 0
  have h1 := rs_lt r
  have h2 := bit_lt (r := r) hp
  refine hK 0 _ _ _ _ _ _ _ _ rfl ?_
  dsimp only [k_P_bit_0, wpI, xop, xcall, xli, xlj, xlf, xld, xla, xlg, xst, xst2, xc1, pI, pJ, pF, pD, pR, pA, p1, p0, xpop, xpush, xsm, xhas, xif, xic, xsw, xai, xal, xhi, xhv, xrf, xret, xrtl, xrtf, xrtd, xrta, xrtv, xfit, xnew, cond_true, cond_false, f40, f41, f42, f43, List.length_cons, List.length_nil, Nat.reduceAdd, Nat.reduceSub, Nat.reduceMul, Nat.reduceBEq, List.map_cons, List.map_nil, List.headD_cons, List.getElem?_cons_zero, List.getElem?_cons_succ, List.set_cons_zero, List.set_cons_succ]
  simp (disch := omega) only [nI_add, n_and, n_or, n_xor, n_i31, nI_leI, nI_ltI, n_e0, n_eq, n_m1e, n_l0, n_g0, n_p0, n_q0, n_cl, n_in, n_sub, n_shr, n_shl, n_div, bI_0, n_01, n_11, bI_or, not_false_eq_true, forall_const, not_true_eq_false, false_imp_iff, true_imp_iff, rs_at]
  exact ⟨hr, Nat.le_refl _, Nat.le_refl _, hQ _ _ ⟨rfl, rfl⟩⟩
set_option maxRecDepth 100000 in
set_option maxHeartbeats 4000000 in
theorem ev_bitsOf (d m r : Nat) (h : xH) (hm : m < 32768) (hr : r < 5) : Ev xT (d + 1) N_P_bitsOf [.int (nI m), .int (nI r)] h (Rt (some (.int (nI ((m >>> rsN r) &&& ((1 <<< (5 - r)) - 1))))) h) NX := by
  refine Ev_intro t_P_bitsOf (Nat.le_of_ble_eq_true rfl) ?_
  intro Q X hQ hX K hK
  show K 0 [some (.int (nI m)), some (.int (nI r))] [] _ 0 0
  have h1 := rs_lt r
  have h2 : 1 <<< (5 - r) < 2 ^ 6 := by
    rw [Nat.shiftLeft_eq, Nat.one_mul]
    exact Nat.pow_lt_pow_right (by decide) (by omega)
  have h3 : 1 ≤ 1 <<< (5 - r) := by rw [Nat.shiftLeft_eq, Nat.one_mul]; exact Nat.two_pow_pos _
  refine hK 0 _ _ _ _ _ _ _ _ rfl ?_
  dsimp only [k_P_bitsOf_0, wpI, xop, xcall, xli, xlj, xlf, xld, xla, xlg, xst, xst2, xc1, pI, pJ, pF, pD, pR, pA, p1, p0, xpop, xpush, xsm, xhas, xif, xic, xsw, xai, xal, xhi, xhv, xrf, xret, xrtl, xrtf, xrtd, xrta, xrtv, xfit, xnew, cond_true, cond_false, f40, f41, f42, f43, List.length_cons, List.length_nil, Nat.reduceAdd, Nat.reduceSub, Nat.reduceMul, Nat.reduceBEq, List.map_cons, List.map_nil, List.headD_cons, List.getElem?_cons_zero, List.getElem?_cons_succ, List.set_cons_zero, List.set_cons_succ]
  simp (disch := omega) only [nI_add, n_and, n_or, n_xor, n_i31, nI_leI, nI_ltI, n_e0, n_eq, n_m1e, n_l0, n_g0, n_p0, n_q0, n_cl, n_in, n_sub, n_shr, n_shl, n_div, bI_0, n_01, n_11, bI_or, not_false_eq_true, forall_const, not_true_eq_false, false_imp_iff, true_imp_iff, rs_at]
  exact ⟨hr, Nat.le_refl _, Nat.le_refl _, hQ _ _ ⟨rfl, rfl⟩⟩
set_option maxRecDepth 100000 in
set_option maxHeartbeats 4000000 in
theorem ev_hasBottle (d m r p : Nat) (h : xH) (hm : m < 32768) (hr : r < 5) (hp : p < 5) : Ev xT (d + 2) N_P_hasBottle [.int (nI m), .int (nI r), .int (nI p)] h (Rt (some (.int (bI (hasN m r p)))) h) NX := by
  refine Ev_intro t_P_hasBottle (Nat.le_of_ble_eq_true rfl) ?_
  intro Q X hQ hX K hK
  show K 0 [some (.int (nI m)), some (.int (nI r)), some (.int (nI p))] [] _ 0 0
  have h2 := bit_lt (r := r) hp
  have h3 : m &&& 1 <<< (rsN r + p) < 32768 := Nat.lt_of_le_of_lt Nat.and_le_left hm
  refine hK 0 _ _ _ _ _ _ _ _ rfl ?_
  dsimp only [k_P_hasBottle_0, wpI, xop, xcall, xli, xlj, xlf, xld, xla, xlg, xst, xst2, xc1, pI, pJ, pF, pD, pR, pA, p1, p0, xpop, xpush, xsm, xhas, xif, xic, xsw, xai, xal, xhi, xhv, xrf, xret, xrtl, xrtf, xrtd, xrta, xrtv, xfit, xnew, cond_true, cond_false, f40, f41, f42, f43, List.length_cons, List.length_nil, Nat.reduceAdd, Nat.reduceSub, Nat.reduceMul, Nat.reduceBEq, List.map_cons, List.map_nil, List.headD_cons, List.getElem?_cons_zero, List.getElem?_cons_succ, List.set_cons_zero, List.set_cons_succ]
  refine Ev_use (ev_bit _ r p h hr hp) ?_
  dsimp only [wpI, xop, xcall, xli, xlj, xlf, xld, xla, xlg, xst, xst2, xc1, pI, pJ, pF, pD, pR, pA, p1, p0, xpop, xpush, xsm, xhas, xif, xic, xsw, xai, xal, xhi, xhv, xrf, xret, xrtl, xrtf, xrtd, xrta, xrtv, xfit, xnew, cond_true, cond_false, f40, f41, f42, f43, List.length_cons, List.length_nil, Nat.reduceAdd, Nat.reduceSub, Nat.reduceMul, Nat.reduceBEq, List.map_cons, List.map_nil, List.headD_cons, List.getElem?_cons_zero, List.getElem?_cons_succ, List.set_cons_zero, List.set_cons_succ]
  simp (disch := omega) only [nI_add, n_and, n_or, n_xor, n_i31, nI_leI, nI_ltI, n_e0, n_eq, n_m1e, n_l0, n_g0, n_p0, n_q0, n_cl, n_in, n_sub, n_shr, n_shl, n_div, bI_0, n_01, n_11, bI_or, not_false_eq_true, forall_const, not_true_eq_false, false_imp_iff, true_imp_iff]
  rw [and_bit]
  have hq := hQ _ _ ⟨rfl, rfl⟩
  refine ⟨fun z => ?_, fun z => ?_⟩
  · refine hK 1 _ _ _ _ _ _ _ _ rfl ?_
    dsimp only [k_P_hasBottle_1, wpI, xop, xcall, xli, xlj, xlf, xld, xla, xlg, xst, xst2, xc1, pI, pJ, pF, pD, pR, pA, p1, p0, xpop, xpush, xsm, xhas, xif, xic, xsw, xai, xal, xhi, xhv, xrf, xret, xrtl, xrtf, xrtd, xrta, xrtv, xfit, xnew, cond_true, cond_false, f40, f41, f42, f43, List.length_cons, List.length_nil, Nat.reduceAdd, Nat.reduceSub, Nat.reduceMul, Nat.reduceBEq, List.map_cons, List.map_nil, List.headD_cons, List.getElem?_cons_zero, List.getElem?_cons_succ, List.set_cons_zero, List.set_cons_succ]
    refine hK 2 _ _ _ _ _ _ _ _ rfl ?_
    dsimp only [k_P_hasBottle_2, wpI, xop, xcall, xli, xlj, xlf, xld, xla, xlg, xst, xst2, xc1, pI, pJ, pF, pD, pR, pA, p1, p0, xpop, xpush, xsm, xhas, xif, xic, xsw, xai, xal, xhi, xhv, xrf, xret, xrtl, xrtf, xrtd, xrta, xrtv, xfit, xnew, cond_true, cond_false, f40, f41, f42, f43, List.length_cons, List.length_nil, Nat.reduceAdd, Nat.reduceSub, Nat.reduceMul, Nat.reduceBEq, List.map_cons, List.map_nil, List.headD_cons, List.getElem?_cons_zero, List.getElem?_cons_succ, List.set_cons_zero, List.set_cons_succ]
    rw [show hasN m r p = false from z] at hq
    exact ⟨Or.inl rfl, Nat.le_refl _, Nat.le_refl _, hq⟩
  · refine hK 2 _ _ _ _ _ _ _ _ rfl ?_
    dsimp only [k_P_hasBottle_2, wpI, xop, xcall, xli, xlj, xlf, xld, xla, xlg, xst, xst2, xc1, pI, pJ, pF, pD, pR, pA, p1, p0, xpop, xpush, xsm, xhas, xif, xic, xsw, xai, xal, xhi, xhv, xrf, xret, xrtl, xrtf, xrtd, xrta, xrtv, xfit, xnew, cond_true, cond_false, f40, f41, f42, f43, List.length_cons, List.length_nil, Nat.reduceAdd, Nat.reduceSub, Nat.reduceMul, Nat.reduceBEq, List.map_cons, List.map_nil, List.headD_cons, List.getElem?_cons_zero, List.getElem?_cons_succ, List.set_cons_zero, List.set_cons_succ]
    rw [show hasN m r p = true from b_nf z] at hq
    exact ⟨Or.inr rfl, Nat.le_refl _, Nat.le_refl _, hq⟩
def hasRoomN (m r p : Nat) : Bool := !hasN m r p && (r == 0 || (hasN m (r - 1) p && hasN m (r - 1) (p + 1)))
set_option maxRecDepth 100000 in
set_option maxHeartbeats 4000000 in
theorem ev_hasRoom (d m r p : Nat) (h : xH) (hm : m < 32768) (hr : r < 5) (hp : p < 5 - r) : Ev xT (d + 3) N_P_hasRoom [.int (nI m), .int (nI r), .int (nI p)] h (Rt (some (.int (bI (hasRoomN m r p)))) h) NX := by
  refine Ev_intro t_P_hasRoom (Nat.le_of_ble_eq_true rfl) ?_
  intro Q X hQ hX K hK
  show K 0 [some (.int (nI m)), some (.int (nI r)), some (.int (nI p))] [] _ 0 0
  have hq := hQ _ _ ⟨rfl, rfl⟩
  unfold hasRoomN at hq
  refine hK 0 _ _ _ _ _ _ _ _ rfl ?_
  dsimp only [k_P_hasRoom_0, wpI, xop, xcall, xli, xlj, xlf, xld, xla, xlg, xst, xst2, xc1, pI, pJ, pF, pD, pR, pA, p1, p0, xpop, xpush, xsm, xhas, xif, xic, xsw, xai, xal, xhi, xhv, xrf, xret, xrtl, xrtf, xrtd, xrta, xrtv, xfit, xnew, cond_true, cond_false, f40, f41, f42, f43, List.length_cons, List.length_nil, Nat.reduceAdd, Nat.reduceSub, Nat.reduceMul, Nat.reduceBEq, List.map_cons, List.map_nil, List.headD_cons, List.getElem?_cons_zero, List.getElem?_cons_succ, List.set_cons_zero, List.set_cons_succ]
  refine Ev_use (ev_hasBottle _ m r p h hm hr (by omega)) ?_
  dsimp only [wpI, xop, xcall, xli, xlj, xlf, xld, xla, xlg, xst, xst2, xc1, pI, pJ, pF, pD, pR, pA, p1, p0, xpop, xpush, xsm, xhas, xif, xic, xsw, xai, xal, xhi, xhv, xrf, xret, xrtl, xrtf, xrtd, xrta, xrtv, xfit, xnew, cond_true, cond_false, f40, f41, f42, f43, List.length_cons, List.length_nil, Nat.reduceAdd, Nat.reduceSub, Nat.reduceMul, Nat.reduceBEq, List.map_cons, List.map_nil, List.headD_cons, List.getElem?_cons_zero, List.getElem?_cons_succ, List.set_cons_zero, List.set_cons_succ]
  simp (disch := omega) only [nI_add, n_and, n_or, n_xor, n_i31, nI_leI, nI_ltI, n_e0, n_eq, n_m1e, n_l0, n_g0, n_p0, n_q0, n_cl, n_in, n_sub, n_shr, n_shl, n_div, bI_0, n_01, n_11, bI_or, not_false_eq_true, forall_const, not_true_eq_false, false_imp_iff, true_imp_iff]
  refine ⟨fun z => ?_, fun z => ?_⟩
  · rw [z] at hq
    refine hK 1 _ _ _ _ _ _ _ _ rfl ?_
    dsimp only [k_P_hasRoom_1, wpI, xop, xcall, xli, xlj, xlf, xld, xla, xlg, xst, xst2, xc1, pI, pJ, pF, pD, pR, pA, p1, p0, xpop, xpush, xsm, xhas, xif, xic, xsw, xai, xal, xhi, xhv, xrf, xret, xrtl, xrtf, xrtd, xrta, xrtv, xfit, xnew, cond_true, cond_false, f40, f41, f42, f43, List.length_cons, List.length_nil, Nat.reduceAdd, Nat.reduceSub, Nat.reduceMul, Nat.reduceBEq, List.map_cons, List.map_nil, List.headD_cons, List.getElem?_cons_zero, List.getElem?_cons_succ, List.set_cons_zero, List.set_cons_succ]
    simp (disch := omega) only [nI_add, n_and, n_or, n_xor, n_i31, nI_leI, nI_ltI, n_e0, n_eq, n_m1e, n_l0, n_g0, n_p0, n_q0, n_cl, n_in, n_sub, n_shr, n_shl, n_div, bI_0, n_01, n_11, bI_or, not_false_eq_true, forall_const, not_true_eq_false, false_imp_iff, true_imp_iff]
    refine ⟨fun z1 => ?_, fun z1 => ?_⟩
    · subst z1
      refine hK 2 _ _ _ _ _ _ _ _ rfl ?_
      dsimp only [k_P_hasRoom_2, wpI, xop, xcall, xli, xlj, xlf, xld, xla, xlg, xst, xst2, xc1, pI, pJ, pF, pD, pR, pA, p1, p0, xpop, xpush, xsm, xhas, xif, xic, xsw, xai, xal, xhi, xhv, xrf, xret, xrtl, xrtf, xrtd, xrta, xrtv, xfit, xnew, cond_true, cond_false, f40, f41, f42, f43, List.length_cons, List.length_nil, Nat.reduceAdd, Nat.reduceSub, Nat.reduceMul, Nat.reduceBEq, List.map_cons, List.map_nil, List.headD_cons, List.getElem?_cons_zero, List.getElem?_cons_succ, List.set_cons_zero, List.set_cons_succ]
      refine hK 4 _ _ _ _ _ _ _ _ rfl ?_
      dsimp only [k_P_hasRoom_4, wpI, xop, xcall, xli, xlj, xlf, xld, xla, xlg, xst, xst2, xc1, pI, pJ, pF, pD, pR, pA, p1, p0, xpop, xpush, xsm, xhas, xif, xic, xsw, xai, xal, xhi, xhv, xrf, xret, xrtl, xrtf, xrtd, xrta, xrtv, xfit, xnew, cond_true, cond_false, f40, f41, f42, f43, List.length_cons, List.length_nil, Nat.reduceAdd, Nat.reduceSub, Nat.reduceMul, Nat.reduceBEq, List.map_cons, List.map_nil, List.headD_cons, List.getElem?_cons_zero, List.getElem?_cons_succ, List.set_cons_zero, List.set_cons_succ]
      exact ⟨Or.inr rfl, Nat.le_refl _, Nat.le_refl _, hq⟩
    · simp (disch := omega) only [nI_add, n_and, n_or, n_xor, n_i31, nI_leI, nI_ltI, n_e0, n_eq, n_m1e, n_l0, n_g0, n_p0, n_q0, n_cl, n_in, n_sub, n_shr, n_shl, n_div, bI_0, n_01, n_11, bI_or, not_false_eq_true, forall_const, not_true_eq_false, false_imp_iff, true_imp_iff]
      refine Ev_use (ev_hasBottle _ m (r - 1) p h hm (by omega) (by omega)) ?_
      dsimp only [wpI, xop, xcall, xli, xlj, xlf, xld, xla, xlg, xst, xst2, xc1, pI, pJ, pF, pD, pR, pA, p1, p0, xpop, xpush, xsm, xhas, xif, xic, xsw, xai, xal, xhi, xhv, xrf, xret, xrtl, xrtf, xrtd, xrta, xrtv, xfit, xnew, cond_true, cond_false, f40, f41, f42, f43, List.length_cons, List.length_nil, Nat.reduceAdd, Nat.reduceSub, Nat.reduceMul, Nat.reduceBEq, List.map_cons, List.map_nil, List.headD_cons, List.getElem?_cons_zero, List.getElem?_cons_succ, List.set_cons_zero, List.set_cons_succ]
      simp (disch := omega) only [nI_add, n_and, n_or, n_xor, n_i31, nI_leI, nI_ltI, n_e0, n_eq, n_m1e, n_l0, n_g0, n_p0, n_q0, n_cl, n_in, n_sub, n_shr, n_shl, n_div, bI_0, n_01, n_11, bI_or, not_false_eq_true, forall_const, not_true_eq_false, false_imp_iff, true_imp_iff]
      have e0 : (r == 0) = false := by simpa using z1
      rw [e0] at hq
      refine ⟨fun z2 => ?_, fun z2 => ?_⟩
      · rw [z2] at hq
        refine hK 3 _ _ _ _ _ _ _ _ rfl ?_
        dsimp only [k_P_hasRoom_3, wpI, xop, xcall, xli, xlj, xlf, xld, xla, xlg, xst, xst2, xc1, pI, pJ, pF, pD, pR, pA, p1, p0, xpop, xpush, xsm, xhas, xif, xic, xsw, xai, xal, xhi, xhv, xrf, xret, xrtl, xrtf, xrtd, xrta, xrtv, xfit, xnew, cond_true, cond_false, f40, f41, f42, f43, List.length_cons, List.length_nil, Nat.reduceAdd, Nat.reduceSub, Nat.reduceMul, Nat.reduceBEq, List.map_cons, List.map_nil, List.headD_cons, List.getElem?_cons_zero, List.getElem?_cons_succ, List.set_cons_zero, List.set_cons_succ]
        refine hK 4 _ _ _ _ _ _ _ _ rfl ?_
        dsimp only [k_P_hasRoom_4, wpI, xop, xcall, xli, xlj, xlf, xld, xla, xlg, xst, xst2, xc1, pI, pJ, pF, pD, pR, pA, p1, p0, xpop, xpush, xsm, xhas, xif, xic, xsw, xai, xal, xhi, xhv, xrf, xret, xrtl, xrtf, xrtd, xrta, xrtv, xfit, xnew, cond_true, cond_false, f40, f41, f42, f43, List.length_cons, List.length_nil, Nat.reduceAdd, Nat.reduceSub, Nat.reduceMul, Nat.reduceBEq, List.map_cons, List.map_nil, List.headD_cons, List.getElem?_cons_zero, List.getElem?_cons_succ, List.set_cons_zero, List.set_cons_succ]
        exact ⟨Or.inl rfl, Nat.le_refl _, Nat.le_refl _, hq⟩
      · rw [b_nf z2] at hq
        refine Ev_use (ev_hasBottle _ m (r - 1) (p + 1) h hm (by omega) (by omega)) ?_
        dsimp only [wpI, xop, xcall, xli, xlj, xlf, xld, xla, xlg, xst, xst2, xc1, pI, pJ, pF, pD, pR, pA, p1, p0, xpop, xpush, xsm, xhas, xif, xic, xsw, xai, xal, xhi, xhv, xrf, xret, xrtl, xrtf, xrtd, xrta, xrtv, xfit, xnew, cond_true, cond_false, f40, f41, f42, f43, List.length_cons, List.length_nil, Nat.reduceAdd, Nat.reduceSub, Nat.reduceMul, Nat.reduceBEq, List.map_cons, List.map_nil, List.headD_cons, List.getElem?_cons_zero, List.getElem?_cons_succ, List.set_cons_zero, List.set_cons_succ]
        simp (disch := omega) only [nI_add, n_and, n_or, n_xor, n_i31, nI_leI, nI_ltI, n_e0, n_eq, n_m1e, n_l0, n_g0, n_p0, n_q0, n_cl, n_in, n_sub, n_shr, n_shl, n_div, bI_0, n_01, n_11, bI_or, not_false_eq_true, forall_const, not_true_eq_false, false_imp_iff, true_imp_iff]
        refine ⟨fun z3 => ?_, fun z3 => ?_⟩
        · rw [z3] at hq
          refine hK 3 _ _ _ _ _ _ _ _ rfl ?_
          dsimp only [k_P_hasRoom_3, wpI, xop, xcall, xli, xlj, xlf, xld, xla, xlg, xst, xst2, xc1, pI, pJ, pF, pD, pR, pA, p1, p0, xpop, xpush, xsm, xhas, xif, xic, xsw, xai, xal, xhi, xhv, xrf, xret, xrtl, xrtf, xrtd, xrta, xrtv, xfit, xnew, cond_true, cond_false, f40, f41, f42, f43, List.length_cons, List.length_nil, Nat.reduceAdd, Nat.reduceSub, Nat.reduceMul, Nat.reduceBEq, List.map_cons, List.map_nil, List.headD_cons, List.getElem?_cons_zero, List.getElem?_cons_succ, List.set_cons_zero, List.set_cons_succ]
          refine hK 4 _ _ _ _ _ _ _ _ rfl ?_
          dsimp only [k_P_hasRoom_4, wpI, xop, xcall, xli, xlj, xlf, xld, xla, xlg, xst, xst2, xc1, pI, pJ, pF, pD, pR, pA, p1, p0, xpop, xpush, xsm, xhas, xif, xic, xsw, xai, xal, xhi, xhv, xrf, xret, xrtl, xrtf, xrtd, xrta, xrtv, xfit, xnew, cond_true, cond_false, f40, f41, f42, f43, List.length_cons, List.length_nil, Nat.reduceAdd, Nat.reduceSub, Nat.reduceMul, Nat.reduceBEq, List.map_cons, List.map_nil, List.headD_cons, List.getElem?_cons_zero, List.getElem?_cons_succ, List.set_cons_zero, List.set_cons_succ]
          exact ⟨Or.inl rfl, Nat.le_refl _, Nat.le_refl _, hq⟩
        · rw [b_nf z3] at hq
          refine hK 2 _ _ _ _ _ _ _ _ rfl ?_
          dsimp only [k_P_hasRoom_2, wpI, xop, xcall, xli, xlj, xlf, xld, xla, xlg, xst, xst2, xc1, pI, pJ, pF, pD, pR, pA, p1, p0, xpop, xpush, xsm, xhas, xif, xic, xsw, xai, xal, xhi, xhv, xrf, xret, xrtl, xrtf, xrtd, xrta, xrtv, xfit, xnew, cond_true, cond_false, f40, f41, f42, f43, List.length_cons, List.length_nil, Nat.reduceAdd, Nat.reduceSub, Nat.reduceMul, Nat.reduceBEq, List.map_cons, List.map_nil, List.headD_cons, List.getElem?_cons_zero, List.getElem?_cons_succ, List.set_cons_zero, List.set_cons_succ]
          refine hK 4 _ _ _ _ _ _ _ _ rfl ?_
          dsimp only [k_P_hasRoom_4, wpI, xop, xcall, xli, xlj, xlf, xld, xla, xlg, xst, xst2, xc1, pI, pJ, pF, pD, pR, pA, p1, p0, xpop, xpush, xsm, xhas, xif, xic, xsw, xai, xal, xhi, xhv, xrf, xret, xrtl, xrtf, xrtd, xrta, xrtv, xfit, xnew, cond_true, cond_false, f40, f41, f42, f43, List.length_cons, List.length_nil, Nat.reduceAdd, Nat.reduceSub, Nat.reduceMul, Nat.reduceBEq, List.map_cons, List.map_nil, List.headD_cons, List.getElem?_cons_zero, List.getElem?_cons_succ, List.set_cons_zero, List.set_cons_succ]
          exact ⟨Or.inr rfl, Nat.le_refl _, Nat.le_refl _, hq⟩
  · rw [b_nf z] at hq
    exact ⟨Or.inl trivial, Nat.le_refl _, Nat.le_refl _, hq⟩
def stl (m : Nat) : Nat → Nat → Nat → Nat → Nat
  | 0, _, l, _ => l
  | j + 1, i, l, b => stl m j (i + 1) (l ||| (((m >>> rsN i) &&& b &&& (b >>> 1)) <<< rsN i)) ((m >>> rsN i) &&& b &&& (b >>> 1))
def settledN (m : Nat) : Nat := stl m 4 1 (m &&& 31) (m &&& 31)
set_option maxRecDepth 100000 in
set_option maxHeartbeats 4000000 in
theorem ev_settled (d m : Nat) (h : xH) (hm : m < 32768) : Ev xT (d + 1) N_P_settled [.int (nI m)] h (Rt (some (.int (nI (settledN m)))) h) NX := by
  refine Ev_intro t_P_settled (Nat.le_of_ble_eq_true rfl) ?_
  intro Q X hQ hX K hK
  show K 0 [some (.int (nI m)), none, none, none] [] _ 0 0
  have loop : ∀ (j i l b : Nat), i + j = 5 → l < 32768 → b < 32 → Q (some (.int (nI (stl m j i l b)))) h → K 1 [some (.int (nI m)), some (.int (nI l)), some (.int (nI b)), some (.int (nI i))] [] h 0 0 := by
    intro j
    induction j with
    | zero =>
      intro i l b hi hl hb hq
      obtain rfl : i = 5 := by omega
      refine hK 1 _ _ _ _ _ _ _ _ rfl ?_
      dsimp only [k_P_settled_1, wpI, xop, xcall, xli, xlj, xlf, xld, xla, xlg, xst, xst2, xc1, pI, pJ, pF, pD, pR, pA, p1, p0, xpop, xpush, xsm, xhas, xif, xic, xsw, xai, xal, xhi, xhv, xrf, xret, xrtl, xrtf, xrtd, xrta, xrtv, xfit, xnew, cond_true, cond_false, f40, f41, f42, f43, List.length_cons, List.length_nil, Nat.reduceAdd, Nat.reduceSub, Nat.reduceMul, Nat.reduceBEq, List.map_cons, List.map_nil, List.headD_cons, List.getElem?_cons_zero, List.getElem?_cons_succ, List.set_cons_zero, List.set_cons_succ]
      refine br_t (by decide) ?_
      refine hK 2 _ _ _ _ _ _ _ _ rfl ?_
      dsimp only [k_P_settled_2, wpI, xop, xcall, xli, xlj, xlf, xld, xla, xlg, xst, xst2, xc1, pI, pJ, pF, pD, pR, pA, p1, p0, xpop, xpush, xsm, xhas, xif, xic, xsw, xai, xal, xhi, xhv, xrf, xret, xrtl, xrtf, xrtd, xrta, xrtv, xfit, xnew, cond_true, cond_false, f40, f41, f42, f43, List.length_cons, List.length_nil, Nat.reduceAdd, Nat.reduceSub, Nat.reduceMul, Nat.reduceBEq, List.map_cons, List.map_nil, List.headD_cons, List.getElem?_cons_zero, List.getElem?_cons_succ, List.set_cons_zero, List.set_cons_succ]
      exact ⟨Nat.le_refl _, Nat.le_refl _, hq⟩
    | succ j ih =>
      intro i l b hi hl hb hq
      have hr := rs_lt i
      have h1 : ((m >>> rsN i) &&& b &&& (b >>> 1)) < 32 := Nat.lt_of_le_of_lt (Nat.le_trans Nat.and_le_left Nat.and_le_right) hb
      have h2 : ((m >>> rsN i) &&& b &&& (b >>> 1)) <<< rsN i < 2 ^ 19 := by
        rw [Nat.shiftLeft_eq]
        exact Nat.lt_of_lt_of_le (Nat.mul_lt_mul_of_lt_of_le h1 (Nat.pow_le_pow_right (by decide) (Nat.le_of_lt_succ hr)) (Nat.two_pow_pos _)) (by decide)
      refine hK 1 _ _ _ _ _ _ _ _ rfl ?_
      dsimp only [k_P_settled_1, wpI, xop, xcall, xli, xlj, xlf, xld, xla, xlg, xst, xst2, xc1, pI, pJ, pF, pD, pR, pA, p1, p0, xpop, xpush, xsm, xhas, xif, xic, xsw, xai, xal, xhi, xhv, xrf, xret, xrtl, xrtf, xrtd, xrta, xrtv, xfit, xnew, cond_true, cond_false, f40, f41, f42, f43, List.length_cons, List.length_nil, Nat.reduceAdd, Nat.reduceSub, Nat.reduceMul, Nat.reduceBEq, List.map_cons, List.map_nil, List.headD_cons, List.getElem?_cons_zero, List.getElem?_cons_succ, List.set_cons_zero, List.set_cons_succ]
      simp (disch := omega) only [nI_add, n_and, n_or, n_xor, n_i31, nI_leI, nI_ltI, n_e0, n_eq, n_m1e, n_l0, n_g0, n_p0, n_q0, n_cl, n_in, n_sub, n_shr, n_shl, n_div, bI_0, n_01, n_11, bI_or, not_false_eq_true, forall_const, not_true_eq_false, false_imp_iff, true_imp_iff, rs_at]
      refine br_f (by omega) ⟨by omega, by omega, ?_⟩
      refine ih (i + 1) _ _ (by omega) ?_ h1 hq
      exact Nat.or_lt_two_pow (n := 15) hl (Nat.lt_of_le_of_lt (sh_le m (rsN i) _ _) hm)
  refine hK 0 _ _ _ _ _ _ _ _ rfl ?_
  dsimp only [k_P_settled_0, wpI, xop, xcall, xli, xlj, xlf, xld, xla, xlg, xst, xst2, xc1, pI, pJ, pF, pD, pR, pA, p1, p0, xpop, xpush, xsm, xhas, xif, xic, xsw, xai, xal, xhi, xhv, xrf, xret, xrtl, xrtf, xrtd, xrta, xrtv, xfit, xnew, cond_true, cond_false, f40, f41, f42, f43, List.length_cons, List.length_nil, Nat.reduceAdd, Nat.reduceSub, Nat.reduceMul, Nat.reduceBEq, List.map_cons, List.map_nil, List.headD_cons, List.getElem?_cons_zero, List.getElem?_cons_succ, List.set_cons_zero, List.set_cons_succ]
  simp (disch := omega) only [nI_add, n_and, n_or, n_xor, n_i31, nI_leI, nI_ltI, n_e0, n_eq, n_m1e, n_l0, n_g0, n_p0, n_q0, n_cl, n_in, n_sub, n_shr, n_shl, n_div, bI_0, n_01, n_11, bI_or, not_false_eq_true, forall_const, not_true_eq_false, false_imp_iff, true_imp_iff]
  have h31 : m &&& 31 < 32 := Nat.lt_of_le_of_lt Nat.and_le_right (by decide)
  exact loop 4 1 _ _ rfl (by omega) h31 (hQ _ _ ⟨rfl, rfl⟩)
/-! bitCount -/
theorem n_ush {n k : Nat} (hn : n < 2 ^ 32) (hk : k < 32) : ((nI n).toUInt32 >>> ((nI k).toUInt32 &&& Int32.toUInt32 31)).toInt32 = nI (n >>> k) := by
  have key : ∀ k, k < 32 → (((nI k).toUInt32 &&& Int32.toUInt32 31).toBitVec % 32).toNat = k := by decide +kernel
  rw [pk_ushrN hn _ k (key k hk), Nat.shiftRight_eq_div_pow]
def popN : Nat → Nat → Nat
  | 0, _ => 0
  | k + 1, n => popN k n + (n >>> k &&& 1)
abbrev pop (n : Nat) : Nat := popN 15 n
def bcA (n : Nat) : Nat := n - ((n >>> 1) &&& 1431655765)
def bcB (a : Nat) : Nat := (a &&& 858993459) + ((a >>> 2) &&& 858993459)
def bcC (b : Nat) : Nat := (b + (b >>> 4)) &&& 252645135
def bcD (c : Nat) : Nat := c + (c >>> 8)
def bcE (c : Nat) : Nat := (c + (c >>> 16)) &&& 63
theorem bc_pop : ∀ n, n < 32768 → bcE (bcD (bcC (bcB (bcA n)))) = pop n := by
  have key : (List.range 32768).all (fun n => Nat.beq (bcE (bcD (bcC (bcB (bcA n))))) (pop n)) = true := by decide +kernel
  intro n hn
  exact Nat.eq_of_beq_eq_true (List.all_eq_true.mp key n (List.mem_range.mpr hn))
set_option maxRecDepth 100000 in
set_option maxHeartbeats 4000000 in
theorem ev_bitCount (d n : Nat) (h : xH) (hn : n < 32768) : Ev xT (d + 1) N_J_bitCount [.int (nI n)] h (Rt (some (.int (nI (pop n)))) h) NX := by
  refine Ev_intro t_J_bitCount (Nat.le_of_ble_eq_true rfl) ?_
  intro Q X hQ hX K hK
  show K 0 [some (.int (nI n))] [] _ 0 0
  have a1 : (n >>> 1) &&& 1431655765 ≤ n := Nat.le_trans Nat.and_le_left (by rw [Nat.shiftRight_eq_div_pow]; exact Nat.div_le_self _ _)
  refine hK 0 _ _ _ _ _ _ _ _ rfl ?_
  dsimp only [k_J_bitCount_0, wpI, xop, xcall, xli, xlj, xlf, xld, xla, xlg, xst, xst2, xc1, pI, pJ, pF, pD, pR, pA, p1, p0, xpop, xpush, xsm, xhas, xif, xic, xsw, xai, xal, xhi, xhv, xrf, xret, xrtl, xrtf, xrtd, xrta, xrtv, xfit, xnew, cond_true, cond_false, f40, f41, f42, f43, List.length_cons, List.length_nil, Nat.reduceAdd, Nat.reduceSub, Nat.reduceMul, Nat.reduceBEq, List.map_cons, List.map_nil, List.headD_cons, List.getElem?_cons_zero, List.getElem?_cons_succ, List.set_cons_zero, List.set_cons_succ]
  simp (disch := omega) only [nI_add, n_and, n_or, n_xor, n_i31, nI_leI, nI_ltI, n_e0, n_eq, n_m1e, n_l0, n_g0, n_p0, n_q0, n_cl, n_in, n_sub, n_shr, n_shl, n_div, bI_0, n_01, n_11, bI_or, not_false_eq_true, forall_const, not_true_eq_false, false_imp_iff, true_imp_iff, n_ush]
  have ha : bcA n ≤ n := Nat.sub_le _ _
  have e1 : n - (n >>> 1 &&& 1431655765) = bcA n := rfl
  rw [e1]
  have hb : bcB (bcA n) ≤ 858993459 + 858993459 := Nat.add_le_add Nat.and_le_right Nat.and_le_right
  have e2 : (bcA n &&& 858993459) + (bcA n >>> 2 &&& 858993459) = bcB (bcA n) := rfl
  rw [e2]
  simp (disch := omega) only [nI_add, n_and, n_or, n_xor, n_i31, nI_leI, nI_ltI, n_e0, n_eq, n_m1e, n_l0, n_g0, n_p0, n_q0, n_cl, n_in, n_sub, n_shr, n_shl, n_div, bI_0, n_01, n_11, bI_or, not_false_eq_true, forall_const, not_true_eq_false, false_imp_iff, true_imp_iff, n_ush]
  have hc : bcC (bcB (bcA n)) ≤ 252645135 := Nat.and_le_right
  have e3 : (bcB (bcA n) + bcB (bcA n) >>> 4) &&& 252645135 = bcC (bcB (bcA n)) := rfl
  rw [e3]
  simp (disch := omega) only [nI_add, n_and, n_or, n_xor, n_i31, nI_leI, nI_ltI, n_e0, n_eq, n_m1e, n_l0, n_g0, n_p0, n_q0, n_cl, n_in, n_sub, n_shr, n_shl, n_div, bI_0, n_01, n_11, bI_or, not_false_eq_true, forall_const, not_true_eq_false, false_imp_iff, true_imp_iff, n_ush]
  have hd : bcD (bcC (bcB (bcA n))) ≤ 252645135 + 252645135 := Nat.add_le_add hc (Nat.le_trans (by rw [Nat.shiftRight_eq_div_pow]; exact Nat.div_le_self _ _) hc)
  have e4 : bcC (bcB (bcA n)) + bcC (bcB (bcA n)) >>> 8 = bcD (bcC (bcB (bcA n))) := rfl
  rw [e4]
  have e5 : (bcD (bcC (bcB (bcA n))) + bcD (bcC (bcB (bcA n))) >>> 16) &&& 63 = pop n := bc_pop n hn
  rw [e5]
  exact ⟨Nat.le_refl _, Nat.le_refl _, hQ _ _ ⟨rfl, rfl⟩⟩
/-! robbed -/
def robL (m t r : Nat) : Nat → Nat → Nat → Nat → Nat × Nat
  | 0, _, l, b => (l, b)
  | j + 1, i, l, b => if b = 0 then (l, b) else
    if l.testBit (rsN r + (if t = 0 then i else 4 - r - i)) then robL m t r j (i + 1) (l &&& ((1 <<< (rsN r + (if t = 0 then i else 4 - r - i))) ^^^ 4294967295)) (b - 1) else robL m t r j (i + 1) l b
/-- what a theft leaves before anything falls, and how many are still wanting -/
def robN (m t r b : Nat) : Nat × Nat := robL m t r (5 - r) 0 m b
theorem robL_lt {m t r : Nat} : ∀ (j i l b : Nat), l < 32768 → (robL m t r j i l b).1 < 32768
  | 0, _, l, _, h => h
  | j + 1, i, l, b, h => by
    rw [robL]
    by_cases hb : b = 0
    · rw [if_pos hb]; exact h
    · rw [if_neg hb]
      by_cases hc : l.testBit (rsN r + (if t = 0 then i else 4 - r - i)) = true
      · rw [if_pos hc]; exact robL_lt j _ _ _ (Nat.lt_of_le_of_lt Nat.and_le_left h)
      · rw [if_neg hc]; exact robL_lt j _ _ _ h
theorem rob_lt {m t r b : Nat} (h : m < 32768) : (robN m t r b).1 < 32768 := robL_lt _ _ _ _ h
set_option maxRecDepth 100000 in
set_option maxHeartbeats 4000000 in
theorem ev_robbed (d m t r b : Nat) (h : xH) (hm : m < 32768) (ht : t < 2) (hr : r < 5) (hb : b < 100) : Ev xT (d + 1) N_P_robbed [.int (nI m), .int (nI t), .int (nI r), .int (nI b)] h (Rt (some (.int (if (robN m t r b).2 = 0 then nI (robN m t r b).1 else -1))) h) NX := by
  refine Ev_intro t_P_robbed (Nat.le_of_ble_eq_true rfl) ?_
  intro Q X hQ hX K hK
  show K 0 [some (.int (nI m)), some (.int (nI t)), some (.int (nI r)), some (.int (nI b)), none, none, none, none, none] [] _ 0 0
  have fin : ∀ (L7 L8 : Option Value) (i l b' : Nat), b' < 100 → Q (some (.int (if b' = 0 then nI l else -1))) h → K 5 [some (.int (nI m)), some (.int (nI t)), some (.int (nI r)), some (.int (nI b)), some (.int (nI l)), some (.int (nI b')), some (.int (nI i)), L7, L8] [] h 0 0 := by
    intro L7 L8 i l b' hb' hq
    refine hK 5 _ _ _ _ _ _ _ _ rfl ?_
    dsimp only [k_P_robbed_5, wpI, xop, xcall, xli, xlj, xlf, xld, xla, xlg, xst, xst2, xc1, pI, pJ, pF, pD, pR, pA, p1, p0, xpop, xpush, xsm, xhas, xif, xic, xsw, xai, xal, xhi, xhv, xrf, xret, xrtl, xrtf, xrtd, xrta, xrtv, xfit, xnew, cond_true, cond_false, f40, f41, f42, f43, List.length_cons, List.length_nil, Nat.reduceAdd, Nat.reduceSub, Nat.reduceMul, Nat.reduceBEq, List.map_cons, List.map_nil, List.headD_cons, List.getElem?_cons_zero, List.getElem?_cons_succ, List.set_cons_zero, List.set_cons_succ]
    simp (disch := omega) only [nI_add, n_and, n_or, n_xor, n_i31, nI_leI, nI_ltI, n_e0, n_eq, n_m1e, n_l0, n_g0, n_p0, n_q0, n_cl, n_in, n_sub, n_shr, n_shl, n_div, bI_0, n_01, n_11, bI_or, not_false_eq_true, forall_const, not_true_eq_false, false_imp_iff, true_imp_iff]
    refine ⟨fun z => ?_, fun z => ?_⟩
    · rw [if_neg z] at hq
      refine hK 6 _ _ _ _ _ _ _ _ rfl ?_
      dsimp only [k_P_robbed_6, wpI, xop, xcall, xli, xlj, xlf, xld, xla, xlg, xst, xst2, xc1, pI, pJ, pF, pD, pR, pA, p1, p0, xpop, xpush, xsm, xhas, xif, xic, xsw, xai, xal, xhi, xhv, xrf, xret, xrtl, xrtf, xrtd, xrta, xrtv, xfit, xnew, cond_true, cond_false, f40, f41, f42, f43, List.length_cons, List.length_nil, Nat.reduceAdd, Nat.reduceSub, Nat.reduceMul, Nat.reduceBEq, List.map_cons, List.map_nil, List.headD_cons, List.getElem?_cons_zero, List.getElem?_cons_succ, List.set_cons_zero, List.set_cons_succ]
      refine hK 7 _ _ _ _ _ _ _ _ rfl ?_
      dsimp only [k_P_robbed_7, wpI, xop, xcall, xli, xlj, xlf, xld, xla, xlg, xst, xst2, xc1, pI, pJ, pF, pD, pR, pA, p1, p0, xpop, xpush, xsm, xhas, xif, xic, xsw, xai, xal, xhi, xhv, xrf, xret, xrtl, xrtf, xrtd, xrta, xrtv, xfit, xnew, cond_true, cond_false, f40, f41, f42, f43, List.length_cons, List.length_nil, Nat.reduceAdd, Nat.reduceSub, Nat.reduceMul, Nat.reduceBEq, List.map_cons, List.map_nil, List.headD_cons, List.getElem?_cons_zero, List.getElem?_cons_succ, List.set_cons_zero, List.set_cons_succ]
      exact ⟨Nat.le_refl _, Nat.le_refl _, hq⟩
    · rw [if_pos z] at hq
      refine hK 7 _ _ _ _ _ _ _ _ rfl ?_
      dsimp only [k_P_robbed_7, wpI, xop, xcall, xli, xlj, xlf, xld, xla, xlg, xst, xst2, xc1, pI, pJ, pF, pD, pR, pA, p1, p0, xpop, xpush, xsm, xhas, xif, xic, xsw, xai, xal, xhi, xhv, xrf, xret, xrtl, xrtf, xrtd, xrta, xrtv, xfit, xnew, cond_true, cond_false, f40, f41, f42, f43, List.length_cons, List.length_nil, Nat.reduceAdd, Nat.reduceSub, Nat.reduceMul, Nat.reduceBEq, List.map_cons, List.map_nil, List.headD_cons, List.getElem?_cons_zero, List.getElem?_cons_succ, List.set_cons_zero, List.set_cons_succ]
      exact ⟨Nat.le_refl _, Nat.le_refl _, hq⟩
  have loop : ∀ (j i l b' : Nat) (L7 L8 : Option Value), i + j = 5 - r → l < 32768 → b' < 100 → Q (some (.int (if (robL m t r j i l b').2 = 0 then nI (robL m t r j i l b').1 else -1))) h → K 1 [some (.int (nI m)), some (.int (nI t)), some (.int (nI r)), some (.int (nI b)), some (.int (nI l)), some (.int (nI b')), some (.int (nI i)), L7, L8] [] h 0 0 := by
    intro j
    induction j with
    | zero =>
      intro i l b' L7 L8 hi hl hb' hq
      refine hK 1 _ _ _ _ _ _ _ _ rfl ?_
      dsimp only [k_P_robbed_1, wpI, xop, xcall, xli, xlj, xlf, xld, xla, xlg, xst, xst2, xc1, pI, pJ, pF, pD, pR, pA, p1, p0, xpop, xpush, xsm, xhas, xif, xic, xsw, xai, xal, xhi, xhv, xrf, xret, xrtl, xrtf, xrtd, xrta, xrtv, xfit, xnew, cond_true, cond_false, f40, f41, f42, f43, List.length_cons, List.length_nil, Nat.reduceAdd, Nat.reduceSub, Nat.reduceMul, Nat.reduceBEq, List.map_cons, List.map_nil, List.headD_cons, List.getElem?_cons_zero, List.getElem?_cons_succ, List.set_cons_zero, List.set_cons_succ]
      simp (disch := omega) only [nI_add, n_and, n_or, n_xor, n_i31, nI_leI, nI_ltI, n_e0, n_eq, n_m1e, n_l0, n_g0, n_p0, n_q0, n_cl, n_in, n_sub, n_shr, n_shl, n_div, bI_0, n_01, n_11, bI_or, not_false_eq_true, forall_const, not_true_eq_false, false_imp_iff, true_imp_iff]
      exact br_t (by omega) (fin _ _ i l b' hb' hq)
    | succ j ih =>
      intro i l b' L7 L8 hi hl hb' hq
      refine hK 1 _ _ _ _ _ _ _ _ rfl ?_
      dsimp only [k_P_robbed_1, wpI, xop, xcall, xli, xlj, xlf, xld, xla, xlg, xst, xst2, xc1, pI, pJ, pF, pD, pR, pA, p1, p0, xpop, xpush, xsm, xhas, xif, xic, xsw, xai, xal, xhi, xhv, xrf, xret, xrtl, xrtf, xrtd, xrta, xrtv, xfit, xnew, cond_true, cond_false, f40, f41, f42, f43, List.length_cons, List.length_nil, Nat.reduceAdd, Nat.reduceSub, Nat.reduceMul, Nat.reduceBEq, List.map_cons, List.map_nil, List.headD_cons, List.getElem?_cons_zero, List.getElem?_cons_succ, List.set_cons_zero, List.set_cons_succ]
      simp (disch := omega) only [nI_add, n_and, n_or, n_xor, n_i31, nI_leI, nI_ltI, n_e0, n_eq, n_m1e, n_l0, n_g0, n_p0, n_q0, n_cl, n_in, n_sub, n_shr, n_shl, n_div, bI_0, n_01, n_11, bI_or, not_false_eq_true, forall_const, not_true_eq_false, false_imp_iff, true_imp_iff]
      refine br_f (by omega) ?_
      refine ⟨fun z => ?_, fun z => ?_⟩
      · unfold robL at hq
        rw [if_pos z] at hq
        exact fin _ _ i l b' hb' hq
      · have main : ∀ p, p = (if t = 0 then i else 4 - r - i) → K 3 [some (.int (nI m)), some (.int (nI t)), some (.int (nI r)), some (.int (nI b)), some (.int (nI l)), some (.int (nI b')), some (.int (nI i)), L7, L8] [.int (nI p)] h 0 0 := by
          intro p hp
          have hp5 : p < 5 := by rw [hp]; split <;> omega
          have h2 := bit_lt (r := r) hp5
          have h1 := rs_lt r
          have h3 : l &&& 1 <<< (rsN r + p) < 32768 := Nat.lt_of_le_of_lt Nat.and_le_left hl
          unfold robL at hq
          rw [if_neg z, ← hp] at hq
          generalize hbt : l.testBit (rsN r + p) = bt at hq
          refine hK 3 _ _ _ _ _ _ _ _ rfl ?_
          dsimp only [k_P_robbed_3, wpI, xop, xcall, xli, xlj, xlf, xld, xla, xlg, xst, xst2, xc1, pI, pJ, pF, pD, pR, pA, p1, p0, xpop, xpush, xsm, xhas, xif, xic, xsw, xai, xal, xhi, xhv, xrf, xret, xrtl, xrtf, xrtd, xrta, xrtv, xfit, xnew, cond_true, cond_false, f40, f41, f42, f43, List.length_cons, List.length_nil, Nat.reduceAdd, Nat.reduceSub, Nat.reduceMul, Nat.reduceBEq, List.map_cons, List.map_nil, List.headD_cons, List.getElem?_cons_zero, List.getElem?_cons_succ, List.set_cons_zero, List.set_cons_succ]
          rw [n_m1]
          simp (disch := omega) only [nI_add, n_and, n_or, n_xor, n_i31, nI_leI, nI_ltI, n_e0, n_eq, n_m1e, n_l0, n_g0, n_p0, n_q0, n_cl, n_in, n_sub, n_shr, n_shl, n_div, bI_0, n_01, n_11, bI_or, not_false_eq_true, forall_const, not_true_eq_false, false_imp_iff, true_imp_iff, rs_at]
          rw [and_bit]
          refine ⟨hr, fun z2 => ?_, fun z2 => ?_⟩
          · rw [z2] at hbt
            subst hbt
            simp only [Bool.false_eq_true, if_false] at hq
            refine hK 4 _ _ _ _ _ _ _ _ rfl ?_
            dsimp only [k_P_robbed_4, wpI, xop, xcall, xli, xlj, xlf, xld, xla, xlg, xst, xst2, xc1, pI, pJ, pF, pD, pR, pA, p1, p0, xpop, xpush, xsm, xhas, xif, xic, xsw, xai, xal, xhi, xhv, xrf, xret, xrtl, xrtf, xrtd, xrta, xrtv, xfit, xnew, cond_true, cond_false, f40, f41, f42, f43, List.length_cons, List.length_nil, Nat.reduceAdd, Nat.reduceSub, Nat.reduceMul, Nat.reduceBEq, List.map_cons, List.map_nil, List.headD_cons, List.getElem?_cons_zero, List.getElem?_cons_succ, List.set_cons_zero, List.set_cons_succ]
            simp (disch := omega) only [nI_add, n_and, n_or, n_xor, n_i31, nI_leI, nI_ltI, n_e0, n_eq, n_m1e, n_l0, n_g0, n_p0, n_q0, n_cl, n_in, n_sub, n_shr, n_shl, n_div, bI_0, n_01, n_11, bI_or, not_false_eq_true, forall_const, not_true_eq_false, false_imp_iff, true_imp_iff]
            exact ih (i + 1) l b' _ _ (by omega) hl hb' hq
          · rw [b_nf z2] at hbt
            subst hbt
            simp only [if_true] at hq
            have e9 : nI (b' + 4294967295) = nI (b' - 1) := by
              obtain ⟨c, rfl⟩ : ∃ c, b' = c + 1 := ⟨b' - 1, by omega⟩
              rw [← nI_add, ← n_m1]
              exact pk_m1 c
            rw [e9]
            refine hK 4 _ _ _ _ _ _ _ _ rfl ?_
            dsimp only [k_P_robbed_4, wpI, xop, xcall, xli, xlj, xlf, xld, xla, xlg, xst, xst2, xc1, pI, pJ, pF, pD, pR, pA, p1, p0, xpop, xpush, xsm, xhas, xif, xic, xsw, xai, xal, xhi, xhv, xrf, xret, xrtl, xrtf, xrtd, xrta, xrtv, xfit, xnew, cond_true, cond_false, f40, f41, f42, f43, List.length_cons, List.length_nil, Nat.reduceAdd, Nat.reduceSub, Nat.reduceMul, Nat.reduceBEq, List.map_cons, List.map_nil, List.headD_cons, List.getElem?_cons_zero, List.getElem?_cons_succ, List.set_cons_zero, List.set_cons_succ]
            simp (disch := omega) only [nI_add, n_and, n_or, n_xor, n_i31, nI_leI, nI_ltI, n_e0, n_eq, n_m1e, n_l0, n_g0, n_p0, n_q0, n_cl, n_in, n_sub, n_shr, n_shl, n_div, bI_0, n_01, n_11, bI_or, not_false_eq_true, forall_const, not_true_eq_false, false_imp_iff, true_imp_iff]
            exact ih (i + 1) _ (b' - 1) _ _ (by omega) (Nat.lt_of_le_of_lt Nat.and_le_left hl) (by omega) hq
        refine ⟨fun z1 => ?_, fun z1 => ?_⟩
        · refine hK 2 _ _ _ _ _ _ _ _ rfl ?_
          dsimp only [k_P_robbed_2, wpI, xop, xcall, xli, xlj, xlf, xld, xla, xlg, xst, xst2, xc1, pI, pJ, pF, pD, pR, pA, p1, p0, xpop, xpush, xsm, xhas, xif, xic, xsw, xai, xal, xhi, xhv, xrf, xret, xrtl, xrtf, xrtd, xrta, xrtv, xfit, xnew, cond_true, cond_false, f40, f41, f42, f43, List.length_cons, List.length_nil, Nat.reduceAdd, Nat.reduceSub, Nat.reduceMul, Nat.reduceBEq, List.map_cons, List.map_nil, List.headD_cons, List.getElem?_cons_zero, List.getElem?_cons_succ, List.set_cons_zero, List.set_cons_succ]
          simp (disch := omega) only [nI_add, n_and, n_or, n_xor, n_i31, nI_leI, nI_ltI, n_e0, n_eq, n_m1e, n_l0, n_g0, n_p0, n_q0, n_cl, n_in, n_sub, n_shr, n_shl, n_div, bI_0, n_01, n_11, bI_or, not_false_eq_true, forall_const, not_true_eq_false, false_imp_iff, true_imp_iff]
          exact main _ (by rw [if_neg z1])
        · exact main _ (by rw [if_pos z1])
  refine hK 0 _ _ _ _ _ _ _ _ rfl ?_
  dsimp only [k_P_robbed_0, wpI, xop, xcall, xli, xlj, xlf, xld, xla, xlg, xst, xst2, xc1, pI, pJ, pF, pD, pR, pA, p1, p0, xpop, xpush, xsm, xhas, xif, xic, xsw, xai, xal, xhi, xhv, xrf, xret, xrtl, xrtf, xrtd, xrta, xrtv, xfit, xnew, cond_true, cond_false, f40, f41, f42, f43, List.length_cons, List.length_nil, Nat.reduceAdd, Nat.reduceSub, Nat.reduceMul, Nat.reduceBEq, List.map_cons, List.map_nil, List.headD_cons, List.getElem?_cons_zero, List.getElem?_cons_succ, List.set_cons_zero, List.set_cons_succ]
  exact loop (5 - r) 0 m b none none (by omega) hm hb (hQ _ _ ⟨rfl, rfl⟩)
