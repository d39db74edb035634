/-! the model: its public calls that change the pyramid -/
def stM (N : List Nat) : Prop := N.length = 19 ∧ N.getD 0 0 < 32768 ∧ N.getD 1 0 < 2 ∧ 1 ≤ N.getD 6 0 ∧ N.getD 6 0 < 4 ∧ N.getD 7 0 < 2 ∧ N.getD 8 0 < 2
/-- an answer of a public call of the model: a code, and what it answers where the code is 0 -/
def Mr (c : Nat) (r : Option Value) (h1 h0 : xH) : Option Value → xH → Prop := fun v h => (c = 0 ∧ v = r ∧ h = h1) ∨ (c ≠ 0 ∧ v = some (.int (nI 0)) ∧ h = h0)
theorem inB_of {x : Int32} {k : Nat} (hk : k < 2 ^ 31) (h : inB x (nI 0) (nI k) = true) : ∃ r, r ≤ k ∧ x = nI r := by
  unfold inB at h
  rw [Bool.and_eq_true] at h
  obtain ⟨r, hr, rfl⟩ := nI_of (Int32.not_lt.mpr (of_decide_eq_true h.1))
  exact ⟨r, (nI_leI hr hk).mp (of_decide_eq_true h.2), rfl⟩
theorem inB_of1 {x : Int32} {k : Nat} (hk : k < 2 ^ 31) (h : inB x (nI 1) (nI k) = true) : ∃ r, 1 ≤ r ∧ r ≤ k ∧ x = nI r := by
  unfold inB at h
  rw [Bool.and_eq_true] at h
  have h1 : nI 1 ≤ x := of_decide_eq_true h.1
  obtain ⟨r, hr, rfl⟩ := nI_of (Int32.not_lt.mpr (Int32.le_trans (show (0 : Int32) ≤ nI 1 by decide) h1))
  exact ⟨r, (nI_leI (by decide) hr).mp h1, (nI_leI hr hk).mp (of_decide_eq_true h.2), rfl⟩
def mtkE (N : List Nat) (x y : Int32) : Nat := if inB x (nI 0) (nI 4) = true then (if inB y (nI 1) (nI (N.getD 6 0)) = true then (if mrsN N (N.getD 0 0) (N.getD 1 0) x.toNatClampNeg y.toNatClampNeg = 0 then 0 else 3) else 2) else 1
set_option maxRecDepth 100000 in
set_option maxHeartbeats 4000000 in
theorem ev_M_take (d : Nat) (x y : Int32) (z : Nat → xC) (N B K' T O R D : List Nat) (laid : Int32) (len st many at' thr : Nat) (isK : Bool) (g : xH) (ok : stM N) (hB : B.length = 114) (hs : st ≤ 6) :
    Ev xT (d + 6) N_M_take [.ref 7, .int x, .int y] (hM z N B K' T O R D laid len st many at' thr isK g) (Mr (mtkE N x y) (some (.int (nI (pop (mrN (N.getD 0 0) (N.getD 1 0) x.toNatClampNeg y.toNatClampNeg) - pop (mfN (mrN (N.getD 0 0) (N.getD 1 0) x.toNatClampNeg y.toNatClampNeg))))))
      (hM z (takM N x.toNatClampNeg y.toNatClampNeg) (recB N B st) K' T O R D laid len (saveS st) many at' 0 isK g) (hM z N B K' T O R D laid len st many at' (mtkE N x y) isK g)) NX := by
  refine Ev_intro t_M_take (Nat.le_of_ble_eq_true rfl) ?_
  intro Q X hQ hX K hK
  show K 0 [some (.ref 7), some (.int x), some (.int y)] [] _ 0 0
  obtain ⟨hN, h0, h1, h6, h6', h7, h8⟩ := ok
  have hq1 := fun e => hQ _ _ (Or.inl ⟨e, rfl, rfl⟩)
  have hq0 := fun e => hQ _ _ (Or.inr ⟨e, rfl, rfl⟩)
  have go4 : ∀ e, e < 4 → e = mtkE N x y → K 4 [some (.ref 7), some (.int x), some (.int y)] [.int (nI e), .ref 7] (hM z N B K' T O R D laid len st many at' thr isK g) 0 0 := by
    intro e he ee
    rw [← ee] at hq0 hq1
    refine hK 4 _ _ _ _ _ _ _ _ rfl ?_
    dsimp only [k_M_take_4, hN1, hB, hM1, hM, wpI, xop, xcall, xli, xlj, xlf, xld, xla, xlg, xst, xst2, xc1, pI, pJ, pF, pD, pR, pA, p1, p0, xpop, xpush, xsm, xhas, xif, xic, xsw, xai, xal, xhi, xhv, xrf, xret, xrtl, xrtf, xrtd, xrta, xrtv, xfit, xnew, cond_true, cond_false, f40, f41, f42, f43, List.length_cons, List.length_nil, Nat.reduceAdd, Nat.reduceSub, Nat.reduceMul, Nat.reduceBEq, List.map_cons, List.map_nil, List.headD_cons, List.getElem?_cons_zero, List.getElem?_cons_succ, List.set_cons_zero, List.set_cons_succ]
    refine Ev_use (ev_M_goes _ e z N B K' T O R D laid len st many at' thr isK g (by omega)) ?_
    dsimp only [hN1, hB, hM1, hM, wpI, xop, xcall, xli, xlj, xlf, xld, xla, xlg, xst, xst2, xc1, pI, pJ, pF, pD, pR, pA, p1, p0, xpop, xpush, xsm, xhas, xif, xic, xsw, xai, xal, xhi, xhv, xrf, xret, xrtl, xrtf, xrtd, xrta, xrtv, xfit, xnew, cond_true, cond_false, f40, f41, f42, f43, List.length_cons, List.length_nil, Nat.reduceAdd, Nat.reduceSub, Nat.reduceMul, Nat.reduceBEq, List.map_cons, List.map_nil, List.headD_cons, List.getElem?_cons_zero, List.getElem?_cons_succ, List.set_cons_zero, List.set_cons_succ]
    rw [bI_0]
    refine ⟨fun y1 => ?_, fun y1 => ?_⟩
    · have e0 := beq_iff_eq.mp (b_nf y1)
      subst e0
      have hq := hq1 rfl
      unfold mtkE at ee
      by_cases i1 : inB x (nI 0) (nI 4) = true
      · rw [if_pos i1] at ee
        by_cases i2 : inB y (nI 1) (nI (N.getD 6 0)) = true
        · obtain ⟨r, hr, rfl⟩ := inB_of (by decide) i1
          obtain ⟨b, hb1, hb2, rfl⟩ := inB_of1 (by omega) i2
          rw [n_cl (by omega), n_cl (by omega)] at hq
          refine hK 5 _ _ _ _ _ _ _ _ rfl ?_
          dsimp only [k_M_take_5, hN1, hB, hM1, hM, wpI, xop, xcall, xli, xlj, xlf, xld, xla, xlg, xst, xst2, xc1, pI, pJ, pF, pD, pR, pA, p1, p0, xpop, xpush, xsm, xhas, xif, xic, xsw, xai, xal, xhi, xhv, xrf, xret, xrtl, xrtf, xrtd, xrta, xrtv, xfit, xnew, cond_true, cond_false, f40, f41, f42, f43, List.length_cons, List.length_nil, Nat.reduceAdd, Nat.reduceSub, Nat.reduceMul, Nat.reduceBEq, List.map_cons, List.map_nil, List.headD_cons, List.getElem?_cons_zero, List.getElem?_cons_succ, List.set_cons_zero, List.set_cons_succ]
          refine Ev_use (ev_M_record _ z N B K' T O R D laid len st many at' 0 isK g hN hB hs) ?_
          dsimp only [hN1, hB, hM1, hM, wpI, xop, xcall, xli, xlj, xlf, xld, xla, xlg, xst, xst2, xc1, pI, pJ, pF, pD, pR, pA, p1, p0, xpop, xpush, xsm, xhas, xif, xic, xsw, xai, xal, xhi, xhv, xrf, xret, xrtl, xrtf, xrtd, xrta, xrtv, xfit, xnew, cond_true, cond_false, f40, f41, f42, f43, List.length_cons, List.length_nil, Nat.reduceAdd, Nat.reduceSub, Nat.reduceMul, Nat.reduceBEq, List.map_cons, List.map_nil, List.headD_cons, List.getElem?_cons_zero, List.getElem?_cons_succ, List.set_cons_zero, List.set_cons_succ]
          refine Ev_use (ev_M_takes _ r b z N _ _ hN h0 h1 (by omega) (by omega)) ?_
          dsimp only [hN1, hB, hM1, hM, wpI, xop, xcall, xli, xlj, xlf, xld, xla, xlg, xst, xst2, xc1, pI, pJ, pF, pD, pR, pA, p1, p0, xpop, xpush, xsm, xhas, xif, xic, xsw, xai, xal, xhi, xhv, xrf, xret, xrtl, xrtf, xrtd, xrta, xrtv, xfit, xnew, cond_true, cond_false, f40, f41, f42, f43, List.length_cons, List.length_nil, Nat.reduceAdd, Nat.reduceSub, Nat.reduceMul, Nat.reduceBEq, List.map_cons, List.map_nil, List.headD_cons, List.getElem?_cons_zero, List.getElem?_cons_succ, List.set_cons_zero, List.set_cons_succ]
          first | exact hq | exact ⟨Nat.le_refl _, hq⟩ | exact ⟨Nat.le_refl _, Nat.le_refl _, hq⟩ | exact ⟨Or.inl rfl, Nat.le_refl _, Nat.le_refl _, hq⟩ | exact ⟨Or.inr rfl, Nat.le_refl _, Nat.le_refl _, hq⟩
        · rw [if_neg i2] at ee
          exact Nat.noConfusion ee
      · rw [if_neg i1] at ee
        exact Nat.noConfusion ee
    · have hq := hq0 (beq_eq_false_iff_ne.mp y1)
      first | exact hq | exact ⟨Nat.le_refl _, hq⟩ | exact ⟨Nat.le_refl _, Nat.le_refl _, hq⟩ | exact ⟨Or.inl rfl, Nat.le_refl _, Nat.le_refl _, hq⟩ | exact ⟨Or.inr rfl, Nat.le_refl _, Nat.le_refl _, hq⟩
  unfold mtkE at go4
  refine hK 0 _ _ _ _ _ _ _ _ rfl ?_
  dsimp only [k_M_take_0, hN1, hB, hM1, hM, wpI, xop, xcall, xli, xlj, xlf, xld, xla, xlg, xst, xst2, xc1, pI, pJ, pF, pD, pR, pA, p1, p0, xpop, xpush, xsm, xhas, xif, xic, xsw, xai, xal, xhi, xhv, xrf, xret, xrtl, xrtf, xrtd, xrta, xrtv, xfit, xnew, cond_true, cond_false, f40, f41, f42, f43, List.length_cons, List.length_nil, Nat.reduceAdd, Nat.reduceSub, Nat.reduceMul, Nat.reduceBEq, List.map_cons, List.map_nil, List.headD_cons, List.getElem?_cons_zero, List.getElem?_cons_succ, List.set_cons_zero, List.set_cons_succ]
  refine Ev_use (ev_M_isRow _ x _) ?_
  dsimp only [hN1, hB, hM1, hM, wpI, xop, xcall, xli, xlj, xlf, xld, xla, xlg, xst, xst2, xc1, pI, pJ, pF, pD, pR, pA, p1, p0, xpop, xpush, xsm, xhas, xif, xic, xsw, xai, xal, xhi, xhv, xrf, xret, xrtl, xrtf, xrtd, xrta, xrtv, xfit, xnew, cond_true, cond_false, f40, f41, f42, f43, List.length_cons, List.length_nil, Nat.reduceAdd, Nat.reduceSub, Nat.reduceMul, Nat.reduceBEq, List.map_cons, List.map_nil, List.headD_cons, List.getElem?_cons_zero, List.getElem?_cons_succ, List.set_cons_zero, List.set_cons_succ]
  rw [bI_0]
  refine ⟨fun y1 => ?_, fun y1 => ?_⟩
  · have i1 := b_nf y1
    rw [if_pos i1] at go4
    obtain ⟨r, hr, rfl⟩ := inB_of (by decide) i1
    refine hK 1 _ _ _ _ _ _ _ _ rfl ?_
    dsimp only [k_M_take_1, hN1, hB, hM1, hM, wpI, xop, xcall, xli, xlj, xlf, xld, xla, xlg, xst, xst2, xc1, pI, pJ, pF, pD, pR, pA, p1, p0, xpop, xpush, xsm, xhas, xif, xic, xsw, xai, xal, xhi, xhv, xrf, xret, xrtl, xrtf, xrtd, xrta, xrtv, xfit, xnew, cond_true, cond_false, f40, f41, f42, f43, List.length_cons, List.length_nil, Nat.reduceAdd, Nat.reduceSub, Nat.reduceMul, Nat.reduceBEq, List.map_cons, List.map_nil, List.headD_cons, List.getElem?_cons_zero, List.getElem?_cons_succ, List.set_cons_zero, List.set_cons_succ]
    try simp (disch := first | omega | (simp only [List.length_set]; omega)) only [nI_add, n_and, n_or, n_xor, n_i31, nI_leI, nI_ltI, n_e0, n_eq, n_m1e, n_l0, n_g0, n_p0, n_q0, n_cl, n_in, n_sub, n_shr, n_shl, n_div, bI_0, n_01, n_11, bI_or, not_false_eq_true, forall_const, not_true_eq_false, false_imp_iff, true_imp_iff, List.length_map, List.length_set, hN, nL_u, gs_eq, gs_ne, nI_set, Nat.reduceLT, true_and, and_true, pk_mul]
    refine Ev_use (ev_M_in _ y _ _ _) ?_
    dsimp only [hN1, hB, hM1, hM, wpI, xop, xcall, xli, xlj, xlf, xld, xla, xlg, xst, xst2, xc1, pI, pJ, pF, pD, pR, pA, p1, p0, xpop, xpush, xsm, xhas, xif, xic, xsw, xai, xal, xhi, xhv, xrf, xret, xrtl, xrtf, xrtd, xrta, xrtv, xfit, xnew, cond_true, cond_false, f40, f41, f42, f43, List.length_cons, List.length_nil, Nat.reduceAdd, Nat.reduceSub, Nat.reduceMul, Nat.reduceBEq, List.map_cons, List.map_nil, List.headD_cons, List.getElem?_cons_zero, List.getElem?_cons_succ, List.set_cons_zero, List.set_cons_succ]
    rw [bI_0]
    refine ⟨fun y2 => ?_, fun y2 => ?_⟩
    · have i2 := b_nf y2
      rw [if_pos i2] at go4
      obtain ⟨b, hb1, hb2, rfl⟩ := inB_of1 (by omega) i2
      rw [n_cl (by omega), n_cl (by omega)] at go4
      have hr := mrs_lt N (N.getD 0 0) (N.getD 1 0) r b
      refine hK 2 _ _ _ _ _ _ _ _ rfl ?_
      dsimp only [k_M_take_2, hN1, hB, hM1, hM, wpI, xop, xcall, xli, xlj, xlf, xld, xla, xlg, xst, xst2, xc1, pI, pJ, pF, pD, pR, pA, p1, p0, xpop, xpush, xsm, xhas, xif, xic, xsw, xai, xal, xhi, xhv, xrf, xret, xrtl, xrtf, xrtd, xrta, xrtv, xfit, xnew, cond_true, cond_false, f40, f41, f42, f43, List.length_cons, List.length_nil, Nat.reduceAdd, Nat.reduceSub, Nat.reduceMul, Nat.reduceBEq, List.map_cons, List.map_nil, List.headD_cons, List.getElem?_cons_zero, List.getElem?_cons_succ, List.set_cons_zero, List.set_cons_succ]
      try simp (disch := first | omega | (simp only [List.length_set]; omega)) only [nI_add, n_and, n_or, n_xor, n_i31, nI_leI, nI_ltI, n_e0, n_eq, n_m1e, n_l0, n_g0, n_p0, n_q0, n_cl, n_in, n_sub, n_shr, n_shl, n_div, bI_0, n_01, n_11, bI_or, not_false_eq_true, forall_const, not_true_eq_false, false_imp_iff, true_imp_iff, List.length_map, List.length_set, hN, nL_u, gs_eq, gs_ne, nI_set, Nat.reduceLT, true_and, and_true, pk_mul]
      refine Ev_use (ev_M_reason _ _ _ r b z N _ _ hN h6' h7 h0 h1 (by omega) (by omega)) ?_
      dsimp only [hN1, hB, hM1, hM, wpI, xop, xcall, xli, xlj, xlf, xld, xla, xlg, xst, xst2, xc1, pI, pJ, pF, pD, pR, pA, p1, p0, xpop, xpush, xsm, xhas, xif, xic, xsw, xai, xal, xhi, xhv, xrf, xret, xrtl, xrtf, xrtd, xrta, xrtv, xfit, xnew, cond_true, cond_false, f40, f41, f42, f43, List.length_cons, List.length_nil, Nat.reduceAdd, Nat.reduceSub, Nat.reduceMul, Nat.reduceBEq, List.map_cons, List.map_nil, List.headD_cons, List.getElem?_cons_zero, List.getElem?_cons_succ, List.set_cons_zero, List.set_cons_succ]
      try simp (disch := first | omega | (simp only [List.length_set]; omega)) only [nI_add, n_and, n_or, n_xor, n_i31, nI_leI, nI_ltI, n_e0, n_eq, n_m1e, n_l0, n_g0, n_p0, n_q0, n_cl, n_in, n_sub, n_shr, n_shl, n_div, bI_0, n_01, n_11, bI_or, not_false_eq_true, forall_const, not_true_eq_false, false_imp_iff, true_imp_iff, List.length_map, List.length_set, hN, nL_u, gs_eq, gs_ne, nI_set, Nat.reduceLT, true_and, and_true, pk_mul]
      refine ⟨fun y3 => ?_, fun y3 => ?_⟩
      · rw [if_pos y3] at go4
        refine hK 3 _ _ _ _ _ _ _ _ rfl ?_
        dsimp only [k_M_take_3, hN1, hB, hM1, hM, wpI, xop, xcall, xli, xlj, xlf, xld, xla, xlg, xst, xst2, xc1, pI, pJ, pF, pD, pR, pA, p1, p0, xpop, xpush, xsm, xhas, xif, xic, xsw, xai, xal, xhi, xhv, xrf, xret, xrtl, xrtf, xrtd, xrta, xrtv, xfit, xnew, cond_true, cond_false, f40, f41, f42, f43, List.length_cons, List.length_nil, Nat.reduceAdd, Nat.reduceSub, Nat.reduceMul, Nat.reduceBEq, List.map_cons, List.map_nil, List.headD_cons, List.getElem?_cons_zero, List.getElem?_cons_succ, List.set_cons_zero, List.set_cons_succ]
        exact go4 0 (by decide) rfl
      · rw [if_neg y3] at go4
        exact go4 3 (by decide) rfl
    · rw [if_neg (by rw [y2]; decide)] at go4
      exact go4 2 (by decide) rfl
  · rw [if_neg (by rw [y1]; decide)] at go4
    exact go4 1 (by decide) rfl
