/-! ===== the class: settings, texts, the snapshot, looks ===== -/
def setLo (x : Int32) : Int32 := if x = 0 then nI 1 else nI 0
def setHi (x : Int32) : Int32 := if x = 0 then nI 3 else nI 1
def setE (x v : Int32) : Nat := if isSettingB x = false then 10 else if v < setLo x ∨ setHi x < v then 11 else 0
set_option maxRecDepth 100000 in
set_option maxHeartbeats 4000000 in
theorem ev_set (d : Nat) (N V S C : List Nat) (P : List Value) (sv tl : Nat) (has : Bool) (g : xH) (x v : Int32) (hN : N.length = 18) (hV : V.length = 108) (hs : sv ≤ 6) :
    Ev xT (d + 2) N_B_set [.ref 0, .int x, .int v] (hB N V S C P sv tl has g)
      (Ro (setE x v) (some (.int (nI (N.getD (3 + x.toNatClampNeg) 0)))) (hB (N.set (3 + x.toNatClampNeg) v.toNatClampNeg) (saveV N V sv) S C P (saveS sv) tl has g))
      (Xo (setE x v) (hB N V S C P sv tl has g)) := by
  refine Ev_intro t_B_set (Nat.le_of_ble_eq_true rfl) ?_
  intro Q X hQ hX K hK
  show K 0 [some (.ref 0), some (.int x), some (.int v), none, none, none] [] _ 0 0
  have go5 : isSettingB x = true → ∀ L4, K 5 [some (.ref 0), some (.int x), some (.int v), some (.int (setLo x)), L4, none] [.int (setHi x)] (hB N V S C P sv tl has g) 0 0 := by
    intro z L4
    have f6 : v < setLo x ∨ setHi x < v → ∀ L5, K 6 [some (.ref 0), some (.int x), some (.int v), some (.int (setLo x)), L5, none] [] (hB N V S C P sv tl has g) 0 0 := by
      intro z2 L5
      have e : setE x v = 11 := by unfold setE; rw [if_neg (by rw [z]; decide), if_pos z2]
      refine hK 6 _ _ _ _ _ _ _ _ rfl ?_
      dsimp only [k_B_set_6, hN1, hB, wpI, xop, xcall, xli, xlj, xlf, xld, xla, xlg, xst, xst2, xc1, pI, pJ, pF, pD, pR, pA, p1, p0, xpop, xpush, xsm, xhas, xif, xic, xsw, xai, xal, xhi, xhv, xrf, xret, xrtl, xrtf, xrtd, xrta, xrtv, xfit, xnew, cond_true, cond_false, f40, f41, f42, f43, List.length_cons, List.length_nil, Nat.reduceAdd, Nat.reduceSub, Nat.reduceMul, Nat.reduceBEq, List.map_cons, List.map_nil, List.headD_cons, List.getElem?_cons_zero, List.getElem?_cons_succ, List.set_cons_zero, List.set_cons_succ]
      exact ⟨Nat.le_refl _, Nat.le_refl _, hX _ _ ⟨by rw [e]; decide, e.symm, rfl⟩⟩
    refine hK 5 _ _ _ _ _ _ _ _ rfl ?_
    dsimp only [k_B_set_5, hN1, hB, wpI, xop, xcall, xli, xlj, xlf, xld, xla, xlg, xst, xst2, xc1, pI, pJ, pF, pD, pR, pA, p1, p0, xpop, xpush, xsm, xhas, xif, xic, xsw, xai, xal, xhi, xhv, xrf, xret, xrtl, xrtf, xrtd, xrta, xrtv, xfit, xnew, cond_true, cond_false, f40, f41, f42, f43, List.length_cons, List.length_nil, Nat.reduceAdd, Nat.reduceSub, Nat.reduceMul, Nat.reduceBEq, List.map_cons, List.map_nil, List.headD_cons, List.getElem?_cons_zero, List.getElem?_cons_succ, List.set_cons_zero, List.set_cons_succ]
    refine ⟨fun z2 => f6 (Or.inl z2) _, fun z2 => ⟨fun z3 => ?_, fun z3 => f6 (Or.inr (Int32.not_le.mp z3)) _⟩⟩
    have e : setE x v = 0 := by
      unfold setE
      rw [if_neg (by rw [z]; decide), if_neg]
      rintro (q | q)
      · exact z2 q
      · exact Int32.not_lt.mpr z3 q
    have hq := hQ _ _ ⟨e, rfl, rfl⟩
    obtain ⟨r, hr, rfl⟩ := set_of z
    have lo0 : (0 : Int32) ≤ setLo (nI r) := by
      unfold setLo
      split <;> decide
    obtain ⟨w, hw, rfl⟩ := nI_of (show ¬ v < 0 from fun q => z2 (Int32.lt_of_lt_of_le q lo0))
    rw [n_cl (by omega), n_cl hw] at hq
    refine hK 7 _ _ _ _ _ _ _ _ rfl ?_
    dsimp only [k_B_set_7, hN1, hB, wpI, xop, xcall, xli, xlj, xlf, xld, xla, xlg, xst, xst2, xc1, pI, pJ, pF, pD, pR, pA, p1, p0, xpop, xpush, xsm, xhas, xif, xic, xsw, xai, xal, xhi, xhv, xrf, xret, xrtl, xrtf, xrtd, xrta, xrtv, xfit, xnew, cond_true, cond_false, f40, f41, f42, f43, List.length_cons, List.length_nil, Nat.reduceAdd, Nat.reduceSub, Nat.reduceMul, Nat.reduceBEq, List.map_cons, List.map_nil, List.headD_cons, List.getElem?_cons_zero, List.getElem?_cons_succ, List.set_cons_zero, List.set_cons_succ]
    refine Ev_use (ev_save _ N V S C P sv tl has g hN hV hs) ?_
    dsimp only [hN1, hB, wpI, xop, xcall, xli, xlj, xlf, xld, xla, xlg, xst, xst2, xc1, pI, pJ, pF, pD, pR, pA, p1, p0, xpop, xpush, xsm, xhas, xif, xic, xsw, xai, xal, xhi, xhv, xrf, xret, xrtl, xrtf, xrtd, xrta, xrtv, xfit, xnew, cond_true, cond_false, f40, f41, f42, f43, List.length_cons, List.length_nil, Nat.reduceAdd, Nat.reduceSub, Nat.reduceMul, Nat.reduceBEq, List.map_cons, List.map_nil, List.headD_cons, List.getElem?_cons_zero, List.getElem?_cons_succ, List.set_cons_zero, List.set_cons_succ]
    try simp (disch := first | omega | (simp only [List.length_set]; omega)) only [nI_add, n_and, n_or, n_xor, n_i31, nI_leI, nI_ltI, n_e0, n_eq, n_m1e, n_l0, n_g0, n_p0, n_q0, n_cl, n_in, n_sub, n_shr, n_shl, n_div, bI_0, n_01, n_11, bI_or, not_false_eq_true, forall_const, not_true_eq_false, false_imp_iff, true_imp_iff, List.length_map, List.length_set, hN, nL_u, gs_eq, gs_ne, nI_set, Nat.reduceLT, true_and, and_true, pk_mul]
    exact ⟨by omega, by omega, Nat.zero_le _, Nat.zero_le _, hq⟩
  refine hK 0 _ _ _ _ _ _ _ _ rfl ?_
  dsimp only [k_B_set_0, hN1, hB, wpI, xop, xcall, xli, xlj, xlf, xld, xla, xlg, xst, xst2, xc1, pI, pJ, pF, pD, pR, pA, p1, p0, xpop, xpush, xsm, xhas, xif, xic, xsw, xai, xal, xhi, xhv, xrf, xret, xrtl, xrtf, xrtd, xrta, xrtv, xfit, xnew, cond_true, cond_false, f40, f41, f42, f43, List.length_cons, List.length_nil, Nat.reduceAdd, Nat.reduceSub, Nat.reduceMul, Nat.reduceBEq, List.map_cons, List.map_nil, List.headD_cons, List.getElem?_cons_zero, List.getElem?_cons_succ, List.set_cons_zero, List.set_cons_succ]
  refine Ev_use (ev_isSetting _ x _) ?_
  dsimp only [hN1, hB, wpI, xop, xcall, xli, xlj, xlf, xld, xla, xlg, xst, xst2, xc1, pI, pJ, pF, pD, pR, pA, p1, p0, xpop, xpush, xsm, xhas, xif, xic, xsw, xai, xal, xhi, xhv, xrf, xret, xrtl, xrtf, xrtd, xrta, xrtv, xfit, xnew, cond_true, cond_false, f40, f41, f42, f43, List.length_cons, List.length_nil, Nat.reduceAdd, Nat.reduceSub, Nat.reduceMul, Nat.reduceBEq, List.map_cons, List.map_nil, List.headD_cons, List.getElem?_cons_zero, List.getElem?_cons_succ, List.set_cons_zero, List.set_cons_succ]
  rw [bI_0]
  refine ⟨fun z => ?_, fun z => ?_⟩
  · have z := b_nf z
    have go3 : K 3 [some (.ref 0), some (.int x), some (.int v), none, none, none] [.int (setLo x)] (hB N V S C P sv tl has g) 0 0 := by
      refine hK 3 _ _ _ _ _ _ _ _ rfl ?_
      dsimp only [k_B_set_3, hN1, hB, wpI, xop, xcall, xli, xlj, xlf, xld, xla, xlg, xst, xst2, xc1, pI, pJ, pF, pD, pR, pA, p1, p0, xpop, xpush, xsm, xhas, xif, xic, xsw, xai, xal, xhi, xhv, xrf, xret, xrtl, xrtf, xrtd, xrta, xrtv, xfit, xnew, cond_true, cond_false, f40, f41, f42, f43, List.length_cons, List.length_nil, Nat.reduceAdd, Nat.reduceSub, Nat.reduceMul, Nat.reduceBEq, List.map_cons, List.map_nil, List.headD_cons, List.getElem?_cons_zero, List.getElem?_cons_succ, List.set_cons_zero, List.set_cons_succ]
      refine ⟨fun z2 => ?_, fun z2 => ?_⟩
      · have h := go5 z none
        unfold setHi at h
        rw [if_neg z2] at h
        refine hK 4 _ _ _ _ _ _ _ _ rfl ?_
        dsimp only [k_B_set_4, hN1, hB, wpI, xop, xcall, xli, xlj, xlf, xld, xla, xlg, xst, xst2, xc1, pI, pJ, pF, pD, pR, pA, p1, p0, xpop, xpush, xsm, xhas, xif, xic, xsw, xai, xal, xhi, xhv, xrf, xret, xrtl, xrtf, xrtd, xrta, xrtv, xfit, xnew, cond_true, cond_false, f40, f41, f42, f43, List.length_cons, List.length_nil, Nat.reduceAdd, Nat.reduceSub, Nat.reduceMul, Nat.reduceBEq, List.map_cons, List.map_nil, List.headD_cons, List.getElem?_cons_zero, List.getElem?_cons_succ, List.set_cons_zero, List.set_cons_succ]
        exact h
      · have h := go5 z none
        unfold setHi at h
        rw [if_pos z2] at h
        exact h
    unfold setLo at go3
    refine hK 1 _ _ _ _ _ _ _ _ rfl ?_
    dsimp only [k_B_set_1, hN1, hB, wpI, xop, xcall, xli, xlj, xlf, xld, xla, xlg, xst, xst2, xc1, pI, pJ, pF, pD, pR, pA, p1, p0, xpop, xpush, xsm, xhas, xif, xic, xsw, xai, xal, xhi, xhv, xrf, xret, xrtl, xrtf, xrtd, xrta, xrtv, xfit, xnew, cond_true, cond_false, f40, f41, f42, f43, List.length_cons, List.length_nil, Nat.reduceAdd, Nat.reduceSub, Nat.reduceMul, Nat.reduceBEq, List.map_cons, List.map_nil, List.headD_cons, List.getElem?_cons_zero, List.getElem?_cons_succ, List.set_cons_zero, List.set_cons_succ]
    refine ⟨fun z2 => ?_, fun z2 => ?_⟩
    · rw [if_neg z2] at go3
      refine hK 2 _ _ _ _ _ _ _ _ rfl ?_
      dsimp only [k_B_set_2, hN1, hB, wpI, xop, xcall, xli, xlj, xlf, xld, xla, xlg, xst, xst2, xc1, pI, pJ, pF, pD, pR, pA, p1, p0, xpop, xpush, xsm, xhas, xif, xic, xsw, xai, xal, xhi, xhv, xrf, xret, xrtl, xrtf, xrtd, xrta, xrtv, xfit, xnew, cond_true, cond_false, f40, f41, f42, f43, List.length_cons, List.length_nil, Nat.reduceAdd, Nat.reduceSub, Nat.reduceMul, Nat.reduceBEq, List.map_cons, List.map_nil, List.headD_cons, List.getElem?_cons_zero, List.getElem?_cons_succ, List.set_cons_zero, List.set_cons_succ]
      exact go3
    · rw [if_pos z2] at go3
      exact go3
  · have e : setE x v = 10 := by unfold setE; rw [if_pos z]
    exact ⟨Nat.le_refl _, Nat.le_refl _, hX _ _ ⟨by rw [e]; decide, e.symm, rfl⟩⟩
theorem cpy18 {N S : List Nat} (hN : N.length = 18) (hS : S.length = 18) : cpyN N S 0 0 18 = N := by
  unfold cpyN
  rw [List.take_zero, List.nil_append, List.drop_zero, List.take_of_length_le (by omega), List.drop_of_length_le (by omega), List.append_nil]
set_option maxRecDepth 100000 in
set_option maxHeartbeats 4000000 in
theorem ev_keep (d : Nat) (N V S C : List Nat) (P : List Value) (sv tl : Nat) (has : Bool) (g : xH) (hN : N.length = 18) (hS : S.length = 18) :
    Ev xT (d + 1) N_B_keep [.ref 0] (hB N V S C P sv tl has g) (Rt (some (.int (nI (N.getD 0 0)))) (hB N V N C P sv tl true g)) NX := by
  refine Ev_intro t_B_keep (Nat.le_of_ble_eq_true rfl) ?_
  intro Q X hQ hX K hK
  show K 0 [some (.ref 0)] [] _ 0 0
  have hq := hQ _ _ ⟨rfl, rfl⟩
  refine hK 0 _ _ _ _ _ _ _ _ rfl ?_
  dsimp only [k_B_keep_0, hN1, hB, wpI, xop, xcall, xli, xlj, xlf, xld, xla, xlg, xst, xst2, xc1, pI, pJ, pF, pD, pR, pA, p1, p0, xpop, xpush, xsm, xhas, xif, xic, xsw, xai, xal, xhi, xhv, xrf, xret, xrtl, xrtf, xrtd, xrta, xrtv, xfit, xnew, cond_true, cond_false, f40, f41, f42, f43, List.length_cons, List.length_nil, Nat.reduceAdd, Nat.reduceSub, Nat.reduceMul, Nat.reduceBEq, List.map_cons, List.map_nil, List.headD_cons, List.getElem?_cons_zero, List.getElem?_cons_succ, List.set_cons_zero, List.set_cons_succ]
  try simp (disch := first | omega | (simp only [List.length_set]; omega)) only [nI_add, n_and, n_or, n_xor, n_i31, nI_leI, nI_ltI, n_e0, n_eq, n_m1e, n_l0, n_g0, n_p0, n_q0, n_cl, n_in, n_sub, n_shr, n_shl, n_div, bI_0, n_01, n_11, bI_or, not_false_eq_true, forall_const, not_true_eq_false, false_imp_iff, true_imp_iff, List.length_map, List.length_set, hN, nL_u, gs_eq, gs_ne, nI_set, Nat.reduceLT, true_and, and_true, pk_mul, xcpy_nI, hS, cpy18]
  exact ⟨by decide, by decide, Or.inr rfl, Nat.le_refl _, Nat.le_refl _, hq⟩
def backE (has : Bool) : Nat := if has then 0 else 12
set_option maxRecDepth 100000 in
set_option maxHeartbeats 4000000 in
theorem ev_goBack (d : Nat) (N V S C : List Nat) (P : List Value) (sv tl : Nat) (has : Bool) (g : xH) (hN : N.length = 18) (hV : V.length = 108) (hS : S.length = 18) (hs : sv ≤ 6) :
    Ev xT (d + 2) N_B_goBack [.ref 0] (hB N V S C P sv tl has g) (Ro (backE has) (some (.int (nI (S.getD 0 0)))) (hB S (saveV N V sv) S C P (saveS sv) tl has g)) (Xo (backE has) (hB N V S C P sv tl has g)) := by
  refine Ev_intro t_B_goBack (Nat.le_of_ble_eq_true rfl) ?_
  intro Q X hQ hX K hK
  show K 0 [some (.ref 0)] [] _ 0 0
  refine hK 0 _ _ _ _ _ _ _ _ rfl ?_
  dsimp only [k_B_goBack_0, hN1, hB, wpI, xop, xcall, xli, xlj, xlf, xld, xla, xlg, xst, xst2, xc1, pI, pJ, pF, pD, pR, pA, p1, p0, xpop, xpush, xsm, xhas, xif, xic, xsw, xai, xal, xhi, xhv, xrf, xret, xrtl, xrtf, xrtd, xrta, xrtv, xfit, xnew, cond_true, cond_false, f40, f41, f42, f43, List.length_cons, List.length_nil, Nat.reduceAdd, Nat.reduceSub, Nat.reduceMul, Nat.reduceBEq, List.map_cons, List.map_nil, List.headD_cons, List.getElem?_cons_zero, List.getElem?_cons_succ, List.set_cons_zero, List.set_cons_succ]
  rw [bI_0]
  refine ⟨fun z => ?_, fun z => ?_⟩
  · have hq := hQ _ _ ⟨by rw [b_nf z]; rfl, rfl, rfl⟩
    refine hK 1 _ _ _ _ _ _ _ _ rfl ?_
    dsimp only [k_B_goBack_1, hN1, hB, wpI, xop, xcall, xli, xlj, xlf, xld, xla, xlg, xst, xst2, xc1, pI, pJ, pF, pD, pR, pA, p1, p0, xpop, xpush, xsm, xhas, xif, xic, xsw, xai, xal, xhi, xhv, xrf, xret, xrtl, xrtf, xrtd, xrta, xrtv, xfit, xnew, cond_true, cond_false, f40, f41, f42, f43, List.length_cons, List.length_nil, Nat.reduceAdd, Nat.reduceSub, Nat.reduceMul, Nat.reduceBEq, List.map_cons, List.map_nil, List.headD_cons, List.getElem?_cons_zero, List.getElem?_cons_succ, List.set_cons_zero, List.set_cons_succ]
    refine Ev_use (ev_save _ N V S C P sv tl has g hN hV hs) ?_
    dsimp only [hN1, hB, wpI, xop, xcall, xli, xlj, xlf, xld, xla, xlg, xst, xst2, xc1, pI, pJ, pF, pD, pR, pA, p1, p0, xpop, xpush, xsm, xhas, xif, xic, xsw, xai, xal, xhi, xhv, xrf, xret, xrtl, xrtf, xrtd, xrta, xrtv, xfit, xnew, cond_true, cond_false, f40, f41, f42, f43, List.length_cons, List.length_nil, Nat.reduceAdd, Nat.reduceSub, Nat.reduceMul, Nat.reduceBEq, List.map_cons, List.map_nil, List.headD_cons, List.getElem?_cons_zero, List.getElem?_cons_succ, List.set_cons_zero, List.set_cons_succ]
    try simp (disch := first | omega | (simp only [List.length_set]; omega)) only [nI_add, n_and, n_or, n_xor, n_i31, nI_leI, nI_ltI, n_e0, n_eq, n_m1e, n_l0, n_g0, n_p0, n_q0, n_cl, n_in, n_sub, n_shr, n_shl, n_div, bI_0, n_01, n_11, bI_or, not_false_eq_true, forall_const, not_true_eq_false, false_imp_iff, true_imp_iff, List.length_map, List.length_set, hN, nL_u, gs_eq, gs_ne, nI_set, Nat.reduceLT, true_and, and_true, pk_mul, xcpy_nI, hS, cpy18]
    exact ⟨by decide, by decide, Nat.zero_le _, Nat.zero_le _, hq⟩
  · have e : backE has = 12 := by rw [z]; rfl
    exact ⟨Nat.le_refl _, Nat.le_refl _, hX _ _ ⟨by rw [e]; decide, e.symm, rfl⟩⟩
def undoE (sv : Nat) : Nat := if 0 < sv then 0 else 12
set_option maxRecDepth 100000 in
set_option maxHeartbeats 4000000 in
theorem ev_undo (d : Nat) (N V S C : List Nat) (P : List Value) (sv tl : Nat) (has : Bool) (g : xH) (hN : N.length = 18) (hV : V.length = 108) (hs : sv ≤ 6) :
    Ev xT (d + 2) N_B_undo [.ref 0] (hB N V S C P sv tl has g) (Ro (undoE sv) (some (.int (nI (sv - 1)))) (hB (cpyN V N ((sv - 1) * 18) 0 18) V S C P (sv - 1) tl has g)) (Xo (undoE sv) (hB N V S C P sv tl has g)) := by
  refine Ev_intro t_B_undo (Nat.le_of_ble_eq_true rfl) ?_
  intro Q X hQ hX K hK
  show K 0 [some (.ref 0)] [] _ 0 0
  refine hK 0 _ _ _ _ _ _ _ _ rfl ?_
  dsimp only [k_B_undo_0, hN1, hB, wpI, xop, xcall, xli, xlj, xlf, xld, xla, xlg, xst, xst2, xc1, pI, pJ, pF, pD, pR, pA, p1, p0, xpop, xpush, xsm, xhas, xif, xic, xsw, xai, xal, xhi, xhv, xrf, xret, xrtl, xrtf, xrtd, xrta, xrtv, xfit, xnew, cond_true, cond_false, f40, f41, f42, f43, List.length_cons, List.length_nil, Nat.reduceAdd, Nat.reduceSub, Nat.reduceMul, Nat.reduceBEq, List.map_cons, List.map_nil, List.headD_cons, List.getElem?_cons_zero, List.getElem?_cons_succ, List.set_cons_zero, List.set_cons_succ]
  try simp (disch := first | omega | (simp only [List.length_set]; omega)) only [nI_add, n_and, n_or, n_xor, n_i31, nI_leI, nI_ltI, n_e0, n_eq, n_m1e, n_l0, n_g0, n_p0, n_q0, n_cl, n_in, n_sub, n_shr, n_shl, n_div, bI_0, n_01, n_11, bI_or, not_false_eq_true, forall_const, not_true_eq_false, false_imp_iff, true_imp_iff, List.length_map, List.length_set, hN, nL_u, gs_eq, gs_ne, nI_set, Nat.reduceLT, true_and, and_true, pk_mul]
  refine ⟨fun z => ?_, fun z => ?_⟩
  · have hq := hQ _ _ ⟨by unfold undoE; rw [if_pos z], rfl, rfl⟩
    refine hK 1 _ _ _ _ _ _ _ _ rfl ?_
    dsimp only [k_B_undo_1, hN1, hB, wpI, xop, xcall, xli, xlj, xlf, xld, xla, xlg, xst, xst2, xc1, pI, pJ, pF, pD, pR, pA, p1, p0, xpop, xpush, xsm, xhas, xif, xic, xsw, xai, xal, xhi, xhv, xrf, xret, xrtl, xrtf, xrtd, xrta, xrtv, xfit, xnew, cond_true, cond_false, f40, f41, f42, f43, List.length_cons, List.length_nil, Nat.reduceAdd, Nat.reduceSub, Nat.reduceMul, Nat.reduceBEq, List.map_cons, List.map_nil, List.headD_cons, List.getElem?_cons_zero, List.getElem?_cons_succ, List.set_cons_zero, List.set_cons_succ]
    try simp (disch := first | omega | (simp only [List.length_set]; omega)) only [nI_add, n_and, n_or, n_xor, n_i31, nI_leI, nI_ltI, n_e0, n_eq, n_m1e, n_l0, n_g0, n_p0, n_q0, n_cl, n_in, n_sub, n_shr, n_shl, n_div, bI_0, n_01, n_11, bI_or, not_false_eq_true, forall_const, not_true_eq_false, false_imp_iff, true_imp_iff, List.length_map, List.length_set, hN, nL_u, gs_eq, gs_ne, nI_set, Nat.reduceLT, true_and, and_true, pk_mul, xcpy_nI, hV]
    exact ⟨by omega, by omega, Nat.zero_le _, Nat.zero_le _, hq⟩
  · have e : undoE sv = 12 := by unfold undoE; rw [if_neg (by omega)]
    exact ⟨Nat.le_refl _, Nat.le_refl _, hX _ _ ⟨by rw [e]; decide, e.symm, rfl⟩⟩
def settingE (x : Int32) : Nat := if isSettingB x = false then 10 else 0
set_option maxRecDepth 100000 in
set_option maxHeartbeats 4000000 in
theorem ev_setting (d : Nat) (N : List Nat) (vs : List Value) (g : xH) (x : Int32) (hN : N.length = 18) :
    Ev xT (d + 2) N_B_setting [.ref 0, .int x] (hN1 N vs g) (Ro (settingE x) (some (.int (nI (N.getD (3 + x.toNatClampNeg) 0)))) (hN1 N vs g)) (Xo (settingE x) (hN1 N vs g)) := by
  refine Ev_intro t_B_setting (Nat.le_of_ble_eq_true rfl) ?_
  intro Q X hQ hX K hK
  show K 0 [some (.ref 0), some (.int x)] [] _ 0 0
  refine hK 0 _ _ _ _ _ _ _ _ rfl ?_
  dsimp only [k_B_setting_0, hN1, hB, wpI, xop, xcall, xli, xlj, xlf, xld, xla, xlg, xst, xst2, xc1, pI, pJ, pF, pD, pR, pA, p1, p0, xpop, xpush, xsm, xhas, xif, xic, xsw, xai, xal, xhi, xhv, xrf, xret, xrtl, xrtf, xrtd, xrta, xrtv, xfit, xnew, cond_true, cond_false, f40, f41, f42, f43, List.length_cons, List.length_nil, Nat.reduceAdd, Nat.reduceSub, Nat.reduceMul, Nat.reduceBEq, List.map_cons, List.map_nil, List.headD_cons, List.getElem?_cons_zero, List.getElem?_cons_succ, List.set_cons_zero, List.set_cons_succ]
  refine Ev_use (ev_isSetting _ x _) ?_
  dsimp only [hN1, hB, wpI, xop, xcall, xli, xlj, xlf, xld, xla, xlg, xst, xst2, xc1, pI, pJ, pF, pD, pR, pA, p1, p0, xpop, xpush, xsm, xhas, xif, xic, xsw, xai, xal, xhi, xhv, xrf, xret, xrtl, xrtf, xrtd, xrta, xrtv, xfit, xnew, cond_true, cond_false, f40, f41, f42, f43, List.length_cons, List.length_nil, Nat.reduceAdd, Nat.reduceSub, Nat.reduceMul, Nat.reduceBEq, List.map_cons, List.map_nil, List.headD_cons, List.getElem?_cons_zero, List.getElem?_cons_succ, List.set_cons_zero, List.set_cons_succ]
  rw [bI_0]
  refine ⟨fun z => ?_, fun z => ?_⟩
  · have hq := hQ _ _ ⟨by unfold settingE; rw [if_neg z], rfl, rfl⟩
    obtain ⟨r, hr, rfl⟩ := set_of (b_nf z)
    rw [n_cl (by omega)] at hq
    refine hK 1 _ _ _ _ _ _ _ _ rfl ?_
    dsimp only [k_B_setting_1, hN1, hB, wpI, xop, xcall, xli, xlj, xlf, xld, xla, xlg, xst, xst2, xc1, pI, pJ, pF, pD, pR, pA, p1, p0, xpop, xpush, xsm, xhas, xif, xic, xsw, xai, xal, xhi, xhv, xrf, xret, xrtl, xrtf, xrtd, xrta, xrtv, xfit, xnew, cond_true, cond_false, f40, f41, f42, f43, List.length_cons, List.length_nil, Nat.reduceAdd, Nat.reduceSub, Nat.reduceMul, Nat.reduceBEq, List.map_cons, List.map_nil, List.headD_cons, List.getElem?_cons_zero, List.getElem?_cons_succ, List.set_cons_zero, List.set_cons_succ]
    try simp (disch := first | omega | (simp only [List.length_set]; omega)) only [nI_add, n_and, n_or, n_xor, n_i31, nI_leI, nI_ltI, n_e0, n_eq, n_m1e, n_l0, n_g0, n_p0, n_q0, n_cl, n_in, n_sub, n_shr, n_shl, n_div, bI_0, n_01, n_11, bI_or, not_false_eq_true, forall_const, not_true_eq_false, false_imp_iff, true_imp_iff, List.length_map, List.length_set, hN, nL_u, gs_eq, gs_ne, nI_set, Nat.reduceLT, true_and, and_true, pk_mul]
    exact ⟨by omega, Nat.zero_le _, Nat.zero_le _, hq⟩
  · have e : settingE x = 10 := by unfold settingE; rw [if_pos z]
    exact ⟨Nat.le_refl _, Nat.le_refl _, hX _ _ ⟨by rw [e]; decide, e.symm, rfl⟩⟩
def whyE (x y : Int32) : Nat := if isRowB x = false then 10 else if y < nI 1 ∨ nI 5 < y then 11 else 0
set_option maxRecDepth 100000 in
set_option maxHeartbeats 4000000 in
theorem ev_why (d : Nat) (N : List Nat) (vs : List Value) (g : xH) (x y : Int32) (ok : stN N) :
    Ev xT (d + 4) N_B_why [.ref 0, .int x, .int y] (hN1 N vs g) (Ro (whyE x y) (some (.int (nI (rsnN N x.toNatClampNeg y.toNatClampNeg)))) (hN1 N vs g)) (Xo (whyE x y) (hN1 N vs g)) := by
  refine Ev_intro t_B_why (Nat.le_of_ble_eq_true rfl) ?_
  intro Q X hQ hX K hK
  show K 0 [some (.ref 0), some (.int x), some (.int y)] [] _ 0 0
  refine hK 0 _ _ _ _ _ _ _ _ rfl ?_
  dsimp only [k_B_why_0, hN1, hB, wpI, xop, xcall, xli, xlj, xlf, xld, xla, xlg, xst, xst2, xc1, pI, pJ, pF, pD, pR, pA, p1, p0, xpop, xpush, xsm, xhas, xif, xic, xsw, xai, xal, xhi, xhv, xrf, xret, xrtl, xrtf, xrtd, xrta, xrtv, xfit, xnew, cond_true, cond_false, f40, f41, f42, f43, List.length_cons, List.length_nil, Nat.reduceAdd, Nat.reduceSub, Nat.reduceMul, Nat.reduceBEq, List.map_cons, List.map_nil, List.headD_cons, List.getElem?_cons_zero, List.getElem?_cons_succ, List.set_cons_zero, List.set_cons_succ]
  refine Ev_use (ev_isRow _ x _) ?_
  dsimp only [hN1, hB, wpI, xop, xcall, xli, xlj, xlf, xld, xla, xlg, xst, xst2, xc1, pI, pJ, pF, pD, pR, pA, p1, p0, xpop, xpush, xsm, xhas, xif, xic, xsw, xai, xal, xhi, xhv, xrf, xret, xrtl, xrtf, xrtd, xrta, xrtv, xfit, xnew, cond_true, cond_false, f40, f41, f42, f43, List.length_cons, List.length_nil, Nat.reduceAdd, Nat.reduceSub, Nat.reduceMul, Nat.reduceBEq, List.map_cons, List.map_nil, List.headD_cons, List.getElem?_cons_zero, List.getElem?_cons_succ, List.set_cons_zero, List.set_cons_succ]
  rw [bI_0]
  refine ⟨fun z => ?_, fun z => ?_⟩
  · obtain ⟨r, hr, rfl⟩ := row_of (b_nf z)
    have f2 : y < nI 1 ∨ nI 5 < y → K 2 [some (.ref 0), some (.int (nI r)), some (.int y)] [] (hN1 N vs g) 0 0 := by
      intro z2
      have e : whyE (nI r) y = 11 := by unfold whyE; rw [if_neg z, if_pos z2]
      refine hK 2 _ _ _ _ _ _ _ _ rfl ?_
      dsimp only [k_B_why_2, hN1, hB, wpI, xop, xcall, xli, xlj, xlf, xld, xla, xlg, xst, xst2, xc1, pI, pJ, pF, pD, pR, pA, p1, p0, xpop, xpush, xsm, xhas, xif, xic, xsw, xai, xal, xhi, xhv, xrf, xret, xrtl, xrtf, xrtd, xrta, xrtv, xfit, xnew, cond_true, cond_false, f40, f41, f42, f43, List.length_cons, List.length_nil, Nat.reduceAdd, Nat.reduceSub, Nat.reduceMul, Nat.reduceBEq, List.map_cons, List.map_nil, List.headD_cons, List.getElem?_cons_zero, List.getElem?_cons_succ, List.set_cons_zero, List.set_cons_succ]
      exact ⟨Nat.le_refl _, Nat.le_refl _, hX _ _ ⟨by rw [e]; decide, e.symm, rfl⟩⟩
    refine hK 1 _ _ _ _ _ _ _ _ rfl ?_
    dsimp only [k_B_why_1, hN1, hB, wpI, xop, xcall, xli, xlj, xlf, xld, xla, xlg, xst, xst2, xc1, pI, pJ, pF, pD, pR, pA, p1, p0, xpop, xpush, xsm, xhas, xif, xic, xsw, xai, xal, xhi, xhv, xrf, xret, xrtl, xrtf, xrtd, xrta, xrtv, xfit, xnew, cond_true, cond_false, f40, f41, f42, f43, List.length_cons, List.length_nil, Nat.reduceAdd, Nat.reduceSub, Nat.reduceMul, Nat.reduceBEq, List.map_cons, List.map_nil, List.headD_cons, List.getElem?_cons_zero, List.getElem?_cons_succ, List.set_cons_zero, List.set_cons_succ]
    refine ⟨fun z2 => f2 (Or.inl z2), fun z2 => ⟨fun z3 => ?_, fun z3 => f2 (Or.inr (Int32.not_le.mp z3))⟩⟩
    have hq := hQ _ _ ⟨by
      unfold whyE
      rw [if_neg z, if_neg]
      rintro (q | q)
      · exact z2 q
      · exact Int32.not_lt.mpr z3 q, rfl, rfl⟩
    obtain ⟨b, hb, rfl⟩ := nI_of (show ¬ y < 0 from fun q => z2 (Int32.lt_trans q (by decide)))
    rw [nI_leI hb (by omega)] at z3
    rw [n_cl (by omega), n_cl (by omega)] at hq
    refine hK 3 _ _ _ _ _ _ _ _ rfl ?_
    dsimp only [k_B_why_3, hN1, hB, wpI, xop, xcall, xli, xlj, xlf, xld, xla, xlg, xst, xst2, xc1, pI, pJ, pF, pD, pR, pA, p1, p0, xpop, xpush, xsm, xhas, xif, xic, xsw, xai, xal, xhi, xhv, xrf, xret, xrtl, xrtf, xrtd, xrta, xrtv, xfit, xnew, cond_true, cond_false, f40, f41, f42, f43, List.length_cons, List.length_nil, Nat.reduceAdd, Nat.reduceSub, Nat.reduceMul, Nat.reduceBEq, List.map_cons, List.map_nil, List.headD_cons, List.getElem?_cons_zero, List.getElem?_cons_succ, List.set_cons_zero, List.set_cons_succ]
    refine Ev_use (ev_reasonAgainst _ N vs g r b ok hr (by omega)) ?_
    dsimp only [hN1, hB, wpI, xop, xcall, xli, xlj, xlf, xld, xla, xlg, xst, xst2, xc1, pI, pJ, pF, pD, pR, pA, p1, p0, xpop, xpush, xsm, xhas, xif, xic, xsw, xai, xal, xhi, xhv, xrf, xret, xrtl, xrtf, xrtd, xrta, xrtv, xfit, xnew, cond_true, cond_false, f40, f41, f42, f43, List.length_cons, List.length_nil, Nat.reduceAdd, Nat.reduceSub, Nat.reduceMul, Nat.reduceBEq, List.map_cons, List.map_nil, List.headD_cons, List.getElem?_cons_zero, List.getElem?_cons_succ, List.set_cons_zero, List.set_cons_succ]
    exact ⟨Nat.zero_le _, Nat.zero_le _, hq⟩
  · have e : whyE x y = 10 := by unfold whyE; rw [if_pos z]
    exact ⟨Nat.le_refl _, Nat.le_refl _, hX _ _ ⟨by rw [e]; decide, e.symm, rfl⟩⟩
set_option maxRecDepth 100000 in
set_option maxHeartbeats 4000000 in
theorem ev_falls (d : Nat) (N : List Nat) (vs : List Value) (g : xH) (x y : Int32) (ok : stN N) :
    Ev xT (d + 4) N_B_falls [.ref 0, .int x, .int y] (hN1 N vs g) (Ro (whyE x y) (some (.int (fallI (N.getD 0 0) (N.getD 1 0) x.toNatClampNeg y.toNatClampNeg))) (hN1 N vs g)) (Xo (whyE x y) (hN1 N vs g)) := by
  refine Ev_intro t_B_falls (Nat.le_of_ble_eq_true rfl) ?_
  intro Q X hQ hX K hK
  show K 0 [some (.ref 0), some (.int x), some (.int y)] [] _ 0 0
  obtain ⟨hN, h0, h1, h3, h3', h4, h5⟩ := ok
  refine hK 0 _ _ _ _ _ _ _ _ rfl ?_
  dsimp only [k_B_falls_0, hN1, hB, wpI, xop, xcall, xli, xlj, xlf, xld, xla, xlg, xst, xst2, xc1, pI, pJ, pF, pD, pR, pA, p1, p0, xpop, xpush, xsm, xhas, xif, xic, xsw, xai, xal, xhi, xhv, xrf, xret, xrtl, xrtf, xrtd, xrta, xrtv, xfit, xnew, cond_true, cond_false, f40, f41, f42, f43, List.length_cons, List.length_nil, Nat.reduceAdd, Nat.reduceSub, Nat.reduceMul, Nat.reduceBEq, List.map_cons, List.map_nil, List.headD_cons, List.getElem?_cons_zero, List.getElem?_cons_succ, List.set_cons_zero, List.set_cons_succ]
  refine Ev_use (ev_isRow _ x _) ?_
  dsimp only [hN1, hB, wpI, xop, xcall, xli, xlj, xlf, xld, xla, xlg, xst, xst2, xc1, pI, pJ, pF, pD, pR, pA, p1, p0, xpop, xpush, xsm, xhas, xif, xic, xsw, xai, xal, xhi, xhv, xrf, xret, xrtl, xrtf, xrtd, xrta, xrtv, xfit, xnew, cond_true, cond_false, f40, f41, f42, f43, List.length_cons, List.length_nil, Nat.reduceAdd, Nat.reduceSub, Nat.reduceMul, Nat.reduceBEq, List.map_cons, List.map_nil, List.headD_cons, List.getElem?_cons_zero, List.getElem?_cons_succ, List.set_cons_zero, List.set_cons_succ]
  rw [bI_0]
  refine ⟨fun z => ?_, fun z => ?_⟩
  · obtain ⟨r, hr, rfl⟩ := row_of (b_nf z)
    have f2 : y < nI 1 ∨ nI 5 < y → K 2 [some (.ref 0), some (.int (nI r)), some (.int y)] [] (hN1 N vs g) 0 0 := by
      intro z2
      have e : whyE (nI r) y = 11 := by unfold whyE; rw [if_neg z, if_pos z2]
      refine hK 2 _ _ _ _ _ _ _ _ rfl ?_
      dsimp only [k_B_falls_2, hN1, hB, wpI, xop, xcall, xli, xlj, xlf, xld, xla, xlg, xst, xst2, xc1, pI, pJ, pF, pD, pR, pA, p1, p0, xpop, xpush, xsm, xhas, xif, xic, xsw, xai, xal, xhi, xhv, xrf, xret, xrtl, xrtf, xrtd, xrta, xrtv, xfit, xnew, cond_true, cond_false, f40, f41, f42, f43, List.length_cons, List.length_nil, Nat.reduceAdd, Nat.reduceSub, Nat.reduceMul, Nat.reduceBEq, List.map_cons, List.map_nil, List.headD_cons, List.getElem?_cons_zero, List.getElem?_cons_succ, List.set_cons_zero, List.set_cons_succ]
      exact ⟨Nat.le_refl _, Nat.le_refl _, hX _ _ ⟨by rw [e]; decide, e.symm, rfl⟩⟩
    refine hK 1 _ _ _ _ _ _ _ _ rfl ?_
    dsimp only [k_B_falls_1, hN1, hB, wpI, xop, xcall, xli, xlj, xlf, xld, xla, xlg, xst, xst2, xc1, pI, pJ, pF, pD, pR, pA, p1, p0, xpop, xpush, xsm, xhas, xif, xic, xsw, xai, xal, xhi, xhv, xrf, xret, xrtl, xrtf, xrtd, xrta, xrtv, xfit, xnew, cond_true, cond_false, f40, f41, f42, f43, List.length_cons, List.length_nil, Nat.reduceAdd, Nat.reduceSub, Nat.reduceMul, Nat.reduceBEq, List.map_cons, List.map_nil, List.headD_cons, List.getElem?_cons_zero, List.getElem?_cons_succ, List.set_cons_zero, List.set_cons_succ]
    refine ⟨fun z2 => f2 (Or.inl z2), fun z2 => ⟨fun z3 => ?_, fun z3 => f2 (Or.inr (Int32.not_le.mp z3))⟩⟩
    have hq := hQ _ _ ⟨by
      unfold whyE
      rw [if_neg z, if_neg]
      rintro (q | q)
      · exact z2 q
      · exact Int32.not_lt.mpr z3 q, rfl, rfl⟩
    obtain ⟨b, hb, rfl⟩ := nI_of (show ¬ y < 0 from fun q => z2 (Int32.lt_trans q (by decide)))
    rw [nI_leI hb (by omega)] at z3
    rw [n_cl (by omega), n_cl (by omega)] at hq
    refine hK 3 _ _ _ _ _ _ _ _ rfl ?_
    dsimp only [k_B_falls_3, hN1, hB, wpI, xop, xcall, xli, xlj, xlf, xld, xla, xlg, xst, xst2, xc1, pI, pJ, pF, pD, pR, pA, p1, p0, xpop, xpush, xsm, xhas, xif, xic, xsw, xai, xal, xhi, xhv, xrf, xret, xrtl, xrtf, xrtd, xrta, xrtv, xfit, xnew, cond_true, cond_false, f40, f41, f42, f43, List.length_cons, List.length_nil, Nat.reduceAdd, Nat.reduceSub, Nat.reduceMul, Nat.reduceBEq, List.map_cons, List.map_nil, List.headD_cons, List.getElem?_cons_zero, List.getElem?_cons_succ, List.set_cons_zero, List.set_cons_succ]
    try simp (disch := first | omega | (simp only [List.length_set]; omega)) only [nI_add, n_and, n_or, n_xor, n_i31, nI_leI, nI_ltI, n_e0, n_eq, n_m1e, n_l0, n_g0, n_p0, n_q0, n_cl, n_in, n_sub, n_shr, n_shl, n_div, bI_0, n_01, n_11, bI_or, not_false_eq_true, forall_const, not_true_eq_false, false_imp_iff, true_imp_iff, List.length_map, List.length_set, hN, nL_u, gs_eq, gs_ne, nI_set, Nat.reduceLT, true_and, and_true, pk_mul]
    refine Ev_use (ev_fallenBy _ _ _ r b _ h0 h1 hr (by omega)) ?_
    dsimp only [hN1, hB, wpI, xop, xcall, xli, xlj, xlf, xld, xla, xlg, xst, xst2, xc1, pI, pJ, pF, pD, pR, pA, p1, p0, xpop, xpush, xsm, xhas, xif, xic, xsw, xai, xal, xhi, xhv, xrf, xret, xrtl, xrtf, xrtd, xrta, xrtv, xfit, xnew, cond_true, cond_false, f40, f41, f42, f43, List.length_cons, List.length_nil, Nat.reduceAdd, Nat.reduceSub, Nat.reduceMul, Nat.reduceBEq, List.map_cons, List.map_nil, List.headD_cons, List.getElem?_cons_zero, List.getElem?_cons_succ, List.set_cons_zero, List.set_cons_succ]
    exact ⟨Nat.zero_le _, Nat.zero_le _, hq⟩
  · have e : whyE x y = 10 := by unfold whyE; rw [if_pos z]
    exact ⟨Nat.le_refl _, Nat.le_refl _, hX _ _ ⟨by rw [e]; decide, e.symm, rfl⟩⟩
