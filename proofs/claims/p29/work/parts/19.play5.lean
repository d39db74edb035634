theorem nar_b (v : Bool) : vp_nar .boolean (bI v) = bI v := by cases v <;> decide
theorem hP_w {h0 : xH} {a most : Nat} {bar wo : Bool} {T : xTb} (s : Nat) (v : Bool) : (hP h0 a most bar wo T).set (h0.length + 1) (2, (T.1.map bI).set s (bI v), []) = hP h0 a most bar wo (T.1.set s v, T.2) := by
  unfold hP
  rw [set_a, List.map_set]
  rfl
theorem hP_l {h0 : xH} {a most : Nat} {bar wo : Bool} {T : xTb} (s v : Nat) : (hP h0 a most bar wo T).set (h0.length + 2) (0, (T.2.1.map nI).set s (nI v), []) = hP h0 a most bar wo (T.1, T.2.1.set s v, T.2.2) := by
  unfold hP
  rw [set_a, List.map_set]
  rfl
theorem hP_s {h0 : xH} {a most : Nat} {bar wo : Bool} {T : xTb} (s v : Nat) : (hP h0 a most bar wo T).set (h0.length + 3) (0, (T.2.2.map nI).set s (nI v), []) = hP h0 a most bar wo (T.1, T.2.1, T.2.2.set s v) := by
  unfold hP
  rw [set_a, List.map_set]
  rfl
set_option maxRecDepth 100000 in
set_option maxHeartbeats 4000000 in
theorem ev_playOut (d a most t i B : Nat) (bar wo : Bool) (T : xTb) (h0 : xH) (ha : h0[a]? = some (0, shapesN.map nI, [])) (hl : h0.length < 900) (n : tb3 T) (hT : tbB T B) (hB : B < 2 ^ 20) (hm : most < 50) (ht : t < 2) (hi : i < 132) :
    Ev xT (d + 3) N_L_playOut [.ref h0.length, .int (nI t), .int (nI i)] (hP h0 a most bar wo T) (Rt none (hP h0 a most bar wo (poT T bar wo most t i))) NX := by
  refine Ev_intro t_L_playOut (Nat.le_of_ble_eq_true rfl) ?_
  intro Q X hQ hX K hK
  show K 0 [some (.ref h0.length), some (.int (nI t)), some (.int (nI i)), none, none, none, none, none, none, none] [] _ 0 0
  have hq := hQ _ _ ⟨rfl, rfl⟩
  have pl := hP_A (most := most) (bar := bar) (wo := wo) ha hl n
  have hg := gS_lt i
  have fin : ∀ (x : xPo) (L8 L9 : Option Value) (r : Int32), x = poN T bar t (gS i) most → K 10 [some (.ref h0.length), some (.int (nI t)), some (.int (nI i)), some (.int (bI x.1)), some (.int (bI x.2.1)), some (.int (nI x.2.2.1)), some (.int (nI x.2.2.2)), some (.int r), L8, L9] [] (hP h0 a most bar wo T) 0 0 := by
    intro x L8 L9 r hx
    unfold poT at hq
    rw [← hx] at hq
    have go12 : ∀ v : Bool, v = (if x.1 then wo else x.2.1) → K 12 [some (.ref h0.length), some (.int (nI t)), some (.int (nI i)), some (.int (bI x.1)), some (.int (bI x.2.1)), some (.int (nI x.2.2.1)), some (.int (nI x.2.2.2)), some (.int (nI (2 * i + t))), L8, L9] [.int (bI v), .int (nI (2 * i + t)), .ref (h0.length + 1)] (hP h0 a most bar wo T) 0 0 := by
      intro v hv
      dsimp only at hq
      rw [← hv] at hq
      refine hK 12 _ _ _ _ _ _ _ _ rfl ?_
      dsimp only [k_L_playOut_12, wpI, xop, xcall, xli, xlj, xlf, xld, xla, xlg, xst, xst2, xc1, pI, pJ, pF, pD, pR, pA, p1, p0, xpop, xpush, xsm, xhas, xif, xic, xsw, xrf, xret, xrtl, xrtf, xrtd, xrta, xrtv, xfit, xnew, cond_true, cond_false, f40, f41, f42, f43, List.length_cons, List.length_nil, Nat.reduceAdd, Nat.reduceSub, Nat.reduceMul, Nat.reduceBEq, List.map_cons, List.map_nil, List.headD_cons, List.getElem?_cons_zero, List.getElem?_cons_succ, List.set_cons_zero, List.set_cons_succ]
      refine xhi_of pl.won ?_
      rw [List.length_map, n.1, nar_b]
      try simp (disch := omega) only [nI_add, n_and, n_or, n_xor, n_i31, nI_leI, nI_ltI, n_e0, n_eq, n_m1e, n_l0, n_g0, n_p0, n_q0, n_cl, n_in, n_sub, n_shr, n_shl, n_div, bI_0, n_01, n_11, bI_or, not_false_eq_true, forall_const, not_true_eq_false, false_imp_iff, true_imp_iff]
      refine ⟨by omega, ?_⟩
      rw [hP_w]
      have n1 : tb3 (T.1.set (2 * i + t) v, T.2) := ⟨List.length_set.trans n.1, n.2.1, n.2.2⟩
      have p1 := hP_A (most := most) (bar := bar) (wo := wo) ha hl n1
      refine xhv_of p1.obj ?_
      dsimp only [wpI, xop, xcall, xli, xlj, xlf, xld, xla, xlg, xst, xst2, xc1, pI, pJ, pF, pD, pR, pA, p1, p0, xpop, xpush, xsm, xhas, xif, xic, xsw, xrf, xret, xrtl, xrtf, xrtd, xrta, xrtv, xfit, xnew, cond_true, cond_false, f40, f41, f42, f43, List.length_cons, List.length_nil, Nat.reduceAdd, Nat.reduceSub, Nat.reduceMul, Nat.reduceBEq, List.map_cons, List.map_nil, List.headD_cons, List.getElem?_cons_zero, List.getElem?_cons_succ, List.set_cons_zero, List.set_cons_succ]
      refine xhi_of p1.lon ?_
      rw [List.length_map, n1.2.1]
      try simp (disch := omega) only [nI_add, n_and, n_or, n_xor, n_i31, nI_leI, nI_ltI, n_e0, n_eq, n_m1e, n_l0, n_g0, n_p0, n_q0, n_cl, n_in, n_sub, n_shr, n_shl, n_div, bI_0, n_01, n_11, bI_or, not_false_eq_true, forall_const, not_true_eq_false, false_imp_iff, true_imp_iff]
      refine ⟨by omega, ?_⟩
      rw [hP_l]
      have n2 : tb3 (T.1.set (2 * i + t) v, T.2.1.set (2 * i + t) x.2.2.1, T.2.2) := ⟨n1.1, List.length_set.trans n.2.1, n.2.2⟩
      have p2 := hP_A (most := most) (bar := bar) (wo := wo) ha hl n2
      refine xhv_of p2.obj ?_
      dsimp only [wpI, xop, xcall, xli, xlj, xlf, xld, xla, xlg, xst, xst2, xc1, pI, pJ, pF, pD, pR, pA, p1, p0, xpop, xpush, xsm, xhas, xif, xic, xsw, xrf, xret, xrtl, xrtf, xrtd, xrta, xrtv, xfit, xnew, cond_true, cond_false, f40, f41, f42, f43, List.length_cons, List.length_nil, Nat.reduceAdd, Nat.reduceSub, Nat.reduceMul, Nat.reduceBEq, List.map_cons, List.map_nil, List.headD_cons, List.getElem?_cons_zero, List.getElem?_cons_succ, List.set_cons_zero, List.set_cons_succ]
      refine xhi_of p2.sho ?_
      rw [List.length_map, n2.2.2]
      try simp (disch := omega) only [nI_add, n_and, n_or, n_xor, n_i31, nI_leI, nI_ltI, n_e0, n_eq, n_m1e, n_l0, n_g0, n_p0, n_q0, n_cl, n_in, n_sub, n_shr, n_shl, n_div, bI_0, n_01, n_11, bI_or, not_false_eq_true, forall_const, not_true_eq_false, false_imp_iff, true_imp_iff]
      refine ⟨by omega, ?_⟩
      rw [hP_s]
      exact ⟨Nat.le_refl _, Nat.le_refl _, hq⟩
    refine hK 10 _ _ _ _ _ _ _ _ rfl ?_
    dsimp only [k_L_playOut_10, wpI, xop, xcall, xli, xlj, xlf, xld, xla, xlg, xst, xst2, xc1, pI, pJ, pF, pD, pR, pA, p1, p0, xpop, xpush, xsm, xhas, xif, xic, xsw, xrf, xret, xrtl, xrtf, xrtd, xrta, xrtv, xfit, xnew, cond_true, cond_false, f40, f41, f42, f43, List.length_cons, List.length_nil, Nat.reduceAdd, Nat.reduceSub, Nat.reduceMul, Nat.reduceBEq, List.map_cons, List.map_nil, List.headD_cons, List.getElem?_cons_zero, List.getElem?_cons_succ, List.set_cons_zero, List.set_cons_succ]
    rw [pk_mul]
    refine xhv_of pl.obj ?_
    dsimp only [wpI, xop, xcall, xli, xlj, xlf, xld, xla, xlg, xst, xst2, xc1, pI, pJ, pF, pD, pR, pA, p1, p0, xpop, xpush, xsm, xhas, xif, xic, xsw, xrf, xret, xrtl, xrtf, xrtd, xrta, xrtv, xfit, xnew, cond_true, cond_false, f40, f41, f42, f43, List.length_cons, List.length_nil, Nat.reduceAdd, Nat.reduceSub, Nat.reduceMul, Nat.reduceBEq, List.map_cons, List.map_nil, List.headD_cons, List.getElem?_cons_zero, List.getElem?_cons_succ, List.set_cons_zero, List.set_cons_succ]
    try simp (disch := omega) only [nI_add, n_and, n_or, n_xor, n_i31, nI_leI, nI_ltI, n_e0, n_eq, n_m1e, n_l0, n_g0, n_p0, n_q0, n_cl, n_in, n_sub, n_shr, n_shl, n_div, bI_0, n_01, n_11, bI_or, not_false_eq_true, forall_const, not_true_eq_false, false_imp_iff, true_imp_iff]
    refine ⟨fun z => ?_, fun z => ?_⟩
    · refine hK 11 _ _ _ _ _ _ _ _ rfl ?_
      dsimp only [k_L_playOut_11, wpI, xop, xcall, xli, xlj, xlf, xld, xla, xlg, xst, xst2, xc1, pI, pJ, pF, pD, pR, pA, p1, p0, xpop, xpush, xsm, xhas, xif, xic, xsw, xrf, xret, xrtl, xrtf, xrtd, xrta, xrtv, xfit, xnew, cond_true, cond_false, f40, f41, f42, f43, List.length_cons, List.length_nil, Nat.reduceAdd, Nat.reduceSub, Nat.reduceMul, Nat.reduceBEq, List.map_cons, List.map_nil, List.headD_cons, List.getElem?_cons_zero, List.getElem?_cons_succ, List.set_cons_zero, List.set_cons_succ]
      exact go12 _ (by rw [z]; rfl)
    · have z := b_nf z
      refine xhv_of pl.obj ?_
      dsimp only [wpI, xop, xcall, xli, xlj, xlf, xld, xla, xlg, xst, xst2, xc1, pI, pJ, pF, pD, pR, pA, p1, p0, xpop, xpush, xsm, xhas, xif, xic, xsw, xrf, xret, xrtl, xrtf, xrtd, xrta, xrtv, xfit, xnew, cond_true, cond_false, f40, f41, f42, f43, List.length_cons, List.length_nil, Nat.reduceAdd, Nat.reduceSub, Nat.reduceMul, Nat.reduceBEq, List.map_cons, List.map_nil, List.headD_cons, List.getElem?_cons_zero, List.getElem?_cons_succ, List.set_cons_zero, List.set_cons_succ]
      exact go12 wo (by rw [z]; rfl)
  have loop2 : ∀ (j b r : Nat) (x : xPo) (L9 : Option Value), b + j = most + 1 → r < 5 → x.2.2.1 ≤ B + 1 ∧ x.2.2.2 ≤ B + 1 → (∀ L8 L9, K 9 [some (.ref h0.length), some (.int (nI t)), some (.int (nI i)), some (.int (bI (poB T bar t (gS i) r j b x).1)), some (.int (bI (poB T bar t (gS i) r j b x).2.1)), some (.int (nI (poB T bar t (gS i) r j b x).2.2.1)), some (.int (nI (poB T bar t (gS i) r j b x).2.2.2)), some (.int (nI r)), L8, L9] [] (hP h0 a most bar wo T) 0 0) →
      K 2 [some (.ref h0.length), some (.int (nI t)), some (.int (nI i)), some (.int (bI x.1)), some (.int (bI x.2.1)), some (.int (nI x.2.2.1)), some (.int (nI x.2.2.2)), some (.int (nI r)), some (.int (nI b)), L9] [] (hP h0 a most bar wo T) 0 0 := by
    intro j
    induction j with
    | zero =>
      intro b r x L9 hb hr hx hk
      refine hK 2 _ _ _ _ _ _ _ _ rfl ?_
      dsimp only [k_L_playOut_2, wpI, xop, xcall, xli, xlj, xlf, xld, xla, xlg, xst, xst2, xc1, pI, pJ, pF, pD, pR, pA, p1, p0, xpop, xpush, xsm, xhas, xif, xic, xsw, xrf, xret, xrtl, xrtf, xrtd, xrta, xrtv, xfit, xnew, cond_true, cond_false, f40, f41, f42, f43, List.length_cons, List.length_nil, Nat.reduceAdd, Nat.reduceSub, Nat.reduceMul, Nat.reduceBEq, List.map_cons, List.map_nil, List.headD_cons, List.getElem?_cons_zero, List.getElem?_cons_succ, List.set_cons_zero, List.set_cons_succ]
      refine xhv_of pl.obj ?_
      dsimp only [wpI, xop, xcall, xli, xlj, xlf, xld, xla, xlg, xst, xst2, xc1, pI, pJ, pF, pD, pR, pA, p1, p0, xpop, xpush, xsm, xhas, xif, xic, xsw, xrf, xret, xrtl, xrtf, xrtd, xrta, xrtv, xfit, xnew, cond_true, cond_false, f40, f41, f42, f43, List.length_cons, List.length_nil, Nat.reduceAdd, Nat.reduceSub, Nat.reduceMul, Nat.reduceBEq, List.map_cons, List.map_nil, List.headD_cons, List.getElem?_cons_zero, List.getElem?_cons_succ, List.set_cons_zero, List.set_cons_succ]
      try simp (disch := omega) only [nI_add, n_and, n_or, n_xor, n_i31, nI_leI, nI_ltI, n_e0, n_eq, n_m1e, n_l0, n_g0, n_p0, n_q0, n_cl, n_in, n_sub, n_shr, n_shl, n_div, bI_0, n_01, n_11, bI_or, not_false_eq_true, forall_const, not_true_eq_false, false_imp_iff, true_imp_iff]
      exact br_t (by omega) (hk _ _)
    | succ j ih =>
      intro b r x L9 hb hr hx hk
      rw [poB] at hk
      refine hK 2 _ _ _ _ _ _ _ _ rfl ?_
      dsimp only [k_L_playOut_2, wpI, xop, xcall, xli, xlj, xlf, xld, xla, xlg, xst, xst2, xc1, pI, pJ, pF, pD, pR, pA, p1, p0, xpop, xpush, xsm, xhas, xif, xic, xsw, xrf, xret, xrtl, xrtf, xrtd, xrta, xrtv, xfit, xnew, cond_true, cond_false, f40, f41, f42, f43, List.length_cons, List.length_nil, Nat.reduceAdd, Nat.reduceSub, Nat.reduceMul, Nat.reduceBEq, List.map_cons, List.map_nil, List.headD_cons, List.getElem?_cons_zero, List.getElem?_cons_succ, List.set_cons_zero, List.set_cons_succ]
      refine xhv_of pl.obj ?_
      dsimp only [wpI, xop, xcall, xli, xlj, xlf, xld, xla, xlg, xst, xst2, xc1, pI, pJ, pF, pD, pR, pA, p1, p0, xpop, xpush, xsm, xhas, xif, xic, xsw, xrf, xret, xrtl, xrtf, xrtd, xrta, xrtv, xfit, xnew, cond_true, cond_false, f40, f41, f42, f43, List.length_cons, List.length_nil, Nat.reduceAdd, Nat.reduceSub, Nat.reduceMul, Nat.reduceBEq, List.map_cons, List.map_nil, List.headD_cons, List.getElem?_cons_zero, List.getElem?_cons_succ, List.set_cons_zero, List.set_cons_succ]
      try simp (disch := omega) only [nI_add, n_and, n_or, n_xor, n_i31, nI_leI, nI_ltI, n_e0, n_eq, n_m1e, n_l0, n_g0, n_p0, n_q0, n_cl, n_in, n_sub, n_shr, n_shl, n_div, bI_0, n_01, n_11, bI_or, not_false_eq_true, forall_const, not_true_eq_false, false_imp_iff, true_imp_iff]
      refine br_f (by omega) ?_
      refine xhv_of pl.obj ?_
      dsimp only [wpI, xop, xcall, xli, xlj, xlf, xld, xla, xlg, xst, xst2, xc1, pI, pJ, pF, pD, pR, pA, p1, p0, xpop, xpush, xsm, xhas, xif, xic, xsw, xrf, xret, xrtl, xrtf, xrtd, xrta, xrtv, xfit, xnew, cond_true, cond_false, f40, f41, f42, f43, List.length_cons, List.length_nil, Nat.reduceAdd, Nat.reduceSub, Nat.reduceMul, Nat.reduceBEq, List.map_cons, List.map_nil, List.headD_cons, List.getElem?_cons_zero, List.getElem?_cons_succ, List.set_cons_zero, List.set_cons_succ]
      refine xai_of pl.la pl.shp ?_
      rw [List.length_map, shapes_len]
      try simp (disch := omega) only [nI_add, n_and, n_or, n_xor, n_i31, nI_leI, nI_ltI, n_e0, n_eq, n_m1e, n_l0, n_g0, n_p0, n_q0, n_cl, n_in, n_sub, n_shr, n_shl, n_div, bI_0, n_01, n_11, bI_or, not_false_eq_true, forall_const, not_true_eq_false, false_imp_iff, true_imp_iff]
      refine ⟨by omega, ?_⟩
      rw [shp_at hi]
      refine xhv_of pl.obj ?_
      refine Ev_use (ev_slotBehind _ _ a _ _ _ most t (gS i) r b bar wo T _ pl ht hg hr (by omega)) ?_
      dsimp only [wpI, xop, xcall, xli, xlj, xlf, xld, xla, xlg, xst, xst2, xc1, pI, pJ, pF, pD, pR, pA, p1, p0, xpop, xpush, xsm, xhas, xif, xic, xsw, xrf, xret, xrtl, xrtf, xrtd, xrta, xrtv, xfit, xnew, cond_true, cond_false, f40, f41, f42, f43, List.length_cons, List.length_nil, Nat.reduceAdd, Nat.reduceSub, Nat.reduceMul, Nat.reduceBEq, List.map_cons, List.map_nil, List.headD_cons, List.getElem?_cons_zero, List.getElem?_cons_succ, List.set_cons_zero, List.set_cons_succ]
      have next8 : ∀ (y : xPo) (L9 : Option Value), y = poO T (sbO bar t (gS i) r b) x → K 8 [some (.ref h0.length), some (.int (nI t)), some (.int (nI i)), some (.int (bI y.1)), some (.int (bI y.2.1)), some (.int (nI y.2.2.1)), some (.int (nI y.2.2.2)), some (.int (nI r)), some (.int (nI b)), L9] [] (hP h0 a most bar wo T) 0 0 := by
        intro y L9 hy
        rw [← hy] at hk
        refine hK 8 _ _ _ _ _ _ _ _ rfl ?_
        dsimp only [k_L_playOut_8, wpI, xop, xcall, xli, xlj, xlf, xld, xla, xlg, xst, xst2, xc1, pI, pJ, pF, pD, pR, pA, p1, p0, xpop, xpush, xsm, xhas, xif, xic, xsw, xrf, xret, xrtl, xrtf, xrtd, xrta, xrtv, xfit, xnew, cond_true, cond_false, f40, f41, f42, f43, List.length_cons, List.length_nil, Nat.reduceAdd, Nat.reduceSub, Nat.reduceMul, Nat.reduceBEq, List.map_cons, List.map_nil, List.headD_cons, List.getElem?_cons_zero, List.getElem?_cons_succ, List.set_cons_zero, List.set_cons_succ]
        try simp (disch := omega) only [nI_add, n_and, n_or, n_xor, n_i31, nI_leI, nI_ltI, n_e0, n_eq, n_m1e, n_l0, n_g0, n_p0, n_q0, n_cl, n_in, n_sub, n_shr, n_shl, n_div, bI_0, n_01, n_11, bI_or, not_false_eq_true, forall_const, not_true_eq_false, false_imp_iff, true_imp_iff]
        exact ih (b + 1) r y _ (by omega) hr (by rw [hy]; exact poO_le hT hx) hk
      cases e : sbO bar t (gS i) r b with
      | none =>
        rw [e] at next8
        exact ⟨fun _ => next8 x _ rfl, fun z => (z rfl).elim⟩
      | some s =>
        rw [e] at next8
        have hs := sbO_lt e
        have h1 := hT.1 s
        have h2 := hT.2 s
        dsimp only [oI]
        refine ⟨fun z => ((n_m1e (by omega)).mp z).elim, fun _ => ?_⟩
        have go7 : ∀ (wv : Bool) (v : Nat), wv = (x.2.1 || !T.1.getD s false) → v = (if x.1 then T.2.2.getD s 0 + 1 else min x.2.2.2 (T.2.2.getD s 0 + 1)) →
            K 7 [some (.ref h0.length), some (.int (nI t)), some (.int (nI i)), some (.int (bI x.1)), some (.int (bI wv)), some (.int (nI (max x.2.2.1 (T.2.1.getD s 0 + 1)))), some (.int (nI x.2.2.2)), some (.int (nI r)), some (.int (nI b)), some (.int (nI s))] [.int (nI v)] (hP h0 a most bar wo T) 0 0 := by
          intro wv v hw hv
          refine hK 7 _ _ _ _ _ _ _ _ rfl ?_
          dsimp only [k_L_playOut_7, wpI, xop, xcall, xli, xlj, xlf, xld, xla, xlg, xst, xst2, xc1, pI, pJ, pF, pD, pR, pA, p1, p0, xpop, xpush, xsm, xhas, xif, xic, xsw, xrf, xret, xrtl, xrtf, xrtd, xrta, xrtv, xfit, xnew, cond_true, cond_false, f40, f41, f42, f43, List.length_cons, List.length_nil, Nat.reduceAdd, Nat.reduceSub, Nat.reduceMul, Nat.reduceBEq, List.map_cons, List.map_nil, List.headD_cons, List.getElem?_cons_zero, List.getElem?_cons_succ, List.set_cons_zero, List.set_cons_succ]
          exact next8 (false, wv, max x.2.2.1 (T.2.1.getD s 0 + 1), v) _ (by rw [hw, hv]; rfl)
        have go5 : ∀ wv : Bool, wv = (x.2.1 || !T.1.getD s false) →
            K 5 [some (.ref h0.length), some (.int (nI t)), some (.int (nI i)), some (.int (bI x.1)), some (.int (bI x.2.1)), some (.int (nI x.2.2.1)), some (.int (nI x.2.2.2)), some (.int (nI r)), some (.int (nI b)), some (.int (nI s))] [.int (bI wv)] (hP h0 a most bar wo T) 0 0 := by
          intro wv hw
          refine hK 5 _ _ _ _ _ _ _ _ rfl ?_
          dsimp only [k_L_playOut_5, wpI, xop, xcall, xli, xlj, xlf, xld, xla, xlg, xst, xst2, xc1, pI, pJ, pF, pD, pR, pA, p1, p0, xpop, xpush, xsm, xhas, xif, xic, xsw, xrf, xret, xrtl, xrtf, xrtd, xrta, xrtv, xfit, xnew, cond_true, cond_false, f40, f41, f42, f43, List.length_cons, List.length_nil, Nat.reduceAdd, Nat.reduceSub, Nat.reduceMul, Nat.reduceBEq, List.map_cons, List.map_nil, List.headD_cons, List.getElem?_cons_zero, List.getElem?_cons_succ, List.set_cons_zero, List.set_cons_succ]
          refine xhv_of pl.obj ?_
          dsimp only [wpI, xop, xcall, xli, xlj, xlf, xld, xla, xlg, xst, xst2, xc1, pI, pJ, pF, pD, pR, pA, p1, p0, xpop, xpush, xsm, xhas, xif, xic, xsw, xrf, xret, xrtl, xrtf, xrtd, xrta, xrtv, xfit, xnew, cond_true, cond_false, f40, f41, f42, f43, List.length_cons, List.length_nil, Nat.reduceAdd, Nat.reduceSub, Nat.reduceMul, Nat.reduceBEq, List.map_cons, List.map_nil, List.headD_cons, List.getElem?_cons_zero, List.getElem?_cons_succ, List.set_cons_zero, List.set_cons_succ]
          refine xai_of pl.ll pl.lon ?_
          rw [List.length_map, n.2.1]
          try simp (disch := omega) only [nI_add, n_and, n_or, n_xor, n_i31, nI_leI, nI_ltI, n_e0, n_eq, n_m1e, n_l0, n_g0, n_p0, n_q0, n_cl, n_in, n_sub, n_shr, n_shl, n_div, bI_0, n_01, n_11, bI_or, not_false_eq_true, forall_const, not_true_eq_false, false_imp_iff, true_imp_iff]
          refine ⟨by omega, ?_⟩
          rw [nL_at (by rw [n.2.1]; exact hs)]
          try simp (disch := omega) only [nI_add, n_and, n_or, n_xor, n_i31, nI_leI, nI_ltI, n_e0, n_eq, n_m1e, n_l0, n_g0, n_p0, n_q0, n_cl, n_in, n_sub, n_shr, n_shl, n_div, bI_0, n_01, n_11, bI_or, not_false_eq_true, forall_const, not_true_eq_false, false_imp_iff, true_imp_iff]
          refine Ev_use (ev_max _ _ _ _ (by omega) (by omega)) ?_
          dsimp only [wpI, xop, xcall, xli, xlj, xlf, xld, xla, xlg, xst, xst2, xc1, pI, pJ, pF, pD, pR, pA, p1, p0, xpop, xpush, xsm, xhas, xif, xic, xsw, xrf, xret, xrtl, xrtf, xrtd, xrta, xrtv, xfit, xnew, cond_true, cond_false, f40, f41, f42, f43, List.length_cons, List.length_nil, Nat.reduceAdd, Nat.reduceSub, Nat.reduceMul, Nat.reduceBEq, List.map_cons, List.map_nil, List.headD_cons, List.getElem?_cons_zero, List.getElem?_cons_succ, List.set_cons_zero, List.set_cons_succ]
          try simp (disch := omega) only [nI_add, n_and, n_or, n_xor, n_i31, nI_leI, nI_ltI, n_e0, n_eq, n_m1e, n_l0, n_g0, n_p0, n_q0, n_cl, n_in, n_sub, n_shr, n_shl, n_div, bI_0, n_01, n_11, bI_or, not_false_eq_true, forall_const, not_true_eq_false, false_imp_iff, true_imp_iff]
          refine ⟨fun z => ?_, fun z => ?_⟩
          · refine hK 6 _ _ _ _ _ _ _ _ rfl ?_
            dsimp only [k_L_playOut_6, wpI, xop, xcall, xli, xlj, xlf, xld, xla, xlg, xst, xst2, xc1, pI, pJ, pF, pD, pR, pA, p1, p0, xpop, xpush, xsm, xhas, xif, xic, xsw, xrf, xret, xrtl, xrtf, xrtd, xrta, xrtv, xfit, xnew, cond_true, cond_false, f40, f41, f42, f43, List.length_cons, List.length_nil, Nat.reduceAdd, Nat.reduceSub, Nat.reduceMul, Nat.reduceBEq, List.map_cons, List.map_nil, List.headD_cons, List.getElem?_cons_zero, List.getElem?_cons_succ, List.set_cons_zero, List.set_cons_succ]
            refine xhv_of pl.obj ?_
            dsimp only [wpI, xop, xcall, xli, xlj, xlf, xld, xla, xlg, xst, xst2, xc1, pI, pJ, pF, pD, pR, pA, p1, p0, xpop, xpush, xsm, xhas, xif, xic, xsw, xrf, xret, xrtl, xrtf, xrtd, xrta, xrtv, xfit, xnew, cond_true, cond_false, f40, f41, f42, f43, List.length_cons, List.length_nil, Nat.reduceAdd, Nat.reduceSub, Nat.reduceMul, Nat.reduceBEq, List.map_cons, List.map_nil, List.headD_cons, List.getElem?_cons_zero, List.getElem?_cons_succ, List.set_cons_zero, List.set_cons_succ]
            refine xai_of pl.ls pl.sho ?_
            rw [List.length_map, n.2.2]
            try simp (disch := omega) only [nI_add, n_and, n_or, n_xor, n_i31, nI_leI, nI_ltI, n_e0, n_eq, n_m1e, n_l0, n_g0, n_p0, n_q0, n_cl, n_in, n_sub, n_shr, n_shl, n_div, bI_0, n_01, n_11, bI_or, not_false_eq_true, forall_const, not_true_eq_false, false_imp_iff, true_imp_iff]
            refine ⟨by omega, ?_⟩
            rw [nL_at (by rw [n.2.2]; exact hs)]
            try simp (disch := omega) only [nI_add, n_and, n_or, n_xor, n_i31, nI_leI, nI_ltI, n_e0, n_eq, n_m1e, n_l0, n_g0, n_p0, n_q0, n_cl, n_in, n_sub, n_shr, n_shl, n_div, bI_0, n_01, n_11, bI_or, not_false_eq_true, forall_const, not_true_eq_false, false_imp_iff, true_imp_iff]
            refine Ev_use (ev_min _ _ _ _ (by omega) (by omega)) ?_
            dsimp only [wpI, xop, xcall, xli, xlj, xlf, xld, xla, xlg, xst, xst2, xc1, pI, pJ, pF, pD, pR, pA, p1, p0, xpop, xpush, xsm, xhas, xif, xic, xsw, xrf, xret, xrtl, xrtf, xrtd, xrta, xrtv, xfit, xnew, cond_true, cond_false, f40, f41, f42, f43, List.length_cons, List.length_nil, Nat.reduceAdd, Nat.reduceSub, Nat.reduceMul, Nat.reduceBEq, List.map_cons, List.map_nil, List.headD_cons, List.getElem?_cons_zero, List.getElem?_cons_succ, List.set_cons_zero, List.set_cons_succ]
            exact go7 wv _ hw (by rw [z]; rfl)
          · have z := b_nf z
            refine xhv_of pl.obj ?_
            dsimp only [wpI, xop, xcall, xli, xlj, xlf, xld, xla, xlg, xst, xst2, xc1, pI, pJ, pF, pD, pR, pA, p1, p0, xpop, xpush, xsm, xhas, xif, xic, xsw, xrf, xret, xrtl, xrtf, xrtd, xrta, xrtv, xfit, xnew, cond_true, cond_false, f40, f41, f42, f43, List.length_cons, List.length_nil, Nat.reduceAdd, Nat.reduceSub, Nat.reduceMul, Nat.reduceBEq, List.map_cons, List.map_nil, List.headD_cons, List.getElem?_cons_zero, List.getElem?_cons_succ, List.set_cons_zero, List.set_cons_succ]
            refine xai_of pl.ls pl.sho ?_
            rw [List.length_map, n.2.2]
            try simp (disch := omega) only [nI_add, n_and, n_or, n_xor, n_i31, nI_leI, nI_ltI, n_e0, n_eq, n_m1e, n_l0, n_g0, n_p0, n_q0, n_cl, n_in, n_sub, n_shr, n_shl, n_div, bI_0, n_01, n_11, bI_or, not_false_eq_true, forall_const, not_true_eq_false, false_imp_iff, true_imp_iff]
            refine ⟨by omega, ?_⟩
            rw [nL_at (by rw [n.2.2]; exact hs)]
            try simp (disch := omega) only [nI_add, n_and, n_or, n_xor, n_i31, nI_leI, nI_ltI, n_e0, n_eq, n_m1e, n_l0, n_g0, n_p0, n_q0, n_cl, n_in, n_sub, n_shr, n_shl, n_div, bI_0, n_01, n_11, bI_or, not_false_eq_true, forall_const, not_true_eq_false, false_imp_iff, true_imp_iff]
            exact go7 wv _ hw (by rw [z]; rfl)
        have go3 : (x.2.1 || !T.1.getD s false) = true → K 3 [some (.ref h0.length), some (.int (nI t)), some (.int (nI i)), some (.int (bI x.1)), some (.int (bI x.2.1)), some (.int (nI x.2.2.1)), some (.int (nI x.2.2.2)), some (.int (nI r)), some (.int (nI b)), some (.int (nI s))] [] (hP h0 a most bar wo T) 0 0 := by
          intro z
          refine hK 3 _ _ _ _ _ _ _ _ rfl ?_
          dsimp only [k_L_playOut_3, wpI, xop, xcall, xli, xlj, xlf, xld, xla, xlg, xst, xst2, xc1, pI, pJ, pF, pD, pR, pA, p1, p0, xpop, xpush, xsm, xhas, xif, xic, xsw, xrf, xret, xrtl, xrtf, xrtd, xrta, xrtv, xfit, xnew, cond_true, cond_false, f40, f41, f42, f43, List.length_cons, List.length_nil, Nat.reduceAdd, Nat.reduceSub, Nat.reduceMul, Nat.reduceBEq, List.map_cons, List.map_nil, List.headD_cons, List.getElem?_cons_zero, List.getElem?_cons_succ, List.set_cons_zero, List.set_cons_succ]
          exact go5 true z.symm
        try simp (disch := omega) only [nI_add, n_and, n_or, n_xor, n_i31, nI_leI, nI_ltI, n_e0, n_eq, n_m1e, n_l0, n_g0, n_p0, n_q0, n_cl, n_in, n_sub, n_shr, n_shl, n_div, bI_0, n_01, n_11, bI_or, not_false_eq_true, forall_const, not_true_eq_false, false_imp_iff, true_imp_iff]
        refine ⟨fun z => ?_, fun z => ?_⟩
        · exact go3 (by rw [b_nf z]; rfl)
        · refine xhv_of pl.obj ?_
          dsimp only [wpI, xop, xcall, xli, xlj, xlf, xld, xla, xlg, xst, xst2, xc1, pI, pJ, pF, pD, pR, pA, p1, p0, xpop, xpush, xsm, xhas, xif, xic, xsw, xrf, xret, xrtl, xrtf, xrtd, xrta, xrtv, xfit, xnew, cond_true, cond_false, f40, f41, f42, f43, List.length_cons, List.length_nil, Nat.reduceAdd, Nat.reduceSub, Nat.reduceMul, Nat.reduceBEq, List.map_cons, List.map_nil, List.headD_cons, List.getElem?_cons_zero, List.getElem?_cons_succ, List.set_cons_zero, List.set_cons_succ]
          refine xhi_of pl.won ?_
          rw [List.length_map, n.1]
          try simp (disch := omega) only [nI_add, n_and, n_or, n_xor, n_i31, nI_leI, nI_ltI, n_e0, n_eq, n_m1e, n_l0, n_g0, n_p0, n_q0, n_cl, n_in, n_sub, n_shr, n_shl, n_div, bI_0, n_01, n_11, bI_or, not_false_eq_true, forall_const, not_true_eq_false, false_imp_iff, true_imp_iff]
          refine ⟨by omega, ?_⟩
          rw [bL_at (by rw [n.1]; exact hs)]
          try simp (disch := omega) only [nI_add, n_and, n_or, n_xor, n_i31, nI_leI, nI_ltI, n_e0, n_eq, n_m1e, n_l0, n_g0, n_p0, n_q0, n_cl, n_in, n_sub, n_shr, n_shl, n_div, bI_0, n_01, n_11, bI_or, not_false_eq_true, forall_const, not_true_eq_false, false_imp_iff, true_imp_iff]
          refine ⟨fun z2 => ?_, fun z2 => ?_⟩
          · refine hK 4 _ _ _ _ _ _ _ _ rfl ?_
            dsimp only [k_L_playOut_4, wpI, xop, xcall, xli, xlj, xlf, xld, xla, xlg, xst, xst2, xc1, pI, pJ, pF, pD, pR, pA, p1, p0, xpop, xpush, xsm, xhas, xif, xic, xsw, xrf, xret, xrtl, xrtf, xrtd, xrta, xrtv, xfit, xnew, cond_true, cond_false, f40, f41, f42, f43, List.length_cons, List.length_nil, Nat.reduceAdd, Nat.reduceSub, Nat.reduceMul, Nat.reduceBEq, List.map_cons, List.map_nil, List.headD_cons, List.getElem?_cons_zero, List.getElem?_cons_succ, List.set_cons_zero, List.set_cons_succ]
            exact go5 false (by rw [z, b_nf z2]; rfl)
          · exact go3 (by rw [z2]; simp)
  have loop1 : ∀ (j r : Nat) (x : xPo) (L8 L9 : Option Value), r + j = 5 → x.2.2.1 ≤ B + 1 ∧ x.2.2.2 ≤ B + 1 → poR T bar t (gS i) most j r x = poN T bar t (gS i) most →
      K 1 [some (.ref h0.length), some (.int (nI t)), some (.int (nI i)), some (.int (bI x.1)), some (.int (bI x.2.1)), some (.int (nI x.2.2.1)), some (.int (nI x.2.2.2)), some (.int (nI r)), L8, L9] [] (hP h0 a most bar wo T) 0 0 := by
    intro j
    induction j with
    | zero =>
      intro r x L8 L9 hr hx he
      obtain rfl : r = 5 := by omega
      refine hK 1 _ _ _ _ _ _ _ _ rfl ?_
      dsimp only [k_L_playOut_1, wpI, xop, xcall, xli, xlj, xlf, xld, xla, xlg, xst, xst2, xc1, pI, pJ, pF, pD, pR, pA, p1, p0, xpop, xpush, xsm, xhas, xif, xic, xsw, xrf, xret, xrtl, xrtf, xrtd, xrta, xrtv, xfit, xnew, cond_true, cond_false, f40, f41, f42, f43, List.length_cons, List.length_nil, Nat.reduceAdd, Nat.reduceSub, Nat.reduceMul, Nat.reduceBEq, List.map_cons, List.map_nil, List.headD_cons, List.getElem?_cons_zero, List.getElem?_cons_succ, List.set_cons_zero, List.set_cons_succ]
      exact br_t (by decide) (fin x _ _ _ he)
    | succ j ih =>
      intro r x L8 L9 hr hx he
      rw [poR] at he
      refine hK 1 _ _ _ _ _ _ _ _ rfl ?_
      dsimp only [k_L_playOut_1, wpI, xop, xcall, xli, xlj, xlf, xld, xla, xlg, xst, xst2, xc1, pI, pJ, pF, pD, pR, pA, p1, p0, xpop, xpush, xsm, xhas, xif, xic, xsw, xrf, xret, xrtl, xrtf, xrtd, xrta, xrtv, xfit, xnew, cond_true, cond_false, f40, f41, f42, f43, List.length_cons, List.length_nil, Nat.reduceAdd, Nat.reduceSub, Nat.reduceMul, Nat.reduceBEq, List.map_cons, List.map_nil, List.headD_cons, List.getElem?_cons_zero, List.getElem?_cons_succ, List.set_cons_zero, List.set_cons_succ]
      try simp (disch := omega) only [nI_add, n_and, n_or, n_xor, n_i31, nI_leI, nI_ltI, n_e0, n_eq, n_m1e, n_l0, n_g0, n_p0, n_q0, n_cl, n_in, n_sub, n_shr, n_shl, n_div, bI_0, n_01, n_11, bI_or, not_false_eq_true, forall_const, not_true_eq_false, false_imp_iff, true_imp_iff]
      refine br_f (by omega) ?_
      refine loop2 most 1 r x _ (by omega) (by omega) hx fun L8 L9 => ?_
      refine hK 9 _ _ _ _ _ _ _ _ rfl ?_
      dsimp only [k_L_playOut_9, wpI, xop, xcall, xli, xlj, xlf, xld, xla, xlg, xst, xst2, xc1, pI, pJ, pF, pD, pR, pA, p1, p0, xpop, xpush, xsm, xhas, xif, xic, xsw, xrf, xret, xrtl, xrtf, xrtd, xrta, xrtv, xfit, xnew, cond_true, cond_false, f40, f41, f42, f43, List.length_cons, List.length_nil, Nat.reduceAdd, Nat.reduceSub, Nat.reduceMul, Nat.reduceBEq, List.map_cons, List.map_nil, List.headD_cons, List.getElem?_cons_zero, List.getElem?_cons_succ, List.set_cons_zero, List.set_cons_succ]
      try simp (disch := omega) only [nI_add, n_and, n_or, n_xor, n_i31, nI_leI, nI_ltI, n_e0, n_eq, n_m1e, n_l0, n_g0, n_p0, n_q0, n_cl, n_in, n_sub, n_shr, n_shl, n_div, bI_0, n_01, n_11, bI_or, not_false_eq_true, forall_const, not_true_eq_false, false_imp_iff, true_imp_iff]
      exact ih (r + 1) _ _ _ (by omega) (poB_le hT _ _ _ hx) he
  refine hK 0 _ _ _ _ _ _ _ _ rfl ?_
  dsimp only [k_L_playOut_0, wpI, xop, xcall, xli, xlj, xlf, xld, xla, xlg, xst, xst2, xc1, pI, pJ, pF, pD, pR, pA, p1, p0, xpop, xpush, xsm, xhas, xif, xic, xsw, xrf, xret, xrtl, xrtf, xrtd, xrta, xrtv, xfit, xnew, cond_true, cond_false, f40, f41, f42, f43, List.length_cons, List.length_nil, Nat.reduceAdd, Nat.reduceSub, Nat.reduceMul, Nat.reduceBEq, List.map_cons, List.map_nil, List.headD_cons, List.getElem?_cons_zero, List.getElem?_cons_succ, List.set_cons_zero, List.set_cons_succ]
  exact loop1 5 0 (true, false, 0, 0) _ _ rfl ⟨Nat.zero_le _, Nat.zero_le _⟩ rfl
