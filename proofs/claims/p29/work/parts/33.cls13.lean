def pyrE (x : Int32) : Nat := if x = nI 0 ∨ x = nI 1 ∨ x = nI 2 ∨ x = nI 3 then 0 else 11
def pyrR (N : List Nat) (x : Int32) : Nat := if x = nI 0 then 132 else if x = nI 1 then cW (plN N) 0 132 0 0 else if x = nI 2 then cW (plN N) 1 132 0 0 else cO (plN N) 132 0 0
set_option maxRecDepth 100000 in
set_option maxHeartbeats 4000000 in
theorem ev_pyramids (d : Nat) (N V S C : List Nat) (P : List Value) (sv tl : Nat) (has : Bool) (g : xH) (x : Int32) (ok : stN N) (gk : gOk P g) :
    Ev xT (d + 6) N_B_pyramids [.ref 0, .int x] (hB N V S C P sv tl has g) (clQ N V S C sv tl has g (pyrE x) (some (.int (nI (pyrR N x))))) (Xo (pyrE x) (hB N V S C P sv tl has g)) := by
  refine Ev_intro t_B_pyramids (Nat.le_of_ble_eq_true rfl) ?_
  intro Q X hQ hX K hK
  show K 0 [some (.ref 0), some (.int x)] [] _ 0 0
  have hq := fun e h' q => hQ (some (.int (nI (pyrR N x)))) h' ⟨e, rfl, q⟩
  unfold pyrR at hq
  have e0 : x = nI 0 ∨ x = nI 1 ∨ x = nI 2 ∨ x = nI 3 → pyrE x = 0 := fun e => by unfold pyrE; rw [if_pos e]
  refine hK 0 _ _ _ _ _ _ _ _ rfl ?_
  dsimp only [k_B_pyramids_0, hN1, hB, wpI, xop, xcall, xli, xlj, xlf, xld, xla, xlg, xst, xst2, xc1, pI, pJ, pF, pD, pR, pA, p1, p0, xpop, xpush, xsm, xhas, xif, xic, xsw, xrf, xret, xrtl, xrtf, xrtd, xrta, xrtv, xfit, xnew, cond_true, cond_false, f40, f41, f42, f43, List.length_cons, List.length_nil, Nat.reduceAdd, Nat.reduceSub, Nat.reduceMul, Nat.reduceBEq, List.map_cons, List.map_nil, List.headD_cons, List.getElem?_cons_zero, List.getElem?_cons_succ, List.set_cons_zero, List.set_cons_succ, List.map]
  refine ⟨fun y => ?_, fun y0 => ⟨fun y => ?_, fun y1 => ⟨fun y => ?_, fun y2 => ⟨fun y => ?_, fun y3 => ?_⟩⟩⟩⟩
  · have hq := hq (e0 (Or.inl y))
    rw [if_pos y] at hq
    refine hK 1 _ _ _ _ _ _ _ _ rfl ?_
    dsimp only [k_B_pyramids_1, hN1, hB, wpI, xop, xcall, xli, xlj, xlf, xld, xla, xlg, xst, xst2, xc1, pI, pJ, pF, pD, pR, pA, p1, p0, xpop, xpush, xsm, xhas, xif, xic, xsw, xrf, xret, xrtl, xrtf, xrtd, xrta, xrtv, xfit, xnew, cond_true, cond_false, f40, f41, f42, f43, List.length_cons, List.length_nil, Nat.reduceAdd, Nat.reduceSub, Nat.reduceMul, Nat.reduceBEq, List.map_cons, List.map_nil, List.headD_cons, List.getElem?_cons_zero, List.getElem?_cons_succ, List.set_cons_zero, List.set_cons_succ]
    refine xhv_of rfl ?_
    dsimp only [hN1, hB, wpI, xop, xcall, xli, xlj, xlf, xld, xla, xlg, xst, xst2, xc1, pI, pJ, pF, pD, pR, pA, p1, p0, xpop, xpush, xsm, xhas, xif, xic, xsw, xrf, xret, xrtl, xrtf, xrtd, xrta, xrtv, xfit, xnew, cond_true, cond_false, f40, f41, f42, f43, List.length_cons, List.length_nil, Nat.reduceAdd, Nat.reduceSub, Nat.reduceMul, Nat.reduceBEq, List.map_cons, List.map_nil, List.headD_cons, List.getElem?_cons_zero, List.getElem?_cons_succ, List.set_cons_zero, List.set_cons_succ]
    refine xal_of (by decide) rfl ?_
    rw [List.length_map, shapes_len]
    exact ⟨by decide, by decide, hq _ ⟨P, g, rfl, gk, [], (List.append_nil g).symm⟩⟩
  · have hq := hq (e0 (Or.inr (Or.inl y)))
    rw [if_neg y0, if_pos y] at hq
    refine hK 2 _ _ _ _ _ _ _ _ rfl ?_
    dsimp only [k_B_pyramids_2, hN1, hB, wpI, xop, xcall, xli, xlj, xlf, xld, xla, xlg, xst, xst2, xc1, pI, pJ, pF, pD, pR, pA, p1, p0, xpop, xpush, xsm, xhas, xif, xic, xsw, xrf, xret, xrtl, xrtf, xrtd, xrta, xrtv, xfit, xnew, cond_true, cond_false, f40, f41, f42, f43, List.length_cons, List.length_nil, Nat.reduceAdd, Nat.reduceSub, Nat.reduceMul, Nat.reduceBEq, List.map_cons, List.map_nil, List.headD_cons, List.getElem?_cons_zero, List.getElem?_cons_succ, List.set_cons_zero, List.set_cons_succ]
    refine ⟨by trivial, by decide, by decide, ⟨wr (by omega), trivial, trivial⟩, trivial, ?_⟩
    refine Ev_of (ev_play _ N V S C P sv tl has g ok gk) ?_
    rintro v h' ⟨p, w, lg, sh, P', g', rfl, rfl, gk', pl, ex⟩
    dsimp only [hN1, hB, wpI, xop, xcall, xli, xlj, xlf, xld, xla, xlg, xst, xst2, xc1, pI, pJ, pF, pD, pR, pA, p1, p0, xpop, xpush, xsm, xhas, xif, xic, xsw, xrf, xret, xrtl, xrtf, xrtd, xrta, xrtv, xfit, xnew, cond_true, cond_false, f40, f41, f42, f43, List.length_cons, List.length_nil, Nat.reduceAdd, Nat.reduceSub, Nat.reduceMul, Nat.reduceBEq, List.map_cons, List.map_nil, List.headD_cons, List.getElem?_cons_zero, List.getElem?_cons_succ, List.set_cons_zero, List.set_cons_succ]
    refine xhv_of pl.obj ?_
    refine Ev_use (ev_shapesWonBy _ p 5 w lg sh _ 0 _ _ _ _ pl (by decide)) ?_
    exact ⟨by decide, by decide, hq _ ⟨P', g', rfl, gk', ex⟩⟩
  · have hq := hq (e0 (Or.inr (Or.inr (Or.inl y))))
    rw [if_neg y0, if_neg y1, if_pos y] at hq
    refine hK 3 _ _ _ _ _ _ _ _ rfl ?_
    dsimp only [k_B_pyramids_3, hN1, hB, wpI, xop, xcall, xli, xlj, xlf, xld, xla, xlg, xst, xst2, xc1, pI, pJ, pF, pD, pR, pA, p1, p0, xpop, xpush, xsm, xhas, xif, xic, xsw, xrf, xret, xrtl, xrtf, xrtd, xrta, xrtv, xfit, xnew, cond_true, cond_false, f40, f41, f42, f43, List.length_cons, List.length_nil, Nat.reduceAdd, Nat.reduceSub, Nat.reduceMul, Nat.reduceBEq, List.map_cons, List.map_nil, List.headD_cons, List.getElem?_cons_zero, List.getElem?_cons_succ, List.set_cons_zero, List.set_cons_succ]
    refine ⟨by trivial, by decide, by decide, ⟨wr (by omega), trivial, trivial⟩, trivial, ?_⟩
    refine Ev_of (ev_play _ N V S C P sv tl has g ok gk) ?_
    rintro v h' ⟨p, w, lg, sh, P', g', rfl, rfl, gk', pl, ex⟩
    dsimp only [hN1, hB, wpI, xop, xcall, xli, xlj, xlf, xld, xla, xlg, xst, xst2, xc1, pI, pJ, pF, pD, pR, pA, p1, p0, xpop, xpush, xsm, xhas, xif, xic, xsw, xrf, xret, xrtl, xrtf, xrtd, xrta, xrtv, xfit, xnew, cond_true, cond_false, f40, f41, f42, f43, List.length_cons, List.length_nil, Nat.reduceAdd, Nat.reduceSub, Nat.reduceMul, Nat.reduceBEq, List.map_cons, List.map_nil, List.headD_cons, List.getElem?_cons_zero, List.getElem?_cons_succ, List.set_cons_zero, List.set_cons_succ]
    refine xhv_of pl.obj ?_
    refine Ev_use (ev_shapesWonBy _ p 5 w lg sh _ 1 _ _ _ _ pl (by decide)) ?_
    exact ⟨by decide, by decide, hq _ ⟨P', g', rfl, gk', ex⟩⟩
  · have hq := hq (e0 (Or.inr (Or.inr (Or.inr y))))
    rw [if_neg y0, if_neg y1, if_neg y2] at hq
    refine hK 4 _ _ _ _ _ _ _ _ rfl ?_
    dsimp only [k_B_pyramids_4, hN1, hB, wpI, xop, xcall, xli, xlj, xlf, xld, xla, xlg, xst, xst2, xc1, pI, pJ, pF, pD, pR, pA, p1, p0, xpop, xpush, xsm, xhas, xif, xic, xsw, xrf, xret, xrtl, xrtf, xrtd, xrta, xrtv, xfit, xnew, cond_true, cond_false, f40, f41, f42, f43, List.length_cons, List.length_nil, Nat.reduceAdd, Nat.reduceSub, Nat.reduceMul, Nat.reduceBEq, List.map_cons, List.map_nil, List.headD_cons, List.getElem?_cons_zero, List.getElem?_cons_succ, List.set_cons_zero, List.set_cons_succ]
    refine ⟨by trivial, by decide, by decide, ⟨wr (by omega), trivial, trivial⟩, trivial, ?_⟩
    refine Ev_of (ev_play _ N V S C P sv tl has g ok gk) ?_
    rintro v h' ⟨p, w, lg, sh, P', g', rfl, rfl, gk', pl, ex⟩
    dsimp only [hN1, hB, wpI, xop, xcall, xli, xlj, xlf, xld, xla, xlg, xst, xst2, xc1, pI, pJ, pF, pD, pR, pA, p1, p0, xpop, xpush, xsm, xhas, xif, xic, xsw, xrf, xret, xrtl, xrtf, xrtd, xrta, xrtv, xfit, xnew, cond_true, cond_false, f40, f41, f42, f43, List.length_cons, List.length_nil, Nat.reduceAdd, Nat.reduceSub, Nat.reduceMul, Nat.reduceBEq, List.map_cons, List.map_nil, List.headD_cons, List.getElem?_cons_zero, List.getElem?_cons_succ, List.set_cons_zero, List.set_cons_succ]
    refine xhv_of pl.obj ?_
    refine Ev_use (ev_shapesOver _ p 5 w lg sh _ _ _ _ _ pl (fun i => Nat.lt_of_le_of_lt ((plT_B _ _ _).1 i) (by decide))) ?_
    exact ⟨by decide, by decide, hq _ ⟨P', g', rfl, gk', ex⟩⟩
  · have e : pyrE x = 11 := by
      unfold pyrE
      rw [if_neg]
      rintro (q | q | q | q)
      · exact y0 q
      · exact y1 q
      · exact y2 q
      · exact y3 q
    refine hK 5 _ _ _ _ _ _ _ _ rfl ?_
    dsimp only [k_B_pyramids_5, hN1, hB, wpI, xop, xcall, xli, xlj, xlf, xld, xla, xlg, xst, xst2, xc1, pI, pJ, pF, pD, pR, pA, p1, p0, xpop, xpush, xsm, xhas, xif, xic, xsw, xrf, xret, xrtl, xrtf, xrtd, xrta, xrtv, xfit, xnew, cond_true, cond_false, f40, f41, f42, f43, List.length_cons, List.length_nil, Nat.reduceAdd, Nat.reduceSub, Nat.reduceMul, Nat.reduceBEq, List.map_cons, List.map_nil, List.headD_cons, List.getElem?_cons_zero, List.getElem?_cons_succ, List.set_cons_zero, List.set_cons_succ]
    exact ⟨by decide, by decide, hX _ _ ⟨by rw [e]; decide, e.symm, rfl⟩⟩
/-- the first theft of a row that wins -/
def beB (N : List Nat) (r : Nat) : Nat → Nat → Option Nat
  | 0, _ => none
  | j + 1, b => if rsnN N r b = 0 then (if wonB (plN N) (1 - N.getD 1 0) (settledN (robN (N.getD 0 0) (N.getD 1 0) r b).1) = true then beB N r j (b + 1) else some (10 * r + b)) else beB N r j (b + 1)
def beR (N : List Nat) : Nat → Nat → Option Nat
  | 0, _ => none
  | j + 1, r => (beB N r (N.getD 3 0) 1).or (beR N j (r + 1))
set_option maxRecDepth 100000 in
set_option maxHeartbeats 4000000 in
theorem ev_best (d : Nat) (N V S C : List Nat) (P : List Value) (sv tl : Nat) (has : Bool) (g : xH) (ok : stN N) (gk : gOk P g) :
    Ev xT (d + 6) N_B_best [.ref 0] (hB N V S C P sv tl has g) (clQ N V S C sv tl has g 0 (some (.int (oI (beR N 5 0))))) NX := by
  refine Ev_intro t_B_best (Nat.le_of_ble_eq_true rfl) ?_
  intro Q X hQ hX K hK
  show K 0 [some (.ref 0), none, none, none, none] [] _ 0 0
  have ok' := ok
  obtain ⟨hN, h0, h1, h3, h3', h4, h5⟩ := ok
  refine hK 0 _ _ _ _ _ _ _ _ rfl ?_
  dsimp only [k_B_best_0, hN1, hB, wpI, xop, xcall, xli, xlj, xlf, xld, xla, xlg, xst, xst2, xc1, pI, pJ, pF, pD, pR, pA, p1, p0, xpop, xpush, xsm, xhas, xif, xic, xsw, xrf, xret, xrtl, xrtf, xrtd, xrta, xrtv, xfit, xnew, cond_true, cond_false, f40, f41, f42, f43, List.length_cons, List.length_nil, Nat.reduceAdd, Nat.reduceSub, Nat.reduceMul, Nat.reduceBEq, List.map_cons, List.map_nil, List.headD_cons, List.getElem?_cons_zero, List.getElem?_cons_succ, List.set_cons_zero, List.set_cons_succ]
  refine ⟨by trivial, by decide, by decide, ⟨wr (by omega), trivial⟩, trivial, ?_⟩
  refine Ev_of (ev_play _ N V S C P sv tl has g ok' gk) ?_
  rintro v h' ⟨p, w, lg, sh, P', g', rfl, rfl, gk', pl, ex⟩
  have hq := hQ (some (.int (oI (beR N 5 0)))) _ ⟨rfl, rfl, P', g', rfl, gk', ex⟩
  have loop2 : ∀ (j b r : Nat), b + j = N.getD 3 0 + 1 → r < 5 → (∀ x, beB N r j b = some x → Q (some (.int (nI x))) (hB N V S C P' sv tl has g')) →
      (beB N r j b = none → ∀ L4, K 4 [some (.ref 0), some (.ref p), some (.int (nI (1 - N.getD 1 0))), some (.int (nI r)), L4] [] (hB N V S C P' sv tl has g') 4 799) →
      K 2 [some (.ref 0), some (.ref p), some (.int (nI (1 - N.getD 1 0))), some (.int (nI r)), some (.int (nI b))] [] (hB N V S C P' sv tl has g') 4 799 := by
    intro j
    induction j with
    | zero =>
      intro b r hb hr hs hn
      refine hK 2 _ _ _ _ _ _ _ _ rfl ?_
      dsimp only [k_B_best_2, hN1, hB, wpI, xop, xcall, xli, xlj, xlf, xld, xla, xlg, xst, xst2, xc1, pI, pJ, pF, pD, pR, pA, p1, p0, xpop, xpush, xsm, xhas, xif, xic, xsw, xrf, xret, xrtl, xrtf, xrtd, xrta, xrtv, xfit, xnew, cond_true, cond_false, f40, f41, f42, f43, List.length_cons, List.length_nil, Nat.reduceAdd, Nat.reduceSub, Nat.reduceMul, Nat.reduceBEq, List.map_cons, List.map_nil, List.headD_cons, List.getElem?_cons_zero, List.getElem?_cons_succ, List.set_cons_zero, List.set_cons_succ]
      refine xhv_of rfl ?_
      dsimp only [hN1, hB, wpI, xop, xcall, xli, xlj, xlf, xld, xla, xlg, xst, xst2, xc1, pI, pJ, pF, pD, pR, pA, p1, p0, xpop, xpush, xsm, xhas, xif, xic, xsw, xrf, xret, xrtl, xrtf, xrtd, xrta, xrtv, xfit, xnew, cond_true, cond_false, f40, f41, f42, f43, List.length_cons, List.length_nil, Nat.reduceAdd, Nat.reduceSub, Nat.reduceMul, Nat.reduceBEq, List.map_cons, List.map_nil, List.headD_cons, List.getElem?_cons_zero, List.getElem?_cons_succ, List.set_cons_zero, List.set_cons_succ]
      refine xai_of (by decide) rfl ?_
      try simp (disch := first | omega | (simp only [List.length_set]; omega)) only [nI_add, n_and, n_or, n_xor, n_i31, nI_leI, nI_ltI, n_e0, n_eq, n_m1e, n_l0, n_g0, n_p0, n_q0, n_cl, n_in, n_sub, n_shr, n_shl, n_div, bI_0, n_01, n_11, bI_or, not_false_eq_true, forall_const, not_true_eq_false, false_imp_iff, true_imp_iff, List.length_map, List.length_set, hN, nL_u, gs_eq, gs_ne, nI_set, Nat.reduceLT, true_and, and_true, pk_mul]
      exact br_t (by omega) (hn rfl _)
    | succ j ih =>
      intro b r hb hr hs hn
      rw [beB] at hs hn
      have hz := rsn_lt N r b
      have go3 : beB N r j (b + 1) = beB N r (j + 1) b → K 3 [some (.ref 0), some (.ref p), some (.int (nI (1 - N.getD 1 0))), some (.int (nI r)), some (.int (nI b))] [] (hB N V S C P' sv tl has g') 4 799 := by
        intro e
        rw [beB] at e
        rw [← e] at hs hn
        refine hK 3 _ _ _ _ _ _ _ _ rfl ?_
        dsimp only [k_B_best_3, hN1, hB, wpI, xop, xcall, xli, xlj, xlf, xld, xla, xlg, xst, xst2, xc1, pI, pJ, pF, pD, pR, pA, p1, p0, xpop, xpush, xsm, xhas, xif, xic, xsw, xrf, xret, xrtl, xrtf, xrtd, xrta, xrtv, xfit, xnew, cond_true, cond_false, f40, f41, f42, f43, List.length_cons, List.length_nil, Nat.reduceAdd, Nat.reduceSub, Nat.reduceMul, Nat.reduceBEq, List.map_cons, List.map_nil, List.headD_cons, List.getElem?_cons_zero, List.getElem?_cons_succ, List.set_cons_zero, List.set_cons_succ]
        try simp (disch := omega) only [nI_add, n_and, n_or, n_xor, n_i31, nI_leI, nI_ltI, n_e0, n_eq, n_m1e, n_l0, n_g0, n_p0, n_q0, n_cl, n_in, n_sub, n_shr, n_shl, n_div, bI_0, n_01, n_11, bI_or, not_false_eq_true, forall_const, not_true_eq_false, false_imp_iff, true_imp_iff]
        exact ih (b + 1) r (by omega) hr hs hn
      refine hK 2 _ _ _ _ _ _ _ _ rfl ?_
      dsimp only [k_B_best_2, hN1, hB, wpI, xop, xcall, xli, xlj, xlf, xld, xla, xlg, xst, xst2, xc1, pI, pJ, pF, pD, pR, pA, p1, p0, xpop, xpush, xsm, xhas, xif, xic, xsw, xrf, xret, xrtl, xrtf, xrtd, xrta, xrtv, xfit, xnew, cond_true, cond_false, f40, f41, f42, f43, List.length_cons, List.length_nil, Nat.reduceAdd, Nat.reduceSub, Nat.reduceMul, Nat.reduceBEq, List.map_cons, List.map_nil, List.headD_cons, List.getElem?_cons_zero, List.getElem?_cons_succ, List.set_cons_zero, List.set_cons_succ]
      refine xhv_of rfl ?_
      dsimp only [hN1, hB, wpI, xop, xcall, xli, xlj, xlf, xld, xla, xlg, xst, xst2, xc1, pI, pJ, pF, pD, pR, pA, p1, p0, xpop, xpush, xsm, xhas, xif, xic, xsw, xrf, xret, xrtl, xrtf, xrtd, xrta, xrtv, xfit, xnew, cond_true, cond_false, f40, f41, f42, f43, List.length_cons, List.length_nil, Nat.reduceAdd, Nat.reduceSub, Nat.reduceMul, Nat.reduceBEq, List.map_cons, List.map_nil, List.headD_cons, List.getElem?_cons_zero, List.getElem?_cons_succ, List.set_cons_zero, List.set_cons_succ]
      refine xai_of (by decide) rfl ?_
      try simp (disch := first | omega | (simp only [List.length_set]; omega)) only [nI_add, n_and, n_or, n_xor, n_i31, nI_leI, nI_ltI, n_e0, n_eq, n_m1e, n_l0, n_g0, n_p0, n_q0, n_cl, n_in, n_sub, n_shr, n_shl, n_div, bI_0, n_01, n_11, bI_or, not_false_eq_true, forall_const, not_true_eq_false, false_imp_iff, true_imp_iff, List.length_map, List.length_set, hN, nL_u, gs_eq, gs_ne, nI_set, Nat.reduceLT, true_and, and_true, pk_mul]
      refine br_f (by omega) ?_
      refine xhv_of rfl ?_
      refine Ev_use (ev_reasonAgainst _ N _ _ r b ok' hr (by omega)) ?_
      dsimp only [hN1, hB, wpI, xop, xcall, xli, xlj, xlf, xld, xla, xlg, xst, xst2, xc1, pI, pJ, pF, pD, pR, pA, p1, p0, xpop, xpush, xsm, xhas, xif, xic, xsw, xrf, xret, xrtl, xrtf, xrtd, xrta, xrtv, xfit, xnew, cond_true, cond_false, f40, f41, f42, f43, List.length_cons, List.length_nil, Nat.reduceAdd, Nat.reduceSub, Nat.reduceMul, Nat.reduceBEq, List.map_cons, List.map_nil, List.headD_cons, List.getElem?_cons_zero, List.getElem?_cons_succ, List.set_cons_zero, List.set_cons_succ]
      try simp (disch := first | omega | (simp only [List.length_set]; omega)) only [nI_add, n_and, n_or, n_xor, n_i31, nI_leI, nI_ltI, n_e0, n_eq, n_m1e, n_l0, n_g0, n_p0, n_q0, n_cl, n_in, n_sub, n_shr, n_shl, n_div, bI_0, n_01, n_11, bI_or, not_false_eq_true, forall_const, not_true_eq_false, false_imp_iff, true_imp_iff, List.length_map, List.length_set, hN, nL_u, gs_eq, gs_ne, nI_set, Nat.reduceLT, true_and, and_true, pk_mul]
      refine ⟨fun y => go3 (by rw [beB, if_neg y]), fun y => ?_⟩
      refine xhv_of rfl ?_
      refine Ev_use (ev_maskBehind _ N _ _ r b ok' hr (by omega) (rsn_z y)) ?_
      dsimp only [hN1, hB, wpI, xop, xcall, xli, xlj, xlf, xld, xla, xlg, xst, xst2, xc1, pI, pJ, pF, pD, pR, pA, p1, p0, xpop, xpush, xsm, xhas, xif, xic, xsw, xrf, xret, xrtl, xrtf, xrtd, xrta, xrtv, xfit, xnew, cond_true, cond_false, f40, f41, f42, f43, List.length_cons, List.length_nil, Nat.reduceAdd, Nat.reduceSub, Nat.reduceMul, Nat.reduceBEq, List.map_cons, List.map_nil, List.headD_cons, List.getElem?_cons_zero, List.getElem?_cons_succ, List.set_cons_zero, List.set_cons_succ]
      refine xhv_of pl.obj ?_
      refine Ev_use (ev_isWonBy _ p 5 w lg sh _ _ _ _ _ _ _ pl (by omega) (settled_lt (rob_lt h0))) ?_
      dsimp only [hN1, hB, wpI, xop, xcall, xli, xlj, xlf, xld, xla, xlg, xst, xst2, xc1, pI, pJ, pF, pD, pR, pA, p1, p0, xpop, xpush, xsm, xhas, xif, xic, xsw, xrf, xret, xrtl, xrtf, xrtd, xrta, xrtv, xfit, xnew, cond_true, cond_false, f40, f41, f42, f43, List.length_cons, List.length_nil, Nat.reduceAdd, Nat.reduceSub, Nat.reduceMul, Nat.reduceBEq, List.map_cons, List.map_nil, List.headD_cons, List.getElem?_cons_zero, List.getElem?_cons_succ, List.set_cons_zero, List.set_cons_succ]
      rw [bI_0]
      refine ⟨fun y2 => go3 (by rw [beB, if_pos y, if_pos (b_nf y2)]), fun y2 => ?_⟩
      rw [if_pos y, if_neg (by rw [y2]; decide)] at hs
      exact ⟨by decide, by decide, hs _ rfl⟩
  have loop1 : ∀ (j r : Nat) (L4 : Option Value), r + j = 5 → Q (some (.int (oI (beR N j r)))) (hB N V S C P' sv tl has g') →
      K 1 [some (.ref 0), some (.ref p), some (.int (nI (1 - N.getD 1 0))), some (.int (nI r)), L4] [] (hB N V S C P' sv tl has g') 4 799 := by
    intro j
    induction j with
    | zero =>
      intro r L4 hr hq
      obtain rfl : r = 5 := by omega
      refine hK 1 _ _ _ _ _ _ _ _ rfl ?_
      dsimp only [k_B_best_1, hN1, hB, wpI, xop, xcall, xli, xlj, xlf, xld, xla, xlg, xst, xst2, xc1, pI, pJ, pF, pD, pR, pA, p1, p0, xpop, xpush, xsm, xhas, xif, xic, xsw, xrf, xret, xrtl, xrtf, xrtd, xrta, xrtv, xfit, xnew, cond_true, cond_false, f40, f41, f42, f43, List.length_cons, List.length_nil, Nat.reduceAdd, Nat.reduceSub, Nat.reduceMul, Nat.reduceBEq, List.map_cons, List.map_nil, List.headD_cons, List.getElem?_cons_zero, List.getElem?_cons_succ, List.set_cons_zero, List.set_cons_succ]
      refine br_t (by decide) ?_
      refine hK 5 _ _ _ _ _ _ _ _ rfl ?_
      dsimp only [k_B_best_5, hN1, hB, wpI, xop, xcall, xli, xlj, xlf, xld, xla, xlg, xst, xst2, xc1, pI, pJ, pF, pD, pR, pA, p1, p0, xpop, xpush, xsm, xhas, xif, xic, xsw, xrf, xret, xrtl, xrtf, xrtd, xrta, xrtv, xfit, xnew, cond_true, cond_false, f40, f41, f42, f43, List.length_cons, List.length_nil, Nat.reduceAdd, Nat.reduceSub, Nat.reduceMul, Nat.reduceBEq, List.map_cons, List.map_nil, List.headD_cons, List.getElem?_cons_zero, List.getElem?_cons_succ, List.set_cons_zero, List.set_cons_succ]
      exact ⟨by decide, by decide, hq⟩
    | succ j ih =>
      intro r L4 hr hq
      rw [beR] at hq
      refine hK 1 _ _ _ _ _ _ _ _ rfl ?_
      dsimp only [k_B_best_1, hN1, hB, wpI, xop, xcall, xli, xlj, xlf, xld, xla, xlg, xst, xst2, xc1, pI, pJ, pF, pD, pR, pA, p1, p0, xpop, xpush, xsm, xhas, xif, xic, xsw, xrf, xret, xrtl, xrtf, xrtd, xrta, xrtv, xfit, xnew, cond_true, cond_false, f40, f41, f42, f43, List.length_cons, List.length_nil, Nat.reduceAdd, Nat.reduceSub, Nat.reduceMul, Nat.reduceBEq, List.map_cons, List.map_nil, List.headD_cons, List.getElem?_cons_zero, List.getElem?_cons_succ, List.set_cons_zero, List.set_cons_succ]
      try simp (disch := omega) only [nI_add, n_and, n_or, n_xor, n_i31, nI_leI, nI_ltI, n_e0, n_eq, n_m1e, n_l0, n_g0, n_p0, n_q0, n_cl, n_in, n_sub, n_shr, n_shl, n_div, bI_0, n_01, n_11, bI_or, not_false_eq_true, forall_const, not_true_eq_false, false_imp_iff, true_imp_iff]
      refine br_f (by omega) ?_
      refine loop2 (N.getD 3 0) 1 r (by omega) (by omega) (fun x e => ?_) fun e L4 => ?_
      · rw [e] at hq
        exact hq
      · rw [e] at hq
        refine hK 4 _ _ _ _ _ _ _ _ rfl ?_
        dsimp only [k_B_best_4, hN1, hB, wpI, xop, xcall, xli, xlj, xlf, xld, xla, xlg, xst, xst2, xc1, pI, pJ, pF, pD, pR, pA, p1, p0, xpop, xpush, xsm, xhas, xif, xic, xsw, xrf, xret, xrtl, xrtf, xrtd, xrta, xrtv, xfit, xnew, cond_true, cond_false, f40, f41, f42, f43, List.length_cons, List.length_nil, Nat.reduceAdd, Nat.reduceSub, Nat.reduceMul, Nat.reduceBEq, List.map_cons, List.map_nil, List.headD_cons, List.getElem?_cons_zero, List.getElem?_cons_succ, List.set_cons_zero, List.set_cons_succ]
        try simp (disch := omega) only [nI_add, n_and, n_or, n_xor, n_i31, nI_leI, nI_ltI, n_e0, n_eq, n_m1e, n_l0, n_g0, n_p0, n_q0, n_cl, n_in, n_sub, n_shr, n_shl, n_div, bI_0, n_01, n_11, bI_or, not_false_eq_true, forall_const, not_true_eq_false, false_imp_iff, true_imp_iff]
        exact ih (r + 1) _ (by omega) hq
  dsimp only [hN1, hB, wpI, xop, xcall, xli, xlj, xlf, xld, xla, xlg, xst, xst2, xc1, pI, pJ, pF, pD, pR, pA, p1, p0, xpop, xpush, xsm, xhas, xif, xic, xsw, xrf, xret, xrtl, xrtf, xrtd, xrta, xrtv, xfit, xnew, cond_true, cond_false, f40, f41, f42, f43, List.length_cons, List.length_nil, Nat.reduceAdd, Nat.reduceSub, Nat.reduceMul, Nat.reduceBEq, List.map_cons, List.map_nil, List.headD_cons, List.getElem?_cons_zero, List.getElem?_cons_succ, List.set_cons_zero, List.set_cons_succ]
  refine xhv_of rfl ?_
  dsimp only [hN1, hB, wpI, xop, xcall, xli, xlj, xlf, xld, xla, xlg, xst, xst2, xc1, pI, pJ, pF, pD, pR, pA, p1, p0, xpop, xpush, xsm, xhas, xif, xic, xsw, xrf, xret, xrtl, xrtf, xrtd, xrta, xrtv, xfit, xnew, cond_true, cond_false, f40, f41, f42, f43, List.length_cons, List.length_nil, Nat.reduceAdd, Nat.reduceSub, Nat.reduceMul, Nat.reduceBEq, List.map_cons, List.map_nil, List.headD_cons, List.getElem?_cons_zero, List.getElem?_cons_succ, List.set_cons_zero, List.set_cons_succ]
  refine xai_of (by decide) rfl ?_
  try simp (disch := first | omega | (simp only [List.length_set]; omega)) only [nI_add, n_and, n_or, n_xor, n_i31, nI_leI, nI_ltI, n_e0, n_eq, n_m1e, n_l0, n_g0, n_p0, n_q0, n_cl, n_in, n_sub, n_shr, n_shl, n_div, bI_0, n_01, n_11, bI_or, not_false_eq_true, forall_const, not_true_eq_false, false_imp_iff, true_imp_iff, List.length_map, List.length_set, hN, nL_u, gs_eq, gs_ne, nI_set, Nat.reduceLT, true_and, and_true, pk_mul]
  exact loop1 5 0 _ rfl hq
