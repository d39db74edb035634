/-! the model: best, pyramids -/
def mbeL (N D : List Nat) : Nat → Int32 → Int32
  | 0, f => f
  | j + 1, f => mbeL N D j (if mrsN N (N.getD 0 0) (N.getD 1 0) (j / 3) (1 + (j - j / 3 * 3)) = 0 ∧ D.getD (otN (N.getD 0 0) (N.getD 1 0) j) 0 = 0 then nI (10 * (j / 3) + 1 + (j - j / 3 * 3)) else f)
set_option maxRecDepth 100000 in
set_option maxHeartbeats 4000000 in
theorem ev_M_best (d i : Nat) (z : Nat → xC) (N B K' T O D : List Nat) (laid : Int32) (len st many at' thr : Nat) (isK : Bool) (g : xH) (ok : stM N) (hDl : D.length = 1056) (hD : ∀ j, D.getD j 0 < 2 ^ 20) (hi : i < 132) (hm : N.getD 0 0 = gS i) :
    Ev xT (d + 8) N_M_best [.ref 7] (hM z N B K' T O shapesN D laid len st many at' thr isK g) (Rt (some (.int (mbeL N (laD N laid D) 15 (-1)))) (hM z N B K' T O shapesN (laD N laid D) (nI (sI N)) len st many at' 0 isK g)) NX := by
  refine Ev_intro t_M_best (Nat.le_of_ble_eq_true rfl) ?_
  intro Q X hQ hX K hK
  show K 0 [some (.ref 7), none, none, none, none] [] _ 0 0
  have ok' := ok
  obtain ⟨hN, h0, h1, h6, h6', h7, h8⟩ := ok
  have hq := hQ _ _ ⟨rfl, rfl⟩
  obtain ⟨hL, hLb⟩ := laD_ok (N := N) (laid := laid) hDl hD
  generalize hD2 : laD N laid D = D2 at hq hL hLb
  have loop : ∀ (j : Nat) (f : Int32) (L3 L4 : Option Value), j ≤ 15 → Q (some (.int (mbeL N D2 j f))) (hM z N B K' T O shapesN D2 (nI (sI N)) len st many at' 0 isK g) → K 1 [some (.ref 7), some (.int f), some (.int (rowI j)), L3, L4] [] (hM z N B K' T O shapesN D2 (nI (sI N)) len st many at' 0 isK g) 0 0 := by
    intro j
    induction j with
    | zero =>
      intro f L3 L4 hj hq
      refine hK 1 _ _ _ _ _ _ _ _ rfl ?_
      dsimp only [k_M_best_1, hN1, hB, hM1, hM, wpI, xop, xcall, xli, xlj, xlf, xld, xla, xlg, xst, xst2, xc1, pI, pJ, pF, pD, pR, pA, p1, p0, xpop, xpush, xsm, xhas, xif, xic, xsw, xai, xal, xhi, xhv, xrf, xret, xrtl, xrtf, xrtd, xrta, xrtv, xfit, xnew, cond_true, cond_false, f40, f41, f42, f43, List.length_cons, List.length_nil, Nat.reduceAdd, Nat.reduceSub, Nat.reduceMul, Nat.reduceBEq, List.map_cons, List.map_nil, List.headD_cons, List.getElem?_cons_zero, List.getElem?_cons_succ, List.set_cons_zero, List.set_cons_succ]
      refine br_t (by decide) ?_
      refine hK 7 _ _ _ _ _ _ _ _ rfl ?_
      dsimp only [k_M_best_7, hN1, hB, hM1, hM, wpI, xop, xcall, xli, xlj, xlf, xld, xla, xlg, xst, xst2, xc1, pI, pJ, pF, pD, pR, pA, p1, p0, xpop, xpush, xsm, xhas, xif, xic, xsw, xai, xal, xhi, xhv, xrf, xret, xrtl, xrtf, xrtd, xrta, xrtv, xfit, xnew, cond_true, cond_false, f40, f41, f42, f43, List.length_cons, List.length_nil, Nat.reduceAdd, Nat.reduceSub, Nat.reduceMul, Nat.reduceBEq, List.map_cons, List.map_nil, List.headD_cons, List.getElem?_cons_zero, List.getElem?_cons_succ, List.set_cons_zero, List.set_cons_succ]
      first | exact hq | exact ⟨Nat.le_refl _, hq⟩ | exact ⟨Nat.le_refl _, Nat.le_refl _, hq⟩ | exact ⟨Or.inl rfl, Nat.le_refl _, Nat.le_refl _, hq⟩ | exact ⟨Or.inr rfl, Nat.le_refl _, Nat.le_refl _, hq⟩
    | succ j ih =>
      intro f L3 L4 hj hq
      have er : rowI (j + 1) = nI j := rfl
      rw [mbeL] at hq
      have hz := mrs_lt N (N.getD 0 0) (N.getD 1 0) (j / 3) (1 + (j - j / 3 * 3))
      have hl := mrN_lt (t := N.getD 1 0) (r := j / 3) (b := 1 + (j - j / 3 * 3)) h0
      have f6 : ∀ L3 L4 f', Q (some (.int (mbeL N D2 j f'))) (hM z N B K' T O shapesN D2 (nI (sI N)) len st many at' 0 isK g) → K 6 [some (.ref 7), some (.int f'), some (.int (nI j)), L3, L4] [] (hM z N B K' T O shapesN D2 (nI (sI N)) len st many at' 0 isK g) 0 0 := by
        intro L3 L4 f' hq
        refine hK 6 _ _ _ _ _ _ _ _ rfl ?_
        dsimp only [k_M_best_6, hN1, hB, hM1, hM, wpI, xop, xcall, xli, xlj, xlf, xld, xla, xlg, xst, xst2, xc1, pI, pJ, pF, pD, pR, pA, p1, p0, xpop, xpush, xsm, xhas, xif, xic, xsw, xai, xal, xhi, xhv, xrf, xret, xrtl, xrtf, xrtd, xrta, xrtv, xfit, xnew, cond_true, cond_false, f40, f41, f42, f43, List.length_cons, List.length_nil, Nat.reduceAdd, Nat.reduceSub, Nat.reduceMul, Nat.reduceBEq, List.map_cons, List.map_nil, List.headD_cons, List.getElem?_cons_zero, List.getElem?_cons_succ, List.set_cons_zero, List.set_cons_succ]
        rw [rowI_m]
        exact ih f' _ _ (by omega) hq
      rw [er]
      refine hK 1 _ _ _ _ _ _ _ _ rfl ?_
      dsimp only [k_M_best_1, hN1, hB, hM1, hM, wpI, xop, xcall, xli, xlj, xlf, xld, xla, xlg, xst, xst2, xc1, pI, pJ, pF, pD, pR, pA, p1, p0, xpop, xpush, xsm, xhas, xif, xic, xsw, xai, xal, xhi, xhv, xrf, xret, xrtl, xrtf, xrtd, xrta, xrtv, xfit, xnew, cond_true, cond_false, f40, f41, f42, f43, List.length_cons, List.length_nil, Nat.reduceAdd, Nat.reduceSub, Nat.reduceMul, Nat.reduceBEq, List.map_cons, List.map_nil, List.headD_cons, List.getElem?_cons_zero, List.getElem?_cons_succ, List.set_cons_zero, List.set_cons_succ]
      try simp (disch := first | omega | (simp only [List.length_set]; omega)) only [nI_add, n_and, n_or, n_xor, n_i31, nI_leI, nI_ltI, n_e0, n_eq, n_m1e, n_l0, n_g0, n_p0, n_q0, n_cl, n_in, n_sub, n_shr, n_shl, n_div, bI_0, n_01, n_11, bI_or, not_false_eq_true, forall_const, not_true_eq_false, false_imp_iff, true_imp_iff, List.length_map, List.length_set, hN, nL_u, gs_eq, gs_ne, nI_set, Nat.reduceLT, true_and, and_true, pk_mul]
      refine ⟨by decide, by decide, ?_⟩
      refine Ev_use (ev_M_reason _ _ _ (j / 3) (1 + (j - j / 3 * 3)) z N _ _ hN h6' h7 h0 h1 (by omega) (by omega)) ?_
      dsimp only [hN1, hB, hM1, hM, wpI, xop, xcall, xli, xlj, xlf, xld, xla, xlg, xst, xst2, xc1, pI, pJ, pF, pD, pR, pA, p1, p0, xpop, xpush, xsm, xhas, xif, xic, xsw, xai, xal, xhi, xhv, xrf, xret, xrtl, xrtf, xrtd, xrta, xrtv, xfit, xnew, cond_true, cond_false, f40, f41, f42, f43, List.length_cons, List.length_nil, Nat.reduceAdd, Nat.reduceSub, Nat.reduceMul, Nat.reduceBEq, List.map_cons, List.map_nil, List.headD_cons, List.getElem?_cons_zero, List.getElem?_cons_succ, List.set_cons_zero, List.set_cons_succ]
      try simp (disch := first | omega | (simp only [List.length_set]; omega)) only [nI_add, n_and, n_or, n_xor, n_i31, nI_leI, nI_ltI, n_e0, n_eq, n_m1e, n_l0, n_g0, n_p0, n_q0, n_cl, n_in, n_sub, n_shr, n_shl, n_div, bI_0, n_01, n_11, bI_or, not_false_eq_true, forall_const, not_true_eq_false, false_imp_iff, true_imp_iff, List.length_map, List.length_set, hN, nL_u, gs_eq, gs_ne, nI_set, Nat.reduceLT, true_and, and_true, pk_mul]
      refine ⟨fun y => ?_, fun y => ?_⟩
      · rw [if_neg (fun q => y q.1)] at hq
        exact f6 _ _ _ hq
      · have hpm := ((pm_of h7).mp y).2
        rw [hm] at hpm
        obtain ⟨a, ha, hs, hm2, _, _⟩ := beh hi h1 (show j / 3 < 5 by omega) (by omega) (by omega) hpm
        have eo : otN (N.getD 0 0) (N.getD 1 0) j = 8 * a + 4 - 4 * N.getD 1 0 := by
          unfold otN
          rw [hm, hs]
          rfl
        have dO := hLb (otN (N.getD 0 0) (N.getD 1 0) j)
        refine ⟨by decide, by decide, ?_⟩
        refine Ev_use (ev_M_robbed _ _ _ (j / 3) (1 + (j - j / 3 * 3)) _ h0 h1 (by omega) (by omega)) ?_
        dsimp only [hN1, hB, hM1, hM, wpI, xop, xcall, xli, xlj, xlf, xld, xla, xlg, xst, xst2, xc1, pI, pJ, pF, pD, pR, pA, p1, p0, xpop, xpush, xsm, xhas, xif, xic, xsw, xai, xal, xhi, xhv, xrf, xret, xrtl, xrtf, xrtd, xrta, xrtv, xfit, xnew, cond_true, cond_false, f40, f41, f42, f43, List.length_cons, List.length_nil, Nat.reduceAdd, Nat.reduceSub, Nat.reduceMul, Nat.reduceBEq, List.map_cons, List.map_nil, List.headD_cons, List.getElem?_cons_zero, List.getElem?_cons_succ, List.set_cons_zero, List.set_cons_succ]
        refine Ev_use (ev_M_fallen _ _ _ hl) ?_
        dsimp only [hN1, hB, hM1, hM, wpI, xop, xcall, xli, xlj, xlf, xld, xla, xlg, xst, xst2, xc1, pI, pJ, pF, pD, pR, pA, p1, p0, xpop, xpush, xsm, xhas, xif, xic, xsw, xai, xal, xhi, xhv, xrf, xret, xrtl, xrtf, xrtd, xrta, xrtv, xfit, xnew, cond_true, cond_false, f40, f41, f42, f43, List.length_cons, List.length_nil, Nat.reduceAdd, Nat.reduceSub, Nat.reduceMul, Nat.reduceBEq, List.map_cons, List.map_nil, List.headD_cons, List.getElem?_cons_zero, List.getElem?_cons_succ, List.set_cons_zero, List.set_cons_succ]
        rw [hm, hm2]
        refine Ev_use (ev_M_numberOf _ (gS a) a z N B K' T O shapesN D2 (nI (sI N)) len st many at' 0 isK g shapes_len gS_lt (gS_lt a) (by omega) rfl (fun j hj q => Nat.ne_of_lt hj (gS_inj (by omega) (by omega) q))) ?_
        dsimp only [hN1, hB, hM1, hM, wpI, xop, xcall, xli, xlj, xlf, xld, xla, xlg, xst, xst2, xc1, pI, pJ, pF, pD, pR, pA, p1, p0, xpop, xpush, xsm, xhas, xif, xic, xsw, xai, xal, xhi, xhv, xrf, xret, xrtl, xrtf, xrtd, xrta, xrtv, xfit, xnew, cond_true, cond_false, f40, f41, f42, f43, List.length_cons, List.length_nil, Nat.reduceAdd, Nat.reduceSub, Nat.reduceMul, Nat.reduceBEq, List.map_cons, List.map_nil, List.headD_cons, List.getElem?_cons_zero, List.getElem?_cons_succ, List.set_cons_zero, List.set_cons_succ]
        rw [eo] at dO hq
        try simp (disch := first | omega | (simp only [List.length_set]; omega)) only [nI_add, n_and, n_or, n_xor, n_i31, nI_leI, nI_ltI, n_e0, n_eq, n_m1e, n_l0, n_g0, n_p0, n_q0, n_cl, n_in, n_sub, n_shr, n_shl, n_div, bI_0, n_01, n_11, bI_or, not_false_eq_true, forall_const, not_true_eq_false, false_imp_iff, true_imp_iff, List.length_map, List.length_set, hN, nL_u, gs_eq, gs_ne, nI_set, Nat.reduceLT, true_and, and_true, pk_mul, hL]
        refine ⟨by omega, ?_⟩
        refine ⟨fun y2 => ?_, fun y2 => ?_⟩
        · rw [if_neg (fun q => y2 q.2)] at hq
          refine hK 2 _ _ _ _ _ _ _ _ rfl ?_
          dsimp only [k_M_best_2, hN1, hB, hM1, hM, wpI, xop, xcall, xli, xlj, xlf, xld, xla, xlg, xst, xst2, xc1, pI, pJ, pF, pD, pR, pA, p1, p0, xpop, xpush, xsm, xhas, xif, xic, xsw, xai, xal, xhi, xhv, xrf, xret, xrtl, xrtf, xrtd, xrta, xrtv, xfit, xnew, cond_true, cond_false, f40, f41, f42, f43, List.length_cons, List.length_nil, Nat.reduceAdd, Nat.reduceSub, Nat.reduceMul, Nat.reduceBEq, List.map_cons, List.map_nil, List.headD_cons, List.getElem?_cons_zero, List.getElem?_cons_succ, List.set_cons_zero, List.set_cons_succ]
          refine hK 3 _ _ _ _ _ _ _ _ rfl ?_
          dsimp only [k_M_best_3, hN1, hB, hM1, hM, wpI, xop, xcall, xli, xlj, xlf, xld, xla, xlg, xst, xst2, xc1, pI, pJ, pF, pD, pR, pA, p1, p0, xpop, xpush, xsm, xhas, xif, xic, xsw, xai, xal, xhi, xhv, xrf, xret, xrtl, xrtf, xrtd, xrta, xrtv, xfit, xnew, cond_true, cond_false, f40, f41, f42, f43, List.length_cons, List.length_nil, Nat.reduceAdd, Nat.reduceSub, Nat.reduceMul, Nat.reduceBEq, List.map_cons, List.map_nil, List.headD_cons, List.getElem?_cons_zero, List.getElem?_cons_succ, List.set_cons_zero, List.set_cons_succ]
          refine ⟨fun _ => ?_, fun y => absurd (by decide) y⟩
          refine hK 4 _ _ _ _ _ _ _ _ rfl ?_
          dsimp only [k_M_best_4, hN1, hB, hM1, hM, wpI, xop, xcall, xli, xlj, xlf, xld, xla, xlg, xst, xst2, xc1, pI, pJ, pF, pD, pR, pA, p1, p0, xpop, xpush, xsm, xhas, xif, xic, xsw, xai, xal, xhi, xhv, xrf, xret, xrtl, xrtf, xrtd, xrta, xrtv, xfit, xnew, cond_true, cond_false, f40, f41, f42, f43, List.length_cons, List.length_nil, Nat.reduceAdd, Nat.reduceSub, Nat.reduceMul, Nat.reduceBEq, List.map_cons, List.map_nil, List.headD_cons, List.getElem?_cons_zero, List.getElem?_cons_succ, List.set_cons_zero, List.set_cons_succ]
          refine hK 5 _ _ _ _ _ _ _ _ rfl ?_
          dsimp only [k_M_best_5, hN1, hB, hM1, hM, wpI, xop, xcall, xli, xlj, xlf, xld, xla, xlg, xst, xst2, xc1, pI, pJ, pF, pD, pR, pA, p1, p0, xpop, xpush, xsm, xhas, xif, xic, xsw, xai, xal, xhi, xhv, xrf, xret, xrtl, xrtf, xrtd, xrta, xrtv, xfit, xnew, cond_true, cond_false, f40, f41, f42, f43, List.length_cons, List.length_nil, Nat.reduceAdd, Nat.reduceSub, Nat.reduceMul, Nat.reduceBEq, List.map_cons, List.map_nil, List.headD_cons, List.getElem?_cons_zero, List.getElem?_cons_succ, List.set_cons_zero, List.set_cons_succ]
          exact f6 _ _ _ hq
        · rw [if_pos ⟨y, y2⟩] at hq
          refine hK 3 _ _ _ _ _ _ _ _ rfl ?_
          dsimp only [k_M_best_3, hN1, hB, hM1, hM, wpI, xop, xcall, xli, xlj, xlf, xld, xla, xlg, xst, xst2, xc1, pI, pJ, pF, pD, pR, pA, p1, p0, xpop, xpush, xsm, xhas, xif, xic, xsw, xai, xal, xhi, xhv, xrf, xret, xrtl, xrtf, xrtd, xrta, xrtv, xfit, xnew, cond_true, cond_false, f40, f41, f42, f43, List.length_cons, List.length_nil, Nat.reduceAdd, Nat.reduceSub, Nat.reduceMul, Nat.reduceBEq, List.map_cons, List.map_nil, List.headD_cons, List.getElem?_cons_zero, List.getElem?_cons_succ, List.set_cons_zero, List.set_cons_succ]
          refine ⟨fun y => absurd y (by decide), fun _ => ?_⟩
          refine ⟨by decide, by decide, ?_⟩
          try simp (disch := first | omega | (simp only [List.length_set]; omega)) only [nI_add, n_and, n_or, n_xor, n_i31, nI_leI, nI_ltI, n_e0, n_eq, n_m1e, n_l0, n_g0, n_p0, n_q0, n_cl, n_in, n_sub, n_shr, n_shl, n_div, bI_0, n_01, n_11, bI_or, not_false_eq_true, forall_const, not_true_eq_false, false_imp_iff, true_imp_iff, List.length_map, List.length_set, hN, nL_u, gs_eq, gs_ne, nI_set, Nat.reduceLT, true_and, and_true, pk_mul]
          refine hK 5 _ _ _ _ _ _ _ _ rfl ?_
          dsimp only [k_M_best_5, hN1, hB, hM1, hM, wpI, xop, xcall, xli, xlj, xlf, xld, xla, xlg, xst, xst2, xc1, pI, pJ, pF, pD, pR, pA, p1, p0, xpop, xpush, xsm, xhas, xif, xic, xsw, xai, xal, xhi, xhv, xrf, xret, xrtl, xrtf, xrtd, xrta, xrtv, xfit, xnew, cond_true, cond_false, f40, f41, f42, f43, List.length_cons, List.length_nil, Nat.reduceAdd, Nat.reduceSub, Nat.reduceMul, Nat.reduceBEq, List.map_cons, List.map_nil, List.headD_cons, List.getElem?_cons_zero, List.getElem?_cons_succ, List.set_cons_zero, List.set_cons_succ]
          exact f6 _ _ _ hq
  refine hK 0 _ _ _ _ _ _ _ _ rfl ?_
  dsimp only [k_M_best_0, hN1, hB, hM1, hM, wpI, xop, xcall, xli, xlj, xlf, xld, xla, xlg, xst, xst2, xc1, pI, pJ, pF, pD, pR, pA, p1, p0, xpop, xpush, xsm, xhas, xif, xic, xsw, xai, xal, xhi, xhv, xrf, xret, xrtl, xrtf, xrtd, xrta, xrtv, xfit, xnew, cond_true, cond_false, f40, f41, f42, f43, List.length_cons, List.length_nil, Nat.reduceAdd, Nat.reduceSub, Nat.reduceMul, Nat.reduceBEq, List.map_cons, List.map_nil, List.headD_cons, List.getElem?_cons_zero, List.getElem?_cons_succ, List.set_cons_zero, List.set_cons_succ]
  refine Ev_use (ev_M_lay _ z N B K' T O D laid len st many at' 0 isK g ok' hDl hD) ?_
  dsimp only [hN1, hB, hM1, hM, wpI, xop, xcall, xli, xlj, xlf, xld, xla, xlg, xst, xst2, xc1, pI, pJ, pF, pD, pR, pA, p1, p0, xpop, xpush, xsm, xhas, xif, xic, xsw, xai, xal, xhi, xhv, xrf, xret, xrtl, xrtf, xrtd, xrta, xrtv, xfit, xnew, cond_true, cond_false, f40, f41, f42, f43, List.length_cons, List.length_nil, Nat.reduceAdd, Nat.reduceSub, Nat.reduceMul, Nat.reduceBEq, List.map_cons, List.map_nil, List.headD_cons, List.getElem?_cons_zero, List.getElem?_cons_succ, List.set_cons_zero, List.set_cons_succ]
  rw [hD2]
  exact loop 15 (-1) _ _ (by omega) hq
def myB (D : List Nat) (w k : Nat) : Bool := w == 0 || (w == 3 && D.getD (8 * k + 1) 0 == 1 && D.getD (8 * k + 5) 0 == 1) || (decide (w < 3) && D.getD (8 * k + 4 * ((w - 1) &&& 1)) 0 == 1)
def myL (D : List Nat) (w : Nat) : Nat → Nat → Nat → Nat
  | 0, _, s => s
  | j + 1, k, s => myL D w j (k + 1) (s + if myB D w k = true then 1 else 0)
def mpyE (x : Int32) : Nat := if inB x (nI 0) (nI 3) = true then 0 else 1
set_option maxRecDepth 100000 in
set_option maxHeartbeats 4000000 in
theorem ev_M_pyramids (d : Nat) (x : Int32) (z : Nat → xC) (N B K' T O D : List Nat) (laid : Int32) (len st many at' thr : Nat) (isK : Bool) (g : xH) (ok : stM N) (hDl : D.length = 1056) (hD : ∀ j, D.getD j 0 < 2 ^ 20) :
    Ev xT (d + 8) N_M_pyramids [.ref 7, .int x] (hM z N B K' T O shapesN D laid len st many at' thr isK g) (Mr (mpyE x) (some (.int (nI (myL (laD N laid D) x.toNatClampNeg 132 0 0)))) (hM z N B K' T O shapesN (laD N laid D) (nI (sI N)) len st many at' 0 isK g) (hM z N B K' T O shapesN D laid len st many at' (mpyE x) isK g)) NX := by
  refine Ev_intro t_M_pyramids (Nat.le_of_ble_eq_true rfl) ?_
  intro Q X hQ hX K hK
  show K 0 [some (.ref 7), some (.int x), none, none, none] [] _ 0 0
  have ok' := ok
  obtain ⟨hN, h0, h1, h6, h6', h7, h8⟩ := ok
  have hq1 := fun e => hQ _ _ (Or.inl ⟨e, rfl, rfl⟩)
  have hq0 := fun e => hQ _ _ (Or.inr ⟨e, rfl, rfl⟩)
  obtain ⟨hL, hLb⟩ := laD_ok (N := N) (laid := laid) hDl hD
  have go4 : ∀ e, e < 4 → e = mpyE x → K 2 [some (.ref 7), some (.int x), none, none, none] [.int (nI e), .ref 7] (hM z N B K' T O shapesN D laid len st many at' thr isK g) 0 0 := by
    intro e he ee
    rw [← ee] at hq0 hq1
    refine hK 2 _ _ _ _ _ _ _ _ rfl ?_
    dsimp only [k_M_pyramids_2, hN1, hB, hM1, hM, wpI, xop, xcall, xli, xlj, xlf, xld, xla, xlg, xst, xst2, xc1, pI, pJ, pF, pD, pR, pA, p1, p0, xpop, xpush, xsm, xhas, xif, xic, xsw, xai, xal, xhi, xhv, xrf, xret, xrtl, xrtf, xrtd, xrta, xrtv, xfit, xnew, cond_true, cond_false, f40, f41, f42, f43, List.length_cons, List.length_nil, Nat.reduceAdd, Nat.reduceSub, Nat.reduceMul, Nat.reduceBEq, List.map_cons, List.map_nil, List.headD_cons, List.getElem?_cons_zero, List.getElem?_cons_succ, List.set_cons_zero, List.set_cons_succ]
    refine Ev_use (ev_M_goes _ e z N B K' T O shapesN D laid len st many at' thr isK g (by omega)) ?_
    dsimp only [hN1, hB, hM1, hM, wpI, xop, xcall, xli, xlj, xlf, xld, xla, xlg, xst, xst2, xc1, pI, pJ, pF, pD, pR, pA, p1, p0, xpop, xpush, xsm, xhas, xif, xic, xsw, xai, xal, xhi, xhv, xrf, xret, xrtl, xrtf, xrtd, xrta, xrtv, xfit, xnew, cond_true, cond_false, f40, f41, f42, f43, List.length_cons, List.length_nil, Nat.reduceAdd, Nat.reduceSub, Nat.reduceMul, Nat.reduceBEq, List.map_cons, List.map_nil, List.headD_cons, List.getElem?_cons_zero, List.getElem?_cons_succ, List.set_cons_zero, List.set_cons_succ]
    rw [bI_0]
    refine ⟨fun y1 => ?_, fun y1 => ?_⟩
    · have e0 := beq_iff_eq.mp (b_nf y1)
      subst e0
      have hq := hq1 rfl
      unfold mpyE at ee
      by_cases i1 : inB x (nI 0) (nI 3) = true
      · obtain ⟨w, hw, rfl⟩ := inB_of (by decide) i1
        rw [n_cl (by omega)] at hq
        generalize hD2 : laD N laid D = D2 at hq hL hLb
        have loop : ∀ (j k s : Nat) (L4 : Option Value), k + j = 132 → Q (some (.int (nI (myL D2 w j k s)))) (hM z N B K' T O shapesN D2 (nI (sI N)) len st many at' 0 isK g) → K 4 [some (.ref 7), some (.int (nI w)), some (.int (nI s)), some (.int (nI k)), L4] [] (hM z N B K' T O shapesN D2 (nI (sI N)) len st many at' 0 isK g) 0 0 := by
          intro j
          induction j with
          | zero =>
            intro k s L4 hk hq
            obtain rfl : k = 132 := by omega
            rw [myL] at hq
            refine hK 4 _ _ _ _ _ _ _ _ rfl ?_
            dsimp only [k_M_pyramids_4, hN1, hB, hM1, hM, wpI, xop, xcall, xli, xlj, xlf, xld, xla, xlg, xst, xst2, xc1, pI, pJ, pF, pD, pR, pA, p1, p0, xpop, xpush, xsm, xhas, xif, xic, xsw, xai, xal, xhi, xhv, xrf, xret, xrtl, xrtf, xrtd, xrta, xrtv, xfit, xnew, cond_true, cond_false, f40, f41, f42, f43, List.length_cons, List.length_nil, Nat.reduceAdd, Nat.reduceSub, Nat.reduceMul, Nat.reduceBEq, List.map_cons, List.map_nil, List.headD_cons, List.getElem?_cons_zero, List.getElem?_cons_succ, List.set_cons_zero, List.set_cons_succ]
            refine br_t (by decide) ?_
            refine hK 11 _ _ _ _ _ _ _ _ rfl ?_
            dsimp only [k_M_pyramids_11, hN1, hB, hM1, hM, wpI, xop, xcall, xli, xlj, xlf, xld, xla, xlg, xst, xst2, xc1, pI, pJ, pF, pD, pR, pA, p1, p0, xpop, xpush, xsm, xhas, xif, xic, xsw, xai, xal, xhi, xhv, xrf, xret, xrtl, xrtf, xrtd, xrta, xrtv, xfit, xnew, cond_true, cond_false, f40, f41, f42, f43, List.length_cons, List.length_nil, Nat.reduceAdd, Nat.reduceSub, Nat.reduceMul, Nat.reduceBEq, List.map_cons, List.map_nil, List.headD_cons, List.getElem?_cons_zero, List.getElem?_cons_succ, List.set_cons_zero, List.set_cons_succ]
            first | exact hq | exact ⟨Nat.le_refl _, hq⟩ | exact ⟨Nat.le_refl _, Nat.le_refl _, hq⟩ | exact ⟨Or.inl rfl, Nat.le_refl _, Nat.le_refl _, hq⟩ | exact ⟨Or.inr rfl, Nat.le_refl _, Nat.le_refl _, hq⟩
          | succ j ih =>
            intro k s L4 hk hq
            rw [myL] at hq
            have d1 := hLb (8 * k + 1)
            have d5 := hLb (8 * k + 5)
            have d4 := hLb (8 * k + 4 * ((w - 1) &&& 1))
            have ha1 : (w - 1) &&& 1 ≤ 1 := Nat.and_le_right
            have go10 : ∀ v L4, Q (some (.int (nI (myL D2 w j (k + 1) (s + v))))) (hM z N B K' T O shapesN D2 (nI (sI N)) len st many at' 0 isK g) → K 10 [some (.ref 7), some (.int (nI w)), some (.int (nI s)), some (.int (nI k)), L4] [.int (nI v), .int (nI s)] (hM z N B K' T O shapesN D2 (nI (sI N)) len st many at' 0 isK g) 0 0 := by
              intro v L4 hq
              refine hK 10 _ _ _ _ _ _ _ _ rfl ?_
              dsimp only [k_M_pyramids_10, hN1, hB, hM1, hM, wpI, xop, xcall, xli, xlj, xlf, xld, xla, xlg, xst, xst2, xc1, pI, pJ, pF, pD, pR, pA, p1, p0, xpop, xpush, xsm, xhas, xif, xic, xsw, xai, xal, xhi, xhv, xrf, xret, xrtl, xrtf, xrtd, xrta, xrtv, xfit, xnew, cond_true, cond_false, f40, f41, f42, f43, List.length_cons, List.length_nil, Nat.reduceAdd, Nat.reduceSub, Nat.reduceMul, Nat.reduceBEq, List.map_cons, List.map_nil, List.headD_cons, List.getElem?_cons_zero, List.getElem?_cons_succ, List.set_cons_zero, List.set_cons_succ]
              try simp (disch := omega) only [nI_add, n_and, n_or, n_xor, n_i31, nI_leI, nI_ltI, n_e0, n_eq, n_m1e, n_l0, n_g0, n_p0, n_q0, n_cl, n_in, n_sub, n_shr, n_shl, n_div, bI_0, n_01, n_11, bI_or, not_false_eq_true, forall_const, not_true_eq_false, false_imp_iff, true_imp_iff]
              exact ih (k + 1) _ _ (by omega) hq
            have f6 : myB D2 w k = true → K 6 [some (.ref 7), some (.int (nI w)), some (.int (nI s)), some (.int (nI k)), L4] [] (hM z N B K' T O shapesN D2 (nI (sI N)) len st many at' 0 isK g) 0 0 := by
              intro e
              rw [if_pos e] at hq
              refine hK 6 _ _ _ _ _ _ _ _ rfl ?_
              dsimp only [k_M_pyramids_6, hN1, hB, hM1, hM, wpI, xop, xcall, xli, xlj, xlf, xld, xla, xlg, xst, xst2, xc1, pI, pJ, pF, pD, pR, pA, p1, p0, xpop, xpush, xsm, xhas, xif, xic, xsw, xai, xal, xhi, xhv, xrf, xret, xrtl, xrtf, xrtd, xrta, xrtv, xfit, xnew, cond_true, cond_false, f40, f41, f42, f43, List.length_cons, List.length_nil, Nat.reduceAdd, Nat.reduceSub, Nat.reduceMul, Nat.reduceBEq, List.map_cons, List.map_nil, List.headD_cons, List.getElem?_cons_zero, List.getElem?_cons_succ, List.set_cons_zero, List.set_cons_succ]
              refine hK 8 _ _ _ _ _ _ _ _ rfl ?_
              dsimp only [k_M_pyramids_8, hN1, hB, hM1, hM, wpI, xop, xcall, xli, xlj, xlf, xld, xla, xlg, xst, xst2, xc1, pI, pJ, pF, pD, pR, pA, p1, p0, xpop, xpush, xsm, xhas, xif, xic, xsw, xai, xal, xhi, xhv, xrf, xret, xrtl, xrtf, xrtd, xrta, xrtv, xfit, xnew, cond_true, cond_false, f40, f41, f42, f43, List.length_cons, List.length_nil, Nat.reduceAdd, Nat.reduceSub, Nat.reduceMul, Nat.reduceBEq, List.map_cons, List.map_nil, List.headD_cons, List.getElem?_cons_zero, List.getElem?_cons_succ, List.set_cons_zero, List.set_cons_succ]
              refine ⟨fun y => absurd y (by decide), fun _ => ?_⟩
              exact go10 1 _ hq
            have f7 : myB D2 w k = false → K 7 [some (.ref 7), some (.int (nI w)), some (.int (nI s)), some (.int (nI k)), L4] [] (hM z N B K' T O shapesN D2 (nI (sI N)) len st many at' 0 isK g) 0 0 := by
              intro e
              rw [if_neg (by rw [e]; decide)] at hq
              refine hK 7 _ _ _ _ _ _ _ _ rfl ?_
              dsimp only [k_M_pyramids_7, hN1, hB, hM1, hM, wpI, xop, xcall, xli, xlj, xlf, xld, xla, xlg, xst, xst2, xc1, pI, pJ, pF, pD, pR, pA, p1, p0, xpop, xpush, xsm, xhas, xif, xic, xsw, xai, xal, xhi, xhv, xrf, xret, xrtl, xrtf, xrtd, xrta, xrtv, xfit, xnew, cond_true, cond_false, f40, f41, f42, f43, List.length_cons, List.length_nil, Nat.reduceAdd, Nat.reduceSub, Nat.reduceMul, Nat.reduceBEq, List.map_cons, List.map_nil, List.headD_cons, List.getElem?_cons_zero, List.getElem?_cons_succ, List.set_cons_zero, List.set_cons_succ]
              refine hK 8 _ _ _ _ _ _ _ _ rfl ?_
              dsimp only [k_M_pyramids_8, hN1, hB, hM1, hM, wpI, xop, xcall, xli, xlj, xlf, xld, xla, xlg, xst, xst2, xc1, pI, pJ, pF, pD, pR, pA, p1, p0, xpop, xpush, xsm, xhas, xif, xic, xsw, xai, xal, xhi, xhv, xrf, xret, xrtl, xrtf, xrtd, xrta, xrtv, xfit, xnew, cond_true, cond_false, f40, f41, f42, f43, List.length_cons, List.length_nil, Nat.reduceAdd, Nat.reduceSub, Nat.reduceMul, Nat.reduceBEq, List.map_cons, List.map_nil, List.headD_cons, List.getElem?_cons_zero, List.getElem?_cons_succ, List.set_cons_zero, List.set_cons_succ]
              refine ⟨fun _ => ?_, fun y => absurd (by decide) y⟩
              refine hK 9 _ _ _ _ _ _ _ _ rfl ?_
              dsimp only [k_M_pyramids_9, hN1, hB, hM1, hM, wpI, xop, xcall, xli, xlj, xlf, xld, xla, xlg, xst, xst2, xc1, pI, pJ, pF, pD, pR, pA, p1, p0, xpop, xpush, xsm, xhas, xif, xic, xsw, xai, xal, xhi, xhv, xrf, xret, xrtl, xrtf, xrtd, xrta, xrtv, xfit, xnew, cond_true, cond_false, f40, f41, f42, f43, List.length_cons, List.length_nil, Nat.reduceAdd, Nat.reduceSub, Nat.reduceMul, Nat.reduceBEq, List.map_cons, List.map_nil, List.headD_cons, List.getElem?_cons_zero, List.getElem?_cons_succ, List.set_cons_zero, List.set_cons_succ]
              exact go10 0 _ hq
            unfold myB at f6 f7
            have f5 : ¬ w = 0 → ¬ (w = 3 ∧ D2.getD (8 * k + 1) 0 = 1 ∧ D2.getD (8 * k + 5) 0 = 1) → K 5 [some (.ref 7), some (.int (nI w)), some (.int (nI s)), some (.int (nI k)), L4] [] (hM z N B K' T O shapesN D2 (nI (sI N)) len st many at' 0 isK g) 0 0 := by
              intro e0 e3
              refine hK 5 _ _ _ _ _ _ _ _ rfl ?_
              dsimp only [k_M_pyramids_5, hN1, hB, hM1, hM, wpI, xop, xcall, xli, xlj, xlf, xld, xla, xlg, xst, xst2, xc1, pI, pJ, pF, pD, pR, pA, p1, p0, xpop, xpush, xsm, xhas, xif, xic, xsw, xai, xal, xhi, xhv, xrf, xret, xrtl, xrtf, xrtd, xrta, xrtv, xfit, xnew, cond_true, cond_false, f40, f41, f42, f43, List.length_cons, List.length_nil, Nat.reduceAdd, Nat.reduceSub, Nat.reduceMul, Nat.reduceBEq, List.map_cons, List.map_nil, List.headD_cons, List.getElem?_cons_zero, List.getElem?_cons_succ, List.set_cons_zero, List.set_cons_succ]
              try simp (disch := first | omega | (simp only [List.length_set]; omega)) only [nI_add, n_and, n_or, n_xor, n_i31, nI_leI, nI_ltI, n_e0, n_eq, n_m1e, n_l0, n_g0, n_p0, n_q0, n_cl, n_in, n_sub, n_shr, n_shl, n_div, bI_0, n_01, n_11, bI_or, not_false_eq_true, forall_const, not_true_eq_false, false_imp_iff, true_imp_iff, List.length_map, List.length_set, hN, nL_u, gs_eq, gs_ne, nI_set, Nat.reduceLT, true_and, and_true, pk_mul, hL]
              refine ⟨fun y => f7 ?_, fun y => ?_⟩
              · obtain rfl : w = 3 := by omega
                by_cases q1 : D2.getD (8 * k + 1) 0 = 1
                · rw [beq_eq_false_iff_ne.mpr (fun q2 => e3 ⟨rfl, q1, q2⟩)]
                  rw [Bool.and_false]
                  rfl
                · rw [beq_eq_false_iff_ne.mpr q1]
                  rfl
              · refine ⟨by omega, ?_⟩
                have e1 : (w == 0) = false := beq_eq_false_iff_ne.mpr e0
                have e2 : (w == 3) = false := beq_eq_false_iff_ne.mpr (by omega)
                have e4 : decide (w < 3) = true := decide_eq_true (by omega)
                rw [e1, e2, e4] at f6 f7
                refine ⟨fun y2 => f7 ?_, fun y2 => f6 ?_⟩
                · rw [beq_eq_false_iff_ne.mpr y2]
                  rfl
                · rw [beq_iff_eq.mpr y2]
                  rfl
            refine hK 4 _ _ _ _ _ _ _ _ rfl ?_
            dsimp only [k_M_pyramids_4, hN1, hB, hM1, hM, wpI, xop, xcall, xli, xlj, xlf, xld, xla, xlg, xst, xst2, xc1, pI, pJ, pF, pD, pR, pA, p1, p0, xpop, xpush, xsm, xhas, xif, xic, xsw, xai, xal, xhi, xhv, xrf, xret, xrtl, xrtf, xrtd, xrta, xrtv, xfit, xnew, cond_true, cond_false, f40, f41, f42, f43, List.length_cons, List.length_nil, Nat.reduceAdd, Nat.reduceSub, Nat.reduceMul, Nat.reduceBEq, List.map_cons, List.map_nil, List.headD_cons, List.getElem?_cons_zero, List.getElem?_cons_succ, List.set_cons_zero, List.set_cons_succ]
            try simp (disch := first | omega | (simp only [List.length_set]; omega)) only [nI_add, n_and, n_or, n_xor, n_i31, nI_leI, nI_ltI, n_e0, n_eq, n_m1e, n_l0, n_g0, n_p0, n_q0, n_cl, n_in, n_sub, n_shr, n_shl, n_div, bI_0, n_01, n_11, bI_or, not_false_eq_true, forall_const, not_true_eq_false, false_imp_iff, true_imp_iff, List.length_map, List.length_set, hN, nL_u, gs_eq, gs_ne, nI_set, Nat.reduceLT, true_and, and_true, pk_mul, hL]
            refine br_f (by omega) ?_
            refine ⟨fun y => f6 (by rw [y]; rfl), fun y => ?_⟩
            refine ⟨fun y2 => f5 y (fun q => y2 q.1), fun y2 => ?_⟩
            refine ⟨by omega, ?_⟩
            refine ⟨fun y3 => f5 y (fun q => y3 q.2.1), fun y3 => ?_⟩
            refine ⟨by omega, ?_⟩
            refine ⟨fun y4 => f6 ?_, fun y4 => f5 y (fun q => y4 q.2.2)⟩
            rw [beq_iff_eq.mpr y2, beq_iff_eq.mpr y3, beq_iff_eq.mpr y4]
            rw [Bool.and_self, Bool.and_self, Bool.or_true, Bool.true_or]
        refine hK 3 _ _ _ _ _ _ _ _ rfl ?_
        dsimp only [k_M_pyramids_3, hN1, hB, hM1, hM, wpI, xop, xcall, xli, xlj, xlf, xld, xla, xlg, xst, xst2, xc1, pI, pJ, pF, pD, pR, pA, p1, p0, xpop, xpush, xsm, xhas, xif, xic, xsw, xai, xal, xhi, xhv, xrf, xret, xrtl, xrtf, xrtd, xrta, xrtv, xfit, xnew, cond_true, cond_false, f40, f41, f42, f43, List.length_cons, List.length_nil, Nat.reduceAdd, Nat.reduceSub, Nat.reduceMul, Nat.reduceBEq, List.map_cons, List.map_nil, List.headD_cons, List.getElem?_cons_zero, List.getElem?_cons_succ, List.set_cons_zero, List.set_cons_succ]
        refine Ev_use (ev_M_lay _ z N B K' T O D laid len st many at' 0 isK g ok' hDl hD) ?_
        dsimp only [hN1, hB, hM1, hM, wpI, xop, xcall, xli, xlj, xlf, xld, xla, xlg, xst, xst2, xc1, pI, pJ, pF, pD, pR, pA, p1, p0, xpop, xpush, xsm, xhas, xif, xic, xsw, xai, xal, xhi, xhv, xrf, xret, xrtl, xrtf, xrtd, xrta, xrtv, xfit, xnew, cond_true, cond_false, f40, f41, f42, f43, List.length_cons, List.length_nil, Nat.reduceAdd, Nat.reduceSub, Nat.reduceMul, Nat.reduceBEq, List.map_cons, List.map_nil, List.headD_cons, List.getElem?_cons_zero, List.getElem?_cons_succ, List.set_cons_zero, List.set_cons_succ]
        rw [hD2]
        exact loop 132 0 0 _ rfl hq
      · rw [if_neg i1] at ee
        exact Nat.noConfusion ee
    · have hq := hq0 (beq_eq_false_iff_ne.mp y1)
      first | exact hq | exact ⟨Nat.le_refl _, hq⟩ | exact ⟨Nat.le_refl _, Nat.le_refl _, hq⟩ | exact ⟨Or.inl rfl, Nat.le_refl _, Nat.le_refl _, hq⟩ | exact ⟨Or.inr rfl, Nat.le_refl _, Nat.le_refl _, hq⟩
  unfold mpyE at go4
  refine hK 0 _ _ _ _ _ _ _ _ rfl ?_
  dsimp only [k_M_pyramids_0, hN1, hB, hM1, hM, wpI, xop, xcall, xli, xlj, xlf, xld, xla, xlg, xst, xst2, xc1, pI, pJ, pF, pD, pR, pA, p1, p0, xpop, xpush, xsm, xhas, xif, xic, xsw, xai, xal, xhi, xhv, xrf, xret, xrtl, xrtf, xrtd, xrta, xrtv, xfit, xnew, cond_true, cond_false, f40, f41, f42, f43, List.length_cons, List.length_nil, Nat.reduceAdd, Nat.reduceSub, Nat.reduceMul, Nat.reduceBEq, List.map_cons, List.map_nil, List.headD_cons, List.getElem?_cons_zero, List.getElem?_cons_succ, List.set_cons_zero, List.set_cons_succ]
  refine Ev_use (ev_M_in _ x _ _ _) ?_
  dsimp only [hN1, hB, hM1, hM, wpI, xop, xcall, xli, xlj, xlf, xld, xla, xlg, xst, xst2, xc1, pI, pJ, pF, pD, pR, pA, p1, p0, xpop, xpush, xsm, xhas, xif, xic, xsw, xai, xal, xhi, xhv, xrf, xret, xrtl, xrtf, xrtd, xrta, xrtv, xfit, xnew, cond_true, cond_false, f40, f41, f42, f43, List.length_cons, List.length_nil, Nat.reduceAdd, Nat.reduceSub, Nat.reduceMul, Nat.reduceBEq, List.map_cons, List.map_nil, List.headD_cons, List.getElem?_cons_zero, List.getElem?_cons_succ, List.set_cons_zero, List.set_cons_succ]
  rw [bI_0]
  refine ⟨fun y1 => ?_, fun y1 => ?_⟩
  · rw [if_neg (by rw [y1]; decide)] at go4
    refine hK 1 _ _ _ _ _ _ _ _ rfl ?_
    dsimp only [k_M_pyramids_1, hN1, hB, hM1, hM, wpI, xop, xcall, xli, xlj, xlf, xld, xla, xlg, xst, xst2, xc1, pI, pJ, pF, pD, pR, pA, p1, p0, xpop, xpush, xsm, xhas, xif, xic, xsw, xai, xal, xhi, xhv, xrf, xret, xrtl, xrtf, xrtd, xrta, xrtv, xfit, xnew, cond_true, cond_false, f40, f41, f42, f43, List.length_cons, List.length_nil, Nat.reduceAdd, Nat.reduceSub, Nat.reduceMul, Nat.reduceBEq, List.map_cons, List.map_nil, List.headD_cons, List.getElem?_cons_zero, List.getElem?_cons_succ, List.set_cons_zero, List.set_cons_succ]
    exact go4 1 (by decide) rfl
  · rw [if_pos (b_nf y1)] at go4
    exact go4 0 (by decide) rfl
