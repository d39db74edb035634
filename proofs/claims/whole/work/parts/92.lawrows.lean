set_option maxRecDepth 100000 in
set_option maxHeartbeats 4000000 in
theorem c_turn {K : xK} {lst : List Int32} (hK : HK lst K) (hC : HC K) {i x y : Int32} {a b e d : Option Value} {q c s : Nat} {h : xH} (v1 : vp_in (i + nI 1) lst.length) (v2 : vp_in (i + nI 2) lst.length) (hx : lst.getD (i + nI 1).toNatClampNeg 0 = x) (hy : lst.getD (i + nI 2).toNatClampNeg 0 = y)
    (hw : ∀ n, xwL n [a, b, e, d]) (hc : c + 200 ≤ 601024) (hs : s + 9000 ≤ 7293034) (li : LI q h) (hn : Nx K i q c s) : K 7 (L9 i a b e d) [] h c s := by
  obtain ⟨N, V, S, C, P, sv, tl, has, B, K', O, D, laid, many, at', thr, u, g, rfl, lj⟩ := li
  obtain ⟨ok, ⟨hV, hB, hsv, hrel⟩, ⟨hS, hK', hkeep⟩, ⟨hC6, hC7, htl⟩, hO, hD, hg⟩ := id lj
  have hc9 := turn_code x
  refine hK 7 _ _ _ _ _ _ rfl rfl ?_
  dsimp only [k_law_7, L9, tl9, hN1, hB, hM1, hM, wpI, xop, xcall, xli, xlj, xlf, xld, xla, xlg, xst, xst2, xc1, pI, pJ, pF, pD, pR, pA, p1, p0, xpop, xpush, xsm, xhas, xif, xic, xsw, xai, xal, xhi, xhv, xrf, xret, xrtl, xrtf, xrtd, xrta, xrtv, xfit, xnew, cond_true, cond_false, f40, f41, f42, f43, List.length_cons, List.length_nil, Nat.reduceAdd, Nat.reduceSub, Nat.reduceMul, Nat.reduceBEq, List.map_cons, List.map_nil, List.headD_cons, List.getElem?_cons_zero, List.getElem?_cons_succ, List.set_cons_zero, List.set_cons_succ]
  rw [hx]
  refine ⟨v1, ?_⟩
  refine hC r_turn (by simp [wR]) [.ref 0, .int x, .ref 15] [] (L9 i a b e d) _ c s _ rfl (by decide) (by show c + 1 ≤ _; omega) (by show s + 6 ≤ _; omega) (Nat.le_of_ble_eq_true rfl) (xwL_9 hw i (by simp only [List.length_cons]; omega)) trivial
    (w_turn ⟨_, _, rfl⟩ (by simp only [List.length_cons]; omega) (ev_turn 18 N V S C P sv tl has _ x ok.1 hV hsv) (wV_Ro (u := .long u) (l := []) rfl (fun z => by rw [← hc9, z]; rfl)) (xo_1 (by decide) (turnE_c x) hc9)) ?_
  intro v h' hq
  show K 9 (L9 i a b e d) (xpush v []) h' (c + 1) (s + 6)
  rcases hq with ⟨hz, rfl, rfl⟩ | ⟨hz, rfl, rfl⟩
  · have hE := cd1_0 (hc9.trans hz)
    have hR := turn_ok ok hE
    refine hK 9 _ _ _ _ _ _ rfl rfl ?_
    dsimp only [k_law_9, L9, tl9, List.set_cons_succ, hN1, hB, hM1, hM, wpI, xop, xcall, xli, xlj, xlf, xld, xla, xlg, xst, xst2, xc1, pI, pJ, pF, pD, pR, pA, p1, p0, xpop, xpush, xsm, xhas, xif, xic, xsw, xai, xal, xhi, xhv, xrf, xret, xrtl, xrtf, xrtd, xrta, xrtv, xfit, xnew, cond_true, cond_false, f40, f41, f42, f43, List.length_cons, List.length_nil, Nat.reduceAdd, Nat.reduceSub, Nat.reduceMul, Nat.reduceBEq, List.map_cons, List.map_nil, List.headD_cons, List.getElem?_cons_zero, List.getElem?_cons_succ, List.set_cons_zero, List.set_cons_succ]
    rw [hx]
    refine ⟨v1, ?_⟩
    refine Ev_of (ev_M_turn 18 x (zB (N.set 1 x.toNatClampNeg) (saveV N V sv) S C P (saveS sv) tl has) (mOf N) B K' C O shapesN D laid tl sv many at' thr has (_ :: g) (st_mOf ok.1) hB hsv) ?_
    intro v2 g2 h2
    obtain ⟨rfl, rfl⟩ := Mr_0 hz h2
    dsimp only [hN1, hB, hM1, hM, wpI, xop, xcall, xli, xlj, xlf, xld, xla, xlg, xst, xst2, xc1, pI, pJ, pF, pD, pR, pA, p1, p0, xpop, xpush, xsm, xhas, xif, xic, xsw, xai, xal, xhi, xhv, xrf, xret, xrtl, xrtf, xrtd, xrta, xrtv, xfit, xnew, cond_true, cond_false, f40, f41, f42, f43, List.length_cons, List.length_nil, Nat.reduceAdd, Nat.reduceSub, Nat.reduceMul, Nat.reduceBEq, List.map_cons, List.map_nil, List.headD_cons, List.getElem?_cons_zero, List.getElem?_cons_succ, List.set_cons_zero, List.set_cons_succ]
    refine Ev_use (ev_M_thrown 19 (zB (N.set 1 x.toNatClampNeg) (saveV N V sv) S C P (saveS sv) tl has) _ _ _ _ _ _ _ _ _ _ _ _ _ _ _) ?_
    dsimp only [hN1, hB, hM1, hM, wpI, xop, xcall, xli, xlj, xlf, xld, xla, xlg, xst, xst2, xc1, pI, pJ, pF, pD, pR, pA, p1, p0, xpop, xpush, xsm, xhas, xif, xic, xsw, xai, xal, xhi, xhv, xrf, xret, xrtl, xrtf, xrtd, xrta, xrtv, xfit, xnew, cond_true, cond_false, f40, f41, f42, f43, List.length_cons, List.length_nil, Nat.reduceAdd, Nat.reduceSub, Nat.reduceMul, Nat.reduceBEq, List.map_cons, List.map_nil, List.headD_cons, List.getElem?_cons_zero, List.getElem?_cons_succ, List.set_cons_zero, List.set_cons_succ]
    refine ⟨fun _ => ?_, fun z => absurd rfl z⟩
    refine hK 10 _ _ _ _ _ _ rfl rfl ?_
    dsimp only [k_law_10, hN1, hB, hM1, hM, wpI, xop, xcall, xli, xlj, xlf, xld, xla, xlg, xst, xst2, xc1, pI, pJ, pF, pD, pR, pA, p1, p0, xpop, xpush, xsm, xhas, xif, xic, xsw, xai, xal, xhi, xhv, xrf, xret, xrtl, xrtf, xrtd, xrta, xrtv, xfit, xnew, cond_true, cond_false, f40, f41, f42, f43, List.length_cons, List.length_nil, Nat.reduceAdd, Nat.reduceSub, Nat.reduceMul, Nat.reduceBEq, List.map_cons, List.map_nil, List.headD_cons, List.getElem?_cons_zero, List.getElem?_cons_succ, List.set_cons_zero, List.set_cons_succ]
    refine ⟨fun z => absurd rfl z, fun _ => ⟨vp_in1, fun _ => ?_, fun z => absurd (lcmp_z hR.1) z⟩⟩
    refine hK 11 _ _ _ _ _ _ rfl rfl ?_
    dsimp only [k_law_11, hN1, hB, hM1, hM, wpI, xop, xcall, xli, xlj, xlf, xld, xla, xlg, xst, xst2, xc1, pI, pJ, pF, pD, pR, pA, p1, p0, xpop, xpush, xsm, xhas, xif, xic, xsw, xai, xal, xhi, xhv, xrf, xret, xrtl, xrtf, xrtd, xrta, xrtv, xfit, xnew, cond_true, cond_false, f40, f41, f42, f43, List.length_cons, List.length_nil, Nat.reduceAdd, Nat.reduceSub, Nat.reduceMul, Nat.reduceBEq, List.map_cons, List.map_nil, List.headD_cons, List.getElem?_cons_zero, List.getElem?_cons_succ, List.set_cons_zero, List.set_cons_succ]
    exact hn _ _ _ _ _ _ _ (xwL_2 hw _ _) (by omega) (by omega) (LI_mk hR.2.1 (LJ_new lj (by omega) hR.2.2))
  · refine hK 9 _ _ _ _ _ _ rfl rfl ?_
    dsimp only [k_law_9, L9, tl9, List.set_cons_succ, hN1, hB, hM1, hM, wpI, xop, xcall, xli, xlj, xlf, xld, xla, xlg, xst, xst2, xc1, pI, pJ, pF, pD, pR, pA, p1, p0, xpop, xpush, xsm, xhas, xif, xic, xsw, xai, xal, xhi, xhv, xrf, xret, xrtl, xrtf, xrtd, xrta, xrtv, xfit, xnew, cond_true, cond_false, f40, f41, f42, f43, List.length_cons, List.length_nil, Nat.reduceAdd, Nat.reduceSub, Nat.reduceMul, Nat.reduceBEq, List.map_cons, List.map_nil, List.headD_cons, List.getElem?_cons_zero, List.getElem?_cons_succ, List.set_cons_zero, List.set_cons_succ]
    rw [hx]
    refine ⟨v1, ?_⟩
    refine Ev_of (ev_M_turn 18 x (zB N V S C P sv tl has) (mOf N) B K' C O shapesN D laid tl sv many at' thr has (_ :: g) (st_mOf ok.1) hB hsv) ?_
    intro v2 g2 h2
    obtain ⟨rfl, rfl⟩ := Mr_1 hz h2
    dsimp only [hN1, hB, hM1, hM, wpI, xop, xcall, xli, xlj, xlf, xld, xla, xlg, xst, xst2, xc1, pI, pJ, pF, pD, pR, pA, p1, p0, xpop, xpush, xsm, xhas, xif, xic, xsw, xai, xal, xhi, xhv, xrf, xret, xrtl, xrtf, xrtd, xrta, xrtv, xfit, xnew, cond_true, cond_false, f40, f41, f42, f43, List.length_cons, List.length_nil, Nat.reduceAdd, Nat.reduceSub, Nat.reduceMul, Nat.reduceBEq, List.map_cons, List.map_nil, List.headD_cons, List.getElem?_cons_zero, List.getElem?_cons_succ, List.set_cons_zero, List.set_cons_succ]
    refine Ev_use (ev_M_thrown 19 (zB N V S C P sv tl has) _ _ _ _ _ _ _ _ _ _ _ _ _ _ _) ?_
    dsimp only [hN1, hB, hM1, hM, wpI, xop, xcall, xli, xlj, xlf, xld, xla, xlg, xst, xst2, xc1, pI, pJ, pF, pD, pR, pA, p1, p0, xpop, xpush, xsm, xhas, xif, xic, xsw, xai, xal, xhi, xhv, xrf, xret, xrtl, xrtf, xrtd, xrta, xrtv, xfit, xnew, cond_true, cond_false, f40, f41, f42, f43, List.length_cons, List.length_nil, Nat.reduceAdd, Nat.reduceSub, Nat.reduceMul, Nat.reduceBEq, List.map_cons, List.map_nil, List.headD_cons, List.getElem?_cons_zero, List.getElem?_cons_succ, List.set_cons_zero, List.set_cons_succ]
    refine ⟨fun _ => ?_, fun z => absurd rfl z⟩
    refine hK 10 _ _ _ _ _ _ rfl rfl ?_
    dsimp only [k_law_10, hN1, hB, hM1, hM, wpI, xop, xcall, xli, xlj, xlf, xld, xla, xlg, xst, xst2, xc1, pI, pJ, pF, pD, pR, pA, p1, p0, xpop, xpush, xsm, xhas, xif, xic, xsw, xai, xal, xhi, xhv, xrf, xret, xrtl, xrtf, xrtd, xrta, xrtv, xfit, xnew, cond_true, cond_false, f40, f41, f42, f43, List.length_cons, List.length_nil, Nat.reduceAdd, Nat.reduceSub, Nat.reduceMul, Nat.reduceBEq, List.map_cons, List.map_nil, List.headD_cons, List.getElem?_cons_zero, List.getElem?_cons_succ, List.set_cons_zero, List.set_cons_succ]
    refine ⟨fun _ => ?_, fun z => absurd z (nI_z hz (hc9 ▸ cd1_lt _))⟩
    refine hK 11 _ _ _ _ _ _ rfl rfl ?_
    dsimp only [k_law_11, hN1, hB, hM1, hM, wpI, xop, xcall, xli, xlj, xlf, xld, xla, xlg, xst, xst2, xc1, pI, pJ, pF, pD, pR, pA, p1, p0, xpop, xpush, xsm, xhas, xif, xic, xsw, xai, xal, xhi, xhv, xrf, xret, xrtl, xrtf, xrtd, xrta, xrtv, xfit, xnew, cond_true, cond_false, f40, f41, f42, f43, List.length_cons, List.length_nil, Nat.reduceAdd, Nat.reduceSub, Nat.reduceMul, Nat.reduceBEq, List.map_cons, List.map_nil, List.headD_cons, List.getElem?_cons_zero, List.getElem?_cons_succ, List.set_cons_zero, List.set_cons_succ]
    exact hn _ _ _ _ _ _ _ (xwL_2 hw _ _) (by omega) (by omega) (LI_mk rfl (LJ_same lj (by omega)))

set_option maxRecDepth 100000 in
set_option maxHeartbeats 4000000 in
theorem c_knock {K : xK} {lst : List Int32} (hK : HK lst K) (hC : HC K) {i x y : Int32} {a b e d : Option Value} {q c s : Nat} {h : xH} (v1 : vp_in (i + nI 1) lst.length) (v2 : vp_in (i + nI 2) lst.length) (hx : lst.getD (i + nI 1).toNatClampNeg 0 = x) (hy : lst.getD (i + nI 2).toNatClampNeg 0 = y)
    (hw : ∀ n, xwL n [a, b, e, d]) (hc : c + 200 ≤ 601024) (hs : s + 9000 ≤ 7293034) (li : LI q h) (hn : Nx K i q c s) : K 12 (L9 i a b e d) [] h c s := by
  obtain ⟨N, V, S, C, P, sv, tl, has, B, K', O, D, laid, many, at', thr, u, g, rfl, lj⟩ := li
  obtain ⟨ok, ⟨hV, hB, hsv, hrel⟩, ⟨hS, hK', hkeep⟩, ⟨hC6, hC7, htl⟩, hO, hD, hg⟩ := id lj
  have hc9 := knock_code N x y
  refine hK 12 _ _ _ _ _ _ rfl rfl ?_
  dsimp only [k_law_12, L9, tl9, hN1, hB, hM1, hM, wpI, xop, xcall, xli, xlj, xlf, xld, xla, xlg, xst, xst2, xc1, pI, pJ, pF, pD, pR, pA, p1, p0, xpop, xpush, xsm, xhas, xif, xic, xsw, xai, xal, xhi, xhv, xrf, xret, xrtl, xrtf, xrtd, xrta, xrtv, xfit, xnew, cond_true, cond_false, f40, f41, f42, f43, List.length_cons, List.length_nil, Nat.reduceAdd, Nat.reduceSub, Nat.reduceMul, Nat.reduceBEq, List.map_cons, List.map_nil, List.headD_cons, List.getElem?_cons_zero, List.getElem?_cons_succ, List.set_cons_zero, List.set_cons_succ]
  rw [hx, hy]
  refine ⟨v1, v2, ?_⟩
  refine hC r_knock (by simp [wR]) [.ref 0, .int x, .int y, .ref 15] [] (L9 i a b e d) _ c s _ rfl (by decide) (by show c + 1 ≤ _; omega) (by show s + 6 ≤ _; omega) (Nat.le_of_ble_eq_true rfl) (xwL_9 hw i (by simp only [List.length_cons]; omega)) trivial
    (w_knock ⟨_, _, rfl⟩ (by simp only [List.length_cons]; omega) (ev_knock 16 N V S C P sv tl has _ x y ok.1 hV hsv) (wV_Ro (u := .long u) (l := []) rfl (fun z => by rw [← hc9, z]; rfl)) (xo_IS (knockE_c N x y) hc9)) ?_
  intro v h' hq
  show K 14 (L9 i a b e d) (xpush v []) h' (c + 1) (s + 6)
  rcases hq with ⟨hz, rfl, rfl⟩ | ⟨hz, rfl, rfl⟩
  · have hE := cdIS_0 (hc9.trans hz)
    have hR := knock_ok ok hE
    refine hK 14 _ _ _ _ _ _ rfl rfl ?_
    dsimp only [k_law_14, L9, tl9, List.set_cons_succ, hN1, hB, hM1, hM, wpI, xop, xcall, xli, xlj, xlf, xld, xla, xlg, xst, xst2, xc1, pI, pJ, pF, pD, pR, pA, p1, p0, xpop, xpush, xsm, xhas, xif, xic, xsw, xai, xal, xhi, xhv, xrf, xret, xrtl, xrtf, xrtd, xrta, xrtv, xfit, xnew, cond_true, cond_false, f40, f41, f42, f43, List.length_cons, List.length_nil, Nat.reduceAdd, Nat.reduceSub, Nat.reduceMul, Nat.reduceBEq, List.map_cons, List.map_nil, List.headD_cons, List.getElem?_cons_zero, List.getElem?_cons_succ, List.set_cons_zero, List.set_cons_succ]
    rw [hx, hy]
    refine ⟨v1, v2, ?_⟩
    refine Ev_of (ev_M_knock 14 x y (zB (knockN N x.toNatClampNeg y.toNatClampNeg) (saveV N V sv) S C P (saveS sv) tl has) (mOf N) B K' C O shapesN D laid tl sv many at' thr has (_ :: g) (st_mOf ok.1) hB hsv) ?_
    intro v2 g2 h2
    obtain ⟨rfl, rfl⟩ := Mr_0 hz h2
    dsimp only [hN1, hB, hM1, hM, wpI, xop, xcall, xli, xlj, xlf, xld, xla, xlg, xst, xst2, xc1, pI, pJ, pF, pD, pR, pA, p1, p0, xpop, xpush, xsm, xhas, xif, xic, xsw, xai, xal, xhi, xhv, xrf, xret, xrtl, xrtf, xrtd, xrta, xrtv, xfit, xnew, cond_true, cond_false, f40, f41, f42, f43, List.length_cons, List.length_nil, Nat.reduceAdd, Nat.reduceSub, Nat.reduceMul, Nat.reduceBEq, List.map_cons, List.map_nil, List.headD_cons, List.getElem?_cons_zero, List.getElem?_cons_succ, List.set_cons_zero, List.set_cons_succ]
    refine Ev_use (ev_M_thrown 19 (zB (knockN N x.toNatClampNeg y.toNatClampNeg) (saveV N V sv) S C P (saveS sv) tl has) _ _ _ _ _ _ _ _ _ _ _ _ _ _ _) ?_
    dsimp only [hN1, hB, hM1, hM, wpI, xop, xcall, xli, xlj, xlf, xld, xla, xlg, xst, xst2, xc1, pI, pJ, pF, pD, pR, pA, p1, p0, xpop, xpush, xsm, xhas, xif, xic, xsw, xai, xal, xhi, xhv, xrf, xret, xrtl, xrtf, xrtd, xrta, xrtv, xfit, xnew, cond_true, cond_false, f40, f41, f42, f43, List.length_cons, List.length_nil, Nat.reduceAdd, Nat.reduceSub, Nat.reduceMul, Nat.reduceBEq, List.map_cons, List.map_nil, List.headD_cons, List.getElem?_cons_zero, List.getElem?_cons_succ, List.set_cons_zero, List.set_cons_succ]
    refine ⟨fun _ => ?_, fun z => absurd rfl z⟩
    refine hK 15 _ _ _ _ _ _ rfl rfl ?_
    dsimp only [k_law_15, hN1, hB, hM1, hM, wpI, xop, xcall, xli, xlj, xlf, xld, xla, xlg, xst, xst2, xc1, pI, pJ, pF, pD, pR, pA, p1, p0, xpop, xpush, xsm, xhas, xif, xic, xsw, xai, xal, xhi, xhv, xrf, xret, xrtl, xrtf, xrtd, xrta, xrtv, xfit, xnew, cond_true, cond_false, f40, f41, f42, f43, List.length_cons, List.length_nil, Nat.reduceAdd, Nat.reduceSub, Nat.reduceMul, Nat.reduceBEq, List.map_cons, List.map_nil, List.headD_cons, List.getElem?_cons_zero, List.getElem?_cons_succ, List.set_cons_zero, List.set_cons_succ]
    refine ⟨fun z => absurd rfl z, fun _ => ⟨vp_in1, fun _ => ?_, fun z => absurd (lcmp_z hR.1) z⟩⟩
    refine hK 16 _ _ _ _ _ _ rfl rfl ?_
    dsimp only [k_law_16, hN1, hB, hM1, hM, wpI, xop, xcall, xli, xlj, xlf, xld, xla, xlg, xst, xst2, xc1, pI, pJ, pF, pD, pR, pA, p1, p0, xpop, xpush, xsm, xhas, xif, xic, xsw, xai, xal, xhi, xhv, xrf, xret, xrtl, xrtf, xrtd, xrta, xrtv, xfit, xnew, cond_true, cond_false, f40, f41, f42, f43, List.length_cons, List.length_nil, Nat.reduceAdd, Nat.reduceSub, Nat.reduceMul, Nat.reduceBEq, List.map_cons, List.map_nil, List.headD_cons, List.getElem?_cons_zero, List.getElem?_cons_succ, List.set_cons_zero, List.set_cons_succ]
    exact hn _ _ _ _ _ _ _ (xwL_2 hw _ _) (by omega) (by omega) (LI_mk hR.2.1 (LJ_new lj (by omega) hR.2.2))
  · refine hK 14 _ _ _ _ _ _ rfl rfl ?_
    dsimp only [k_law_14, L9, tl9, List.set_cons_succ, hN1, hB, hM1, hM, wpI, xop, xcall, xli, xlj, xlf, xld, xla, xlg, xst, xst2, xc1, pI, pJ, pF, pD, pR, pA, p1, p0, xpop, xpush, xsm, xhas, xif, xic, xsw, xai, xal, xhi, xhv, xrf, xret, xrtl, xrtf, xrtd, xrta, xrtv, xfit, xnew, cond_true, cond_false, f40, f41, f42, f43, List.length_cons, List.length_nil, Nat.reduceAdd, Nat.reduceSub, Nat.reduceMul, Nat.reduceBEq, List.map_cons, List.map_nil, List.headD_cons, List.getElem?_cons_zero, List.getElem?_cons_succ, List.set_cons_zero, List.set_cons_succ]
    rw [hx, hy]
    refine ⟨v1, v2, ?_⟩
    refine Ev_of (ev_M_knock 14 x y (zB N V S C P sv tl has) (mOf N) B K' C O shapesN D laid tl sv many at' thr has (_ :: g) (st_mOf ok.1) hB hsv) ?_
    intro v2 g2 h2
    obtain ⟨rfl, rfl⟩ := Mr_1 hz h2
    dsimp only [hN1, hB, hM1, hM, wpI, xop, xcall, xli, xlj, xlf, xld, xla, xlg, xst, xst2, xc1, pI, pJ, pF, pD, pR, pA, p1, p0, xpop, xpush, xsm, xhas, xif, xic, xsw, xai, xal, xhi, xhv, xrf, xret, xrtl, xrtf, xrtd, xrta, xrtv, xfit, xnew, cond_true, cond_false, f40, f41, f42, f43, List.length_cons, List.length_nil, Nat.reduceAdd, Nat.reduceSub, Nat.reduceMul, Nat.reduceBEq, List.map_cons, List.map_nil, List.headD_cons, List.getElem?_cons_zero, List.getElem?_cons_succ, List.set_cons_zero, List.set_cons_succ]
    refine Ev_use (ev_M_thrown 19 (zB N V S C P sv tl has) _ _ _ _ _ _ _ _ _ _ _ _ _ _ _) ?_
    dsimp only [hN1, hB, hM1, hM, wpI, xop, xcall, xli, xlj, xlf, xld, xla, xlg, xst, xst2, xc1, pI, pJ, pF, pD, pR, pA, p1, p0, xpop, xpush, xsm, xhas, xif, xic, xsw, xai, xal, xhi, xhv, xrf, xret, xrtl, xrtf, xrtd, xrta, xrtv, xfit, xnew, cond_true, cond_false, f40, f41, f42, f43, List.length_cons, List.length_nil, Nat.reduceAdd, Nat.reduceSub, Nat.reduceMul, Nat.reduceBEq, List.map_cons, List.map_nil, List.headD_cons, List.getElem?_cons_zero, List.getElem?_cons_succ, List.set_cons_zero, List.set_cons_succ]
    refine ⟨fun _ => ?_, fun z => absurd rfl z⟩
    refine hK 15 _ _ _ _ _ _ rfl rfl ?_
    dsimp only [k_law_15, hN1, hB, hM1, hM, wpI, xop, xcall, xli, xlj, xlf, xld, xla, xlg, xst, xst2, xc1, pI, pJ, pF, pD, pR, pA, p1, p0, xpop, xpush, xsm, xhas, xif, xic, xsw, xai, xal, xhi, xhv, xrf, xret, xrtl, xrtf, xrtd, xrta, xrtv, xfit, xnew, cond_true, cond_false, f40, f41, f42, f43, List.length_cons, List.length_nil, Nat.reduceAdd, Nat.reduceSub, Nat.reduceMul, Nat.reduceBEq, List.map_cons, List.map_nil, List.headD_cons, List.getElem?_cons_zero, List.getElem?_cons_succ, List.set_cons_zero, List.set_cons_succ]
    refine ⟨fun _ => ?_, fun z => absurd z (nI_z hz (hc9 ▸ cdIS_lt _))⟩
    refine hK 16 _ _ _ _ _ _ rfl rfl ?_
    dsimp only [k_law_16, hN1, hB, hM1, hM, wpI, xop, xcall, xli, xlj, xlf, xld, xla, xlg, xst, xst2, xc1, pI, pJ, pF, pD, pR, pA, p1, p0, xpop, xpush, xsm, xhas, xif, xic, xsw, xai, xal, xhi, xhv, xrf, xret, xrtl, xrtf, xrtd, xrta, xrtv, xfit, xnew, cond_true, cond_false, f40, f41, f42, f43, List.length_cons, List.length_nil, Nat.reduceAdd, Nat.reduceSub, Nat.reduceMul, Nat.reduceBEq, List.map_cons, List.map_nil, List.headD_cons, List.getElem?_cons_zero, List.getElem?_cons_succ, List.set_cons_zero, List.set_cons_succ]
    exact hn _ _ _ _ _ _ _ (xwL_2 hw _ _) (by omega) (by omega) (LI_mk rfl (LJ_same lj (by omega)))

set_option maxRecDepth 100000 in
set_option maxHeartbeats 4000000 in
theorem c_put {K : xK} {lst : List Int32} (hK : HK lst K) (hC : HC K) {i x y : Int32} {a b e d : Option Value} {q c s : Nat} {h : xH} (v1 : vp_in (i + nI 1) lst.length) (v2 : vp_in (i + nI 2) lst.length) (hx : lst.getD (i + nI 1).toNatClampNeg 0 = x) (hy : lst.getD (i + nI 2).toNatClampNeg 0 = y)
    (hw : ∀ n, xwL n [a, b, e, d]) (hc : c + 200 ≤ 601024) (hs : s + 9000 ≤ 7293034) (li : LI q h) (hn : Nx K i q c s) : K 17 (L9 i a b e d) [] h c s := by
  obtain ⟨N, V, S, C, P, sv, tl, has, B, K', O, D, laid, many, at', thr, u, g, rfl, lj⟩ := li
  obtain ⟨ok, ⟨hV, hB, hsv, hrel⟩, ⟨hS, hK', hkeep⟩, ⟨hC6, hC7, htl⟩, hO, hD, hg⟩ := id lj
  have hc9 := put_code N x y
  refine hK 17 _ _ _ _ _ _ rfl rfl ?_
  dsimp only [k_law_17, L9, tl9, hN1, hB, hM1, hM, wpI, xop, xcall, xli, xlj, xlf, xld, xla, xlg, xst, xst2, xc1, pI, pJ, pF, pD, pR, pA, p1, p0, xpop, xpush, xsm, xhas, xif, xic, xsw, xai, xal, xhi, xhv, xrf, xret, xrtl, xrtf, xrtd, xrta, xrtv, xfit, xnew, cond_true, cond_false, f40, f41, f42, f43, List.length_cons, List.length_nil, Nat.reduceAdd, Nat.reduceSub, Nat.reduceMul, Nat.reduceBEq, List.map_cons, List.map_nil, List.headD_cons, List.getElem?_cons_zero, List.getElem?_cons_succ, List.set_cons_zero, List.set_cons_succ]
  rw [hx, hy]
  refine ⟨v1, v2, ?_⟩
  refine hC r_put (by simp [wR]) [.ref 0, .int x, .int y, .ref 15] [] (L9 i a b e d) _ c s _ rfl (by decide) (by show c + 1 ≤ _; omega) (by show s + 6 ≤ _; omega) (Nat.le_of_ble_eq_true rfl) (xwL_9 hw i (by simp only [List.length_cons]; omega)) trivial
    (w_put ⟨_, _, rfl⟩ (by simp only [List.length_cons]; omega) (ev_put 16 N V S C P sv tl has _ x y ok.1 hV hsv) (wV_Ro (u := .long u) (l := []) rfl (fun z => by rw [← hc9, z]; rfl)) (xo_IS (putE_c N x y) hc9)) ?_
  intro v h' hq
  show K 19 (L9 i a b e d) (xpush v []) h' (c + 1) (s + 6)
  rcases hq with ⟨hz, rfl, rfl⟩ | ⟨hz, rfl, rfl⟩
  · have hE := cdIS_0 (hc9.trans hz)
    have hR := put_ok ok hE
    refine hK 19 _ _ _ _ _ _ rfl rfl ?_
    dsimp only [k_law_19, L9, tl9, List.set_cons_succ, hN1, hB, hM1, hM, wpI, xop, xcall, xli, xlj, xlf, xld, xla, xlg, xst, xst2, xc1, pI, pJ, pF, pD, pR, pA, p1, p0, xpop, xpush, xsm, xhas, xif, xic, xsw, xai, xal, xhi, xhv, xrf, xret, xrtl, xrtf, xrtd, xrta, xrtv, xfit, xnew, cond_true, cond_false, f40, f41, f42, f43, List.length_cons, List.length_nil, Nat.reduceAdd, Nat.reduceSub, Nat.reduceMul, Nat.reduceBEq, List.map_cons, List.map_nil, List.headD_cons, List.getElem?_cons_zero, List.getElem?_cons_succ, List.set_cons_zero, List.set_cons_succ]
    rw [hx, hy]
    refine ⟨v1, v2, ?_⟩
    refine Ev_of (ev_M_put 14 x y (zB (N.set 0 (N.getD 0 0 ||| 1 <<< (rsN x.toNatClampNeg + y.toNatClampNeg))) (saveV N V sv) S C P (saveS sv) tl has) (mOf N) B K' C O shapesN D laid tl sv many at' thr has (_ :: g) (st_mOf ok.1) hB hsv) ?_
    intro v2 g2 h2
    obtain ⟨rfl, rfl⟩ := Mr_0 hz h2
    dsimp only [hN1, hB, hM1, hM, wpI, xop, xcall, xli, xlj, xlf, xld, xla, xlg, xst, xst2, xc1, pI, pJ, pF, pD, pR, pA, p1, p0, xpop, xpush, xsm, xhas, xif, xic, xsw, xai, xal, xhi, xhv, xrf, xret, xrtl, xrtf, xrtd, xrta, xrtv, xfit, xnew, cond_true, cond_false, f40, f41, f42, f43, List.length_cons, List.length_nil, Nat.reduceAdd, Nat.reduceSub, Nat.reduceMul, Nat.reduceBEq, List.map_cons, List.map_nil, List.headD_cons, List.getElem?_cons_zero, List.getElem?_cons_succ, List.set_cons_zero, List.set_cons_succ]
    refine Ev_use (ev_M_thrown 19 (zB (N.set 0 (N.getD 0 0 ||| 1 <<< (rsN x.toNatClampNeg + y.toNatClampNeg))) (saveV N V sv) S C P (saveS sv) tl has) _ _ _ _ _ _ _ _ _ _ _ _ _ _ _) ?_
    dsimp only [hN1, hB, hM1, hM, wpI, xop, xcall, xli, xlj, xlf, xld, xla, xlg, xst, xst2, xc1, pI, pJ, pF, pD, pR, pA, p1, p0, xpop, xpush, xsm, xhas, xif, xic, xsw, xai, xal, xhi, xhv, xrf, xret, xrtl, xrtf, xrtd, xrta, xrtv, xfit, xnew, cond_true, cond_false, f40, f41, f42, f43, List.length_cons, List.length_nil, Nat.reduceAdd, Nat.reduceSub, Nat.reduceMul, Nat.reduceBEq, List.map_cons, List.map_nil, List.headD_cons, List.getElem?_cons_zero, List.getElem?_cons_succ, List.set_cons_zero, List.set_cons_succ]
    refine ⟨fun _ => ?_, fun z => absurd rfl z⟩
    refine hK 20 _ _ _ _ _ _ rfl rfl ?_
    dsimp only [k_law_20, hN1, hB, hM1, hM, wpI, xop, xcall, xli, xlj, xlf, xld, xla, xlg, xst, xst2, xc1, pI, pJ, pF, pD, pR, pA, p1, p0, xpop, xpush, xsm, xhas, xif, xic, xsw, xai, xal, xhi, xhv, xrf, xret, xrtl, xrtf, xrtd, xrta, xrtv, xfit, xnew, cond_true, cond_false, f40, f41, f42, f43, List.length_cons, List.length_nil, Nat.reduceAdd, Nat.reduceSub, Nat.reduceMul, Nat.reduceBEq, List.map_cons, List.map_nil, List.headD_cons, List.getElem?_cons_zero, List.getElem?_cons_succ, List.set_cons_zero, List.set_cons_succ]
    refine ⟨fun z => absurd rfl z, fun _ => ⟨vp_in1, fun _ => ?_, fun z => absurd (lcmp_z hR.1) z⟩⟩
    refine hK 21 _ _ _ _ _ _ rfl rfl ?_
    dsimp only [k_law_21, hN1, hB, hM1, hM, wpI, xop, xcall, xli, xlj, xlf, xld, xla, xlg, xst, xst2, xc1, pI, pJ, pF, pD, pR, pA, p1, p0, xpop, xpush, xsm, xhas, xif, xic, xsw, xai, xal, xhi, xhv, xrf, xret, xrtl, xrtf, xrtd, xrta, xrtv, xfit, xnew, cond_true, cond_false, f40, f41, f42, f43, List.length_cons, List.length_nil, Nat.reduceAdd, Nat.reduceSub, Nat.reduceMul, Nat.reduceBEq, List.map_cons, List.map_nil, List.headD_cons, List.getElem?_cons_zero, List.getElem?_cons_succ, List.set_cons_zero, List.set_cons_succ]
    exact hn _ _ _ _ _ _ _ (xwL_2 hw _ _) (by omega) (by omega) (LI_mk hR.2.1 (LJ_new lj (by omega) hR.2.2))
  · refine hK 19 _ _ _ _ _ _ rfl rfl ?_
    dsimp only [k_law_19, L9, tl9, List.set_cons_succ, hN1, hB, hM1, hM, wpI, xop, xcall, xli, xlj, xlf, xld, xla, xlg, xst, xst2, xc1, pI, pJ, pF, pD, pR, pA, p1, p0, xpop, xpush, xsm, xhas, xif, xic, xsw, xai, xal, xhi, xhv, xrf, xret, xrtl, xrtf, xrtd, xrta, xrtv, xfit, xnew, cond_true, cond_false, f40, f41, f42, f43, List.length_cons, List.length_nil, Nat.reduceAdd, Nat.reduceSub, Nat.reduceMul, Nat.reduceBEq, List.map_cons, List.map_nil, List.headD_cons, List.getElem?_cons_zero, List.getElem?_cons_succ, List.set_cons_zero, List.set_cons_succ]
    rw [hx, hy]
    refine ⟨v1, v2, ?_⟩
    refine Ev_of (ev_M_put 14 x y (zB N V S C P sv tl has) (mOf N) B K' C O shapesN D laid tl sv many at' thr has (_ :: g) (st_mOf ok.1) hB hsv) ?_
    intro v2 g2 h2
    obtain ⟨rfl, rfl⟩ := Mr_1 hz h2
    dsimp only [hN1, hB, hM1, hM, wpI, xop, xcall, xli, xlj, xlf, xld, xla, xlg, xst, xst2, xc1, pI, pJ, pF, pD, pR, pA, p1, p0, xpop, xpush, xsm, xhas, xif, xic, xsw, xai, xal, xhi, xhv, xrf, xret, xrtl, xrtf, xrtd, xrta, xrtv, xfit, xnew, cond_true, cond_false, f40, f41, f42, f43, List.length_cons, List.length_nil, Nat.reduceAdd, Nat.reduceSub, Nat.reduceMul, Nat.reduceBEq, List.map_cons, List.map_nil, List.headD_cons, List.getElem?_cons_zero, List.getElem?_cons_succ, List.set_cons_zero, List.set_cons_succ]
    refine Ev_use (ev_M_thrown 19 (zB N V S C P sv tl has) _ _ _ _ _ _ _ _ _ _ _ _ _ _ _) ?_
    dsimp only [hN1, hB, hM1, hM, wpI, xop, xcall, xli, xlj, xlf, xld, xla, xlg, xst, xst2, xc1, pI, pJ, pF, pD, pR, pA, p1, p0, xpop, xpush, xsm, xhas, xif, xic, xsw, xai, xal, xhi, xhv, xrf, xret, xrtl, xrtf, xrtd, xrta, xrtv, xfit, xnew, cond_true, cond_false, f40, f41, f42, f43, List.length_cons, List.length_nil, Nat.reduceAdd, Nat.reduceSub, Nat.reduceMul, Nat.reduceBEq, List.map_cons, List.map_nil, List.headD_cons, List.getElem?_cons_zero, List.getElem?_cons_succ, List.set_cons_zero, List.set_cons_succ]
    refine ⟨fun _ => ?_, fun z => absurd rfl z⟩
    refine hK 20 _ _ _ _ _ _ rfl rfl ?_
    dsimp only [k_law_20, hN1, hB, hM1, hM, wpI, xop, xcall, xli, xlj, xlf, xld, xla, xlg, xst, xst2, xc1, pI, pJ, pF, pD, pR, pA, p1, p0, xpop, xpush, xsm, xhas, xif, xic, xsw, xai, xal, xhi, xhv, xrf, xret, xrtl, xrtf, xrtd, xrta, xrtv, xfit, xnew, cond_true, cond_false, f40, f41, f42, f43, List.length_cons, List.length_nil, Nat.reduceAdd, Nat.reduceSub, Nat.reduceMul, Nat.reduceBEq, List.map_cons, List.map_nil, List.headD_cons, List.getElem?_cons_zero, List.getElem?_cons_succ, List.set_cons_zero, List.set_cons_succ]
    refine ⟨fun _ => ?_, fun z => absurd z (nI_z hz (hc9 ▸ cdIS_lt _))⟩
    refine hK 21 _ _ _ _ _ _ rfl rfl ?_
    dsimp only [k_law_21, hN1, hB, hM1, hM, wpI, xop, xcall, xli, xlj, xlf, xld, xla, xlg, xst, xst2, xc1, pI, pJ, pF, pD, pR, pA, p1, p0, xpop, xpush, xsm, xhas, xif, xic, xsw, xai, xal, xhi, xhv, xrf, xret, xrtl, xrtf, xrtd, xrta, xrtv, xfit, xnew, cond_true, cond_false, f40, f41, f42, f43, List.length_cons, List.length_nil, Nat.reduceAdd, Nat.reduceSub, Nat.reduceMul, Nat.reduceBEq, List.map_cons, List.map_nil, List.headD_cons, List.getElem?_cons_zero, List.getElem?_cons_succ, List.set_cons_zero, List.set_cons_succ]
    exact hn _ _ _ _ _ _ _ (xwL_2 hw _ _) (by omega) (by omega) (LI_mk rfl (LJ_same lj (by omega)))

set_option maxRecDepth 100000 in
set_option maxHeartbeats 4000000 in
theorem c_set {K : xK} {lst : List Int32} (hK : HK lst K) (hC : HC K) {i x y : Int32} {a b e d : Option Value} {q c s : Nat} {h : xH} (v1 : vp_in (i + nI 1) lst.length) (v2 : vp_in (i + nI 2) lst.length) (hx : lst.getD (i + nI 1).toNatClampNeg 0 = x) (hy : lst.getD (i + nI 2).toNatClampNeg 0 = y)
    (hw : ∀ n, xwL n [a, b, e, d]) (hc : c + 200 ≤ 601024) (hs : s + 9000 ≤ 7293034) (li : LI q h) (hn : Nx K i q c s) : K 24 (L9 i a b e d) [] h c s := by
  obtain ⟨N, V, S, C, P, sv, tl, has, B, K', O, D, laid, many, at', thr, u, g, rfl, lj⟩ := li
  obtain ⟨ok, ⟨hV, hB, hsv, hrel⟩, ⟨hS, hK', hkeep⟩, ⟨hC6, hC7, htl⟩, hO, hD, hg⟩ := id lj
  have hc9 := set_code x y
  refine hK 24 _ _ _ _ _ _ rfl rfl ?_
  dsimp only [k_law_24, L9, tl9, hN1, hB, hM1, hM, wpI, xop, xcall, xli, xlj, xlf, xld, xla, xlg, xst, xst2, xc1, pI, pJ, pF, pD, pR, pA, p1, p0, xpop, xpush, xsm, xhas, xif, xic, xsw, xai, xal, xhi, xhv, xrf, xret, xrtl, xrtf, xrtd, xrta, xrtv, xfit, xnew, cond_true, cond_false, f40, f41, f42, f43, List.length_cons, List.length_nil, Nat.reduceAdd, Nat.reduceSub, Nat.reduceMul, Nat.reduceBEq, List.map_cons, List.map_nil, List.headD_cons, List.getElem?_cons_zero, List.getElem?_cons_succ, List.set_cons_zero, List.set_cons_succ]
  rw [hx, hy]
  refine ⟨v1, v2, ?_⟩
  refine hC r_set (by simp [wR]) [.ref 0, .int x, .int y, .ref 15] [] (L9 i a b e d) _ c s _ rfl (by decide) (by show c + 1 ≤ _; omega) (by show s + 6 ≤ _; omega) (Nat.le_of_ble_eq_true rfl) (xwL_9 hw i (by simp only [List.length_cons]; omega)) trivial
    (w_set ⟨_, _, rfl⟩ (by simp only [List.length_cons]; omega) (ev_set 18 N V S C P sv tl has _ x y ok.1.1 hV hsv) (wV_Ro (u := .long u) (l := []) rfl (fun z => by rw [← hc9, z]; rfl)) (xo_c2 (setE_c x y) hc9)) ?_
  intro v h' hq
  show K 26 (L9 i a b e d) (xpush v []) h' (c + 1) (s + 6)
  rcases hq with ⟨hz, rfl, rfl⟩ | ⟨hz, rfl, rfl⟩
  · have hE := cd3_0 (hc9.trans hz)
    have hR := set_ok ok hE
    refine hK 26 _ _ _ _ _ _ rfl rfl ?_
    dsimp only [k_law_26, L9, tl9, List.set_cons_succ, hN1, hB, hM1, hM, wpI, xop, xcall, xli, xlj, xlf, xld, xla, xlg, xst, xst2, xc1, pI, pJ, pF, pD, pR, pA, p1, p0, xpop, xpush, xsm, xhas, xif, xic, xsw, xai, xal, xhi, xhv, xrf, xret, xrtl, xrtf, xrtd, xrta, xrtv, xfit, xnew, cond_true, cond_false, f40, f41, f42, f43, List.length_cons, List.length_nil, Nat.reduceAdd, Nat.reduceSub, Nat.reduceMul, Nat.reduceBEq, List.map_cons, List.map_nil, List.headD_cons, List.getElem?_cons_zero, List.getElem?_cons_succ, List.set_cons_zero, List.set_cons_succ]
    rw [hx, hy]
    refine ⟨v1, v2, ?_⟩
    refine Ev_of (ev_M_set 18 x y (zB (N.set (3 + x.toNatClampNeg) y.toNatClampNeg) (saveV N V sv) S C P (saveS sv) tl has) (mOf N) B K' C O shapesN D laid tl sv many at' thr has (_ :: g) (st_mOf ok.1) hB hsv) ?_
    intro v2 g2 h2
    obtain ⟨rfl, rfl⟩ := Mr_0 hz h2
    dsimp only [hN1, hB, hM1, hM, wpI, xop, xcall, xli, xlj, xlf, xld, xla, xlg, xst, xst2, xc1, pI, pJ, pF, pD, pR, pA, p1, p0, xpop, xpush, xsm, xhas, xif, xic, xsw, xai, xal, xhi, xhv, xrf, xret, xrtl, xrtf, xrtd, xrta, xrtv, xfit, xnew, cond_true, cond_false, f40, f41, f42, f43, List.length_cons, List.length_nil, Nat.reduceAdd, Nat.reduceSub, Nat.reduceMul, Nat.reduceBEq, List.map_cons, List.map_nil, List.headD_cons, List.getElem?_cons_zero, List.getElem?_cons_succ, List.set_cons_zero, List.set_cons_succ]
    refine Ev_use (ev_M_thrown 19 (zB (N.set (3 + x.toNatClampNeg) y.toNatClampNeg) (saveV N V sv) S C P (saveS sv) tl has) _ _ _ _ _ _ _ _ _ _ _ _ _ _ _) ?_
    dsimp only [hN1, hB, hM1, hM, wpI, xop, xcall, xli, xlj, xlf, xld, xla, xlg, xst, xst2, xc1, pI, pJ, pF, pD, pR, pA, p1, p0, xpop, xpush, xsm, xhas, xif, xic, xsw, xai, xal, xhi, xhv, xrf, xret, xrtl, xrtf, xrtd, xrta, xrtv, xfit, xnew, cond_true, cond_false, f40, f41, f42, f43, List.length_cons, List.length_nil, Nat.reduceAdd, Nat.reduceSub, Nat.reduceMul, Nat.reduceBEq, List.map_cons, List.map_nil, List.headD_cons, List.getElem?_cons_zero, List.getElem?_cons_succ, List.set_cons_zero, List.set_cons_succ]
    refine ⟨fun _ => ?_, fun z => absurd rfl z⟩
    refine hK 27 _ _ _ _ _ _ rfl rfl ?_
    dsimp only [k_law_27, hN1, hB, hM1, hM, wpI, xop, xcall, xli, xlj, xlf, xld, xla, xlg, xst, xst2, xc1, pI, pJ, pF, pD, pR, pA, p1, p0, xpop, xpush, xsm, xhas, xif, xic, xsw, xai, xal, xhi, xhv, xrf, xret, xrtl, xrtf, xrtd, xrta, xrtv, xfit, xnew, cond_true, cond_false, f40, f41, f42, f43, List.length_cons, List.length_nil, Nat.reduceAdd, Nat.reduceSub, Nat.reduceMul, Nat.reduceBEq, List.map_cons, List.map_nil, List.headD_cons, List.getElem?_cons_zero, List.getElem?_cons_succ, List.set_cons_zero, List.set_cons_succ]
    refine ⟨fun z => absurd rfl z, fun _ => ⟨vp_in1, fun _ => ?_, fun z => absurd (lcmp_z hR.1) z⟩⟩
    refine hK 28 _ _ _ _ _ _ rfl rfl ?_
    dsimp only [k_law_28, hN1, hB, hM1, hM, wpI, xop, xcall, xli, xlj, xlf, xld, xla, xlg, xst, xst2, xc1, pI, pJ, pF, pD, pR, pA, p1, p0, xpop, xpush, xsm, xhas, xif, xic, xsw, xai, xal, xhi, xhv, xrf, xret, xrtl, xrtf, xrtd, xrta, xrtv, xfit, xnew, cond_true, cond_false, f40, f41, f42, f43, List.length_cons, List.length_nil, Nat.reduceAdd, Nat.reduceSub, Nat.reduceMul, Nat.reduceBEq, List.map_cons, List.map_nil, List.headD_cons, List.getElem?_cons_zero, List.getElem?_cons_succ, List.set_cons_zero, List.set_cons_succ]
    exact hn _ _ _ _ _ _ _ (xwL_2 hw _ _) (by omega) (by omega) (LI_mk hR.2.1 (LJ_new lj (by omega) hR.2.2))
  · refine hK 26 _ _ _ _ _ _ rfl rfl ?_
    dsimp only [k_law_26, L9, tl9, List.set_cons_succ, hN1, hB, hM1, hM, wpI, xop, xcall, xli, xlj, xlf, xld, xla, xlg, xst, xst2, xc1, pI, pJ, pF, pD, pR, pA, p1, p0, xpop, xpush, xsm, xhas, xif, xic, xsw, xai, xal, xhi, xhv, xrf, xret, xrtl, xrtf, xrtd, xrta, xrtv, xfit, xnew, cond_true, cond_false, f40, f41, f42, f43, List.length_cons, List.length_nil, Nat.reduceAdd, Nat.reduceSub, Nat.reduceMul, Nat.reduceBEq, List.map_cons, List.map_nil, List.headD_cons, List.getElem?_cons_zero, List.getElem?_cons_succ, List.set_cons_zero, List.set_cons_succ]
    rw [hx, hy]
    refine ⟨v1, v2, ?_⟩
    refine Ev_of (ev_M_set 18 x y (zB N V S C P sv tl has) (mOf N) B K' C O shapesN D laid tl sv many at' thr has (_ :: g) (st_mOf ok.1) hB hsv) ?_
    intro v2 g2 h2
    obtain ⟨rfl, rfl⟩ := Mr_1 hz h2
    dsimp only [hN1, hB, hM1, hM, wpI, xop, xcall, xli, xlj, xlf, xld, xla, xlg, xst, xst2, xc1, pI, pJ, pF, pD, pR, pA, p1, p0, xpop, xpush, xsm, xhas, xif, xic, xsw, xai, xal, xhi, xhv, xrf, xret, xrtl, xrtf, xrtd, xrta, xrtv, xfit, xnew, cond_true, cond_false, f40, f41, f42, f43, List.length_cons, List.length_nil, Nat.reduceAdd, Nat.reduceSub, Nat.reduceMul, Nat.reduceBEq, List.map_cons, List.map_nil, List.headD_cons, List.getElem?_cons_zero, List.getElem?_cons_succ, List.set_cons_zero, List.set_cons_succ]
    refine Ev_use (ev_M_thrown 19 (zB N V S C P sv tl has) _ _ _ _ _ _ _ _ _ _ _ _ _ _ _) ?_
    dsimp only [hN1, hB, hM1, hM, wpI, xop, xcall, xli, xlj, xlf, xld, xla, xlg, xst, xst2, xc1, pI, pJ, pF, pD, pR, pA, p1, p0, xpop, xpush, xsm, xhas, xif, xic, xsw, xai, xal, xhi, xhv, xrf, xret, xrtl, xrtf, xrtd, xrta, xrtv, xfit, xnew, cond_true, cond_false, f40, f41, f42, f43, List.length_cons, List.length_nil, Nat.reduceAdd, Nat.reduceSub, Nat.reduceMul, Nat.reduceBEq, List.map_cons, List.map_nil, List.headD_cons, List.getElem?_cons_zero, List.getElem?_cons_succ, List.set_cons_zero, List.set_cons_succ]
    refine ⟨fun _ => ?_, fun z => absurd rfl z⟩
    refine hK 27 _ _ _ _ _ _ rfl rfl ?_
    dsimp only [k_law_27, hN1, hB, hM1, hM, wpI, xop, xcall, xli, xlj, xlf, xld, xla, xlg, xst, xst2, xc1, pI, pJ, pF, pD, pR, pA, p1, p0, xpop, xpush, xsm, xhas, xif, xic, xsw, xai, xal, xhi, xhv, xrf, xret, xrtl, xrtf, xrtd, xrta, xrtv, xfit, xnew, cond_true, cond_false, f40, f41, f42, f43, List.length_cons, List.length_nil, Nat.reduceAdd, Nat.reduceSub, Nat.reduceMul, Nat.reduceBEq, List.map_cons, List.map_nil, List.headD_cons, List.getElem?_cons_zero, List.getElem?_cons_succ, List.set_cons_zero, List.set_cons_succ]
    refine ⟨fun _ => ?_, fun z => absurd z (nI_z hz (hc9 ▸ cd3_lt _))⟩
    refine hK 28 _ _ _ _ _ _ rfl rfl ?_
    dsimp only [k_law_28, hN1, hB, hM1, hM, wpI, xop, xcall, xli, xlj, xlf, xld, xla, xlg, xst, xst2, xc1, pI, pJ, pF, pD, pR, pA, p1, p0, xpop, xpush, xsm, xhas, xif, xic, xsw, xai, xal, xhi, xhv, xrf, xret, xrtl, xrtf, xrtd, xrta, xrtv, xfit, xnew, cond_true, cond_false, f40, f41, f42, f43, List.length_cons, List.length_nil, Nat.reduceAdd, Nat.reduceSub, Nat.reduceMul, Nat.reduceBEq, List.map_cons, List.map_nil, List.headD_cons, List.getElem?_cons_zero, List.getElem?_cons_succ, List.set_cons_zero, List.set_cons_succ]
    exact hn _ _ _ _ _ _ _ (xwL_2 hw _ _) (by omega) (by omega) (LI_mk rfl (LJ_same lj (by omega)))
