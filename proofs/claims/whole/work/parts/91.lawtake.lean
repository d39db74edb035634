set_option maxRecDepth 100000 in
set_option maxHeartbeats 4000000 in
theorem c_take {K : xK} {lst : List Int32} (hK : HK lst K) (hC : HC K) {i x y : Int32} {a b e d : Option Value} {q c s : Nat} {h : xH} (v1 : vp_in (i + nI 1) lst.length) (v2 : vp_in (i + nI 2) lst.length) (hx : lst.getD (i + nI 1).toNatClampNeg 0 = x) (hy : lst.getD (i + nI 2).toNatClampNeg 0 = y)
    (hw : ∀ n, xwL n [a, b, e, d]) (hc : c + 200 ≤ 601024) (hs : s + 9000 ≤ 7293034) (li : LI q h) (hn : Nx K i q c s) : K 2 (L9 i a b e d) [] h c s := by
  obtain ⟨N, V, S, C, P, sv, tl, has, B, K', O, D, laid, many, at', thr, u, g, rfl, lj⟩ := li
  obtain ⟨ok, ⟨hV, hB, hsv, hrel⟩, ⟨hS, hK', hkeep⟩, ⟨hC6, hC7, htl⟩, hO, hD, hg⟩ := id lj
  have hc9 := take_code ok.1 ok.2.1 x y
  refine hK 2 _ _ _ _ _ _ rfl rfl ?_
  dsimp only [k_law_2, L9, tl9, hN1, hB, hM1, hM, wpI, xop, xcall, xli, xlj, xlf, xld, xla, xlg, xst, xst2, xc1, pI, pJ, pF, pD, pR, pA, p1, p0, xpop, xpush, xsm, xhas, xif, xic, xsw, xai, xal, xhi, xhv, xrf, xret, xrtl, xrtf, xrtd, xrta, xrtv, xfit, xnew, cond_true, cond_false, f40, f41, f42, f43, List.length_cons, List.length_nil, Nat.reduceAdd, Nat.reduceSub, Nat.reduceMul, Nat.reduceBEq, List.map_cons, List.map_nil, List.headD_cons, List.getElem?_cons_zero, List.getElem?_cons_succ, List.set_cons_zero, List.set_cons_succ]
  rw [hx, hy]
  refine ⟨v1, v2, ?_⟩
  refine hC r_take (by simp [wR]) [.ref 0, .int x, .int y, .ref 15] [] (L9 i a b e d) _ c s _ rfl (by decide) (by show c + 1 ≤ _; omega) (by show s + 6 ≤ _; omega) (Nat.le_of_ble_eq_true rfl) (xwL_9 hw i (by simp only [List.length_cons]; omega)) trivial
    (w_take ⟨_, _, rfl⟩ (by simp only [List.length_cons]; omega) (ev_take 16 N V S C P sv tl has _ x y ok.1 hV hsv) (wV_Ro (u := .long u) (l := []) rfl (fun z => by rw [← hc9, z]; rfl)) (xo_c3 (takeE_c N x y) hc9)) ?_
  intro v h' hq
  show K 4 (L9 i a b e d) (xpush v []) h' (c + 1) (s + 6)
  rcases hq with ⟨hz, rfl, rfl⟩ | ⟨hz, rfl, rfl⟩
  · have hE := cd3_0 (hc9.trans hz)
    have hR := take_ok ok hE
    refine hK 4 _ _ _ _ _ _ rfl rfl ?_
    dsimp only [k_law_4, L9, tl9, List.set_cons_succ, hN1, hB, hM1, hM, wpI, xop, xcall, xli, xlj, xlf, xld, xla, xlg, xst, xst2, xc1, pI, pJ, pF, pD, pR, pA, p1, p0, xpop, xpush, xsm, xhas, xif, xic, xsw, xai, xal, xhi, xhv, xrf, xret, xrtl, xrtf, xrtd, xrta, xrtv, xfit, xnew, cond_true, cond_false, f40, f41, f42, f43, List.length_cons, List.length_nil, Nat.reduceAdd, Nat.reduceSub, Nat.reduceMul, Nat.reduceBEq, List.map_cons, List.map_nil, List.headD_cons, List.getElem?_cons_zero, List.getElem?_cons_succ, List.set_cons_zero, List.set_cons_succ]
    rw [hx, hy]
    refine ⟨v1, v2, ?_⟩
    refine Ev_of (ev_M_take 14 x y (zB (stealN N x.toNatClampNeg y.toNatClampNeg) (saveV N V sv) S C P (saveS sv) tl has) (mOf N) B K' C O shapesN D laid tl sv many at' thr has (_ :: g) (st_mOf ok.1) hB hsv) ?_
    intro v2 g2 h2
    obtain ⟨rfl, rfl⟩ := Mr_0 hz h2
    dsimp only [hN1, hB, hM1, hM, wpI, xop, xcall, xli, xlj, xlf, xld, xla, xlg, xst, xst2, xc1, pI, pJ, pF, pD, pR, pA, p1, p0, xpop, xpush, xsm, xhas, xif, xic, xsw, xai, xal, xhi, xhv, xrf, xret, xrtl, xrtf, xrtd, xrta, xrtv, xfit, xnew, cond_true, cond_false, f40, f41, f42, f43, List.length_cons, List.length_nil, Nat.reduceAdd, Nat.reduceSub, Nat.reduceMul, Nat.reduceBEq, List.map_cons, List.map_nil, List.headD_cons, List.getElem?_cons_zero, List.getElem?_cons_succ, List.set_cons_zero, List.set_cons_succ]
    refine Ev_use (ev_M_thrown 19 (zB (stealN N x.toNatClampNeg y.toNatClampNeg) (saveV N V sv) S C P (saveS sv) tl has) _ _ _ _ _ _ _ _ _ _ _ _ _ _ _) ?_
    dsimp only [hN1, hB, hM1, hM, wpI, xop, xcall, xli, xlj, xlf, xld, xla, xlg, xst, xst2, xc1, pI, pJ, pF, pD, pR, pA, p1, p0, xpop, xpush, xsm, xhas, xif, xic, xsw, xai, xal, xhi, xhv, xrf, xret, xrtl, xrtf, xrtd, xrta, xrtv, xfit, xnew, cond_true, cond_false, f40, f41, f42, f43, List.length_cons, List.length_nil, Nat.reduceAdd, Nat.reduceSub, Nat.reduceMul, Nat.reduceBEq, List.map_cons, List.map_nil, List.headD_cons, List.getElem?_cons_zero, List.getElem?_cons_succ, List.set_cons_zero, List.set_cons_succ]
    refine ⟨fun _ => ?_, fun z => absurd rfl z⟩
    refine hK 5 _ _ _ _ _ _ rfl rfl ?_
    dsimp only [k_law_5, hN1, hB, hM1, hM, wpI, xop, xcall, xli, xlj, xlf, xld, xla, xlg, xst, xst2, xc1, pI, pJ, pF, pD, pR, pA, p1, p0, xpop, xpush, xsm, xhas, xif, xic, xsw, xai, xal, xhi, xhv, xrf, xret, xrtl, xrtf, xrtd, xrta, xrtv, xfit, xnew, cond_true, cond_false, f40, f41, f42, f43, List.length_cons, List.length_nil, Nat.reduceAdd, Nat.reduceSub, Nat.reduceMul, Nat.reduceBEq, List.map_cons, List.map_nil, List.headD_cons, List.getElem?_cons_zero, List.getElem?_cons_succ, List.set_cons_zero, List.set_cons_succ]
    refine ⟨fun z => absurd rfl z, fun _ => ⟨vp_in1, fun _ => ?_, fun z => absurd (lcmp_z hR.1) z⟩⟩
    refine hK 6 _ _ _ _ _ _ rfl rfl ?_
    dsimp only [k_law_6, hN1, hB, hM1, hM, wpI, xop, xcall, xli, xlj, xlf, xld, xla, xlg, xst, xst2, xc1, pI, pJ, pF, pD, pR, pA, p1, p0, xpop, xpush, xsm, xhas, xif, xic, xsw, xai, xal, xhi, xhv, xrf, xret, xrtl, xrtf, xrtd, xrta, xrtv, xfit, xnew, cond_true, cond_false, f40, f41, f42, f43, List.length_cons, List.length_nil, Nat.reduceAdd, Nat.reduceSub, Nat.reduceMul, Nat.reduceBEq, List.map_cons, List.map_nil, List.headD_cons, List.getElem?_cons_zero, List.getElem?_cons_succ, List.set_cons_zero, List.set_cons_succ]
    exact hn _ _ _ _ _ _ _ (xwL_2 hw _ _) (by omega) (by omega) (LI_mk hR.2.1 (LJ_new lj (by omega) hR.2.2))
  · refine hK 4 _ _ _ _ _ _ rfl rfl ?_
    dsimp only [k_law_4, L9, tl9, List.set_cons_succ, hN1, hB, hM1, hM, wpI, xop, xcall, xli, xlj, xlf, xld, xla, xlg, xst, xst2, xc1, pI, pJ, pF, pD, pR, pA, p1, p0, xpop, xpush, xsm, xhas, xif, xic, xsw, xai, xal, xhi, xhv, xrf, xret, xrtl, xrtf, xrtd, xrta, xrtv, xfit, xnew, cond_true, cond_false, f40, f41, f42, f43, List.length_cons, List.length_nil, Nat.reduceAdd, Nat.reduceSub, Nat.reduceMul, Nat.reduceBEq, List.map_cons, List.map_nil, List.headD_cons, List.getElem?_cons_zero, List.getElem?_cons_succ, List.set_cons_zero, List.set_cons_succ]
    rw [hx, hy]
    refine ⟨v1, v2, ?_⟩
    refine Ev_of (ev_M_take 14 x y (zB N V S C P sv tl has) (mOf N) B K' C O shapesN D laid tl sv many at' thr has (_ :: g) (st_mOf ok.1) hB hsv) ?_
    intro v2 g2 h2
    obtain ⟨rfl, rfl⟩ := Mr_1 hz h2
    dsimp only [hN1, hB, hM1, hM, wpI, xop, xcall, xli, xlj, xlf, xld, xla, xlg, xst, xst2, xc1, pI, pJ, pF, pD, pR, pA, p1, p0, xpop, xpush, xsm, xhas, xif, xic, xsw, xai, xal, xhi, xhv, xrf, xret, xrtl, xrtf, xrtd, xrta, xrtv, xfit, xnew, cond_true, cond_false, f40, f41, f42, f43, List.length_cons, List.length_nil, Nat.reduceAdd, Nat.reduceSub, Nat.reduceMul, Nat.reduceBEq, List.map_cons, List.map_nil, List.headD_cons, List.getElem?_cons_zero, List.getElem?_cons_succ, List.set_cons_zero, List.set_cons_succ]
    refine Ev_use (ev_M_thrown 19 (zB N V S C P sv tl has) _ _ _ _ _ _ _ _ _ _ _ _ _ _ _) ?_
    dsimp only [hN1, hB, hM1, hM, wpI, xop, xcall, xli, xlj, xlf, xld, xla, xlg, xst, xst2, xc1, pI, pJ, pF, pD, pR, pA, p1, p0, xpop, xpush, xsm, xhas, xif, xic, xsw, xai, xal, xhi, xhv, xrf, xret, xrtl, xrtf, xrtd, xrta, xrtv, xfit, xnew, cond_true, cond_false, f40, f41, f42, f43, List.length_cons, List.length_nil, Nat.reduceAdd, Nat.reduceSub, Nat.reduceMul, Nat.reduceBEq, List.map_cons, List.map_nil, List.headD_cons, List.getElem?_cons_zero, List.getElem?_cons_succ, List.set_cons_zero, List.set_cons_succ]
    refine ⟨fun _ => ?_, fun z => absurd rfl z⟩
    refine hK 5 _ _ _ _ _ _ rfl rfl ?_
    dsimp only [k_law_5, hN1, hB, hM1, hM, wpI, xop, xcall, xli, xlj, xlf, xld, xla, xlg, xst, xst2, xc1, pI, pJ, pF, pD, pR, pA, p1, p0, xpop, xpush, xsm, xhas, xif, xic, xsw, xai, xal, xhi, xhv, xrf, xret, xrtl, xrtf, xrtd, xrta, xrtv, xfit, xnew, cond_true, cond_false, f40, f41, f42, f43, List.length_cons, List.length_nil, Nat.reduceAdd, Nat.reduceSub, Nat.reduceMul, Nat.reduceBEq, List.map_cons, List.map_nil, List.headD_cons, List.getElem?_cons_zero, List.getElem?_cons_succ, List.set_cons_zero, List.set_cons_succ]
    refine ⟨fun _ => ?_, fun z => absurd z (nI_z hz (hc9 ▸ cd3_lt _))⟩
    refine hK 6 _ _ _ _ _ _ rfl rfl ?_
    dsimp only [k_law_6, hN1, hB, hM1, hM, wpI, xop, xcall, xli, xlj, xlf, xld, xla, xlg, xst, xst2, xc1, pI, pJ, pF, pD, pR, pA, p1, p0, xpop, xpush, xsm, xhas, xif, xic, xsw, xai, xal, xhi, xhv, xrf, xret, xrtl, xrtf, xrtd, xrta, xrtv, xfit, xnew, cond_true, cond_false, f40, f41, f42, f43, List.length_cons, List.length_nil, Nat.reduceAdd, Nat.reduceSub, Nat.reduceMul, Nat.reduceBEq, List.map_cons, List.map_nil, List.headD_cons, List.getElem?_cons_zero, List.getElem?_cons_succ, List.set_cons_zero, List.set_cons_succ]
    exact hn _ _ _ _ _ _ _ (xwL_2 hw _ _) (by omega) (by omega) (LI_mk rfl (LJ_same lj (by omega)))
