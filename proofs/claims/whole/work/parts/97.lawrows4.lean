set_option maxRecDepth 100000 in
set_option maxHeartbeats 4000000 in
theorem c_count {K : xK} {lst : List Int32} (hK : HK lst K) (hC : HC K) {i x y : Int32} {a b e d : Option Value} {q c s : Nat} {h : xH} (v1 : vp_in (i + nI 1) lst.length) (v2 : vp_in (i + nI 2) lst.length) (hx : lst.getD (i + nI 1).toNatClampNeg 0 = x) (hy : lst.getD (i + nI 2).toNatClampNeg 0 = y)
    (hw : ∀ n, xwL n [a, b, e, d]) (hc : c + 200 ≤ 601024) (hs : s + 9000 ≤ 7293034) (li : LI q h) (hn : Nx K i q c s) : K 57 (L9 i a b e d) [] h c s := by
  obtain ⟨N, V, S, C, P, sv, tl, has, B, K', O, D, laid, many, at', thr, u, g, rfl, lj⟩ := li
  obtain ⟨ok, ⟨hV, hB, hsv, hrel⟩, ⟨hS, hK', hkeep⟩, ⟨hC6, hC7, htl⟩, hO, hD, hg⟩ := id lj
  have hc9 := cnt_code x
  obtain ⟨w, hw9, -, hm9⟩ := shp_of ok.2.1
  have ht9 := td_use (st_mOf ok.1) hD
  refine hK 57 _ _ _ _ _ _ rfl rfl ?_
  dsimp only [k_law_57, L9, tl9, hN1, hB, hM1, hM, wpI, xop, xcall, xli, xlj, xlf, xld, xla, xlg, xst, xst2, xc1, pI, pJ, pF, pD, pR, pA, p1, p0, xpop, xpush, xsm, xhas, xif, xic, xsw, xai, xal, xhi, xhv, xrf, xret, xrtl, xrtf, xrtd, xrta, xrtv, xfit, xnew, cond_true, cond_false, f40, f41, f42, f43, List.length_cons, List.length_nil, Nat.reduceAdd, Nat.reduceSub, Nat.reduceMul, Nat.reduceBEq, List.map_cons, List.map_nil, List.headD_cons, List.getElem?_cons_zero, List.getElem?_cons_succ, List.set_cons_zero, List.set_cons_succ]
  rw [hx]
  refine ⟨v1, ?_⟩
  refine hC r_count (by simp [wR]) [.ref 0, .int x, .ref 15] [] (L9 i a b e d) _ c s _ rfl (by decide) (by show c + 1 ≤ _; omega) (by show s + 6 ≤ _; omega) (Nat.le_of_ble_eq_true rfl) (xwL_9 hw i (by simp only [List.length_cons]; omega)) trivial
    (w_count ⟨_, _, rfl⟩ (by simp only [List.length_cons]; omega) (ev_count 14 N V S C P sv tl has _ x ok.1) (wV_Ro (u := .long u) (l := []) rfl (fun z => by rw [← hc9, z]; rfl)) (xo_1 (by decide) (cntE_c x) hc9)) ?_
  intro v h' hq
  show K 59 (L9 i a b e d) (xpush v []) h' (c + 1) (s + 6)
  rcases hq with ⟨hz, rfl, rfl⟩ | ⟨hz, rfl, rfl⟩
  · have hE := cd1_0 (hc9.trans hz)
    have hR := cnt_ok (sv := sv) ok hD hw9 hm9 hE
    refine hK 59 _ _ _ _ _ _ rfl rfl ?_
    dsimp only [k_law_59, L9, tl9, List.set_cons_succ, hN1, hB, hM1, hM, wpI, xop, xcall, xli, xlj, xlf, xld, xla, xlg, xst, xst2, xc1, pI, pJ, pF, pD, pR, pA, p1, p0, xpop, xpush, xsm, xhas, xif, xic, xsw, xai, xal, xhi, xhv, xrf, xret, xrtl, xrtf, xrtd, xrta, xrtv, xfit, xnew, cond_true, cond_false, f40, f41, f42, f43, List.length_cons, List.length_nil, Nat.reduceAdd, Nat.reduceSub, Nat.reduceMul, Nat.reduceBEq, List.map_cons, List.map_nil, List.headD_cons, List.getElem?_cons_zero, List.getElem?_cons_succ, List.set_cons_zero, List.set_cons_succ]
    rw [hx]
    refine ⟨v1, ?_⟩
    refine Ev_of (ev_M_count 10 w x (zB N V S C P sv tl has) (mOf N) B K' C O D laid tl sv many at' thr has (_ :: g) (st_mOf ok.1) hD.1 hD.2.1 hw9 hm9) ?_
    intro v2 g2 h2
    obtain ⟨rfl, hg2⟩ := Mr_0 hz h2
    obtain ⟨D2, l2, hD2, rfl⟩ := cnt_heap (fun D' l' => hM (zB N V S C P sv tl has) (mOf N) B K' C O shapesN D' l' tl sv many at' 0 has ((3, [], [.long (cntR N sv x).toInt64]) :: g)) hD ht9.2.2 hg2
    dsimp only [hN1, hB, hM1, hM, wpI, xop, xcall, xli, xlj, xlf, xld, xla, xlg, xst, xst2, xc1, pI, pJ, pF, pD, pR, pA, p1, p0, xpop, xpush, xsm, xhas, xif, xic, xsw, xai, xal, xhi, xhv, xrf, xret, xrtl, xrtf, xrtd, xrta, xrtv, xfit, xnew, cond_true, cond_false, f40, f41, f42, f43, List.length_cons, List.length_nil, Nat.reduceAdd, Nat.reduceSub, Nat.reduceMul, Nat.reduceBEq, List.map_cons, List.map_nil, List.headD_cons, List.getElem?_cons_zero, List.getElem?_cons_succ, List.set_cons_zero, List.set_cons_succ]
    refine Ev_use (ev_M_thrown 19 (zB N V S C P sv tl has) _ _ _ _ _ _ _ _ _ _ _ _ _ _ _) ?_
    dsimp only [hN1, hB, hM1, hM, wpI, xop, xcall, xli, xlj, xlf, xld, xla, xlg, xst, xst2, xc1, pI, pJ, pF, pD, pR, pA, p1, p0, xpop, xpush, xsm, xhas, xif, xic, xsw, xai, xal, xhi, xhv, xrf, xret, xrtl, xrtf, xrtd, xrta, xrtv, xfit, xnew, cond_true, cond_false, f40, f41, f42, f43, List.length_cons, List.length_nil, Nat.reduceAdd, Nat.reduceSub, Nat.reduceMul, Nat.reduceBEq, List.map_cons, List.map_nil, List.headD_cons, List.getElem?_cons_zero, List.getElem?_cons_succ, List.set_cons_zero, List.set_cons_succ]
    refine ⟨fun _ => ?_, fun z => absurd rfl z⟩
    refine hK 60 _ _ _ _ _ _ rfl rfl ?_
    dsimp only [k_law_60, hN1, hB, hM1, hM, wpI, xop, xcall, xli, xlj, xlf, xld, xla, xlg, xst, xst2, xc1, pI, pJ, pF, pD, pR, pA, p1, p0, xpop, xpush, xsm, xhas, xif, xic, xsw, xai, xal, xhi, xhv, xrf, xret, xrtl, xrtf, xrtd, xrta, xrtv, xfit, xnew, cond_true, cond_false, f40, f41, f42, f43, List.length_cons, List.length_nil, Nat.reduceAdd, Nat.reduceSub, Nat.reduceMul, Nat.reduceBEq, List.map_cons, List.map_nil, List.headD_cons, List.getElem?_cons_zero, List.getElem?_cons_succ, List.set_cons_zero, List.set_cons_succ]
    refine ⟨fun z => absurd rfl z, fun _ => ⟨vp_in1, fun _ => ?_, fun z => absurd (lcmp_z hR.1) z⟩⟩
    refine hK 61 _ _ _ _ _ _ rfl rfl ?_
    dsimp only [k_law_61, hN1, hB, hM1, hM, wpI, xop, xcall, xli, xlj, xlf, xld, xla, xlg, xst, xst2, xc1, pI, pJ, pF, pD, pR, pA, p1, p0, xpop, xpush, xsm, xhas, xif, xic, xsw, xai, xal, xhi, xhv, xrf, xret, xrtl, xrtf, xrtd, xrta, xrtv, xfit, xnew, cond_true, cond_false, f40, f41, f42, f43, List.length_cons, List.length_nil, Nat.reduceAdd, Nat.reduceSub, Nat.reduceMul, Nat.reduceBEq, List.map_cons, List.map_nil, List.headD_cons, List.getElem?_cons_zero, List.getElem?_cons_succ, List.set_cons_zero, List.set_cons_succ]
    exact hn _ _ _ _ _ _ _ (xwL_2 hw _ _) (by omega) (by omega) (LI_mk rfl (LJ_td lj hD2))
  · refine hK 59 _ _ _ _ _ _ rfl rfl ?_
    dsimp only [k_law_59, L9, tl9, List.set_cons_succ, hN1, hB, hM1, hM, wpI, xop, xcall, xli, xlj, xlf, xld, xla, xlg, xst, xst2, xc1, pI, pJ, pF, pD, pR, pA, p1, p0, xpop, xpush, xsm, xhas, xif, xic, xsw, xai, xal, xhi, xhv, xrf, xret, xrtl, xrtf, xrtd, xrta, xrtv, xfit, xnew, cond_true, cond_false, f40, f41, f42, f43, List.length_cons, List.length_nil, Nat.reduceAdd, Nat.reduceSub, Nat.reduceMul, Nat.reduceBEq, List.map_cons, List.map_nil, List.headD_cons, List.getElem?_cons_zero, List.getElem?_cons_succ, List.set_cons_zero, List.set_cons_succ]
    rw [hx]
    refine ⟨v1, ?_⟩
    refine Ev_of (ev_M_count 10 w x (zB N V S C P sv tl has) (mOf N) B K' C O D laid tl sv many at' thr has (_ :: g) (st_mOf ok.1) hD.1 hD.2.1 hw9 hm9) ?_
    intro v2 g2 h2
    obtain ⟨rfl, rfl⟩ := Mr_1 hz h2
    dsimp only [hN1, hB, hM1, hM, wpI, xop, xcall, xli, xlj, xlf, xld, xla, xlg, xst, xst2, xc1, pI, pJ, pF, pD, pR, pA, p1, p0, xpop, xpush, xsm, xhas, xif, xic, xsw, xai, xal, xhi, xhv, xrf, xret, xrtl, xrtf, xrtd, xrta, xrtv, xfit, xnew, cond_true, cond_false, f40, f41, f42, f43, List.length_cons, List.length_nil, Nat.reduceAdd, Nat.reduceSub, Nat.reduceMul, Nat.reduceBEq, List.map_cons, List.map_nil, List.headD_cons, List.getElem?_cons_zero, List.getElem?_cons_succ, List.set_cons_zero, List.set_cons_succ]
    refine Ev_use (ev_M_thrown 19 (zB N V S C P sv tl has) _ _ _ _ _ _ _ _ _ _ _ _ _ _ _) ?_
    dsimp only [hN1, hB, hM1, hM, wpI, xop, xcall, xli, xlj, xlf, xld, xla, xlg, xst, xst2, xc1, pI, pJ, pF, pD, pR, pA, p1, p0, xpop, xpush, xsm, xhas, xif, xic, xsw, xai, xal, xhi, xhv, xrf, xret, xrtl, xrtf, xrtd, xrta, xrtv, xfit, xnew, cond_true, cond_false, f40, f41, f42, f43, List.length_cons, List.length_nil, Nat.reduceAdd, Nat.reduceSub, Nat.reduceMul, Nat.reduceBEq, List.map_cons, List.map_nil, List.headD_cons, List.getElem?_cons_zero, List.getElem?_cons_succ, List.set_cons_zero, List.set_cons_succ]
    refine ⟨fun _ => ?_, fun z => absurd rfl z⟩
    refine hK 60 _ _ _ _ _ _ rfl rfl ?_
    dsimp only [k_law_60, hN1, hB, hM1, hM, wpI, xop, xcall, xli, xlj, xlf, xld, xla, xlg, xst, xst2, xc1, pI, pJ, pF, pD, pR, pA, p1, p0, xpop, xpush, xsm, xhas, xif, xic, xsw, xai, xal, xhi, xhv, xrf, xret, xrtl, xrtf, xrtd, xrta, xrtv, xfit, xnew, cond_true, cond_false, f40, f41, f42, f43, List.length_cons, List.length_nil, Nat.reduceAdd, Nat.reduceSub, Nat.reduceMul, Nat.reduceBEq, List.map_cons, List.map_nil, List.headD_cons, List.getElem?_cons_zero, List.getElem?_cons_succ, List.set_cons_zero, List.set_cons_succ]
    refine ⟨fun _ => ?_, fun z => absurd z (nI_z hz (hc9 ▸ cd1_lt _))⟩
    refine hK 61 _ _ _ _ _ _ rfl rfl ?_
    dsimp only [k_law_61, hN1, hB, hM1, hM, wpI, xop, xcall, xli, xlj, xlf, xld, xla, xlg, xst, xst2, xc1, pI, pJ, pF, pD, pR, pA, p1, p0, xpop, xpush, xsm, xhas, xif, xic, xsw, xai, xal, xhi, xhv, xrf, xret, xrtl, xrtf, xrtd, xrta, xrtv, xfit, xnew, cond_true, cond_false, f40, f41, f42, f43, List.length_cons, List.length_nil, Nat.reduceAdd, Nat.reduceSub, Nat.reduceMul, Nat.reduceBEq, List.map_cons, List.map_nil, List.headD_cons, List.getElem?_cons_zero, List.getElem?_cons_succ, List.set_cons_zero, List.set_cons_succ]
    exact hn _ _ _ _ _ _ _ (xwL_2 hw _ _) (by omega) (by omega) (LI_mk rfl (LJ_same lj (by omega)))

set_option maxRecDepth 100000 in
set_option maxHeartbeats 4000000 in
theorem c_wins {K : xK} {lst : List Int32} (hK : HK lst K) (hC : HC K) {i x y : Int32} {a b e d : Option Value} {q c s : Nat} {h : xH} (v1 : vp_in (i + nI 1) lst.length) (v2 : vp_in (i + nI 2) lst.length) (hx : lst.getD (i + nI 1).toNatClampNeg 0 = x) (hy : lst.getD (i + nI 2).toNatClampNeg 0 = y)
    (hw : ∀ n, xwL n [a, b, e, d]) (hc : c + 200 ≤ 601024) (hs : s + 9000 ≤ 7293034) (li : LI q h) (hn : Nx K i q c s) : K 77 (L9 i a b e d) [] h c s := by
  obtain ⟨N, V, S, C, P, sv, tl, has, B, K', O, D, laid, many, at', thr, u, g, rfl, lj⟩ := li
  obtain ⟨ok, ⟨hV, hB, hsv, hrel⟩, ⟨hS, hK', hkeep⟩, ⟨hC6, hC7, htl⟩, hO, hD, hg⟩ := id lj
  have hc9 := turn_code x
  obtain ⟨w, hw9, -, hm9⟩ := shp_of ok.2.1
  have ht9 := td_use (st_mOf ok.1) hD
  refine hK 77 _ _ _ _ _ _ rfl rfl ?_
  dsimp only [k_law_77, L9, tl9, hN1, hB, hM1, hM, wpI, xop, xcall, xli, xlj, xlf, xld, xla, xlg, xst, xst2, xc1, pI, pJ, pF, pD, pR, pA, p1, p0, xpop, xpush, xsm, xhas, xif, xic, xsw, xai, xal, xhi, xhv, xrf, xret, xrtl, xrtf, xrtd, xrta, xrtv, xfit, xnew, cond_true, cond_false, f40, f41, f42, f43, List.length_cons, List.length_nil, Nat.reduceAdd, Nat.reduceSub, Nat.reduceMul, Nat.reduceBEq, List.map_cons, List.map_nil, List.headD_cons, List.getElem?_cons_zero, List.getElem?_cons_succ, List.set_cons_zero, List.set_cons_succ]
  rw [hx]
  refine ⟨v1, ?_⟩
  refine hC r_wins (by simp [wR]) [.ref 0, .int x, .ref 15] [] (L9 i a b e d) _ c s _ rfl (by decide) (by show c + 4 ≤ _; omega) (by show s + 799 ≤ _; omega) (Nat.le_of_ble_eq_true rfl) (xwL_9 hw i (by simp only [List.length_cons]; omega)) trivial
    (w_wins ⟨_, _, rfl⟩ (by simp only [List.length_cons]; omega) (ev_wins 14 N V S C P sv tl has _ x ok.1 hg) (wV_cl (u := .long u) (fun _ _ => rfl) (fun z => by rw [← hc9, z]; rfl)) (xo_1c (turnE_c x) hc9)) ?_
  intro v h' hq
  show K 79 (L9 i a b e d) (xpush v []) h' (c + 4) (s + 799)
  rcases hq with ⟨hz, rfl, P', k, rfl, gk⟩ | ⟨hz, rfl, rfl⟩
  · have hE := cd1_0 (hc9.trans hz)
    have hR := wins_ok ok hD hw9 hm9 hE
    refine hK 79 _ _ _ _ _ _ rfl rfl ?_
    dsimp only [k_law_79, L9, tl9, List.set_cons_succ, List.cons_append, hN1, hB, hM1, hM, wpI, xop, xcall, xli, xlj, xlf, xld, xla, xlg, xst, xst2, xc1, pI, pJ, pF, pD, pR, pA, p1, p0, xpop, xpush, xsm, xhas, xif, xic, xsw, xai, xal, xhi, xhv, xrf, xret, xrtl, xrtf, xrtd, xrta, xrtv, xfit, xnew, cond_true, cond_false, f40, f41, f42, f43, List.length_cons, List.length_nil, Nat.reduceAdd, Nat.reduceSub, Nat.reduceMul, Nat.reduceBEq, List.map_cons, List.map_nil, List.headD_cons, List.getElem?_cons_zero, List.getElem?_cons_succ, List.set_cons_zero, List.set_cons_succ]
    rw [hx]
    refine ⟨v1, ?_⟩
    refine Ev_of (ev_M_wins 11 w x (zB N V S C P' sv tl has) (mOf N) B K' C O D laid tl sv many at' thr has (_ :: (g ++ k)) (st_mOf ok.1) hD.1 hD.2.1 hw9 hm9) ?_
    intro v2 g2 h2
    obtain ⟨rfl, rfl⟩ := Mr_0 hz h2
    dsimp only [hN1, hB, hM1, hM, wpI, xop, xcall, xli, xlj, xlf, xld, xla, xlg, xst, xst2, xc1, pI, pJ, pF, pD, pR, pA, p1, p0, xpop, xpush, xsm, xhas, xif, xic, xsw, xai, xal, xhi, xhv, xrf, xret, xrtl, xrtf, xrtd, xrta, xrtv, xfit, xnew, cond_true, cond_false, f40, f41, f42, f43, List.length_cons, List.length_nil, Nat.reduceAdd, Nat.reduceSub, Nat.reduceMul, Nat.reduceBEq, List.map_cons, List.map_nil, List.headD_cons, List.getElem?_cons_zero, List.getElem?_cons_succ, List.set_cons_zero, List.set_cons_succ]
    refine Ev_use (ev_M_thrown 19 (zB N V S C P' sv tl has) _ _ _ _ _ _ _ _ _ _ _ _ _ _ _) ?_
    dsimp only [hN1, hB, hM1, hM, wpI, xop, xcall, xli, xlj, xlf, xld, xla, xlg, xst, xst2, xc1, pI, pJ, pF, pD, pR, pA, p1, p0, xpop, xpush, xsm, xhas, xif, xic, xsw, xai, xal, xhi, xhv, xrf, xret, xrtl, xrtf, xrtd, xrta, xrtv, xfit, xnew, cond_true, cond_false, f40, f41, f42, f43, List.length_cons, List.length_nil, Nat.reduceAdd, Nat.reduceSub, Nat.reduceMul, Nat.reduceBEq, List.map_cons, List.map_nil, List.headD_cons, List.getElem?_cons_zero, List.getElem?_cons_succ, List.set_cons_zero, List.set_cons_succ]
    refine ⟨fun _ => ?_, fun z => absurd rfl z⟩
    refine hK 80 _ _ _ _ _ _ rfl rfl ?_
    dsimp only [k_law_80, hN1, hB, hM1, hM, wpI, xop, xcall, xli, xlj, xlf, xld, xla, xlg, xst, xst2, xc1, pI, pJ, pF, pD, pR, pA, p1, p0, xpop, xpush, xsm, xhas, xif, xic, xsw, xai, xal, xhi, xhv, xrf, xret, xrtl, xrtf, xrtd, xrta, xrtv, xfit, xnew, cond_true, cond_false, f40, f41, f42, f43, List.length_cons, List.length_nil, Nat.reduceAdd, Nat.reduceSub, Nat.reduceMul, Nat.reduceBEq, List.map_cons, List.map_nil, List.headD_cons, List.getElem?_cons_zero, List.getElem?_cons_succ, List.set_cons_zero, List.set_cons_succ]
    refine ⟨fun z => absurd rfl z, fun _ => ⟨vp_in1, fun _ => ?_, fun z => absurd (lcmp_z hR.1) z⟩⟩
    refine hK 81 _ _ _ _ _ _ rfl rfl ?_
    dsimp only [k_law_81, hN1, hB, hM1, hM, wpI, xop, xcall, xli, xlj, xlf, xld, xla, xlg, xst, xst2, xc1, pI, pJ, pF, pD, pR, pA, p1, p0, xpop, xpush, xsm, xhas, xif, xic, xsw, xai, xal, xhi, xhv, xrf, xret, xrtl, xrtf, xrtd, xrta, xrtv, xfit, xnew, cond_true, cond_false, f40, f41, f42, f43, List.length_cons, List.length_nil, Nat.reduceAdd, Nat.reduceSub, Nat.reduceMul, Nat.reduceBEq, List.map_cons, List.map_nil, List.headD_cons, List.getElem?_cons_zero, List.getElem?_cons_succ, List.set_cons_zero, List.set_cons_succ]
    exact hn _ _ _ _ _ _ _ (xwL_2 hw _ _) (by omega) (by omega) (LI_mk rfl (LJ_pl lj gk ht9.2.2))
  · refine hK 79 _ _ _ _ _ _ rfl rfl ?_
    dsimp only [k_law_79, L9, tl9, List.set_cons_succ, List.cons_append, hN1, hB, hM1, hM, wpI, xop, xcall, xli, xlj, xlf, xld, xla, xlg, xst, xst2, xc1, pI, pJ, pF, pD, pR, pA, p1, p0, xpop, xpush, xsm, xhas, xif, xic, xsw, xai, xal, xhi, xhv, xrf, xret, xrtl, xrtf, xrtd, xrta, xrtv, xfit, xnew, cond_true, cond_false, f40, f41, f42, f43, List.length_cons, List.length_nil, Nat.reduceAdd, Nat.reduceSub, Nat.reduceMul, Nat.reduceBEq, List.map_cons, List.map_nil, List.headD_cons, List.getElem?_cons_zero, List.getElem?_cons_succ, List.set_cons_zero, List.set_cons_succ]
    rw [hx]
    refine ⟨v1, ?_⟩
    refine Ev_of (ev_M_wins 11 w x (zB N V S C P sv tl has) (mOf N) B K' C O D laid tl sv many at' thr has (_ :: g) (st_mOf ok.1) hD.1 hD.2.1 hw9 hm9) ?_
    intro v2 g2 h2
    obtain ⟨rfl, rfl⟩ := Mr_1 hz h2
    dsimp only [hN1, hB, hM1, hM, wpI, xop, xcall, xli, xlj, xlf, xld, xla, xlg, xst, xst2, xc1, pI, pJ, pF, pD, pR, pA, p1, p0, xpop, xpush, xsm, xhas, xif, xic, xsw, xai, xal, xhi, xhv, xrf, xret, xrtl, xrtf, xrtd, xrta, xrtv, xfit, xnew, cond_true, cond_false, f40, f41, f42, f43, List.length_cons, List.length_nil, Nat.reduceAdd, Nat.reduceSub, Nat.reduceMul, Nat.reduceBEq, List.map_cons, List.map_nil, List.headD_cons, List.getElem?_cons_zero, List.getElem?_cons_succ, List.set_cons_zero, List.set_cons_succ]
    refine Ev_use (ev_M_thrown 19 (zB N V S C P sv tl has) _ _ _ _ _ _ _ _ _ _ _ _ _ _ _) ?_
    dsimp only [hN1, hB, hM1, hM, wpI, xop, xcall, xli, xlj, xlf, xld, xla, xlg, xst, xst2, xc1, pI, pJ, pF, pD, pR, pA, p1, p0, xpop, xpush, xsm, xhas, xif, xic, xsw, xai, xal, xhi, xhv, xrf, xret, xrtl, xrtf, xrtd, xrta, xrtv, xfit, xnew, cond_true, cond_false, f40, f41, f42, f43, List.length_cons, List.length_nil, Nat.reduceAdd, Nat.reduceSub, Nat.reduceMul, Nat.reduceBEq, List.map_cons, List.map_nil, List.headD_cons, List.getElem?_cons_zero, List.getElem?_cons_succ, List.set_cons_zero, List.set_cons_succ]
    refine ⟨fun _ => ?_, fun z => absurd rfl z⟩
    refine hK 80 _ _ _ _ _ _ rfl rfl ?_
    dsimp only [k_law_80, hN1, hB, hM1, hM, wpI, xop, xcall, xli, xlj, xlf, xld, xla, xlg, xst, xst2, xc1, pI, pJ, pF, pD, pR, pA, p1, p0, xpop, xpush, xsm, xhas, xif, xic, xsw, xai, xal, xhi, xhv, xrf, xret, xrtl, xrtf, xrtd, xrta, xrtv, xfit, xnew, cond_true, cond_false, f40, f41, f42, f43, List.length_cons, List.length_nil, Nat.reduceAdd, Nat.reduceSub, Nat.reduceMul, Nat.reduceBEq, List.map_cons, List.map_nil, List.headD_cons, List.getElem?_cons_zero, List.getElem?_cons_succ, List.set_cons_zero, List.set_cons_succ]
    refine ⟨fun _ => ?_, fun z => absurd z (nI_z hz (hc9 ▸ cd1_lt _))⟩
    refine hK 81 _ _ _ _ _ _ rfl rfl ?_
    dsimp only [k_law_81, hN1, hB, hM1, hM, wpI, xop, xcall, xli, xlj, xlf, xld, xla, xlg, xst, xst2, xc1, pI, pJ, pF, pD, pR, pA, p1, p0, xpop, xpush, xsm, xhas, xif, xic, xsw, xai, xal, xhi, xhv, xrf, xret, xrtl, xrtf, xrtd, xrta, xrtv, xfit, xnew, cond_true, cond_false, f40, f41, f42, f43, List.length_cons, List.length_nil, Nat.reduceAdd, Nat.reduceSub, Nat.reduceMul, Nat.reduceBEq, List.map_cons, List.map_nil, List.headD_cons, List.getElem?_cons_zero, List.getElem?_cons_succ, List.set_cons_zero, List.set_cons_succ]
    exact hn _ _ _ _ _ _ _ (xwL_2 hw _ _) (by omega) (by omega) (LI_mk rfl (LJ_same lj (by omega)))

set_option maxRecDepth 100000 in
set_option maxHeartbeats 4000000 in
theorem c_length {K : xK} {lst : List Int32} (hK : HK lst K) (hC : HC K) {i x y : Int32} {a b e d : Option Value} {q c s : Nat} {h : xH} (v1 : vp_in (i + nI 1) lst.length) (v2 : vp_in (i + nI 2) lst.length) (hx : lst.getD (i + nI 1).toNatClampNeg 0 = x) (hy : lst.getD (i + nI 2).toNatClampNeg 0 = y)
    (hw : ∀ n, xwL n [a, b, e, d]) (hc : c + 200 ≤ 601024) (hs : s + 9000 ≤ 7293034) (li : LI q h) (hn : Nx K i q c s) : K 83 (L9 i a b e d) [] h c s := by
  obtain ⟨N, V, S, C, P, sv, tl, has, B, K', O, D, laid, many, at', thr, u, g, rfl, lj⟩ := li
  obtain ⟨ok, ⟨hV, hB, hsv, hrel⟩, ⟨hS, hK', hkeep⟩, ⟨hC6, hC7, htl⟩, hO, hD, hg⟩ := id lj
  have hc9 := turn_code x
  obtain ⟨w, hw9, -, hm9⟩ := shp_of ok.2.1
  have ht9 := td_use (st_mOf ok.1) hD
  refine hK 83 _ _ _ _ _ _ rfl rfl ?_
  dsimp only [k_law_83, L9, tl9, hN1, hB, hM1, hM, wpI, xop, xcall, xli, xlj, xlf, xld, xla, xlg, xst, xst2, xc1, pI, pJ, pF, pD, pR, pA, p1, p0, xpop, xpush, xsm, xhas, xif, xic, xsw, xai, xal, xhi, xhv, xrf, xret, xrtl, xrtf, xrtd, xrta, xrtv, xfit, xnew, cond_true, cond_false, f40, f41, f42, f43, List.length_cons, List.length_nil, Nat.reduceAdd, Nat.reduceSub, Nat.reduceMul, Nat.reduceBEq, List.map_cons, List.map_nil, List.headD_cons, List.getElem?_cons_zero, List.getElem?_cons_succ, List.set_cons_zero, List.set_cons_succ]
  rw [hx]
  refine ⟨v1, ?_⟩
  refine hC r_length (by simp [wR]) [.ref 0, .int x, .ref 15] [] (L9 i a b e d) _ c s _ rfl (by decide) (by show c + 4 ≤ _; omega) (by show s + 799 ≤ _; omega) (Nat.le_of_ble_eq_true rfl) (xwL_9 hw i (by simp only [List.length_cons]; omega)) trivial
    (w_length ⟨_, _, rfl⟩ (by simp only [List.length_cons]; omega) (ev_length 14 N V S C P sv tl has _ x ok.1 hg) (wV_cl (u := .long u) (fun _ _ => rfl) (fun z => by rw [← hc9, z]; rfl)) (xo_1c (turnE_c x) hc9)) ?_
  intro v h' hq
  show K 85 (L9 i a b e d) (xpush v []) h' (c + 4) (s + 799)
  rcases hq with ⟨hz, rfl, P', k, rfl, gk⟩ | ⟨hz, rfl, rfl⟩
  · have hE := cd1_0 (hc9.trans hz)
    have hR := length_ok ok hD hw9 hm9 hE
    refine hK 85 _ _ _ _ _ _ rfl rfl ?_
    dsimp only [k_law_85, L9, tl9, List.set_cons_succ, List.cons_append, hN1, hB, hM1, hM, wpI, xop, xcall, xli, xlj, xlf, xld, xla, xlg, xst, xst2, xc1, pI, pJ, pF, pD, pR, pA, p1, p0, xpop, xpush, xsm, xhas, xif, xic, xsw, xai, xal, xhi, xhv, xrf, xret, xrtl, xrtf, xrtd, xrta, xrtv, xfit, xnew, cond_true, cond_false, f40, f41, f42, f43, List.length_cons, List.length_nil, Nat.reduceAdd, Nat.reduceSub, Nat.reduceMul, Nat.reduceBEq, List.map_cons, List.map_nil, List.headD_cons, List.getElem?_cons_zero, List.getElem?_cons_succ, List.set_cons_zero, List.set_cons_succ]
    rw [hx]
    refine ⟨v1, ?_⟩
    refine Ev_of (ev_M_length 11 w x (zB N V S C P' sv tl has) (mOf N) B K' C O D laid tl sv many at' thr has (_ :: (g ++ k)) (st_mOf ok.1) hD.1 hD.2.1 hw9 hm9) ?_
    intro v2 g2 h2
    obtain ⟨rfl, rfl⟩ := Mr_0 hz h2
    dsimp only [hN1, hB, hM1, hM, wpI, xop, xcall, xli, xlj, xlf, xld, xla, xlg, xst, xst2, xc1, pI, pJ, pF, pD, pR, pA, p1, p0, xpop, xpush, xsm, xhas, xif, xic, xsw, xai, xal, xhi, xhv, xrf, xret, xrtl, xrtf, xrtd, xrta, xrtv, xfit, xnew, cond_true, cond_false, f40, f41, f42, f43, List.length_cons, List.length_nil, Nat.reduceAdd, Nat.reduceSub, Nat.reduceMul, Nat.reduceBEq, List.map_cons, List.map_nil, List.headD_cons, List.getElem?_cons_zero, List.getElem?_cons_succ, List.set_cons_zero, List.set_cons_succ]
    refine Ev_use (ev_M_thrown 19 (zB N V S C P' sv tl has) _ _ _ _ _ _ _ _ _ _ _ _ _ _ _) ?_
    dsimp only [hN1, hB, hM1, hM, wpI, xop, xcall, xli, xlj, xlf, xld, xla, xlg, xst, xst2, xc1, pI, pJ, pF, pD, pR, pA, p1, p0, xpop, xpush, xsm, xhas, xif, xic, xsw, xai, xal, xhi, xhv, xrf, xret, xrtl, xrtf, xrtd, xrta, xrtv, xfit, xnew, cond_true, cond_false, f40, f41, f42, f43, List.length_cons, List.length_nil, Nat.reduceAdd, Nat.reduceSub, Nat.reduceMul, Nat.reduceBEq, List.map_cons, List.map_nil, List.headD_cons, List.getElem?_cons_zero, List.getElem?_cons_succ, List.set_cons_zero, List.set_cons_succ]
    refine ⟨fun _ => ?_, fun z => absurd rfl z⟩
    refine hK 86 _ _ _ _ _ _ rfl rfl ?_
    dsimp only [k_law_86, hN1, hB, hM1, hM, wpI, xop, xcall, xli, xlj, xlf, xld, xla, xlg, xst, xst2, xc1, pI, pJ, pF, pD, pR, pA, p1, p0, xpop, xpush, xsm, xhas, xif, xic, xsw, xai, xal, xhi, xhv, xrf, xret, xrtl, xrtf, xrtd, xrta, xrtv, xfit, xnew, cond_true, cond_false, f40, f41, f42, f43, List.length_cons, List.length_nil, Nat.reduceAdd, Nat.reduceSub, Nat.reduceMul, Nat.reduceBEq, List.map_cons, List.map_nil, List.headD_cons, List.getElem?_cons_zero, List.getElem?_cons_succ, List.set_cons_zero, List.set_cons_succ]
    refine ⟨fun z => absurd rfl z, fun _ => ⟨vp_in1, fun _ => ?_, fun z => absurd (lcmp_z hR.1) z⟩⟩
    refine hK 87 _ _ _ _ _ _ rfl rfl ?_
    dsimp only [k_law_87, hN1, hB, hM1, hM, wpI, xop, xcall, xli, xlj, xlf, xld, xla, xlg, xst, xst2, xc1, pI, pJ, pF, pD, pR, pA, p1, p0, xpop, xpush, xsm, xhas, xif, xic, xsw, xai, xal, xhi, xhv, xrf, xret, xrtl, xrtf, xrtd, xrta, xrtv, xfit, xnew, cond_true, cond_false, f40, f41, f42, f43, List.length_cons, List.length_nil, Nat.reduceAdd, Nat.reduceSub, Nat.reduceMul, Nat.reduceBEq, List.map_cons, List.map_nil, List.headD_cons, List.getElem?_cons_zero, List.getElem?_cons_succ, List.set_cons_zero, List.set_cons_succ]
    exact hn _ _ _ _ _ _ _ (xwL_2 hw _ _) (by omega) (by omega) (LI_mk rfl (LJ_pl lj gk ht9.2.2))
  · refine hK 85 _ _ _ _ _ _ rfl rfl ?_
    dsimp only [k_law_85, L9, tl9, List.set_cons_succ, List.cons_append, hN1, hB, hM1, hM, wpI, xop, xcall, xli, xlj, xlf, xld, xla, xlg, xst, xst2, xc1, pI, pJ, pF, pD, pR, pA, p1, p0, xpop, xpush, xsm, xhas, xif, xic, xsw, xai, xal, xhi, xhv, xrf, xret, xrtl, xrtf, xrtd, xrta, xrtv, xfit, xnew, cond_true, cond_false, f40, f41, f42, f43, List.length_cons, List.length_nil, Nat.reduceAdd, Nat.reduceSub, Nat.reduceMul, Nat.reduceBEq, List.map_cons, List.map_nil, List.headD_cons, List.getElem?_cons_zero, List.getElem?_cons_succ, List.set_cons_zero, List.set_cons_succ]
    rw [hx]
    refine ⟨v1, ?_⟩
    refine Ev_of (ev_M_length 11 w x (zB N V S C P sv tl has) (mOf N) B K' C O D laid tl sv many at' thr has (_ :: g) (st_mOf ok.1) hD.1 hD.2.1 hw9 hm9) ?_
    intro v2 g2 h2
    obtain ⟨rfl, rfl⟩ := Mr_1 hz h2
    dsimp only [hN1, hB, hM1, hM, wpI, xop, xcall, xli, xlj, xlf, xld, xla, xlg, xst, xst2, xc1, pI, pJ, pF, pD, pR, pA, p1, p0, xpop, xpush, xsm, xhas, xif, xic, xsw, xai, xal, xhi, xhv, xrf, xret, xrtl, xrtf, xrtd, xrta, xrtv, xfit, xnew, cond_true, cond_false, f40, f41, f42, f43, List.length_cons, List.length_nil, Nat.reduceAdd, Nat.reduceSub, Nat.reduceMul, Nat.reduceBEq, List.map_cons, List.map_nil, List.headD_cons, List.getElem?_cons_zero, List.getElem?_cons_succ, List.set_cons_zero, List.set_cons_succ]
    refine Ev_use (ev_M_thrown 19 (zB N V S C P sv tl has) _ _ _ _ _ _ _ _ _ _ _ _ _ _ _) ?_
    dsimp only [hN1, hB, hM1, hM, wpI, xop, xcall, xli, xlj, xlf, xld, xla, xlg, xst, xst2, xc1, pI, pJ, pF, pD, pR, pA, p1, p0, xpop, xpush, xsm, xhas, xif, xic, xsw, xai, xal, xhi, xhv, xrf, xret, xrtl, xrtf, xrtd, xrta, xrtv, xfit, xnew, cond_true, cond_false, f40, f41, f42, f43, List.length_cons, List.length_nil, Nat.reduceAdd, Nat.reduceSub, Nat.reduceMul, Nat.reduceBEq, List.map_cons, List.map_nil, List.headD_cons, List.getElem?_cons_zero, List.getElem?_cons_succ, List.set_cons_zero, List.set_cons_succ]
    refine ⟨fun _ => ?_, fun z => absurd rfl z⟩
    refine hK 86 _ _ _ _ _ _ rfl rfl ?_
    dsimp only [k_law_86, hN1, hB, hM1, hM, wpI, xop, xcall, xli, xlj, xlf, xld, xla, xlg, xst, xst2, xc1, pI, pJ, pF, pD, pR, pA, p1, p0, xpop, xpush, xsm, xhas, xif, xic, xsw, xai, xal, xhi, xhv, xrf, xret, xrtl, xrtf, xrtd, xrta, xrtv, xfit, xnew, cond_true, cond_false, f40, f41, f42, f43, List.length_cons, List.length_nil, Nat.reduceAdd, Nat.reduceSub, Nat.reduceMul, Nat.reduceBEq, List.map_cons, List.map_nil, List.headD_cons, List.getElem?_cons_zero, List.getElem?_cons_succ, List.set_cons_zero, List.set_cons_succ]
    refine ⟨fun _ => ?_, fun z => absurd z (nI_z hz (hc9 ▸ cd1_lt _))⟩
    refine hK 87 _ _ _ _ _ _ rfl rfl ?_
    dsimp only [k_law_87, hN1, hB, hM1, hM, wpI, xop, xcall, xli, xlj, xlf, xld, xla, xlg, xst, xst2, xc1, pI, pJ, pF, pD, pR, pA, p1, p0, xpop, xpush, xsm, xhas, xif, xic, xsw, xai, xal, xhi, xhv, xrf, xret, xrtl, xrtf, xrtd, xrta, xrtv, xfit, xnew, cond_true, cond_false, f40, f41, f42, f43, List.length_cons, List.length_nil, Nat.reduceAdd, Nat.reduceSub, Nat.reduceMul, Nat.reduceBEq, List.map_cons, List.map_nil, List.headD_cons, List.getElem?_cons_zero, List.getElem?_cons_succ, List.set_cons_zero, List.set_cons_succ]
    exact hn _ _ _ _ _ _ _ (xwL_2 hw _ _) (by omega) (by omega) (LI_mk rfl (LJ_same lj (by omega)))

set_option maxRecDepth 100000 in
set_option maxHeartbeats 4000000 in
theorem c_pyramids {K : xK} {lst : List Int32} (hK : HK lst K) (hC : HC K) {i x y : Int32} {a b e d : Option Value} {q c s : Nat} {h : xH} (v1 : vp_in (i + nI 1) lst.length) (v2 : vp_in (i + nI 2) lst.length) (hx : lst.getD (i + nI 1).toNatClampNeg 0 = x) (hy : lst.getD (i + nI 2).toNatClampNeg 0 = y)
    (hw : ∀ n, xwL n [a, b, e, d]) (hc : c + 200 ≤ 601024) (hs : s + 9000 ≤ 7293034) (li : LI q h) (hn : Nx K i q c s) : K 88 (L9 i a b e d) [] h c s := by
  obtain ⟨N, V, S, C, P, sv, tl, has, B, K', O, D, laid, many, at', thr, u, g, rfl, lj⟩ := li
  obtain ⟨ok, ⟨hV, hB, hsv, hrel⟩, ⟨hS, hK', hkeep⟩, ⟨hC6, hC7, htl⟩, hO, hD, hg⟩ := id lj
  have hc9 := pyr_code x
  obtain ⟨w, hw9, -, hm9⟩ := shp_of ok.2.1
  have ht9 := td_use (st_mOf ok.1) hD
  refine hK 88 _ _ _ _ _ _ rfl rfl ?_
  dsimp only [k_law_88, L9, tl9, hN1, hB, hM1, hM, wpI, xop, xcall, xli, xlj, xlf, xld, xla, xlg, xst, xst2, xc1, pI, pJ, pF, pD, pR, pA, p1, p0, xpop, xpush, xsm, xhas, xif, xic, xsw, xai, xal, xhi, xhv, xrf, xret, xrtl, xrtf, xrtd, xrta, xrtv, xfit, xnew, cond_true, cond_false, f40, f41, f42, f43, List.length_cons, List.length_nil, Nat.reduceAdd, Nat.reduceSub, Nat.reduceMul, Nat.reduceBEq, List.map_cons, List.map_nil, List.headD_cons, List.getElem?_cons_zero, List.getElem?_cons_succ, List.set_cons_zero, List.set_cons_succ]
  rw [hx]
  refine ⟨v1, ?_⟩
  refine hC r_pyramids (by simp [wR]) [.ref 0, .int x, .ref 15] [] (L9 i a b e d) _ c s _ rfl (by decide) (by show c + 4 ≤ _; omega) (by show s + 799 ≤ _; omega) (Nat.le_of_ble_eq_true rfl) (xwL_9 hw i (by simp only [List.length_cons]; omega)) trivial
    (w_pyramids ⟨_, _, rfl⟩ (by simp only [List.length_cons]; omega) (ev_pyramids 14 N V S C P sv tl has _ x ok.1 hg) (wV_cl (u := .long u) (fun _ _ => rfl) (fun z => by rw [← hc9, z]; rfl)) (xo_1c (pyrE_c x) hc9)) ?_
  intro v h' hq
  show K 90 (L9 i a b e d) (xpush v []) h' (c + 4) (s + 799)
  rcases hq with ⟨hz, rfl, P', k, rfl, gk⟩ | ⟨hz, rfl, rfl⟩
  · have hE := cd1_0 (hc9.trans hz)
    have hR := pyr_ok ok hD hE
    refine hK 90 _ _ _ _ _ _ rfl rfl ?_
    dsimp only [k_law_90, L9, tl9, List.set_cons_succ, List.cons_append, hN1, hB, hM1, hM, wpI, xop, xcall, xli, xlj, xlf, xld, xla, xlg, xst, xst2, xc1, pI, pJ, pF, pD, pR, pA, p1, p0, xpop, xpush, xsm, xhas, xif, xic, xsw, xai, xal, xhi, xhv, xrf, xret, xrtl, xrtf, xrtd, xrta, xrtv, xfit, xnew, cond_true, cond_false, f40, f41, f42, f43, List.length_cons, List.length_nil, Nat.reduceAdd, Nat.reduceSub, Nat.reduceMul, Nat.reduceBEq, List.map_cons, List.map_nil, List.headD_cons, List.getElem?_cons_zero, List.getElem?_cons_succ, List.set_cons_zero, List.set_cons_succ]
    rw [hx]
    refine ⟨v1, ?_⟩
    refine Ev_of (ev_M_pyramids 12 x (zB N V S C P' sv tl has) (mOf N) B K' C O D laid tl sv many at' thr has (_ :: (g ++ k)) (st_mOf ok.1) hD.1 hD.2.1) ?_
    intro v2 g2 h2
    obtain ⟨rfl, rfl⟩ := Mr_0 hz h2
    dsimp only [hN1, hB, hM1, hM, wpI, xop, xcall, xli, xlj, xlf, xld, xla, xlg, xst, xst2, xc1, pI, pJ, pF, pD, pR, pA, p1, p0, xpop, xpush, xsm, xhas, xif, xic, xsw, xai, xal, xhi, xhv, xrf, xret, xrtl, xrtf, xrtd, xrta, xrtv, xfit, xnew, cond_true, cond_false, f40, f41, f42, f43, List.length_cons, List.length_nil, Nat.reduceAdd, Nat.reduceSub, Nat.reduceMul, Nat.reduceBEq, List.map_cons, List.map_nil, List.headD_cons, List.getElem?_cons_zero, List.getElem?_cons_succ, List.set_cons_zero, List.set_cons_succ]
    refine Ev_use (ev_M_thrown 19 (zB N V S C P' sv tl has) _ _ _ _ _ _ _ _ _ _ _ _ _ _ _) ?_
    dsimp only [hN1, hB, hM1, hM, wpI, xop, xcall, xli, xlj, xlf, xld, xla, xlg, xst, xst2, xc1, pI, pJ, pF, pD, pR, pA, p1, p0, xpop, xpush, xsm, xhas, xif, xic, xsw, xai, xal, xhi, xhv, xrf, xret, xrtl, xrtf, xrtd, xrta, xrtv, xfit, xnew, cond_true, cond_false, f40, f41, f42, f43, List.length_cons, List.length_nil, Nat.reduceAdd, Nat.reduceSub, Nat.reduceMul, Nat.reduceBEq, List.map_cons, List.map_nil, List.headD_cons, List.getElem?_cons_zero, List.getElem?_cons_succ, List.set_cons_zero, List.set_cons_succ]
    refine ⟨fun _ => ?_, fun z => absurd rfl z⟩
    refine hK 91 _ _ _ _ _ _ rfl rfl ?_
    dsimp only [k_law_91, hN1, hB, hM1, hM, wpI, xop, xcall, xli, xlj, xlf, xld, xla, xlg, xst, xst2, xc1, pI, pJ, pF, pD, pR, pA, p1, p0, xpop, xpush, xsm, xhas, xif, xic, xsw, xai, xal, xhi, xhv, xrf, xret, xrtl, xrtf, xrtd, xrta, xrtv, xfit, xnew, cond_true, cond_false, f40, f41, f42, f43, List.length_cons, List.length_nil, Nat.reduceAdd, Nat.reduceSub, Nat.reduceMul, Nat.reduceBEq, List.map_cons, List.map_nil, List.headD_cons, List.getElem?_cons_zero, List.getElem?_cons_succ, List.set_cons_zero, List.set_cons_succ]
    refine ⟨fun z => absurd rfl z, fun _ => ⟨vp_in1, fun _ => ?_, fun z => absurd (lcmp_z hR.1) z⟩⟩
    refine hK 92 _ _ _ _ _ _ rfl rfl ?_
    dsimp only [k_law_92, hN1, hB, hM1, hM, wpI, xop, xcall, xli, xlj, xlf, xld, xla, xlg, xst, xst2, xc1, pI, pJ, pF, pD, pR, pA, p1, p0, xpop, xpush, xsm, xhas, xif, xic, xsw, xai, xal, xhi, xhv, xrf, xret, xrtl, xrtf, xrtd, xrta, xrtv, xfit, xnew, cond_true, cond_false, f40, f41, f42, f43, List.length_cons, List.length_nil, Nat.reduceAdd, Nat.reduceSub, Nat.reduceMul, Nat.reduceBEq, List.map_cons, List.map_nil, List.headD_cons, List.getElem?_cons_zero, List.getElem?_cons_succ, List.set_cons_zero, List.set_cons_succ]
    exact hn _ _ _ _ _ _ _ (xwL_2 hw _ _) (by omega) (by omega) (LI_mk rfl (LJ_pl lj gk ht9.2.2))
  · refine hK 90 _ _ _ _ _ _ rfl rfl ?_
    dsimp only [k_law_90, L9, tl9, List.set_cons_succ, List.cons_append, hN1, hB, hM1, hM, wpI, xop, xcall, xli, xlj, xlf, xld, xla, xlg, xst, xst2, xc1, pI, pJ, pF, pD, pR, pA, p1, p0, xpop, xpush, xsm, xhas, xif, xic, xsw, xai, xal, xhi, xhv, xrf, xret, xrtl, xrtf, xrtd, xrta, xrtv, xfit, xnew, cond_true, cond_false, f40, f41, f42, f43, List.length_cons, List.length_nil, Nat.reduceAdd, Nat.reduceSub, Nat.reduceMul, Nat.reduceBEq, List.map_cons, List.map_nil, List.headD_cons, List.getElem?_cons_zero, List.getElem?_cons_succ, List.set_cons_zero, List.set_cons_succ]
    rw [hx]
    refine ⟨v1, ?_⟩
    refine Ev_of (ev_M_pyramids 12 x (zB N V S C P sv tl has) (mOf N) B K' C O D laid tl sv many at' thr has (_ :: g) (st_mOf ok.1) hD.1 hD.2.1) ?_
    intro v2 g2 h2
    obtain ⟨rfl, rfl⟩ := Mr_1 hz h2
    dsimp only [hN1, hB, hM1, hM, wpI, xop, xcall, xli, xlj, xlf, xld, xla, xlg, xst, xst2, xc1, pI, pJ, pF, pD, pR, pA, p1, p0, xpop, xpush, xsm, xhas, xif, xic, xsw, xai, xal, xhi, xhv, xrf, xret, xrtl, xrtf, xrtd, xrta, xrtv, xfit, xnew, cond_true, cond_false, f40, f41, f42, f43, List.length_cons, List.length_nil, Nat.reduceAdd, Nat.reduceSub, Nat.reduceMul, Nat.reduceBEq, List.map_cons, List.map_nil, List.headD_cons, List.getElem?_cons_zero, List.getElem?_cons_succ, List.set_cons_zero, List.set_cons_succ]
    refine Ev_use (ev_M_thrown 19 (zB N V S C P sv tl has) _ _ _ _ _ _ _ _ _ _ _ _ _ _ _) ?_
    dsimp only [hN1, hB, hM1, hM, wpI, xop, xcall, xli, xlj, xlf, xld, xla, xlg, xst, xst2, xc1, pI, pJ, pF, pD, pR, pA, p1, p0, xpop, xpush, xsm, xhas, xif, xic, xsw, xai, xal, xhi, xhv, xrf, xret, xrtl, xrtf, xrtd, xrta, xrtv, xfit, xnew, cond_true, cond_false, f40, f41, f42, f43, List.length_cons, List.length_nil, Nat.reduceAdd, Nat.reduceSub, Nat.reduceMul, Nat.reduceBEq, List.map_cons, List.map_nil, List.headD_cons, List.getElem?_cons_zero, List.getElem?_cons_succ, List.set_cons_zero, List.set_cons_succ]
    refine ⟨fun _ => ?_, fun z => absurd rfl z⟩
    refine hK 91 _ _ _ _ _ _ rfl rfl ?_
    dsimp only [k_law_91, hN1, hB, hM1, hM, wpI, xop, xcall, xli, xlj, xlf, xld, xla, xlg, xst, xst2, xc1, pI, pJ, pF, pD, pR, pA, p1, p0, xpop, xpush, xsm, xhas, xif, xic, xsw, xai, xal, xhi, xhv, xrf, xret, xrtl, xrtf, xrtd, xrta, xrtv, xfit, xnew, cond_true, cond_false, f40, f41, f42, f43, List.length_cons, List.length_nil, Nat.reduceAdd, Nat.reduceSub, Nat.reduceMul, Nat.reduceBEq, List.map_cons, List.map_nil, List.headD_cons, List.getElem?_cons_zero, List.getElem?_cons_succ, List.set_cons_zero, List.set_cons_succ]
    refine ⟨fun _ => ?_, fun z => absurd z (nI_z hz (hc9 ▸ cd1_lt _))⟩
    refine hK 92 _ _ _ _ _ _ rfl rfl ?_
    dsimp only [k_law_92, hN1, hB, hM1, hM, wpI, xop, xcall, xli, xlj, xlf, xld, xla, xlg, xst, xst2, xc1, pI, pJ, pF, pD, pR, pA, p1, p0, xpop, xpush, xsm, xhas, xif, xic, xsw, xai, xal, xhi, xhv, xrf, xret, xrtl, xrtf, xrtd, xrta, xrtv, xfit, xnew, cond_true, cond_false, f40, f41, f42, f43, List.length_cons, List.length_nil, Nat.reduceAdd, Nat.reduceSub, Nat.reduceMul, Nat.reduceBEq, List.map_cons, List.map_nil, List.headD_cons, List.getElem?_cons_zero, List.getElem?_cons_succ, List.set_cons_zero, List.set_cons_succ]
    exact hn _ _ _ _ _ _ _ (xwL_2 hw _ _) (by omega) (by omega) (LI_mk rfl (LJ_same lj (by omega)))
