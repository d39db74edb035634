set_option maxRecDepth 100000 in
set_option maxHeartbeats 4000000 in
theorem c_row {K : xK} {lst : List Int32} (hK : HK lst K) (hC : HC K) {i x y : Int32} {a b e d : Option Value} {q c s : Nat} {h : xH} (v1 : vp_in (i + nI 1) lst.length) (v2 : vp_in (i + nI 2) lst.length) (hx : lst.getD (i + nI 1).toNatClampNeg 0 = x) (hy : lst.getD (i + nI 2).toNatClampNeg 0 = y)
    (hw : ∀ n, xwL n [a, b, e, d]) (hc : c + 200 ≤ 601024) (hs : s + 9000 ≤ 7293034) (li : LI q h) (hn : Nx K i q c s) : K 52 (L9 i a b e d) [] h c s := by
  obtain ⟨N, V, S, C, P, sv, tl, has, B, K', O, D, laid, many, at', thr, u, g, rfl, lj⟩ := li
  obtain ⟨ok, ⟨hV, hB, hsv, hrel⟩, ⟨hS, hK', hkeep⟩, ⟨hC6, hC7, htl⟩, hO, hD, hg⟩ := id lj
  have hc9 := row_code x y
  refine hK 52 _ _ _ _ _ _ rfl rfl ?_
  dsimp only [k_law_52, L9, tl9, hN1, hB, hM1, hM, wpI, xop, xcall, xli, xlj, xlf, xld, xla, xlg, xst, xst2, xc1, pI, pJ, pF, pD, pR, pA, p1, p0, xpop, xpush, xsm, xhas, xif, xic, xsw, xai, xal, xhi, xhv, xrf, xret, xrtl, xrtf, xrtd, xrta, xrtv, xfit, xnew, cond_true, cond_false, f40, f41, f42, f43, List.length_cons, List.length_nil, Nat.reduceAdd, Nat.reduceSub, Nat.reduceMul, Nat.reduceBEq, List.map_cons, List.map_nil, List.headD_cons, List.getElem?_cons_zero, List.getElem?_cons_succ, List.set_cons_zero, List.set_cons_succ]
  rw [hx, hy]
  refine ⟨v1, v2, ?_⟩
  refine hC r_row (by simp [wR]) [.ref 0, .int x, .int y, .ref 15] [] (L9 i a b e d) _ c s _ rfl (by decide) (by show c + 1 ≤ _; omega) (by show s + 6 ≤ _; omega) (Nat.le_of_ble_eq_true rfl) (xwL_9 hw i (by simp only [List.length_cons]; omega)) trivial
    (w_row ⟨_, _, rfl⟩ (by simp only [List.length_cons]; omega) (ev_row 15 N _ _ x y ok.1) (wV_Ro (u := .long u) (l := []) rfl (fun z => by rw [← hc9, z]; rfl)) (xo_c2 (rowE_c x y) hc9)) ?_
  intro v h' hq
  show K 54 (L9 i a b e d) (xpush v []) h' (c + 1) (s + 6)
  rcases hq with ⟨hz, rfl, rfl⟩ | ⟨hz, rfl, rfl⟩
  · have hE := cd3_0 (hc9.trans hz)
    have hR := row_ok ok hE
    refine hK 54 _ _ _ _ _ _ rfl rfl ?_
    dsimp only [k_law_54, L9, tl9, List.set_cons_succ, hN1, hB, hM1, hM, wpI, xop, xcall, xli, xlj, xlf, xld, xla, xlg, xst, xst2, xc1, pI, pJ, pF, pD, pR, pA, p1, p0, xpop, xpush, xsm, xhas, xif, xic, xsw, xai, xal, xhi, xhv, xrf, xret, xrtl, xrtf, xrtd, xrta, xrtv, xfit, xnew, cond_true, cond_false, f40, f41, f42, f43, List.length_cons, List.length_nil, Nat.reduceAdd, Nat.reduceSub, Nat.reduceMul, Nat.reduceBEq, List.map_cons, List.map_nil, List.headD_cons, List.getElem?_cons_zero, List.getElem?_cons_succ, List.set_cons_zero, List.set_cons_succ]
    rw [hx, hy]
    refine ⟨v1, v2, ?_⟩
    refine Ev_of (ev_M_row 14 x y (zB N V S C P sv tl has) (mOf N) B K' C O shapesN D laid tl sv many at' thr has (_ :: g) (st_mOf ok.1)) ?_
    intro v2 g2 h2
    obtain ⟨rfl, rfl⟩ := Mr_0 hz h2
    dsimp only [hN1, hB, hM1, hM, wpI, xop, xcall, xli, xlj, xlf, xld, xla, xlg, xst, xst2, xc1, pI, pJ, pF, pD, pR, pA, p1, p0, xpop, xpush, xsm, xhas, xif, xic, xsw, xai, xal, xhi, xhv, xrf, xret, xrtl, xrtf, xrtd, xrta, xrtv, xfit, xnew, cond_true, cond_false, f40, f41, f42, f43, List.length_cons, List.length_nil, Nat.reduceAdd, Nat.reduceSub, Nat.reduceMul, Nat.reduceBEq, List.map_cons, List.map_nil, List.headD_cons, List.getElem?_cons_zero, List.getElem?_cons_succ, List.set_cons_zero, List.set_cons_succ]
    refine Ev_use (ev_M_thrown 19 (zB N V S C P sv tl has) _ _ _ _ _ _ _ _ _ _ _ _ _ _ _) ?_
    dsimp only [hN1, hB, hM1, hM, wpI, xop, xcall, xli, xlj, xlf, xld, xla, xlg, xst, xst2, xc1, pI, pJ, pF, pD, pR, pA, p1, p0, xpop, xpush, xsm, xhas, xif, xic, xsw, xai, xal, xhi, xhv, xrf, xret, xrtl, xrtf, xrtd, xrta, xrtv, xfit, xnew, cond_true, cond_false, f40, f41, f42, f43, List.length_cons, List.length_nil, Nat.reduceAdd, Nat.reduceSub, Nat.reduceMul, Nat.reduceBEq, List.map_cons, List.map_nil, List.headD_cons, List.getElem?_cons_zero, List.getElem?_cons_succ, List.set_cons_zero, List.set_cons_succ]
    refine ⟨fun _ => ?_, fun z => absurd rfl z⟩
    refine hK 55 _ _ _ _ _ _ rfl rfl ?_
    dsimp only [k_law_55, hN1, hB, hM1, hM, wpI, xop, xcall, xli, xlj, xlf, xld, xla, xlg, xst, xst2, xc1, pI, pJ, pF, pD, pR, pA, p1, p0, xpop, xpush, xsm, xhas, xif, xic, xsw, xai, xal, xhi, xhv, xrf, xret, xrtl, xrtf, xrtd, xrta, xrtv, xfit, xnew, cond_true, cond_false, f40, f41, f42, f43, List.length_cons, List.length_nil, Nat.reduceAdd, Nat.reduceSub, Nat.reduceMul, Nat.reduceBEq, List.map_cons, List.map_nil, List.headD_cons, List.getElem?_cons_zero, List.getElem?_cons_succ, List.set_cons_zero, List.set_cons_succ]
    refine ⟨fun z => absurd rfl z, fun _ => ⟨vp_in1, fun _ => ?_, fun z => absurd (lcmp_z hR.1) z⟩⟩
    refine hK 56 _ _ _ _ _ _ rfl rfl ?_
    dsimp only [k_law_56, hN1, hB, hM1, hM, wpI, xop, xcall, xli, xlj, xlf, xld, xla, xlg, xst, xst2, xc1, pI, pJ, pF, pD, pR, pA, p1, p0, xpop, xpush, xsm, xhas, xif, xic, xsw, xai, xal, xhi, xhv, xrf, xret, xrtl, xrtf, xrtd, xrta, xrtv, xfit, xnew, cond_true, cond_false, f40, f41, f42, f43, List.length_cons, List.length_nil, Nat.reduceAdd, Nat.reduceSub, Nat.reduceMul, Nat.reduceBEq, List.map_cons, List.map_nil, List.headD_cons, List.getElem?_cons_zero, List.getElem?_cons_succ, List.set_cons_zero, List.set_cons_succ]
    exact hn _ _ _ _ _ _ _ (xwL_2 hw _ _) (by omega) (by omega) (LI_mk rfl (LJ_same lj (by omega)))
  · refine hK 54 _ _ _ _ _ _ rfl rfl ?_
    dsimp only [k_law_54, L9, tl9, List.set_cons_succ, hN1, hB, hM1, hM, wpI, xop, xcall, xli, xlj, xlf, xld, xla, xlg, xst, xst2, xc1, pI, pJ, pF, pD, pR, pA, p1, p0, xpop, xpush, xsm, xhas, xif, xic, xsw, xai, xal, xhi, xhv, xrf, xret, xrtl, xrtf, xrtd, xrta, xrtv, xfit, xnew, cond_true, cond_false, f40, f41, f42, f43, List.length_cons, List.length_nil, Nat.reduceAdd, Nat.reduceSub, Nat.reduceMul, Nat.reduceBEq, List.map_cons, List.map_nil, List.headD_cons, List.getElem?_cons_zero, List.getElem?_cons_succ, List.set_cons_zero, List.set_cons_succ]
    rw [hx, hy]
    refine ⟨v1, v2, ?_⟩
    refine Ev_of (ev_M_row 14 x y (zB N V S C P sv tl has) (mOf N) B K' C O shapesN D laid tl sv many at' thr has (_ :: g) (st_mOf ok.1)) ?_
    intro v2 g2 h2
    obtain ⟨rfl, rfl⟩ := Mr_1 hz h2
    dsimp only [hN1, hB, hM1, hM, wpI, xop, xcall, xli, xlj, xlf, xld, xla, xlg, xst, xst2, xc1, pI, pJ, pF, pD, pR, pA, p1, p0, xpop, xpush, xsm, xhas, xif, xic, xsw, xai, xal, xhi, xhv, xrf, xret, xrtl, xrtf, xrtd, xrta, xrtv, xfit, xnew, cond_true, cond_false, f40, f41, f42, f43, List.length_cons, List.length_nil, Nat.reduceAdd, Nat.reduceSub, Nat.reduceMul, Nat.reduceBEq, List.map_cons, List.map_nil, List.headD_cons, List.getElem?_cons_zero, List.getElem?_cons_succ, List.set_cons_zero, List.set_cons_succ]
    refine Ev_use (ev_M_thrown 19 (zB N V S C P sv tl has) _ _ _ _ _ _ _ _ _ _ _ _ _ _ _) ?_
    dsimp only [hN1, hB, hM1, hM, wpI, xop, xcall, xli, xlj, xlf, xld, xla, xlg, xst, xst2, xc1, pI, pJ, pF, pD, pR, pA, p1, p0, xpop, xpush, xsm, xhas, xif, xic, xsw, xai, xal, xhi, xhv, xrf, xret, xrtl, xrtf, xrtd, xrta, xrtv, xfit, xnew, cond_true, cond_false, f40, f41, f42, f43, List.length_cons, List.length_nil, Nat.reduceAdd, Nat.reduceSub, Nat.reduceMul, Nat.reduceBEq, List.map_cons, List.map_nil, List.headD_cons, List.getElem?_cons_zero, List.getElem?_cons_succ, List.set_cons_zero, List.set_cons_succ]
    refine ⟨fun _ => ?_, fun z => absurd rfl z⟩
    refine hK 55 _ _ _ _ _ _ rfl rfl ?_
    dsimp only [k_law_55, hN1, hB, hM1, hM, wpI, xop, xcall, xli, xlj, xlf, xld, xla, xlg, xst, xst2, xc1, pI, pJ, pF, pD, pR, pA, p1, p0, xpop, xpush, xsm, xhas, xif, xic, xsw, xai, xal, xhi, xhv, xrf, xret, xrtl, xrtf, xrtd, xrta, xrtv, xfit, xnew, cond_true, cond_false, f40, f41, f42, f43, List.length_cons, List.length_nil, Nat.reduceAdd, Nat.reduceSub, Nat.reduceMul, Nat.reduceBEq, List.map_cons, List.map_nil, List.headD_cons, List.getElem?_cons_zero, List.getElem?_cons_succ, List.set_cons_zero, List.set_cons_succ]
    refine ⟨fun _ => ?_, fun z => absurd z (nI_z hz (hc9 ▸ cd3_lt _))⟩
    refine hK 56 _ _ _ _ _ _ rfl rfl ?_
    dsimp only [k_law_56, hN1, hB, hM1, hM, wpI, xop, xcall, xli, xlj, xlf, xld, xla, xlg, xst, xst2, xc1, pI, pJ, pF, pD, pR, pA, p1, p0, xpop, xpush, xsm, xhas, xif, xic, xsw, xai, xal, xhi, xhv, xrf, xret, xrtl, xrtf, xrtd, xrta, xrtv, xfit, xnew, cond_true, cond_false, f40, f41, f42, f43, List.length_cons, List.length_nil, Nat.reduceAdd, Nat.reduceSub, Nat.reduceMul, Nat.reduceBEq, List.map_cons, List.map_nil, List.headD_cons, List.getElem?_cons_zero, List.getElem?_cons_succ, List.set_cons_zero, List.set_cons_succ]
    exact hn _ _ _ _ _ _ _ (xwL_2 hw _ _) (by omega) (by omega) (LI_mk rfl (LJ_same lj (by omega)))

set_option maxRecDepth 100000 in
set_option maxHeartbeats 4000000 in
theorem c_setting {K : xK} {lst : List Int32} (hK : HK lst K) (hC : HC K) {i x y : Int32} {a b e d : Option Value} {q c s : Nat} {h : xH} (v1 : vp_in (i + nI 1) lst.length) (v2 : vp_in (i + nI 2) lst.length) (hx : lst.getD (i + nI 1).toNatClampNeg 0 = x) (hy : lst.getD (i + nI 2).toNatClampNeg 0 = y)
    (hw : ∀ n, xwL n [a, b, e, d]) (hc : c + 200 ≤ 601024) (hs : s + 9000 ≤ 7293034) (li : LI q h) (hn : Nx K i q c s) : K 62 (L9 i a b e d) [] h c s := by
  obtain ⟨N, V, S, C, P, sv, tl, has, B, K', O, D, laid, many, at', thr, u, g, rfl, lj⟩ := li
  obtain ⟨ok, ⟨hV, hB, hsv, hrel⟩, ⟨hS, hK', hkeep⟩, ⟨hC6, hC7, htl⟩, hO, hD, hg⟩ := id lj
  have hc9 := setting_code x
  refine hK 62 _ _ _ _ _ _ rfl rfl ?_
  dsimp only [k_law_62, L9, tl9, hN1, hB, hM1, hM, wpI, xop, xcall, xli, xlj, xlf, xld, xla, xlg, xst, xst2, xc1, pI, pJ, pF, pD, pR, pA, p1, p0, xpop, xpush, xsm, xhas, xif, xic, xsw, xai, xal, xhi, xhv, xrf, xret, xrtl, xrtf, xrtd, xrta, xrtv, xfit, xnew, cond_true, cond_false, f40, f41, f42, f43, List.length_cons, List.length_nil, Nat.reduceAdd, Nat.reduceSub, Nat.reduceMul, Nat.reduceBEq, List.map_cons, List.map_nil, List.headD_cons, List.getElem?_cons_zero, List.getElem?_cons_succ, List.set_cons_zero, List.set_cons_succ]
  rw [hx]
  refine ⟨v1, ?_⟩
  refine hC r_setting (by simp [wR]) [.ref 0, .int x, .ref 15] [] (L9 i a b e d) _ c s _ rfl (by decide) (by show c + 1 ≤ _; omega) (by show s + 6 ≤ _; omega) (Nat.le_of_ble_eq_true rfl) (xwL_9 hw i (by simp only [List.length_cons]; omega)) trivial
    (w_setting ⟨_, _, rfl⟩ (by simp only [List.length_cons]; omega) (ev_setting 18 N _ _ x ok.1.1) (wV_Ro (u := .long u) (l := []) rfl (fun z => by rw [← hc9, z]; rfl)) (xo_1 (by decide) (settingE_c x) hc9)) ?_
  intro v h' hq
  show K 64 (L9 i a b e d) (xpush v []) h' (c + 1) (s + 6)
  rcases hq with ⟨hz, rfl, rfl⟩ | ⟨hz, rfl, rfl⟩
  · have hE := cd1_0 (hc9.trans hz)
    have hR := setting_ok ok hE
    refine hK 64 _ _ _ _ _ _ rfl rfl ?_
    dsimp only [k_law_64, L9, tl9, List.set_cons_succ, hN1, hB, hM1, hM, wpI, xop, xcall, xli, xlj, xlf, xld, xla, xlg, xst, xst2, xc1, pI, pJ, pF, pD, pR, pA, p1, p0, xpop, xpush, xsm, xhas, xif, xic, xsw, xai, xal, xhi, xhv, xrf, xret, xrtl, xrtf, xrtd, xrta, xrtv, xfit, xnew, cond_true, cond_false, f40, f41, f42, f43, List.length_cons, List.length_nil, Nat.reduceAdd, Nat.reduceSub, Nat.reduceMul, Nat.reduceBEq, List.map_cons, List.map_nil, List.headD_cons, List.getElem?_cons_zero, List.getElem?_cons_succ, List.set_cons_zero, List.set_cons_succ]
    rw [hx]
    refine ⟨v1, ?_⟩
    refine Ev_of (ev_M_setting 18 x (zB N V S C P sv tl has) (mOf N) B K' C O shapesN D laid tl sv many at' thr has (_ :: g) (mOf_len N)) ?_
    intro v2 g2 h2
    obtain ⟨rfl, rfl⟩ := Mr_0 hz h2
    dsimp only [hN1, hB, hM1, hM, wpI, xop, xcall, xli, xlj, xlf, xld, xla, xlg, xst, xst2, xc1, pI, pJ, pF, pD, pR, pA, p1, p0, xpop, xpush, xsm, xhas, xif, xic, xsw, xai, xal, xhi, xhv, xrf, xret, xrtl, xrtf, xrtd, xrta, xrtv, xfit, xnew, cond_true, cond_false, f40, f41, f42, f43, List.length_cons, List.length_nil, Nat.reduceAdd, Nat.reduceSub, Nat.reduceMul, Nat.reduceBEq, List.map_cons, List.map_nil, List.headD_cons, List.getElem?_cons_zero, List.getElem?_cons_succ, List.set_cons_zero, List.set_cons_succ]
    refine Ev_use (ev_M_thrown 19 (zB N V S C P sv tl has) _ _ _ _ _ _ _ _ _ _ _ _ _ _ _) ?_
    dsimp only [hN1, hB, hM1, hM, wpI, xop, xcall, xli, xlj, xlf, xld, xla, xlg, xst, xst2, xc1, pI, pJ, pF, pD, pR, pA, p1, p0, xpop, xpush, xsm, xhas, xif, xic, xsw, xai, xal, xhi, xhv, xrf, xret, xrtl, xrtf, xrtd, xrta, xrtv, xfit, xnew, cond_true, cond_false, f40, f41, f42, f43, List.length_cons, List.length_nil, Nat.reduceAdd, Nat.reduceSub, Nat.reduceMul, Nat.reduceBEq, List.map_cons, List.map_nil, List.headD_cons, List.getElem?_cons_zero, List.getElem?_cons_succ, List.set_cons_zero, List.set_cons_succ]
    refine ⟨fun _ => ?_, fun z => absurd rfl z⟩
    refine hK 65 _ _ _ _ _ _ rfl rfl ?_
    dsimp only [k_law_65, hN1, hB, hM1, hM, wpI, xop, xcall, xli, xlj, xlf, xld, xla, xlg, xst, xst2, xc1, pI, pJ, pF, pD, pR, pA, p1, p0, xpop, xpush, xsm, xhas, xif, xic, xsw, xai, xal, xhi, xhv, xrf, xret, xrtl, xrtf, xrtd, xrta, xrtv, xfit, xnew, cond_true, cond_false, f40, f41, f42, f43, List.length_cons, List.length_nil, Nat.reduceAdd, Nat.reduceSub, Nat.reduceMul, Nat.reduceBEq, List.map_cons, List.map_nil, List.headD_cons, List.getElem?_cons_zero, List.getElem?_cons_succ, List.set_cons_zero, List.set_cons_succ]
    refine ⟨fun z => absurd rfl z, fun _ => ⟨vp_in1, fun _ => ?_, fun z => absurd (lcmp_z hR.1) z⟩⟩
    refine hK 66 _ _ _ _ _ _ rfl rfl ?_
    dsimp only [k_law_66, hN1, hB, hM1, hM, wpI, xop, xcall, xli, xlj, xlf, xld, xla, xlg, xst, xst2, xc1, pI, pJ, pF, pD, pR, pA, p1, p0, xpop, xpush, xsm, xhas, xif, xic, xsw, xai, xal, xhi, xhv, xrf, xret, xrtl, xrtf, xrtd, xrta, xrtv, xfit, xnew, cond_true, cond_false, f40, f41, f42, f43, List.length_cons, List.length_nil, Nat.reduceAdd, Nat.reduceSub, Nat.reduceMul, Nat.reduceBEq, List.map_cons, List.map_nil, List.headD_cons, List.getElem?_cons_zero, List.getElem?_cons_succ, List.set_cons_zero, List.set_cons_succ]
    exact hn _ _ _ _ _ _ _ (xwL_2 hw _ _) (by omega) (by omega) (LI_mk rfl (LJ_same lj (by omega)))
  · refine hK 64 _ _ _ _ _ _ rfl rfl ?_
    dsimp only [k_law_64, L9, tl9, List.set_cons_succ, hN1, hB, hM1, hM, wpI, xop, xcall, xli, xlj, xlf, xld, xla, xlg, xst, xst2, xc1, pI, pJ, pF, pD, pR, pA, p1, p0, xpop, xpush, xsm, xhas, xif, xic, xsw, xai, xal, xhi, xhv, xrf, xret, xrtl, xrtf, xrtd, xrta, xrtv, xfit, xnew, cond_true, cond_false, f40, f41, f42, f43, List.length_cons, List.length_nil, Nat.reduceAdd, Nat.reduceSub, Nat.reduceMul, Nat.reduceBEq, List.map_cons, List.map_nil, List.headD_cons, List.getElem?_cons_zero, List.getElem?_cons_succ, List.set_cons_zero, List.set_cons_succ]
    rw [hx]
    refine ⟨v1, ?_⟩
    refine Ev_of (ev_M_setting 18 x (zB N V S C P sv tl has) (mOf N) B K' C O shapesN D laid tl sv many at' thr has (_ :: g) (mOf_len N)) ?_
    intro v2 g2 h2
    obtain ⟨rfl, rfl⟩ := Mr_1 hz h2
    dsimp only [hN1, hB, hM1, hM, wpI, xop, xcall, xli, xlj, xlf, xld, xla, xlg, xst, xst2, xc1, pI, pJ, pF, pD, pR, pA, p1, p0, xpop, xpush, xsm, xhas, xif, xic, xsw, xai, xal, xhi, xhv, xrf, xret, xrtl, xrtf, xrtd, xrta, xrtv, xfit, xnew, cond_true, cond_false, f40, f41, f42, f43, List.length_cons, List.length_nil, Nat.reduceAdd, Nat.reduceSub, Nat.reduceMul, Nat.reduceBEq, List.map_cons, List.map_nil, List.headD_cons, List.getElem?_cons_zero, List.getElem?_cons_succ, List.set_cons_zero, List.set_cons_succ]
    refine Ev_use (ev_M_thrown 19 (zB N V S C P sv tl has) _ _ _ _ _ _ _ _ _ _ _ _ _ _ _) ?_
    dsimp only [hN1, hB, hM1, hM, wpI, xop, xcall, xli, xlj, xlf, xld, xla, xlg, xst, xst2, xc1, pI, pJ, pF, pD, pR, pA, p1, p0, xpop, xpush, xsm, xhas, xif, xic, xsw, xai, xal, xhi, xhv, xrf, xret, xrtl, xrtf, xrtd, xrta, xrtv, xfit, xnew, cond_true, cond_false, f40, f41, f42, f43, List.length_cons, List.length_nil, Nat.reduceAdd, Nat.reduceSub, Nat.reduceMul, Nat.reduceBEq, List.map_cons, List.map_nil, List.headD_cons, List.getElem?_cons_zero, List.getElem?_cons_succ, List.set_cons_zero, List.set_cons_succ]
    refine ⟨fun _ => ?_, fun z => absurd rfl z⟩
    refine hK 65 _ _ _ _ _ _ rfl rfl ?_
    dsimp only [k_law_65, hN1, hB, hM1, hM, wpI, xop, xcall, xli, xlj, xlf, xld, xla, xlg, xst, xst2, xc1, pI, pJ, pF, pD, pR, pA, p1, p0, xpop, xpush, xsm, xhas, xif, xic, xsw, xai, xal, xhi, xhv, xrf, xret, xrtl, xrtf, xrtd, xrta, xrtv, xfit, xnew, cond_true, cond_false, f40, f41, f42, f43, List.length_cons, List.length_nil, Nat.reduceAdd, Nat.reduceSub, Nat.reduceMul, Nat.reduceBEq, List.map_cons, List.map_nil, List.headD_cons, List.getElem?_cons_zero, List.getElem?_cons_succ, List.set_cons_zero, List.set_cons_succ]
    refine ⟨fun _ => ?_, fun z => absurd z (nI_z hz (hc9 ▸ cd1_lt _))⟩
    refine hK 66 _ _ _ _ _ _ rfl rfl ?_
    dsimp only [k_law_66, hN1, hB, hM1, hM, wpI, xop, xcall, xli, xlj, xlf, xld, xla, xlg, xst, xst2, xc1, pI, pJ, pF, pD, pR, pA, p1, p0, xpop, xpush, xsm, xhas, xif, xic, xsw, xai, xal, xhi, xhv, xrf, xret, xrtl, xrtf, xrtd, xrta, xrtv, xfit, xnew, cond_true, cond_false, f40, f41, f42, f43, List.length_cons, List.length_nil, Nat.reduceAdd, Nat.reduceSub, Nat.reduceMul, Nat.reduceBEq, List.map_cons, List.map_nil, List.headD_cons, List.getElem?_cons_zero, List.getElem?_cons_succ, List.set_cons_zero, List.set_cons_succ]
    exact hn _ _ _ _ _ _ _ (xwL_2 hw _ _) (by omega) (by omega) (LI_mk rfl (LJ_same lj (by omega)))

set_option maxRecDepth 100000 in
set_option maxHeartbeats 4000000 in
theorem c_why {K : xK} {lst : List Int32} (hK : HK lst K) (hC : HC K) {i x y : Int32} {a b e d : Option Value} {q c s : Nat} {h : xH} (v1 : vp_in (i + nI 1) lst.length) (v2 : vp_in (i + nI 2) lst.length) (hx : lst.getD (i + nI 1).toNatClampNeg 0 = x) (hy : lst.getD (i + nI 2).toNatClampNeg 0 = y)
    (hw : ∀ n, xwL n [a, b, e, d]) (hc : c + 200 ≤ 601024) (hs : s + 9000 ≤ 7293034) (li : LI q h) (hn : Nx K i q c s) : K 67 (L9 i a b e d) [] h c s := by
  obtain ⟨N, V, S, C, P, sv, tl, has, B, K', O, D, laid, many, at', thr, u, g, rfl, lj⟩ := li
  obtain ⟨ok, ⟨hV, hB, hsv, hrel⟩, ⟨hS, hK', hkeep⟩, ⟨hC6, hC7, htl⟩, hO, hD, hg⟩ := id lj
  have hc9 := why_code x y
  refine hK 67 _ _ _ _ _ _ rfl rfl ?_
  dsimp only [k_law_67, L9, tl9, hN1, hB, hM1, hM, wpI, xop, xcall, xli, xlj, xlf, xld, xla, xlg, xst, xst2, xc1, pI, pJ, pF, pD, pR, pA, p1, p0, xpop, xpush, xsm, xhas, xif, xic, xsw, xai, xal, xhi, xhv, xrf, xret, xrtl, xrtf, xrtd, xrta, xrtv, xfit, xnew, cond_true, cond_false, f40, f41, f42, f43, List.length_cons, List.length_nil, Nat.reduceAdd, Nat.reduceSub, Nat.reduceMul, Nat.reduceBEq, List.map_cons, List.map_nil, List.headD_cons, List.getElem?_cons_zero, List.getElem?_cons_succ, List.set_cons_zero, List.set_cons_succ]
  rw [hx, hy]
  refine ⟨v1, v2, ?_⟩
  refine hC r_why (by simp [wR]) [.ref 0, .int x, .int y, .ref 15] [] (L9 i a b e d) _ c s _ rfl (by decide) (by show c + 1 ≤ _; omega) (by show s + 6 ≤ _; omega) (Nat.le_of_ble_eq_true rfl) (xwL_9 hw i (by simp only [List.length_cons]; omega)) trivial
    (w_why ⟨_, _, rfl⟩ (by simp only [List.length_cons]; omega) (ev_why 16 N _ _ x y ok.1) (wV_Ro (u := .long u) (l := []) rfl (fun z => by rw [← hc9, z]; rfl)) (xo_c2 (whyE_c x y) hc9)) ?_
  intro v h' hq
  show K 69 (L9 i a b e d) (xpush v []) h' (c + 1) (s + 6)
  rcases hq with ⟨hz, rfl, rfl⟩ | ⟨hz, rfl, rfl⟩
  · have hE := cd3_0 (hc9.trans hz)
    have hR := why_ok ok hE
    refine hK 69 _ _ _ _ _ _ rfl rfl ?_
    dsimp only [k_law_69, L9, tl9, List.set_cons_succ, hN1, hB, hM1, hM, wpI, xop, xcall, xli, xlj, xlf, xld, xla, xlg, xst, xst2, xc1, pI, pJ, pF, pD, pR, pA, p1, p0, xpop, xpush, xsm, xhas, xif, xic, xsw, xai, xal, xhi, xhv, xrf, xret, xrtl, xrtf, xrtd, xrta, xrtv, xfit, xnew, cond_true, cond_false, f40, f41, f42, f43, List.length_cons, List.length_nil, Nat.reduceAdd, Nat.reduceSub, Nat.reduceMul, Nat.reduceBEq, List.map_cons, List.map_nil, List.headD_cons, List.getElem?_cons_zero, List.getElem?_cons_succ, List.set_cons_zero, List.set_cons_succ]
    rw [hx, hy]
    refine ⟨v1, v2, ?_⟩
    refine Ev_of (ev_M_why 15 x y (zB N V S C P sv tl has) (mOf N) B K' C O shapesN D laid tl sv many at' thr has (_ :: g) (st_mOf ok.1)) ?_
    intro v2 g2 h2
    obtain ⟨rfl, rfl⟩ := Mr_0 hz h2
    dsimp only [hN1, hB, hM1, hM, wpI, xop, xcall, xli, xlj, xlf, xld, xla, xlg, xst, xst2, xc1, pI, pJ, pF, pD, pR, pA, p1, p0, xpop, xpush, xsm, xhas, xif, xic, xsw, xai, xal, xhi, xhv, xrf, xret, xrtl, xrtf, xrtd, xrta, xrtv, xfit, xnew, cond_true, cond_false, f40, f41, f42, f43, List.length_cons, List.length_nil, Nat.reduceAdd, Nat.reduceSub, Nat.reduceMul, Nat.reduceBEq, List.map_cons, List.map_nil, List.headD_cons, List.getElem?_cons_zero, List.getElem?_cons_succ, List.set_cons_zero, List.set_cons_succ]
    refine Ev_use (ev_M_thrown 19 (zB N V S C P sv tl has) _ _ _ _ _ _ _ _ _ _ _ _ _ _ _) ?_
    dsimp only [hN1, hB, hM1, hM, wpI, xop, xcall, xli, xlj, xlf, xld, xla, xlg, xst, xst2, xc1, pI, pJ, pF, pD, pR, pA, p1, p0, xpop, xpush, xsm, xhas, xif, xic, xsw, xai, xal, xhi, xhv, xrf, xret, xrtl, xrtf, xrtd, xrta, xrtv, xfit, xnew, cond_true, cond_false, f40, f41, f42, f43, List.length_cons, List.length_nil, Nat.reduceAdd, Nat.reduceSub, Nat.reduceMul, Nat.reduceBEq, List.map_cons, List.map_nil, List.headD_cons, List.getElem?_cons_zero, List.getElem?_cons_succ, List.set_cons_zero, List.set_cons_succ]
    refine ⟨fun _ => ?_, fun z => absurd rfl z⟩
    refine hK 70 _ _ _ _ _ _ rfl rfl ?_
    dsimp only [k_law_70, hN1, hB, hM1, hM, wpI, xop, xcall, xli, xlj, xlf, xld, xla, xlg, xst, xst2, xc1, pI, pJ, pF, pD, pR, pA, p1, p0, xpop, xpush, xsm, xhas, xif, xic, xsw, xai, xal, xhi, xhv, xrf, xret, xrtl, xrtf, xrtd, xrta, xrtv, xfit, xnew, cond_true, cond_false, f40, f41, f42, f43, List.length_cons, List.length_nil, Nat.reduceAdd, Nat.reduceSub, Nat.reduceMul, Nat.reduceBEq, List.map_cons, List.map_nil, List.headD_cons, List.getElem?_cons_zero, List.getElem?_cons_succ, List.set_cons_zero, List.set_cons_succ]
    refine ⟨fun z => absurd rfl z, fun _ => ⟨vp_in1, fun _ => ?_, fun z => absurd (lcmp_z hR.1) z⟩⟩
    refine hK 71 _ _ _ _ _ _ rfl rfl ?_
    dsimp only [k_law_71, hN1, hB, hM1, hM, wpI, xop, xcall, xli, xlj, xlf, xld, xla, xlg, xst, xst2, xc1, pI, pJ, pF, pD, pR, pA, p1, p0, xpop, xpush, xsm, xhas, xif, xic, xsw, xai, xal, xhi, xhv, xrf, xret, xrtl, xrtf, xrtd, xrta, xrtv, xfit, xnew, cond_true, cond_false, f40, f41, f42, f43, List.length_cons, List.length_nil, Nat.reduceAdd, Nat.reduceSub, Nat.reduceMul, Nat.reduceBEq, List.map_cons, List.map_nil, List.headD_cons, List.getElem?_cons_zero, List.getElem?_cons_succ, List.set_cons_zero, List.set_cons_succ]
    exact hn _ _ _ _ _ _ _ (xwL_2 hw _ _) (by omega) (by omega) (LI_mk rfl (LJ_same lj (by omega)))
  · refine hK 69 _ _ _ _ _ _ rfl rfl ?_
    dsimp only [k_law_69, L9, tl9, List.set_cons_succ, hN1, hB, hM1, hM, wpI, xop, xcall, xli, xlj, xlf, xld, xla, xlg, xst, xst2, xc1, pI, pJ, pF, pD, pR, pA, p1, p0, xpop, xpush, xsm, xhas, xif, xic, xsw, xai, xal, xhi, xhv, xrf, xret, xrtl, xrtf, xrtd, xrta, xrtv, xfit, xnew, cond_true, cond_false, f40, f41, f42, f43, List.length_cons, List.length_nil, Nat.reduceAdd, Nat.reduceSub, Nat.reduceMul, Nat.reduceBEq, List.map_cons, List.map_nil, List.headD_cons, List.getElem?_cons_zero, List.getElem?_cons_succ, List.set_cons_zero, List.set_cons_succ]
    rw [hx, hy]
    refine ⟨v1, v2, ?_⟩
    refine Ev_of (ev_M_why 15 x y (zB N V S C P sv tl has) (mOf N) B K' C O shapesN D laid tl sv many at' thr has (_ :: g) (st_mOf ok.1)) ?_
    intro v2 g2 h2
    obtain ⟨rfl, rfl⟩ := Mr_1 hz h2
    dsimp only [hN1, hB, hM1, hM, wpI, xop, xcall, xli, xlj, xlf, xld, xla, xlg, xst, xst2, xc1, pI, pJ, pF, pD, pR, pA, p1, p0, xpop, xpush, xsm, xhas, xif, xic, xsw, xai, xal, xhi, xhv, xrf, xret, xrtl, xrtf, xrtd, xrta, xrtv, xfit, xnew, cond_true, cond_false, f40, f41, f42, f43, List.length_cons, List.length_nil, Nat.reduceAdd, Nat.reduceSub, Nat.reduceMul, Nat.reduceBEq, List.map_cons, List.map_nil, List.headD_cons, List.getElem?_cons_zero, List.getElem?_cons_succ, List.set_cons_zero, List.set_cons_succ]
    refine Ev_use (ev_M_thrown 19 (zB N V S C P sv tl has) _ _ _ _ _ _ _ _ _ _ _ _ _ _ _) ?_
    dsimp only [hN1, hB, hM1, hM, wpI, xop, xcall, xli, xlj, xlf, xld, xla, xlg, xst, xst2, xc1, pI, pJ, pF, pD, pR, pA, p1, p0, xpop, xpush, xsm, xhas, xif, xic, xsw, xai, xal, xhi, xhv, xrf, xret, xrtl, xrtf, xrtd, xrta, xrtv, xfit, xnew, cond_true, cond_false, f40, f41, f42, f43, List.length_cons, List.length_nil, Nat.reduceAdd, Nat.reduceSub, Nat.reduceMul, Nat.reduceBEq, List.map_cons, List.map_nil, List.headD_cons, List.getElem?_cons_zero, List.getElem?_cons_succ, List.set_cons_zero, List.set_cons_succ]
    refine ⟨fun _ => ?_, fun z => absurd rfl z⟩
    refine hK 70 _ _ _ _ _ _ rfl rfl ?_
    dsimp only [k_law_70, hN1, hB, hM1, hM, wpI, xop, xcall, xli, xlj, xlf, xld, xla, xlg, xst, xst2, xc1, pI, pJ, pF, pD, pR, pA, p1, p0, xpop, xpush, xsm, xhas, xif, xic, xsw, xai, xal, xhi, xhv, xrf, xret, xrtl, xrtf, xrtd, xrta, xrtv, xfit, xnew, cond_true, cond_false, f40, f41, f42, f43, List.length_cons, List.length_nil, Nat.reduceAdd, Nat.reduceSub, Nat.reduceMul, Nat.reduceBEq, List.map_cons, List.map_nil, List.headD_cons, List.getElem?_cons_zero, List.getElem?_cons_succ, List.set_cons_zero, List.set_cons_succ]
    refine ⟨fun _ => ?_, fun z => absurd z (nI_z hz (hc9 ▸ cd3_lt _))⟩
    refine hK 71 _ _ _ _ _ _ rfl rfl ?_
    dsimp only [k_law_71, hN1, hB, hM1, hM, wpI, xop, xcall, xli, xlj, xlf, xld, xla, xlg, xst, xst2, xc1, pI, pJ, pF, pD, pR, pA, p1, p0, xpop, xpush, xsm, xhas, xif, xic, xsw, xai, xal, xhi, xhv, xrf, xret, xrtl, xrtf, xrtd, xrta, xrtv, xfit, xnew, cond_true, cond_false, f40, f41, f42, f43, List.length_cons, List.length_nil, Nat.reduceAdd, Nat.reduceSub, Nat.reduceMul, Nat.reduceBEq, List.map_cons, List.map_nil, List.headD_cons, List.getElem?_cons_zero, List.getElem?_cons_succ, List.set_cons_zero, List.set_cons_succ]
    exact hn _ _ _ _ _ _ _ (xwL_2 hw _ _) (by omega) (by omega) (LI_mk rfl (LJ_same lj (by omega)))

set_option maxRecDepth 100000 in
set_option maxHeartbeats 4000000 in
theorem c_falls {K : xK} {lst : List Int32} (hK : HK lst K) (hC : HC K) {i x y : Int32} {a b e d : Option Value} {q c s : Nat} {h : xH} (v1 : vp_in (i + nI 1) lst.length) (v2 : vp_in (i + nI 2) lst.length) (hx : lst.getD (i + nI 1).toNatClampNeg 0 = x) (hy : lst.getD (i + nI 2).toNatClampNeg 0 = y)
    (hw : ∀ n, xwL n [a, b, e, d]) (hc : c + 200 ≤ 601024) (hs : s + 9000 ≤ 7293034) (li : LI q h) (hn : Nx K i q c s) : K 72 (L9 i a b e d) [] h c s := by
  obtain ⟨N, V, S, C, P, sv, tl, has, B, K', O, D, laid, many, at', thr, u, g, rfl, lj⟩ := li
  obtain ⟨ok, ⟨hV, hB, hsv, hrel⟩, ⟨hS, hK', hkeep⟩, ⟨hC6, hC7, htl⟩, hO, hD, hg⟩ := id lj
  have hc9 := why_code x y
  refine hK 72 _ _ _ _ _ _ rfl rfl ?_
  dsimp only [k_law_72, L9, tl9, hN1, hB, hM1, hM, wpI, xop, xcall, xli, xlj, xlf, xld, xla, xlg, xst, xst2, xc1, pI, pJ, pF, pD, pR, pA, p1, p0, xpop, xpush, xsm, xhas, xif, xic, xsw, xai, xal, xhi, xhv, xrf, xret, xrtl, xrtf, xrtd, xrta, xrtv, xfit, xnew, cond_true, cond_false, f40, f41, f42, f43, List.length_cons, List.length_nil, Nat.reduceAdd, Nat.reduceSub, Nat.reduceMul, Nat.reduceBEq, List.map_cons, List.map_nil, List.headD_cons, List.getElem?_cons_zero, List.getElem?_cons_succ, List.set_cons_zero, List.set_cons_succ]
  rw [hx, hy]
  refine ⟨v1, v2, ?_⟩
  refine hC r_falls (by simp [wR]) [.ref 0, .int x, .int y, .ref 15] [] (L9 i a b e d) _ c s _ rfl (by decide) (by show c + 1 ≤ _; omega) (by show s + 6 ≤ _; omega) (Nat.le_of_ble_eq_true rfl) (xwL_9 hw i (by simp only [List.length_cons]; omega)) trivial
    (w_falls ⟨_, _, rfl⟩ (by simp only [List.length_cons]; omega) (ev_falls 16 N _ _ x y ok.1) (wV_Ro (u := .long u) (l := []) rfl (fun z => by rw [← hc9, z]; rfl)) (xo_c2 (whyE_c x y) hc9)) ?_
  intro v h' hq
  show K 74 (L9 i a b e d) (xpush v []) h' (c + 1) (s + 6)
  rcases hq with ⟨hz, rfl, rfl⟩ | ⟨hz, rfl, rfl⟩
  · have hE := cd3_0 (hc9.trans hz)
    have hR := falls_ok ok hE
    refine hK 74 _ _ _ _ _ _ rfl rfl ?_
    dsimp only [k_law_74, L9, tl9, List.set_cons_succ, hN1, hB, hM1, hM, wpI, xop, xcall, xli, xlj, xlf, xld, xla, xlg, xst, xst2, xc1, pI, pJ, pF, pD, pR, pA, p1, p0, xpop, xpush, xsm, xhas, xif, xic, xsw, xai, xal, xhi, xhv, xrf, xret, xrtl, xrtf, xrtd, xrta, xrtv, xfit, xnew, cond_true, cond_false, f40, f41, f42, f43, List.length_cons, List.length_nil, Nat.reduceAdd, Nat.reduceSub, Nat.reduceMul, Nat.reduceBEq, List.map_cons, List.map_nil, List.headD_cons, List.getElem?_cons_zero, List.getElem?_cons_succ, List.set_cons_zero, List.set_cons_succ]
    rw [hx, hy]
    refine ⟨v1, v2, ?_⟩
    refine Ev_of (ev_M_falls 15 x y (zB N V S C P sv tl has) (mOf N) B K' C O shapesN D laid tl sv many at' thr has (_ :: g) (st_mOf ok.1)) ?_
    intro v2 g2 h2
    obtain ⟨rfl, rfl⟩ := Mr_0 hz h2
    dsimp only [hN1, hB, hM1, hM, wpI, xop, xcall, xli, xlj, xlf, xld, xla, xlg, xst, xst2, xc1, pI, pJ, pF, pD, pR, pA, p1, p0, xpop, xpush, xsm, xhas, xif, xic, xsw, xai, xal, xhi, xhv, xrf, xret, xrtl, xrtf, xrtd, xrta, xrtv, xfit, xnew, cond_true, cond_false, f40, f41, f42, f43, List.length_cons, List.length_nil, Nat.reduceAdd, Nat.reduceSub, Nat.reduceMul, Nat.reduceBEq, List.map_cons, List.map_nil, List.headD_cons, List.getElem?_cons_zero, List.getElem?_cons_succ, List.set_cons_zero, List.set_cons_succ]
    refine Ev_use (ev_M_thrown 19 (zB N V S C P sv tl has) _ _ _ _ _ _ _ _ _ _ _ _ _ _ _) ?_
    dsimp only [hN1, hB, hM1, hM, wpI, xop, xcall, xli, xlj, xlf, xld, xla, xlg, xst, xst2, xc1, pI, pJ, pF, pD, pR, pA, p1, p0, xpop, xpush, xsm, xhas, xif, xic, xsw, xai, xal, xhi, xhv, xrf, xret, xrtl, xrtf, xrtd, xrta, xrtv, xfit, xnew, cond_true, cond_false, f40, f41, f42, f43, List.length_cons, List.length_nil, Nat.reduceAdd, Nat.reduceSub, Nat.reduceMul, Nat.reduceBEq, List.map_cons, List.map_nil, List.headD_cons, List.getElem?_cons_zero, List.getElem?_cons_succ, List.set_cons_zero, List.set_cons_succ]
    refine ⟨fun _ => ?_, fun z => absurd rfl z⟩
    refine hK 75 _ _ _ _ _ _ rfl rfl ?_
    dsimp only [k_law_75, hN1, hB, hM1, hM, wpI, xop, xcall, xli, xlj, xlf, xld, xla, xlg, xst, xst2, xc1, pI, pJ, pF, pD, pR, pA, p1, p0, xpop, xpush, xsm, xhas, xif, xic, xsw, xai, xal, xhi, xhv, xrf, xret, xrtl, xrtf, xrtd, xrta, xrtv, xfit, xnew, cond_true, cond_false, f40, f41, f42, f43, List.length_cons, List.length_nil, Nat.reduceAdd, Nat.reduceSub, Nat.reduceMul, Nat.reduceBEq, List.map_cons, List.map_nil, List.headD_cons, List.getElem?_cons_zero, List.getElem?_cons_succ, List.set_cons_zero, List.set_cons_succ]
    refine ⟨fun z => absurd rfl z, fun _ => ⟨vp_in1, fun _ => ?_, fun z => absurd (lcmp_z hR.1) z⟩⟩
    refine hK 76 _ _ _ _ _ _ rfl rfl ?_
    dsimp only [k_law_76, hN1, hB, hM1, hM, wpI, xop, xcall, xli, xlj, xlf, xld, xla, xlg, xst, xst2, xc1, pI, pJ, pF, pD, pR, pA, p1, p0, xpop, xpush, xsm, xhas, xif, xic, xsw, xai, xal, xhi, xhv, xrf, xret, xrtl, xrtf, xrtd, xrta, xrtv, xfit, xnew, cond_true, cond_false, f40, f41, f42, f43, List.length_cons, List.length_nil, Nat.reduceAdd, Nat.reduceSub, Nat.reduceMul, Nat.reduceBEq, List.map_cons, List.map_nil, List.headD_cons, List.getElem?_cons_zero, List.getElem?_cons_succ, List.set_cons_zero, List.set_cons_succ]
    exact hn _ _ _ _ _ _ _ (xwL_2 hw _ _) (by omega) (by omega) (LI_mk rfl (LJ_same lj (by omega)))
  · refine hK 74 _ _ _ _ _ _ rfl rfl ?_
    dsimp only [k_law_74, L9, tl9, List.set_cons_succ, hN1, hB, hM1, hM, wpI, xop, xcall, xli, xlj, xlf, xld, xla, xlg, xst, xst2, xc1, pI, pJ, pF, pD, pR, pA, p1, p0, xpop, xpush, xsm, xhas, xif, xic, xsw, xai, xal, xhi, xhv, xrf, xret, xrtl, xrtf, xrtd, xrta, xrtv, xfit, xnew, cond_true, cond_false, f40, f41, f42, f43, List.length_cons, List.length_nil, Nat.reduceAdd, Nat.reduceSub, Nat.reduceMul, Nat.reduceBEq, List.map_cons, List.map_nil, List.headD_cons, List.getElem?_cons_zero, List.getElem?_cons_succ, List.set_cons_zero, List.set_cons_succ]
    rw [hx, hy]
    refine ⟨v1, v2, ?_⟩
    refine Ev_of (ev_M_falls 15 x y (zB N V S C P sv tl has) (mOf N) B K' C O shapesN D laid tl sv many at' thr has (_ :: g) (st_mOf ok.1)) ?_
    intro v2 g2 h2
    obtain ⟨rfl, rfl⟩ := Mr_1 hz h2
    dsimp only [hN1, hB, hM1, hM, wpI, xop, xcall, xli, xlj, xlf, xld, xla, xlg, xst, xst2, xc1, pI, pJ, pF, pD, pR, pA, p1, p0, xpop, xpush, xsm, xhas, xif, xic, xsw, xai, xal, xhi, xhv, xrf, xret, xrtl, xrtf, xrtd, xrta, xrtv, xfit, xnew, cond_true, cond_false, f40, f41, f42, f43, List.length_cons, List.length_nil, Nat.reduceAdd, Nat.reduceSub, Nat.reduceMul, Nat.reduceBEq, List.map_cons, List.map_nil, List.headD_cons, List.getElem?_cons_zero, List.getElem?_cons_succ, List.set_cons_zero, List.set_cons_succ]
    refine Ev_use (ev_M_thrown 19 (zB N V S C P sv tl has) _ _ _ _ _ _ _ _ _ _ _ _ _ _ _) ?_
    dsimp only [hN1, hB, hM1, hM, wpI, xop, xcall, xli, xlj, xlf, xld, xla, xlg, xst, xst2, xc1, pI, pJ, pF, pD, pR, pA, p1, p0, xpop, xpush, xsm, xhas, xif, xic, xsw, xai, xal, xhi, xhv, xrf, xret, xrtl, xrtf, xrtd, xrta, xrtv, xfit, xnew, cond_true, cond_false, f40, f41, f42, f43, List.length_cons, List.length_nil, Nat.reduceAdd, Nat.reduceSub, Nat.reduceMul, Nat.reduceBEq, List.map_cons, List.map_nil, List.headD_cons, List.getElem?_cons_zero, List.getElem?_cons_succ, List.set_cons_zero, List.set_cons_succ]
    refine ⟨fun _ => ?_, fun z => absurd rfl z⟩
    refine hK 75 _ _ _ _ _ _ rfl rfl ?_
    dsimp only [k_law_75, hN1, hB, hM1, hM, wpI, xop, xcall, xli, xlj, xlf, xld, xla, xlg, xst, xst2, xc1, pI, pJ, pF, pD, pR, pA, p1, p0, xpop, xpush, xsm, xhas, xif, xic, xsw, xai, xal, xhi, xhv, xrf, xret, xrtl, xrtf, xrtd, xrta, xrtv, xfit, xnew, cond_true, cond_false, f40, f41, f42, f43, List.length_cons, List.length_nil, Nat.reduceAdd, Nat.reduceSub, Nat.reduceMul, Nat.reduceBEq, List.map_cons, List.map_nil, List.headD_cons, List.getElem?_cons_zero, List.getElem?_cons_succ, List.set_cons_zero, List.set_cons_succ]
    refine ⟨fun _ => ?_, fun z => absurd z (nI_z hz (hc9 ▸ cd3_lt _))⟩
    refine hK 76 _ _ _ _ _ _ rfl rfl ?_
    dsimp only [k_law_76, hN1, hB, hM1, hM, wpI, xop, xcall, xli, xlj, xlf, xld, xla, xlg, xst, xst2, xc1, pI, pJ, pF, pD, pR, pA, p1, p0, xpop, xpush, xsm, xhas, xif, xic, xsw, xai, xal, xhi, xhv, xrf, xret, xrtl, xrtf, xrtd, xrta, xrtv, xfit, xnew, cond_true, cond_false, f40, f41, f42, f43, List.length_cons, List.length_nil, Nat.reduceAdd, Nat.reduceSub, Nat.reduceMul, Nat.reduceBEq, List.map_cons, List.map_nil, List.headD_cons, List.getElem?_cons_zero, List.getElem?_cons_succ, List.set_cons_zero, List.set_cons_succ]
    exact hn _ _ _ _ _ _ _ (xwL_2 hw _ _) (by omega) (by omega) (LI_mk rfl (LJ_same lj (by omega)))

set_option maxRecDepth 100000 in
set_option maxHeartbeats 4000000 in
theorem c_append {K : xK} {lst : List Int32} (hK : HK lst K) (hC : HC K) {i x y : Int32} {a b e d : Option Value} {q c s : Nat} {h : xH} (v1 : vp_in (i + nI 1) lst.length) (v2 : vp_in (i + nI 2) lst.length) (hx : lst.getD (i + nI 1).toNatClampNeg 0 = x) (hy : lst.getD (i + nI 2).toNatClampNeg 0 = y)
    (hw : ∀ n, xwL n [a, b, e, d]) (hc : c + 200 ≤ 601024) (hs : s + 9000 ≤ 7293034) (li : LI q h) (hn : Nx K i q c s) : K 29 (L9 i a b e d) [] h c s := by
  obtain ⟨N, V, S, C, P, sv, tl, has, B, K', O, D, laid, many, at', thr, u, g, rfl, lj⟩ := li
  obtain ⟨ok, ⟨hV, hB, hsv, hrel⟩, ⟨hS, hK', hkeep⟩, ⟨hC6, hC7, htl⟩, hO, hD, hg⟩ := id lj
  have hc9 := app_code tl x
  refine hK 29 _ _ _ _ _ _ rfl rfl ?_
  dsimp only [k_law_29, L9, tl9, hN1, hB, hM1, hM, wpI, xop, xcall, xli, xlj, xlf, xld, xla, xlg, xst, xst2, xc1, pI, pJ, pF, pD, pR, pA, p1, p0, xpop, xpush, xsm, xhas, xif, xic, xsw, xai, xal, xhi, xhv, xrf, xret, xrtl, xrtf, xrtd, xrta, xrtv, xfit, xnew, cond_true, cond_false, f40, f41, f42, f43, List.length_cons, List.length_nil, Nat.reduceAdd, Nat.reduceSub, Nat.reduceMul, Nat.reduceBEq, List.map_cons, List.map_nil, List.headD_cons, List.getElem?_cons_zero, List.getElem?_cons_succ, List.set_cons_zero, List.set_cons_succ]
  rw [hx]
  refine ⟨v1, ?_⟩
  refine hC r_append (by simp [wR]) [.ref 0, .int x, .ref 15] [] (L9 i a b e d) _ c s _ rfl (by decide) (by show c + 1 ≤ _; omega) (by show s + 6 ≤ _; omega) (Nat.le_of_ble_eq_true rfl) (xwL_9 hw i (by simp only [List.length_cons]; omega)) trivial
    (w_append ⟨_, _, rfl⟩ (by simp only [List.length_cons]; omega) (ev_append 19 N V S C P sv tl has _ x hC6 htl) (wV_Ro (u := .long u) (l := []) rfl (fun z => by rw [← hc9, z]; rfl)) (xo_AS (appE_c tl x) hc9)) ?_
  intro v h' hq
  show K 31 (L9 i a b e d) (xpush v []) h' (c + 1) (s + 6)
  rcases hq with ⟨hz, rfl, rfl⟩ | ⟨hz, rfl, rfl⟩
  · have hE := cdAS_0 (hc9.trans hz)
    have hR := app_ok (u' := (nI (tl + 1)).toInt64) lj hE
    refine hK 31 _ _ _ _ _ _ rfl rfl ?_
    dsimp only [k_law_31, L9, tl9, List.set_cons_succ, hN1, hB, hM1, hM, wpI, xop, xcall, xli, xlj, xlf, xld, xla, xlg, xst, xst2, xc1, pI, pJ, pF, pD, pR, pA, p1, p0, xpop, xpush, xsm, xhas, xif, xic, xsw, xai, xal, xhi, xhv, xrf, xret, xrtl, xrtf, xrtd, xrta, xrtv, xfit, xnew, cond_true, cond_false, f40, f41, f42, f43, List.length_cons, List.length_nil, Nat.reduceAdd, Nat.reduceSub, Nat.reduceMul, Nat.reduceBEq, List.map_cons, List.map_nil, List.headD_cons, List.getElem?_cons_zero, List.getElem?_cons_succ, List.set_cons_zero, List.set_cons_succ]
    rw [hx]
    refine ⟨v1, ?_⟩
    refine Ev_of (ev_M_append 18 x (zB N V S (C.set tl x.toNatClampNeg) P sv (tl + 1) has) (mOf N) B K' C O shapesN D laid tl sv many at' thr has (_ :: g) hC6 htl) ?_
    intro v2 g2 h2
    obtain ⟨rfl, rfl⟩ := Mr_0 hz h2
    dsimp only [hN1, hB, hM1, hM, wpI, xop, xcall, xli, xlj, xlf, xld, xla, xlg, xst, xst2, xc1, pI, pJ, pF, pD, pR, pA, p1, p0, xpop, xpush, xsm, xhas, xif, xic, xsw, xai, xal, xhi, xhv, xrf, xret, xrtl, xrtf, xrtd, xrta, xrtv, xfit, xnew, cond_true, cond_false, f40, f41, f42, f43, List.length_cons, List.length_nil, Nat.reduceAdd, Nat.reduceSub, Nat.reduceMul, Nat.reduceBEq, List.map_cons, List.map_nil, List.headD_cons, List.getElem?_cons_zero, List.getElem?_cons_succ, List.set_cons_zero, List.set_cons_succ]
    refine Ev_use (ev_M_thrown 19 (zB N V S (C.set tl x.toNatClampNeg) P sv (tl + 1) has) _ _ _ _ _ _ _ _ _ _ _ _ _ _ _) ?_
    dsimp only [hN1, hB, hM1, hM, wpI, xop, xcall, xli, xlj, xlf, xld, xla, xlg, xst, xst2, xc1, pI, pJ, pF, pD, pR, pA, p1, p0, xpop, xpush, xsm, xhas, xif, xic, xsw, xai, xal, xhi, xhv, xrf, xret, xrtl, xrtf, xrtd, xrta, xrtv, xfit, xnew, cond_true, cond_false, f40, f41, f42, f43, List.length_cons, List.length_nil, Nat.reduceAdd, Nat.reduceSub, Nat.reduceMul, Nat.reduceBEq, List.map_cons, List.map_nil, List.headD_cons, List.getElem?_cons_zero, List.getElem?_cons_succ, List.set_cons_zero, List.set_cons_succ]
    refine ⟨fun _ => ?_, fun z => absurd rfl z⟩
    refine hK 32 _ _ _ _ _ _ rfl rfl ?_
    dsimp only [k_law_32, hN1, hB, hM1, hM, wpI, xop, xcall, xli, xlj, xlf, xld, xla, xlg, xst, xst2, xc1, pI, pJ, pF, pD, pR, pA, p1, p0, xpop, xpush, xsm, xhas, xif, xic, xsw, xai, xal, xhi, xhv, xrf, xret, xrtl, xrtf, xrtd, xrta, xrtv, xfit, xnew, cond_true, cond_false, f40, f41, f42, f43, List.length_cons, List.length_nil, Nat.reduceAdd, Nat.reduceSub, Nat.reduceMul, Nat.reduceBEq, List.map_cons, List.map_nil, List.headD_cons, List.getElem?_cons_zero, List.getElem?_cons_succ, List.set_cons_zero, List.set_cons_succ]
    refine ⟨fun z => absurd rfl z, fun _ => ⟨vp_in1, fun _ => ?_, fun z => absurd (lcmp_z hR.1) z⟩⟩
    refine hK 33 _ _ _ _ _ _ rfl rfl ?_
    dsimp only [k_law_33, hN1, hB, hM1, hM, wpI, xop, xcall, xli, xlj, xlf, xld, xla, xlg, xst, xst2, xc1, pI, pJ, pF, pD, pR, pA, p1, p0, xpop, xpush, xsm, xhas, xif, xic, xsw, xai, xal, xhi, xhv, xrf, xret, xrtl, xrtf, xrtd, xrta, xrtv, xfit, xnew, cond_true, cond_false, f40, f41, f42, f43, List.length_cons, List.length_nil, Nat.reduceAdd, Nat.reduceSub, Nat.reduceMul, Nat.reduceBEq, List.map_cons, List.map_nil, List.headD_cons, List.getElem?_cons_zero, List.getElem?_cons_succ, List.set_cons_zero, List.set_cons_succ]
    exact hn _ _ _ _ _ _ _ (xwL_2 hw _ _) (by omega) (by omega) (LI_mk rfl hR.2)
  · refine hK 31 _ _ _ _ _ _ rfl rfl ?_
    dsimp only [k_law_31, L9, tl9, List.set_cons_succ, hN1, hB, hM1, hM, wpI, xop, xcall, xli, xlj, xlf, xld, xla, xlg, xst, xst2, xc1, pI, pJ, pF, pD, pR, pA, p1, p0, xpop, xpush, xsm, xhas, xif, xic, xsw, xai, xal, xhi, xhv, xrf, xret, xrtl, xrtf, xrtd, xrta, xrtv, xfit, xnew, cond_true, cond_false, f40, f41, f42, f43, List.length_cons, List.length_nil, Nat.reduceAdd, Nat.reduceSub, Nat.reduceMul, Nat.reduceBEq, List.map_cons, List.map_nil, List.headD_cons, List.getElem?_cons_zero, List.getElem?_cons_succ, List.set_cons_zero, List.set_cons_succ]
    rw [hx]
    refine ⟨v1, ?_⟩
    refine Ev_of (ev_M_append 18 x (zB N V S C P sv tl has) (mOf N) B K' C O shapesN D laid tl sv many at' thr has (_ :: g) hC6 htl) ?_
    intro v2 g2 h2
    obtain ⟨rfl, rfl⟩ := Mr_1 hz h2
    dsimp only [hN1, hB, hM1, hM, wpI, xop, xcall, xli, xlj, xlf, xld, xla, xlg, xst, xst2, xc1, pI, pJ, pF, pD, pR, pA, p1, p0, xpop, xpush, xsm, xhas, xif, xic, xsw, xai, xal, xhi, xhv, xrf, xret, xrtl, xrtf, xrtd, xrta, xrtv, xfit, xnew, cond_true, cond_false, f40, f41, f42, f43, List.length_cons, List.length_nil, Nat.reduceAdd, Nat.reduceSub, Nat.reduceMul, Nat.reduceBEq, List.map_cons, List.map_nil, List.headD_cons, List.getElem?_cons_zero, List.getElem?_cons_succ, List.set_cons_zero, List.set_cons_succ]
    refine Ev_use (ev_M_thrown 19 (zB N V S C P sv tl has) _ _ _ _ _ _ _ _ _ _ _ _ _ _ _) ?_
    dsimp only [hN1, hB, hM1, hM, wpI, xop, xcall, xli, xlj, xlf, xld, xla, xlg, xst, xst2, xc1, pI, pJ, pF, pD, pR, pA, p1, p0, xpop, xpush, xsm, xhas, xif, xic, xsw, xai, xal, xhi, xhv, xrf, xret, xrtl, xrtf, xrtd, xrta, xrtv, xfit, xnew, cond_true, cond_false, f40, f41, f42, f43, List.length_cons, List.length_nil, Nat.reduceAdd, Nat.reduceSub, Nat.reduceMul, Nat.reduceBEq, List.map_cons, List.map_nil, List.headD_cons, List.getElem?_cons_zero, List.getElem?_cons_succ, List.set_cons_zero, List.set_cons_succ]
    refine ⟨fun _ => ?_, fun z => absurd rfl z⟩
    refine hK 32 _ _ _ _ _ _ rfl rfl ?_
    dsimp only [k_law_32, hN1, hB, hM1, hM, wpI, xop, xcall, xli, xlj, xlf, xld, xla, xlg, xst, xst2, xc1, pI, pJ, pF, pD, pR, pA, p1, p0, xpop, xpush, xsm, xhas, xif, xic, xsw, xai, xal, xhi, xhv, xrf, xret, xrtl, xrtf, xrtd, xrta, xrtv, xfit, xnew, cond_true, cond_false, f40, f41, f42, f43, List.length_cons, List.length_nil, Nat.reduceAdd, Nat.reduceSub, Nat.reduceMul, Nat.reduceBEq, List.map_cons, List.map_nil, List.headD_cons, List.getElem?_cons_zero, List.getElem?_cons_succ, List.set_cons_zero, List.set_cons_succ]
    refine ⟨fun _ => ?_, fun z => absurd z (nI_z hz (hc9 ▸ cdAS_lt _))⟩
    refine hK 33 _ _ _ _ _ _ rfl rfl ?_
    dsimp only [k_law_33, hN1, hB, hM1, hM, wpI, xop, xcall, xli, xlj, xlf, xld, xla, xlg, xst, xst2, xc1, pI, pJ, pF, pD, pR, pA, p1, p0, xpop, xpush, xsm, xhas, xif, xic, xsw, xai, xal, xhi, xhv, xrf, xret, xrtl, xrtf, xrtd, xrta, xrtv, xfit, xnew, cond_true, cond_false, f40, f41, f42, f43, List.length_cons, List.length_nil, Nat.reduceAdd, Nat.reduceSub, Nat.reduceMul, Nat.reduceBEq, List.map_cons, List.map_nil, List.headD_cons, List.getElem?_cons_zero, List.getElem?_cons_succ, List.set_cons_zero, List.set_cons_succ]
    exact hn _ _ _ _ _ _ _ (xwL_2 hw _ _) (by omega) (by omega) (LI_mk rfl (LJ_same lj (by omega)))
