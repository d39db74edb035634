section L4
variable {q : Nat} {N V S C : List Nat} {P : List Value} {sv tl : Nat} {has : Bool} {B K' O D : List Nat} {laid : Int32} {many at' thr : Nat} {u : Int64} {g : xH}
theorem clr_ok (lj : LJ q N V S C P sv tl has B K' O D laid many at' thr u g) {u' : Int64} : LJ (q + 6100) N V S C P sv 0 has B K' O D laid many at' 0 u' g := by
  have g1 := LJ_g lj (N' := mOf N) (B' := B) (K2 := K') (T' := C) (O' := O) (D' := D) (laid' := laid) (len' := 0) (st' := sv) (many' := many) (at2 := at') (thr' := 0) (isK' := has) (u' := u')
  obtain ⟨h1, h2, h3, ⟨h6, h7, h8⟩, h9, h10, -⟩ := LJ_le lj (Nat.le_add_right q 6100)
  exact ⟨h1, h2, h3, ⟨h6, h7, by omega⟩, h9, h10, g1⟩
theorem keep_ok (lj : LJ q N V S C P sv tl has B K' O D laid many at' thr u g) {u' : Int64} : LJ (q + 6100) N V N C P sv tl true B (cpK (mOf N) 19 0 K') O D laid many at' 0 u' g := by
  have g1 := LJ_g lj (N' := mOf N) (B' := B) (K2 := cpK (mOf N) 19 0 K') (T' := C) (O' := O) (D' := D) (laid' := laid) (len' := tl) (st' := sv) (many' := many) (at2 := at') (thr' := 0) (isK' := true) (u' := u')
  obtain ⟨h1, h2, ⟨h3, h4, h5⟩, h6, h9, h10, -⟩ := LJ_le lj (Nat.le_add_right q 6100)
  have e : cpK (mOf N) 19 0 K' = mOf N := cpK_all (mOf_len N) h4
  rw [e] at g1 ⊢
  exact ⟨h1, h2, ⟨h1.1.1, mOf_len N, fun _ => ⟨h1, rfl⟩⟩, h6, h9, h10, g1⟩
end L4
theorem swap_rel {N : List Nat} (hN : N.length = 18) : mOf (swapN N) = ((mOf N).set 0 (mirN ((mOf N).getD 0 0))).set 1 (1 - (mOf N).getD 1 0) := by
  unfold swapN
  rw [set1_rel (List.length_set.trans hN), set0_rel hN]
  rfl
theorem fill_rel {N : List Nat} (hN : N.length = 18) : mOf (fillN N) = fillN (mOf N) := by
  unfold fillN
  rw [set1_rel (List.length_set.trans hN), set0_rel hN]
section DIR
variable {K : xK} {lst : List Int32} {i : Int32} {a b e d : Option Value} {q c s : Nat} {h : xH}
set_option maxRecDepth 100000 in
set_option maxHeartbeats 4000000 in
theorem c_mirror (hK : HK lst K) (hw : ∀ n, xwL n [a, b, e, d]) (hc : c + 200 ≤ 601024) (hs : s + 9000 ≤ 7293034) (li : LI q h) (hn : Nx K i q c s) : K 22 (L9 i a b e d) [] h c s := by
  obtain ⟨N, V, S, C, P, sv, tl, has, B, K', O, D, laid, many, at', thr, u, g, rfl, lj⟩ := li
  obtain ⟨ok, ⟨hV, hB, hsv, hrel⟩, ⟨hS, hK', hkeep⟩, ⟨hC6, hC7, htl⟩, hO, hD, hg⟩ := id lj
  refine hK 22 _ _ _ _ _ _ rfl rfl ?_
  dsimp only [k_law_22, L9, tl9, hN1, hB, hM1, hM, wpI, xop, xcall, xli, xlj, xlf, xld, xla, xlg, xst, xst2, xc1, pI, pJ, pF, pD, pR, pA, p1, p0, xpop, xpush, xsm, xhas, xif, xic, xsw, xai, xal, xhi, xhv, xrf, xret, xrtl, xrtf, xrtd, xrta, xrtv, xfit, xnew, cond_true, cond_false, f40, f41, f42, f43, List.length_cons, List.length_nil, Nat.reduceAdd, Nat.reduceSub, Nat.reduceMul, Nat.reduceBEq, List.map_cons, List.map_nil, List.headD_cons, List.getElem?_cons_zero, List.getElem?_cons_succ, List.set_cons_zero, List.set_cons_succ]
  refine Ev_use (ev_mirror 15 N V S C P sv tl has _ ok.1 hV hsv) ?_
  dsimp only [hN1, hB, hM1, hM, wpI, xop, xcall, xli, xlj, xlf, xld, xla, xlg, xst, xst2, xc1, pI, pJ, pF, pD, pR, pA, p1, p0, xpop, xpush, xsm, xhas, xif, xic, xsw, xai, xal, xhi, xhv, xrf, xret, xrtl, xrtf, xrtd, xrta, xrtv, xfit, xnew, cond_true, cond_false, f40, f41, f42, f43, List.length_cons, List.length_nil, Nat.reduceAdd, Nat.reduceSub, Nat.reduceMul, Nat.reduceBEq, List.map_cons, List.map_nil, List.headD_cons, List.getElem?_cons_zero, List.getElem?_cons_succ, List.set_cons_zero, List.set_cons_succ]
  refine Ev_use (ev_M_mirror 14 (zB (swapN N) (saveV N V sv) S C P (saveS sv) tl has) (mOf N) B K' C O shapesN D laid tl sv many at' thr has (_ :: g) (st_mOf ok.1) hB hsv) ?_
  dsimp only [hN1, hB, hM1, hM, wpI, xop, xcall, xli, xlj, xlf, xld, xla, xlg, xst, xst2, xc1, pI, pJ, pF, pD, pR, pA, p1, p0, xpop, xpush, xsm, xhas, xif, xic, xsw, xai, xal, xhi, xhv, xrf, xret, xrtl, xrtf, xrtd, xrta, xrtv, xfit, xnew, cond_true, cond_false, f40, f41, f42, f43, List.length_cons, List.length_nil, Nat.reduceAdd, Nat.reduceSub, Nat.reduceMul, Nat.reduceBEq, List.map_cons, List.map_nil, List.headD_cons, List.getElem?_cons_zero, List.getElem?_cons_succ, List.set_cons_zero, List.set_cons_succ]
  refine ⟨fun _ => ?_, fun z => absurd rfl z⟩
  exact hn _ _ _ _ _ _ _ hw (by omega) (by omega) (LI_mk (swap_rel ok.1.1) (LJ_new lj (by omega) (okG_le (okG_swap ok) (by omega))))
set_option maxRecDepth 100000 in
set_option maxHeartbeats 4000000 in
theorem c_refill (hK : HK lst K) (hw : ∀ n, xwL n [a, b, e, d]) (hc : c + 200 ≤ 601024) (hs : s + 9000 ≤ 7293034) (li : LI q h) (hn : Nx K i q c s) : K 23 (L9 i a b e d) [] h c s := by
  obtain ⟨N, V, S, C, P, sv, tl, has, B, K', O, D, laid, many, at', thr, u, g, rfl, lj⟩ := li
  obtain ⟨ok, ⟨hV, hB, hsv, hrel⟩, ⟨hS, hK', hkeep⟩, ⟨hC6, hC7, htl⟩, hO, hD, hg⟩ := id lj
  refine hK 23 _ _ _ _ _ _ rfl rfl ?_
  dsimp only [k_law_23, L9, tl9, hN1, hB, hM1, hM, wpI, xop, xcall, xli, xlj, xlf, xld, xla, xlg, xst, xst2, xc1, pI, pJ, pF, pD, pR, pA, p1, p0, xpop, xpush, xsm, xhas, xif, xic, xsw, xai, xal, xhi, xhv, xrf, xret, xrtl, xrtf, xrtd, xrta, xrtv, xfit, xnew, cond_true, cond_false, f40, f41, f42, f43, List.length_cons, List.length_nil, Nat.reduceAdd, Nat.reduceSub, Nat.reduceMul, Nat.reduceBEq, List.map_cons, List.map_nil, List.headD_cons, List.getElem?_cons_zero, List.getElem?_cons_succ, List.set_cons_zero, List.set_cons_succ]
  refine Ev_use (ev_refill 15 N V S C P sv tl has _ ok.1 hV hsv) ?_
  dsimp only [hN1, hB, hM1, hM, wpI, xop, xcall, xli, xlj, xlf, xld, xla, xlg, xst, xst2, xc1, pI, pJ, pF, pD, pR, pA, p1, p0, xpop, xpush, xsm, xhas, xif, xic, xsw, xai, xal, xhi, xhv, xrf, xret, xrtl, xrtf, xrtd, xrta, xrtv, xfit, xnew, cond_true, cond_false, f40, f41, f42, f43, List.length_cons, List.length_nil, Nat.reduceAdd, Nat.reduceSub, Nat.reduceMul, Nat.reduceBEq, List.map_cons, List.map_nil, List.headD_cons, List.getElem?_cons_zero, List.getElem?_cons_succ, List.set_cons_zero, List.set_cons_succ]
  refine Ev_use (ev_M_refill 14 (zB (fillN N) (saveV N V sv) S C P (saveS sv) tl has) (mOf N) B K' C O shapesN D laid tl sv many at' thr has (_ :: g) (st_mOf ok.1) hB hsv) ?_
  dsimp only [hN1, hB, hM1, hM, wpI, xop, xcall, xli, xlj, xlf, xld, xla, xlg, xst, xst2, xc1, pI, pJ, pF, pD, pR, pA, p1, p0, xpop, xpush, xsm, xhas, xif, xic, xsw, xai, xal, xhi, xhv, xrf, xret, xrtl, xrtf, xrtd, xrta, xrtv, xfit, xnew, cond_true, cond_false, f40, f41, f42, f43, List.length_cons, List.length_nil, Nat.reduceAdd, Nat.reduceSub, Nat.reduceMul, Nat.reduceBEq, List.map_cons, List.map_nil, List.headD_cons, List.getElem?_cons_zero, List.getElem?_cons_succ, List.set_cons_zero, List.set_cons_succ]
  refine ⟨fun _ => ?_, fun z => absurd rfl z⟩
  exact hn _ _ _ _ _ _ _ hw (by omega) (by omega) (LI_mk (fill_rel ok.1.1) (LJ_new lj (by omega) (okG_le (okG_fill ok) (by omega))))
set_option maxRecDepth 100000 in
set_option maxHeartbeats 4000000 in
theorem c_clear (hK : HK lst K) (hw : ∀ n, xwL n [a, b, e, d]) (hc : c + 200 ≤ 601024) (hs : s + 9000 ≤ 7293034) (li : LI q h) (hn : Nx K i q c s) : K 34 (L9 i a b e d) [] h c s := by
  obtain ⟨N, V, S, C, P, sv, tl, has, B, K', O, D, laid, many, at', thr, u, g, rfl, lj⟩ := li
  refine hK 34 _ _ _ _ _ _ rfl rfl ?_
  dsimp only [k_law_34, L9, tl9, hN1, hB, hM1, hM, wpI, xop, xcall, xli, xlj, xlf, xld, xla, xlg, xst, xst2, xc1, pI, pJ, pF, pD, pR, pA, p1, p0, xpop, xpush, xsm, xhas, xif, xic, xsw, xai, xal, xhi, xhv, xrf, xret, xrtl, xrtf, xrtd, xrta, xrtv, xfit, xnew, cond_true, cond_false, f40, f41, f42, f43, List.length_cons, List.length_nil, Nat.reduceAdd, Nat.reduceSub, Nat.reduceMul, Nat.reduceBEq, List.map_cons, List.map_nil, List.headD_cons, List.getElem?_cons_zero, List.getElem?_cons_succ, List.set_cons_zero, List.set_cons_succ]
  refine Ev_use (ev_clearBuffer 19 N V S C P sv tl has _) ?_
  dsimp only [hN1, hB, hM1, hM, wpI, xop, xcall, xli, xlj, xlf, xld, xla, xlg, xst, xst2, xc1, pI, pJ, pF, pD, pR, pA, p1, p0, xpop, xpush, xsm, xhas, xif, xic, xsw, xai, xal, xhi, xhv, xrf, xret, xrtl, xrtf, xrtd, xrta, xrtv, xfit, xnew, cond_true, cond_false, f40, f41, f42, f43, List.length_cons, List.length_nil, Nat.reduceAdd, Nat.reduceSub, Nat.reduceMul, Nat.reduceBEq, List.map_cons, List.map_nil, List.headD_cons, List.getElem?_cons_zero, List.getElem?_cons_succ, List.set_cons_zero, List.set_cons_succ]
  refine Ev_use (ev_M_clearBuffer 19 (zB N V S C P sv 0 has) (mOf N) B K' C O shapesN D laid tl sv many at' thr has (_ :: g)) ?_
  dsimp only [hN1, hB, hM1, hM, wpI, xop, xcall, xli, xlj, xlf, xld, xla, xlg, xst, xst2, xc1, pI, pJ, pF, pD, pR, pA, p1, p0, xpop, xpush, xsm, xhas, xif, xic, xsw, xai, xal, xhi, xhv, xrf, xret, xrtl, xrtf, xrtd, xrta, xrtv, xfit, xnew, cond_true, cond_false, f40, f41, f42, f43, List.length_cons, List.length_nil, Nat.reduceAdd, Nat.reduceSub, Nat.reduceMul, Nat.reduceBEq, List.map_cons, List.map_nil, List.headD_cons, List.getElem?_cons_zero, List.getElem?_cons_succ, List.set_cons_zero, List.set_cons_succ]
  refine ⟨fun _ => ?_, fun z => absurd rfl z⟩
  exact hn _ _ _ _ _ _ _ hw (by omega) (by omega) (LI_mk rfl (clr_ok lj))
set_option maxRecDepth 100000 in
set_option maxHeartbeats 4000000 in
theorem c_error (hK : HK lst K) (hw : ∀ n, xwL n [a, b, e, d]) (hc : c + 200 ≤ 601024) (hs : s + 9000 ≤ 7293034) (li : LI q h) (hn : Nx K i q c s) : K 35 (L9 i a b e d) [] h c s := by
  obtain ⟨N, V, S, C, P, sv, tl, has, B, K', O, D, laid, many, at', thr, u, g, rfl, lj⟩ := li
  obtain ⟨ok, ⟨hV, hB, hsv, hrel⟩, ⟨hS, hK', hkeep⟩, ⟨hC6, hC7, htl⟩, hO, hD, hg⟩ := id lj
  refine hK 35 _ _ _ _ _ _ rfl rfl ?_
  dsimp only [k_law_35, L9, tl9, hN1, hB, hM1, hM, wpI, xop, xcall, xli, xlj, xlf, xld, xla, xlg, xst, xst2, xc1, pI, pJ, pF, pD, pR, pA, p1, p0, xpop, xpush, xsm, xhas, xif, xic, xsw, xai, xal, xhi, xhv, xrf, xret, xrtl, xrtf, xrtd, xrta, xrtv, xfit, xnew, cond_true, cond_false, f40, f41, f42, f43, List.length_cons, List.length_nil, Nat.reduceAdd, Nat.reduceSub, Nat.reduceMul, Nat.reduceBEq, List.map_cons, List.map_nil, List.headD_cons, List.getElem?_cons_zero, List.getElem?_cons_succ, List.set_cons_zero, List.set_cons_succ]
  refine Ev_use (ev_firstError 17 N V S C P sv tl has _ hC6 (fun j => Nat.lt_trans (hC7 j) (by decide)) htl) ?_
  dsimp only [hN1, hB, hM1, hM, wpI, xop, xcall, xli, xlj, xlf, xld, xla, xlg, xst, xst2, xc1, pI, pJ, pF, pD, pR, pA, p1, p0, xpop, xpush, xsm, xhas, xif, xic, xsw, xai, xal, xhi, xhv, xrf, xret, xrtl, xrtf, xrtd, xrta, xrtv, xfit, xnew, cond_true, cond_false, f40, f41, f42, f43, List.length_cons, List.length_nil, Nat.reduceAdd, Nat.reduceSub, Nat.reduceMul, Nat.reduceBEq, List.map_cons, List.map_nil, List.headD_cons, List.getElem?_cons_zero, List.getElem?_cons_succ, List.set_cons_zero, List.set_cons_succ]
  refine Ev_use (ev_M_firstError 15 (zB N V S C P sv tl has) (mOf N) B K' C O shapesN D laid tl sv many at' thr has (_ :: g) hC6 hC7 htl hO) ?_
  dsimp only [hN1, hB, hM1, hM, wpI, xop, xcall, xli, xlj, xlf, xld, xla, xlg, xst, xst2, xc1, pI, pJ, pF, pD, pR, pA, p1, p0, xpop, xpush, xsm, xhas, xif, xic, xsw, xai, xal, xhi, xhv, xrf, xret, xrtl, xrtf, xrtd, xrta, xrtv, xfit, xnew, cond_true, cond_false, f40, f41, f42, f43, List.length_cons, List.length_nil, Nat.reduceAdd, Nat.reduceSub, Nat.reduceMul, Nat.reduceBEq, List.map_cons, List.map_nil, List.headD_cons, List.getElem?_cons_zero, List.getElem?_cons_succ, List.set_cons_zero, List.set_cons_succ]
  have hR : nI (feN C tl 0 (some 0)) = nI (icF C tl O).2.1 := by rw [(text_rel O htl).1]
  refine ⟨fun _ => ?_, fun z => absurd hR z⟩
  exact hn _ _ _ _ _ _ _ hw (by omega) (by omega) (LI_mk rfl (obey_no lj))
set_option maxRecDepth 100000 in
set_option maxHeartbeats 4000000 in
theorem c_keep (hK : HK lst K) (hw : ∀ n, xwL n [a, b, e, d]) (hc : c + 200 ≤ 601024) (hs : s + 9000 ≤ 7293034) (li : LI q h) (hn : Nx K i q c s) : K 41 (L9 i a b e d) [] h c s := by
  obtain ⟨N, V, S, C, P, sv, tl, has, B, K', O, D, laid, many, at', thr, u, g, rfl, lj⟩ := li
  obtain ⟨ok, ⟨hV, hB, hsv, hrel⟩, ⟨hS, hK', hkeep⟩, ⟨hC6, hC7, htl⟩, hO, hD, hg⟩ := id lj
  refine hK 41 _ _ _ _ _ _ rfl rfl ?_
  dsimp only [k_law_41, L9, tl9, hN1, hB, hM1, hM, wpI, xop, xcall, xli, xlj, xlf, xld, xla, xlg, xst, xst2, xc1, pI, pJ, pF, pD, pR, pA, p1, p0, xpop, xpush, xsm, xhas, xif, xic, xsw, xai, xal, xhi, xhv, xrf, xret, xrtl, xrtf, xrtd, xrta, xrtv, xfit, xnew, cond_true, cond_false, f40, f41, f42, f43, List.length_cons, List.length_nil, Nat.reduceAdd, Nat.reduceSub, Nat.reduceMul, Nat.reduceBEq, List.map_cons, List.map_nil, List.headD_cons, List.getElem?_cons_zero, List.getElem?_cons_succ, List.set_cons_zero, List.set_cons_succ]
  refine Ev_use (ev_keep 19 N V S C P sv tl has _ ok.1.1 hS) ?_
  dsimp only [hN1, hB, hM1, hM, wpI, xop, xcall, xli, xlj, xlf, xld, xla, xlg, xst, xst2, xc1, pI, pJ, pF, pD, pR, pA, p1, p0, xpop, xpush, xsm, xhas, xif, xic, xsw, xai, xal, xhi, xhv, xrf, xret, xrtl, xrtf, xrtd, xrta, xrtv, xfit, xnew, cond_true, cond_false, f40, f41, f42, f43, List.length_cons, List.length_nil, Nat.reduceAdd, Nat.reduceSub, Nat.reduceMul, Nat.reduceBEq, List.map_cons, List.map_nil, List.headD_cons, List.getElem?_cons_zero, List.getElem?_cons_succ, List.set_cons_zero, List.set_cons_succ]
  refine Ev_use (ev_M_keep 19 (zB N V N C P sv tl true) (mOf N) B K' C O shapesN D laid tl sv many at' thr has (_ :: g) (mOf_len N) hK') ?_
  dsimp only [hN1, hB, hM1, hM, wpI, xop, xcall, xli, xlj, xlf, xld, xla, xlg, xst, xst2, xc1, pI, pJ, pF, pD, pR, pA, p1, p0, xpop, xpush, xsm, xhas, xif, xic, xsw, xai, xal, xhi, xhv, xrf, xret, xrtl, xrtf, xrtd, xrta, xrtv, xfit, xnew, cond_true, cond_false, f40, f41, f42, f43, List.length_cons, List.length_nil, Nat.reduceAdd, Nat.reduceSub, Nat.reduceMul, Nat.reduceBEq, List.map_cons, List.map_nil, List.headD_cons, List.getElem?_cons_zero, List.getElem?_cons_succ, List.set_cons_zero, List.set_cons_succ]
  refine ⟨fun _ => ?_, fun z => absurd rfl z⟩
  exact hn _ _ _ _ _ _ _ hw (by omega) (by omega) (LI_mk rfl (keep_ok lj))
set_option maxRecDepth 100000 in
set_option maxHeartbeats 4000000 in
theorem c_best (hK : HK lst K) (hw : ∀ n, xwL n [a, b, e, d]) (hc : c + 200 ≤ 601024) (hs : s + 9000 ≤ 7293034) (li : LI q h) (hn : Nx K i q c s) : K 82 (L9 i a b e d) [] h c s := by
  obtain ⟨N, V, S, C, P, sv, tl, has, B, K', O, D, laid, many, at', thr, u, g, rfl, lj⟩ := li
  obtain ⟨ok, ⟨hV, hB, hsv, hrel⟩, ⟨hS, hK', hkeep⟩, ⟨hC6, hC7, htl⟩, hO, hD, hg⟩ := id lj
  obtain ⟨w, hw9, -, hm9⟩ := shp_of ok.2.1
  have ht9 := td_use (st_mOf ok.1) hD
  refine hK 82 _ _ _ _ _ _ rfl rfl ?_
  dsimp only [k_law_82, L9, tl9, hN1, hB, hM1, hM, wpI, xop, xcall, xli, xlj, xlf, xld, xla, xlg, xst, xst2, xc1, pI, pJ, pF, pD, pR, pA, p1, p0, xpop, xpush, xsm, xhas, xif, xic, xsw, xai, xal, xhi, xhv, xrf, xret, xrtl, xrtf, xrtd, xrta, xrtv, xfit, xnew, cond_true, cond_false, f40, f41, f42, f43, List.length_cons, List.length_nil, Nat.reduceAdd, Nat.reduceSub, Nat.reduceMul, Nat.reduceBEq, List.map_cons, List.map_nil, List.headD_cons, List.getElem?_cons_zero, List.getElem?_cons_succ, List.set_cons_zero, List.set_cons_succ]
  refine ⟨rfl, by omega, by omega, xwL_9 hw i (by omega), trivial, ?_⟩
  refine Ev_of (ev_best 14 N V S C P sv tl has _ ok.1 hg) ?_
  rintro v h' ⟨-, rfl, P', g', rfl, gk, k, rfl⟩
  dsimp only [tl9, List.cons_append, hN1, hB, hM1, hM, wpI, xop, xcall, xli, xlj, xlf, xld, xla, xlg, xst, xst2, xc1, pI, pJ, pF, pD, pR, pA, p1, p0, xpop, xpush, xsm, xhas, xif, xic, xsw, xai, xal, xhi, xhv, xrf, xret, xrtl, xrtf, xrtd, xrta, xrtv, xfit, xnew, cond_true, cond_false, f40, f41, f42, f43, List.length_cons, List.length_nil, Nat.reduceAdd, Nat.reduceSub, Nat.reduceMul, Nat.reduceBEq, List.map_cons, List.map_nil, List.headD_cons, List.getElem?_cons_zero, List.getElem?_cons_succ, List.set_cons_zero, List.set_cons_succ]
  refine Ev_use (ev_M_best 12 w (zB N V S C P' sv tl has) (mOf N) B K' C O D laid tl sv many at' thr has (_ :: (g ++ k)) (st_mOf ok.1) hD.1 hD.2.1 hw9 hm9) ?_
  dsimp only [hN1, hB, hM1, hM, wpI, xop, xcall, xli, xlj, xlf, xld, xla, xlg, xst, xst2, xc1, pI, pJ, pF, pD, pR, pA, p1, p0, xpop, xpush, xsm, xhas, xif, xic, xsw, xai, xal, xhi, xhv, xrf, xret, xrtl, xrtf, xrtd, xrta, xrtv, xfit, xnew, cond_true, cond_false, f40, f41, f42, f43, List.length_cons, List.length_nil, Nat.reduceAdd, Nat.reduceSub, Nat.reduceMul, Nat.reduceBEq, List.map_cons, List.map_nil, List.headD_cons, List.getElem?_cons_zero, List.getElem?_cons_succ, List.set_cons_zero, List.set_cons_succ]
  refine ⟨fun _ => ?_, fun z => absurd (best_rel ok.1 ok.2.1 hw9 hm9 ht9.1) z⟩
  exact hn _ _ _ _ _ _ _ hw (by omega) (by omega) (LI_mk rfl (LJ_pl lj gk ht9.2.2))
set_option maxRecDepth 100000 in
set_option maxHeartbeats 4000000 in
theorem c_broken (hK : HK lst K) (hw : ∀ n, xwL n [a, b, e, d]) (hc : c + 200 ≤ 601024) (hs : s + 9000 ≤ 7293034) (li : LI q h) (hn : Nx K i q c s) : K 93 (L9 i a b e d) [] h c s := by
  obtain ⟨N, V, S, C, P, sv, tl, has, B, K', O, D, laid, many, at', thr, u, g, rfl, lj⟩ := li
  obtain ⟨ok, ⟨hV, hB, hsv, hrel⟩, ⟨hS, hK', hkeep⟩, ⟨hC6, hC7, htl⟩, hO, hD, hg⟩ := id lj
  refine hK 93 _ _ _ _ _ _ rfl rfl ?_
  dsimp only [k_law_93, L9, tl9, hN1, hB, hM1, hM, wpI, xop, xcall, xli, xlj, xlf, xld, xla, xlg, xst, xst2, xc1, pI, pJ, pF, pD, pR, pA, p1, p0, xpop, xpush, xsm, xhas, xif, xic, xsw, xai, xal, xhi, xhv, xrf, xret, xrtl, xrtf, xrtd, xrta, xrtv, xfit, xnew, cond_true, cond_false, f40, f41, f42, f43, List.length_cons, List.length_nil, Nat.reduceAdd, Nat.reduceSub, Nat.reduceMul, Nat.reduceBEq, List.map_cons, List.map_nil, List.headD_cons, List.getElem?_cons_zero, List.getElem?_cons_succ, List.set_cons_zero, List.set_cons_succ]
  refine Ev_use (ev_brokenShare 18 N _ _ ok.1.1) ?_
  dsimp only [hN1, hB, hM1, hM, wpI, xop, xcall, xli, xlj, xlf, xld, xla, xlg, xst, xst2, xc1, pI, pJ, pF, pD, pR, pA, p1, p0, xpop, xpush, xsm, xhas, xif, xic, xsw, xai, xal, xhi, xhv, xrf, xret, xrtl, xrtf, xrtd, xrta, xrtv, xfit, xnew, cond_true, cond_false, f40, f41, f42, f43, List.length_cons, List.length_nil, Nat.reduceAdd, Nat.reduceSub, Nat.reduceMul, Nat.reduceBEq, List.map_cons, List.map_nil, List.headD_cons, List.getElem?_cons_zero, List.getElem?_cons_succ, List.set_cons_zero, List.set_cons_succ]
  refine Ev_use (ev_M_brokenShare 19 (zB N V S C P sv tl has) (mOf N) B K' C O shapesN D laid tl sv many at' thr has (_ :: g) (mOf_len N)) ?_
  dsimp only [hN1, hB, hM1, hM, wpI, xop, xcall, xli, xlj, xlf, xld, xla, xlg, xst, xst2, xc1, pI, pJ, pF, pD, pR, pA, p1, p0, xpop, xpush, xsm, xhas, xif, xic, xsw, xai, xal, xhi, xhv, xrf, xret, xrtl, xrtf, xrtd, xrta, xrtv, xfit, xnew, cond_true, cond_false, f40, f41, f42, f43, List.length_cons, List.length_nil, Nat.reduceAdd, Nat.reduceSub, Nat.reduceMul, Nat.reduceBEq, List.map_cons, List.map_nil, List.headD_cons, List.getElem?_cons_zero, List.getElem?_cons_succ, List.set_cons_zero, List.set_cons_succ]
  have hR : bsF ((mOf N).getD 4 0) ((mOf N).getD 4 0 + (mOf N).getD 2 0 + (mOf N).getD 3 0) = bsF (brkS N 5 0 0) (brkS N 5 0 0 + N.getD 16 0 + N.getD 17 0) := by
    rw [brk_e]
    rfl
  rw [hR]
  generalize bsF (brkS N 5 0 0) (brkS N 5 0 0 + N.getD 16 0 + N.getD 17 0) = y
  have go : K 95 [some (.ref 1001), some (.ref 0), some (.ref 7), some (.ref 15), some (.int i), some (.double y), none, some (.double y), none] [] (hM (zB N V S C P sv tl has) (mOf N) B K' C O shapesN D laid tl sv many at' 0 has ((3, [], [.long u]) :: g)) c s := by
    refine hK 95 _ _ _ _ _ _ rfl rfl ?_
    dsimp only [k_law_95, hN1, hB, hM1, hM, wpI, xop, xcall, xli, xlj, xlf, xld, xla, xlg, xst, xst2, xc1, pI, pJ, pF, pD, pR, pA, p1, p0, xpop, xpush, xsm, xhas, xif, xic, xsw, xai, xal, xhi, xhv, xrf, xret, xrtl, xrtf, xrtd, xrta, xrtv, xfit, xnew, cond_true, cond_false, f40, f41, f42, f43, List.length_cons, List.length_nil, Nat.reduceAdd, Nat.reduceSub, Nat.reduceMul, Nat.reduceBEq, List.map_cons, List.map_nil, List.headD_cons, List.getElem?_cons_zero, List.getElem?_cons_succ, List.set_cons_zero, List.set_cons_succ]
    exact hn _ _ _ _ _ _ _ (fun n => ⟨trivial, trivial, trivial⟩) (by omega) (by omega) (LI_mk rfl (LJ_same lj (by omega)))
  refine ⟨fun _ => go, fun z => ⟨fun z2 => absurd z2 z, fun _ => ⟨fun _ => go, fun z3 => absurd z3 z⟩⟩⟩
end DIR
