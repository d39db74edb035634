section DIR2
variable {K : xK} {lst : List Int32} {i : Int32} {a b e d : Option Value} {q c s : Nat} {h : xH}
set_option maxRecDepth 100000 in
set_option maxHeartbeats 4000000 in
theorem c_won (hK : HK lst K) (hw : ∀ n, xwL n [a, b, e, d]) (hc : c + 200 ≤ 601024) (hs : s + 9000 ≤ 7293034) (li : LI q h) (hn : Nx K i q c s) : K 96 (L9 i a b e d) [] h c s := by
  obtain ⟨N, V, S, C, P, sv, tl, has, B, K', O, D, laid, many, at', thr, u, g, rfl, lj⟩ := li
  obtain ⟨ok, ⟨hV, hB, hsv, hrel⟩, ⟨hS, hK', hkeep⟩, ⟨hC6, hC7, htl⟩, hO, hD, hg⟩ := id lj
  have ht9 := td_use (st_mOf ok.1) hD
  have hR : cW (plN N) (N.getD 1 0) 132 0 0 = myL (laD (mOf N) laid D) (1 + (mOf N).getD 1 0) 132 0 0 := cW_rel ht9.1 (N.getD 1 0) ok.1.2.2.1 132 0 0 rfl
  have hle : cW (plN N) (N.getD 1 0) 132 0 0 ≤ 132 := by
    have := cW_le (plN N) (N.getD 1 0) 132 0 0
    omega
  refine hK 96 _ _ _ _ _ _ rfl rfl ?_
  dsimp only [k_law_96, L9, tl9, hN1, hB, hM1, hM, wpI, xop, xcall, xli, xlj, xlf, xld, xla, xlg, xst, xst2, xc1, pI, pJ, pF, pD, pR, pA, p1, p0, xpop, xpush, xsm, xhas, xif, xic, xsw, xai, xal, xhi, xhv, xrf, xret, xrtl, xrtf, xrtd, xrta, xrtv, xfit, xnew, cond_true, cond_false, f40, f41, f42, f43, List.length_cons, List.length_nil, Nat.reduceAdd, Nat.reduceSub, Nat.reduceMul, Nat.reduceBEq, List.map_cons, List.map_nil, List.headD_cons, List.getElem?_cons_zero, List.getElem?_cons_succ, List.set_cons_zero, List.set_cons_succ]
  refine ⟨rfl, by omega, by omega, xwL_9 hw i (by omega), trivial, ?_⟩
  refine Ev_of (ev_wonShare 14 N V S C P sv tl has _ ok.1 hg) ?_
  rintro v h' ⟨-, rfl, P', g', rfl, gk, k, rfl⟩
  dsimp only [tl9, List.cons_append, hN1, hB, hM1, hM, wpI, xop, xcall, xli, xlj, xlf, xld, xla, xlg, xst, xst2, xc1, pI, pJ, pF, pD, pR, pA, p1, p0, xpop, xpush, xsm, xhas, xif, xic, xsw, xai, xal, xhi, xhv, xrf, xret, xrtl, xrtf, xrtd, xrta, xrtv, xfit, xnew, cond_true, cond_false, f40, f41, f42, f43, List.length_cons, List.length_nil, Nat.reduceAdd, Nat.reduceSub, Nat.reduceMul, Nat.reduceBEq, List.map_cons, List.map_nil, List.headD_cons, List.getElem?_cons_zero, List.getElem?_cons_succ, List.set_cons_zero, List.set_cons_succ]
  refine ⟨f2d_n hle, ?_⟩
  refine Ev_use (ev_M_wonShare 11 (zB N V S C P' sv tl has) (mOf N) B K' C O D (laD (mOf N) laid D) laid tl sv many at' thr has (_ :: (g ++ k)) (st_mOf ok.1) ⟨rfl, hD.1, hD.2.1⟩ ht9.2.1) ?_
  dsimp only [hN1, hB, hM1, hM, wpI, xop, xcall, xli, xlj, xlf, xld, xla, xlg, xst, xst2, xc1, pI, pJ, pF, pD, pR, pA, p1, p0, xpop, xpush, xsm, xhas, xif, xic, xsw, xai, xal, xhi, xhv, xrf, xret, xrtl, xrtf, xrtd, xrta, xrtv, xfit, xnew, cond_true, cond_false, f40, f41, f42, f43, List.length_cons, List.length_nil, Nat.reduceAdd, Nat.reduceSub, Nat.reduceMul, Nat.reduceBEq, List.map_cons, List.map_nil, List.headD_cons, List.getElem?_cons_zero, List.getElem?_cons_succ, List.set_cons_zero, List.set_cons_succ]
  rw [← hR]
  refine ⟨f2d_n hle, ?_⟩
  generalize FP.f2d (wsF (cW (plN N) (N.getD 1 0) 132 0 0)) = y
  have go : K 98 [some (.ref 1001), some (.ref 0), some (.ref 7), some (.ref 15), some (.int i), some (.double y), none, some (.double y), none] [] (hM (zB N V S C P' sv tl has) (mOf N) B K' C O shapesN (laD (mOf N) laid D) (nI (sI (mOf N))) tl sv many at' 0 has ((3, [], [.long u]) :: (g ++ k))) (c + 4) (s + 799) := by
    refine hK 98 _ _ _ _ _ _ rfl rfl ?_
    dsimp only [k_law_98, hN1, hB, hM1, hM, wpI, xop, xcall, xli, xlj, xlf, xld, xla, xlg, xst, xst2, xc1, pI, pJ, pF, pD, pR, pA, p1, p0, xpop, xpush, xsm, xhas, xif, xic, xsw, xai, xal, xhi, xhv, xrf, xret, xrtl, xrtf, xrtd, xrta, xrtv, xfit, xnew, cond_true, cond_false, f40, f41, f42, f43, List.length_cons, List.length_nil, Nat.reduceAdd, Nat.reduceSub, Nat.reduceMul, Nat.reduceBEq, List.map_cons, List.map_nil, List.headD_cons, List.getElem?_cons_zero, List.getElem?_cons_succ, List.set_cons_zero, List.set_cons_succ]
    exact hn _ _ _ _ _ _ _ (fun n => ⟨trivial, trivial, trivial⟩) (by omega) (by omega) (LI_mk rfl (LJ_pl lj gk ht9.2.2))
  refine ⟨fun _ => go, fun z => ⟨fun z2 => absurd z2 z, fun _ => ⟨fun _ => go, fun z3 => absurd z3 z⟩⟩⟩
set_option maxRecDepth 100000 in
set_option maxHeartbeats 4000000 in
theorem c_digest (hK : HK lst K) (hw : ∀ n, xwL n [a, b, e, d]) (hc : c + 200 ≤ 601024) (hs : s + 9000 ≤ 7293034) (hq : q < 2 ^ 31) (li : LI q h) (hn : Nx K i q c s) : K 99 (L9 i a b e d) [] h c s := by
  obtain ⟨N, V, S, C, P, sv, tl, has, B, K', O, D, laid, many, at', thr, u, g, rfl, lj⟩ := li
  obtain ⟨ok, ⟨hV, hB, hsv, hrel⟩, ⟨hS, hK', hkeep⟩, ⟨hC6, hC7, htl⟩, hO, hD, hg⟩ := id lj
  obtain ⟨w, hw9, -, hm9⟩ := shp_of ok.2.1
  have ht9 := td_use (st_mOf ok.1) hD
  refine hK 99 _ _ _ _ _ _ rfl rfl ?_
  dsimp only [k_law_99, L9, tl9, hN1, hB, hM1, hM, wpI, xop, xcall, xli, xlj, xlf, xld, xla, xlg, xst, xst2, xc1, pI, pJ, pF, pD, pR, pA, p1, p0, xpop, xpush, xsm, xhas, xif, xic, xsw, xai, xal, xhi, xhv, xrf, xret, xrtl, xrtf, xrtd, xrta, xrtv, xfit, xnew, cond_true, cond_false, f40, f41, f42, f43, List.length_cons, List.length_nil, Nat.reduceAdd, Nat.reduceSub, Nat.reduceMul, Nat.reduceBEq, List.map_cons, List.map_nil, List.headD_cons, List.getElem?_cons_zero, List.getElem?_cons_succ, List.set_cons_zero, List.set_cons_succ]
  refine ⟨rfl, by omega, by omega, xwL_9 hw i (by omega), trivial, ?_⟩
  refine Ev_of (ev_digest 13 N V S C P sv tl has _ ok.1 hg hC6 htl (Nat.lt_of_le_of_lt ok.2.2 hq)) ?_
  rintro v h' ⟨-, rfl, P', g', rfl, gk, k, rfl⟩
  dsimp only [tl9, List.cons_append, hN1, hB, hM1, hM, wpI, xop, xcall, xli, xlj, xlf, xld, xla, xlg, xst, xst2, xc1, pI, pJ, pF, pD, pR, pA, p1, p0, xpop, xpush, xsm, xhas, xif, xic, xsw, xai, xal, xhi, xhv, xrf, xret, xrtl, xrtf, xrtd, xrta, xrtv, xfit, xnew, cond_true, cond_false, f40, f41, f42, f43, List.length_cons, List.length_nil, Nat.reduceAdd, Nat.reduceSub, Nat.reduceMul, Nat.reduceBEq, List.map_cons, List.map_nil, List.headD_cons, List.getElem?_cons_zero, List.getElem?_cons_succ, List.set_cons_zero, List.set_cons_succ]
  refine Ev_use (ev_M_digest 9 w (zB N V S C P' sv tl has) (mOf N) B K' C O D (laD (mOf N) laid D) laid tl sv many at' thr has (_ :: (g ++ k)) (st_mOf ok.1) ⟨rfl, hD.1, hD.2.1⟩ ht9.2.1 hw9 hm9 hC6 htl) ?_
  dsimp only [hN1, hB, hM1, hM, wpI, xop, xcall, xli, xlj, xlf, xld, xla, xlg, xst, xst2, xc1, pI, pJ, pF, pD, pR, pA, p1, p0, xpop, xpush, xsm, xhas, xif, xic, xsw, xai, xal, xhi, xhv, xrf, xret, xrtl, xrtf, xrtd, xrta, xrtv, xfit, xnew, cond_true, cond_false, f40, f41, f42, f43, List.length_cons, List.length_nil, Nat.reduceAdd, Nat.reduceSub, Nat.reduceMul, Nat.reduceBEq, List.map_cons, List.map_nil, List.headD_cons, List.getElem?_cons_zero, List.getElem?_cons_succ, List.set_cons_zero, List.set_cons_succ]
  have hR := dig_rel (C := C) (sv := sv) (tl := tl) (has := has) ok.1 ok.2.1 hw9 hm9 ht9.1
  refine ⟨fun _ => ?_, fun z => absurd (by rw [hR]; exact lcmp_rf _) z⟩
  exact hn _ _ _ _ _ _ _ hw (by omega) (by omega) (LI_mk rfl (LJ_pl lj gk ht9.2.2))
end DIR2
theorem LI_le {q q' : Nat} {h : xH} (li : LI q h) (hq : q ≤ q') : LI q' h := by
  obtain ⟨N, V, S, C, P, sv, tl, has, B, K', O, D, laid, many, at', thr, u, g, rfl, lj⟩ := li
  exact LI_mk rfl (LJ_le lj hq)
theorem loop_gt {len k : Nat} (hl : len ≤ 1536) (hk : k ≤ 513) : nI len - nI 3 < nI (3 * k) ↔ len < 3 * k + 3 := by
  by_cases h : 3 ≤ len
  · rw [n_sub h, nI_ltI (by omega) (by omega)]
    omega
  · have h0 : ¬ nI (3 * k) < nI 0 := by
      rw [nI_ltI (by omega) (by omega)]
      omega
    have h1 : nI len - nI 3 < nI 0 := by
      have h3 : len = 0 ∨ len = 1 ∨ len = 2 := by omega
      rcases h3 with rfl | rfl | rfl <;> decide
    exact ⟨fun _ => by omega, fun _ => Int32.lt_of_lt_of_le h1 (Int32.not_lt.mp h0)⟩
set_option maxRecDepth 100000 in
set_option maxHeartbeats 4000000 in
theorem law_loop {K : xK} {lst : List Int32} (hK : HK lst K) (hC : HC K) (hl : lst.length ≤ 1536) : ∀ (j k : Nat) (h : xH) (a b e d : Option Value) (c s : Nat), k + j = 513 → (∀ n, xwL n [a, b, e, d]) → c ≤ 100 + 200 * k → s ≤ 3000 + 9000 * k → LI (6100 * k) h → K 1 (L9 (nI (3 * k)) a b e d) [] h c s := by
  intro j
  induction j with
  | zero =>
    intro k h a b e d c s hj hw hc hs li
    refine hK 1 _ _ _ _ _ _ rfl rfl ?_
    dsimp only [k_law_1, L9, List.map, hN1, hB, hM1, hM, wpI, xop, xcall, xli, xlj, xlf, xld, xla, xlg, xst, xst2, xc1, pI, pJ, pF, pD, pR, pA, p1, p0, xpop, xpush, xsm, xhas, xif, xic, xsw, xai, xal, xhi, xhv, xrf, xret, xrtl, xrtf, xrtd, xrta, xrtv, xfit, xnew, cond_true, cond_false, f40, f41, f42, f43, List.length_cons, List.length_nil, Nat.reduceAdd, Nat.reduceSub, Nat.reduceMul, Nat.reduceBEq, List.map_cons, List.map_nil, List.headD_cons, List.getElem?_cons_zero, List.getElem?_cons_succ, List.set_cons_zero, List.set_cons_succ]
    refine ⟨fun _ => ?_, fun z => absurd ((loop_gt hl (by omega)).mpr (by omega)) z⟩
    refine hK 101 _ _ _ _ _ _ rfl rfl ?_
    dsimp only [k_law_101, hN1, hB, hM1, hM, wpI, xop, xcall, xli, xlj, xlf, xld, xla, xlg, xst, xst2, xc1, pI, pJ, pF, pD, pR, pA, p1, p0, xpop, xpush, xsm, xhas, xif, xic, xsw, xai, xal, xhi, xhv, xrf, xret, xrtl, xrtf, xrtd, xrta, xrtv, xfit, xnew, cond_true, cond_false, f40, f41, f42, f43, List.length_cons, List.length_nil, Nat.reduceAdd, Nat.reduceSub, Nat.reduceMul, Nat.reduceBEq, List.map_cons, List.map_nil, List.headD_cons, List.getElem?_cons_zero, List.getElem?_cons_succ, List.set_cons_zero, List.set_cons_succ]
    exact ⟨Or.inr rfl, by omega, by omega, rfl⟩
  | succ j ih =>
    intro k h a b e d c s hj hw hc hs li
    refine hK 1 _ _ _ _ _ _ rfl rfl ?_
    dsimp only [k_law_1, L9, List.map, hN1, hB, hM1, hM, wpI, xop, xcall, xli, xlj, xlf, xld, xla, xlg, xst, xst2, xc1, pI, pJ, pF, pD, pR, pA, p1, p0, xpop, xpush, xsm, xhas, xif, xic, xsw, xai, xal, xhi, xhv, xrf, xret, xrtl, xrtf, xrtd, xrta, xrtv, xfit, xnew, cond_true, cond_false, f40, f41, f42, f43, List.length_cons, List.length_nil, Nat.reduceAdd, Nat.reduceSub, Nat.reduceMul, Nat.reduceBEq, List.map_cons, List.map_nil, List.headD_cons, List.getElem?_cons_zero, List.getElem?_cons_succ, List.set_cons_zero, List.set_cons_succ]
    refine ⟨fun _ => ?_, fun z => ?_⟩
    · refine hK 101 _ _ _ _ _ _ rfl rfl ?_
      dsimp only [k_law_101, hN1, hB, hM1, hM, wpI, xop, xcall, xli, xlj, xlf, xld, xla, xlg, xst, xst2, xc1, pI, pJ, pF, pD, pR, pA, p1, p0, xpop, xpush, xsm, xhas, xif, xic, xsw, xai, xal, xhi, xhv, xrf, xret, xrtl, xrtf, xrtd, xrta, xrtv, xfit, xnew, cond_true, cond_false, f40, f41, f42, f43, List.length_cons, List.length_nil, Nat.reduceAdd, Nat.reduceSub, Nat.reduceMul, Nat.reduceBEq, List.map_cons, List.map_nil, List.headD_cons, List.getElem?_cons_zero, List.getElem?_cons_succ, List.set_cons_zero, List.set_cons_succ]
      exact ⟨Or.inr rfl, by omega, by omega, rfl⟩
    · have hk3 : 3 * k + 3 ≤ lst.length := by
        have h9 : ¬ lst.length < 3 * k + 3 := fun q => z ((loop_gt hl (by omega)).mpr q)
        omega
      have hc9 : c + 200 ≤ 601024 := by omega
      have hs9 : s + 9000 ≤ 7293034 := by omega
      have v1 : vp_in (nI (3 * k) + nI 1) lst.length := by
        rw [nI_add]
        exact (n_in (by omega)).mpr (by omega)
      have v2 : vp_in (nI (3 * k) + nI 2) lst.length := by
        rw [nI_add]
        exact (n_in (by omega)).mpr (by omega)
      have hn : Nx K (nI (3 * k)) (6100 * k) c s := by
        intro h' a b e d c' s' hw hc1 hs1 li
        refine hK 100 _ _ _ _ _ _ rfl rfl ?_
        dsimp only [k_law_100, L9, hN1, hB, hM1, hM, wpI, xop, xcall, xli, xlj, xlf, xld, xla, xlg, xst, xst2, xc1, pI, pJ, pF, pD, pR, pA, p1, p0, xpop, xpush, xsm, xhas, xif, xic, xsw, xai, xal, xhi, xhv, xrf, xret, xrtl, xrtf, xrtd, xrta, xrtv, xfit, xnew, cond_true, cond_false, f40, f41, f42, f43, List.length_cons, List.length_nil, Nat.reduceAdd, Nat.reduceSub, Nat.reduceMul, Nat.reduceBEq, List.map_cons, List.map_nil, List.headD_cons, List.getElem?_cons_zero, List.getElem?_cons_succ, List.set_cons_zero, List.set_cons_succ]
        rw [nI_add]
        exact ih (k + 1) h' a b e d c' s' (by omega) hw (by omega) (by omega) (by rw [Nat.mul_add]; exact li)
      refine ⟨(n_in (by omega)).mpr (by omega), ?_⟩
      refine ⟨fun _ => c_take hK hC v1 v2 rfl rfl hw hc9 hs9 li hn, fun _ => ?_⟩
      refine ⟨fun _ => c_turn hK hC v1 v2 rfl rfl hw hc9 hs9 li hn, fun _ => ?_⟩
      refine ⟨fun _ => c_knock hK hC v1 v2 rfl rfl hw hc9 hs9 li hn, fun _ => ?_⟩
      refine ⟨fun _ => c_put hK hC v1 v2 rfl rfl hw hc9 hs9 li hn, fun _ => ?_⟩
      refine ⟨fun _ => c_mirror hK hw hc9 hs9 li hn, fun _ => ?_⟩
      refine ⟨fun _ => c_refill hK hw hc9 hs9 li hn, fun _ => ?_⟩
      refine ⟨fun _ => c_set hK hC v1 v2 rfl rfl hw hc9 hs9 li hn, fun _ => ?_⟩
      refine ⟨fun _ => c_append hK hC v1 v2 rfl rfl hw hc9 hs9 li hn, fun _ => ?_⟩
      refine ⟨fun _ => c_clear hK hw hc9 hs9 li hn, fun _ => ?_⟩
      refine ⟨fun _ => c_error hK hw hc9 hs9 li hn, fun _ => ?_⟩
      refine ⟨fun _ => c_obey hK hC v1 v2 rfl rfl hw hc9 hs9 li hn, fun _ => ?_⟩
      refine ⟨fun _ => c_keep hK hw hc9 hs9 li hn, fun _ => ?_⟩
      refine ⟨fun _ => c_goBack hK hC v1 v2 rfl rfl hw hc9 hs9 li hn, fun _ => ?_⟩
      refine ⟨fun _ => c_undo hK hC v1 v2 rfl rfl hw hc9 hs9 li hn, fun _ => ?_⟩
      refine ⟨fun _ => c_row hK hC v1 v2 rfl rfl hw hc9 hs9 li hn, fun _ => ?_⟩
      refine ⟨fun _ => c_count hK hC v1 v2 rfl rfl hw hc9 hs9 li hn, fun _ => ?_⟩
      refine ⟨fun _ => c_setting hK hC v1 v2 rfl rfl hw hc9 hs9 li hn, fun _ => ?_⟩
      refine ⟨fun _ => c_why hK hC v1 v2 rfl rfl hw hc9 hs9 li hn, fun _ => ?_⟩
      refine ⟨fun _ => c_falls hK hC v1 v2 rfl rfl hw hc9 hs9 li hn, fun _ => ?_⟩
      refine ⟨fun _ => c_wins hK hC v1 v2 rfl rfl hw hc9 hs9 li hn, fun _ => ?_⟩
      refine ⟨fun _ => c_best hK hw hc9 hs9 li hn, fun _ => ?_⟩
      refine ⟨fun _ => c_length hK hC v1 v2 rfl rfl hw hc9 hs9 li hn, fun _ => ?_⟩
      refine ⟨fun _ => c_pyramids hK hC v1 v2 rfl rfl hw hc9 hs9 li hn, fun _ => ?_⟩
      refine ⟨fun _ => c_broken hK hw hc9 hs9 li hn, fun _ => ?_⟩
      refine ⟨fun _ => c_won hK hw hc9 hs9 li hn, fun _ => ?_⟩
      refine ⟨fun _ => c_digest hK hw hc9 hs9 (by omega) li hn, fun _ => ?_⟩
      exact hn _ _ _ _ _ _ _ hw (by omega) (by omega) (LI_le li (by omega))
