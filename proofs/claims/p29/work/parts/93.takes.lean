/-! ===== the law's cell and takes ===== -/
theorem nI_of_pos {x : Int32} (h : 0 ≤ x) : ∃ n, n < 2 ^ 31 ∧ x = nI n := by
  sorry
/-- what holds of the object between two acts -/
def OJ (q : Nat) (N V S C : List Nat) (P : List Value) (sv : Nat) (g : xH) : Prop := okL q N ∧ V.length = 108 ∧ sv ≤ 6 ∧ gOk P g
set_option maxRecDepth 100000 in
set_option maxHeartbeats 4000000 in
theorem ey_takes {sc : Option (List Int32)} (q : Nat) (N V S C : List Nat) (P : List Value) (sv tl : Nat) (has : Bool) (g : xH) (r b : Nat) (okl : okL q N) (hq9 : q ≤ 900) (hV : V.length = 108) (hs6 : sv ≤ 6) (gk : gOk P g) (hr : r < 5) (hb : 1 ≤ b) (hb3 : b ≤ 3) (Q : Option Value → xH → Prop)
    (hQ : ∀ N' V' P' sv' g', okL (q + 1) N' → V'.length = 108 → sv' ≤ 6 → gOk P' g' → Q (some (.int (nI 1))) (hB N' V' S C P' sv' tl has g')) :
    E_takes sc [.ref 0, .int (nI r), .int (nI b)] (hB N V S C P sv tl has g) Q := by
  have ok := okl.1
  have hm := okl.2.1
  obtain ⟨-, -, l1, l2, l3, l4, l5⟩ := okl
  have ok' := ok
  obtain ⟨hN, h0, h1, h3, h3', h4, h5⟩ := ok'
  have hm0 := shp_lt hm
  have pm := pop_le hm0
  obtain ⟨p1, p2, p3, p4, p5, p6, p7⟩ := gp_all ok hm
  refine ⟨Nat.le_of_ble_eq_true rfl, ?_⟩
  intro K hK hC
  show K 0 [some (.ref 0), some (.int (nI r)), some (.int (nI b)), none, none, none, none, none, none, none, none, none, none, none, none] [] (hB N V S C P sv tl has g) 0 0
  refine hK 0 _ _ _ _ _ _ rfl rfl ?_
  dsimp only [k_Y_takes_0, hN1, hB, wpI, xop, xcall, xli, xlj, xlf, xld, xla, xlg, xst, xst2, xc1, pI, pJ, pF, pD, pR, pA, p1, p0, xpop, xpush, xsm, xhas, xif, xic, xsw, xai, xal, xhi, xhv, xrf, xret, xrtl, xrtf, xrtd, xrta, xrtv, xfit, xnew, cond_true, cond_false, f40, f41, f42, f43, List.length_cons, List.length_nil, Nat.reduceAdd, Nat.reduceSub, Nat.reduceMul, Nat.reduceBEq, List.map_cons, List.map_nil, List.headD_cons, List.getElem?_cons_zero, List.getElem?_cons_succ, List.set_cons_zero, List.set_cons_succ]
  refine ⟨by decide, by decide, ?_⟩
  refine Ev_use (ev_count0 _ N V S C P sv tl has g 2 ok (by decide)) ?_
  dsimp only [hN1, hB, wpI, xop, xcall, xli, xlj, xlf, xld, xla, xlg, xst, xst2, xc1, pI, pJ, pF, pD, pR, pA, p1, p0, xpop, xpush, xsm, xhas, xif, xic, xsw, xai, xal, xhi, xhv, xrf, xret, xrtl, xrtf, xrtd, xrta, xrtv, xfit, xnew, cond_true, cond_false, f40, f41, f42, f43, List.length_cons, List.length_nil, Nat.reduceAdd, Nat.reduceSub, Nat.reduceMul, Nat.reduceBEq, List.map_cons, List.map_nil, List.headD_cons, List.getElem?_cons_zero, List.getElem?_cons_succ, List.set_cons_zero, List.set_cons_succ]
  rw [cnt_2]
  refine ⟨by decide, by decide, ?_⟩
  refine Ev_use (ev_why5 _ N _ _ r b ok hr hb (by omega)) ?_
  dsimp only [hN1, hB, wpI, xop, xcall, xli, xlj, xlf, xld, xla, xlg, xst, xst2, xc1, pI, pJ, pF, pD, pR, pA, p1, p0, xpop, xpush, xsm, xhas, xif, xic, xsw, xai, xal, xhi, xhv, xrf, xret, xrtl, xrtf, xrtd, xrta, xrtv, xfit, xnew, cond_true, cond_false, f40, f41, f42, f43, List.length_cons, List.length_nil, Nat.reduceAdd, Nat.reduceSub, Nat.reduceMul, Nat.reduceBEq, List.map_cons, List.map_nil, List.headD_cons, List.getElem?_cons_zero, List.getElem?_cons_succ, List.set_cons_zero, List.set_cons_succ]
  refine ⟨by decide, by decide, ?_⟩
  refine Ev_use (ev_falls5 _ N _ _ r b ok hr hb (by omega)) ?_
  dsimp only [hN1, hB, wpI, xop, xcall, xli, xlj, xlf, xld, xla, xlg, xst, xst2, xc1, pI, pJ, pF, pD, pR, pA, p1, p0, xpop, xpush, xsm, xhas, xif, xic, xsw, xai, xal, xhi, xhv, xrf, xret, xrtl, xrtf, xrtd, xrta, xrtv, xfit, xnew, cond_true, cond_false, f40, f41, f42, f43, List.length_cons, List.length_nil, Nat.reduceAdd, Nat.reduceSub, Nat.reduceMul, Nat.reduceBEq, List.map_cons, List.map_nil, List.headD_cons, List.getElem?_cons_zero, List.getElem?_cons_succ, List.set_cons_zero, List.set_cons_succ]
  have WL : ∀ (n : Nat) (a b c d e f h i j k l m o : Option Value), xwL (n + 1) [a, b, c, d, e, f, h, i, j, k, l, m, o] → xwL (n + 1) [some (.ref 0), some (.int (nI r)), a, b, c, d, e, f, h, i, j, k, l, m, o] := fun n a b c d e f h i j k l m o w => ⟨Or.inl (Nat.succ_pos _), trivial, w⟩
  refine ⟨rfl, by decide, by decide, WL _ _ _ _ _ _ _ _ _ _ _ _ _ _ ⟨trivial, trivial, trivial, trivial, trivial⟩, trivial, ?_⟩
  refine Ev_of (ev_best _ N V S C P sv tl has g ok gk) ?_
  rintro v h' ⟨-, rfl, P1, g1, rfl, gk1, e1, rfl⟩
  dsimp only [hN1, hB, wpI, xop, xcall, xli, xlj, xlf, xld, xla, xlg, xst, xst2, xc1, pI, pJ, pF, pD, pR, pA, p1, p0, xpop, xpush, xsm, xhas, xif, xic, xsw, xai, xal, xhi, xhv, xrf, xret, xrtl, xrtf, xrtd, xrta, xrtv, xfit, xnew, cond_true, cond_false, f40, f41, f42, f43, List.length_cons, List.length_nil, Nat.reduceAdd, Nat.reduceSub, Nat.reduceMul, Nat.reduceBEq, List.map_cons, List.map_nil, List.headD_cons, List.getElem?_cons_zero, List.getElem?_cons_succ, List.set_cons_zero, List.set_cons_succ]
  refine ⟨rfl, by decide, by decide, WL _ _ _ _ _ _ _ _ _ _ _ _ _ _ ⟨trivial, trivial, trivial, trivial, trivial, trivial⟩, trivial, ?_⟩
  refine Ev_of (ev_wins0 _ N V S C P1 sv tl has _ _ ok gk1 h1) ?_
  rintro v h' ⟨-, rfl, P2, g2, rfl, gk2, e2, rfl⟩
  dsimp only [hN1, hB, wpI, xop, xcall, xli, xlj, xlf, xld, xla, xlg, xst, xst2, xc1, pI, pJ, pF, pD, pR, pA, p1, p0, xpop, xpush, xsm, xhas, xif, xic, xsw, xai, xal, xhi, xhv, xrf, xret, xrtl, xrtf, xrtd, xrta, xrtv, xfit, xnew, cond_true, cond_false, f40, f41, f42, f43, List.length_cons, List.length_nil, Nat.reduceAdd, Nat.reduceSub, Nat.reduceMul, Nat.reduceBEq, List.map_cons, List.map_nil, List.headD_cons, List.getElem?_cons_zero, List.getElem?_cons_succ, List.set_cons_zero, List.set_cons_succ]
  refine ⟨rfl, by decide, by decide, WL _ _ _ _ _ _ _ _ _ _ _ _ _ _ ⟨trivial, trivial, trivial, trivial, trivial, trivial, trivial⟩, trivial, ?_⟩
  refine Ev_of (ev_length0 _ N V S C P2 sv tl has _ 0 ok gk2 (by decide)) ?_
  rintro v h' ⟨-, rfl, P3, g3, rfl, gk3, e3, rfl⟩
  rw [if_pos rfl]
  dsimp only [hN1, hB, wpI, xop, xcall, xli, xlj, xlf, xld, xla, xlg, xst, xst2, xc1, pI, pJ, pF, pD, pR, pA, p1, p0, xpop, xpush, xsm, xhas, xif, xic, xsw, xai, xal, xhi, xhv, xrf, xret, xrtl, xrtf, xrtd, xrta, xrtv, xfit, xnew, cond_true, cond_false, f40, f41, f42, f43, List.length_cons, List.length_nil, Nat.reduceAdd, Nat.reduceSub, Nat.reduceMul, Nat.reduceBEq, List.map_cons, List.map_nil, List.headD_cons, List.getElem?_cons_zero, List.getElem?_cons_succ, List.set_cons_zero, List.set_cons_succ]
  refine ⟨rfl, by decide, by decide, WL _ _ _ _ _ _ _ _ _ _ _ _ _ _ ⟨trivial, trivial, trivial, trivial, trivial, trivial, trivial, trivial⟩, trivial, ?_⟩
  refine Ev_of (ev_length0 _ N V S C P3 sv tl has _ 1 ok gk3 (by decide)) ?_
  rintro v h' ⟨-, rfl, P4, g4, rfl, gk4, e4, rfl⟩
  rw [if_neg (by decide)]
  dsimp only [hN1, hB, wpI, xop, xcall, xli, xlj, xlf, xld, xla, xlg, xst, xst2, xc1, pI, pJ, pF, pD, pR, pA, p1, p0, xpop, xpush, xsm, xhas, xif, xic, xsw, xai, xal, xhi, xhv, xrf, xret, xrtl, xrtf, xrtd, xrta, xrtv, xfit, xnew, cond_true, cond_false, f40, f41, f42, f43, List.length_cons, List.length_nil, Nat.reduceAdd, Nat.reduceSub, Nat.reduceMul, Nat.reduceBEq, List.map_cons, List.map_nil, List.headD_cons, List.getElem?_cons_zero, List.getElem?_cons_succ, List.set_cons_zero, List.set_cons_succ]
  refine ⟨by decide, by decide, ?_⟩
  refine Ev_use (ev_count0 _ N V S C P4 sv tl has _ 1 ok (by decide)) ?_
  dsimp only [hN1, hB, wpI, xop, xcall, xli, xlj, xlf, xld, xla, xlg, xst, xst2, xc1, pI, pJ, pF, pD, pR, pA, p1, p0, xpop, xpush, xsm, xhas, xif, xic, xsw, xai, xal, xhi, xhv, xrf, xret, xrtl, xrtf, xrtd, xrta, xrtv, xfit, xnew, cond_true, cond_false, f40, f41, f42, f43, List.length_cons, List.length_nil, Nat.reduceAdd, Nat.reduceSub, Nat.reduceMul, Nat.reduceBEq, List.map_cons, List.map_nil, List.headD_cons, List.getElem?_cons_zero, List.getElem?_cons_succ, List.set_cons_zero, List.set_cons_succ]
  rw [cnt_1]
  sorry
