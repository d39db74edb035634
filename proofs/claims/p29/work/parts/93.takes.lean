/-! ===== the law's cell and takes ===== -/
theorem takeE_of {N : List Nat} {r b : Nat} (ok : stN N) (hr : r < 5) (hb : 1 ≤ b) (hb3 : b ≤ 3) : takeE N (nI r) (nI b) = if N.getD 3 0 < b then 11 else if rsnN N r b = 0 then 0 else 12 := by
  have h3 := ok.2.2.2.2.1
  have key : ∀ r, r < 5 → isRowB (nI r) = true := by decide +kernel
  unfold takeE
  rw [key r hr, if_neg (by decide), n_cl (by omega), n_cl (by omega)]
  by_cases w : N.getD 3 0 < b
  · rw [if_pos w, if_pos (Or.inr ((nI_ltI (by omega) (by omega)).mpr w))]
  · rw [if_neg w, if_neg ?_]
    rintro (e | e)
    · exact absurd ((nI_ltI (by omega) (by omega)).mp e) (by omega)
    · exact w ((nI_ltI (by omega) (by omega)).mp e)
theorem cnt_34 (N : List Nat) (sv t : Nat) (ht : t < 2) : cntR N sv (nI (3 + t)) = nI (N.getD (16 + t) 0) := by
  have : t = 0 ∨ t = 1 := by omega
  rcases this with rfl | rfl
  · exact cnt_3 N sv
  · exact cnt_4 N sv
theorem plN_c {N M : List Nat} (h : ∀ k, 3 ≤ k → k < 6 → M.getD k 0 = N.getD k 0) : plN M = plN N := by
  unfold plN
  rw [h 3 (by decide) (by decide), h 4 (by decide) (by decide), h 5 (by decide) (by decide)]
/-- what holds of the object between two acts -/
def OJ (q : Nat) (N V S C : List Nat) (P : List Value) (sv : Nat) (g : xH) : Prop := okL q N ∧ V.length = 108 ∧ sv ≤ 6 ∧ gOk P g
set_option maxRecDepth 100000 in
set_option maxHeartbeats 4000000 in
theorem ey_takes {sc : Option (List Int32)} (q : Nat) (N V S C : List Nat) (P : List Value) (sv tl : Nat) (has : Bool) (g : xH) (r b : Nat) (okl : okL q N) (hq9 : q ≤ 900) (hV : V.length = 108) (hs6 : sv ≤ 6) (gk : gOk P g) (hr : r < 5) (hb : 1 ≤ b) (hb3 : b ≤ 3) (Q : Option Value → xH → Prop)
    (hQ : ∀ N' V' P' sv' g', okL (q + 1) N' → V'.length = 108 → sv' ≤ 6 → gOk P' g' → Q (some (.int (nI 1))) (hB N' V' S C P' sv' tl has g')) :
    E_takes sc [.ref 0, .int (nI r), .int (nI b)] (hB N V S C P sv tl has g) Q := by
  have ok := okl.1
  have hm := okl.2.1
  obtain ⟨-, -, l1, l2, l3, l4, l5⟩ := okl
  have ok' := ok
  obtain ⟨hN, h0, h1, h3, h3', h4, h5⟩ := ok'
  have hm0 := shp_lt hm
  have pm := pop_le hm0
  obtain ⟨p1, p2, p3, p4, p5, p6, p7⟩ := gp_all ok hm
  refine ⟨Nat.le_of_ble_eq_true rfl, ?_⟩
  intro K hK hC
  show K 0 [some (.ref 0), some (.int (nI r)), some (.int (nI b)), none, none, none, none, none, none, none, none, none, none, none, none] [] (hB N V S C P sv tl has g) 0 0
  refine hK 0 _ _ _ _ _ _ rfl rfl ?_
  dsimp only [k_Y_takes_0, hN1, hB, wpI, xop, xcall, xli, xlj, xlf, xld, xla, xlg, xst, xst2, xc1, pI, pJ, pF, pD, pR, pA, p1, p0, xpop, xpush, xsm, xhas, xif, xic, xsw, xai, xal, xhi, xhv, xrf, xret, xrtl, xrtf, xrtd, xrta, xrtv, xfit, xnew, cond_true, cond_false, f40, f41, f42, f43, List.length_cons, List.length_nil, Nat.reduceAdd, Nat.reduceSub, Nat.reduceMul, Nat.reduceBEq, List.map_cons, List.map_nil, List.headD_cons, List.getElem?_cons_zero, List.getElem?_cons_succ, List.set_cons_zero, List.set_cons_succ]
  refine ⟨by decide, by decide, ?_⟩
  refine Ev_use (ev_count0 _ N V S C P sv tl has g 2 ok (by decide)) ?_
  dsimp only [hN1, hB, wpI, xop, xcall, xli, xlj, xlf, xld, xla, xlg, xst, xst2, xc1, pI, pJ, pF, pD, pR, pA, p1, p0, xpop, xpush, xsm, xhas, xif, xic, xsw, xai, xal, xhi, xhv, xrf, xret, xrtl, xrtf, xrtd, xrta, xrtv, xfit, xnew, cond_true, cond_false, f40, f41, f42, f43, List.length_cons, List.length_nil, Nat.reduceAdd, Nat.reduceSub, Nat.reduceMul, Nat.reduceBEq, List.map_cons, List.map_nil, List.headD_cons, List.getElem?_cons_zero, List.getElem?_cons_succ, List.set_cons_zero, List.set_cons_succ]
  rw [cnt_2]
  refine ⟨by decide, by decide, ?_⟩
  refine Ev_use (ev_why5 _ N _ _ r b ok hr hb (by omega)) ?_
  dsimp only [hN1, hB, wpI, xop, xcall, xli, xlj, xlf, xld, xla, xlg, xst, xst2, xc1, pI, pJ, pF, pD, pR, pA, p1, p0, xpop, xpush, xsm, xhas, xif, xic, xsw, xai, xal, xhi, xhv, xrf, xret, xrtl, xrtf, xrtd, xrta, xrtv, xfit, xnew, cond_true, cond_false, f40, f41, f42, f43, List.length_cons, List.length_nil, Nat.reduceAdd, Nat.reduceSub, Nat.reduceMul, Nat.reduceBEq, List.map_cons, List.map_nil, List.headD_cons, List.getElem?_cons_zero, List.getElem?_cons_succ, List.set_cons_zero, List.set_cons_succ]
  refine ⟨by decide, by decide, ?_⟩
  refine Ev_use (ev_falls5 _ N _ _ r b ok hr hb (by omega)) ?_
  dsimp only [hN1, hB, wpI, xop, xcall, xli, xlj, xlf, xld, xla, xlg, xst, xst2, xc1, pI, pJ, pF, pD, pR, pA, p1, p0, xpop, xpush, xsm, xhas, xif, xic, xsw, xai, xal, xhi, xhv, xrf, xret, xrtl, xrtf, xrtd, xrta, xrtv, xfit, xnew, cond_true, cond_false, f40, f41, f42, f43, List.length_cons, List.length_nil, Nat.reduceAdd, Nat.reduceSub, Nat.reduceMul, Nat.reduceBEq, List.map_cons, List.map_nil, List.headD_cons, List.getElem?_cons_zero, List.getElem?_cons_succ, List.set_cons_zero, List.set_cons_succ]
  have WL : ∀ (n : Nat) (a b c d e f h i j k l m o : Option Value), xwL (n + 1) [a, b, c, d, e, f, h, i, j, k, l, m, o] → xwL (n + 1) [some (.ref 0), some (.int (nI r)), a, b, c, d, e, f, h, i, j, k, l, m, o] := fun n a b c d e f h i j k l m o w => ⟨Or.inl (Nat.succ_pos _), trivial, w⟩
  refine ⟨rfl, by decide, by decide, WL _ _ _ _ _ _ _ _ _ _ _ _ _ _ ⟨trivial, trivial, trivial, trivial, trivial⟩, trivial, ?_⟩
  refine Ev_of (ev_best _ N V S C P sv tl has g ok gk) ?_
  rintro v h' ⟨-, rfl, P1, g1, rfl, gk1, e1, rfl⟩
  dsimp only [hN1, hB, wpI, xop, xcall, xli, xlj, xlf, xld, xla, xlg, xst, xst2, xc1, pI, pJ, pF, pD, pR, pA, p1, p0, xpop, xpush, xsm, xhas, xif, xic, xsw, xai, xal, xhi, xhv, xrf, xret, xrtl, xrtf, xrtd, xrta, xrtv, xfit, xnew, cond_true, cond_false, f40, f41, f42, f43, List.length_cons, List.length_nil, Nat.reduceAdd, Nat.reduceSub, Nat.reduceMul, Nat.reduceBEq, List.map_cons, List.map_nil, List.headD_cons, List.getElem?_cons_zero, List.getElem?_cons_succ, List.set_cons_zero, List.set_cons_succ]
  refine ⟨rfl, by decide, by decide, WL _ _ _ _ _ _ _ _ _ _ _ _ _ _ ⟨trivial, trivial, trivial, trivial, trivial, trivial⟩, trivial, ?_⟩
  refine Ev_of (ev_wins0 _ N V S C P1 sv tl has _ _ ok gk1 h1) ?_
  rintro v h' ⟨-, rfl, P2, g2, rfl, gk2, e2, rfl⟩
  dsimp only [hN1, hB, wpI, xop, xcall, xli, xlj, xlf, xld, xla, xlg, xst, xst2, xc1, pI, pJ, pF, pD, pR, pA, p1, p0, xpop, xpush, xsm, xhas, xif, xic, xsw, xai, xal, xhi, xhv, xrf, xret, xrtl, xrtf, xrtd, xrta, xrtv, xfit, xnew, cond_true, cond_false, f40, f41, f42, f43, List.length_cons, List.length_nil, Nat.reduceAdd, Nat.reduceSub, Nat.reduceMul, Nat.reduceBEq, List.map_cons, List.map_nil, List.headD_cons, List.getElem?_cons_zero, List.getElem?_cons_succ, List.set_cons_zero, List.set_cons_succ]
  refine ⟨rfl, by decide, by decide, WL _ _ _ _ _ _ _ _ _ _ _ _ _ _ ⟨trivial, trivial, trivial, trivial, trivial, trivial, trivial⟩, trivial, ?_⟩
  refine Ev_of (ev_length0 _ N V S C P2 sv tl has _ 0 ok gk2 (by decide)) ?_
  rintro v h' ⟨-, rfl, P3, g3, rfl, gk3, e3, rfl⟩
  rw [if_pos rfl]
  dsimp only [hN1, hB, wpI, xop, xcall, xli, xlj, xlf, xld, xla, xlg, xst, xst2, xc1, pI, pJ, pF, pD, pR, pA, p1, p0, xpop, xpush, xsm, xhas, xif, xic, xsw, xai, xal, xhi, xhv, xrf, xret, xrtl, xrtf, xrtd, xrta, xrtv, xfit, xnew, cond_true, cond_false, f40, f41, f42, f43, List.length_cons, List.length_nil, Nat.reduceAdd, Nat.reduceSub, Nat.reduceMul, Nat.reduceBEq, List.map_cons, List.map_nil, List.headD_cons, List.getElem?_cons_zero, List.getElem?_cons_succ, List.set_cons_zero, List.set_cons_succ]
  refine ⟨rfl, by decide, by decide, WL _ _ _ _ _ _ _ _ _ _ _ _ _ _ ⟨trivial, trivial, trivial, trivial, trivial, trivial, trivial, trivial⟩, trivial, ?_⟩
  refine Ev_of (ev_length0 _ N V S C P3 sv tl has _ 1 ok gk3 (by decide)) ?_
  rintro v h' ⟨-, rfl, P4, g4, rfl, gk4, e4, rfl⟩
  rw [if_neg (by decide)]
  dsimp only [hN1, hB, wpI, xop, xcall, xli, xlj, xlf, xld, xla, xlg, xst, xst2, xc1, pI, pJ, pF, pD, pR, pA, p1, p0, xpop, xpush, xsm, xhas, xif, xic, xsw, xai, xal, xhi, xhv, xrf, xret, xrtl, xrtf, xrtd, xrta, xrtv, xfit, xnew, cond_true, cond_false, f40, f41, f42, f43, List.length_cons, List.length_nil, Nat.reduceAdd, Nat.reduceSub, Nat.reduceMul, Nat.reduceBEq, List.map_cons, List.map_nil, List.headD_cons, List.getElem?_cons_zero, List.getElem?_cons_succ, List.set_cons_zero, List.set_cons_succ]
  refine ⟨by decide, by decide, ?_⟩
  refine Ev_use (ev_count0 _ N V S C P4 sv tl has _ 1 ok (by decide)) ?_
  dsimp only [hN1, hB, wpI, xop, xcall, xli, xlj, xlf, xld, xla, xlg, xst, xst2, xc1, pI, pJ, pF, pD, pR, pA, p1, p0, xpop, xpush, xsm, xhas, xif, xic, xsw, xai, xal, xhi, xhv, xrf, xret, xrtl, xrtf, xrtd, xrta, xrtv, xfit, xnew, cond_true, cond_false, f40, f41, f42, f43, List.length_cons, List.length_nil, Nat.reduceAdd, Nat.reduceSub, Nat.reduceMul, Nat.reduceBEq, List.map_cons, List.map_nil, List.headD_cons, List.getElem?_cons_zero, List.getElem?_cons_succ, List.set_cons_zero, List.set_cons_succ]
  rw [cnt_1]
  try simp (disch := omega) only [nI_add, n_and, n_or, n_xor, n_i31, nI_leI, nI_ltI, n_e0, n_eq, n_m1e, n_l0, n_g0, n_p0, n_q0, n_cl, n_in, n_sub, n_shr, n_shl, n_div, bI_0, n_01, n_11, bI_or, not_false_eq_true, forall_const, not_true_eq_false, false_imp_iff, true_imp_iff]
  refine ⟨by decide, by decide, ?_⟩
  refine Ev_use (ev_count0 _ N V S C P4 sv tl has _ (3 + N.getD 1 0) ok (by omega)) ?_
  dsimp only [hN1, hB, wpI, xop, xcall, xli, xlj, xlf, xld, xla, xlg, xst, xst2, xc1, pI, pJ, pF, pD, pR, pA, p1, p0, xpop, xpush, xsm, xhas, xif, xic, xsw, xai, xal, xhi, xhv, xrf, xret, xrtl, xrtf, xrtd, xrta, xrtv, xfit, xnew, cond_true, cond_false, f40, f41, f42, f43, List.length_cons, List.length_nil, Nat.reduceAdd, Nat.reduceSub, Nat.reduceMul, Nat.reduceBEq, List.map_cons, List.map_nil, List.headD_cons, List.getElem?_cons_zero, List.getElem?_cons_succ, List.set_cons_zero, List.set_cons_succ]
  rw [cnt_34 _ _ _ h1]
  refine ⟨by decide, by decide, ?_⟩
  refine Ev_use (ev_count0 _ N V S C P4 sv tl has _ 5 ok (by decide)) ?_
  dsimp only [hN1, hB, wpI, xop, xcall, xli, xlj, xlf, xld, xla, xlg, xst, xst2, xc1, pI, pJ, pF, pD, pR, pA, p1, p0, xpop, xpush, xsm, xhas, xif, xic, xsw, xai, xal, xhi, xhv, xrf, xret, xrtl, xrtf, xrtd, xrta, xrtv, xfit, xnew, cond_true, cond_false, f40, f41, f42, f43, List.length_cons, List.length_nil, Nat.reduceAdd, Nat.reduceSub, Nat.reduceMul, Nat.reduceBEq, List.map_cons, List.map_nil, List.headD_cons, List.getElem?_cons_zero, List.getElem?_cons_succ, List.set_cons_zero, List.set_cons_succ]
  rw [cnt_5]
  have tE := takeE_of ok hr hb hb3
  have hrc : (nI r).toNatClampNeg = r := n_cl (by omega)
  have hbc : (nI b).toNatClampNeg = b := n_cl (by omega)
  by_cases z : rsnN N r b = 0
  · have hn3 : ¬ N.getD 3 0 < b := fun w => by rw [rsn_big w] at z; exact nomatch z
    obtain ⟨k1, k2, k3, k4, k5, k6, k7, k8, k9, k10⟩ := stl_st ok hm hr hb (by omega) z
    obtain ⟨g1', g2', g3', g4'⟩ := gp_theft ok hm hr hb (by omega) z
    have okl2 := okL_steal (c := q) ⟨ok, hm, l1, l2, l3, l4, l5⟩ hr hb (by omega) z
    have ok2 := okl2.1
    have hV2 := save_len ok.1 hV hs6
    have hs2 : saveS sv ≤ 6 := by unfold saveS; split <;> omega
    have ep := plN_c k3
    have hsl : shoN (plN N) (1 - N.getD 1 0) (settledN (robN (N.getD 0 0) (N.getD 1 0) r b).1) ≤ 15 := by
      obtain ⟨-, -, j3, j4, -⟩ := gp_all ok2 okl2.2.1
      have j5 := pop_le ok2.2.1
      rw [ep, k1, k2] at j3 j4
      rw [k1] at j5
      omega
    have hF : fallI (N.getD 0 0) (N.getD 1 0) r b = nI (pop (fallM (robN (N.getD 0 0) (N.getD 1 0) r b).1)) := by
      obtain ⟨z1, -⟩ := (rsn_sb ok hm hr hb (by omega)).1 z
      obtain ⟨j1, j2, -⟩ := q_th hm h1 hr hb (by omega) z1
      unfold fallI
      rw [if_pos z1]
      congr 1
      omega
    rw [hF, z]
    refine hC (1, 4, 1, 6, false, E_act sc) List.mem_cons_self [.ref 0, .int (nI 0), .int (nI r), .int (nI b)] [] _ _ _ _ (fun v h' => v = some (.int (nI (pop (fallM (robN (N.getD 0 0) (N.getD 1 0) r b).1)))) ∧ h' = hB (stealN N r b) (saveV N V sv) S C P4 (saveS sv) tl has (g ++ e1 ++ e2 ++ e3 ++ e4)) rfl (by decide) (Nat.le_of_ble_eq_true rfl) (Nat.le_of_ble_eq_true rfl) (fun z => nomatch z) (ac_take N V S C P4 sv tl has _ (nI r) (nI b) ok hV hs6 (fun _ => ?_) (fun w => ?_) (fun w => ?_) (fun w => ?_)) ?_
    · rw [hrc, hbc]; exact ⟨rfl, rfl⟩
    · rw [tE, if_neg hn3, if_pos z] at w; exact nomatch w
    · rw [tE, if_neg hn3, if_pos z] at w; exact nomatch w
    · rw [tE, if_neg hn3, if_pos z] at w; exact nomatch w
    rintro v h' ⟨rfl, rfl⟩
    refine hK 2 _ _ _ _ _ _ rfl rfl ?_
    dsimp only [k_Y_takes_2, hN1, hB, wpI, xop, xcall, xli, xlj, xlf, xld, xla, xlg, xst, xst2, xc1, pI, pJ, pF, pD, pR, pA, p1, p0, xpop, xpush, xsm, xhas, xif, xic, xsw, xai, xal, xhi, xhv, xrf, xret, xrtl, xrtf, xrtd, xrta, xrtv, xfit, xnew, cond_true, cond_false, f40, f41, f42, f43, List.length_cons, List.length_nil, Nat.reduceAdd, Nat.reduceSub, Nat.reduceMul, Nat.reduceBEq, List.map_cons, List.map_nil, List.headD_cons, List.getElem?_cons_zero, List.getElem?_cons_succ, List.set_cons_zero, List.set_cons_succ]
    refine br_t (by decide) ?_
    refine hK 7 _ _ _ _ _ _ rfl rfl ?_
    dsimp only [k_Y_takes_7, hN1, hB, wpI, xop, xcall, xli, xlj, xlf, xld, xla, xlg, xst, xst2, xc1, pI, pJ, pF, pD, pR, pA, p1, p0, xpop, xpush, xsm, xhas, xif, xic, xsw, xai, xal, xhi, xhv, xrf, xret, xrtl, xrtf, xrtd, xrta, xrtv, xfit, xnew, cond_true, cond_false, f40, f41, f42, f43, List.length_cons, List.length_nil, Nat.reduceAdd, Nat.reduceSub, Nat.reduceMul, Nat.reduceBEq, List.map_cons, List.map_nil, List.headD_cons, List.getElem?_cons_zero, List.getElem?_cons_succ, List.set_cons_zero, List.set_cons_succ]
    refine ⟨fun w => absurd rfl w, fun _ => ⟨by decide, by decide, ?_⟩⟩
    refine Ev_use (ev_count0 _ (stealN N r b) _ S C P4 _ tl has _ 1 ok2 (by decide)) ?_
    dsimp only [hN1, hB, wpI, xop, xcall, xli, xlj, xlf, xld, xla, xlg, xst, xst2, xc1, pI, pJ, pF, pD, pR, pA, p1, p0, xpop, xpush, xsm, xhas, xif, xic, xsw, xai, xal, xhi, xhv, xrf, xret, xrtl, xrtf, xrtd, xrta, xrtv, xfit, xnew, cond_true, cond_false, f40, f41, f42, f43, List.length_cons, List.length_nil, Nat.reduceAdd, Nat.reduceSub, Nat.reduceMul, Nat.reduceBEq, List.map_cons, List.map_nil, List.headD_cons, List.getElem?_cons_zero, List.getElem?_cons_succ, List.set_cons_zero, List.set_cons_succ]
    rw [cnt_1, k1, n_sub (a := pop (N.getD 0 0)) (b := b) (by omega), n_sub (a := pop (N.getD 0 0) - b) (b := pop (fallM (robN (N.getD 0 0) (N.getD 1 0) r b).1)) (by omega)]
    refine ⟨fun w => absurd (congrArg nI (by omega)) w, fun _ => ⟨by decide, by decide, ?_⟩⟩
    refine Ev_use (ev_count0 _ (stealN N r b) _ S C P4 _ tl has _ 2 ok2 (by decide)) ?_
    dsimp only [hN1, hB, wpI, xop, xcall, xli, xlj, xlf, xld, xla, xlg, xst, xst2, xc1, pI, pJ, pF, pD, pR, pA, p1, p0, xpop, xpush, xsm, xhas, xif, xic, xsw, xai, xal, xhi, xhv, xrf, xret, xrtl, xrtf, xrtd, xrta, xrtv, xfit, xnew, cond_true, cond_false, f40, f41, f42, f43, List.length_cons, List.length_nil, Nat.reduceAdd, Nat.reduceSub, Nat.reduceMul, Nat.reduceBEq, List.map_cons, List.map_nil, List.headD_cons, List.getElem?_cons_zero, List.getElem?_cons_succ, List.set_cons_zero, List.set_cons_succ]
    rw [cnt_2, k2, n_sub (a := 1) (b := N.getD 1 0) (by omega)]
    refine ⟨fun w => absurd rfl w, fun _ => ⟨by decide, by decide, ?_⟩⟩
    rw [nI_add 3 (N.getD 1 0)]
    refine Ev_use (ev_count0 _ (stealN N r b) _ S C P4 _ tl has _ (3 + N.getD 1 0) ok2 (by omega)) ?_
    dsimp only [hN1, hB, wpI, xop, xcall, xli, xlj, xlf, xld, xla, xlg, xst, xst2, xc1, pI, pJ, pF, pD, pR, pA, p1, p0, xpop, xpush, xsm, xhas, xif, xic, xsw, xai, xal, xhi, xhv, xrf, xret, xrtl, xrtf, xrtd, xrta, xrtv, xfit, xnew, cond_true, cond_false, f40, f41, f42, f43, List.length_cons, List.length_nil, Nat.reduceAdd, Nat.reduceSub, Nat.reduceMul, Nat.reduceBEq, List.map_cons, List.map_nil, List.headD_cons, List.getElem?_cons_zero, List.getElem?_cons_succ, List.set_cons_zero, List.set_cons_succ]
    rw [cnt_34 _ _ _ h1, k6, nI_add (N.getD (16 + N.getD 1 0) 0) b]
    refine ⟨fun w => absurd rfl w, fun _ => ⟨by decide, by decide, ?_⟩⟩
    refine Ev_use (ev_count0 _ (stealN N r b) _ S C P4 _ tl has _ 5 ok2 (by decide)) ?_
    dsimp only [hN1, hB, wpI, xop, xcall, xli, xlj, xlf, xld, xla, xlg, xst, xst2, xc1, pI, pJ, pF, pD, pR, pA, p1, p0, xpop, xpush, xsm, xhas, xif, xic, xsw, xai, xal, xhi, xhv, xrf, xret, xrtl, xrtf, xrtd, xrta, xrtv, xfit, xnew, cond_true, cond_false, f40, f41, f42, f43, List.length_cons, List.length_nil, Nat.reduceAdd, Nat.reduceSub, Nat.reduceMul, Nat.reduceBEq, List.map_cons, List.map_nil, List.headD_cons, List.getElem?_cons_zero, List.getElem?_cons_succ, List.set_cons_zero, List.set_cons_succ]
    rw [cnt_5, k8, nI_add (brkS N 5 0 0)]
    refine ⟨fun w => absurd rfl w, fun _ => ?_⟩
    refine hK 9 _ _ _ _ _ _ rfl rfl ?_
    dsimp only [k_Y_takes_9, hN1, hB, wpI, xop, xcall, xli, xlj, xlf, xld, xla, xlg, xst, xst2, xc1, pI, pJ, pF, pD, pR, pA, p1, p0, xpop, xpush, xsm, xhas, xif, xic, xsw, xai, xal, xhi, xhv, xrf, xret, xrtl, xrtf, xrtd, xrta, xrtv, xfit, xnew, cond_true, cond_false, f40, f41, f42, f43, List.length_cons, List.length_nil, Nat.reduceAdd, Nat.reduceSub, Nat.reduceMul, Nat.reduceBEq, List.map_cons, List.map_nil, List.headD_cons, List.getElem?_cons_zero, List.getElem?_cons_succ, List.set_cons_zero, List.set_cons_succ]
    refine br_f (by decide) ⟨rfl, by decide, by decide, (by repeat' (first | exact trivial | exact Or.inl (Nat.succ_pos _) | refine ⟨?_, ?_⟩)), (by repeat' (first | exact trivial | exact Or.inl (Nat.succ_pos _) | refine ⟨?_, ?_⟩)), ?_⟩
    refine Ev_of (ev_length0 _ (stealN N r b) _ S C P4 _ tl has _ 0 ok2 gk4 (by decide)) ?_
    rintro v h' ⟨-, rfl, P5, g5, rfl, gk5, e5, rfl⟩
    rw [if_pos rfl, ep, k1, k2]
    dsimp only [hN1, hB, wpI, xop, xcall, xli, xlj, xlf, xld, xla, xlg, xst, xst2, xc1, pI, pJ, pF, pD, pR, pA, p1, p0, xpop, xpush, xsm, xhas, xif, xic, xsw, xai, xal, xhi, xhv, xrf, xret, xrtl, xrtf, xrtd, xrta, xrtv, xfit, xnew, cond_true, cond_false, f40, f41, f42, f43, List.length_cons, List.length_nil, Nat.reduceAdd, Nat.reduceSub, Nat.reduceMul, Nat.reduceBEq, List.map_cons, List.map_nil, List.headD_cons, List.getElem?_cons_zero, List.getElem?_cons_succ, List.set_cons_zero, List.set_cons_succ]
    refine ⟨fun w => absurd ((nI_leI (by omega) (by omega)).mp w) (by omega), fun _ => ⟨rfl, by decide, by decide, (by repeat' (first | exact trivial | exact Or.inl (Nat.succ_pos _) | refine ⟨?_, ?_⟩)), (by repeat' (first | exact trivial | exact Or.inl (Nat.succ_pos _) | refine ⟨?_, ?_⟩)), ?_⟩⟩
    refine Ev_of (ev_length0 _ (stealN N r b) _ S C P5 _ tl has _ 1 ok2 gk5 (by decide)) ?_
    rintro v h' ⟨-, rfl, P6, g6, rfl, gk6, e6, rfl⟩
    rw [if_neg (by decide), ep, k1, k2]
    dsimp only [hN1, hB, wpI, xop, xcall, xli, xlj, xlf, xld, xla, xlg, xst, xst2, xc1, pI, pJ, pF, pD, pR, pA, p1, p0, xpop, xpush, xsm, xhas, xif, xic, xsw, xai, xal, xhi, xhv, xrf, xret, xrtl, xrtf, xrtd, xrta, xrtv, xfit, xnew, cond_true, cond_false, f40, f41, f42, f43, List.length_cons, List.length_nil, Nat.reduceAdd, Nat.reduceSub, Nat.reduceMul, Nat.reduceBEq, List.map_cons, List.map_nil, List.headD_cons, List.getElem?_cons_zero, List.getElem?_cons_succ, List.set_cons_zero, List.set_cons_succ]
    have hs1 : 1 ≤ shoN (plN N) (N.getD 1 0) (N.getD 0 0) := Nat.pos_of_ne_zero fun w => by
      have := p1.mpr (p2.mp w)
      omega
    rw [n_sub (a := shoN (plN N) (N.getD 1 0) (N.getD 0 0)) (b := 1) hs1]
    refine ⟨fun w => absurd ((nI_ltI (by omega) (by omega)).mp w) (by omega), fun _ => ?_⟩
    have e1t : nI 1 - nI (N.getD 1 0) = nI (1 - N.getD 1 0) := n_sub (by omega)
    have t10 : ∀ (P7 : List Value) (g7 : xH) (c s : Nat), gOk P7 g7 → c ≤ 56 → s ≤ 8000 → K 10 [some (.ref 0), some (.int (nI r)), some (.int (nI b)), some (.int (nI (N.getD 1 0))), some (.int (nI 0)), some (.int (nI (pop (fallM (robN (N.getD 0 0) (N.getD 1 0) r b).1)))), some (.int (oI (beR N 5 0))), some (.int (nI (if wonB (plN N) (N.getD 1 0) (N.getD 0 0) = true then 1 else 0))), some (.int (nI (lonN (plN N) (N.getD 1 0) (N.getD 0 0)))), some (.int (nI (shoN (plN N) (N.getD 1 0) (N.getD 0 0)))), some (.int (nI (pop (N.getD 0 0)))), some (.int (nI (N.getD (16 + N.getD 1 0) 0))), some (.int (nI (brkS N 5 0 0))), some (.int (nI (pop (fallM (robN (N.getD 0 0) (N.getD 1 0) r b).1)))), some (.int (nI 1))] [] (hB (stealN N r b) (saveV N V sv) S C P7 (saveS sv) tl has g7) c s := by
      intro P7 g7 c s gk7 hc hs
      have t11 : ∀ (P8 : List Value) (g8 : xH) (L : xL) (c s : Nat), gOk P8 g8 → c ≤ 60 → s ≤ 9000 → K 11 L [] (hB (stealN N r b) (saveV N V sv) S C P8 (saveS sv) tl has g8) c s := by
        intro P8 g8 L c s gk8 hc hs
        refine hK 11 _ _ _ _ _ _ rfl rfl ?_
        dsimp only [k_Y_takes_11, hN1, hB, wpI, xop, xcall, xli, xlj, xlf, xld, xla, xlg, xst, xst2, xc1, pI, pJ, pF, pD, pR, pA, p1, p0, xpop, xpush, xsm, xhas, xif, xic, xsw, xai, xal, xhi, xhv, xrf, xret, xrtl, xrtf, xrtd, xrta, xrtv, xfit, xnew, cond_true, cond_false, f40, f41, f42, f43, List.length_cons, List.length_nil, Nat.reduceAdd, Nat.reduceSub, Nat.reduceMul, Nat.reduceBEq, List.map_cons, List.map_nil, List.headD_cons, List.getElem?_cons_zero, List.getElem?_cons_succ, List.set_cons_zero, List.set_cons_succ]
        refine hK 13 _ _ _ _ _ _ rfl rfl ?_
        dsimp only [k_Y_takes_13, hN1, hB, wpI, xop, xcall, xli, xlj, xlf, xld, xla, xlg, xst, xst2, xc1, pI, pJ, pF, pD, pR, pA, p1, p0, xpop, xpush, xsm, xhas, xif, xic, xsw, xai, xal, xhi, xhv, xrf, xret, xrtl, xrtf, xrtd, xrta, xrtv, xfit, xnew, cond_true, cond_false, f40, f41, f42, f43, List.length_cons, List.length_nil, Nat.reduceAdd, Nat.reduceSub, Nat.reduceMul, Nat.reduceBEq, List.map_cons, List.map_nil, List.headD_cons, List.getElem?_cons_zero, List.getElem?_cons_succ, List.set_cons_zero, List.set_cons_succ]
        exact ⟨Or.inr rfl, hc, hs, hQ _ _ _ _ _ okl2 hV2 hs2 gk8⟩
      refine hK 10 _ _ _ _ _ _ rfl rfl ?_
      dsimp only [k_Y_takes_10, hN1, hB, wpI, xop, xcall, xli, xlj, xlf, xld, xla, xlg, xst, xst2, xc1, pI, pJ, pF, pD, pR, pA, p1, p0, xpop, xpush, xsm, xhas, xif, xic, xsw, xai, xal, xhi, xhv, xrf, xret, xrtl, xrtf, xrtd, xrta, xrtv, xfit, xnew, cond_true, cond_false, f40, f41, f42, f43, List.length_cons, List.length_nil, Nat.reduceAdd, Nat.reduceSub, Nat.reduceMul, Nat.reduceBEq, List.map_cons, List.map_nil, List.headD_cons, List.getElem?_cons_zero, List.getElem?_cons_succ, List.set_cons_zero, List.set_cons_succ]
      rw [pk_mul, nI_add (10 * r) b, e1t]
      refine ⟨fun _ => t11 _ _ _ _ _ gk7 (by omega) (by omega), fun w => ⟨rfl, by omega, by omega, (by repeat' (first | exact trivial | exact Or.inl (Nat.succ_pos _) | refine ⟨?_, ?_⟩)), (by repeat' (first | exact trivial | exact Or.inl (Nat.succ_pos _) | refine ⟨?_, ?_⟩)), ?_⟩⟩
      refine Ev_of (ev_wins0 _ (stealN N r b) _ S C P7 _ tl has _ _ ok2 gk7 (show 1 - N.getD 1 0 < 2 by omega)) ?_
      rintro v h' ⟨-, rfl, P8, g8, rfl, gk8, e8, rfl⟩
      have hbe : beR N 5 0 = some (10 * r + b) := by
        cases hb9 : beR N 5 0 with
        | none =>
          rw [hb9] at w
          exact absurd (show (-1 : Int32) = nI (10 * r + b) from w).symm (fun y => (n_m1e (by omega)).mp y)
        | some v =>
          obtain ⟨r', b', v1, v2, v3, v4, -⟩ := p7 v hb9
          rw [hb9] at w
          rw [(n_eq (by omega) (by omega)).mp (show nI v = nI (10 * r + b) from w)]
      rw [ep, k1, g4' hbe]
      dsimp only [hN1, hB, wpI, xop, xcall, xli, xlj, xlf, xld, xla, xlg, xst, xst2, xc1, pI, pJ, pF, pD, pR, pA, p1, p0, xpop, xpush, xsm, xhas, xif, xic, xsw, xai, xal, xhi, xhv, xrf, xret, xrtl, xrtf, xrtd, xrta, xrtv, xfit, xnew, cond_true, cond_false, f40, f41, f42, f43, List.length_cons, List.length_nil, Nat.reduceAdd, Nat.reduceSub, Nat.reduceMul, Nat.reduceBEq, List.map_cons, List.map_nil, List.headD_cons, List.getElem?_cons_zero, List.getElem?_cons_succ, List.set_cons_zero, List.set_cons_succ]
      exact ⟨fun y => absurd rfl y, fun _ => t11 _ _ _ _ _ gk8 (by omega) (by omega)⟩
    by_cases hw : wonB (plN N) (N.getD 1 0) (N.getD 0 0) = true
    · refine ⟨fun _ => t10 _ _ _ _ gk6 (by decide) (by decide), fun y => absurd (by rw [hw]; rfl) y⟩
    · refine ⟨fun y => absurd y (by rw [if_neg hw]; decide), fun _ => ⟨rfl, by decide, by decide, (by repeat' (first | exact trivial | exact Or.inl (Nat.succ_pos _) | refine ⟨?_, ?_⟩)), (by repeat' (first | exact trivial | exact Or.inl (Nat.succ_pos _) | refine ⟨?_, ?_⟩)), ?_⟩⟩
      rw [e1t]
      refine Ev_of (ev_wins0 _ (stealN N r b) _ S C P6 _ tl has _ _ ok2 gk6 (show 1 - N.getD 1 0 < 2 by omega)) ?_
      rintro v h' ⟨-, rfl, P7, g7, rfl, gk7, e7, rfl⟩
      rw [ep, k1, g3'.resolve_left hw]
      dsimp only [hN1, hB, wpI, xop, xcall, xli, xlj, xlf, xld, xla, xlg, xst, xst2, xc1, pI, pJ, pF, pD, pR, pA, p1, p0, xpop, xpush, xsm, xhas, xif, xic, xsw, xai, xal, xhi, xhv, xrf, xret, xrtl, xrtf, xrtd, xrta, xrtv, xfit, xnew, cond_true, cond_false, f40, f41, f42, f43, List.length_cons, List.length_nil, Nat.reduceAdd, Nat.reduceSub, Nat.reduceMul, Nat.reduceBEq, List.map_cons, List.map_nil, List.headD_cons, List.getElem?_cons_zero, List.getElem?_cons_succ, List.set_cons_zero, List.set_cons_succ]
      exact ⟨fun y => absurd rfl y, fun _ => t10 _ _ _ _ gk7 (by decide) (by decide)⟩
  · have hrw := rsn_lt N r b
    refine hC (1, 4, 1, 6, false, E_act sc) List.mem_cons_self [.ref 0, .int (nI 0), .int (nI r), .int (nI b)] [] _ _ _ _ (fun v h' => v = some (.int (if N.getD 3 0 < b then -102 else -103)) ∧ h' = hB N V S C P4 sv tl has (g ++ e1 ++ e2 ++ e3 ++ e4)) rfl (by decide) (Nat.le_of_ble_eq_true rfl) (Nat.le_of_ble_eq_true rfl) (fun z => nomatch z) (ac_take N V S C P4 sv tl has _ (nI r) (nI b) ok hV hs6 (fun w => ?_) (fun w => ?_) (fun w => ?_) (fun w => ?_)) ?_
    · rw [tE, if_neg z] at w
      split at w <;> exact nomatch w
    · rw [tE, if_neg z] at w
      split at w <;> exact nomatch w
    · refine ⟨?_, rfl⟩
      rw [tE, if_neg z] at w
      by_cases y : N.getD 3 0 < b
      · rw [if_pos y]
      · rw [if_neg y] at w
        exact nomatch w
    · refine ⟨?_, rfl⟩
      rw [tE, if_neg z] at w
      by_cases y : N.getD 3 0 < b
      · rw [if_pos y] at w
        exact nomatch w
      · rw [if_neg y]
    rintro v h' ⟨rfl, rfl⟩
    have t4 : ∀ (x : Int32) (c s : Nat) (a4 a5 a6 a7 a8 a9 a11 a12 a13 a14 : Option Value), c ≤ 50 → s ≤ 8000 → K 4 [some (.ref 0), some (.int (nI r)), some (.int (nI b)), some (.int (nI (N.getD 1 0))), a4, a5, a6, a7, a8, a9, some (.int (nI (pop (N.getD 0 0)))), a11, a12, a13, a14] [.int x, .int x] (hB N V S C P4 sv tl has (g ++ e1 ++ e2 ++ e3 ++ e4)) c s := by
      intro x c s a4 a5 a6 a7 a8 a9 a11 a12 a13 a14 hc hs
      refine hK 4 _ _ _ _ _ _ rfl rfl ?_
      dsimp only [k_Y_takes_4, hN1, hB, wpI, xop, xcall, xli, xlj, xlf, xld, xla, xlg, xst, xst2, xc1, pI, pJ, pF, pD, pR, pA, p1, p0, xpop, xpush, xsm, xhas, xif, xic, xsw, xai, xal, xhi, xhv, xrf, xret, xrtl, xrtf, xrtd, xrta, xrtv, xfit, xnew, cond_true, cond_false, f40, f41, f42, f43, List.length_cons, List.length_nil, Nat.reduceAdd, Nat.reduceSub, Nat.reduceMul, Nat.reduceBEq, List.map_cons, List.map_nil, List.headD_cons, List.getElem?_cons_zero, List.getElem?_cons_succ, List.set_cons_zero, List.set_cons_succ]
      refine ⟨fun w => absurd rfl w, fun _ => ⟨by omega, by omega, ?_⟩⟩
      refine Ev_use (ev_count0 _ N V S C P4 sv tl has _ 1 ok (by decide)) ?_
      dsimp only [hN1, hB, wpI, xop, xcall, xli, xlj, xlf, xld, xla, xlg, xst, xst2, xc1, pI, pJ, pF, pD, pR, pA, p1, p0, xpop, xpush, xsm, xhas, xif, xic, xsw, xai, xal, xhi, xhv, xrf, xret, xrtl, xrtf, xrtd, xrta, xrtv, xfit, xnew, cond_true, cond_false, f40, f41, f42, f43, List.length_cons, List.length_nil, Nat.reduceAdd, Nat.reduceSub, Nat.reduceMul, Nat.reduceBEq, List.map_cons, List.map_nil, List.headD_cons, List.getElem?_cons_zero, List.getElem?_cons_succ, List.set_cons_zero, List.set_cons_succ]
      rw [cnt_1]
      refine ⟨fun w => absurd rfl w, fun _ => ⟨by omega, by omega, ?_⟩⟩
      refine Ev_use (ev_count0 _ N V S C P4 sv tl has _ 2 ok (by decide)) ?_
      dsimp only [hN1, hB, wpI, xop, xcall, xli, xlj, xlf, xld, xla, xlg, xst, xst2, xc1, pI, pJ, pF, pD, pR, pA, p1, p0, xpop, xpush, xsm, xhas, xif, xic, xsw, xai, xal, xhi, xhv, xrf, xret, xrtl, xrtf, xrtd, xrta, xrtv, xfit, xnew, cond_true, cond_false, f40, f41, f42, f43, List.length_cons, List.length_nil, Nat.reduceAdd, Nat.reduceSub, Nat.reduceMul, Nat.reduceBEq, List.map_cons, List.map_nil, List.headD_cons, List.getElem?_cons_zero, List.getElem?_cons_succ, List.set_cons_zero, List.set_cons_succ]
      rw [cnt_2]
      refine ⟨fun w => absurd rfl w, fun _ => ?_⟩
      refine hK 6 _ _ _ _ _ _ rfl rfl ?_
      dsimp only [k_Y_takes_6, hN1, hB, wpI, xop, xcall, xli, xlj, xlf, xld, xla, xlg, xst, xst2, xc1, pI, pJ, pF, pD, pR, pA, p1, p0, xpop, xpush, xsm, xhas, xif, xic, xsw, xai, xal, xhi, xhv, xrf, xret, xrtl, xrtf, xrtd, xrta, xrtv, xfit, xnew, cond_true, cond_false, f40, f41, f42, f43, List.length_cons, List.length_nil, Nat.reduceAdd, Nat.reduceSub, Nat.reduceMul, Nat.reduceBEq, List.map_cons, List.map_nil, List.headD_cons, List.getElem?_cons_zero, List.getElem?_cons_succ, List.set_cons_zero, List.set_cons_succ]
      exact ⟨Or.inr rfl, by omega, by omega, hQ _ _ _ _ _ (okL_le ⟨ok, hm, l1, l2, l3, l4, l5⟩ (by omega)) hV hs6 gk4⟩
    refine hK 2 _ _ _ _ _ _ rfl rfl ?_
    dsimp only [k_Y_takes_2, hN1, hB, wpI, xop, xcall, xli, xlj, xlf, xld, xla, xlg, xst, xst2, xc1, pI, pJ, pF, pD, pR, pA, p1, p0, xpop, xpush, xsm, xhas, xif, xic, xsw, xai, xal, xhi, xhv, xrf, xret, xrtl, xrtf, xrtd, xrta, xrtv, xfit, xnew, cond_true, cond_false, f40, f41, f42, f43, List.length_cons, List.length_nil, Nat.reduceAdd, Nat.reduceSub, Nat.reduceMul, Nat.reduceBEq, List.map_cons, List.map_nil, List.headD_cons, List.getElem?_cons_zero, List.getElem?_cons_succ, List.set_cons_zero, List.set_cons_succ]
    refine ⟨fun w => absurd ((n_q0 (by omega)).mp w) z, fun _ => ⟨by decide, by decide, ?_⟩⟩
    refine Ev_use (ev_setting0 _ N _ _ 0 hN (by decide)) ?_
    dsimp only [hN1, hB, wpI, xop, xcall, xli, xlj, xlf, xld, xla, xlg, xst, xst2, xc1, pI, pJ, pF, pD, pR, pA, p1, p0, xpop, xpush, xsm, xhas, xif, xic, xsw, xai, xal, xhi, xhv, xrf, xret, xrtl, xrtf, xrtd, xrta, xrtv, xfit, xnew, cond_true, cond_false, f40, f41, f42, f43, List.length_cons, List.length_nil, Nat.reduceAdd, Nat.reduceSub, Nat.reduceMul, Nat.reduceBEq, List.map_cons, List.map_nil, List.headD_cons, List.getElem?_cons_zero, List.getElem?_cons_succ, List.set_cons_zero, List.set_cons_succ]
    by_cases y : N.getD 3 0 < b
    · rw [if_pos y]
      exact ⟨fun w => absurd ((nI_leI (by omega) (by omega)).mp w) (by omega), fun _ => t4 _ _ _ _ _ _ _ _ _ _ _ _ _ (by decide) (by decide)⟩
    · rw [if_neg y]
      refine ⟨fun _ => ?_, fun w => absurd ((nI_leI (by omega) (by omega)).mpr (by omega)) w⟩
      refine hK 3 _ _ _ _ _ _ rfl rfl ?_
      dsimp only [k_Y_takes_3, hN1, hB, wpI, xop, xcall, xli, xlj, xlf, xld, xla, xlg, xst, xst2, xc1, pI, pJ, pF, pD, pR, pA, p1, p0, xpop, xpush, xsm, xhas, xif, xic, xsw, xai, xal, xhi, xhv, xrf, xret, xrtl, xrtf, xrtd, xrta, xrtv, xfit, xnew, cond_true, cond_false, f40, f41, f42, f43, List.length_cons, List.length_nil, Nat.reduceAdd, Nat.reduceSub, Nat.reduceMul, Nat.reduceBEq, List.map_cons, List.map_nil, List.headD_cons, List.getElem?_cons_zero, List.getElem?_cons_succ, List.set_cons_zero, List.set_cons_succ]
      exact t4 _ _ _ _ _ _ _ _ _ _ _ _ _ (by decide) (by decide)
