theorem gOk_0 : gOk (List.replicate 12 .null) (tl9 sM00 (List.replicate 114 0) (List.replicate 19 0) (List.replicate 60 0) (List.replicate 120 0) (List.replicate 1056 0) (-1) 0 0 0 0 0 false 0 []) := by
  refine ⟨rfl, fun i hi => Or.inl ?_, ?_, ?_, ?_⟩
  · match i, hi with
    | 0, _ => rfl
    | 1, _ => rfl
    | 2, _ => rfl
    | 3, _ => rfl
    | 4, _ => rfl
    | 5, _ => rfl
    | 6, _ => rfl
    | 7, _ => rfl
    | 8, _ => rfl
    | 9, _ => rfl
    | 10, _ => rfl
    | 11, _ => rfl
    | n + 12, h => omega
  · exact ⟨trivial, trivial, trivial, trivial, trivial, trivial, trivial, trivial, trivial, trivial, trivial, trivial, trivial⟩
  · refine ⟨⟨Or.inl ?_, Or.inl ?_, Or.inl ?_, Or.inl ?_, Or.inl ?_, Or.inl ?_, Or.inl ?_, trivial, trivial, trivial, trivial, trivial, trivial, trivial, trivial⟩, trivial, trivial, trivial, trivial, trivial, trivial, trivial, ⟨trivial, trivial⟩, trivial⟩ <;> (show _ < 16; decide)
  · show 9 + 4 * 12 ≤ 700
    decide
theorem rp_get (n j : Nat) : (List.replicate n 0).getD j 0 = 0 := by
  simp [List.getElem?_replicate]
  split <;> rfl
theorem LJ_0 : LJ 0 N00 (List.replicate 108 0) (List.replicate 18 0) (List.replicate 60 0) (List.replicate 12 .null) 0 0 false (List.replicate 114 0) (List.replicate 19 0) (List.replicate 120 0) (List.replicate 1056 0) (-1) 0 0 0 0 [] := by
  refine ⟨⟨⟨rfl, by decide, by decide, by decide, by decide, by decide, by decide⟩, shp_full, by decide⟩, ⟨List.length_replicate, List.length_replicate, by decide, fun j hj => absurd hj (Nat.not_lt_zero j)⟩, ⟨List.length_replicate, List.length_replicate, nofun⟩, ⟨List.length_replicate, fun j => ?_, by decide⟩, List.length_replicate, tdI_0, gOk_0⟩
  rw [rp_get]
  decide
set_option maxRecDepth 100000 in
set_option maxHeartbeats 4000000 in
theorem law_ev {lst : List Int32} (hl : lst.length ≤ 1536) : EvL lst := by
  intro K hK hC
  show K 0 [some (.ref 1001), none, none, none, none, none, none, none, none] [] [] 0 0
  refine hK 0 _ _ _ _ _ _ rfl rfl ?_
  dsimp only [k_law_0, hN1, hB, hM1, hM, wpI, xop, xcall, xli, xlj, xlf, xld, xla, xlg, xst, xst2, xc1, pI, pJ, pF, pD, pR, pA, p1, p0, xpop, xpush, xsm, xhas, xif, xic, xsw, xai, xal, xhi, xhv, xrf, xret, xrtl, xrtf, xrtd, xrta, xrtv, xfit, xnew, cond_true, cond_false, f40, f41, f42, f43, List.length_cons, List.length_nil, Nat.reduceAdd, Nat.reduceSub, Nat.reduceMul, Nat.reduceBEq, List.map_cons, List.map_nil, List.headD_cons, List.getElem?_cons_zero, List.getElem?_cons_succ, List.set_cons_zero, List.set_cons_succ]
  refine ⟨rfl, by decide, by decide, by decide, ⟨Or.inr (by decide), trivial⟩, trivial, trivial, rfl, by decide, by decide, ⟨Or.inr (by decide), trivial⟩, ⟨Or.inl (by decide), trivial⟩, ?_⟩
  refine Ev_use (ev_B_init 11) ?_
  dsimp only [List.cons_append, List.nil_append, hN1, hB, hM1, hM, wpI, xop, xcall, xli, xlj, xlf, xld, xla, xlg, xst, xst2, xc1, pI, pJ, pF, pD, pR, pA, p1, p0, xpop, xpush, xsm, xhas, xif, xic, xsw, xai, xal, xhi, xhv, xrf, xret, xrtl, xrtf, xrtd, xrta, xrtv, xfit, xnew, cond_true, cond_false, f40, f41, f42, f43, List.length_cons, List.length_nil, Nat.reduceAdd, Nat.reduceSub, Nat.reduceMul, Nat.reduceBEq, List.map_cons, List.map_nil, List.headD_cons, List.getElem?_cons_zero, List.getElem?_cons_succ, List.set_cons_zero, List.set_cons_succ]
  refine ⟨rfl, by decide, by decide, by decide, ⟨Or.inr (by decide), Or.inl (by decide), trivial⟩, trivial, ?_, rfl, by decide, by decide, ⟨Or.inr (by decide), Or.inl (by decide), trivial⟩, ⟨Or.inl (by decide), trivial⟩, ?_⟩
  · refine ⟨⟨Or.inl (by decide), Or.inl (by decide), trivial, Or.inl (by decide), trivial, Or.inl (by decide), trivial, Or.inl (by decide), Or.inl (by decide), trivial⟩, trivial, trivial, trivial, trivial, trivial, ⟨trivial, trivial, trivial, trivial, trivial, trivial, trivial, trivial, trivial, trivial, trivial, trivial, trivial⟩, trivial⟩
  refine Ev_use (ev_M_init 16 (zB N00 (List.replicate 108 0) (List.replicate 18 0) (List.replicate 60 0) (List.replicate 12 .null) 0 0 false) ?_) ?_
  · refine ⟨⟨Or.inl (by decide), Or.inl (by decide), trivial, Or.inl (by decide), trivial, Or.inl (by decide), trivial, Or.inl (by decide), Or.inl (by decide), trivial⟩, trivial, trivial, trivial, trivial, trivial, ⟨trivial, trivial, trivial, trivial, trivial, trivial, trivial, trivial, trivial, trivial, trivial, trivial, trivial⟩, trivial⟩
  dsimp only [List.cons_append, List.nil_append, hN1, hB, hM1, hM, wpI, xop, xcall, xli, xlj, xlf, xld, xla, xlg, xst, xst2, xc1, pI, pJ, pF, pD, pR, pA, p1, p0, xpop, xpush, xsm, xhas, xif, xic, xsw, xai, xal, xhi, xhv, xrf, xret, xrtl, xrtf, xrtd, xrta, xrtv, xfit, xnew, cond_true, cond_false, f40, f41, f42, f43, List.length_cons, List.length_nil, Nat.reduceAdd, Nat.reduceSub, Nat.reduceMul, Nat.reduceBEq, List.map_cons, List.map_nil, List.headD_cons, List.getElem?_cons_zero, List.getElem?_cons_succ, List.set_cons_zero, List.set_cons_succ]
  rw [show (nI 1).toNatClampNeg = 1 by decide +kernel]
  refine ⟨by decide, by decide, rfl, by decide, by decide, by decide, ⟨Or.inr (by decide), Or.inl (by decide), Or.inl (by decide), trivial⟩, trivial, ?_, ?_⟩
  · refine ⟨⟨Or.inl (by decide), Or.inl (by decide), trivial, Or.inl (by decide), trivial, Or.inl (by decide), trivial, Or.inl (by decide), Or.inl (by decide), trivial⟩, trivial, trivial, trivial, trivial, trivial, ⟨trivial, trivial, trivial, trivial, trivial, trivial, trivial, trivial, trivial, trivial, trivial, trivial, trivial⟩,
      ⟨Or.inl (by decide), Or.inl (by decide), Or.inl (by decide), Or.inl (by decide), Or.inl (by decide), Or.inl (by decide), Or.inl (by decide), trivial, trivial, trivial, trivial, trivial, trivial, trivial, trivial⟩, trivial, trivial, trivial, trivial, trivial, trivial, trivial, trivial⟩
  · have e1 : (xdef 1).length = 9 := rfl
    have e2 : (xdef 2).length = 14 := rfl
    rw [e1, e2]
    exact law_loop hK hC hl 513 0 (hB N00 (List.replicate 108 0) (List.replicate 18 0) (List.replicate 60 0) (List.replicate 12 .null) 0 0 false (tl9 sM00 (List.replicate 114 0) (List.replicate 19 0) (List.replicate 60 0) (List.replicate 120 0) (List.replicate 1056 0) (-1) 0 0 0 0 0 false 0 [])) none none none none 16 _ rfl (fun n => trivial) (by decide) (by decide) (LI_mk rfl LJ_0)
