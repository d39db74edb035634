/-! ===== the class: a new object ===== -/
def N00 : List Nat := ((List.replicate 18 0).set 0 32767).set 3 1
set_option maxRecDepth 100000 in
set_option maxHeartbeats 4000000 in
theorem ev_B_init (d : Nat) : Ev xT (d + 9) N_B_init [.ref 0] [(6, [], [.null, .null, .int 0, .null, .int 0, .null, .int 0, .null, .null])] (Rt none (hB N00 (List.replicate 108 0) (List.replicate 18 0) (List.replicate 60 0) (List.replicate 12 .null) 0 0 false [])) NX := by
  refine Ev_intro t_B_init (Nat.le_of_ble_eq_true rfl) ?_
  intro Q X hQ hX K hK
  show K 0 [some (.ref 0)] [] _ 0 0
  have hq := hQ _ _ ⟨rfl, rfl⟩
  have c18 : (nI 18).toNatClampNeg = 18 := by decide +kernel
  have c108 : (nI 108).toNatClampNeg = 108 := by decide +kernel
  have c60 : (nI 60).toNatClampNeg = 60 := by decide +kernel
  have c12 : (nI 12).toNatClampNeg = 12 := by decide +kernel
  refine hK 0 _ _ _ _ _ _ _ _ rfl ?_
  dsimp only [k_B_init_0, hN1, hB, wpI, xop, xcall, xli, xlj, xlf, xld, xla, xlg, xst, xst2, xc1, pI, pJ, pF, pD, pR, pA, p1, p0, xpop, xpush, xsm, xhas, xif, xic, xsw, xai, xal, xhi, xhv, xrf, xret, xrtl, xrtf, xrtd, xrta, xrtv, xfit, xnew, cond_true, cond_false, f40, f41, f42, f43, List.length_cons, List.length_nil, Nat.reduceAdd, Nat.reduceSub, Nat.reduceMul, Nat.reduceBEq, List.map_cons, List.map_nil, List.headD_cons, List.getElem?_cons_zero, List.getElem?_cons_succ, List.set_cons_zero, List.set_cons_succ, xtag, List.cons_append, List.nil_append]
  rw [c18, c108, c60]
  refine ⟨by decide, by decide, by trivial, by decide, by decide, by decide, ⟨wr (by decide), trivial⟩, ⟨wr (by decide), trivial⟩, by simp [xwH, xwS, wfv], ?_⟩
  refine ⟨by decide, by decide, by trivial, by decide, by decide, by decide, ⟨wr (by decide), trivial⟩, ⟨wr (by decide), trivial⟩, by simp [xwH, xwS, wfv], ?_⟩
  refine ⟨by decide, by decide, by trivial, by decide, by decide, by decide, ⟨wr (by decide), trivial⟩, ⟨wr (by decide), trivial⟩, by simp [xwH, xwS, wfv], ?_⟩
  refine ⟨Or.inl rfl, ?_⟩
  refine ⟨by decide, by decide, by trivial, by decide, by decide, by decide, ⟨wr (by decide), trivial⟩, ⟨wr (by decide), trivial⟩, by simp [xwH, xwS, wfv], ?_⟩
  refine ⟨by trivial, by decide, by decide, ⟨wr (by decide), trivial⟩, ⟨wr (by decide), trivial⟩, ?_⟩
  refine Ev_use (ev_allShapes _ _ (by decide) (by simp [xwH, xwS, wfv])) ?_
  dsimp only [hN1, hB, wpI, xop, xcall, xli, xlj, xlf, xld, xla, xlg, xst, xst2, xc1, pI, pJ, pF, pD, pR, pA, p1, p0, xpop, xpush, xsm, xhas, xif, xic, xsw, xai, xal, xhi, xhv, xrf, xret, xrtl, xrtf, xrtd, xrta, xrtv, xfit, xnew, cond_true, cond_false, f40, f41, f42, f43, List.length_cons, List.length_nil, Nat.reduceAdd, Nat.reduceSub, Nat.reduceMul, Nat.reduceBEq, List.map_cons, List.map_nil, List.headD_cons, List.getElem?_cons_zero, List.getElem?_cons_succ, List.set_cons_zero, List.set_cons_succ, xtag, List.cons_append, List.nil_append]
  rw [c12]
  refine ⟨by decide, by decide, by trivial, by decide, by decide, by decide, ⟨wr (by decide), trivial⟩, ⟨wr (by decide), trivial⟩, by simp [xwH, xwS, wfv], ?_⟩
  have e1 : ((List.replicate 18 (0 : Int32)).set (nI 0).toNatClampNeg (nI 32767)).set (nI 3).toNatClampNeg (nI 1) = N00.map nI := by decide +kernel
  have e2 : ∀ n, List.replicate n (0 : Int32) = (List.replicate n 0).map nI := fun n => by rw [List.map_replicate]; rfl
  refine ⟨(n_in (by decide)).mpr (by decide), (n_in (by decide)).mpr (by decide), by decide, by decide, ?_⟩
  rw [e1, e2 108, e2 18, e2 60]
  exact hq
