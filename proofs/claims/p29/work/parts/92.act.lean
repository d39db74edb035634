/-! ===== the law's act: a call that catches, by its number ===== -/
theorem take_code (N : List Nat) (x y : Int32) : takeE N x y = 0 ∨ takeE N x y = 10 ∨ takeE N x y = 11 ∨ takeE N x y = 12 := by
  unfold takeE
  (repeat' split) <;> simp
set_option maxRecDepth 100000 in
set_option maxHeartbeats 4000000 in
theorem ac_take {sc : Option (List Int32)} {Q : Option Value → xH → Prop} (N V S C : List Nat) (P : List Value) (sv tl : Nat) (has : Bool) (g : xH) (x y : Int32) (ok : stN N) (hV : V.length = 108) (hs : sv ≤ 6)
    (k0 : takeE N x y = 0 → Q (some (.int (nI (pop (fallM (robN (N.getD 0 0) (N.getD 1 0) x.toNatClampNeg y.toNatClampNeg).1))))) (hB (stealN N x.toNatClampNeg y.toNatClampNeg) (saveV N V sv) S C P (saveS sv) tl has g)) (k10 : takeE N x y = 10 → Q (some (.int (-101))) (hB N V S C P sv tl has g)) (k11 : takeE N x y = 11 → Q (some (.int (-102))) (hB N V S C P sv tl has g)) (k12 : takeE N x y = 12 → Q (some (.int (-103))) (hB N V S C P sv tl has g)) : E_act sc [.ref 0, .int (nI 0), .int x, .int y] (hB N V S C P sv tl has g) Q := by
  refine ⟨Nat.le_of_ble_eq_true rfl, ?_⟩
  intro K hK hC
  show K 0 [some (.ref 0), some (.int (nI 0)), some (.int x), some (.int y)] [] (hB N V S C P sv tl has g) 0 0
  refine hK 0 _ _ _ _ _ _ rfl rfl ?_
  dsimp only [k_Y_act_0, hN1, hB, wpI, xop, xcall, xli, xlj, xlf, xld, xla, xlg, xst, xst2, xc1, pI, pJ, pF, pD, pR, pA, p1, p0, xpop, xpush, xsm, xhas, xif, xic, xsw, xai, xal, xhi, xhv, xrf, xret, xrtl, xrtf, xrtd, xrta, xrtv, xfit, xnew, cond_true, cond_false, f40, f41, f42, f43, List.length_cons, List.length_nil, Nat.reduceAdd, Nat.reduceSub, Nat.reduceMul, Nat.reduceBEq, List.map_cons, List.map_nil, List.headD_cons, List.getElem?_cons_zero, List.getElem?_cons_succ, List.set_cons_zero, List.set_cons_succ, List.map]
  refine ⟨fun _ => ?_, fun z => absurd rfl z⟩
  refine hK 1 _ _ _ _ _ _ rfl rfl ?_
  dsimp only [k_Y_act_1, hN1, hB, wpI, xop, xcall, xli, xlj, xlf, xld, xla, xlg, xst, xst2, xc1, pI, pJ, pF, pD, pR, pA, p1, p0, xpop, xpush, xsm, xhas, xif, xic, xsw, xai, xal, xhi, xhv, xrf, xret, xrtl, xrtf, xrtd, xrta, xrtv, xfit, xnew, cond_true, cond_false, f40, f41, f42, f43, List.length_cons, List.length_nil, Nat.reduceAdd, Nat.reduceSub, Nat.reduceMul, Nat.reduceBEq, List.map_cons, List.map_nil, List.headD_cons, List.getElem?_cons_zero, List.getElem?_cons_succ, List.set_cons_zero, List.set_cons_succ]
  refine hC (2, 3, 1, 6, false, E_take) List.mem_cons_self [.ref 0, .int x, .int y] [] _ _ 0 0 (fun v h' => Q v h' ∧ ∃ r : Int32, v = some (.int r)) rfl (by decide) (by decide) (by decide) (fun z => nomatch z) ⟨Nat.le_of_ble_eq_true rfl, w_take ⟨_, _, rfl⟩ (ev_take 16 N V S C P sv tl has g x y ok hV hs) ?_ ?_⟩ ?_
  · rintro v h' ⟨e1, rfl, rfl⟩
    exact ⟨_, rfl, k0 e1, _, rfl⟩
  · rintro k h' ⟨e1, rfl, rfl⟩
    rcases take_code N x y with e | e | e | e
    · exact absurd e e1
    · exact Or.inl ⟨e, k10 e, _, rfl⟩
    · exact Or.inr (Or.inl ⟨e, k11 e, _, rfl⟩)
    · exact Or.inr (Or.inr (⟨e, k12 e, _, rfl⟩))
  · rintro v h' ⟨q, r, rfl⟩
    refine hK 3 _ _ _ _ _ _ rfl rfl ?_
    dsimp only [k_Y_act_3, hN1, hB, wpI, xop, xcall, xli, xlj, xlf, xld, xla, xlg, xst, xst2, xc1, pI, pJ, pF, pD, pR, pA, p1, p0, xpop, xpush, xsm, xhas, xif, xic, xsw, xai, xal, xhi, xhv, xrf, xret, xrtl, xrtf, xrtd, xrta, xrtv, xfit, xnew, cond_true, cond_false, f40, f41, f42, f43, List.length_cons, List.length_nil, Nat.reduceAdd, Nat.reduceSub, Nat.reduceMul, Nat.reduceBEq, List.map_cons, List.map_nil, List.headD_cons, List.getElem?_cons_zero, List.getElem?_cons_succ, List.set_cons_zero, List.set_cons_succ]
    exact ⟨by decide, by decide, q⟩
theorem knock_code (N : List Nat) (x y : Int32) : knockE N x y = 0 ∨ knockE N x y = 10 ∨ knockE N x y = 12 := by
  unfold knockE
  (repeat' split) <;> simp
set_option maxRecDepth 100000 in
set_option maxHeartbeats 4000000 in
theorem ac_knock {sc : Option (List Int32)} {Q : Option Value → xH → Prop} (N V S C : List Nat) (P : List Value) (sv tl : Nat) (has : Bool) (g : xH) (x y : Int32) (ok : stN N) (hV : V.length = 108) (hs : sv ≤ 6)
    (k0 : knockE N x y = 0 → Q (some (.int (nI (pop (fallM (N.getD 0 0 &&& ((1 <<< (rsN x.toNatClampNeg + y.toNatClampNeg)) ^^^ 4294967295))))))) (hB (knockN N x.toNatClampNeg y.toNatClampNeg) (saveV N V sv) S C P (saveS sv) tl has g)) (k10 : knockE N x y = 10 → Q (some (.int (-101))) (hB N V S C P sv tl has g)) (k12 : knockE N x y = 12 → Q (some (.int (-103))) (hB N V S C P sv tl has g)) : E_act sc [.ref 0, .int (nI 1), .int x, .int y] (hB N V S C P sv tl has g) Q := by
  refine ⟨Nat.le_of_ble_eq_true rfl, ?_⟩
  intro K hK hC
  show K 0 [some (.ref 0), some (.int (nI 1)), some (.int x), some (.int y)] [] (hB N V S C P sv tl has g) 0 0
  refine hK 0 _ _ _ _ _ _ rfl rfl ?_
  dsimp only [k_Y_act_0, hN1, hB, wpI, xop, xcall, xli, xlj, xlf, xld, xla, xlg, xst, xst2, xc1, pI, pJ, pF, pD, pR, pA, p1, p0, xpop, xpush, xsm, xhas, xif, xic, xsw, xai, xal, xhi, xhv, xrf, xret, xrtl, xrtf, xrtd, xrta, xrtv, xfit, xnew, cond_true, cond_false, f40, f41, f42, f43, List.length_cons, List.length_nil, Nat.reduceAdd, Nat.reduceSub, Nat.reduceMul, Nat.reduceBEq, List.map_cons, List.map_nil, List.headD_cons, List.getElem?_cons_zero, List.getElem?_cons_succ, List.set_cons_zero, List.set_cons_succ, List.map]
  refine ⟨fun z => absurd z (by decide), fun _ => ⟨fun _ => ?_, fun z => absurd rfl z⟩⟩
  refine hK 4 _ _ _ _ _ _ rfl rfl ?_
  dsimp only [k_Y_act_4, hN1, hB, wpI, xop, xcall, xli, xlj, xlf, xld, xla, xlg, xst, xst2, xc1, pI, pJ, pF, pD, pR, pA, p1, p0, xpop, xpush, xsm, xhas, xif, xic, xsw, xai, xal, xhi, xhv, xrf, xret, xrtl, xrtf, xrtd, xrta, xrtv, xfit, xnew, cond_true, cond_false, f40, f41, f42, f43, List.length_cons, List.length_nil, Nat.reduceAdd, Nat.reduceSub, Nat.reduceMul, Nat.reduceBEq, List.map_cons, List.map_nil, List.headD_cons, List.getElem?_cons_zero, List.getElem?_cons_succ, List.set_cons_zero, List.set_cons_succ]
  refine hC (5, 3, 1, 6, false, E_knock) (List.mem_cons_of_mem _ List.mem_cons_self) [.ref 0, .int x, .int y] [] _ _ 0 0 (fun v h' => Q v h' ∧ ∃ r : Int32, v = some (.int r)) rfl (by decide) (by decide) (by decide) (fun z => nomatch z) ⟨Nat.le_of_ble_eq_true rfl, w_knock ⟨_, _, rfl⟩ (ev_knock 16 N V S C P sv tl has g x y ok hV hs) ?_ ?_⟩ ?_
  · rintro v h' ⟨e1, rfl, rfl⟩
    exact ⟨_, rfl, k0 e1, _, rfl⟩
  · rintro k h' ⟨e1, rfl, rfl⟩
    rcases knock_code N x y with e | e | e
    · exact absurd e e1
    · exact Or.inl ⟨e, k10 e, _, rfl⟩
    · exact Or.inr (⟨e, k12 e, _, rfl⟩)
  · rintro v h' ⟨q, r, rfl⟩
    refine hK 6 _ _ _ _ _ _ rfl rfl ?_
    dsimp only [k_Y_act_6, hN1, hB, wpI, xop, xcall, xli, xlj, xlf, xld, xla, xlg, xst, xst2, xc1, pI, pJ, pF, pD, pR, pA, p1, p0, xpop, xpush, xsm, xhas, xif, xic, xsw, xai, xal, xhi, xhv, xrf, xret, xrtl, xrtf, xrtd, xrta, xrtv, xfit, xnew, cond_true, cond_false, f40, f41, f42, f43, List.length_cons, List.length_nil, Nat.reduceAdd, Nat.reduceSub, Nat.reduceMul, Nat.reduceBEq, List.map_cons, List.map_nil, List.headD_cons, List.getElem?_cons_zero, List.getElem?_cons_succ, List.set_cons_zero, List.set_cons_succ]
    exact ⟨by decide, by decide, q⟩
theorem put_code (N : List Nat) (x y : Int32) : putE N x y = 0 ∨ putE N x y = 10 ∨ putE N x y = 12 := by
  unfold putE
  (repeat' split) <;> simp
set_option maxRecDepth 100000 in
set_option maxHeartbeats 4000000 in
theorem ac_put {sc : Option (List Int32)} {Q : Option Value → xH → Prop} (N V S C : List Nat) (P : List Value) (sv tl : Nat) (has : Bool) (g : xH) (x y : Int32) (ok : stN N) (hV : V.length = 108) (hs : sv ≤ 6)
    (k0 : putE N x y = 0 → Q (some (.int (nI (pop (N.getD 0 0 ||| 1 <<< (rsN x.toNatClampNeg + y.toNatClampNeg)))))) (hB (N.set 0 (N.getD 0 0 ||| 1 <<< (rsN x.toNatClampNeg + y.toNatClampNeg))) (saveV N V sv) S C P (saveS sv) tl has g)) (k10 : putE N x y = 10 → Q (some (.int (-101))) (hB N V S C P sv tl has g)) (k12 : putE N x y = 12 → Q (some (.int (-103))) (hB N V S C P sv tl has g)) : E_act sc [.ref 0, .int (nI 2), .int x, .int y] (hB N V S C P sv tl has g) Q := by
  refine ⟨Nat.le_of_ble_eq_true rfl, ?_⟩
  intro K hK hC
  show K 0 [some (.ref 0), some (.int (nI 2)), some (.int x), some (.int y)] [] (hB N V S C P sv tl has g) 0 0
  refine hK 0 _ _ _ _ _ _ rfl rfl ?_
  dsimp only [k_Y_act_0, hN1, hB, wpI, xop, xcall, xli, xlj, xlf, xld, xla, xlg, xst, xst2, xc1, pI, pJ, pF, pD, pR, pA, p1, p0, xpop, xpush, xsm, xhas, xif, xic, xsw, xai, xal, xhi, xhv, xrf, xret, xrtl, xrtf, xrtd, xrta, xrtv, xfit, xnew, cond_true, cond_false, f40, f41, f42, f43, List.length_cons, List.length_nil, Nat.reduceAdd, Nat.reduceSub, Nat.reduceMul, Nat.reduceBEq, List.map_cons, List.map_nil, List.headD_cons, List.getElem?_cons_zero, List.getElem?_cons_succ, List.set_cons_zero, List.set_cons_succ, List.map]
  refine ⟨fun z => absurd z (by decide), fun _ => ⟨fun z => absurd z (by decide), fun _ => ⟨fun _ => ?_, fun z => absurd rfl z⟩⟩⟩
  refine hK 7 _ _ _ _ _ _ rfl rfl ?_
  dsimp only [k_Y_act_7, hN1, hB, wpI, xop, xcall, xli, xlj, xlf, xld, xla, xlg, xst, xst2, xc1, pI, pJ, pF, pD, pR, pA, p1, p0, xpop, xpush, xsm, xhas, xif, xic, xsw, xai, xal, xhi, xhv, xrf, xret, xrtl, xrtf, xrtd, xrta, xrtv, xfit, xnew, cond_true, cond_false, f40, f41, f42, f43, List.length_cons, List.length_nil, Nat.reduceAdd, Nat.reduceSub, Nat.reduceMul, Nat.reduceBEq, List.map_cons, List.map_nil, List.headD_cons, List.getElem?_cons_zero, List.getElem?_cons_succ, List.set_cons_zero, List.set_cons_succ]
  refine hC (8, 3, 1, 6, false, E_put) (List.mem_cons_of_mem _ (List.mem_cons_of_mem _ List.mem_cons_self)) [.ref 0, .int x, .int y] [] _ _ 0 0 (fun v h' => Q v h' ∧ ∃ r : Int32, v = some (.int r)) rfl (by decide) (by decide) (by decide) (fun z => nomatch z) ⟨Nat.le_of_ble_eq_true rfl, w_put ⟨_, _, rfl⟩ (ev_put 16 N V S C P sv tl has g x y ok hV hs) ?_ ?_⟩ ?_
  · rintro v h' ⟨e1, rfl, rfl⟩
    exact ⟨_, rfl, k0 e1, _, rfl⟩
  · rintro k h' ⟨e1, rfl, rfl⟩
    rcases put_code N x y with e | e | e
    · exact absurd e e1
    · exact Or.inl ⟨e, k10 e, _, rfl⟩
    · exact Or.inr (⟨e, k12 e, _, rfl⟩)
  · rintro v h' ⟨q, r, rfl⟩
    refine hK 9 _ _ _ _ _ _ rfl rfl ?_
    dsimp only [k_Y_act_9, hN1, hB, wpI, xop, xcall, xli, xlj, xlf, xld, xla, xlg, xst, xst2, xc1, pI, pJ, pF, pD, pR, pA, p1, p0, xpop, xpush, xsm, xhas, xif, xic, xsw, xai, xal, xhi, xhv, xrf, xret, xrtl, xrtf, xrtd, xrta, xrtv, xfit, xnew, cond_true, cond_false, f40, f41, f42, f43, List.length_cons, List.length_nil, Nat.reduceAdd, Nat.reduceSub, Nat.reduceMul, Nat.reduceBEq, List.map_cons, List.map_nil, List.headD_cons, List.getElem?_cons_zero, List.getElem?_cons_succ, List.set_cons_zero, List.set_cons_succ]
    exact ⟨by decide, by decide, q⟩
theorem set_code (x y : Int32) : setE x y = 0 ∨ setE x y = 10 ∨ setE x y = 11 := by
  unfold setE
  (repeat' split) <;> simp
set_option maxRecDepth 100000 in
set_option maxHeartbeats 4000000 in
theorem ac_set {sc : Option (List Int32)} {Q : Option Value → xH → Prop} (N V S C : List Nat) (P : List Value) (sv tl : Nat) (has : Bool) (g : xH) (x y : Int32) (hN : N.length = 18) (hV : V.length = 108) (hs : sv ≤ 6)
    (k0 : setE x y = 0 → Q (some (.int (nI (N.getD (3 + x.toNatClampNeg) 0)))) (hB (N.set (3 + x.toNatClampNeg) y.toNatClampNeg) (saveV N V sv) S C P (saveS sv) tl has g)) (k10 : setE x y = 10 → Q (some (.int (-101))) (hB N V S C P sv tl has g)) (k11 : setE x y = 11 → Q (some (.int (-102))) (hB N V S C P sv tl has g)) : E_act sc [.ref 0, .int (nI 3), .int x, .int y] (hB N V S C P sv tl has g) Q := by
  refine ⟨Nat.le_of_ble_eq_true rfl, ?_⟩
  intro K hK hC
  show K 0 [some (.ref 0), some (.int (nI 3)), some (.int x), some (.int y)] [] (hB N V S C P sv tl has g) 0 0
  refine hK 0 _ _ _ _ _ _ rfl rfl ?_
  dsimp only [k_Y_act_0, hN1, hB, wpI, xop, xcall, xli, xlj, xlf, xld, xla, xlg, xst, xst2, xc1, pI, pJ, pF, pD, pR, pA, p1, p0, xpop, xpush, xsm, xhas, xif, xic, xsw, xai, xal, xhi, xhv, xrf, xret, xrtl, xrtf, xrtd, xrta, xrtv, xfit, xnew, cond_true, cond_false, f40, f41, f42, f43, List.length_cons, List.length_nil, Nat.reduceAdd, Nat.reduceSub, Nat.reduceMul, Nat.reduceBEq, List.map_cons, List.map_nil, List.headD_cons, List.getElem?_cons_zero, List.getElem?_cons_succ, List.set_cons_zero, List.set_cons_succ, List.map]
  refine ⟨fun z => absurd z (by decide), fun _ => ⟨fun z => absurd z (by decide), fun _ => ⟨fun z => absurd z (by decide), fun _ => ⟨fun _ => ?_, fun z => absurd rfl z⟩⟩⟩⟩
  refine hK 10 _ _ _ _ _ _ rfl rfl ?_
  dsimp only [k_Y_act_10, hN1, hB, wpI, xop, xcall, xli, xlj, xlf, xld, xla, xlg, xst, xst2, xc1, pI, pJ, pF, pD, pR, pA, p1, p0, xpop, xpush, xsm, xhas, xif, xic, xsw, xai, xal, xhi, xhv, xrf, xret, xrtl, xrtf, xrtd, xrta, xrtv, xfit, xnew, cond_true, cond_false, f40, f41, f42, f43, List.length_cons, List.length_nil, Nat.reduceAdd, Nat.reduceSub, Nat.reduceMul, Nat.reduceBEq, List.map_cons, List.map_nil, List.headD_cons, List.getElem?_cons_zero, List.getElem?_cons_succ, List.set_cons_zero, List.set_cons_succ]
  refine hC (11, 3, 1, 6, false, E_set) (List.mem_cons_of_mem _ (List.mem_cons_of_mem _ (List.mem_cons_of_mem _ List.mem_cons_self))) [.ref 0, .int x, .int y] [] _ _ 0 0 (fun v h' => Q v h' ∧ ∃ r : Int32, v = some (.int r)) rfl (by decide) (by decide) (by decide) (fun z => nomatch z) ⟨Nat.le_of_ble_eq_true rfl, w_set ⟨_, _, rfl⟩ (ev_set 18 N V S C P sv tl has g x y hN hV hs) ?_ ?_⟩ ?_
  · rintro v h' ⟨e1, rfl, rfl⟩
    exact ⟨_, rfl, k0 e1, _, rfl⟩
  · rintro k h' ⟨e1, rfl, rfl⟩
    rcases set_code x y with e | e | e
    · exact absurd e e1
    · exact Or.inl ⟨e, k10 e, _, rfl⟩
    · exact Or.inr (⟨e, k11 e, _, rfl⟩)
  · rintro v h' ⟨q, r, rfl⟩
    refine hK 12 _ _ _ _ _ _ rfl rfl ?_
    dsimp only [k_Y_act_12, hN1, hB, wpI, xop, xcall, xli, xlj, xlf, xld, xla, xlg, xst, xst2, xc1, pI, pJ, pF, pD, pR, pA, p1, p0, xpop, xpush, xsm, xhas, xif, xic, xsw, xai, xal, xhi, xhv, xrf, xret, xrtl, xrtf, xrtd, xrta, xrtv, xfit, xnew, cond_true, cond_false, f40, f41, f42, f43, List.length_cons, List.length_nil, Nat.reduceAdd, Nat.reduceSub, Nat.reduceMul, Nat.reduceBEq, List.map_cons, List.map_nil, List.headD_cons, List.getElem?_cons_zero, List.getElem?_cons_succ, List.set_cons_zero, List.set_cons_succ]
    exact ⟨by decide, by decide, q⟩
theorem turn_code (x : Int32) : turnE x = 0 ∨ turnE x = 11 := by
  unfold turnE
  (repeat' split) <;> simp
set_option maxRecDepth 100000 in
set_option maxHeartbeats 4000000 in
theorem ac_turn {sc : Option (List Int32)} {Q : Option Value → xH → Prop} (N V S C : List Nat) (P : List Value) (sv tl : Nat) (has : Bool) (g : xH) (x y : Int32) (ok : stN N) (hV : V.length = 108) (hs : sv ≤ 6)
    (k0 : turnE x = 0 → Q (some (.int (nI (N.getD 1 0)))) (hB (N.set 1 x.toNatClampNeg) (saveV N V sv) S C P (saveS sv) tl has g)) (k11 : turnE x = 11 → Q (some (.int (-102))) (hB N V S C P sv tl has g)) : E_act sc [.ref 0, .int (nI 4), .int x, .int y] (hB N V S C P sv tl has g) Q := by
  refine ⟨Nat.le_of_ble_eq_true rfl, ?_⟩
  intro K hK hC
  show K 0 [some (.ref 0), some (.int (nI 4)), some (.int x), some (.int y)] [] (hB N V S C P sv tl has g) 0 0
  refine hK 0 _ _ _ _ _ _ rfl rfl ?_
  dsimp only [k_Y_act_0, hN1, hB, wpI, xop, xcall, xli, xlj, xlf, xld, xla, xlg, xst, xst2, xc1, pI, pJ, pF, pD, pR, pA, p1, p0, xpop, xpush, xsm, xhas, xif, xic, xsw, xai, xal, xhi, xhv, xrf, xret, xrtl, xrtf, xrtd, xrta, xrtv, xfit, xnew, cond_true, cond_false, f40, f41, f42, f43, List.length_cons, List.length_nil, Nat.reduceAdd, Nat.reduceSub, Nat.reduceMul, Nat.reduceBEq, List.map_cons, List.map_nil, List.headD_cons, List.getElem?_cons_zero, List.getElem?_cons_succ, List.set_cons_zero, List.set_cons_succ, List.map]
  refine ⟨fun z => absurd z (by decide), fun _ => ⟨fun z => absurd z (by decide), fun _ => ⟨fun z => absurd z (by decide), fun _ => ⟨fun z => absurd z (by decide), fun _ => ⟨fun _ => ?_, fun z => absurd rfl z⟩⟩⟩⟩⟩
  refine hK 13 _ _ _ _ _ _ rfl rfl ?_
  dsimp only [k_Y_act_13, hN1, hB, wpI, xop, xcall, xli, xlj, xlf, xld, xla, xlg, xst, xst2, xc1, pI, pJ, pF, pD, pR, pA, p1, p0, xpop, xpush, xsm, xhas, xif, xic, xsw, xai, xal, xhi, xhv, xrf, xret, xrtl, xrtf, xrtd, xrta, xrtv, xfit, xnew, cond_true, cond_false, f40, f41, f42, f43, List.length_cons, List.length_nil, Nat.reduceAdd, Nat.reduceSub, Nat.reduceMul, Nat.reduceBEq, List.map_cons, List.map_nil, List.headD_cons, List.getElem?_cons_zero, List.getElem?_cons_succ, List.set_cons_zero, List.set_cons_succ]
  refine hC (14, 2, 1, 6, false, E_turn) (List.mem_cons_of_mem _ (List.mem_cons_of_mem _ (List.mem_cons_of_mem _ (List.mem_cons_of_mem _ List.mem_cons_self)))) [.ref 0, .int x] [] _ _ 0 0 (fun v h' => Q v h' ∧ ∃ r : Int32, v = some (.int r)) rfl (by decide) (by decide) (by decide) (fun z => nomatch z) ⟨Nat.le_of_ble_eq_true rfl, w_turn ⟨_, _, rfl⟩ (ev_turn 18 N V S C P sv tl has g x ok hV hs) ?_ ?_⟩ ?_
  · rintro v h' ⟨e1, rfl, rfl⟩
    exact ⟨_, rfl, k0 e1, _, rfl⟩
  · rintro k h' ⟨e1, rfl, rfl⟩
    rcases turn_code x with e | e
    · exact absurd e e1
    · exact ⟨e, k11 e, _, rfl⟩
  · rintro v h' ⟨q, r, rfl⟩
    refine hK 15 _ _ _ _ _ _ rfl rfl ?_
    dsimp only [k_Y_act_15, hN1, hB, wpI, xop, xcall, xli, xlj, xlf, xld, xla, xlg, xst, xst2, xc1, pI, pJ, pF, pD, pR, pA, p1, p0, xpop, xpush, xsm, xhas, xif, xic, xsw, xai, xal, xhi, xhv, xrf, xret, xrtl, xrtf, xrtd, xrta, xrtv, xfit, xnew, cond_true, cond_false, f40, f41, f42, f43, List.length_cons, List.length_nil, Nat.reduceAdd, Nat.reduceSub, Nat.reduceMul, Nat.reduceBEq, List.map_cons, List.map_nil, List.headD_cons, List.getElem?_cons_zero, List.getElem?_cons_succ, List.set_cons_zero, List.set_cons_succ]
    exact ⟨by decide, by decide, q⟩
theorem goBack_code (has : Bool) : backE has = 0 ∨ backE has = 12 := by
  unfold backE
  (repeat' split) <;> simp
set_option maxRecDepth 100000 in
set_option maxHeartbeats 4000000 in
theorem ac_goBack {sc : Option (List Int32)} {Q : Option Value → xH → Prop} (N V S C : List Nat) (P : List Value) (sv tl : Nat) (has : Bool) (g : xH) (x y : Int32) (hN : N.length = 18) (hV : V.length = 108) (hS : S.length = 18) (hs : sv ≤ 6)
    (k0 : backE has = 0 → Q (some (.int (nI (S.getD 0 0)))) (hB S (saveV N V sv) S C P (saveS sv) tl has g)) (k12 : backE has = 12 → Q (some (.int (-103))) (hB N V S C P sv tl has g)) : E_act sc [.ref 0, .int (nI 5), .int x, .int y] (hB N V S C P sv tl has g) Q := by
  refine ⟨Nat.le_of_ble_eq_true rfl, ?_⟩
  intro K hK hC
  show K 0 [some (.ref 0), some (.int (nI 5)), some (.int x), some (.int y)] [] (hB N V S C P sv tl has g) 0 0
  refine hK 0 _ _ _ _ _ _ rfl rfl ?_
  dsimp only [k_Y_act_0, hN1, hB, wpI, xop, xcall, xli, xlj, xlf, xld, xla, xlg, xst, xst2, xc1, pI, pJ, pF, pD, pR, pA, p1, p0, xpop, xpush, xsm, xhas, xif, xic, xsw, xai, xal, xhi, xhv, xrf, xret, xrtl, xrtf, xrtd, xrta, xrtv, xfit, xnew, cond_true, cond_false, f40, f41, f42, f43, List.length_cons, List.length_nil, Nat.reduceAdd, Nat.reduceSub, Nat.reduceMul, Nat.reduceBEq, List.map_cons, List.map_nil, List.headD_cons, List.getElem?_cons_zero, List.getElem?_cons_succ, List.set_cons_zero, List.set_cons_succ, List.map]
  refine ⟨fun z => absurd z (by decide), fun _ => ⟨fun z => absurd z (by decide), fun _ => ⟨fun z => absurd z (by decide), fun _ => ⟨fun z => absurd z (by decide), fun _ => ⟨fun z => absurd z (by decide), fun _ => ⟨fun _ => ?_, fun z => absurd rfl z⟩⟩⟩⟩⟩⟩
  refine hK 16 _ _ _ _ _ _ rfl rfl ?_
  dsimp only [k_Y_act_16, hN1, hB, wpI, xop, xcall, xli, xlj, xlf, xld, xla, xlg, xst, xst2, xc1, pI, pJ, pF, pD, pR, pA, p1, p0, xpop, xpush, xsm, xhas, xif, xic, xsw, xai, xal, xhi, xhv, xrf, xret, xrtl, xrtf, xrtd, xrta, xrtv, xfit, xnew, cond_true, cond_false, f40, f41, f42, f43, List.length_cons, List.length_nil, Nat.reduceAdd, Nat.reduceSub, Nat.reduceMul, Nat.reduceBEq, List.map_cons, List.map_nil, List.headD_cons, List.getElem?_cons_zero, List.getElem?_cons_succ, List.set_cons_zero, List.set_cons_succ]
  refine hC (17, 1, 1, 6, false, E_goBack) (List.mem_cons_of_mem _ (List.mem_cons_of_mem _ (List.mem_cons_of_mem _ (List.mem_cons_of_mem _ (List.mem_cons_of_mem _ List.mem_cons_self))))) [.ref 0] [] _ _ 0 0 (fun v h' => Q v h' ∧ ∃ r : Int32, v = some (.int r)) rfl (by decide) (by decide) (by decide) (fun z => nomatch z) ⟨Nat.le_of_ble_eq_true rfl, w_goBack ⟨_, _, rfl⟩ (ev_goBack 18 N V S C P sv tl has g hN hV hS hs) ?_ ?_⟩ ?_
  · rintro v h' ⟨e1, rfl, rfl⟩
    exact ⟨_, rfl, k0 e1, _, rfl⟩
  · rintro k h' ⟨e1, rfl, rfl⟩
    rcases goBack_code has with e | e
    · exact absurd e e1
    · exact ⟨e, k12 e, _, rfl⟩
  · rintro v h' ⟨q, r, rfl⟩
    refine hK 18 _ _ _ _ _ _ rfl rfl ?_
    dsimp only [k_Y_act_18, hN1, hB, wpI, xop, xcall, xli, xlj, xlf, xld, xla, xlg, xst, xst2, xc1, pI, pJ, pF, pD, pR, pA, p1, p0, xpop, xpush, xsm, xhas, xif, xic, xsw, xai, xal, xhi, xhv, xrf, xret, xrtl, xrtf, xrtd, xrta, xrtv, xfit, xnew, cond_true, cond_false, f40, f41, f42, f43, List.length_cons, List.length_nil, Nat.reduceAdd, Nat.reduceSub, Nat.reduceMul, Nat.reduceBEq, List.map_cons, List.map_nil, List.headD_cons, List.getElem?_cons_zero, List.getElem?_cons_succ, List.set_cons_zero, List.set_cons_succ]
    exact ⟨by decide, by decide, q⟩
theorem undo_code (sv : Nat) : undoE sv = 0 ∨ undoE sv = 12 := by
  unfold undoE
  (repeat' split) <;> simp
set_option maxRecDepth 100000 in
set_option maxHeartbeats 4000000 in
theorem ac_undo {sc : Option (List Int32)} {Q : Option Value → xH → Prop} (N V S C : List Nat) (P : List Value) (sv tl : Nat) (has : Bool) (g : xH) (x y : Int32) (hN : N.length = 18) (hV : V.length = 108) (hs : sv ≤ 6)
    (k0 : undoE sv = 0 → Q (some (.int (nI (sv - 1)))) (hB (cpyN V N ((sv - 1) * 18) 0 18) V S C P (sv - 1) tl has g)) (k12 : undoE sv = 12 → Q (some (.int (-103))) (hB N V S C P sv tl has g)) : E_act sc [.ref 0, .int (nI 6), .int x, .int y] (hB N V S C P sv tl has g) Q := by
  refine ⟨Nat.le_of_ble_eq_true rfl, ?_⟩
  intro K hK hC
  show K 0 [some (.ref 0), some (.int (nI 6)), some (.int x), some (.int y)] [] (hB N V S C P sv tl has g) 0 0
  refine hK 0 _ _ _ _ _ _ rfl rfl ?_
  dsimp only [k_Y_act_0, hN1, hB, wpI, xop, xcall, xli, xlj, xlf, xld, xla, xlg, xst, xst2, xc1, pI, pJ, pF, pD, pR, pA, p1, p0, xpop, xpush, xsm, xhas, xif, xic, xsw, xai, xal, xhi, xhv, xrf, xret, xrtl, xrtf, xrtd, xrta, xrtv, xfit, xnew, cond_true, cond_false, f40, f41, f42, f43, List.length_cons, List.length_nil, Nat.reduceAdd, Nat.reduceSub, Nat.reduceMul, Nat.reduceBEq, List.map_cons, List.map_nil, List.headD_cons, List.getElem?_cons_zero, List.getElem?_cons_succ, List.set_cons_zero, List.set_cons_succ, List.map]
  refine ⟨fun z => absurd z (by decide), fun _ => ⟨fun z => absurd z (by decide), fun _ => ⟨fun z => absurd z (by decide), fun _ => ⟨fun z => absurd z (by decide), fun _ => ⟨fun z => absurd z (by decide), fun _ => ⟨fun z => absurd z (by decide), fun _ => ?_⟩⟩⟩⟩⟩⟩
  refine hK 19 _ _ _ _ _ _ rfl rfl ?_
  dsimp only [k_Y_act_19, hN1, hB, wpI, xop, xcall, xli, xlj, xlf, xld, xla, xlg, xst, xst2, xc1, pI, pJ, pF, pD, pR, pA, p1, p0, xpop, xpush, xsm, xhas, xif, xic, xsw, xai, xal, xhi, xhv, xrf, xret, xrtl, xrtf, xrtd, xrta, xrtv, xfit, xnew, cond_true, cond_false, f40, f41, f42, f43, List.length_cons, List.length_nil, Nat.reduceAdd, Nat.reduceSub, Nat.reduceMul, Nat.reduceBEq, List.map_cons, List.map_nil, List.headD_cons, List.getElem?_cons_zero, List.getElem?_cons_succ, List.set_cons_zero, List.set_cons_succ]
  refine hC (20, 1, 1, 6, false, E_undo) (List.mem_cons_of_mem _ (List.mem_cons_of_mem _ (List.mem_cons_of_mem _ (List.mem_cons_of_mem _ (List.mem_cons_of_mem _ (List.mem_cons_of_mem _ List.mem_cons_self)))))) [.ref 0] [] _ _ 0 0 (fun v h' => Q v h' ∧ ∃ r : Int32, v = some (.int r)) rfl (by decide) (by decide) (by decide) (fun z => nomatch z) ⟨Nat.le_of_ble_eq_true rfl, w_undo ⟨_, _, rfl⟩ (ev_undo 18 N V S C P sv tl has g hN hV hs) ?_ ?_⟩ ?_
  · rintro v h' ⟨e1, rfl, rfl⟩
    exact ⟨_, rfl, k0 e1, _, rfl⟩
  · rintro k h' ⟨e1, rfl, rfl⟩
    rcases undo_code sv with e | e
    · exact absurd e e1
    · exact ⟨e, k12 e, _, rfl⟩
  · rintro v h' ⟨q, r, rfl⟩
    refine hK 21 _ _ _ _ _ _ rfl rfl ?_
    dsimp only [k_Y_act_21, hN1, hB, wpI, xop, xcall, xli, xlj, xlf, xld, xla, xlg, xst, xst2, xc1, pI, pJ, pF, pD, pR, pA, p1, p0, xpop, xpush, xsm, xhas, xif, xic, xsw, xai, xal, xhi, xhv, xrf, xret, xrtl, xrtf, xrtd, xrta, xrtv, xfit, xnew, cond_true, cond_false, f40, f41, f42, f43, List.length_cons, List.length_nil, Nat.reduceAdd, Nat.reduceSub, Nat.reduceMul, Nat.reduceBEq, List.map_cons, List.map_nil, List.headD_cons, List.getElem?_cons_zero, List.getElem?_cons_succ, List.set_cons_zero, List.set_cons_succ]
    exact ⟨by decide, by decide, q⟩
