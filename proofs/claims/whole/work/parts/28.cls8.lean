/-! ===== the class: one order ===== -/
theorem lfN_len (f : Nat) : ∀ (j r : Nat) (N : List Nat), (lfN f j r N).length = N.length
  | 0, _, _ => rfl
  | j + 1, r, N => (lfN_len f j (r + 1) _).trans List.length_set
theorem lfN_get (f : Nat) : ∀ (j r k : Nat) (N : List Nat), (k < 11 + r ∨ 11 + r + j ≤ k) → (lfN f j r N).getD k 0 = N.getD k 0
  | 0, _, _, _, _ => rfl
  | j + 1, r, k, N, h => by
    rw [lfN, lfN_get f j (r + 1) k _ (by omega), gs_ne (by omega)]
theorem letN_len (N : List Nat) (u : Nat) : (letN N u).length = N.length := List.length_set.trans (lfN_len _ _ _ _)
theorem letN_get (N : List Nat) (u k : Nat) (h : 0 < k ∧ k < 11 ∨ 16 ≤ k) : (letN N u).getD k 0 = N.getD k 0 := by
  unfold letN
  rw [gs_ne (by omega), lfN_get _ _ _ _ _ (by omega)]
theorem letN_0 (N : List Nat) (u : Nat) (h : N.length = 18) : (letN N u).getD 0 0 = settledN u := by
  unfold letN
  rw [gs_eq (by rw [lfN_len]; omega)]
theorem st_let {N : List Nat} {u : Nat} (hN : N.length = 18) (hu : u < 32768) (h1 : N.getD 1 0 < 2) (h3 : 1 ≤ N.getD 3 0) (h3' : N.getD 3 0 < 4) (h4 : N.getD 4 0 < 2) (h5 : N.getD 5 0 < 2) : stN (letN N u) := by
  refine ⟨(letN_len N u).trans hN, ?_, ?_, ?_, ?_, ?_, ?_⟩
  · rw [letN_0 N u hN]; exact settled_lt hu
  · rw [letN_get _ _ _ (by omega)]; exact h1
  · rw [letN_get _ _ _ (by omega)]; exact h3
  · rw [letN_get _ _ _ (by omega)]; exact h3'
  · rw [letN_get _ _ _ (by omega)]; exact h4
  · rw [letN_get _ _ _ (by omega)]; exact h5
theorem st_steal {N : List Nat} {r b : Nat} (ok : stN N) (hr : r < 5) : stN (stealN N r b) := by
  obtain ⟨hN, h0, h1, h3, h3', h4, h5⟩ := ok
  unfold stealN
  refine st_let (by simp only [List.length_set]; exact hN) (rob_lt h0) ?_ ?_ ?_ ?_ ?_
  · rw [gs_eq (by simp only [List.length_set]; omega)]; omega
  · rw [gs_ne (by omega), gs_ne (by omega), gs_ne (by omega), gs_ne (by omega)]; exact h3
  · rw [gs_ne (by omega), gs_ne (by omega), gs_ne (by omega), gs_ne (by omega)]; exact h3'
  · rw [gs_ne (by omega), gs_ne (by omega), gs_ne (by omega), gs_ne (by omega)]; exact h4
  · rw [gs_ne (by omega), gs_ne (by omega), gs_ne (by omega), gs_ne (by omega)]; exact h5
theorem st_knock {N : List Nat} {r p : Nat} (ok : stN N) : stN (knockN N r p) := by
  obtain ⟨hN, h0, h1, h3, h3', h4, h5⟩ := ok
  unfold knockN
  refine st_let (List.length_set.trans hN) (Nat.lt_of_le_of_lt Nat.and_le_left h0) ?_ ?_ ?_ ?_ ?_
  · rw [gs_ne (by omega)]; exact h1
  · rw [gs_ne (by omega)]; exact h3
  · rw [gs_ne (by omega)]; exact h3'
  · rw [gs_ne (by omega)]; exact h4
  · rw [gs_ne (by omega)]; exact h5
theorem st_0 {N : List Nat} {m : Nat} (ok : stN N) (hm : m < 32768) : stN (N.set 0 m) := by
  obtain ⟨hN, h0, h1, h3, h3', h4, h5⟩ := ok
  refine ⟨List.length_set.trans hN, ?_, ?_, ?_, ?_, ?_, ?_⟩
  · rw [gs_eq (by omega)]; exact hm
  · rw [gs_ne (by omega)]; exact h1
  · rw [gs_ne (by omega)]; exact h3
  · rw [gs_ne (by omega)]; exact h3'
  · rw [gs_ne (by omega)]; exact h4
  · rw [gs_ne (by omega)]; exact h5
theorem st_1 {N : List Nat} {t : Nat} (ok : stN N) (ht : t < 2) : stN (N.set 1 t) := by
  obtain ⟨hN, h0, h1, h3, h3', h4, h5⟩ := ok
  refine ⟨List.length_set.trans hN, ?_, ?_, ?_, ?_, ?_, ?_⟩
  · rw [gs_ne (by omega)]; exact h0
  · rw [gs_eq (by omega)]; exact ht
  · rw [gs_ne (by omega)]; exact h3
  · rw [gs_ne (by omega)]; exact h3'
  · rw [gs_ne (by omega)]; exact h4
  · rw [gs_ne (by omega)]; exact h5
theorem mirP_lt (m r : Nat) (hr : r < 5) : ∀ (j p a : Nat), p + j = 5 - r → a < 32768 → mirP m r j p a < 32768
  | 0, _, _, _, h => h
  | j + 1, p, a, hp, h => by
    rw [mirP]
    refine mirP_lt m r hr j (p + 1) _ (by omega) ?_
    split
    · exact Nat.or_lt_two_pow (n := 15) h (place_lt hr (by omega))
    · exact h
theorem mirR_lt (m : Nat) : ∀ (j r a : Nat), r + j = 5 → a < 32768 → mirR m j r a < 32768
  | 0, _, _, _, h => h
  | j + 1, r, a, hr, h => mirR_lt m j (r + 1) _ (by omega) (mirP_lt m r (by omega) _ _ _ (by omega) h)
theorem mirN_lt (m : Nat) : mirN m < 32768 := mirR_lt m 5 0 0 rfl (by decide)
theorem st_swap {N : List Nat} (ok : stN N) : stN (swapN N) := st_1 (st_0 ok (mirN_lt _)) (by have := ok.2.2.1; omega)
theorem st_fill {N : List Nat} (ok : stN N) : stN (fillN N) := st_1 (st_0 ok (by decide)) (by decide)
theorem st_put {N : List Nat} {r p : Nat} (ok : stN N) (hr : r < 5) (hp : p < 5 - r) : stN (N.set 0 (N.getD 0 0 ||| 1 <<< (rsN r + p))) := st_0 ok (Nat.or_lt_two_pow (n := 15) ok.2.1 (place_lt hr hp))
def okO (c r n : Nat) : Prop := (c = 116 → r < 5) ∧ (c = 107 ∨ c = 112 → r < 5 ∧ n < 5 - r)
def doN (N : List Nat) (c r n : Nat) : Option (List Nat) := if c = 116 then (if rsnN N r n = 0 then some (stealN N r n) else none) else if c = 107 then (if hasN (N.getD 0 0) r n = true then some (knockN N r n) else none) else
  if c = 112 then (if hasRoomN (N.getD 0 0) r n = true then some (N.set 0 (N.getD 0 0 ||| 1 <<< (rsN r + n))) else none) else if c = 109 then some (swapN N) else if c = 114 then some (fillN N) else none
theorem st_do {N N' : List Nat} {c r n : Nat} (ok : stN N) (ho : okO c r n) (h : doN N c r n = some N') : stN N' := by
  unfold doN at h
  by_cases h1 : c = 116
  · rw [if_pos h1] at h
    split at h
    · have h := Option.some.inj h
      subst h
      exact st_steal ok (ho.1 h1)
    · exact absurd h (by simp)
  rw [if_neg h1] at h
  by_cases h2 : c = 107
  · rw [if_pos h2] at h
    split at h
    · have h := Option.some.inj h
      subst h
      exact st_knock ok
    · exact absurd h (by simp)
  rw [if_neg h2] at h
  by_cases h3 : c = 112
  · rw [if_pos h3] at h
    split at h
    · have h := Option.some.inj h
      subst h
      exact st_put ok (ho.2 (Or.inr h3)).1 (ho.2 (Or.inr h3)).2
    · exact absurd h (by simp)
  rw [if_neg h3] at h
  by_cases h4 : c = 109
  · rw [if_pos h4] at h
    have h := Option.some.inj h
    subst h
    exact st_swap ok
  rw [if_neg h4] at h
  by_cases h5 : c = 114
  · rw [if_pos h5] at h
    have h := Option.some.inj h
    subst h
    exact st_fill ok
  rw [if_neg h5] at h
  exact absurd h (by simp)
/-- the row of numbers behind an order that may have been refused -/
def orN (N : List Nat) (o : Option (List Nat)) : List Nat := o.getD N
set_option maxRecDepth 100000 in
set_option maxHeartbeats 4000000 in
theorem ev_doOrder (d : Nat) (N : List Nat) (vs : List Value) (g : xH) (c r n : Nat) (ok : stN N) (hc : c < 65536) (hn : n < 100) (ho : okO c r n) :
    Ev xT (d + 5) N_B_doOrder [.ref 0, .int (nI c), .int (nI r), .int (nI n)] (hN1 N vs g) (Rt (some (.int (bI (doN N c r n).isSome))) (hN1 (orN N (doN N c r n)) vs g)) NX := by
  refine Ev_intro t_B_doOrder (Nat.le_of_ble_eq_true rfl) ?_
  intro Q X hQ hX K hK
  show K 0 [some (.ref 0), some (.int (nI c)), some (.int (nI r)), some (.int (nI n))] [] _ 0 0
  have hq := hQ _ _ ⟨rfl, rfl⟩
  have ok' := ok
  obtain ⟨hN, h0, h1, h3, h3', h4, h5⟩ := ok
  have f9 : doN N c r n = none → K 9 [some (.ref 0), some (.int (nI c)), some (.int (nI r)), some (.int (nI n))] [] (hN1 N vs g) 0 0 := by
    intro e
    rw [e] at hq
    refine hK 9 _ _ _ _ _ _ _ _ rfl ?_
    dsimp only [k_B_doOrder_9, hN1, hB, wpI, xop, xcall, xli, xlj, xlf, xld, xla, xlg, xst, xst2, xc1, pI, pJ, pF, pD, pR, pA, p1, p0, xpop, xpush, xsm, xhas, xif, xic, xsw, xai, xal, xhi, xhv, xrf, xret, xrtl, xrtf, xrtd, xrta, xrtv, xfit, xnew, cond_true, cond_false, f40, f41, f42, f43, List.length_cons, List.length_nil, Nat.reduceAdd, Nat.reduceSub, Nat.reduceMul, Nat.reduceBEq, List.map_cons, List.map_nil, List.headD_cons, List.getElem?_cons_zero, List.getElem?_cons_succ, List.set_cons_zero, List.set_cons_succ]
    exact ⟨Or.inl rfl, Nat.le_refl _, Nat.le_refl _, hq⟩
  refine hK 0 _ _ _ _ _ _ _ _ rfl ?_
  dsimp only [k_B_doOrder_0, hN1, hB, wpI, xop, xcall, xli, xlj, xlf, xld, xla, xlg, xst, xst2, xc1, pI, pJ, pF, pD, pR, pA, p1, p0, xpop, xpush, xsm, xhas, xif, xic, xsw, xai, xal, xhi, xhv, xrf, xret, xrtl, xrtf, xrtd, xrta, xrtv, xfit, xnew, cond_true, cond_false, f40, f41, f42, f43, List.length_cons, List.length_nil, Nat.reduceAdd, Nat.reduceSub, Nat.reduceMul, Nat.reduceBEq, List.map_cons, List.map_nil, List.headD_cons, List.getElem?_cons_zero, List.getElem?_cons_succ, List.set_cons_zero, List.set_cons_succ, List.map]
  try simp (disch := omega) only [nI_add, n_and, n_or, n_xor, n_i31, nI_leI, nI_ltI, n_e0, n_eq, n_m1e, n_l0, n_g0, n_p0, n_q0, n_cl, n_in, n_sub, n_shr, n_shl, n_div, bI_0, n_01, n_11, bI_or, not_false_eq_true, forall_const, not_true_eq_false, false_imp_iff, true_imp_iff]
  refine ⟨fun z => ?_, fun y1 => ⟨fun z => f9 (by subst z; rfl), fun _ => ⟨fun z => ?_, fun y2 => ⟨fun z => f9 (by subst z; rfl), fun _ => ⟨fun z => f9 (by subst z; rfl), fun _ => ⟨fun z => ?_, fun y3 => ⟨fun z => f9 (by subst z; rfl), fun _ => ⟨fun z => ?_, fun y4 => ⟨fun z => f9 (by subst z; rfl), fun _ => ⟨fun z => ?_, fun y5 => f9 ?_⟩⟩⟩⟩⟩⟩⟩⟩⟩⟩
  · have hb := ho.2 (Or.inl z)
    have e : doN N c r n = (if hasN (N.getD 0 0) r n = true then some (knockN N r n) else none) := by subst z; rfl
    rw [e] at hq
    refine hK 3 _ _ _ _ _ _ _ _ rfl ?_
    dsimp only [k_B_doOrder_3, hN1, hB, wpI, xop, xcall, xli, xlj, xlf, xld, xla, xlg, xst, xst2, xc1, pI, pJ, pF, pD, pR, pA, p1, p0, xpop, xpush, xsm, xhas, xif, xic, xsw, xai, xal, xhi, xhv, xrf, xret, xrtl, xrtf, xrtd, xrta, xrtv, xfit, xnew, cond_true, cond_false, f40, f41, f42, f43, List.length_cons, List.length_nil, Nat.reduceAdd, Nat.reduceSub, Nat.reduceMul, Nat.reduceBEq, List.map_cons, List.map_nil, List.headD_cons, List.getElem?_cons_zero, List.getElem?_cons_succ, List.set_cons_zero, List.set_cons_succ]
    try simp (disch := first | omega | (simp only [List.length_set]; omega)) only [nI_add, n_and, n_or, n_xor, n_i31, nI_leI, nI_ltI, n_e0, n_eq, n_m1e, n_l0, n_g0, n_p0, n_q0, n_cl, n_in, n_sub, n_shr, n_shl, n_div, bI_0, n_01, n_11, bI_or, not_false_eq_true, forall_const, not_true_eq_false, false_imp_iff, true_imp_iff, List.length_map, List.length_set, hN, nL_u, gs_eq, gs_ne, nI_set, Nat.reduceLT, true_and, and_true, pk_mul]
    refine Ev_use (ev_hasBottle _ _ r n _ h0 hb.1 (by omega)) ?_
    dsimp only [hN1, hB, wpI, xop, xcall, xli, xlj, xlf, xld, xla, xlg, xst, xst2, xc1, pI, pJ, pF, pD, pR, pA, p1, p0, xpop, xpush, xsm, xhas, xif, xic, xsw, xai, xal, xhi, xhv, xrf, xret, xrtl, xrtf, xrtd, xrta, xrtv, xfit, xnew, cond_true, cond_false, f40, f41, f42, f43, List.length_cons, List.length_nil, Nat.reduceAdd, Nat.reduceSub, Nat.reduceMul, Nat.reduceBEq, List.map_cons, List.map_nil, List.headD_cons, List.getElem?_cons_zero, List.getElem?_cons_succ, List.set_cons_zero, List.set_cons_succ]
    rw [bI_0]
    refine ⟨fun y => ?_, fun y => ?_⟩
    · rw [if_pos (b_nf y)] at hq
      refine hK 4 _ _ _ _ _ _ _ _ rfl ?_
      dsimp only [k_B_doOrder_4, hN1, hB, wpI, xop, xcall, xli, xlj, xlf, xld, xla, xlg, xst, xst2, xc1, pI, pJ, pF, pD, pR, pA, p1, p0, xpop, xpush, xsm, xhas, xif, xic, xsw, xai, xal, xhi, xhv, xrf, xret, xrtl, xrtf, xrtd, xrta, xrtv, xfit, xnew, cond_true, cond_false, f40, f41, f42, f43, List.length_cons, List.length_nil, Nat.reduceAdd, Nat.reduceSub, Nat.reduceMul, Nat.reduceBEq, List.map_cons, List.map_nil, List.headD_cons, List.getElem?_cons_zero, List.getElem?_cons_succ, List.set_cons_zero, List.set_cons_succ]
      refine Ev_use (ev_knockOut _ N vs g r n hN h0 hb.1 hb.2) ?_
      dsimp only [hN1, hB, wpI, xop, xcall, xli, xlj, xlf, xld, xla, xlg, xst, xst2, xc1, pI, pJ, pF, pD, pR, pA, p1, p0, xpop, xpush, xsm, xhas, xif, xic, xsw, xai, xal, xhi, xhv, xrf, xret, xrtl, xrtf, xrtd, xrta, xrtv, xfit, xnew, cond_true, cond_false, f40, f41, f42, f43, List.length_cons, List.length_nil, Nat.reduceAdd, Nat.reduceSub, Nat.reduceMul, Nat.reduceBEq, List.map_cons, List.map_nil, List.headD_cons, List.getElem?_cons_zero, List.getElem?_cons_succ, List.set_cons_zero, List.set_cons_succ]
      exact ⟨Or.inr rfl, Nat.le_refl _, Nat.le_refl _, hq⟩
    · rw [if_neg (by rw [y]; decide)] at hq
      exact ⟨by first | exact Or.inl rfl | exact Or.inl trivial, Nat.le_refl _, Nat.le_refl _, hq⟩
  · have e : doN N c r n = some (swapN N) := by subst z; rfl
    rw [e] at hq
    refine hK 7 _ _ _ _ _ _ _ _ rfl ?_
    dsimp only [k_B_doOrder_7, hN1, hB, wpI, xop, xcall, xli, xlj, xlf, xld, xla, xlg, xst, xst2, xc1, pI, pJ, pF, pD, pR, pA, p1, p0, xpop, xpush, xsm, xhas, xif, xic, xsw, xai, xal, xhi, xhv, xrf, xret, xrtl, xrtf, xrtd, xrta, xrtv, xfit, xnew, cond_true, cond_false, f40, f41, f42, f43, List.length_cons, List.length_nil, Nat.reduceAdd, Nat.reduceSub, Nat.reduceMul, Nat.reduceBEq, List.map_cons, List.map_nil, List.headD_cons, List.getElem?_cons_zero, List.getElem?_cons_succ, List.set_cons_zero, List.set_cons_succ]
    refine Ev_use (ev_swapSides _ N vs g ok') ?_
    dsimp only [hN1, hB, wpI, xop, xcall, xli, xlj, xlf, xld, xla, xlg, xst, xst2, xc1, pI, pJ, pF, pD, pR, pA, p1, p0, xpop, xpush, xsm, xhas, xif, xic, xsw, xai, xal, xhi, xhv, xrf, xret, xrtl, xrtf, xrtd, xrta, xrtv, xfit, xnew, cond_true, cond_false, f40, f41, f42, f43, List.length_cons, List.length_nil, Nat.reduceAdd, Nat.reduceSub, Nat.reduceMul, Nat.reduceBEq, List.map_cons, List.map_nil, List.headD_cons, List.getElem?_cons_zero, List.getElem?_cons_succ, List.set_cons_zero, List.set_cons_succ]
    exact ⟨Or.inr rfl, Nat.le_refl _, Nat.le_refl _, hq⟩
  · have hb := ho.2 (Or.inr z)
    have e : doN N c r n = (if hasRoomN (N.getD 0 0) r n = true then some (N.set 0 (N.getD 0 0 ||| 1 <<< (rsN r + n))) else none) := by subst z; rfl
    rw [e] at hq
    refine hK 5 _ _ _ _ _ _ _ _ rfl ?_
    dsimp only [k_B_doOrder_5, hN1, hB, wpI, xop, xcall, xli, xlj, xlf, xld, xla, xlg, xst, xst2, xc1, pI, pJ, pF, pD, pR, pA, p1, p0, xpop, xpush, xsm, xhas, xif, xic, xsw, xai, xal, xhi, xhv, xrf, xret, xrtl, xrtf, xrtd, xrta, xrtv, xfit, xnew, cond_true, cond_false, f40, f41, f42, f43, List.length_cons, List.length_nil, Nat.reduceAdd, Nat.reduceSub, Nat.reduceMul, Nat.reduceBEq, List.map_cons, List.map_nil, List.headD_cons, List.getElem?_cons_zero, List.getElem?_cons_succ, List.set_cons_zero, List.set_cons_succ]
    try simp (disch := first | omega | (simp only [List.length_set]; omega)) only [nI_add, n_and, n_or, n_xor, n_i31, nI_leI, nI_ltI, n_e0, n_eq, n_m1e, n_l0, n_g0, n_p0, n_q0, n_cl, n_in, n_sub, n_shr, n_shl, n_div, bI_0, n_01, n_11, bI_or, not_false_eq_true, forall_const, not_true_eq_false, false_imp_iff, true_imp_iff, List.length_map, List.length_set, hN, nL_u, gs_eq, gs_ne, nI_set, Nat.reduceLT, true_and, and_true, pk_mul]
    refine Ev_use (ev_hasRoom _ _ r n _ h0 hb.1 hb.2) ?_
    dsimp only [hN1, hB, wpI, xop, xcall, xli, xlj, xlf, xld, xla, xlg, xst, xst2, xc1, pI, pJ, pF, pD, pR, pA, p1, p0, xpop, xpush, xsm, xhas, xif, xic, xsw, xai, xal, xhi, xhv, xrf, xret, xrtl, xrtf, xrtd, xrta, xrtv, xfit, xnew, cond_true, cond_false, f40, f41, f42, f43, List.length_cons, List.length_nil, Nat.reduceAdd, Nat.reduceSub, Nat.reduceMul, Nat.reduceBEq, List.map_cons, List.map_nil, List.headD_cons, List.getElem?_cons_zero, List.getElem?_cons_succ, List.set_cons_zero, List.set_cons_succ]
    rw [bI_0]
    refine ⟨fun y => ?_, fun y => ?_⟩
    · rw [if_pos (b_nf y)] at hq
      refine hK 6 _ _ _ _ _ _ _ _ rfl ?_
      dsimp only [k_B_doOrder_6, hN1, hB, wpI, xop, xcall, xli, xlj, xlf, xld, xla, xlg, xst, xst2, xc1, pI, pJ, pF, pD, pR, pA, p1, p0, xpop, xpush, xsm, xhas, xif, xic, xsw, xai, xal, xhi, xhv, xrf, xret, xrtl, xrtf, xrtd, xrta, xrtv, xfit, xnew, cond_true, cond_false, f40, f41, f42, f43, List.length_cons, List.length_nil, Nat.reduceAdd, Nat.reduceSub, Nat.reduceMul, Nat.reduceBEq, List.map_cons, List.map_nil, List.headD_cons, List.getElem?_cons_zero, List.getElem?_cons_succ, List.set_cons_zero, List.set_cons_succ]
      refine Ev_use (ev_addBottle _ N vs g r n hN h0 hb.1 hb.2) ?_
      dsimp only [hN1, hB, wpI, xop, xcall, xli, xlj, xlf, xld, xla, xlg, xst, xst2, xc1, pI, pJ, pF, pD, pR, pA, p1, p0, xpop, xpush, xsm, xhas, xif, xic, xsw, xai, xal, xhi, xhv, xrf, xret, xrtl, xrtf, xrtd, xrta, xrtv, xfit, xnew, cond_true, cond_false, f40, f41, f42, f43, List.length_cons, List.length_nil, Nat.reduceAdd, Nat.reduceSub, Nat.reduceMul, Nat.reduceBEq, List.map_cons, List.map_nil, List.headD_cons, List.getElem?_cons_zero, List.getElem?_cons_succ, List.set_cons_zero, List.set_cons_succ]
      exact ⟨Or.inr rfl, Nat.le_refl _, Nat.le_refl _, hq⟩
    · rw [if_neg (by rw [y]; decide)] at hq
      exact ⟨by first | exact Or.inl rfl | exact Or.inl trivial, Nat.le_refl _, Nat.le_refl _, hq⟩
  · have e : doN N c r n = some (fillN N) := by subst z; rfl
    rw [e] at hq
    refine hK 8 _ _ _ _ _ _ _ _ rfl ?_
    dsimp only [k_B_doOrder_8, hN1, hB, wpI, xop, xcall, xli, xlj, xlf, xld, xla, xlg, xst, xst2, xc1, pI, pJ, pF, pD, pR, pA, p1, p0, xpop, xpush, xsm, xhas, xif, xic, xsw, xai, xal, xhi, xhv, xrf, xret, xrtl, xrtf, xrtd, xrta, xrtv, xfit, xnew, cond_true, cond_false, f40, f41, f42, f43, List.length_cons, List.length_nil, Nat.reduceAdd, Nat.reduceSub, Nat.reduceMul, Nat.reduceBEq, List.map_cons, List.map_nil, List.headD_cons, List.getElem?_cons_zero, List.getElem?_cons_succ, List.set_cons_zero, List.set_cons_succ]
    refine Ev_use (ev_fillUp _ N vs g ok') ?_
    dsimp only [hN1, hB, wpI, xop, xcall, xli, xlj, xlf, xld, xla, xlg, xst, xst2, xc1, pI, pJ, pF, pD, pR, pA, p1, p0, xpop, xpush, xsm, xhas, xif, xic, xsw, xai, xal, xhi, xhv, xrf, xret, xrtl, xrtf, xrtd, xrta, xrtv, xfit, xnew, cond_true, cond_false, f40, f41, f42, f43, List.length_cons, List.length_nil, Nat.reduceAdd, Nat.reduceSub, Nat.reduceMul, Nat.reduceBEq, List.map_cons, List.map_nil, List.headD_cons, List.getElem?_cons_zero, List.getElem?_cons_succ, List.set_cons_zero, List.set_cons_succ]
    exact ⟨Or.inr rfl, Nat.le_refl _, Nat.le_refl _, hq⟩
  · have hr := ho.1 z
    have e : doN N c r n = (if rsnN N r n = 0 then some (stealN N r n) else none) := by subst z; rfl
    rw [e] at hq
    have hz := rsn_lt N r n
    refine hK 1 _ _ _ _ _ _ _ _ rfl ?_
    dsimp only [k_B_doOrder_1, hN1, hB, wpI, xop, xcall, xli, xlj, xlf, xld, xla, xlg, xst, xst2, xc1, pI, pJ, pF, pD, pR, pA, p1, p0, xpop, xpush, xsm, xhas, xif, xic, xsw, xai, xal, xhi, xhv, xrf, xret, xrtl, xrtf, xrtd, xrta, xrtv, xfit, xnew, cond_true, cond_false, f40, f41, f42, f43, List.length_cons, List.length_nil, Nat.reduceAdd, Nat.reduceSub, Nat.reduceMul, Nat.reduceBEq, List.map_cons, List.map_nil, List.headD_cons, List.getElem?_cons_zero, List.getElem?_cons_succ, List.set_cons_zero, List.set_cons_succ]
    refine Ev_use (ev_reasonAgainst _ N vs g r n ok' hr hn) ?_
    dsimp only [hN1, hB, wpI, xop, xcall, xli, xlj, xlf, xld, xla, xlg, xst, xst2, xc1, pI, pJ, pF, pD, pR, pA, p1, p0, xpop, xpush, xsm, xhas, xif, xic, xsw, xai, xal, xhi, xhv, xrf, xret, xrtl, xrtf, xrtd, xrta, xrtv, xfit, xnew, cond_true, cond_false, f40, f41, f42, f43, List.length_cons, List.length_nil, Nat.reduceAdd, Nat.reduceSub, Nat.reduceMul, Nat.reduceBEq, List.map_cons, List.map_nil, List.headD_cons, List.getElem?_cons_zero, List.getElem?_cons_succ, List.set_cons_zero, List.set_cons_succ]
    try simp (disch := first | omega | (simp only [List.length_set]; omega)) only [nI_add, n_and, n_or, n_xor, n_i31, nI_leI, nI_ltI, n_e0, n_eq, n_m1e, n_l0, n_g0, n_p0, n_q0, n_cl, n_in, n_sub, n_shr, n_shl, n_div, bI_0, n_01, n_11, bI_or, not_false_eq_true, forall_const, not_true_eq_false, false_imp_iff, true_imp_iff, List.length_map, List.length_set, hN, nL_u, gs_eq, gs_ne, nI_set, Nat.reduceLT, true_and, and_true, pk_mul]
    refine ⟨fun y => ?_, fun y => ?_⟩
    · rw [if_pos y] at hq
      refine hK 2 _ _ _ _ _ _ _ _ rfl ?_
      dsimp only [k_B_doOrder_2, hN1, hB, wpI, xop, xcall, xli, xlj, xlf, xld, xla, xlg, xst, xst2, xc1, pI, pJ, pF, pD, pR, pA, p1, p0, xpop, xpush, xsm, xhas, xif, xic, xsw, xai, xal, xhi, xhv, xrf, xret, xrtl, xrtf, xrtd, xrta, xrtv, xfit, xnew, cond_true, cond_false, f40, f41, f42, f43, List.length_cons, List.length_nil, Nat.reduceAdd, Nat.reduceSub, Nat.reduceMul, Nat.reduceBEq, List.map_cons, List.map_nil, List.headD_cons, List.getElem?_cons_zero, List.getElem?_cons_succ, List.set_cons_zero, List.set_cons_succ]
      refine Ev_use (ev_steal _ N vs g r n ok' hr hn (rsn_z y)) ?_
      dsimp only [hN1, hB, wpI, xop, xcall, xli, xlj, xlf, xld, xla, xlg, xst, xst2, xc1, pI, pJ, pF, pD, pR, pA, p1, p0, xpop, xpush, xsm, xhas, xif, xic, xsw, xai, xal, xhi, xhv, xrf, xret, xrtl, xrtf, xrtd, xrta, xrtv, xfit, xnew, cond_true, cond_false, f40, f41, f42, f43, List.length_cons, List.length_nil, Nat.reduceAdd, Nat.reduceSub, Nat.reduceMul, Nat.reduceBEq, List.map_cons, List.map_nil, List.headD_cons, List.getElem?_cons_zero, List.getElem?_cons_succ, List.set_cons_zero, List.set_cons_succ]
      exact ⟨Or.inr rfl, Nat.le_refl _, Nat.le_refl _, hq⟩
    · rw [if_neg y] at hq
      exact ⟨by first | exact Or.inl rfl | exact Or.inl trivial, Nat.le_refl _, Nat.le_refl _, hq⟩
  · unfold doN
    rw [if_neg y5, if_neg y1, if_neg y3, if_neg y2, if_neg y4]
