/-! the model: an order is done -/
theorem brkM_len (f t : Nat) : ∀ (j r : Nat) (N : List Nat), (brkM f t j r N).length = N.length
  | 0, _, _ => rfl
  | j + 1, r, N => (brkM_len f t j (r + 1) _).trans (List.length_set.trans List.length_set)
theorem brkM_get (f t : Nat) : ∀ (j r k : Nat) (N : List Nat), k < 14 → k ≠ 4 → (brkM f t j r N).getD k 0 = N.getD k 0
  | 0, _, _, _, _, _ => rfl
  | j + 1, r, k, N, h, h4 => by
    rw [brkM, brkM_get f t j (r + 1) k _ h h4, gs_ne (by omega), gs_ne (by omega)]
theorem st_brk {f t : Nat} {N : List Nat} (hN : N.length = 19) (ht : t < 32768) (h1 : N.getD 1 0 < 2) (h6 : 1 ≤ N.getD 6 0) (h6' : N.getD 6 0 < 4) (h7 : N.getD 7 0 < 2) (h8 : N.getD 8 0 < 2) : stM ((brkM f t 5 0 N).set 0 t) := by
  have hl : (brkM f t 5 0 N).length = 19 := (brkM_len _ _ _ _ _).trans hN
  have g : ∀ k, k < 14 → k ≠ 4 → k ≠ 0 → ((brkM f t 5 0 N).set 0 t).getD k 0 = N.getD k 0 := fun k a b c => by rw [gs_ne (by omega), brkM_get _ _ _ _ _ _ a b]
  refine ⟨List.length_set.trans hl, ?_, ?_, ?_, ?_, ?_, ?_⟩
  · rw [gs_eq (by omega)]; exact ht
  · rw [g 1 (by decide) (by decide) (by decide)]; exact h1
  · rw [g 6 (by decide) (by decide) (by decide)]; exact h6
  · rw [g 6 (by decide) (by decide) (by decide)]; exact h6'
  · rw [g 7 (by decide) (by decide) (by decide)]; exact h7
  · rw [g 8 (by decide) (by decide) (by decide)]; exact h8
theorem st_tak {N : List Nat} {r b : Nat} (ok : stM N) (hr : r < 5) : stM (takM N r b) := by
  obtain ⟨hN, h0, h1, h6, h6', h7, h8⟩ := ok
  have hl := mfN_lt (mrN_lt (t := N.getD 1 0) (r := r) (b := b) h0)
  have hS : (takS N r b).length = 19 := by
    unfold takS
    simp only [List.length_set]
    exact hN
  have g : ∀ k, 6 ≤ k → k < 9 → (takS N r b).getD k 0 = N.getD k 0 := fun k a c => by
    unfold takS
    rw [gs_ne (by omega), gs_ne (by omega), gs_ne (by omega), gs_ne (by omega)]
  have g1 : (takS N r b).getD 1 0 = 1 - N.getD 1 0 := by
    unfold takS
    rw [gs_eq (by simp only [List.length_set]; omega)]
  refine st_brk hS hl ?_ ?_ ?_ ?_ ?_
  · rw [g1]; omega
  · rw [g 6 (by decide) (by decide)]; exact h6
  · rw [g 6 (by decide) (by decide)]; exact h6'
  · rw [g 7 (by decide) (by decide)]; exact h7
  · rw [g 8 (by decide) (by decide)]; exact h8
theorem st_knc {N : List Nat} {r p : Nat} (ok : stM N) : stM (kncM N r p) := by
  obtain ⟨hN, h0, h1, h6, h6', h7, h8⟩ := ok
  exact st_brk hN (mfN_lt (knc_lt h0)) h1 h6 h6' h7 h8
theorem st_set0 {N : List Nat} {a : Nat} (ok : stM N) (ha : a < 32768) : stM (N.set 0 a) := by
  obtain ⟨hN, h0, h1, h6, h6', h7, h8⟩ := ok
  unfold stM
  rw [List.length_set, gs_eq (by omega), gs_ne (by decide), gs_ne (by decide), gs_ne (by decide), gs_ne (by decide)]
  exact ⟨hN, ha, h1, h6, h6', h7, h8⟩
theorem st_set1 {N : List Nat} {a : Nat} (ok : stM N) (ha : a < 2) : stM (N.set 1 a) := by
  obtain ⟨hN, h0, h1, h6, h6', h7, h8⟩ := ok
  unfold stM
  rw [List.length_set, gs_eq (by omega), gs_ne (by decide), gs_ne (by decide), gs_ne (by decide), gs_ne (by decide)]
  exact ⟨hN, h0, ha, h6, h6', h7, h8⟩
def dsM (N : List Nat) (c r b : Nat) : Bool × List Nat :=
  if c = 116 then (if mrsN N (N.getD 0 0) (N.getD 1 0) r b = 0 then (true, takM N r b) else (false, N))
  else if c = 107 then (if hasN (N.getD 0 0) r b = true then (true, kncM N r b) else (false, N))
  else if c = 112 then (if hasRoomN (N.getD 0 0) r b = true then (true, N.set 0 (N.getD 0 0 ||| 1 <<< (rsN r + b))) else (false, N))
  else if c = 109 then (true, (N.set 0 (mirN (N.getD 0 0))).set 1 (1 - N.getD 1 0)) else (true, fillN N)
theorem st_ds {N : List Nat} {c r b : Nat} (ok : stM N) (hr : c = 116 ∨ c = 107 ∨ c = 112 → r < 5) (hp : c = 112 → b < 5 - r) : stM (dsM N c r b).2 := by
  unfold dsM
  split
  · split
    · exact st_tak ok (hr (Or.inl (by assumption)))
    · exact ok
  · split
    · split
      · exact st_knc ok
      · exact ok
    · split
      · next e =>
        split
        · exact st_set0 ok (Nat.or_lt_two_pow (n := 15) ok.2.1 (place_lt (hr (Or.inr (Or.inr e))) (hp e)))
        · exact ok
      · split
        · exact st_set1 (st_set0 ok (mirN_lt _)) (by have := ok.2.2.1; omega)
        · exact st_set1 (st_set0 ok (by decide)) (by decide)
set_option maxRecDepth 100000 in
set_option maxHeartbeats 4000000 in
theorem ev_M_does (d k : Nat) (z : Nat → xC) (N B K' T O R D : List Nat) (laid : Int32) (len st many at' thr : Nat) (isK : Bool) (g : xH) (ok : stM N) (hO : O.length = 120) (hk : k ≤ 30) (od : odOk O k) :
    Ev xT (d + 5) N_M_does [.ref 7, .int (nI k)] (hM z N B K' T O R D laid len st many at' thr isK g) (Rt (some (.int (bI (dsM N (O.getD (3 * k) 0) (O.getD (3 * k + 1) 0) (O.getD (3 * k + 2) 0)).1))) (hM z ((dsM N (O.getD (3 * k) 0) (O.getD (3 * k + 1) 0) (O.getD (3 * k + 2) 0)).2) B K' T O R D laid len st many at' thr isK g)) NX := by
  refine Ev_intro t_M_does (Nat.le_of_ble_eq_true rfl) ?_
  intro Q X hQ hX K hK
  show K 0 [some (.ref 7), some (.int (nI k)), none, none, none, none, none, none, none, none] [] _ 0 0
  obtain ⟨hN, h0, h1, h6, h6', h7, h8⟩ := ok
  obtain ⟨hc, ht, hkp⟩ := od
  have hq := hQ _ _ ⟨rfl, rfl⟩
  generalize hcc : O.getD (3 * k) 0 = c at *
  generalize hrr : O.getD (3 * k + 1) 0 = r at *
  generalize hbb : O.getD (3 * k + 2) 0 = b at *
  unfold dsM at hq
  have f12 : ¬ c = 116 → ¬ c = 107 → ¬ c = 112 → ¬ c = 109 → K 12 [some (.ref 7), some (.int (nI k)), some (.int (nI r)), some (.int (nI b)), none, none, none, none, none, none] [] (hM z N B K' T O R D laid len st many at' thr isK g) 0 0 := by
    intro a1 a2 a3 a4
    rw [if_neg a1, if_neg a2, if_neg a3, if_neg a4] at hq
    refine hK 12 _ _ _ _ _ _ _ _ rfl ?_
    dsimp only [k_M_does_12, hN1, hB, hM1, hM, wpI, xop, xcall, xli, xlj, xlf, xld, xla, xlg, xst, xst2, xc1, pI, pJ, pF, pD, pR, pA, p1, p0, xpop, xpush, xsm, xhas, xif, xic, xsw, xai, xal, xhi, xhv, xrf, xret, xrtl, xrtf, xrtd, xrta, xrtv, xfit, xnew, cond_true, cond_false, f40, f41, f42, f43, List.length_cons, List.length_nil, Nat.reduceAdd, Nat.reduceSub, Nat.reduceMul, Nat.reduceBEq, List.map_cons, List.map_nil, List.headD_cons, List.getElem?_cons_zero, List.getElem?_cons_succ, List.set_cons_zero, List.set_cons_succ]
    refine Ev_use (ev_M_refills _ z N _ _ hN h0) ?_
    dsimp only [hN1, hB, hM1, hM, wpI, xop, xcall, xli, xlj, xlf, xld, xla, xlg, xst, xst2, xc1, pI, pJ, pF, pD, pR, pA, p1, p0, xpop, xpush, xsm, xhas, xif, xic, xsw, xai, xal, xhi, xhv, xrf, xret, xrtl, xrtf, xrtd, xrta, xrtv, xfit, xnew, cond_true, cond_false, f40, f41, f42, f43, List.length_cons, List.length_nil, Nat.reduceAdd, Nat.reduceSub, Nat.reduceMul, Nat.reduceBEq, List.map_cons, List.map_nil, List.headD_cons, List.getElem?_cons_zero, List.getElem?_cons_succ, List.set_cons_zero, List.set_cons_succ]
    exact ⟨by decide, Nat.le_refl _, Nat.le_refl _, hq⟩
  have f11 : c = 109 → K 11 [some (.ref 7), some (.int (nI k)), some (.int (nI r)), some (.int (nI b)), none, none, none, none, none, none] [] (hM z N B K' T O R D laid len st many at' thr isK g) 0 0 := by
    intro e
    rw [if_neg (by omega), if_neg (by omega), if_neg (by omega), if_pos e] at hq
    refine hK 11 _ _ _ _ _ _ _ _ rfl ?_
    dsimp only [k_M_does_11, hN1, hB, hM1, hM, wpI, xop, xcall, xli, xlj, xlf, xld, xla, xlg, xst, xst2, xc1, pI, pJ, pF, pD, pR, pA, p1, p0, xpop, xpush, xsm, xhas, xif, xic, xsw, xai, xal, xhi, xhv, xrf, xret, xrtl, xrtf, xrtd, xrta, xrtv, xfit, xnew, cond_true, cond_false, f40, f41, f42, f43, List.length_cons, List.length_nil, Nat.reduceAdd, Nat.reduceSub, Nat.reduceMul, Nat.reduceBEq, List.map_cons, List.map_nil, List.headD_cons, List.getElem?_cons_zero, List.getElem?_cons_succ, List.set_cons_zero, List.set_cons_succ]
    refine Ev_use (ev_M_mirrors _ z N _ _ hN h0 h1) ?_
    dsimp only [hN1, hB, hM1, hM, wpI, xop, xcall, xli, xlj, xlf, xld, xla, xlg, xst, xst2, xc1, pI, pJ, pF, pD, pR, pA, p1, p0, xpop, xpush, xsm, xhas, xif, xic, xsw, xai, xal, xhi, xhv, xrf, xret, xrtl, xrtf, xrtd, xrta, xrtv, xfit, xnew, cond_true, cond_false, f40, f41, f42, f43, List.length_cons, List.length_nil, Nat.reduceAdd, Nat.reduceSub, Nat.reduceMul, Nat.reduceBEq, List.map_cons, List.map_nil, List.headD_cons, List.getElem?_cons_zero, List.getElem?_cons_succ, List.set_cons_zero, List.set_cons_succ]
    exact ⟨by decide, Nat.le_refl _, Nat.le_refl _, hq⟩
  have f9 : c = 112 → K 9 [some (.ref 7), some (.int (nI k)), some (.int (nI r)), some (.int (nI b)), none, none, none, none, none, none] [] (hM z N B K' T O R D laid len st many at' thr isK g) 0 0 := by
    intro e
    obtain ⟨hr, hb⟩ := hkp (Or.inr e)
    rw [if_neg (by omega), if_neg (by omega), if_pos e] at hq
    refine hK 9 _ _ _ _ _ _ _ _ rfl ?_
    dsimp only [k_M_does_9, hN1, hB, hM1, hM, wpI, xop, xcall, xli, xlj, xlf, xld, xla, xlg, xst, xst2, xc1, pI, pJ, pF, pD, pR, pA, p1, p0, xpop, xpush, xsm, xhas, xif, xic, xsw, xai, xal, xhi, xhv, xrf, xret, xrtl, xrtf, xrtd, xrta, xrtv, xfit, xnew, cond_true, cond_false, f40, f41, f42, f43, List.length_cons, List.length_nil, Nat.reduceAdd, Nat.reduceSub, Nat.reduceMul, Nat.reduceBEq, List.map_cons, List.map_nil, List.headD_cons, List.getElem?_cons_zero, List.getElem?_cons_succ, List.set_cons_zero, List.set_cons_succ]
    refine Ev_use (ev_M_canPut _ r b z N _ _ hN h0 hr hb) ?_
    dsimp only [hN1, hB, hM1, hM, wpI, xop, xcall, xli, xlj, xlf, xld, xla, xlg, xst, xst2, xc1, pI, pJ, pF, pD, pR, pA, p1, p0, xpop, xpush, xsm, xhas, xif, xic, xsw, xai, xal, xhi, xhv, xrf, xret, xrtl, xrtf, xrtd, xrta, xrtv, xfit, xnew, cond_true, cond_false, f40, f41, f42, f43, List.length_cons, List.length_nil, Nat.reduceAdd, Nat.reduceSub, Nat.reduceMul, Nat.reduceBEq, List.map_cons, List.map_nil, List.headD_cons, List.getElem?_cons_zero, List.getElem?_cons_succ, List.set_cons_zero, List.set_cons_succ]
    rw [bI_0]
    refine ⟨fun y => ?_, fun y => ?_⟩
    · rw [y] at hq
      rw [y]
      refine hK 10 _ _ _ _ _ _ _ _ rfl ?_
      dsimp only [k_M_does_10, hN1, hB, hM1, hM, wpI, xop, xcall, xli, xlj, xlf, xld, xla, xlg, xst, xst2, xc1, pI, pJ, pF, pD, pR, pA, p1, p0, xpop, xpush, xsm, xhas, xif, xic, xsw, xai, xal, xhi, xhv, xrf, xret, xrtl, xrtf, xrtd, xrta, xrtv, xfit, xnew, cond_true, cond_false, f40, f41, f42, f43, List.length_cons, List.length_nil, Nat.reduceAdd, Nat.reduceSub, Nat.reduceMul, Nat.reduceBEq, List.map_cons, List.map_nil, List.headD_cons, List.getElem?_cons_zero, List.getElem?_cons_succ, List.set_cons_zero, List.set_cons_succ]
      exact ⟨by decide, Nat.le_refl _, Nat.le_refl _, hq⟩
    · rw [b_nf y] at hq
      rw [b_nf y]
      refine Ev_use (ev_M_puts _ r b z N _ _ hN h0 hr (by omega)) ?_
      dsimp only [hN1, hB, hM1, hM, wpI, xop, xcall, xli, xlj, xlf, xld, xla, xlg, xst, xst2, xc1, pI, pJ, pF, pD, pR, pA, p1, p0, xpop, xpush, xsm, xhas, xif, xic, xsw, xai, xal, xhi, xhv, xrf, xret, xrtl, xrtf, xrtd, xrta, xrtv, xfit, xnew, cond_true, cond_false, f40, f41, f42, f43, List.length_cons, List.length_nil, Nat.reduceAdd, Nat.reduceSub, Nat.reduceMul, Nat.reduceBEq, List.map_cons, List.map_nil, List.headD_cons, List.getElem?_cons_zero, List.getElem?_cons_succ, List.set_cons_zero, List.set_cons_succ]
      refine hK 10 _ _ _ _ _ _ _ _ rfl ?_
      dsimp only [k_M_does_10, hN1, hB, hM1, hM, wpI, xop, xcall, xli, xlj, xlf, xld, xla, xlg, xst, xst2, xc1, pI, pJ, pF, pD, pR, pA, p1, p0, xpop, xpush, xsm, xhas, xif, xic, xsw, xai, xal, xhi, xhv, xrf, xret, xrtl, xrtf, xrtd, xrta, xrtv, xfit, xnew, cond_true, cond_false, f40, f41, f42, f43, List.length_cons, List.length_nil, Nat.reduceAdd, Nat.reduceSub, Nat.reduceMul, Nat.reduceBEq, List.map_cons, List.map_nil, List.headD_cons, List.getElem?_cons_zero, List.getElem?_cons_succ, List.set_cons_zero, List.set_cons_succ]
      exact ⟨by decide, Nat.le_refl _, Nat.le_refl _, hq⟩
  have f6 : c = 107 → K 6 [some (.ref 7), some (.int (nI k)), some (.int (nI r)), some (.int (nI b)), none, none, none, none, none, none] [] (hM z N B K' T O R D laid len st many at' thr isK g) 0 0 := by
    intro e
    obtain ⟨hr, hb⟩ := hkp (Or.inl e)
    rw [if_neg (by omega), if_pos e] at hq
    refine hK 6 _ _ _ _ _ _ _ _ rfl ?_
    dsimp only [k_M_does_6, hN1, hB, hM1, hM, wpI, xop, xcall, xli, xlj, xlf, xld, xla, xlg, xst, xst2, xc1, pI, pJ, pF, pD, pR, pA, p1, p0, xpop, xpush, xsm, xhas, xif, xic, xsw, xai, xal, xhi, xhv, xrf, xret, xrtl, xrtf, xrtd, xrta, xrtv, xfit, xnew, cond_true, cond_false, f40, f41, f42, f43, List.length_cons, List.length_nil, Nat.reduceAdd, Nat.reduceSub, Nat.reduceMul, Nat.reduceBEq, List.map_cons, List.map_nil, List.headD_cons, List.getElem?_cons_zero, List.getElem?_cons_succ, List.set_cons_zero, List.set_cons_succ]
    try simp (disch := first | omega | (simp only [List.length_set]; omega)) only [nI_add, n_and, n_or, n_xor, n_i31, nI_leI, nI_ltI, n_e0, n_eq, n_m1e, n_l0, n_g0, n_p0, n_q0, n_cl, n_in, n_sub, n_shr, n_shl, n_div, bI_0, n_01, n_11, bI_or, not_false_eq_true, forall_const, not_true_eq_false, false_imp_iff, true_imp_iff, List.length_map, List.length_set, hN, nL_u, gs_eq, gs_ne, nI_set, Nat.reduceLT, true_and, and_true, pk_mul]
    refine Ev_use (ev_M_has _ _ r b _ h0 hr (by omega)) ?_
    dsimp only [hN1, hB, hM1, hM, wpI, xop, xcall, xli, xlj, xlf, xld, xla, xlg, xst, xst2, xc1, pI, pJ, pF, pD, pR, pA, p1, p0, xpop, xpush, xsm, xhas, xif, xic, xsw, xai, xal, xhi, xhv, xrf, xret, xrtl, xrtf, xrtd, xrta, xrtv, xfit, xnew, cond_true, cond_false, f40, f41, f42, f43, List.length_cons, List.length_nil, Nat.reduceAdd, Nat.reduceSub, Nat.reduceMul, Nat.reduceBEq, List.map_cons, List.map_nil, List.headD_cons, List.getElem?_cons_zero, List.getElem?_cons_succ, List.set_cons_zero, List.set_cons_succ]
    rw [bI_0]
    refine ⟨fun y => ?_, fun y => ?_⟩
    · rw [y] at hq
      rw [y]
      refine hK 7 _ _ _ _ _ _ _ _ rfl ?_
      dsimp only [k_M_does_7, hN1, hB, hM1, hM, wpI, xop, xcall, xli, xlj, xlf, xld, xla, xlg, xst, xst2, xc1, pI, pJ, pF, pD, pR, pA, p1, p0, xpop, xpush, xsm, xhas, xif, xic, xsw, xai, xal, xhi, xhv, xrf, xret, xrtl, xrtf, xrtd, xrta, xrtv, xfit, xnew, cond_true, cond_false, f40, f41, f42, f43, List.length_cons, List.length_nil, Nat.reduceAdd, Nat.reduceSub, Nat.reduceMul, Nat.reduceBEq, List.map_cons, List.map_nil, List.headD_cons, List.getElem?_cons_zero, List.getElem?_cons_succ, List.set_cons_zero, List.set_cons_succ]
      refine hK 8 _ _ _ _ _ _ _ _ rfl ?_
      dsimp only [k_M_does_8, hN1, hB, hM1, hM, wpI, xop, xcall, xli, xlj, xlf, xld, xla, xlg, xst, xst2, xc1, pI, pJ, pF, pD, pR, pA, p1, p0, xpop, xpush, xsm, xhas, xif, xic, xsw, xai, xal, xhi, xhv, xrf, xret, xrtl, xrtf, xrtd, xrta, xrtv, xfit, xnew, cond_true, cond_false, f40, f41, f42, f43, List.length_cons, List.length_nil, Nat.reduceAdd, Nat.reduceSub, Nat.reduceMul, Nat.reduceBEq, List.map_cons, List.map_nil, List.headD_cons, List.getElem?_cons_zero, List.getElem?_cons_succ, List.set_cons_zero, List.set_cons_succ]
      exact ⟨by decide, Nat.le_refl _, Nat.le_refl _, hq⟩
    · rw [b_nf y] at hq
      rw [b_nf y]
      refine Ev_use (ev_M_knocks _ r b z N _ _ hN h0 hr (by omega)) ?_
      dsimp only [hN1, hB, hM1, hM, wpI, xop, xcall, xli, xlj, xlf, xld, xla, xlg, xst, xst2, xc1, pI, pJ, pF, pD, pR, pA, p1, p0, xpop, xpush, xsm, xhas, xif, xic, xsw, xai, xal, xhi, xhv, xrf, xret, xrtl, xrtf, xrtd, xrta, xrtv, xfit, xnew, cond_true, cond_false, f40, f41, f42, f43, List.length_cons, List.length_nil, Nat.reduceAdd, Nat.reduceSub, Nat.reduceMul, Nat.reduceBEq, List.map_cons, List.map_nil, List.headD_cons, List.getElem?_cons_zero, List.getElem?_cons_succ, List.set_cons_zero, List.set_cons_succ]
      refine hK 8 _ _ _ _ _ _ _ _ rfl ?_
      dsimp only [k_M_does_8, hN1, hB, hM1, hM, wpI, xop, xcall, xli, xlj, xlf, xld, xla, xlg, xst, xst2, xc1, pI, pJ, pF, pD, pR, pA, p1, p0, xpop, xpush, xsm, xhas, xif, xic, xsw, xai, xal, xhi, xhv, xrf, xret, xrtl, xrtf, xrtd, xrta, xrtv, xfit, xnew, cond_true, cond_false, f40, f41, f42, f43, List.length_cons, List.length_nil, Nat.reduceAdd, Nat.reduceSub, Nat.reduceMul, Nat.reduceBEq, List.map_cons, List.map_nil, List.headD_cons, List.getElem?_cons_zero, List.getElem?_cons_succ, List.set_cons_zero, List.set_cons_succ]
      exact ⟨by decide, Nat.le_refl _, Nat.le_refl _, hq⟩
  have f1 : c = 116 → K 1 [some (.ref 7), some (.int (nI k)), some (.int (nI r)), some (.int (nI b)), none, none, none, none, none, none] [] (hM z N B K' T O R D laid len st many at' thr isK g) 0 0 := by
    intro e
    obtain ⟨hr, hb⟩ := ht e
    rw [if_pos e] at hq
    have hz := mrs_lt N (N.getD 0 0) (N.getD 1 0) r b
    refine hK 1 _ _ _ _ _ _ _ _ rfl ?_
    dsimp only [k_M_does_1, hN1, hB, hM1, hM, wpI, xop, xcall, xli, xlj, xlf, xld, xla, xlg, xst, xst2, xc1, pI, pJ, pF, pD, pR, pA, p1, p0, xpop, xpush, xsm, xhas, xif, xic, xsw, xai, xal, xhi, xhv, xrf, xret, xrtl, xrtf, xrtd, xrta, xrtv, xfit, xnew, cond_true, cond_false, f40, f41, f42, f43, List.length_cons, List.length_nil, Nat.reduceAdd, Nat.reduceSub, Nat.reduceMul, Nat.reduceBEq, List.map_cons, List.map_nil, List.headD_cons, List.getElem?_cons_zero, List.getElem?_cons_succ, List.set_cons_zero, List.set_cons_succ]
    try simp (disch := first | omega | (simp only [List.length_set]; omega)) only [nI_add, n_and, n_or, n_xor, n_i31, nI_leI, nI_ltI, n_e0, n_eq, n_m1e, n_l0, n_g0, n_p0, n_q0, n_cl, n_in, n_sub, n_shr, n_shl, n_div, bI_0, n_01, n_11, bI_or, not_false_eq_true, forall_const, not_true_eq_false, false_imp_iff, true_imp_iff, List.length_map, List.length_set, hN, nL_u, gs_eq, gs_ne, nI_set, Nat.reduceLT, true_and, and_true, pk_mul]
    refine Ev_use (ev_M_reason _ _ _ r b z N _ _ hN h6' h7 h0 h1 hr (by omega)) ?_
    dsimp only [hN1, hB, hM1, hM, wpI, xop, xcall, xli, xlj, xlf, xld, xla, xlg, xst, xst2, xc1, pI, pJ, pF, pD, pR, pA, p1, p0, xpop, xpush, xsm, xhas, xif, xic, xsw, xai, xal, xhi, xhv, xrf, xret, xrtl, xrtf, xrtd, xrta, xrtv, xfit, xnew, cond_true, cond_false, f40, f41, f42, f43, List.length_cons, List.length_nil, Nat.reduceAdd, Nat.reduceSub, Nat.reduceMul, Nat.reduceBEq, List.map_cons, List.map_nil, List.headD_cons, List.getElem?_cons_zero, List.getElem?_cons_succ, List.set_cons_zero, List.set_cons_succ]
    try simp (disch := first | omega | (simp only [List.length_set]; omega)) only [nI_add, n_and, n_or, n_xor, n_i31, nI_leI, nI_ltI, n_e0, n_eq, n_m1e, n_l0, n_g0, n_p0, n_q0, n_cl, n_in, n_sub, n_shr, n_shl, n_div, bI_0, n_01, n_11, bI_or, not_false_eq_true, forall_const, not_true_eq_false, false_imp_iff, true_imp_iff, List.length_map, List.length_set, hN, nL_u, gs_eq, gs_ne, nI_set, Nat.reduceLT, true_and, and_true, pk_mul]
    refine ⟨fun y => ?_, fun y => ?_⟩
    · rw [if_neg y] at hq
      refine hK 2 _ _ _ _ _ _ _ _ rfl ?_
      dsimp only [k_M_does_2, hN1, hB, hM1, hM, wpI, xop, xcall, xli, xlj, xlf, xld, xla, xlg, xst, xst2, xc1, pI, pJ, pF, pD, pR, pA, p1, p0, xpop, xpush, xsm, xhas, xif, xic, xsw, xai, xal, xhi, xhv, xrf, xret, xrtl, xrtf, xrtd, xrta, xrtv, xfit, xnew, cond_true, cond_false, f40, f41, f42, f43, List.length_cons, List.length_nil, Nat.reduceAdd, Nat.reduceSub, Nat.reduceMul, Nat.reduceBEq, List.map_cons, List.map_nil, List.headD_cons, List.getElem?_cons_zero, List.getElem?_cons_succ, List.set_cons_zero, List.set_cons_succ]
      refine hK 3 _ _ _ _ _ _ _ _ rfl ?_
      dsimp only [k_M_does_3, hN1, hB, hM1, hM, wpI, xop, xcall, xli, xlj, xlf, xld, xla, xlg, xst, xst2, xc1, pI, pJ, pF, pD, pR, pA, p1, p0, xpop, xpush, xsm, xhas, xif, xic, xsw, xai, xal, xhi, xhv, xrf, xret, xrtl, xrtf, xrtd, xrta, xrtv, xfit, xnew, cond_true, cond_false, f40, f41, f42, f43, List.length_cons, List.length_nil, Nat.reduceAdd, Nat.reduceSub, Nat.reduceMul, Nat.reduceBEq, List.map_cons, List.map_nil, List.headD_cons, List.getElem?_cons_zero, List.getElem?_cons_succ, List.set_cons_zero, List.set_cons_succ]
      refine ⟨fun _ => ?_, fun y => absurd (by decide) y⟩
      refine hK 4 _ _ _ _ _ _ _ _ rfl ?_
      dsimp only [k_M_does_4, hN1, hB, hM1, hM, wpI, xop, xcall, xli, xlj, xlf, xld, xla, xlg, xst, xst2, xc1, pI, pJ, pF, pD, pR, pA, p1, p0, xpop, xpush, xsm, xhas, xif, xic, xsw, xai, xal, xhi, xhv, xrf, xret, xrtl, xrtf, xrtd, xrta, xrtv, xfit, xnew, cond_true, cond_false, f40, f41, f42, f43, List.length_cons, List.length_nil, Nat.reduceAdd, Nat.reduceSub, Nat.reduceMul, Nat.reduceBEq, List.map_cons, List.map_nil, List.headD_cons, List.getElem?_cons_zero, List.getElem?_cons_succ, List.set_cons_zero, List.set_cons_succ]
      refine hK 5 _ _ _ _ _ _ _ _ rfl ?_
      dsimp only [k_M_does_5, hN1, hB, hM1, hM, wpI, xop, xcall, xli, xlj, xlf, xld, xla, xlg, xst, xst2, xc1, pI, pJ, pF, pD, pR, pA, p1, p0, xpop, xpush, xsm, xhas, xif, xic, xsw, xai, xal, xhi, xhv, xrf, xret, xrtl, xrtf, xrtd, xrta, xrtv, xfit, xnew, cond_true, cond_false, f40, f41, f42, f43, List.length_cons, List.length_nil, Nat.reduceAdd, Nat.reduceSub, Nat.reduceMul, Nat.reduceBEq, List.map_cons, List.map_nil, List.headD_cons, List.getElem?_cons_zero, List.getElem?_cons_succ, List.set_cons_zero, List.set_cons_succ]
      exact ⟨by decide, Nat.le_refl _, Nat.le_refl _, hq⟩
    · rw [if_pos y] at hq
      refine hK 3 _ _ _ _ _ _ _ _ rfl ?_
      dsimp only [k_M_does_3, hN1, hB, hM1, hM, wpI, xop, xcall, xli, xlj, xlf, xld, xla, xlg, xst, xst2, xc1, pI, pJ, pF, pD, pR, pA, p1, p0, xpop, xpush, xsm, xhas, xif, xic, xsw, xai, xal, xhi, xhv, xrf, xret, xrtl, xrtf, xrtd, xrta, xrtv, xfit, xnew, cond_true, cond_false, f40, f41, f42, f43, List.length_cons, List.length_nil, Nat.reduceAdd, Nat.reduceSub, Nat.reduceMul, Nat.reduceBEq, List.map_cons, List.map_nil, List.headD_cons, List.getElem?_cons_zero, List.getElem?_cons_succ, List.set_cons_zero, List.set_cons_succ]
      refine ⟨fun y => absurd y (by decide), fun _ => ?_⟩
      refine Ev_use (ev_M_takes _ r b z N _ _ hN h0 h1 hr (by omega)) ?_
      dsimp only [hN1, hB, hM1, hM, wpI, xop, xcall, xli, xlj, xlf, xld, xla, xlg, xst, xst2, xc1, pI, pJ, pF, pD, pR, pA, p1, p0, xpop, xpush, xsm, xhas, xif, xic, xsw, xai, xal, xhi, xhv, xrf, xret, xrtl, xrtf, xrtd, xrta, xrtv, xfit, xnew, cond_true, cond_false, f40, f41, f42, f43, List.length_cons, List.length_nil, Nat.reduceAdd, Nat.reduceSub, Nat.reduceMul, Nat.reduceBEq, List.map_cons, List.map_nil, List.headD_cons, List.getElem?_cons_zero, List.getElem?_cons_succ, List.set_cons_zero, List.set_cons_succ]
      refine hK 5 _ _ _ _ _ _ _ _ rfl ?_
      dsimp only [k_M_does_5, hN1, hB, hM1, hM, wpI, xop, xcall, xli, xlj, xlf, xld, xla, xlg, xst, xst2, xc1, pI, pJ, pF, pD, pR, pA, p1, p0, xpop, xpush, xsm, xhas, xif, xic, xsw, xai, xal, xhi, xhv, xrf, xret, xrtl, xrtf, xrtd, xrta, xrtv, xfit, xnew, cond_true, cond_false, f40, f41, f42, f43, List.length_cons, List.length_nil, Nat.reduceAdd, Nat.reduceSub, Nat.reduceMul, Nat.reduceBEq, List.map_cons, List.map_nil, List.headD_cons, List.getElem?_cons_zero, List.getElem?_cons_succ, List.set_cons_zero, List.set_cons_succ]
      exact ⟨by decide, Nat.le_refl _, Nat.le_refl _, hq⟩
  refine hK 0 _ _ _ _ _ _ _ _ rfl ?_
  dsimp only [k_M_does_0, hN1, hB, hM1, hM, wpI, xop, xcall, xli, xlj, xlf, xld, xla, xlg, xst, xst2, xc1, pI, pJ, pF, pD, pR, pA, p1, p0, xpop, xpush, xsm, xhas, xif, xic, xsw, xai, xal, xhi, xhv, xrf, xret, xrtl, xrtf, xrtd, xrta, xrtv, xfit, xnew, cond_true, cond_false, f40, f41, f42, f43, List.length_cons, List.length_nil, Nat.reduceAdd, Nat.reduceSub, Nat.reduceMul, Nat.reduceBEq, List.map_cons, List.map_nil, List.headD_cons, List.getElem?_cons_zero, List.getElem?_cons_succ, List.set_cons_zero, List.set_cons_succ, List.map]
  try simp (disch := first | omega | (simp only [List.length_set]; omega)) only [nI_add, n_and, n_or, n_xor, n_i31, nI_leI, nI_ltI, n_e0, n_eq, n_m1e, n_l0, n_g0, n_p0, n_q0, n_cl, n_in, n_sub, n_shr, n_shl, n_div, bI_0, n_01, n_11, bI_or, not_false_eq_true, forall_const, not_true_eq_false, false_imp_iff, true_imp_iff, List.length_map, List.length_set, hN, nL_u, gs_eq, gs_ne, nI_set, Nat.reduceLT, true_and, and_true, pk_mul, hO, hcc, hrr, hbb]
  refine ⟨by omega, by omega, by omega, ?_⟩
  refine ⟨fun y => f6 y, fun a1 => ⟨fun y => f12 (by omega) (by omega) (by omega) (by omega), fun _ => ⟨fun y => f11 y, fun a2 => ⟨fun y => f12 (by omega) (by omega) (by omega) (by omega), fun _ => ⟨fun y => f12 (by omega) (by omega) (by omega) (by omega), fun _ => ⟨fun y => f9 y, fun a3 => ⟨fun y => f12 (by omega) (by omega) (by omega) (by omega), fun _ => ⟨fun y => f12 (by omega) (by omega) (by omega) (by omega), fun _ => ⟨fun y => f12 (by omega) (by omega) (by omega) (by omega), fun _ => ⟨fun y => f1 y, fun a4 => f12 a4 a1 a3 a2⟩⟩⟩⟩⟩⟩⟩⟩⟩⟩
def obM (O : List Nat) : Nat → Nat → List Nat → Nat × List Nat
  | 0, k, N => (k, N)
  | j + 1, k, N => if (dsM N (O.getD (3 * k) 0) (O.getD (3 * k + 1) 0) (O.getD (3 * k + 2) 0)).1 = true then obM O j (k + 1) (dsM N (O.getD (3 * k) 0) (O.getD (3 * k + 1) 0) (O.getD (3 * k + 2) 0)).2 else (k, (dsM N (O.getD (3 * k) 0) (O.getD (3 * k + 1) 0) (O.getD (3 * k + 2) 0)).2)
set_option maxRecDepth 100000 in
set_option maxHeartbeats 4000000 in
theorem ev_M_obey (d : Nat) (z : Nat → xC) (N B K' T O R D : List Nat) (laid : Int32) (len st many at' thr : Nat) (isK : Bool) (g : xH) (ok : stM N) (hT : T.length = 60) (hC : ∀ j, T.getD j 0 < 128) (hl : len ≤ 60) (hO : O.length = 120) (hB : B.length = 114) (hs : st ≤ 6) :
    Ev xT (d + 6) N_M_obey [.ref 7] (hM z N B K' T O R D laid len st many at' thr isK g) (Mr (if (icF T len O).1 = true then 0 else 1) (some (.int (nI (obM (icF T len O).2.2.2 (icF T len O).2.2.1 0 N).1)))
      (hM z ((obM (icF T len O).2.2.2 (icF T len O).2.2.1 0 N).2) (recB N B st) K' T ((icF T len O).2.2.2) R D laid 0 (saveS st) ((icF T len O).2.2.1) ((icF T len O).2.1) 0 isK g) (hM z N B K' T ((icF T len O).2.2.2) R D laid len st ((icF T len O).2.2.1) ((icF T len O).2.1) 1 isK g)) NX := by
  refine Ev_intro t_M_obey (Nat.le_of_ble_eq_true rfl) ?_
  intro Q X hQ hX K hK
  show K 0 [some (.ref 7), none] [] _ 0 0
  have hq1 := fun e => hQ _ _ (Or.inl ⟨e, rfl, rfl⟩)
  have hq0 := fun e => hQ _ _ (Or.inr ⟨e, rfl, rfl⟩)
  obtain ⟨o1, o2, o3⟩ := icF_od T len O hC hl hO
  generalize hX : icF T len O = X at hq0 hq1 o1 o2 o3
  refine hK 0 _ _ _ _ _ _ _ _ rfl ?_
  dsimp only [k_M_obey_0, hN1, hB, hM1, hM, wpI, xop, xcall, xli, xlj, xlf, xld, xla, xlg, xst, xst2, xc1, pI, pJ, pF, pD, pR, pA, p1, p0, xpop, xpush, xsm, xhas, xif, xic, xsw, xai, xal, xhi, xhv, xrf, xret, xrtl, xrtf, xrtd, xrta, xrtv, xfit, xnew, cond_true, cond_false, f40, f41, f42, f43, List.length_cons, List.length_nil, Nat.reduceAdd, Nat.reduceSub, Nat.reduceMul, Nat.reduceBEq, List.map_cons, List.map_nil, List.headD_cons, List.getElem?_cons_zero, List.getElem?_cons_succ, List.set_cons_zero, List.set_cons_succ]
  refine Ev_use (ev_M_isComplete _ z N B K' T O R D laid len st many at' thr isK g hT hC hl hO) ?_
  dsimp only [hN1, hB, hM1, hM, wpI, xop, xcall, xli, xlj, xlf, xld, xla, xlg, xst, xst2, xc1, pI, pJ, pF, pD, pR, pA, p1, p0, xpop, xpush, xsm, xhas, xif, xic, xsw, xai, xal, xhi, xhv, xrf, xret, xrtl, xrtf, xrtd, xrta, xrtv, xfit, xnew, cond_true, cond_false, f40, f41, f42, f43, List.length_cons, List.length_nil, Nat.reduceAdd, Nat.reduceSub, Nat.reduceMul, Nat.reduceBEq, List.map_cons, List.map_nil, List.headD_cons, List.getElem?_cons_zero, List.getElem?_cons_succ, List.set_cons_zero, List.set_cons_succ]
  rw [hX]
  clear hX
  obtain ⟨b, at', many, O⟩ := X
  dsimp only at hq0 hq1 o1 o2 o3 ⊢
  have loop : ∀ (j k st : Nat) (N B : List Nat), many = k + j → k ≤ 31 → stM N → Q (some (.int (nI (obM O j k N).1))) (hM z ((obM O j k N).2) B K' T O R D laid 0 st many at' 0 isK g) → K 4 [some (.ref 7), some (.int (nI k))] [] (hM z N B K' T O R D laid len st many at' 0 isK g) 0 0 := by
    intro j
    induction j with
    | zero =>
      intro k st N B hk hk2 ok hq
      rw [obM] at hq
      refine hK 4 _ _ _ _ _ _ _ _ rfl ?_
      dsimp only [k_M_obey_4, hN1, hB, hM1, hM, wpI, xop, xcall, xli, xlj, xlf, xld, xla, xlg, xst, xst2, xc1, pI, pJ, pF, pD, pR, pA, p1, p0, xpop, xpush, xsm, xhas, xif, xic, xsw, xai, xal, xhi, xhv, xrf, xret, xrtl, xrtf, xrtd, xrta, xrtv, xfit, xnew, cond_true, cond_false, f40, f41, f42, f43, List.length_cons, List.length_nil, Nat.reduceAdd, Nat.reduceSub, Nat.reduceMul, Nat.reduceBEq, List.map_cons, List.map_nil, List.headD_cons, List.getElem?_cons_zero, List.getElem?_cons_succ, List.set_cons_zero, List.set_cons_succ]
      try simp (disch := omega) only [nI_add, n_and, n_or, n_xor, n_i31, nI_leI, nI_ltI, n_e0, n_eq, n_m1e, n_l0, n_g0, n_p0, n_q0, n_cl, n_in, n_sub, n_shr, n_shl, n_div, bI_0, n_01, n_11, bI_or, not_false_eq_true, forall_const, not_true_eq_false, false_imp_iff, true_imp_iff]
      refine br_t (by omega) ?_
      refine hK 5 _ _ _ _ _ _ _ _ rfl ?_
      dsimp only [k_M_obey_5, hN1, hB, hM1, hM, wpI, xop, xcall, xli, xlj, xlf, xld, xla, xlg, xst, xst2, xc1, pI, pJ, pF, pD, pR, pA, p1, p0, xpop, xpush, xsm, xhas, xif, xic, xsw, xai, xal, xhi, xhv, xrf, xret, xrtl, xrtf, xrtd, xrta, xrtv, xfit, xnew, cond_true, cond_false, f40, f41, f42, f43, List.length_cons, List.length_nil, Nat.reduceAdd, Nat.reduceSub, Nat.reduceMul, Nat.reduceBEq, List.map_cons, List.map_nil, List.headD_cons, List.getElem?_cons_zero, List.getElem?_cons_succ, List.set_cons_zero, List.set_cons_succ]
      first | exact hq | exact ⟨Nat.le_refl _, hq⟩ | exact ⟨Nat.le_refl _, Nat.le_refl _, hq⟩ | exact ⟨Or.inl rfl, Nat.le_refl _, Nat.le_refl _, hq⟩ | exact ⟨Or.inr rfl, Nat.le_refl _, Nat.le_refl _, hq⟩
    | succ j ih =>
      intro k st N B hk hk2 ok hq
      have hod := o3 k (by omega)
      have ok2 := st_ds ok (c := O.getD (3 * k) 0) (r := O.getD (3 * k + 1) 0) (b := O.getD (3 * k + 2) 0) (fun q => by
        rcases q with q | q | q
        · exact (hod.2.1 q).1
        · exact (hod.2.2 (Or.inl q)).1
        · exact (hod.2.2 (Or.inr q)).1) (fun q => (hod.2.2 (Or.inr q)).2)
      rw [obM] at hq
      refine hK 4 _ _ _ _ _ _ _ _ rfl ?_
      dsimp only [k_M_obey_4, hN1, hB, hM1, hM, wpI, xop, xcall, xli, xlj, xlf, xld, xla, xlg, xst, xst2, xc1, pI, pJ, pF, pD, pR, pA, p1, p0, xpop, xpush, xsm, xhas, xif, xic, xsw, xai, xal, xhi, xhv, xrf, xret, xrtl, xrtf, xrtd, xrta, xrtv, xfit, xnew, cond_true, cond_false, f40, f41, f42, f43, List.length_cons, List.length_nil, Nat.reduceAdd, Nat.reduceSub, Nat.reduceMul, Nat.reduceBEq, List.map_cons, List.map_nil, List.headD_cons, List.getElem?_cons_zero, List.getElem?_cons_succ, List.set_cons_zero, List.set_cons_succ]
      try simp (disch := omega) only [nI_add, n_and, n_or, n_xor, n_i31, nI_leI, nI_ltI, n_e0, n_eq, n_m1e, n_l0, n_g0, n_p0, n_q0, n_cl, n_in, n_sub, n_shr, n_shl, n_div, bI_0, n_01, n_11, bI_or, not_false_eq_true, forall_const, not_true_eq_false, false_imp_iff, true_imp_iff]
      refine br_f (by omega) ?_
      refine Ev_use (ev_M_does _ k z N B K' T O R D laid len st many at' 0 isK g ok o1 (by omega) hod) ?_
      dsimp only [hN1, hB, hM1, hM, wpI, xop, xcall, xli, xlj, xlf, xld, xla, xlg, xst, xst2, xc1, pI, pJ, pF, pD, pR, pA, p1, p0, xpop, xpush, xsm, xhas, xif, xic, xsw, xai, xal, xhi, xhv, xrf, xret, xrtl, xrtf, xrtd, xrta, xrtv, xfit, xnew, cond_true, cond_false, f40, f41, f42, f43, List.length_cons, List.length_nil, Nat.reduceAdd, Nat.reduceSub, Nat.reduceMul, Nat.reduceBEq, List.map_cons, List.map_nil, List.headD_cons, List.getElem?_cons_zero, List.getElem?_cons_succ, List.set_cons_zero, List.set_cons_succ]
      rw [bI_0]
      refine ⟨fun y => ?_, fun y => ?_⟩
      · rw [y] at hq
        refine hK 5 _ _ _ _ _ _ _ _ rfl ?_
        dsimp only [k_M_obey_5, hN1, hB, hM1, hM, wpI, xop, xcall, xli, xlj, xlf, xld, xla, xlg, xst, xst2, xc1, pI, pJ, pF, pD, pR, pA, p1, p0, xpop, xpush, xsm, xhas, xif, xic, xsw, xai, xal, xhi, xhv, xrf, xret, xrtl, xrtf, xrtd, xrta, xrtv, xfit, xnew, cond_true, cond_false, f40, f41, f42, f43, List.length_cons, List.length_nil, Nat.reduceAdd, Nat.reduceSub, Nat.reduceMul, Nat.reduceBEq, List.map_cons, List.map_nil, List.headD_cons, List.getElem?_cons_zero, List.getElem?_cons_succ, List.set_cons_zero, List.set_cons_succ]
        first | exact hq | exact ⟨Nat.le_refl _, hq⟩ | exact ⟨Nat.le_refl _, Nat.le_refl _, hq⟩ | exact ⟨Or.inl rfl, Nat.le_refl _, Nat.le_refl _, hq⟩ | exact ⟨Or.inr rfl, Nat.le_refl _, Nat.le_refl _, hq⟩
      · rw [if_pos (b_nf y)] at hq
        try simp (disch := omega) only [nI_add, n_and, n_or, n_xor, n_i31, nI_leI, nI_ltI, n_e0, n_eq, n_m1e, n_l0, n_g0, n_p0, n_q0, n_cl, n_in, n_sub, n_shr, n_shl, n_div, bI_0, n_01, n_11, bI_or, not_false_eq_true, forall_const, not_true_eq_false, false_imp_iff, true_imp_iff]
        exact ih (k + 1) st _ B (by omega) (by omega) ok2 hq
  have go2 : ∀ e, e < 4 → e = (if b = true then 0 else 1) → K 2 [some (.ref 7), none] [.int (nI e), .ref 7] (hM z N B K' T O R D laid len st many at' thr isK g) 0 0 := by
    intro e he ee
    rw [← ee] at hq0 hq1
    refine hK 2 _ _ _ _ _ _ _ _ rfl ?_
    dsimp only [k_M_obey_2, hN1, hB, hM1, hM, wpI, xop, xcall, xli, xlj, xlf, xld, xla, xlg, xst, xst2, xc1, pI, pJ, pF, pD, pR, pA, p1, p0, xpop, xpush, xsm, xhas, xif, xic, xsw, xai, xal, xhi, xhv, xrf, xret, xrtl, xrtf, xrtd, xrta, xrtv, xfit, xnew, cond_true, cond_false, f40, f41, f42, f43, List.length_cons, List.length_nil, Nat.reduceAdd, Nat.reduceSub, Nat.reduceMul, Nat.reduceBEq, List.map_cons, List.map_nil, List.headD_cons, List.getElem?_cons_zero, List.getElem?_cons_succ, List.set_cons_zero, List.set_cons_succ]
    refine Ev_use (ev_M_goes _ e z N B K' T O R D laid len st many at' thr isK g (by omega)) ?_
    dsimp only [hN1, hB, hM1, hM, wpI, xop, xcall, xli, xlj, xlf, xld, xla, xlg, xst, xst2, xc1, pI, pJ, pF, pD, pR, pA, p1, p0, xpop, xpush, xsm, xhas, xif, xic, xsw, xai, xal, xhi, xhv, xrf, xret, xrtl, xrtf, xrtd, xrta, xrtv, xfit, xnew, cond_true, cond_false, f40, f41, f42, f43, List.length_cons, List.length_nil, Nat.reduceAdd, Nat.reduceSub, Nat.reduceMul, Nat.reduceBEq, List.map_cons, List.map_nil, List.headD_cons, List.getElem?_cons_zero, List.getElem?_cons_succ, List.set_cons_zero, List.set_cons_succ]
    rw [bI_0]
    refine ⟨fun y1 => ?_, fun y1 => ?_⟩
    · have e0 := beq_iff_eq.mp (b_nf y1)
      subst e0
      have hq := hq1 rfl
      refine hK 3 _ _ _ _ _ _ _ _ rfl ?_
      dsimp only [k_M_obey_3, hN1, hB, hM1, hM, wpI, xop, xcall, xli, xlj, xlf, xld, xla, xlg, xst, xst2, xc1, pI, pJ, pF, pD, pR, pA, p1, p0, xpop, xpush, xsm, xhas, xif, xic, xsw, xai, xal, xhi, xhv, xrf, xret, xrtl, xrtf, xrtd, xrta, xrtv, xfit, xnew, cond_true, cond_false, f40, f41, f42, f43, List.length_cons, List.length_nil, Nat.reduceAdd, Nat.reduceSub, Nat.reduceMul, Nat.reduceBEq, List.map_cons, List.map_nil, List.headD_cons, List.getElem?_cons_zero, List.getElem?_cons_succ, List.set_cons_zero, List.set_cons_succ]
      refine Ev_use (ev_M_record _ z N B K' T O R D laid len st many at' 0 isK g ok.1 hB hs) ?_
      dsimp only [hN1, hB, hM1, hM, wpI, xop, xcall, xli, xlj, xlf, xld, xla, xlg, xst, xst2, xc1, pI, pJ, pF, pD, pR, pA, p1, p0, xpop, xpush, xsm, xhas, xif, xic, xsw, xai, xal, xhi, xhv, xrf, xret, xrtl, xrtf, xrtd, xrta, xrtv, xfit, xnew, cond_true, cond_false, f40, f41, f42, f43, List.length_cons, List.length_nil, Nat.reduceAdd, Nat.reduceSub, Nat.reduceMul, Nat.reduceBEq, List.map_cons, List.map_nil, List.headD_cons, List.getElem?_cons_zero, List.getElem?_cons_succ, List.set_cons_zero, List.set_cons_succ]
      exact loop many 0 _ N _ (by omega) (by omega) ok hq
    · have e1 : e ≠ 0 := beq_eq_false_iff_ne.mp y1
      have hq := hq0 e1
      obtain rfl : e = 1 := by
        cases b
        · exact ee
        · exact (e1 ee).elim
      first | exact hq | exact ⟨Nat.le_refl _, hq⟩ | exact ⟨Nat.le_refl _, Nat.le_refl _, hq⟩ | exact ⟨Or.inl rfl, Nat.le_refl _, Nat.le_refl _, hq⟩ | exact ⟨Or.inr rfl, Nat.le_refl _, Nat.le_refl _, hq⟩
  rw [bI_0]
  refine ⟨fun y1 => ?_, fun y1 => ?_⟩
  · subst y1
    refine hK 1 _ _ _ _ _ _ _ _ rfl ?_
    dsimp only [k_M_obey_1, hN1, hB, hM1, hM, wpI, xop, xcall, xli, xlj, xlf, xld, xla, xlg, xst, xst2, xc1, pI, pJ, pF, pD, pR, pA, p1, p0, xpop, xpush, xsm, xhas, xif, xic, xsw, xai, xal, xhi, xhv, xrf, xret, xrtl, xrtf, xrtd, xrta, xrtv, xfit, xnew, cond_true, cond_false, f40, f41, f42, f43, List.length_cons, List.length_nil, Nat.reduceAdd, Nat.reduceSub, Nat.reduceMul, Nat.reduceBEq, List.map_cons, List.map_nil, List.headD_cons, List.getElem?_cons_zero, List.getElem?_cons_succ, List.set_cons_zero, List.set_cons_succ]
    exact go2 1 (by decide) rfl
  · obtain rfl := b_nf y1
    exact go2 0 (by decide) rfl
