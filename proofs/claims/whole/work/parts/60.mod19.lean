/-! the model: what the best play tells of one pyramid -/
def otN (m t k : Nat) : Nat := 8 * (slotN (mfN (mrN m t (k / 3) (1 + (k - k / 3 * 3))))).getD 0 + 4 - 4 * t
/-- wins, most, fewest -/
abbrev xLp : Type := Bool × Nat × Nat
def lpS (D : List Nat) (o : Nat) (x : xLp) : xLp := (x.1 || D.getD o 0 == 0, if x.2.1 < D.getD (o + 2) 0 + 1 then D.getD (o + 2) 0 + 1 else x.2.1, if D.getD (o + 3) 0 + 1 < x.2.2 then D.getD (o + 3) 0 + 1 else x.2.2)
def lpL (N D : List Nat) (m t : Nat) : Nat → Nat → xLp → xLp
  | 0, _, x => x
  | j + 1, k, x => lpL N D m t j (k + 1) (if mrsN N m t (k / 3) (1 + (k - k / 3 * 3)) = 0 then lpS D (otN m t k) x else x)
def loX (N D : List Nat) (m t : Nat) : xLp := if mthL N m t 15 0 0 = 0 then (N.getD 8 0 == 1, 0, 0) else lpL N D m t 15 0 (false, 0, 100)
def loD (N D : List Nat) (i t : Nat) : List Nat := (((D.set (8 * i + 4 * t) (if (loX N D (gS i) t).1 = true then 1 else 0)).set (8 * i + 4 * t + 1) (if mthL N (gS i) t 15 0 0 = 0 then 1 else 0)).set (8 * i + 4 * t + 2) (loX N D (gS i) t).2.1).set (8 * i + 4 * t + 3) (loX N D (gS i) t).2.2
theorem mth_le (N : List Nat) (m t : Nat) : ∀ (j k s : Nat), mthL N m t j k s ≤ s + j
  | 0, _, _ => Nat.le_refl _
  | j + 1, k, s => by
    have h := mth_le N m t j (k + 1) (s + if mrsN N m t (k / 3) (1 + (k - k / 3 * 3)) = 0 then 1 else 0)
    rw [mthL]
    split at h <;> rename_i e
    · rw [if_pos e]; omega
    · rw [if_neg e]; omega
theorem lpS_le {D : List Nat} {o A : Nat} {x : xLp} (hA : 100 ≤ A) (hD : ∀ j, D.getD j 0 < A) (h : x.2.1 ≤ A ∧ x.2.2 ≤ A) : (lpS D o x).2.1 ≤ A ∧ (lpS D o x).2.2 ≤ A := by
  have h1 := hD (o + 2)
  have h2 := hD (o + 3)
  unfold lpS
  dsimp only
  constructor <;> split <;> omega
theorem lpL_le {N D : List Nat} {m t A : Nat} (hA : 100 ≤ A) (hD : ∀ j, D.getD j 0 < A) : ∀ (j k : Nat) (x : xLp), (x.2.1 ≤ A ∧ x.2.2 ≤ A) → (lpL N D m t j k x).2.1 ≤ A ∧ (lpL N D m t j k x).2.2 ≤ A
  | 0, _, _, h => h
  | j + 1, k, x, h => by
    rw [lpL]
    refine lpL_le hA hD j _ _ ?_
    split
    · exact lpS_le hA hD h
    · exact h
theorem loX_le {N D : List Nat} {m t A : Nat} (hA : 100 ≤ A) (hD : ∀ j, D.getD j 0 < A) : (loX N D m t).2.1 ≤ A ∧ (loX N D m t).2.2 ≤ A := by
  unfold loX
  split
  · exact ⟨Nat.zero_le _, Nat.zero_le _⟩
  · exact lpL_le hA hD _ _ _ ⟨Nat.zero_le _, hA⟩
theorem getD_set_lt {l : List Nat} {i j v A : Nat} (h : ∀ k, l.getD k 0 < A) (hv : v < A) : (l.set i v).getD j 0 < A := by
  by_cases e : i = j
  · subst e
    by_cases e2 : i < l.length
    · rw [gs_eq e2]; exact hv
    · rw [List.set_eq_of_length_le (by omega)]; exact h i
  · rw [gs_ne e]; exact h j
theorem loD_lt {N D : List Nat} {i t A : Nat} (hA : 100 ≤ A) (hD : ∀ j, D.getD j 0 < A) : ∀ j, (loD N D i t).getD j 0 < A + 1 := by
  have h := loX_le (N := N) (m := gS i) (t := t) hA hD
  have hD1 : ∀ j, D.getD j 0 < A + 1 := fun j => Nat.lt_succ_of_lt (hD j)
  intro j
  unfold loD
  refine getD_set_lt (fun j => getD_set_lt (fun j => getD_set_lt (fun j => getD_set_lt hD1 ?_) ?_) (Nat.lt_succ_of_le h.1)) (Nat.lt_succ_of_le h.2)
  · split <;> omega
  · split <;> omega
theorem loD_len (N D : List Nat) (i t : Nat) : (loD N D i t).length = D.length := by
  unfold loD
  simp only [List.length_set]
set_option maxRecDepth 100000 in
set_option maxHeartbeats 4000000 in
theorem ev_M_layOne (d i t A : Nat) (z : Nat → xC) (N B K' T O D : List Nat) (laid : Int32) (len st many at' thr : Nat) (isK : Bool) (g : xH) (ok : stM N) (hi : i < 132) (ht : t < 2) (hDl : D.length = 1056) (hA : 100 ≤ A) (hA2 : A < 2 ^ 30) (hD : ∀ j, D.getD j 0 < A) :
    Ev xT (d + 6) N_M_layOne [.ref 7, .int (nI i), .int (nI t)] (hM z N B K' T O shapesN D laid len st many at' thr isK g) (Rt none (hM z N B K' T O shapesN (loD N D i t) laid len st many at' thr isK g)) NX := by
  refine Ev_intro t_M_layOne (Nat.le_of_ble_eq_true rfl) ?_
  intro Q X hQ hX K hK
  show K 0 [some (.ref 7), some (.int (nI i)), some (.int (nI t)), none, none, none, none, none, none, none, none] [] _ 0 0
  obtain ⟨hN, h0, h1, h6, h6', h7, h8⟩ := ok
  have hq := hQ _ _ ⟨rfl, rfl⟩
  have hR := shapes_len
  have hgs := gS_lt i
  have egs : shapesN.getD i 0 = gS i := rfl
  have hx := loX_le (N := N) (m := gS i) (t := t) hA hD
  unfold loD at hq
  have go20 : ∀ (D : List Nat) (vo mo fe : Nat) (ov w : Bool) (L9 L10 : Option Value), D.length = 1056 → Q none (hM z N B K' T O shapesN (((D.set (8 * i + 4 * t + 1) vo).set (8 * i + 4 * t + 2) mo).set (8 * i + 4 * t + 3) fe) laid len st many at' thr isK g) → K 20 [some (.ref 7), some (.int (nI i)), some (.int (nI t)), some (.int (nI (8 * i + 4 * t))), some (.int (nI (gS i))), some (.int (bI ov)), some (.int (bI w)), some (.int (nI mo)), some (.int (nI fe)), L9, L10] [.int (nI vo), .int (nI (8 * i + 4 * t + 1)), .ref 14] (hM z N B K' T O shapesN D laid len st many at' thr isK g) 0 0 := by
    intro D vo mo fe ov w L9 L10 hDl hq
    refine hK 20 _ _ _ _ _ _ _ _ rfl ?_
    dsimp only [k_M_layOne_20, hN1, hB, hM1, hM, wpI, xop, xcall, xli, xlj, xlf, xld, xla, xlg, xst, xst2, xc1, pI, pJ, pF, pD, pR, pA, p1, p0, xpop, xpush, xsm, xhas, xif, xic, xsw, xai, xal, xhi, xhv, xrf, xret, xrtl, xrtf, xrtd, xrta, xrtv, xfit, xnew, cond_true, cond_false, f40, f41, f42, f43, List.length_cons, List.length_nil, Nat.reduceAdd, Nat.reduceSub, Nat.reduceMul, Nat.reduceBEq, List.map_cons, List.map_nil, List.headD_cons, List.getElem?_cons_zero, List.getElem?_cons_succ, List.set_cons_zero, List.set_cons_succ]
    try simp (disch := first | omega | (simp only [List.length_set]; omega)) only [nI_add, n_and, n_or, n_xor, n_i31, nI_leI, nI_ltI, n_e0, n_eq, n_m1e, n_l0, n_g0, n_p0, n_q0, n_cl, n_in, n_sub, n_shr, n_shl, n_div, bI_0, n_01, n_11, bI_or, not_false_eq_true, forall_const, not_true_eq_false, false_imp_iff, true_imp_iff, List.length_map, List.length_set, hN, nL_u, gs_eq, gs_ne, nI_set, Nat.reduceLT, true_and, and_true, pk_mul, hDl]
    refine ⟨by omega, by omega, by omega, ?_⟩
    first | exact hq | exact ⟨Nat.le_refl _, hq⟩ | exact ⟨Nat.le_refl _, Nat.le_refl _, hq⟩ | exact ⟨Or.inl rfl, Nat.le_refl _, Nat.le_refl _, hq⟩ | exact ⟨Or.inr rfl, Nat.le_refl _, Nat.le_refl _, hq⟩
  have f16 : ∀ (x : xLp) (ov : Bool) (L9 L10 : Option Value), x = loX N D (gS i) t → (ov = true ↔ mthL N (gS i) t 15 0 0 = 0) → K 16 [some (.ref 7), some (.int (nI i)), some (.int (nI t)), some (.int (nI (8 * i + 4 * t))), some (.int (nI (gS i))), some (.int (bI ov)), some (.int (bI x.1)), some (.int (nI x.2.1)), some (.int (nI x.2.2)), L9, L10] [] (hM z N B K' T O shapesN D laid len st many at' thr isK g) 0 0 := by
    intro x ov L9 L10 ex eo
    rw [← ex] at hq hx
    obtain ⟨w, mo, fe⟩ := x
    dsimp only at hq hx ⊢
    have go18 : ∀ vw, Q none (hM z N B K' T O shapesN ((((D.set (8 * i + 4 * t) vw).set (8 * i + 4 * t + 1) (if mthL N (gS i) t 15 0 0 = 0 then 1 else 0)).set (8 * i + 4 * t + 2) mo).set (8 * i + 4 * t + 3) fe) laid len st many at' thr isK g) → K 18 [some (.ref 7), some (.int (nI i)), some (.int (nI t)), some (.int (nI (8 * i + 4 * t))), some (.int (nI (gS i))), some (.int (bI ov)), some (.int (bI w)), some (.int (nI mo)), some (.int (nI fe)), L9, L10] [.int (nI vw), .int (nI (8 * i + 4 * t)), .ref 14] (hM z N B K' T O shapesN D laid len st many at' thr isK g) 0 0 := by
      intro vw hq
      cases ov
      · rw [if_neg (fun q => Bool.noConfusion (eo.mpr q))] at hq
        refine hK 18 _ _ _ _ _ _ _ _ rfl ?_
        dsimp only [k_M_layOne_18, hN1, hB, hM1, hM, wpI, xop, xcall, xli, xlj, xlf, xld, xla, xlg, xst, xst2, xc1, pI, pJ, pF, pD, pR, pA, p1, p0, xpop, xpush, xsm, xhas, xif, xic, xsw, xai, xal, xhi, xhv, xrf, xret, xrtl, xrtf, xrtd, xrta, xrtv, xfit, xnew, cond_true, cond_false, f40, f41, f42, f43, List.length_cons, List.length_nil, Nat.reduceAdd, Nat.reduceSub, Nat.reduceMul, Nat.reduceBEq, List.map_cons, List.map_nil, List.headD_cons, List.getElem?_cons_zero, List.getElem?_cons_succ, List.set_cons_zero, List.set_cons_succ]
        try simp (disch := first | omega | (simp only [List.length_set]; omega)) only [nI_add, n_and, n_or, n_xor, n_i31, nI_leI, nI_ltI, n_e0, n_eq, n_m1e, n_l0, n_g0, n_p0, n_q0, n_cl, n_in, n_sub, n_shr, n_shl, n_div, bI_0, n_01, n_11, bI_or, not_false_eq_true, forall_const, not_true_eq_false, false_imp_iff, true_imp_iff, List.length_map, List.length_set, hN, nL_u, gs_eq, gs_ne, nI_set, Nat.reduceLT, true_and, and_true, pk_mul, hDl]
        refine ⟨by omega, ?_⟩
        refine hK 19 _ _ _ _ _ _ _ _ rfl ?_
        dsimp only [k_M_layOne_19, hN1, hB, hM1, hM, wpI, xop, xcall, xli, xlj, xlf, xld, xla, xlg, xst, xst2, xc1, pI, pJ, pF, pD, pR, pA, p1, p0, xpop, xpush, xsm, xhas, xif, xic, xsw, xai, xal, xhi, xhv, xrf, xret, xrtl, xrtf, xrtd, xrta, xrtv, xfit, xnew, cond_true, cond_false, f40, f41, f42, f43, List.length_cons, List.length_nil, Nat.reduceAdd, Nat.reduceSub, Nat.reduceMul, Nat.reduceBEq, List.map_cons, List.map_nil, List.headD_cons, List.getElem?_cons_zero, List.getElem?_cons_succ, List.set_cons_zero, List.set_cons_succ]
        exact go20 _ _ _ _ _ _ _ _ (List.length_set.trans hDl) hq
      · rw [if_pos (eo.mp rfl)] at hq
        refine hK 18 _ _ _ _ _ _ _ _ rfl ?_
        dsimp only [k_M_layOne_18, hN1, hB, hM1, hM, wpI, xop, xcall, xli, xlj, xlf, xld, xla, xlg, xst, xst2, xc1, pI, pJ, pF, pD, pR, pA, p1, p0, xpop, xpush, xsm, xhas, xif, xic, xsw, xai, xal, xhi, xhv, xrf, xret, xrtl, xrtf, xrtd, xrta, xrtv, xfit, xnew, cond_true, cond_false, f40, f41, f42, f43, List.length_cons, List.length_nil, Nat.reduceAdd, Nat.reduceSub, Nat.reduceMul, Nat.reduceBEq, List.map_cons, List.map_nil, List.headD_cons, List.getElem?_cons_zero, List.getElem?_cons_succ, List.set_cons_zero, List.set_cons_succ]
        try simp (disch := first | omega | (simp only [List.length_set]; omega)) only [nI_add, n_and, n_or, n_xor, n_i31, nI_leI, nI_ltI, n_e0, n_eq, n_m1e, n_l0, n_g0, n_p0, n_q0, n_cl, n_in, n_sub, n_shr, n_shl, n_div, bI_0, n_01, n_11, bI_or, not_false_eq_true, forall_const, not_true_eq_false, false_imp_iff, true_imp_iff, List.length_map, List.length_set, hN, nL_u, gs_eq, gs_ne, nI_set, Nat.reduceLT, true_and, and_true, pk_mul, hDl]
        refine ⟨by omega, ?_⟩
        refine ⟨fun y => absurd y (by decide), fun _ => ?_⟩
        exact go20 _ _ _ _ _ _ _ _ (List.length_set.trans hDl) hq
    cases w
    · refine hK 16 _ _ _ _ _ _ _ _ rfl ?_
      dsimp only [k_M_layOne_16, hN1, hB, hM1, hM, wpI, xop, xcall, xli, xlj, xlf, xld, xla, xlg, xst, xst2, xc1, pI, pJ, pF, pD, pR, pA, p1, p0, xpop, xpush, xsm, xhas, xif, xic, xsw, xai, xal, xhi, xhv, xrf, xret, xrtl, xrtf, xrtd, xrta, xrtv, xfit, xnew, cond_true, cond_false, f40, f41, f42, f43, List.length_cons, List.length_nil, Nat.reduceAdd, Nat.reduceSub, Nat.reduceMul, Nat.reduceBEq, List.map_cons, List.map_nil, List.headD_cons, List.getElem?_cons_zero, List.getElem?_cons_succ, List.set_cons_zero, List.set_cons_succ]
      refine ⟨fun _ => ?_, fun y => absurd (by decide) y⟩
      refine hK 17 _ _ _ _ _ _ _ _ rfl ?_
      dsimp only [k_M_layOne_17, hN1, hB, hM1, hM, wpI, xop, xcall, xli, xlj, xlf, xld, xla, xlg, xst, xst2, xc1, pI, pJ, pF, pD, pR, pA, p1, p0, xpop, xpush, xsm, xhas, xif, xic, xsw, xai, xal, xhi, xhv, xrf, xret, xrtl, xrtf, xrtd, xrta, xrtv, xfit, xnew, cond_true, cond_false, f40, f41, f42, f43, List.length_cons, List.length_nil, Nat.reduceAdd, Nat.reduceSub, Nat.reduceMul, Nat.reduceBEq, List.map_cons, List.map_nil, List.headD_cons, List.getElem?_cons_zero, List.getElem?_cons_succ, List.set_cons_zero, List.set_cons_succ]
      exact go18 0 hq
    · refine hK 16 _ _ _ _ _ _ _ _ rfl ?_
      dsimp only [k_M_layOne_16, hN1, hB, hM1, hM, wpI, xop, xcall, xli, xlj, xlf, xld, xla, xlg, xst, xst2, xc1, pI, pJ, pF, pD, pR, pA, p1, p0, xpop, xpush, xsm, xhas, xif, xic, xsw, xai, xal, xhi, xhv, xrf, xret, xrtl, xrtf, xrtd, xrta, xrtv, xfit, xnew, cond_true, cond_false, f40, f41, f42, f43, List.length_cons, List.length_nil, Nat.reduceAdd, Nat.reduceSub, Nat.reduceMul, Nat.reduceBEq, List.map_cons, List.map_nil, List.headD_cons, List.getElem?_cons_zero, List.getElem?_cons_succ, List.set_cons_zero, List.set_cons_succ]
      refine ⟨fun y => absurd y (by decide), fun _ => ?_⟩
      exact go18 1 hq
  have rest : ∀ (k o : Nat) (x : xLp), o < 1053 → k < 15 → x.2.1 ≤ A ∧ x.2.2 ≤ A → K 15 [some (.ref 7), some (.int (nI i)), some (.int (nI t)), some (.int (nI (8 * i + 4 * t))), some (.int (nI (gS i))), some (.int (bI false)), some (.int (bI (lpS D o x).1)), some (.int (nI (lpS D o x).2.1)), some (.int (nI (lpS D o x).2.2)), some (.int (nI k)), some (.int (nI o))] [] (hM z N B K' T O shapesN D laid len st many at' thr isK g) 0 0 →
      ∀ b : Bool, b = (x.1 || D.getD o 0 == 0) → K 10 [some (.ref 7), some (.int (nI i)), some (.int (nI t)), some (.int (nI (8 * i + 4 * t))), some (.int (nI (gS i))), some (.int (bI false)), some (.int (bI x.1)), some (.int (nI x.2.1)), some (.int (nI x.2.2)), some (.int (nI k)), some (.int (nI o))] [.int (bI b)] (hM z N B K' T O shapesN D laid len st many at' thr isK g) 0 0 := by
    intro k o x ho hk hx hk15 b hb
    have d2 := hD (o + 2)
    have d3 := hD (o + 3)
    unfold lpS at hk15
    dsimp only at hk15
    rw [← hb] at hk15
    have go14 : ∀ mo fe, mo = (if x.2.1 < D.getD (o + 2) 0 + 1 then D.getD (o + 2) 0 + 1 else x.2.1) → fe = (if D.getD (o + 3) 0 + 1 < x.2.2 then D.getD (o + 3) 0 + 1 else x.2.2) → K 14 [some (.ref 7), some (.int (nI i)), some (.int (nI t)), some (.int (nI (8 * i + 4 * t))), some (.int (nI (gS i))), some (.int (bI false)), some (.int (bI b)), some (.int (nI mo)), some (.int (nI x.2.2)), some (.int (nI k)), some (.int (nI o))] [.int (nI fe)] (hM z N B K' T O shapesN D laid len st many at' thr isK g) 0 0 := by
      intro mo fe em ef
      rw [← em, ← ef] at hk15
      refine hK 14 _ _ _ _ _ _ _ _ rfl ?_
      dsimp only [k_M_layOne_14, hN1, hB, hM1, hM, wpI, xop, xcall, xli, xlj, xlf, xld, xla, xlg, xst, xst2, xc1, pI, pJ, pF, pD, pR, pA, p1, p0, xpop, xpush, xsm, xhas, xif, xic, xsw, xai, xal, xhi, xhv, xrf, xret, xrtl, xrtf, xrtd, xrta, xrtv, xfit, xnew, cond_true, cond_false, f40, f41, f42, f43, List.length_cons, List.length_nil, Nat.reduceAdd, Nat.reduceSub, Nat.reduceMul, Nat.reduceBEq, List.map_cons, List.map_nil, List.headD_cons, List.getElem?_cons_zero, List.getElem?_cons_succ, List.set_cons_zero, List.set_cons_succ]
      exact hk15
    have go12 : ∀ mo, mo = (if x.2.1 < D.getD (o + 2) 0 + 1 then D.getD (o + 2) 0 + 1 else x.2.1) → K 12 [some (.ref 7), some (.int (nI i)), some (.int (nI t)), some (.int (nI (8 * i + 4 * t))), some (.int (nI (gS i))), some (.int (bI false)), some (.int (bI b)), some (.int (nI x.2.1)), some (.int (nI x.2.2)), some (.int (nI k)), some (.int (nI o))] [.int (nI mo)] (hM z N B K' T O shapesN D laid len st many at' thr isK g) 0 0 := by
      intro mo em
      refine hK 12 _ _ _ _ _ _ _ _ rfl ?_
      dsimp only [k_M_layOne_12, hN1, hB, hM1, hM, wpI, xop, xcall, xli, xlj, xlf, xld, xla, xlg, xst, xst2, xc1, pI, pJ, pF, pD, pR, pA, p1, p0, xpop, xpush, xsm, xhas, xif, xic, xsw, xai, xal, xhi, xhv, xrf, xret, xrtl, xrtf, xrtd, xrta, xrtv, xfit, xnew, cond_true, cond_false, f40, f41, f42, f43, List.length_cons, List.length_nil, Nat.reduceAdd, Nat.reduceSub, Nat.reduceMul, Nat.reduceBEq, List.map_cons, List.map_nil, List.headD_cons, List.getElem?_cons_zero, List.getElem?_cons_succ, List.set_cons_zero, List.set_cons_succ]
      try simp (disch := first | omega | (simp only [List.length_set]; omega)) only [nI_add, n_and, n_or, n_xor, n_i31, nI_leI, nI_ltI, n_e0, n_eq, n_m1e, n_l0, n_g0, n_p0, n_q0, n_cl, n_in, n_sub, n_shr, n_shl, n_div, bI_0, n_01, n_11, bI_or, not_false_eq_true, forall_const, not_true_eq_false, false_imp_iff, true_imp_iff, List.length_map, List.length_set, hN, nL_u, gs_eq, gs_ne, nI_set, Nat.reduceLT, true_and, and_true, pk_mul, hDl]
      refine ⟨by omega, ?_⟩
      refine ⟨fun y => ?_, fun y => ?_⟩
      · refine hK 13 _ _ _ _ _ _ _ _ rfl ?_
        dsimp only [k_M_layOne_13, hN1, hB, hM1, hM, wpI, xop, xcall, xli, xlj, xlf, xld, xla, xlg, xst, xst2, xc1, pI, pJ, pF, pD, pR, pA, p1, p0, xpop, xpush, xsm, xhas, xif, xic, xsw, xai, xal, xhi, xhv, xrf, xret, xrtl, xrtf, xrtd, xrta, xrtv, xfit, xnew, cond_true, cond_false, f40, f41, f42, f43, List.length_cons, List.length_nil, Nat.reduceAdd, Nat.reduceSub, Nat.reduceMul, Nat.reduceBEq, List.map_cons, List.map_nil, List.headD_cons, List.getElem?_cons_zero, List.getElem?_cons_succ, List.set_cons_zero, List.set_cons_succ]
        exact go14 mo _ em (by rw [if_neg (by omega)])
      · refine ⟨by omega, ?_⟩
        exact go14 mo _ em (by rw [if_pos (by omega)])
    refine hK 10 _ _ _ _ _ _ _ _ rfl ?_
    dsimp only [k_M_layOne_10, hN1, hB, hM1, hM, wpI, xop, xcall, xli, xlj, xlf, xld, xla, xlg, xst, xst2, xc1, pI, pJ, pF, pD, pR, pA, p1, p0, xpop, xpush, xsm, xhas, xif, xic, xsw, xai, xal, xhi, xhv, xrf, xret, xrtl, xrtf, xrtd, xrta, xrtv, xfit, xnew, cond_true, cond_false, f40, f41, f42, f43, List.length_cons, List.length_nil, Nat.reduceAdd, Nat.reduceSub, Nat.reduceMul, Nat.reduceBEq, List.map_cons, List.map_nil, List.headD_cons, List.getElem?_cons_zero, List.getElem?_cons_succ, List.set_cons_zero, List.set_cons_succ]
    try simp (disch := first | omega | (simp only [List.length_set]; omega)) only [nI_add, n_and, n_or, n_xor, n_i31, nI_leI, nI_ltI, n_e0, n_eq, n_m1e, n_l0, n_g0, n_p0, n_q0, n_cl, n_in, n_sub, n_shr, n_shl, n_div, bI_0, n_01, n_11, bI_or, not_false_eq_true, forall_const, not_true_eq_false, false_imp_iff, true_imp_iff, List.length_map, List.length_set, hN, nL_u, gs_eq, gs_ne, nI_set, Nat.reduceLT, true_and, and_true, pk_mul, hDl]
    refine ⟨by omega, ?_⟩
    refine ⟨fun y => ?_, fun y => ?_⟩
    · refine hK 11 _ _ _ _ _ _ _ _ rfl ?_
      dsimp only [k_M_layOne_11, hN1, hB, hM1, hM, wpI, xop, xcall, xli, xlj, xlf, xld, xla, xlg, xst, xst2, xc1, pI, pJ, pF, pD, pR, pA, p1, p0, xpop, xpush, xsm, xhas, xif, xic, xsw, xai, xal, xhi, xhv, xrf, xret, xrtl, xrtf, xrtd, xrta, xrtv, xfit, xnew, cond_true, cond_false, f40, f41, f42, f43, List.length_cons, List.length_nil, Nat.reduceAdd, Nat.reduceSub, Nat.reduceMul, Nat.reduceBEq, List.map_cons, List.map_nil, List.headD_cons, List.getElem?_cons_zero, List.getElem?_cons_succ, List.set_cons_zero, List.set_cons_succ]
      exact go12 _ (by rw [if_neg (by omega)])
    · refine ⟨by omega, ?_⟩
      exact go12 _ (by rw [if_pos (by omega)])
  have loop : ∀ (j k : Nat) (x : xLp) (L10 : Option Value), k + j = 15 → x.2.1 ≤ A ∧ x.2.2 ≤ A → ¬ mthL N (gS i) t 15 0 0 = 0 → lpL N D (gS i) t j k x = loX N D (gS i) t → K 7 [some (.ref 7), some (.int (nI i)), some (.int (nI t)), some (.int (nI (8 * i + 4 * t))), some (.int (nI (gS i))), some (.int (bI false)), some (.int (bI x.1)), some (.int (nI x.2.1)), some (.int (nI x.2.2)), some (.int (nI k)), L10] [] (hM z N B K' T O shapesN D laid len st many at' thr isK g) 0 0 := by
    intro j
    induction j with
    | zero =>
      intro k x L10 hk hx hne e
      obtain rfl : k = 15 := by omega
      refine hK 7 _ _ _ _ _ _ _ _ rfl ?_
      dsimp only [k_M_layOne_7, hN1, hB, hM1, hM, wpI, xop, xcall, xli, xlj, xlf, xld, xla, xlg, xst, xst2, xc1, pI, pJ, pF, pD, pR, pA, p1, p0, xpop, xpush, xsm, xhas, xif, xic, xsw, xai, xal, xhi, xhv, xrf, xret, xrtl, xrtf, xrtd, xrta, xrtv, xfit, xnew, cond_true, cond_false, f40, f41, f42, f43, List.length_cons, List.length_nil, Nat.reduceAdd, Nat.reduceSub, Nat.reduceMul, Nat.reduceBEq, List.map_cons, List.map_nil, List.headD_cons, List.getElem?_cons_zero, List.getElem?_cons_succ, List.set_cons_zero, List.set_cons_succ]
      refine br_t (by decide) ?_
      exact f16 x false _ _ e ⟨fun q => Bool.noConfusion q, fun q => (hne q).elim⟩
    | succ j ih =>
      intro k x L10 hk hx hne e
      rw [lpL] at e
      have hz := mrs_lt N (gS i) t (k / 3) (1 + (k - k / 3 * 3))
      have hl := mrN_lt (t := t) (r := k / 3) (b := 1 + (k - k / 3 * 3)) hgs
      refine hK 7 _ _ _ _ _ _ _ _ rfl ?_
      dsimp only [k_M_layOne_7, hN1, hB, hM1, hM, wpI, xop, xcall, xli, xlj, xlf, xld, xla, xlg, xst, xst2, xc1, pI, pJ, pF, pD, pR, pA, p1, p0, xpop, xpush, xsm, xhas, xif, xic, xsw, xai, xal, xhi, xhv, xrf, xret, xrtl, xrtf, xrtd, xrta, xrtv, xfit, xnew, cond_true, cond_false, f40, f41, f42, f43, List.length_cons, List.length_nil, Nat.reduceAdd, Nat.reduceSub, Nat.reduceMul, Nat.reduceBEq, List.map_cons, List.map_nil, List.headD_cons, List.getElem?_cons_zero, List.getElem?_cons_succ, List.set_cons_zero, List.set_cons_succ]
      try simp (disch := first | omega | (simp only [List.length_set]; omega)) only [nI_add, n_and, n_or, n_xor, n_i31, nI_leI, nI_ltI, n_e0, n_eq, n_m1e, n_l0, n_g0, n_p0, n_q0, n_cl, n_in, n_sub, n_shr, n_shl, n_div, bI_0, n_01, n_11, bI_or, not_false_eq_true, forall_const, not_true_eq_false, false_imp_iff, true_imp_iff, List.length_map, List.length_set, hN, nL_u, gs_eq, gs_ne, nI_set, Nat.reduceLT, true_and, and_true, pk_mul]
      refine br_f (by omega) ?_
      refine ⟨by decide, by decide, ?_⟩
      refine Ev_use (ev_M_reason _ (gS i) t (k / 3) (1 + (k - k / 3 * 3)) z N _ _ hN h6' h7 hgs ht (by omega) (by omega)) ?_
      dsimp only [hN1, hB, hM1, hM, wpI, xop, xcall, xli, xlj, xlf, xld, xla, xlg, xst, xst2, xc1, pI, pJ, pF, pD, pR, pA, p1, p0, xpop, xpush, xsm, xhas, xif, xic, xsw, xai, xal, xhi, xhv, xrf, xret, xrtl, xrtf, xrtd, xrta, xrtv, xfit, xnew, cond_true, cond_false, f40, f41, f42, f43, List.length_cons, List.length_nil, Nat.reduceAdd, Nat.reduceSub, Nat.reduceMul, Nat.reduceBEq, List.map_cons, List.map_nil, List.headD_cons, List.getElem?_cons_zero, List.getElem?_cons_succ, List.set_cons_zero, List.set_cons_succ]
      try simp (disch := first | omega | (simp only [List.length_set]; omega)) only [nI_add, n_and, n_or, n_xor, n_i31, nI_leI, nI_ltI, n_e0, n_eq, n_m1e, n_l0, n_g0, n_p0, n_q0, n_cl, n_in, n_sub, n_shr, n_shl, n_div, bI_0, n_01, n_11, bI_or, not_false_eq_true, forall_const, not_true_eq_false, false_imp_iff, true_imp_iff, List.length_map, List.length_set, hN, nL_u, gs_eq, gs_ne, nI_set, Nat.reduceLT, true_and, and_true, pk_mul]
      refine ⟨fun y => ?_, fun y => ?_⟩
      · rw [if_neg y] at e
        refine hK 15 _ _ _ _ _ _ _ _ rfl ?_
        dsimp only [k_M_layOne_15, hN1, hB, hM1, hM, wpI, xop, xcall, xli, xlj, xlf, xld, xla, xlg, xst, xst2, xc1, pI, pJ, pF, pD, pR, pA, p1, p0, xpop, xpush, xsm, xhas, xif, xic, xsw, xai, xal, xhi, xhv, xrf, xret, xrtl, xrtf, xrtd, xrta, xrtv, xfit, xnew, cond_true, cond_false, f40, f41, f42, f43, List.length_cons, List.length_nil, Nat.reduceAdd, Nat.reduceSub, Nat.reduceMul, Nat.reduceBEq, List.map_cons, List.map_nil, List.headD_cons, List.getElem?_cons_zero, List.getElem?_cons_succ, List.set_cons_zero, List.set_cons_succ]
        try simp (disch := omega) only [nI_add, n_and, n_or, n_xor, n_i31, nI_leI, nI_ltI, n_e0, n_eq, n_m1e, n_l0, n_g0, n_p0, n_q0, n_cl, n_in, n_sub, n_shr, n_shl, n_div, bI_0, n_01, n_11, bI_or, not_false_eq_true, forall_const, not_true_eq_false, false_imp_iff, true_imp_iff]
        exact ih (k + 1) x _ (by omega) hx hne e
      · rw [if_pos y] at e
        obtain ⟨a, ha, hs, hm, _, _⟩ := beh hi ht (show k / 3 < 5 by omega) (by omega) (by omega) ((pm_of h7).mp y).2
        have eo : otN (gS i) t k = 8 * a + 4 - 4 * t := by
          unfold otN
          rw [hs]
          rfl
        have hlp := lpS_le (o := otN (gS i) t k) hA hD hx
        have hr := rest k (otN (gS i) t k) x (by omega) (by omega) hx (by
          refine hK 15 _ _ _ _ _ _ _ _ rfl ?_
          dsimp only [k_M_layOne_15, hN1, hB, hM1, hM, wpI, xop, xcall, xli, xlj, xlf, xld, xla, xlg, xst, xst2, xc1, pI, pJ, pF, pD, pR, pA, p1, p0, xpop, xpush, xsm, xhas, xif, xic, xsw, xai, xal, xhi, xhv, xrf, xret, xrtl, xrtf, xrtd, xrta, xrtv, xfit, xnew, cond_true, cond_false, f40, f41, f42, f43, List.length_cons, List.length_nil, Nat.reduceAdd, Nat.reduceSub, Nat.reduceMul, Nat.reduceBEq, List.map_cons, List.map_nil, List.headD_cons, List.getElem?_cons_zero, List.getElem?_cons_succ, List.set_cons_zero, List.set_cons_succ]
          try simp (disch := omega) only [nI_add, n_and, n_or, n_xor, n_i31, nI_leI, nI_ltI, n_e0, n_eq, n_m1e, n_l0, n_g0, n_p0, n_q0, n_cl, n_in, n_sub, n_shr, n_shl, n_div, bI_0, n_01, n_11, bI_or, not_false_eq_true, forall_const, not_true_eq_false, false_imp_iff, true_imp_iff]
          exact ih (k + 1) _ _ (by omega) hlp hne e)
        have dO := hD (otN (gS i) t k)
        rw [eo] at hr dO
        refine ⟨by decide, by decide, ?_⟩
        refine Ev_use (ev_M_robbed _ (gS i) t (k / 3) (1 + (k - k / 3 * 3)) _ hgs ht (by omega) (by omega)) ?_
        dsimp only [hN1, hB, hM1, hM, wpI, xop, xcall, xli, xlj, xlf, xld, xla, xlg, xst, xst2, xc1, pI, pJ, pF, pD, pR, pA, p1, p0, xpop, xpush, xsm, xhas, xif, xic, xsw, xai, xal, xhi, xhv, xrf, xret, xrtl, xrtf, xrtd, xrta, xrtv, xfit, xnew, cond_true, cond_false, f40, f41, f42, f43, List.length_cons, List.length_nil, Nat.reduceAdd, Nat.reduceSub, Nat.reduceMul, Nat.reduceBEq, List.map_cons, List.map_nil, List.headD_cons, List.getElem?_cons_zero, List.getElem?_cons_succ, List.set_cons_zero, List.set_cons_succ]
        refine Ev_use (ev_M_fallen _ _ _ hl) ?_
        dsimp only [hN1, hB, hM1, hM, wpI, xop, xcall, xli, xlj, xlf, xld, xla, xlg, xst, xst2, xc1, pI, pJ, pF, pD, pR, pA, p1, p0, xpop, xpush, xsm, xhas, xif, xic, xsw, xai, xal, xhi, xhv, xrf, xret, xrtl, xrtf, xrtd, xrta, xrtv, xfit, xnew, cond_true, cond_false, f40, f41, f42, f43, List.length_cons, List.length_nil, Nat.reduceAdd, Nat.reduceSub, Nat.reduceMul, Nat.reduceBEq, List.map_cons, List.map_nil, List.headD_cons, List.getElem?_cons_zero, List.getElem?_cons_succ, List.set_cons_zero, List.set_cons_succ]
        rw [hm]
        refine Ev_use (ev_M_numberOf _ (gS a) a z N B K' T O shapesN D laid len st many at' thr isK g hR gS_lt (gS_lt a) (by omega) rfl (fun j hj q => Nat.ne_of_lt hj (gS_inj (by omega) (by omega) q))) ?_
        dsimp only [hN1, hB, hM1, hM, wpI, xop, xcall, xli, xlj, xlf, xld, xla, xlg, xst, xst2, xc1, pI, pJ, pF, pD, pR, pA, p1, p0, xpop, xpush, xsm, xhas, xif, xic, xsw, xai, xal, xhi, xhv, xrf, xret, xrtl, xrtf, xrtd, xrta, xrtv, xfit, xnew, cond_true, cond_false, f40, f41, f42, f43, List.length_cons, List.length_nil, Nat.reduceAdd, Nat.reduceSub, Nat.reduceMul, Nat.reduceBEq, List.map_cons, List.map_nil, List.headD_cons, List.getElem?_cons_zero, List.getElem?_cons_succ, List.set_cons_zero, List.set_cons_succ]
        try simp (disch := first | omega | (simp only [List.length_set]; omega)) only [nI_add, n_and, n_or, n_xor, n_i31, nI_leI, nI_ltI, n_e0, n_eq, n_m1e, n_l0, n_g0, n_p0, n_q0, n_cl, n_in, n_sub, n_shr, n_shl, n_div, bI_0, n_01, n_11, bI_or, not_false_eq_true, forall_const, not_true_eq_false, false_imp_iff, true_imp_iff, List.length_map, List.length_set, hN, nL_u, gs_eq, gs_ne, nI_set, Nat.reduceLT, true_and, and_true, pk_mul]
        refine ⟨fun y2 => ?_, fun y2 => ?_⟩
        · have ex := b_nf y2
          rw [ex] at hr ⊢
          refine hK 8 _ _ _ _ _ _ _ _ rfl ?_
          dsimp only [k_M_layOne_8, hN1, hB, hM1, hM, wpI, xop, xcall, xli, xlj, xlf, xld, xla, xlg, xst, xst2, xc1, pI, pJ, pF, pD, pR, pA, p1, p0, xpop, xpush, xsm, xhas, xif, xic, xsw, xai, xal, xhi, xhv, xrf, xret, xrtl, xrtf, xrtd, xrta, xrtv, xfit, xnew, cond_true, cond_false, f40, f41, f42, f43, List.length_cons, List.length_nil, Nat.reduceAdd, Nat.reduceSub, Nat.reduceMul, Nat.reduceBEq, List.map_cons, List.map_nil, List.headD_cons, List.getElem?_cons_zero, List.getElem?_cons_succ, List.set_cons_zero, List.set_cons_succ]
          exact hr true rfl
        · rw [y2] at hr ⊢
          refine ⟨by omega, ?_⟩
          refine ⟨fun y3 => ?_, fun y3 => ?_⟩
          · refine hK 9 _ _ _ _ _ _ _ _ rfl ?_
            dsimp only [k_M_layOne_9, hN1, hB, hM1, hM, wpI, xop, xcall, xli, xlj, xlf, xld, xla, xlg, xst, xst2, xc1, pI, pJ, pF, pD, pR, pA, p1, p0, xpop, xpush, xsm, xhas, xif, xic, xsw, xai, xal, xhi, xhv, xrf, xret, xrtl, xrtf, xrtd, xrta, xrtv, xfit, xnew, cond_true, cond_false, f40, f41, f42, f43, List.length_cons, List.length_nil, Nat.reduceAdd, Nat.reduceSub, Nat.reduceMul, Nat.reduceBEq, List.map_cons, List.map_nil, List.headD_cons, List.getElem?_cons_zero, List.getElem?_cons_succ, List.set_cons_zero, List.set_cons_succ]
            exact hr false (by rw [beq_eq_false_iff_ne.mpr y3]; rfl)
          · refine hK 8 _ _ _ _ _ _ _ _ rfl ?_
            dsimp only [k_M_layOne_8, hN1, hB, hM1, hM, wpI, xop, xcall, xli, xlj, xlf, xld, xla, xlg, xst, xst2, xc1, pI, pJ, pF, pD, pR, pA, p1, p0, xpop, xpush, xsm, xhas, xif, xic, xsw, xai, xal, xhi, xhv, xrf, xret, xrtl, xrtf, xrtd, xrta, xrtv, xfit, xnew, cond_true, cond_false, f40, f41, f42, f43, List.length_cons, List.length_nil, Nat.reduceAdd, Nat.reduceSub, Nat.reduceMul, Nat.reduceBEq, List.map_cons, List.map_nil, List.headD_cons, List.getElem?_cons_zero, List.getElem?_cons_succ, List.set_cons_zero, List.set_cons_succ]
            exact hr true (by rw [beq_iff_eq.mpr y3]; rfl)
  refine hK 0 _ _ _ _ _ _ _ _ rfl ?_
  dsimp only [k_M_layOne_0, hN1, hB, hM1, hM, wpI, xop, xcall, xli, xlj, xlf, xld, xla, xlg, xst, xst2, xc1, pI, pJ, pF, pD, pR, pA, p1, p0, xpop, xpush, xsm, xhas, xif, xic, xsw, xai, xal, xhi, xhv, xrf, xret, xrtl, xrtf, xrtd, xrta, xrtv, xfit, xnew, cond_true, cond_false, f40, f41, f42, f43, List.length_cons, List.length_nil, Nat.reduceAdd, Nat.reduceSub, Nat.reduceMul, Nat.reduceBEq, List.map_cons, List.map_nil, List.headD_cons, List.getElem?_cons_zero, List.getElem?_cons_succ, List.set_cons_zero, List.set_cons_succ]
  try simp (disch := first | omega | (simp only [List.length_set]; omega)) only [nI_add, n_and, n_or, n_xor, n_i31, nI_leI, nI_ltI, n_e0, n_eq, n_m1e, n_l0, n_g0, n_p0, n_q0, n_cl, n_in, n_sub, n_shr, n_shl, n_div, bI_0, n_01, n_11, bI_or, not_false_eq_true, forall_const, not_true_eq_false, false_imp_iff, true_imp_iff, List.length_map, List.length_set, hN, nL_u, gs_eq, gs_ne, nI_set, Nat.reduceLT, true_and, and_true, pk_mul, hR, egs]
  refine ⟨by omega, ?_⟩
  refine Ev_use (ev_M_thefts _ (gS i) t z N _ _ hN h6' h7 hgs ht) ?_
  dsimp only [hN1, hB, hM1, hM, wpI, xop, xcall, xli, xlj, xlf, xld, xla, xlg, xst, xst2, xc1, pI, pJ, pF, pD, pR, pA, p1, p0, xpop, xpush, xsm, xhas, xif, xic, xsw, xai, xal, xhi, xhv, xrf, xret, xrtl, xrtf, xrtd, xrta, xrtv, xfit, xnew, cond_true, cond_false, f40, f41, f42, f43, List.length_cons, List.length_nil, Nat.reduceAdd, Nat.reduceSub, Nat.reduceMul, Nat.reduceBEq, List.map_cons, List.map_nil, List.headD_cons, List.getElem?_cons_zero, List.getElem?_cons_succ, List.set_cons_zero, List.set_cons_succ]
  have hmt := mth_le N (gS i) t 15 0 0
  try simp (disch := omega) only [nI_add, n_and, n_or, n_xor, n_i31, nI_leI, nI_ltI, n_e0, n_eq, n_m1e, n_l0, n_g0, n_p0, n_q0, n_cl, n_in, n_sub, n_shr, n_shl, n_div, bI_0, n_01, n_11, bI_or, not_false_eq_true, forall_const, not_true_eq_false, false_imp_iff, true_imp_iff]
  have f6 : ∀ fe, ¬ mthL N (gS i) t 15 0 0 = 0 → fe = 100 → K 6 [some (.ref 7), some (.int (nI i)), some (.int (nI t)), some (.int (nI (8 * i + 4 * t))), some (.int (nI (gS i))), some (.int (bI false)), some (.int (bI false)), some (.int (nI 0)), none, none, none] [.int (nI fe)] (hM z N B K' T O shapesN D laid len st many at' thr isK g) 0 0 := by
    rintro fe hne rfl
    refine hK 6 _ _ _ _ _ _ _ _ rfl ?_
    dsimp only [k_M_layOne_6, hN1, hB, hM1, hM, wpI, xop, xcall, xli, xlj, xlf, xld, xla, xlg, xst, xst2, xc1, pI, pJ, pF, pD, pR, pA, p1, p0, xpop, xpush, xsm, xhas, xif, xic, xsw, xai, xal, xhi, xhv, xrf, xret, xrtl, xrtf, xrtd, xrta, xrtv, xfit, xnew, cond_true, cond_false, f40, f41, f42, f43, List.length_cons, List.length_nil, Nat.reduceAdd, Nat.reduceSub, Nat.reduceMul, Nat.reduceBEq, List.map_cons, List.map_nil, List.headD_cons, List.getElem?_cons_zero, List.getElem?_cons_succ, List.set_cons_zero, List.set_cons_succ]
    exact loop 15 0 (false, 0, 100) _ rfl ⟨Nat.zero_le _, hA⟩ hne (by unfold loX; rw [if_neg hne])
  have f4 : ∀ w, mthL N (gS i) t 15 0 0 = 0 → w = (N.getD 8 0 == 1) → K 4 [some (.ref 7), some (.int (nI i)), some (.int (nI t)), some (.int (nI (8 * i + 4 * t))), some (.int (nI (gS i))), some (.int (bI true)), none, none, none, none, none] [.int (bI w)] (hM z N B K' T O shapesN D laid len st many at' thr isK g) 0 0 := by
    intro w e hw
    refine hK 4 _ _ _ _ _ _ _ _ rfl ?_
    dsimp only [k_M_layOne_4, hN1, hB, hM1, hM, wpI, xop, xcall, xli, xlj, xlf, xld, xla, xlg, xst, xst2, xc1, pI, pJ, pF, pD, pR, pA, p1, p0, xpop, xpush, xsm, xhas, xif, xic, xsw, xai, xal, xhi, xhv, xrf, xret, xrtl, xrtf, xrtd, xrta, xrtv, xfit, xnew, cond_true, cond_false, f40, f41, f42, f43, List.length_cons, List.length_nil, Nat.reduceAdd, Nat.reduceSub, Nat.reduceMul, Nat.reduceBEq, List.map_cons, List.map_nil, List.headD_cons, List.getElem?_cons_zero, List.getElem?_cons_succ, List.set_cons_zero, List.set_cons_succ]
    refine ⟨fun y => absurd y (by decide), fun _ => ?_⟩
    refine hK 6 _ _ _ _ _ _ _ _ rfl ?_
    dsimp only [k_M_layOne_6, hN1, hB, hM1, hM, wpI, xop, xcall, xli, xlj, xlf, xld, xla, xlg, xst, xst2, xc1, pI, pJ, pF, pD, pR, pA, p1, p0, xpop, xpush, xsm, xhas, xif, xic, xsw, xai, xal, xhi, xhv, xrf, xret, xrtl, xrtf, xrtd, xrta, xrtv, xfit, xnew, cond_true, cond_false, f40, f41, f42, f43, List.length_cons, List.length_nil, Nat.reduceAdd, Nat.reduceSub, Nat.reduceMul, Nat.reduceBEq, List.map_cons, List.map_nil, List.headD_cons, List.getElem?_cons_zero, List.getElem?_cons_succ, List.set_cons_zero, List.set_cons_succ]
    refine hK 7 _ _ _ _ _ _ _ _ rfl ?_
    dsimp only [k_M_layOne_7, hN1, hB, hM1, hM, wpI, xop, xcall, xli, xlj, xlf, xld, xla, xlg, xst, xst2, xc1, pI, pJ, pF, pD, pR, pA, p1, p0, xpop, xpush, xsm, xhas, xif, xic, xsw, xai, xal, xhi, xhv, xrf, xret, xrtl, xrtf, xrtd, xrta, xrtv, xfit, xnew, cond_true, cond_false, f40, f41, f42, f43, List.length_cons, List.length_nil, Nat.reduceAdd, Nat.reduceSub, Nat.reduceMul, Nat.reduceBEq, List.map_cons, List.map_nil, List.headD_cons, List.getElem?_cons_zero, List.getElem?_cons_succ, List.set_cons_zero, List.set_cons_succ]
    refine br_f (by decide) ?_
    refine ⟨fun _ => ?_, fun y => absurd y (by decide)⟩
    exact f16 (w, 0, 0) true _ _ (by unfold loX; rw [if_pos e, hw]) ⟨fun _ => e, fun _ => rfl⟩
  refine ⟨fun y => ?_, fun y => ?_⟩
  · refine hK 1 _ _ _ _ _ _ _ _ rfl ?_
    dsimp only [k_M_layOne_1, hN1, hB, hM1, hM, wpI, xop, xcall, xli, xlj, xlf, xld, xla, xlg, xst, xst2, xc1, pI, pJ, pF, pD, pR, pA, p1, p0, xpop, xpush, xsm, xhas, xif, xic, xsw, xai, xal, xhi, xhv, xrf, xret, xrtl, xrtf, xrtd, xrta, xrtv, xfit, xnew, cond_true, cond_false, f40, f41, f42, f43, List.length_cons, List.length_nil, Nat.reduceAdd, Nat.reduceSub, Nat.reduceMul, Nat.reduceBEq, List.map_cons, List.map_nil, List.headD_cons, List.getElem?_cons_zero, List.getElem?_cons_succ, List.set_cons_zero, List.set_cons_succ]
    refine hK 2 _ _ _ _ _ _ _ _ rfl ?_
    dsimp only [k_M_layOne_2, hN1, hB, hM1, hM, wpI, xop, xcall, xli, xlj, xlf, xld, xla, xlg, xst, xst2, xc1, pI, pJ, pF, pD, pR, pA, p1, p0, xpop, xpush, xsm, xhas, xif, xic, xsw, xai, xal, xhi, xhv, xrf, xret, xrtl, xrtf, xrtd, xrta, xrtv, xfit, xnew, cond_true, cond_false, f40, f41, f42, f43, List.length_cons, List.length_nil, Nat.reduceAdd, Nat.reduceSub, Nat.reduceMul, Nat.reduceBEq, List.map_cons, List.map_nil, List.headD_cons, List.getElem?_cons_zero, List.getElem?_cons_succ, List.set_cons_zero, List.set_cons_succ]
    refine ⟨fun _ => ?_, fun y => absurd (by decide) y⟩
    refine hK 3 _ _ _ _ _ _ _ _ rfl ?_
    dsimp only [k_M_layOne_3, hN1, hB, hM1, hM, wpI, xop, xcall, xli, xlj, xlf, xld, xla, xlg, xst, xst2, xc1, pI, pJ, pF, pD, pR, pA, p1, p0, xpop, xpush, xsm, xhas, xif, xic, xsw, xai, xal, xhi, xhv, xrf, xret, xrtl, xrtf, xrtd, xrta, xrtv, xfit, xnew, cond_true, cond_false, f40, f41, f42, f43, List.length_cons, List.length_nil, Nat.reduceAdd, Nat.reduceSub, Nat.reduceMul, Nat.reduceBEq, List.map_cons, List.map_nil, List.headD_cons, List.getElem?_cons_zero, List.getElem?_cons_succ, List.set_cons_zero, List.set_cons_succ]
    refine hK 4 _ _ _ _ _ _ _ _ rfl ?_
    dsimp only [k_M_layOne_4, hN1, hB, hM1, hM, wpI, xop, xcall, xli, xlj, xlf, xld, xla, xlg, xst, xst2, xc1, pI, pJ, pF, pD, pR, pA, p1, p0, xpop, xpush, xsm, xhas, xif, xic, xsw, xai, xal, xhi, xhv, xrf, xret, xrtl, xrtf, xrtd, xrta, xrtv, xfit, xnew, cond_true, cond_false, f40, f41, f42, f43, List.length_cons, List.length_nil, Nat.reduceAdd, Nat.reduceSub, Nat.reduceMul, Nat.reduceBEq, List.map_cons, List.map_nil, List.headD_cons, List.getElem?_cons_zero, List.getElem?_cons_succ, List.set_cons_zero, List.set_cons_succ]
    refine ⟨fun _ => ?_, fun y => absurd (by decide) y⟩
    refine hK 5 _ _ _ _ _ _ _ _ rfl ?_
    dsimp only [k_M_layOne_5, hN1, hB, hM1, hM, wpI, xop, xcall, xli, xlj, xlf, xld, xla, xlg, xst, xst2, xc1, pI, pJ, pF, pD, pR, pA, p1, p0, xpop, xpush, xsm, xhas, xif, xic, xsw, xai, xal, xhi, xhv, xrf, xret, xrtl, xrtf, xrtd, xrta, xrtv, xfit, xnew, cond_true, cond_false, f40, f41, f42, f43, List.length_cons, List.length_nil, Nat.reduceAdd, Nat.reduceSub, Nat.reduceMul, Nat.reduceBEq, List.map_cons, List.map_nil, List.headD_cons, List.getElem?_cons_zero, List.getElem?_cons_succ, List.set_cons_zero, List.set_cons_succ]
    exact f6 100 y rfl
  · refine hK 2 _ _ _ _ _ _ _ _ rfl ?_
    dsimp only [k_M_layOne_2, hN1, hB, hM1, hM, wpI, xop, xcall, xli, xlj, xlf, xld, xla, xlg, xst, xst2, xc1, pI, pJ, pF, pD, pR, pA, p1, p0, xpop, xpush, xsm, xhas, xif, xic, xsw, xai, xal, xhi, xhv, xrf, xret, xrtl, xrtf, xrtd, xrta, xrtv, xfit, xnew, cond_true, cond_false, f40, f41, f42, f43, List.length_cons, List.length_nil, Nat.reduceAdd, Nat.reduceSub, Nat.reduceMul, Nat.reduceBEq, List.map_cons, List.map_nil, List.headD_cons, List.getElem?_cons_zero, List.getElem?_cons_succ, List.set_cons_zero, List.set_cons_succ]
    refine ⟨fun y => absurd y (by decide), fun _ => ?_⟩
    try simp (disch := first | omega | (simp only [List.length_set]; omega)) only [nI_add, n_and, n_or, n_xor, n_i31, nI_leI, nI_ltI, n_e0, n_eq, n_m1e, n_l0, n_g0, n_p0, n_q0, n_cl, n_in, n_sub, n_shr, n_shl, n_div, bI_0, n_01, n_11, bI_or, not_false_eq_true, forall_const, not_true_eq_false, false_imp_iff, true_imp_iff, List.length_map, List.length_set, hN, nL_u, gs_eq, gs_ne, nI_set, Nat.reduceLT, true_and, and_true, pk_mul]
    refine ⟨fun y2 => ?_, fun y2 => ?_⟩
    · refine hK 3 _ _ _ _ _ _ _ _ rfl ?_
      dsimp only [k_M_layOne_3, hN1, hB, hM1, hM, wpI, xop, xcall, xli, xlj, xlf, xld, xla, xlg, xst, xst2, xc1, pI, pJ, pF, pD, pR, pA, p1, p0, xpop, xpush, xsm, xhas, xif, xic, xsw, xai, xal, xhi, xhv, xrf, xret, xrtl, xrtf, xrtd, xrta, xrtv, xfit, xnew, cond_true, cond_false, f40, f41, f42, f43, List.length_cons, List.length_nil, Nat.reduceAdd, Nat.reduceSub, Nat.reduceMul, Nat.reduceBEq, List.map_cons, List.map_nil, List.headD_cons, List.getElem?_cons_zero, List.getElem?_cons_succ, List.set_cons_zero, List.set_cons_succ]
      exact f4 false y (beq_eq_false_iff_ne.mpr y2).symm
    · exact f4 true y (beq_iff_eq.mpr y2).symm
